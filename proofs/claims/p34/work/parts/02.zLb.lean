theorem dL_works_25 : decode cL_works 25 = .ok (.iload_n 0, 1) := by decide +kernel
theorem dL_works_26 : decode cL_works 26 = .ok (.imul, 1) := by decide +kernel
theorem dL_works_27 : decode cL_works 27 = .ok (.iaload, 1) := by decide +kernel
theorem dL_works_28 : decode cL_works 28 = .ok (.aload_n 1, 1) := by decide +kernel
theorem dL_works_29 : decode cL_works 29 = .ok (.aload_n 2, 1) := by decide +kernel
theorem dL_works_30 : decode cL_works 30 = .ok (.invokestatic 23, 3) := by decide +kernel
theorem dL_works_33 : decode cL_works 33 = .ok (.ifCond .eq 7, 3) := by decide +kernel
theorem dL_works_36 : decode cL_works 36 = .ok (.iconst 1, 1) := by decide +kernel
theorem dL_works_37 : decode cL_works 37 = .ok (.goto 4, 3) := by decide +kernel
theorem dL_works_40 : decode cL_works 40 = .ok (.iconst 0, 1) := by decide +kernel
theorem dL_works_41 : decode cL_works 41 = .ok (.ireturn, 1) := by decide +kernel
set_option maxRecDepth 20000 in
theorem ggL_living_L_lives : GoodIn wsL_living wsL_lives := goodIn_r _ [4] (by decide +kernel) (by decide +kernel)
set_option maxRecDepth 20000 in
theorem gL_living_L_lives : GoodIn wsL_living (va_wsS RL 23 yL_lives wsL_lives) := goodIn_app (goodIn_of _ (by decide +kernel)) ggL_living_L_lives
theorem dL_living_0 : decode cL_living 0 = .ok (.iconst 0, 1) := by decide +kernel
theorem dL_living_1 : decode cL_living 1 = .ok (.istore_n 2, 1) := by decide +kernel
theorem dL_living_2 : decode cL_living 2 = .ok (.iconst 0, 1) := by decide +kernel
theorem dL_living_3 : decode cL_living 3 = .ok (.istore_n 3, 1) := by decide +kernel
theorem dL_living_4 : decode cL_living 4 = .ok (.iload_n 3, 1) := by decide +kernel
theorem dL_living_5 : decode cL_living 5 = .ok (.aload_n 0, 1) := by decide +kernel
theorem dL_living_6 : decode cL_living 6 = .ok (.iconst 3, 1) := by decide +kernel
theorem dL_living_7 : decode cL_living 7 = .ok (.iaload, 1) := by decide +kernel
theorem dL_living_8 : decode cL_living 8 = .ok (.if_icmp .ge 26, 3) := by decide +kernel
theorem dL_living_11 : decode cL_living 11 = .ok (.iload_n 2, 1) := by decide +kernel
theorem dL_living_12 : decode cL_living 12 = .ok (.iload_n 3, 1) := by decide +kernel
theorem dL_living_13 : decode cL_living 13 = .ok (.aload_n 0, 1) := by decide +kernel
theorem dL_living_14 : decode cL_living 14 = .ok (.aload_n 1, 1) := by decide +kernel
theorem dL_living_15 : decode cL_living 15 = .ok (.invokestatic 23, 3) := by decide +kernel
theorem dL_living_18 : decode cL_living 18 = .ok (.ifCond .eq 7, 3) := by decide +kernel
theorem dL_living_21 : decode cL_living 21 = .ok (.iconst 1, 1) := by decide +kernel
theorem dL_living_22 : decode cL_living 22 = .ok (.goto 4, 3) := by decide +kernel
theorem dL_living_25 : decode cL_living 25 = .ok (.iconst 0, 1) := by decide +kernel
theorem dL_living_26 : decode cL_living 26 = .ok (.iadd, 1) := by decide +kernel
theorem dL_living_27 : decode cL_living 27 = .ok (.istore_n 2, 1) := by decide +kernel
theorem dL_living_28 : decode cL_living 28 = .ok (.iinc 3 1, 3) := by decide +kernel
theorem dL_living_31 : decode cL_living 31 = .ok (.goto (-27), 3) := by decide +kernel
theorem dL_living_34 : decode cL_living 34 = .ok (.iload_n 2, 1) := by decide +kernel
theorem dL_living_35 : decode cL_living 35 = .ok (.ireturn, 1) := by decide +kernel
set_option maxRecDepth 20000 in
theorem ggL_working_L_works : GoodIn wsL_working wsL_works := goodIn_r _ [4, 5, 6, 3, 7] (by decide +kernel) (by decide +kernel)
set_option maxRecDepth 20000 in
theorem gL_working_L_works : GoodIn wsL_working (va_wsS RL 27 yL_works wsL_works) := goodIn_app (goodIn_of _ (by decide +kernel)) ggL_working_L_works
theorem dL_working_0 : decode cL_working 0 = .ok (.iconst 0, 1) := by decide +kernel
theorem dL_working_1 : decode cL_working 1 = .ok (.istore_n 3, 1) := by decide +kernel
theorem dL_working_2 : decode cL_working 2 = .ok (.iconst 0, 1) := by decide +kernel
theorem dL_working_3 : decode cL_working 3 = .ok (.istore 4, 2) := by decide +kernel
theorem dL_working_5 : decode cL_working 5 = .ok (.iload 4, 2) := by decide +kernel
theorem dL_working_7 : decode cL_working 7 = .ok (.aload_n 0, 1) := by decide +kernel
theorem dL_working_8 : decode cL_working 8 = .ok (.iconst 4, 1) := by decide +kernel
theorem dL_working_9 : decode cL_working 9 = .ok (.iaload, 1) := by decide +kernel
theorem dL_working_10 : decode cL_working 10 = .ok (.if_icmp .ge 28, 3) := by decide +kernel
theorem dL_working_13 : decode cL_working 13 = .ok (.iload_n 3, 1) := by decide +kernel
theorem dL_working_14 : decode cL_working 14 = .ok (.iload 4, 2) := by decide +kernel
theorem dL_working_16 : decode cL_working 16 = .ok (.aload_n 0, 1) := by decide +kernel
theorem dL_working_17 : decode cL_working 17 = .ok (.aload_n 1, 1) := by decide +kernel
theorem dL_working_18 : decode cL_working 18 = .ok (.aload_n 2, 1) := by decide +kernel
theorem dL_working_19 : decode cL_working 19 = .ok (.invokestatic 27, 3) := by decide +kernel
theorem dL_working_22 : decode cL_working 22 = .ok (.ifCond .eq 7, 3) := by decide +kernel
theorem dL_working_25 : decode cL_working 25 = .ok (.iconst 1, 1) := by decide +kernel
theorem dL_working_26 : decode cL_working 26 = .ok (.goto 4, 3) := by decide +kernel
theorem dL_working_29 : decode cL_working 29 = .ok (.iconst 0, 1) := by decide +kernel
theorem dL_working_30 : decode cL_working 30 = .ok (.iadd, 1) := by decide +kernel
theorem dL_working_31 : decode cL_working 31 = .ok (.istore_n 3, 1) := by decide +kernel
theorem dL_working_32 : decode cL_working 32 = .ok (.iinc 4 1, 3) := by decide +kernel
theorem dL_working_35 : decode cL_working 35 = .ok (.goto (-30), 3) := by decide +kernel
theorem dL_working_38 : decode cL_working 38 = .ok (.iload_n 3, 1) := by decide +kernel
theorem dL_working_39 : decode cL_working 39 = .ok (.ireturn, 1) := by decide +kernel
set_option maxRecDepth 20000 in
theorem ggL_mountFor_L_isBelow : GoodIn wsL_mountFor wsL_isBelow := goodIn_r _ [4, 5, 6, 3, 7, 8, 9, 10] (by decide +kernel) (by decide +kernel)
set_option maxRecDepth 20000 in
theorem gL_mountFor_L_isBelow : GoodIn wsL_mountFor (va_wsS RL 31 yL_isBelow wsL_isBelow) := goodIn_app (goodIn_of _ (by decide +kernel)) ggL_mountFor_L_isBelow
theorem dL_mountFor_0 : decode cL_mountFor 0 = .ok (.iconst (-1), 1) := by decide +kernel
theorem dL_mountFor_1 : decode cL_mountFor 1 = .ok (.istore_n 3, 1) := by decide +kernel
theorem dL_mountFor_2 : decode cL_mountFor 2 = .ok (.iconst 0, 1) := by decide +kernel
theorem dL_mountFor_3 : decode cL_mountFor 3 = .ok (.istore 4, 2) := by decide +kernel
theorem dL_mountFor_5 : decode cL_mountFor 5 = .ok (.iload 4, 2) := by decide +kernel
theorem dL_mountFor_7 : decode cL_mountFor 7 = .ok (.aload_n 1, 1) := by decide +kernel
theorem dL_mountFor_8 : decode cL_mountFor 8 = .ok (.iconst 2, 1) := by decide +kernel
theorem dL_mountFor_9 : decode cL_mountFor 9 = .ok (.iaload, 1) := by decide +kernel
theorem dL_mountFor_10 : decode cL_mountFor 10 = .ok (.if_icmp .ge 43, 3) := by decide +kernel
theorem dL_mountFor_13 : decode cL_mountFor 13 = .ok (.iload_n 0, 1) := by decide +kernel
theorem dL_mountFor_14 : decode cL_mountFor 14 = .ok (.aload_n 2, 1) := by decide +kernel
theorem dL_mountFor_15 : decode cL_mountFor 15 = .ok (.iconst 3, 1) := by decide +kernel
theorem dL_mountFor_16 : decode cL_mountFor 16 = .ok (.iload 4, 2) := by decide +kernel
theorem dL_mountFor_18 : decode cL_mountFor 18 = .ok (.imul, 1) := by decide +kernel
theorem dL_mountFor_19 : decode cL_mountFor 19 = .ok (.iaload, 1) := by decide +kernel
theorem dL_mountFor_20 : decode cL_mountFor 20 = .ok (.invokestatic 31, 3) := by decide +kernel
theorem dL_mountFor_23 : decode cL_mountFor 23 = .ok (.ifCond .eq 24, 3) := by decide +kernel
theorem dL_mountFor_26 : decode cL_mountFor 26 = .ok (.iload_n 3, 1) := by decide +kernel
theorem dL_mountFor_27 : decode cL_mountFor 27 = .ok (.ifCond .lt 17, 3) := by decide +kernel
theorem dL_mountFor_30 : decode cL_mountFor 30 = .ok (.aload_n 2, 1) := by decide +kernel
theorem dL_mountFor_31 : decode cL_mountFor 31 = .ok (.iconst 3, 1) := by decide +kernel
theorem dL_mountFor_32 : decode cL_mountFor 32 = .ok (.iload 4, 2) := by decide +kernel
theorem dL_mountFor_34 : decode cL_mountFor 34 = .ok (.imul, 1) := by decide +kernel
theorem dL_mountFor_35 : decode cL_mountFor 35 = .ok (.iaload, 1) := by decide +kernel
theorem dL_mountFor_36 : decode cL_mountFor 36 = .ok (.aload_n 2, 1) := by decide +kernel
theorem dL_mountFor_37 : decode cL_mountFor 37 = .ok (.iconst 3, 1) := by decide +kernel
theorem dL_mountFor_38 : decode cL_mountFor 38 = .ok (.iload_n 3, 1) := by decide +kernel
theorem dL_mountFor_39 : decode cL_mountFor 39 = .ok (.imul, 1) := by decide +kernel
theorem dL_mountFor_40 : decode cL_mountFor 40 = .ok (.iaload, 1) := by decide +kernel
theorem dL_mountFor_41 : decode cL_mountFor 41 = .ok (.if_icmp .le 6, 3) := by decide +kernel
theorem dL_mountFor_44 : decode cL_mountFor 44 = .ok (.iload 4, 2) := by decide +kernel
theorem dL_mountFor_46 : decode cL_mountFor 46 = .ok (.istore_n 3, 1) := by decide +kernel
theorem dL_mountFor_47 : decode cL_mountFor 47 = .ok (.iinc 4 1, 3) := by decide +kernel
theorem dL_mountFor_50 : decode cL_mountFor 50 = .ok (.goto (-45), 3) := by decide +kernel
theorem dL_mountFor_53 : decode cL_mountFor 53 = .ok (.iload_n 3, 1) := by decide +kernel
theorem dL_mountFor_54 : decode cL_mountFor 54 = .ok (.ireturn, 1) := by decide +kernel
set_option maxRecDepth 20000 in
theorem ggL_why_L_lives : GoodIn wsL_why wsL_lives := goodIn_r _ [4] (by decide +kernel) (by decide +kernel)
set_option maxRecDepth 20000 in
theorem gL_why_L_lives : GoodIn wsL_why (va_wsS RL 23 yL_lives wsL_lives) := goodIn_app (goodIn_of _ (by decide +kernel)) ggL_why_L_lives
set_option maxRecDepth 20000 in
theorem ggL_why_L_mountFor : GoodIn wsL_why wsL_mountFor := goodIn_r _ [7, 8, 9, 3, 10, 11, 12, 13, 14, 15, 16] (by decide +kernel) (by decide +kernel)
set_option maxRecDepth 20000 in
theorem gL_why_L_mountFor : GoodIn wsL_why (va_wsS RL 35 yL_mountFor wsL_mountFor) := goodIn_app (goodIn_of _ (by decide +kernel)) ggL_why_L_mountFor
set_option maxRecDepth 20000 in
theorem ggL_why_L_can : GoodIn wsL_why wsL_can := goodIn_r _ [19, 20, 21, 3, 22, 11, 12, 13, 14, 15, 16] (by decide +kernel) (by decide +kernel)
set_option maxRecDepth 20000 in
theorem gL_why_L_can : GoodIn wsL_why (va_wsS RL 39 yL_can wsL_can) := goodIn_app (goodIn_of _ (by decide +kernel)) ggL_why_L_can
theorem dL_why_0 : decode cL_why 0 = .ok (.iload_n 0, 1) := by decide +kernel
theorem dL_why_1 : decode cL_why 1 = .ok (.aload_n 2, 1) := by decide +kernel
theorem dL_why_2 : decode cL_why 2 = .ok (.aload_n 3, 1) := by decide +kernel
theorem dL_why_3 : decode cL_why 3 = .ok (.invokestatic 23, 3) := by decide +kernel
theorem dL_why_6 : decode cL_why 6 = .ok (.ifCond .ne 7, 3) := by decide +kernel
theorem dL_why_9 : decode cL_why 9 = .ok (.iconst 1, 1) := by decide +kernel
theorem dL_why_10 : decode cL_why 10 = .ok (.goto 53, 3) := by decide +kernel
theorem dL_why_13 : decode cL_why 13 = .ok (.aload_n 3, 1) := by decide +kernel
theorem dL_why_14 : decode cL_why 14 = .ok (.iconst 5, 1) := by decide +kernel
theorem dL_why_15 : decode cL_why 15 = .ok (.iload_n 0, 1) := by decide +kernel
theorem dL_why_16 : decode cL_why 16 = .ok (.imul, 1) := by decide +kernel
theorem dL_why_17 : decode cL_why 17 = .ok (.iconst 4, 1) := by decide +kernel
theorem dL_why_18 : decode cL_why 18 = .ok (.iadd, 1) := by decide +kernel
theorem dL_why_19 : decode cL_why 19 = .ok (.iaload, 1) := by decide +kernel
theorem dL_why_20 : decode cL_why 20 = .ok (.ifCond .ne 7, 3) := by decide +kernel
theorem dL_why_23 : decode cL_why 23 = .ok (.iconst 2, 1) := by decide +kernel
theorem dL_why_24 : decode cL_why 24 = .ok (.goto 39, 3) := by decide +kernel
theorem dL_why_27 : decode cL_why 27 = .ok (.iload_n 1, 1) := by decide +kernel
theorem dL_why_28 : decode cL_why 28 = .ok (.aload_n 2, 1) := by decide +kernel
theorem dL_why_29 : decode cL_why 29 = .ok (.aload 4, 2) := by decide +kernel
theorem dL_why_31 : decode cL_why 31 = .ok (.invokestatic 35, 3) := by decide +kernel
theorem dL_why_34 : decode cL_why 34 = .ok (.ifCond .ge 7, 3) := by decide +kernel
theorem dL_why_37 : decode cL_why 37 = .ok (.iconst 3, 1) := by decide +kernel
theorem dL_why_38 : decode cL_why 38 = .ok (.goto 25, 3) := by decide +kernel
theorem dL_why_41 : decode cL_why 41 = .ok (.iload_n 0, 1) := by decide +kernel
theorem dL_why_42 : decode cL_why 42 = .ok (.iload_n 1, 1) := by decide +kernel
theorem dL_why_43 : decode cL_why 43 = .ok (.aload_n 3, 1) := by decide +kernel
theorem dL_why_44 : decode cL_why 44 = .ok (.aload 5, 2) := by decide +kernel
theorem dL_why_46 : decode cL_why 46 = .ok (.aload 6, 2) := by decide +kernel
theorem dL_why_48 : decode cL_why 48 = .ok (.aload 7, 2) := by decide +kernel
theorem dL_why_50 : decode cL_why 50 = .ok (.invokestatic 39, 3) := by decide +kernel
theorem dL_why_53 : decode cL_why 53 = .ok (.iconst 2, 1) := by decide +kernel
theorem dL_why_54 : decode cL_why 54 = .ok (.irem, 1) := by decide +kernel
theorem dL_why_55 : decode cL_why 55 = .ok (.ifCond .ne 7, 3) := by decide +kernel
theorem dL_why_58 : decode cL_why 58 = .ok (.iconst 4, 1) := by decide +kernel
theorem dL_why_59 : decode cL_why 59 = .ok (.goto 4, 3) := by decide +kernel
theorem dL_why_62 : decode cL_why 62 = .ok (.iconst 0, 1) := by decide +kernel
theorem dL_why_63 : decode cL_why 63 = .ok (.ireturn, 1) := by decide +kernel
set_option maxRecDepth 20000 in
theorem ggL_refused_X7_create : GoodIn wsL_refused wsX7_create := goodIn_ca (goodIn_ca (goodIn_ca (goodIn_r _ [8, 9, 10, 11, 12, 13, 14, 15, 16, 17, 18, 7, 19, 20, 21, 22, 23, 24, 25, 26, 27, 28, 29, 30, 31, 32, 33, 34, 35, 36, 37, 38, 39, 40, 41, 42, 43, 44, 45, 46, 47, 48, 49, 50, 51, 52, 53, 54, 55, 56, 57, 58, 59, 60, 61, 62, 63, 64, 65, 66, 67, 68, 69, 70, 71, 72, 73, 74, 75, 76, 77, 78, 79, 80, 81, 82, 83, 84, 85, 86, 87, 88, 89, 90, 91, 92, 93, 94, 95, 96, 97, 98, 99, 100, 101, 102, 103, 104, 105, 106, 107, 350, 351, 352, 353, 354, 355, 356, 357, 358, 359, 360, 361, 362, 363, 364, 365, 366, 367, 368, 369, 370, 371, 372, 373, 374, 375, 376, 377, 378, 379, 380, 381, 382] (by decide +kernel) (by decide +kernel)) (goodIn_sub (fun _ h => List.mem_cons_of_mem _ (List.mem_append_left _ (List.mem_append_left _ (List.mem_append_right _ h)))) (by decide +kernel))) (goodIn_sub (fun _ h => List.mem_cons_of_mem _ (List.mem_append_left _ (List.mem_append_right _ h))) (by decide +kernel))) (goodIn_sub (fun _ h => List.mem_cons_of_mem _ (List.mem_append_right _ h)) (by decide +kernel))
set_option maxRecDepth 20000 in
theorem gL_refused_X7_create : GoodIn wsL_refused (wsV RL 43 RX7 yX7_create wsX7_create) := goodIn_app (goodIn_of _ (by decide +kernel)) ggL_refused_X7_create
set_option maxRecDepth 20000 in
theorem ggL_refused_X7_renew : GoodIn wsL_refused wsX7_renew := goodIn_ca (goodIn_ca (goodIn_ca (goodIn_r _ [111, 13, 14, 15, 16, 17, 18, 7, 19, 20, 21, 22, 23, 24, 25, 26, 27, 28, 50, 51, 52, 9, 10, 112, 113, 114, 115, 11, 12, 53, 54, 55, 56, 57, 58, 59, 60, 61, 62, 63, 64, 65, 66, 116, 117, 118, 119, 120, 83, 85, 84, 121, 122, 123, 124, 125, 126, 127, 128, 129, 130, 131, 132, 92, 93, 94, 95, 96, 97, 98, 99, 100, 101, 102, 103, 104, 105, 106, 107, 350, 351, 352, 353, 354, 355, 356, 357, 358, 359, 360, 361, 362, 363, 364, 365, 366, 367, 368, 369, 370, 371, 372, 378, 379, 380, 381, 382] (by decide +kernel) (by decide +kernel)) (goodIn_sub (fun _ h => List.mem_cons_of_mem _ (List.mem_append_right _ h)) (by decide +kernel))) (goodIn_sub (fun _ h => List.mem_cons_of_mem _ (List.mem_append_left _ (List.mem_append_left _ (List.mem_append_right _ h)))) (by decide +kernel))) (goodIn_sub (fun _ h => List.mem_cons_of_mem _ (List.mem_append_left _ (List.mem_append_right _ h))) (by decide +kernel))
set_option maxRecDepth 20000 in
theorem gL_refused_X7_renew : GoodIn wsL_refused (wsV RL 49 RX7 yX7_renew wsX7_renew) := goodIn_app (goodIn_of _ (by decide +kernel)) ggL_refused_X7_renew
set_option maxRecDepth 20000 in
theorem ggL_refused_X7_revoke : GoodIn wsL_refused wsX7_revoke := goodIn_ca (goodIn_ca (goodIn_r _ [136, 16, 17, 18, 7, 19, 20, 21, 13, 22, 23, 24, 25, 26, 27, 28, 112, 113, 114, 115, 11, 12, 53, 54, 55, 56, 57, 58, 59, 60, 61, 62, 63, 64, 65, 66, 137, 138, 139, 140, 15, 14, 141, 142, 143, 144, 145, 72, 146, 147, 148, 149, 150, 151, 152, 153, 154, 155, 156, 157, 43, 158, 90, 159, 160, 161, 162, 163, 164, 165, 166, 167, 168, 169, 170, 171, 172, 173, 174, 175, 176, 177, 178, 92, 93, 94, 95, 96, 97, 98, 99, 100, 101, 102, 103, 104, 105, 106, 107, 350, 351, 352, 353, 354, 355, 356, 357, 358, 359, 360, 361, 362, 363, 364, 365, 366, 367, 368, 369, 370, 371, 372, 378, 379, 380, 381, 382] (by decide +kernel) (by decide +kernel)) (goodIn_sub (fun _ h => List.mem_cons_of_mem _ (List.mem_append_right _ h)) (by decide +kernel))) (goodIn_sub (fun _ h => List.mem_cons_of_mem _ (List.mem_append_left _ (List.mem_append_right _ h))) (by decide +kernel))
set_option maxRecDepth 20000 in
theorem gL_refused_X7_revoke : GoodIn wsL_refused (wsV RL 53 RX7 yX7_revoke wsX7_revoke) := goodIn_app (goodIn_of _ (by decide +kernel)) ggL_refused_X7_revoke
set_option maxRecDepth 20000 in
theorem ggL_refused_X7_revokeAlone : GoodIn wsL_refused wsX7_revokeAlone := goodIn_ca (goodIn_ca (goodIn_r _ [182, 13, 16, 17, 18, 7, 19, 20, 21, 22, 23, 24, 25, 26, 27, 28, 112, 113, 114, 115, 11, 12, 53, 54, 55, 56, 57, 58, 59, 60, 61, 62, 63, 64, 65, 66, 183, 184, 185, 43, 186, 90, 159, 160, 161, 162, 163, 164, 137, 138, 139, 140, 15, 14, 141, 142, 143, 144, 145, 72, 146, 147, 148, 149, 150, 151, 152, 153, 154, 155, 156, 157, 158, 165, 166, 167, 168, 169, 170, 171, 172, 173, 174, 175, 176, 177, 178, 92, 93, 94, 95, 96, 97, 98, 99, 100, 101, 102, 103, 104, 105, 106, 107, 350, 351, 352, 353, 354, 355, 356, 357, 358, 359, 360, 361, 362, 363, 364, 365, 366, 367, 368, 369, 370, 371, 372, 378, 379, 380, 381, 382] (by decide +kernel) (by decide +kernel)) (goodIn_sub (fun _ h => List.mem_cons_of_mem _ (List.mem_append_right _ h)) (by decide +kernel))) (goodIn_sub (fun _ h => List.mem_cons_of_mem _ (List.mem_append_left _ (List.mem_append_right _ h))) (by decide +kernel))
set_option maxRecDepth 20000 in
theorem gL_refused_X7_revokeAlone : GoodIn wsL_refused (wsV RL 56 RX7 yX7_revokeAlone wsX7_revokeAlone) := goodIn_app (goodIn_of _ (by decide +kernel)) ggL_refused_X7_revokeAlone
set_option maxRecDepth 20000 in
theorem ggL_refused_X7_renewCredential : GoodIn wsL_refused wsX7_renewCredential := goodIn_ca (goodIn_ca (goodIn_ca (goodIn_r _ [190, 11, 12, 154, 14, 15, 191, 192, 193, 7, 194, 20, 21, 195, 196, 197, 25, 26, 27, 28, 50, 51, 52, 9, 10, 198, 199, 200, 60, 61, 62, 63, 64, 65, 66, 201, 202, 203, 119, 120, 83, 85, 84, 121, 122, 123, 124, 125, 126, 127, 204, 205, 206, 131, 132, 207, 208, 209, 169, 210, 171, 211, 92, 93, 94, 95, 96, 97, 98, 99, 100, 101, 102, 103, 104, 105, 106, 107, 350, 351, 352, 353, 354, 355, 356, 357, 358, 359, 360, 361, 362, 363, 364, 365, 366, 367, 368, 369, 370, 371, 372, 378, 379, 380, 381, 382] (by decide +kernel) (by decide +kernel)) (goodIn_sub (fun _ h => List.mem_cons_of_mem _ (List.mem_append_left _ (List.mem_append_right _ h))) (by decide +kernel))) (goodIn_sub (fun _ h => List.mem_cons_of_mem _ (List.mem_append_right _ h)) (by decide +kernel))) (goodIn_sub (fun _ h => List.mem_cons_of_mem _ (List.mem_append_left _ (List.mem_append_left _ (List.mem_append_right _ h)))) (by decide +kernel))
set_option maxRecDepth 20000 in
theorem gL_refused_X7_renewCredential : GoodIn wsL_refused (wsV RL 59 RX7 yX7_renewCredential wsX7_renewCredential) := goodIn_app (goodIn_of _ (by decide +kernel)) ggL_refused_X7_renewCredential
set_option maxRecDepth 20000 in
theorem ggL_refused_X7_credentialsOf : GoodIn wsL_refused wsX7_credentialsOf := goodIn_ca (goodIn_r _ [215, 154, 16, 17, 18, 7, 19, 20, 21, 13, 22, 23, 24, 25, 26, 27, 28, 216, 217, 218, 169, 219, 171, 172, 173, 174, 162, 163, 220, 199, 200, 60, 61, 62, 63, 64, 65, 66, 350, 351, 352, 353, 354, 355, 356, 357, 358, 359, 360, 361, 362, 363, 364, 365, 366, 367, 368, 369, 370, 371, 372] (by decide +kernel) (by decide +kernel)) (goodIn_sub (fun _ h => List.mem_cons_of_mem _ (List.mem_append_right _ h)) (by decide +kernel))
set_option maxRecDepth 20000 in
theorem gL_refused_X7_credentialsOf : GoodIn wsL_refused (wsV RL 62 RX7 yX7_credentialsOf wsX7_credentialsOf) := goodIn_app (goodIn_of _ (by decide +kernel)) ggL_refused_X7_credentialsOf
set_option maxRecDepth 20000 in
theorem ggL_refused_X7_endOfCredential : GoodIn wsL_refused wsX7_endOfCredential := goodIn_ca (goodIn_r _ [224, 154, 191, 192, 193, 7, 194, 20, 21, 195, 196, 197, 25, 26, 27, 28, 204, 205, 206, 131, 132, 84, 63, 64, 65, 66, 350, 351, 352, 353, 354, 355, 356, 357, 358, 359, 360, 361, 362, 363, 364, 365, 366, 367, 368, 369, 370, 371, 372] (by decide +kernel) (by decide +kernel)) (goodIn_sub (fun _ h => List.mem_cons_of_mem _ (List.mem_append_right _ h)) (by decide +kernel))
set_option maxRecDepth 20000 in
theorem gL_refused_X7_endOfCredential : GoodIn wsL_refused (wsV RL 65 RX7 yX7_endOfCredential wsX7_endOfCredential) := goodIn_app (goodIn_of _ (by decide +kernel)) ggL_refused_X7_endOfCredential
set_option maxRecDepth 20000 in
theorem ggL_refused_X7_request : GoodIn wsL_refused wsX7_request := goodIn_ca (goodIn_ca (goodIn_ca (goodIn_r _ [228, 11, 12, 154, 13, 15, 14, 16, 17, 18, 7, 19, 20, 21, 22, 23, 24, 25, 26, 27, 28, 229, 230, 231, 9, 10, 232, 233, 234, 235, 236, 237, 238, 239, 240, 241, 242, 243, 244, 57, 58, 59, 60, 61, 62, 63, 64, 65, 66, 245, 246, 247, 43, 248, 91, 46, 249, 250, 251, 252, 253, 254, 255, 256, 257, 258, 259, 260, 261, 262, 263, 264, 265, 266, 267, 268, 33, 40, 41, 42, 44, 45, 269, 270, 271, 37, 272, 39, 273, 274, 275, 276, 277, 278, 279, 280, 281, 282, 283, 284, 285, 286, 287, 288, 289, 290, 291, 292, 293, 294, 295, 296, 297, 298, 299, 70, 71, 72, 300, 301, 302, 76, 77, 303, 304, 305, 306, 164, 92, 93, 94, 95, 96, 97, 98, 99, 100, 101, 102, 103, 104, 105, 106, 107, 307, 308, 309, 310, 311, 312, 313, 314, 315, 316, 317, 318, 319, 320, 321, 322, 323, 324, 325, 326, 327, 81, 82, 83, 84, 85, 328, 329, 330, 169, 331, 171, 332, 211, 196, 197, 350, 351, 352, 353, 354, 355, 356, 357, 358, 359, 360, 361, 362, 363, 364, 365, 366, 367, 368, 369, 370, 371, 372, 383, 384, 385, 386, 373, 374, 375, 376, 377, 378, 379, 380, 381, 382] (by decide +kernel) (by decide +kernel)) (goodIn_sub (fun _ h => List.mem_cons_of_mem _ (List.mem_append_left _ (List.mem_append_right _ h))) (by decide +kernel))) (goodIn_sub (fun _ h => List.mem_cons_of_mem _ (List.mem_append_right _ h)) (by decide +kernel))) (goodIn_sub (fun _ h => List.mem_cons_of_mem _ (List.mem_append_left _ (List.mem_append_left _ (List.mem_append_right _ h)))) (by decide +kernel))
set_option maxRecDepth 20000 in
theorem gL_refused_X7_request : GoodIn wsL_refused (wsV RL 68 RX7 yX7_request wsX7_request) := goodIn_app (goodIn_of _ (by decide +kernel)) ggL_refused_X7_request
set_option maxRecDepth 20000 in
theorem ggL_refused_X7_kindOf : GoodIn wsL_refused wsX7_kindOf := goodIn_ca (goodIn_r _ [336, 15, 337, 338, 339, 7, 340, 20, 21, 341, 342, 343, 95, 344, 97, 345, 346, 347, 348, 100, 349, 350, 351, 352, 353, 354, 355, 378, 379, 380, 381, 382] (by decide +kernel) (by decide +kernel)) (goodIn_sub (fun _ h => List.mem_cons_of_mem _ (List.mem_append_right _ h)) (by decide +kernel))
set_option maxRecDepth 20000 in
theorem gL_refused_X7_kindOf : GoodIn wsL_refused (wsV RL 71 RX7 yX7_kindOf wsX7_kindOf) := goodIn_app (goodIn_of _ (by decide +kernel)) ggL_refused_X7_kindOf
theorem dL_refused_0 : decode cL_refused 0 = .ok (.iload_n 1, 1) := by decide +kernel
theorem dL_refused_1 : decode cL_refused 1 = .ok (.ifCond .ne 17, 3) := by decide +kernel
theorem dL_refused_4 : decode cL_refused 4 = .ok (.aload_n 0, 1) := by decide +kernel
theorem dL_refused_5 : decode cL_refused 5 = .ok (.iload_n 2, 1) := by decide +kernel
theorem dL_refused_6 : decode cL_refused 6 = .ok (.iload_n 3, 1) := by decide +kernel
theorem dL_refused_7 : decode cL_refused 7 = .ok (.iload 4, 2) := by decide +kernel
theorem dL_refused_9 : decode cL_refused 9 = .ok (.iload 4, 2) := by decide +kernel
theorem dL_refused_11 : decode cL_refused 11 = .ok (.iconst 0, 1) := by decide +kernel
theorem dL_refused_12 : decode cL_refused 12 = .ok (.invokevirtual 43, 3) := by decide +kernel
theorem dL_refused_15 : decode cL_refused 15 = .ok (.goto 104, 3) := by decide +kernel
theorem dL_refused_18 : decode cL_refused 18 = .ok (.iload_n 1, 1) := by decide +kernel
theorem dL_refused_19 : decode cL_refused 19 = .ok (.iconst 1, 1) := by decide +kernel
theorem dL_refused_20 : decode cL_refused 20 = .ok (.if_icmp .ne 12, 3) := by decide +kernel
theorem dL_refused_23 : decode cL_refused 23 = .ok (.aload_n 0, 1) := by decide +kernel
theorem dL_refused_24 : decode cL_refused 24 = .ok (.iload_n 2, 1) := by decide +kernel
theorem dL_refused_25 : decode cL_refused 25 = .ok (.iload_n 3, 1) := by decide +kernel
theorem dL_refused_26 : decode cL_refused 26 = .ok (.invokevirtual 49, 3) := by decide +kernel
theorem dL_refused_29 : decode cL_refused 29 = .ok (.goto 90, 3) := by decide +kernel
theorem dL_refused_32 : decode cL_refused 32 = .ok (.iload_n 1, 1) := by decide +kernel
theorem dL_refused_33 : decode cL_refused 33 = .ok (.iconst 2, 1) := by decide +kernel
theorem dL_refused_34 : decode cL_refused 34 = .ok (.if_icmp .ne 11, 3) := by decide +kernel
theorem dL_refused_37 : decode cL_refused 37 = .ok (.aload_n 0, 1) := by decide +kernel
theorem dL_refused_38 : decode cL_refused 38 = .ok (.iload_n 2, 1) := by decide +kernel
theorem dL_refused_39 : decode cL_refused 39 = .ok (.invokevirtual 53, 3) := by decide +kernel
theorem dL_refused_42 : decode cL_refused 42 = .ok (.goto 77, 3) := by decide +kernel
theorem dL_refused_45 : decode cL_refused 45 = .ok (.iload_n 1, 1) := by decide +kernel
theorem dL_refused_46 : decode cL_refused 46 = .ok (.iconst 3, 1) := by decide +kernel
theorem dL_refused_47 : decode cL_refused 47 = .ok (.if_icmp .ne 11, 3) := by decide +kernel
theorem dL_refused_50 : decode cL_refused 50 = .ok (.aload_n 0, 1) := by decide +kernel
theorem dL_refused_51 : decode cL_refused 51 = .ok (.iload_n 2, 1) := by decide +kernel
theorem dL_refused_52 : decode cL_refused 52 = .ok (.invokevirtual 56, 3) := by decide +kernel
theorem dL_refused_55 : decode cL_refused 55 = .ok (.goto 64, 3) := by decide +kernel
theorem dL_refused_58 : decode cL_refused 58 = .ok (.iload_n 1, 1) := by decide +kernel
theorem dL_refused_59 : decode cL_refused 59 = .ok (.iconst 4, 1) := by decide +kernel
theorem dL_refused_60 : decode cL_refused 60 = .ok (.if_icmp .ne 12, 3) := by decide +kernel
theorem dL_refused_63 : decode cL_refused 63 = .ok (.aload_n 0, 1) := by decide +kernel
theorem dL_refused_64 : decode cL_refused 64 = .ok (.iload_n 2, 1) := by decide +kernel
theorem dL_refused_65 : decode cL_refused 65 = .ok (.iload_n 3, 1) := by decide +kernel
theorem dL_refused_66 : decode cL_refused 66 = .ok (.invokevirtual 59, 3) := by decide +kernel
theorem dL_refused_69 : decode cL_refused 69 = .ok (.goto 50, 3) := by decide +kernel
theorem dL_refused_72 : decode cL_refused 72 = .ok (.iload_n 1, 1) := by decide +kernel
theorem dL_refused_73 : decode cL_refused 73 = .ok (.iconst 5, 1) := by decide +kernel
theorem dL_refused_74 : decode cL_refused 74 = .ok (.if_icmp .ne 11, 3) := by decide +kernel
theorem dL_refused_77 : decode cL_refused 77 = .ok (.aload_n 0, 1) := by decide +kernel
theorem dL_refused_78 : decode cL_refused 78 = .ok (.iload_n 2, 1) := by decide +kernel
theorem dL_refused_79 : decode cL_refused 79 = .ok (.invokevirtual 62, 3) := by decide +kernel
theorem dL_refused_82 : decode cL_refused 82 = .ok (.goto 37, 3) := by decide +kernel
theorem dL_refused_85 : decode cL_refused 85 = .ok (.iload_n 1, 1) := by decide +kernel
theorem dL_refused_86 : decode cL_refused 86 = .ok (.bipush 6, 2) := by decide +kernel
theorem dL_refused_88 : decode cL_refused 88 = .ok (.if_icmp .ne 11, 3) := by decide +kernel
theorem dL_refused_91 : decode cL_refused 91 = .ok (.aload_n 0, 1) := by decide +kernel
theorem dL_refused_92 : decode cL_refused 92 = .ok (.iload_n 2, 1) := by decide +kernel
theorem dL_refused_93 : decode cL_refused 93 = .ok (.invokevirtual 65, 3) := by decide +kernel
theorem dL_refused_96 : decode cL_refused 96 = .ok (.goto 23, 3) := by decide +kernel
theorem dL_refused_99 : decode cL_refused 99 = .ok (.iload_n 1, 1) := by decide +kernel
theorem dL_refused_100 : decode cL_refused 100 = .ok (.bipush 7, 2) := by decide +kernel
theorem dL_refused_102 : decode cL_refused 102 = .ok (.if_icmp .ne 12, 3) := by decide +kernel
theorem dL_refused_105 : decode cL_refused 105 = .ok (.aload_n 0, 1) := by decide +kernel
theorem dL_refused_106 : decode cL_refused 106 = .ok (.iload_n 2, 1) := by decide +kernel
theorem dL_refused_107 : decode cL_refused 107 = .ok (.iload_n 3, 1) := by decide +kernel
theorem dL_refused_108 : decode cL_refused 108 = .ok (.invokevirtual 68, 3) := by decide +kernel
theorem dL_refused_111 : decode cL_refused 111 = .ok (.goto 8, 3) := by decide +kernel
theorem dL_refused_114 : decode cL_refused 114 = .ok (.aload_n 0, 1) := by decide +kernel
theorem dL_refused_115 : decode cL_refused 115 = .ok (.iload_n 2, 1) := by decide +kernel
theorem dL_refused_116 : decode cL_refused 116 = .ok (.invokevirtual 71, 3) := by decide +kernel
theorem dL_refused_119 : decode cL_refused 119 = .ok (.iconst 0, 1) := by decide +kernel
theorem dL_refused_120 : decode cL_refused 120 = .ok (.imul, 1) := by decide +kernel
theorem dL_refused_121 : decode cL_refused 121 = .ok (.ireturn, 1) := by decide +kernel
theorem dL_refused_122 : decode cL_refused 122 = .ok (.astore 5, 2) := by decide +kernel
theorem dL_refused_124 : decode cL_refused 124 = .ok (.iconst 1, 1) := by decide +kernel
theorem dL_refused_125 : decode cL_refused 125 = .ok (.ireturn, 1) := by decide +kernel
theorem dL_refused_126 : decode cL_refused 126 = .ok (.astore 5, 2) := by decide +kernel
theorem dL_refused_128 : decode cL_refused 128 = .ok (.iconst 2, 1) := by decide +kernel
theorem dL_refused_129 : decode cL_refused 129 = .ok (.ireturn, 1) := by decide +kernel
theorem dL_refused_130 : decode cL_refused 130 = .ok (.astore 5, 2) := by decide +kernel
theorem dL_refused_132 : decode cL_refused 132 = .ok (.iconst 3, 1) := by decide +kernel
theorem dL_refused_133 : decode cL_refused 133 = .ok (.ireturn, 1) := by decide +kernel
set_option maxRecDepth 20000 in
theorem ggL_writes_X7_entries : GoodIn wsL_writes wsX7_entries := goodIn_r _ [7, 8, 9, 10, 11, 12, 13, 14, 62, 63, 64, 65, 66, 67, 68, 69, 70, 71, 72] (by decide +kernel) (by decide +kernel)
set_option maxRecDepth 20000 in
theorem gL_writes_X7_entries : GoodIn wsL_writes (wsV RL 84 RX7 yX7_entries wsX7_entries) := goodIn_app (goodIn_of _ (by decide +kernel)) ggL_writes_X7_entries
set_option maxRecDepth 20000 in
theorem ggL_writes_X7_kindOf : GoodIn wsL_writes wsX7_kindOf := goodIn_ca (goodIn_r _ [18, 8, 19, 20, 21, 6, 22, 23, 24, 25, 26, 27, 12, 28, 14, 29, 30, 31, 32, 33, 34, 62, 63, 64, 65, 66, 67, 68, 69, 70, 71, 72] (by decide +kernel) (by decide +kernel)) (goodIn_sub (fun _ h => List.mem_cons_of_mem _ (List.mem_append_right _ h)) (by decide +kernel))
set_option maxRecDepth 20000 in
theorem gL_writes_X7_kindOf : GoodIn wsL_writes (wsV RL 71 RX7 yX7_kindOf wsX7_kindOf) := goodIn_app (goodIn_of _ (by decide +kernel)) ggL_writes_X7_kindOf
set_option maxRecDepth 20000 in
theorem ggL_writes_X7_subjectOf : GoodIn wsL_writes wsX7_subjectOf := goodIn_ca (goodIn_r _ [38, 8, 19, 20, 21, 6, 22, 23, 24, 25, 26, 27, 12, 28, 14, 39, 40, 41, 42, 43, 34, 62, 63, 64, 65, 66, 67, 68, 69, 70, 71, 72] (by decide +kernel) (by decide +kernel)) (goodIn_sub (fun _ h => List.mem_cons_of_mem _ (List.mem_append_right _ h)) (by decide +kernel))
set_option maxRecDepth 20000 in
theorem gL_writes_X7_subjectOf : GoodIn wsL_writes (wsV RL 88 RX7 yX7_subjectOf wsX7_subjectOf) := goodIn_app (goodIn_of _ (by decide +kernel)) ggL_writes_X7_subjectOf
set_option maxRecDepth 20000 in
theorem ggL_writes_X7_detailOf : GoodIn wsL_writes wsX7_detailOf := goodIn_ca (goodIn_r _ [47, 8, 19, 20, 21, 6, 22, 23, 24, 25, 26, 27, 12, 28, 14, 48, 49, 50, 51, 52, 34, 62, 63, 64, 65, 66, 67, 68, 69, 70, 71, 72] (by decide +kernel) (by decide +kernel)) (goodIn_sub (fun _ h => List.mem_cons_of_mem _ (List.mem_append_right _ h)) (by decide +kernel))
set_option maxRecDepth 20000 in
theorem gL_writes_X7_detailOf : GoodIn wsL_writes (wsV RL 91 RX7 yX7_detailOf wsX7_detailOf) := goodIn_app (goodIn_of _ (by decide +kernel)) ggL_writes_X7_detailOf
set_option maxRecDepth 20000 in
theorem ggL_writes_X7_sumOf : GoodIn wsL_writes wsX7_sumOf := goodIn_ca (goodIn_r _ [56, 8, 19, 20, 21, 6, 22, 23, 24, 25, 26, 27, 12, 28, 14, 57, 58, 59, 60, 61, 34, 62, 63, 64, 65, 66, 67, 68, 69, 70, 71, 72] (by decide +kernel) (by decide +kernel)) (goodIn_sub (fun _ h => List.mem_cons_of_mem _ (List.mem_append_right _ h)) (by decide +kernel))
set_option maxRecDepth 20000 in
theorem gL_writes_X7_sumOf : GoodIn wsL_writes (wsV RL 94 RX7 yX7_sumOf wsX7_sumOf) := goodIn_app (goodIn_of _ (by decide +kernel)) ggL_writes_X7_sumOf
theorem dL_writes_0 : decode cL_writes 0 = .ok (.aload 5, 2) := by decide +kernel
theorem dL_writes_2 : decode cL_writes 2 = .ok (.iconst 0, 1) := by decide +kernel
theorem dL_writes_3 : decode cL_writes 3 = .ok (.ldc2_w 80, 3) := by decide +kernel
theorem dL_writes_6 : decode cL_writes 6 = .ok (.aload 5, 2) := by decide +kernel
theorem dL_writes_8 : decode cL_writes 8 = .ok (.iconst 0, 1) := by decide +kernel
theorem dL_writes_9 : decode cL_writes 9 = .ok (.laload, 1) := by decide +kernel
theorem dL_writes_10 : decode cL_writes 10 = .ok (.lmul, 1) := by decide +kernel
theorem dL_writes_11 : decode cL_writes 11 = .ok (.bipush 7, 2) := by decide +kernel
theorem dL_writes_13 : decode cL_writes 13 = .ok (.iload_n 1, 1) := by decide +kernel
theorem dL_writes_14 : decode cL_writes 14 = .ok (.imul, 1) := by decide +kernel
theorem dL_writes_15 : decode cL_writes 15 = .ok (.i2l, 1) := by decide +kernel
theorem dL_writes_16 : decode cL_writes 16 = .ok (.ladd, 1) := by decide +kernel
theorem dL_writes_17 : decode cL_writes 17 = .ok (.iconst 5, 1) := by decide +kernel
theorem dL_writes_18 : decode cL_writes 18 = .ok (.iload_n 2, 1) := by decide +kernel
theorem dL_writes_19 : decode cL_writes 19 = .ok (.imul, 1) := by decide +kernel
theorem dL_writes_20 : decode cL_writes 20 = .ok (.i2l, 1) := by decide +kernel
theorem dL_writes_21 : decode cL_writes 21 = .ok (.ladd, 1) := by decide +kernel
theorem dL_writes_22 : decode cL_writes 22 = .ok (.iconst 3, 1) := by decide +kernel
theorem dL_writes_23 : decode cL_writes 23 = .ok (.iload_n 3, 1) := by decide +kernel
theorem dL_writes_24 : decode cL_writes 24 = .ok (.imul, 1) := by decide +kernel
theorem dL_writes_25 : decode cL_writes 25 = .ok (.i2l, 1) := by decide +kernel
theorem dL_writes_26 : decode cL_writes 26 = .ok (.ladd, 1) := by decide +kernel
theorem dL_writes_27 : decode cL_writes 27 = .ok (.aload 4, 2) := by decide +kernel
theorem dL_writes_29 : decode cL_writes 29 = .ok (.iconst 0, 1) := by decide +kernel
theorem dL_writes_30 : decode cL_writes 30 = .ok (.iaload, 1) := by decide +kernel
theorem dL_writes_31 : decode cL_writes 31 = .ok (.i2l, 1) := by decide +kernel
theorem dL_writes_32 : decode cL_writes 32 = .ok (.ladd, 1) := by decide +kernel
theorem dL_writes_33 : decode cL_writes 33 = .ok (.ldc2_w 82, 3) := by decide +kernel
theorem dL_writes_36 : decode cL_writes 36 = .ok (.lrem, 1) := by decide +kernel
theorem dL_writes_37 : decode cL_writes 37 = .ok (.lastore, 1) := by decide +kernel
theorem dL_writes_38 : decode cL_writes 38 = .ok (.aload 4, 2) := by decide +kernel
theorem dL_writes_40 : decode cL_writes 40 = .ok (.iconst 5, 1) := by decide +kernel
theorem dL_writes_41 : decode cL_writes 41 = .ok (.iaload, 1) := by decide +kernel
theorem dL_writes_42 : decode cL_writes 42 = .ok (.istore 6, 2) := by decide +kernel
theorem dL_writes_44 : decode cL_writes 44 = .ok (.aload 4, 2) := by decide +kernel
theorem dL_writes_46 : decode cL_writes 46 = .ok (.iconst 5, 1) := by decide +kernel
theorem dL_writes_47 : decode cL_writes 47 = .ok (.iload 6, 2) := by decide +kernel
theorem dL_writes_49 : decode cL_writes 49 = .ok (.iconst 1, 1) := by decide +kernel
theorem dL_writes_50 : decode cL_writes 50 = .ok (.iadd, 1) := by decide +kernel
theorem dL_writes_51 : decode cL_writes 51 = .ok (.iastore, 1) := by decide +kernel
theorem dL_writes_52 : decode cL_writes 52 = .ok (.aload_n 0, 1) := by decide +kernel
theorem dL_writes_53 : decode cL_writes 53 = .ok (.invokevirtual 84, 3) := by decide +kernel
theorem dL_writes_56 : decode cL_writes 56 = .ok (.iload 6, 2) := by decide +kernel
theorem dL_writes_58 : decode cL_writes 58 = .ok (.iconst 1, 1) := by decide +kernel
theorem dL_writes_59 : decode cL_writes 59 = .ok (.iadd, 1) := by decide +kernel
theorem dL_writes_60 : decode cL_writes 60 = .ok (.if_icmp .ne 51, 3) := by decide +kernel
theorem dL_writes_63 : decode cL_writes 63 = .ok (.aload_n 0, 1) := by decide +kernel
theorem dL_writes_64 : decode cL_writes 64 = .ok (.iload 6, 2) := by decide +kernel
theorem dL_writes_66 : decode cL_writes 66 = .ok (.invokevirtual 71, 3) := by decide +kernel
