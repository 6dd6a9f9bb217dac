theorem dL_whyDenied_22 : decode cL_whyDenied 22 = .ok (.ireturn, 1) := by decide +kernel
set_option maxRecDepth 20000 in
theorem ggL_renewCredential_X7_renewCredential : GoodIn wsL_renewCredential wsX7_renewCredential := goodIn_ca (goodIn_ca (goodIn_ca (goodIn_r _ [8, 9, 10, 11, 12, 13, 14, 15, 16, 7, 17, 18, 19, 20, 21, 22, 23, 24, 25, 26, 27, 28, 29, 30, 31, 32, 33, 34, 35, 36, 37, 38, 39, 40, 41, 42, 43, 44, 45, 46, 47, 48, 49, 50, 51, 52, 53, 54, 55, 56, 57, 58, 59, 60, 61, 62, 63, 64, 65, 66, 67, 68, 69, 70, 71, 72, 73, 74, 75, 76, 77, 78, 79, 80, 81, 82, 83, 84, 85, 86, 87, 88, 89, 90, 91, 92, 93, 94, 95, 96, 97, 98, 99, 100, 101, 102, 103, 104, 105, 106, 107, 108, 109, 110, 111, 112] (by decide +kernel) (by decide +kernel)) (goodIn_sub (fun _ h => List.mem_cons_of_mem _ (List.mem_append_left _ (List.mem_append_left _ (List.mem_append_right _ h)))) (by decide +kernel))) (goodIn_sub (fun _ h => List.mem_cons_of_mem _ (List.mem_append_left _ (List.mem_append_right _ h))) (by decide +kernel))) (goodIn_sub (fun _ h => List.mem_cons_of_mem _ (List.mem_append_right _ h)) (by decide +kernel))
set_option maxRecDepth 20000 in
theorem gL_renewCredential_X7_renewCredential : GoodIn wsL_renewCredential (wsV RL 70 RX7 yX7_renewCredential wsX7_renewCredential) := goodIn_app (goodIn_of _ (by decide +kernel)) ggL_renewCredential_X7_renewCredential
theorem dL_renewCredential_0 : decode cL_renewCredential 0 = .ok (.aload_n 3, 1) := by decide +kernel
theorem dL_renewCredential_1 : decode cL_renewCredential 1 = .ok (.iconst 0, 1) := by decide +kernel
theorem dL_renewCredential_2 : decode cL_renewCredential 2 = .ok (.aload_n 0, 1) := by decide +kernel
theorem dL_renewCredential_3 : decode cL_renewCredential 3 = .ok (.iload_n 1, 1) := by decide +kernel
theorem dL_renewCredential_4 : decode cL_renewCredential 4 = .ok (.iload_n 2, 1) := by decide +kernel
theorem dL_renewCredential_5 : decode cL_renewCredential 5 = .ok (.invokevirtual 70, 3) := by decide +kernel
theorem dL_renewCredential_8 : decode cL_renewCredential 8 = .ok (.i2l, 1) := by decide +kernel
theorem dL_renewCredential_9 : decode cL_renewCredential 9 = .ok (.lastore, 1) := by decide +kernel
theorem dL_renewCredential_10 : decode cL_renewCredential 10 = .ok (.goto 15, 3) := by decide +kernel
theorem dL_renewCredential_13 : decode cL_renewCredential 13 = .ok (.astore 4, 2) := by decide +kernel
theorem dL_renewCredential_15 : decode cL_renewCredential 15 = .ok (.iconst 1, 1) := by decide +kernel
theorem dL_renewCredential_16 : decode cL_renewCredential 16 = .ok (.ireturn, 1) := by decide +kernel
theorem dL_renewCredential_17 : decode cL_renewCredential 17 = .ok (.astore 4, 2) := by decide +kernel
theorem dL_renewCredential_19 : decode cL_renewCredential 19 = .ok (.iconst 2, 1) := by decide +kernel
theorem dL_renewCredential_20 : decode cL_renewCredential 20 = .ok (.ireturn, 1) := by decide +kernel
theorem dL_renewCredential_21 : decode cL_renewCredential 21 = .ok (.astore 4, 2) := by decide +kernel
theorem dL_renewCredential_23 : decode cL_renewCredential 23 = .ok (.iconst 3, 1) := by decide +kernel
theorem dL_renewCredential_24 : decode cL_renewCredential 24 = .ok (.ireturn, 1) := by decide +kernel
theorem dL_renewCredential_25 : decode cL_renewCredential 25 = .ok (.iconst 0, 1) := by decide +kernel
theorem dL_renewCredential_26 : decode cL_renewCredential 26 = .ok (.ireturn, 1) := by decide +kernel
set_option maxRecDepth 20000 in
theorem ggL_revokeBelow_X7_revokeBelow : GoodIn wsL_revokeBelow wsX7_revokeBelow := goodIn_ca (goodIn_r _ [6, 7, 8, 9, 10, 11, 5, 12, 13, 14, 15, 16, 17, 18, 19, 20, 21, 22, 23, 24, 25, 26, 27, 28, 29, 30, 31, 32, 33, 34, 35, 36, 37, 38, 39, 40, 41, 42, 43, 44, 45, 46, 47, 48, 49, 50, 51, 52, 53, 54, 55, 56, 57, 58, 59, 60, 61, 62, 63, 64, 65, 66, 67, 68, 69, 70, 71, 72, 73, 74, 75, 76, 77, 78, 79, 80, 81, 82, 83, 84, 85, 86, 87, 88, 89, 90, 91, 92, 93, 94, 95, 96, 97, 98, 99, 100, 101, 102, 103, 104, 105, 106, 107] (by decide +kernel) (by decide +kernel)) (goodIn_sub (fun _ h => List.mem_cons_of_mem _ (List.mem_append_right _ h)) (by decide +kernel))
set_option maxRecDepth 20000 in
theorem gL_revokeBelow_X7_revokeBelow : GoodIn wsL_revokeBelow (wsV RL 73 RX7 yX7_revokeBelow wsX7_revokeBelow) := goodIn_app (goodIn_of _ (by decide +kernel)) ggL_revokeBelow_X7_revokeBelow
theorem dL_revokeBelow_0 : decode cL_revokeBelow 0 = .ok (.aload_n 2, 1) := by decide +kernel
theorem dL_revokeBelow_1 : decode cL_revokeBelow 1 = .ok (.iconst 0, 1) := by decide +kernel
theorem dL_revokeBelow_2 : decode cL_revokeBelow 2 = .ok (.aload_n 0, 1) := by decide +kernel
theorem dL_revokeBelow_3 : decode cL_revokeBelow 3 = .ok (.iload_n 1, 1) := by decide +kernel
theorem dL_revokeBelow_4 : decode cL_revokeBelow 4 = .ok (.invokevirtual 73, 3) := by decide +kernel
theorem dL_revokeBelow_7 : decode cL_revokeBelow 7 = .ok (.i2l, 1) := by decide +kernel
theorem dL_revokeBelow_8 : decode cL_revokeBelow 8 = .ok (.lastore, 1) := by decide +kernel
theorem dL_revokeBelow_9 : decode cL_revokeBelow 9 = .ok (.goto 6, 3) := by decide +kernel
theorem dL_revokeBelow_12 : decode cL_revokeBelow 12 = .ok (.astore_n 3, 1) := by decide +kernel
theorem dL_revokeBelow_13 : decode cL_revokeBelow 13 = .ok (.iconst 1, 1) := by decide +kernel
theorem dL_revokeBelow_14 : decode cL_revokeBelow 14 = .ok (.ireturn, 1) := by decide +kernel
theorem dL_revokeBelow_15 : decode cL_revokeBelow 15 = .ok (.iconst 0, 1) := by decide +kernel
theorem dL_revokeBelow_16 : decode cL_revokeBelow 16 = .ok (.ireturn, 1) := by decide +kernel
set_option maxRecDepth 20000 in
theorem ggL_works_X7_works : GoodIn wsL_works wsX7_works := goodIn_ca (goodIn_r _ [6, 7, 8, 9, 10, 5, 11, 12, 13, 14, 15, 16, 17, 18, 19, 20, 21, 22, 23, 24, 25, 26, 27, 28, 29, 30, 31, 32, 33, 34, 35, 36, 37, 38, 39, 40, 41, 42, 43, 44, 45, 46, 47, 48, 49, 50, 51, 52, 53] (by decide +kernel) (by decide +kernel)) (goodIn_sub (fun _ h => List.mem_cons_of_mem _ (List.mem_append_right _ h)) (by decide +kernel))
set_option maxRecDepth 20000 in
theorem gL_works_X7_works : GoodIn wsL_works (wsV RL 76 RX7 yX7_works wsX7_works) := goodIn_app (goodIn_of _ (by decide +kernel)) ggL_works_X7_works
theorem dL_works_0 : decode cL_works 0 = .ok (.aload_n 2, 1) := by decide +kernel
theorem dL_works_1 : decode cL_works 1 = .ok (.iconst 0, 1) := by decide +kernel
theorem dL_works_2 : decode cL_works 2 = .ok (.aload_n 0, 1) := by decide +kernel
theorem dL_works_3 : decode cL_works 3 = .ok (.iload_n 1, 1) := by decide +kernel
theorem dL_works_4 : decode cL_works 4 = .ok (.invokevirtual 76, 3) := by decide +kernel
theorem dL_works_7 : decode cL_works 7 = .ok (.ifCond .eq 7, 3) := by decide +kernel
theorem dL_works_10 : decode cL_works 10 = .ok (.lconst 1, 1) := by decide +kernel
theorem dL_works_11 : decode cL_works 11 = .ok (.goto 4, 3) := by decide +kernel
theorem dL_works_14 : decode cL_works 14 = .ok (.lconst 0, 1) := by decide +kernel
theorem dL_works_15 : decode cL_works 15 = .ok (.lastore, 1) := by decide +kernel
theorem dL_works_16 : decode cL_works 16 = .ok (.goto 6, 3) := by decide +kernel
theorem dL_works_19 : decode cL_works 19 = .ok (.astore_n 3, 1) := by decide +kernel
theorem dL_works_20 : decode cL_works 20 = .ok (.iconst 1, 1) := by decide +kernel
theorem dL_works_21 : decode cL_works 21 = .ok (.ireturn, 1) := by decide +kernel
theorem dL_works_22 : decode cL_works 22 = .ok (.iconst 0, 1) := by decide +kernel
theorem dL_works_23 : decode cL_works 23 = .ok (.ireturn, 1) := by decide +kernel
set_option maxRecDepth 20000 in
theorem ggL_endOfCredential_X7_endOfCredential : GoodIn wsL_endOfCredential wsX7_endOfCredential := goodIn_ca (goodIn_r _ [6, 7, 8, 9, 10, 5, 11, 12, 13, 14, 15, 16, 17, 18, 19, 20, 21, 22, 23, 24, 25, 26, 27, 28, 29, 30, 31, 32, 33, 34, 35, 36, 37, 38, 39, 40, 41, 42, 43, 44, 45, 46, 47, 48, 49, 50, 51, 52, 53] (by decide +kernel) (by decide +kernel)) (goodIn_sub (fun _ h => List.mem_cons_of_mem _ (List.mem_append_right _ h)) (by decide +kernel))
set_option maxRecDepth 20000 in
theorem gL_endOfCredential_X7_endOfCredential : GoodIn wsL_endOfCredential (wsV RL 79 RX7 yX7_endOfCredential wsX7_endOfCredential) := goodIn_app (goodIn_of _ (by decide +kernel)) ggL_endOfCredential_X7_endOfCredential
theorem dL_endOfCredential_0 : decode cL_endOfCredential 0 = .ok (.aload_n 2, 1) := by decide +kernel
theorem dL_endOfCredential_1 : decode cL_endOfCredential 1 = .ok (.iconst 0, 1) := by decide +kernel
theorem dL_endOfCredential_2 : decode cL_endOfCredential 2 = .ok (.aload_n 0, 1) := by decide +kernel
theorem dL_endOfCredential_3 : decode cL_endOfCredential 3 = .ok (.iload_n 1, 1) := by decide +kernel
theorem dL_endOfCredential_4 : decode cL_endOfCredential 4 = .ok (.invokevirtual 79, 3) := by decide +kernel
theorem dL_endOfCredential_7 : decode cL_endOfCredential 7 = .ok (.i2l, 1) := by decide +kernel
theorem dL_endOfCredential_8 : decode cL_endOfCredential 8 = .ok (.lastore, 1) := by decide +kernel
theorem dL_endOfCredential_9 : decode cL_endOfCredential 9 = .ok (.goto 6, 3) := by decide +kernel
theorem dL_endOfCredential_12 : decode cL_endOfCredential 12 = .ok (.astore_n 3, 1) := by decide +kernel
theorem dL_endOfCredential_13 : decode cL_endOfCredential 13 = .ok (.iconst 1, 1) := by decide +kernel
theorem dL_endOfCredential_14 : decode cL_endOfCredential 14 = .ok (.ireturn, 1) := by decide +kernel
theorem dL_endOfCredential_15 : decode cL_endOfCredential 15 = .ok (.iconst 0, 1) := by decide +kernel
theorem dL_endOfCredential_16 : decode cL_endOfCredential 16 = .ok (.ireturn, 1) := by decide +kernel
set_option maxRecDepth 20000 in
theorem ggL_credentialsOf_X7_credentialsOf : GoodIn wsL_credentialsOf wsX7_credentialsOf := goodIn_ca (goodIn_r _ [6, 7, 8, 9, 10, 5, 11, 12, 13, 14, 15, 16, 17, 18, 19, 20, 21, 22, 23, 24, 25, 26, 27, 28, 29, 30, 31, 32, 33, 34, 35, 36, 37, 38, 39, 40, 41, 42, 43, 44, 45, 46, 47, 48, 49, 50, 51, 52, 53, 54, 55, 56, 57, 58, 59, 60, 61, 62, 63, 64, 65] (by decide +kernel) (by decide +kernel)) (goodIn_sub (fun _ h => List.mem_cons_of_mem _ (List.mem_append_right _ h)) (by decide +kernel))
set_option maxRecDepth 20000 in
theorem gL_credentialsOf_X7_credentialsOf : GoodIn wsL_credentialsOf (wsV RL 82 RX7 yX7_credentialsOf wsX7_credentialsOf) := goodIn_app (goodIn_of _ (by decide +kernel)) ggL_credentialsOf_X7_credentialsOf
theorem dL_credentialsOf_0 : decode cL_credentialsOf 0 = .ok (.aload_n 2, 1) := by decide +kernel
theorem dL_credentialsOf_1 : decode cL_credentialsOf 1 = .ok (.iconst 0, 1) := by decide +kernel
theorem dL_credentialsOf_2 : decode cL_credentialsOf 2 = .ok (.aload_n 0, 1) := by decide +kernel
theorem dL_credentialsOf_3 : decode cL_credentialsOf 3 = .ok (.iload_n 1, 1) := by decide +kernel
theorem dL_credentialsOf_4 : decode cL_credentialsOf 4 = .ok (.invokevirtual 82, 3) := by decide +kernel
theorem dL_credentialsOf_7 : decode cL_credentialsOf 7 = .ok (.i2l, 1) := by decide +kernel
theorem dL_credentialsOf_8 : decode cL_credentialsOf 8 = .ok (.lastore, 1) := by decide +kernel
theorem dL_credentialsOf_9 : decode cL_credentialsOf 9 = .ok (.goto 6, 3) := by decide +kernel
theorem dL_credentialsOf_12 : decode cL_credentialsOf 12 = .ok (.astore_n 3, 1) := by decide +kernel
theorem dL_credentialsOf_13 : decode cL_credentialsOf 13 = .ok (.iconst 1, 1) := by decide +kernel
theorem dL_credentialsOf_14 : decode cL_credentialsOf 14 = .ok (.ireturn, 1) := by decide +kernel
theorem dL_credentialsOf_15 : decode cL_credentialsOf 15 = .ok (.iconst 0, 1) := by decide +kernel
theorem dL_credentialsOf_16 : decode cL_credentialsOf 16 = .ok (.ireturn, 1) := by decide +kernel
set_option maxRecDepth 20000 in
theorem ggL_pass_X7_pass : GoodIn wsL_pass wsX7_pass := goodIn_ca (goodIn_r _ [6, 7, 8, 9, 10, 11, 12, 5, 13, 14, 15, 16, 17, 18, 19, 20, 21, 22, 23, 24, 25, 26, 27, 28, 29, 30, 31, 32, 33, 34, 35, 36, 37, 38, 39, 40, 41, 42, 43, 44, 45, 46, 47, 48, 49, 50, 51, 52, 53, 54, 55, 56, 57, 58, 59, 60, 61, 62, 63, 64, 65, 66, 67, 68, 69, 70, 71, 72, 73, 74, 75, 76, 77, 78, 79, 80, 81, 82, 83, 84, 85, 86, 87, 88, 89, 90, 91, 92, 93, 94, 95, 96, 97, 98, 99, 100, 101, 102, 103, 104, 105, 106, 107, 108, 109, 110, 111, 112, 113, 114, 115, 116, 117, 118, 119, 120, 121, 122, 123, 124] (by decide +kernel) (by decide +kernel)) (goodIn_sub (fun _ h => List.mem_cons_of_mem _ (List.mem_append_right _ h)) (by decide +kernel))
set_option maxRecDepth 20000 in
theorem gL_pass_X7_pass : GoodIn wsL_pass (wsV RL 85 RX7 yX7_pass wsX7_pass) := goodIn_app (goodIn_of _ (by decide +kernel)) ggL_pass_X7_pass
theorem dL_pass_0 : decode cL_pass 0 = .ok (.aload_n 2, 1) := by decide +kernel
theorem dL_pass_1 : decode cL_pass 1 = .ok (.iconst 0, 1) := by decide +kernel
theorem dL_pass_2 : decode cL_pass 2 = .ok (.aload_n 0, 1) := by decide +kernel
theorem dL_pass_3 : decode cL_pass 3 = .ok (.iload_n 1, 1) := by decide +kernel
theorem dL_pass_4 : decode cL_pass 4 = .ok (.invokevirtual 85, 3) := by decide +kernel
theorem dL_pass_7 : decode cL_pass 7 = .ok (.i2l, 1) := by decide +kernel
theorem dL_pass_8 : decode cL_pass 8 = .ok (.lastore, 1) := by decide +kernel
theorem dL_pass_9 : decode cL_pass 9 = .ok (.goto 6, 3) := by decide +kernel
theorem dL_pass_12 : decode cL_pass 12 = .ok (.astore_n 3, 1) := by decide +kernel
theorem dL_pass_13 : decode cL_pass 13 = .ok (.iconst 1, 1) := by decide +kernel
theorem dL_pass_14 : decode cL_pass 14 = .ok (.ireturn, 1) := by decide +kernel
theorem dL_pass_15 : decode cL_pass 15 = .ok (.iconst 0, 1) := by decide +kernel
theorem dL_pass_16 : decode cL_pass 16 = .ok (.ireturn, 1) := by decide +kernel
set_option maxRecDepth 20000 in
theorem ggL_kindOf_X7_kindOf : GoodIn wsL_kindOf wsX7_kindOf := goodIn_ca (goodIn_r _ [6, 7, 8, 9, 10, 5, 11, 12, 13, 14, 15, 16, 17, 18, 19, 20, 21, 22, 23, 24, 25, 26, 27, 28, 29, 30, 31, 32, 33, 34, 35, 36] (by decide +kernel) (by decide +kernel)) (goodIn_sub (fun _ h => List.mem_cons_of_mem _ (List.mem_append_right _ h)) (by decide +kernel))
set_option maxRecDepth 20000 in
theorem gL_kindOf_X7_kindOf : GoodIn wsL_kindOf (wsV RL 88 RX7 yX7_kindOf wsX7_kindOf) := goodIn_app (goodIn_of _ (by decide +kernel)) ggL_kindOf_X7_kindOf
theorem dL_kindOf_0 : decode cL_kindOf 0 = .ok (.aload_n 2, 1) := by decide +kernel
theorem dL_kindOf_1 : decode cL_kindOf 1 = .ok (.iconst 0, 1) := by decide +kernel
theorem dL_kindOf_2 : decode cL_kindOf 2 = .ok (.aload_n 0, 1) := by decide +kernel
theorem dL_kindOf_3 : decode cL_kindOf 3 = .ok (.iload_n 1, 1) := by decide +kernel
theorem dL_kindOf_4 : decode cL_kindOf 4 = .ok (.invokevirtual 88, 3) := by decide +kernel
theorem dL_kindOf_7 : decode cL_kindOf 7 = .ok (.i2l, 1) := by decide +kernel
theorem dL_kindOf_8 : decode cL_kindOf 8 = .ok (.lastore, 1) := by decide +kernel
theorem dL_kindOf_9 : decode cL_kindOf 9 = .ok (.goto 6, 3) := by decide +kernel
theorem dL_kindOf_12 : decode cL_kindOf 12 = .ok (.astore_n 3, 1) := by decide +kernel
theorem dL_kindOf_13 : decode cL_kindOf 13 = .ok (.iconst 1, 1) := by decide +kernel
theorem dL_kindOf_14 : decode cL_kindOf 14 = .ok (.ireturn, 1) := by decide +kernel
theorem dL_kindOf_15 : decode cL_kindOf 15 = .ok (.iconst 0, 1) := by decide +kernel
theorem dL_kindOf_16 : decode cL_kindOf 16 = .ok (.ireturn, 1) := by decide +kernel
set_option maxRecDepth 20000 in
theorem ggL_subjectOf_X7_subjectOf : GoodIn wsL_subjectOf wsX7_subjectOf := goodIn_ca (goodIn_r _ [6, 7, 8, 9, 10, 5, 11, 12, 13, 14, 15, 16, 17, 18, 19, 20, 21, 22, 23, 24, 25, 26, 27, 28, 29, 30, 31, 32, 33, 34, 35, 36] (by decide +kernel) (by decide +kernel)) (goodIn_sub (fun _ h => List.mem_cons_of_mem _ (List.mem_append_right _ h)) (by decide +kernel))
set_option maxRecDepth 20000 in
theorem gL_subjectOf_X7_subjectOf : GoodIn wsL_subjectOf (wsV RL 91 RX7 yX7_subjectOf wsX7_subjectOf) := goodIn_app (goodIn_of _ (by decide +kernel)) ggL_subjectOf_X7_subjectOf
theorem dL_subjectOf_0 : decode cL_subjectOf 0 = .ok (.aload_n 2, 1) := by decide +kernel
theorem dL_subjectOf_1 : decode cL_subjectOf 1 = .ok (.iconst 0, 1) := by decide +kernel
theorem dL_subjectOf_2 : decode cL_subjectOf 2 = .ok (.aload_n 0, 1) := by decide +kernel
theorem dL_subjectOf_3 : decode cL_subjectOf 3 = .ok (.iload_n 1, 1) := by decide +kernel
theorem dL_subjectOf_4 : decode cL_subjectOf 4 = .ok (.invokevirtual 91, 3) := by decide +kernel
theorem dL_subjectOf_7 : decode cL_subjectOf 7 = .ok (.i2l, 1) := by decide +kernel
theorem dL_subjectOf_8 : decode cL_subjectOf 8 = .ok (.lastore, 1) := by decide +kernel
theorem dL_subjectOf_9 : decode cL_subjectOf 9 = .ok (.goto 6, 3) := by decide +kernel
theorem dL_subjectOf_12 : decode cL_subjectOf 12 = .ok (.astore_n 3, 1) := by decide +kernel
theorem dL_subjectOf_13 : decode cL_subjectOf 13 = .ok (.iconst 1, 1) := by decide +kernel
theorem dL_subjectOf_14 : decode cL_subjectOf 14 = .ok (.ireturn, 1) := by decide +kernel
theorem dL_subjectOf_15 : decode cL_subjectOf 15 = .ok (.iconst 0, 1) := by decide +kernel
theorem dL_subjectOf_16 : decode cL_subjectOf 16 = .ok (.ireturn, 1) := by decide +kernel
set_option maxRecDepth 20000 in
theorem ggL_detailOf_X7_detailOf : GoodIn wsL_detailOf wsX7_detailOf := goodIn_ca (goodIn_r _ [6, 7, 8, 9, 10, 5, 11, 12, 13, 14, 15, 16, 17, 18, 19, 20, 21, 22, 23, 24, 25, 26, 27, 28, 29, 30, 31, 32, 33, 34, 35, 36] (by decide +kernel) (by decide +kernel)) (goodIn_sub (fun _ h => List.mem_cons_of_mem _ (List.mem_append_right _ h)) (by decide +kernel))
set_option maxRecDepth 20000 in
theorem gL_detailOf_X7_detailOf : GoodIn wsL_detailOf (wsV RL 94 RX7 yX7_detailOf wsX7_detailOf) := goodIn_app (goodIn_of _ (by decide +kernel)) ggL_detailOf_X7_detailOf
theorem dL_detailOf_0 : decode cL_detailOf 0 = .ok (.aload_n 2, 1) := by decide +kernel
theorem dL_detailOf_1 : decode cL_detailOf 1 = .ok (.iconst 0, 1) := by decide +kernel
theorem dL_detailOf_2 : decode cL_detailOf 2 = .ok (.aload_n 0, 1) := by decide +kernel
theorem dL_detailOf_3 : decode cL_detailOf 3 = .ok (.iload_n 1, 1) := by decide +kernel
theorem dL_detailOf_4 : decode cL_detailOf 4 = .ok (.invokevirtual 94, 3) := by decide +kernel
theorem dL_detailOf_7 : decode cL_detailOf 7 = .ok (.i2l, 1) := by decide +kernel
theorem dL_detailOf_8 : decode cL_detailOf 8 = .ok (.lastore, 1) := by decide +kernel
theorem dL_detailOf_9 : decode cL_detailOf 9 = .ok (.goto 6, 3) := by decide +kernel
theorem dL_detailOf_12 : decode cL_detailOf 12 = .ok (.astore_n 3, 1) := by decide +kernel
theorem dL_detailOf_13 : decode cL_detailOf 13 = .ok (.iconst 1, 1) := by decide +kernel
theorem dL_detailOf_14 : decode cL_detailOf 14 = .ok (.ireturn, 1) := by decide +kernel
theorem dL_detailOf_15 : decode cL_detailOf 15 = .ok (.iconst 0, 1) := by decide +kernel
theorem dL_detailOf_16 : decode cL_detailOf 16 = .ok (.ireturn, 1) := by decide +kernel
set_option maxRecDepth 20000 in
theorem ggL_sumOf_X7_sumOf : GoodIn wsL_sumOf wsX7_sumOf := goodIn_ca (goodIn_r _ [6, 7, 8, 9, 10, 5, 11, 12, 13, 14, 15, 16, 17, 18, 19, 20, 21, 22, 23, 24, 25, 26, 27, 28, 29, 30, 31, 32, 33, 34, 35, 36] (by decide +kernel) (by decide +kernel)) (goodIn_sub (fun _ h => List.mem_cons_of_mem _ (List.mem_append_right _ h)) (by decide +kernel))
set_option maxRecDepth 20000 in
theorem gL_sumOf_X7_sumOf : GoodIn wsL_sumOf (wsV RL 97 RX7 yX7_sumOf wsX7_sumOf) := goodIn_app (goodIn_of _ (by decide +kernel)) ggL_sumOf_X7_sumOf
theorem dL_sumOf_0 : decode cL_sumOf 0 = .ok (.aload_n 2, 1) := by decide +kernel
theorem dL_sumOf_1 : decode cL_sumOf 1 = .ok (.iconst 0, 1) := by decide +kernel
theorem dL_sumOf_2 : decode cL_sumOf 2 = .ok (.aload_n 0, 1) := by decide +kernel
theorem dL_sumOf_3 : decode cL_sumOf 3 = .ok (.iload_n 1, 1) := by decide +kernel
theorem dL_sumOf_4 : decode cL_sumOf 4 = .ok (.invokevirtual 97, 3) := by decide +kernel
theorem dL_sumOf_7 : decode cL_sumOf 7 = .ok (.lastore, 1) := by decide +kernel
theorem dL_sumOf_8 : decode cL_sumOf 8 = .ok (.goto 6, 3) := by decide +kernel
theorem dL_sumOf_11 : decode cL_sumOf 11 = .ok (.astore_n 3, 1) := by decide +kernel
theorem dL_sumOf_12 : decode cL_sumOf 12 = .ok (.iconst 1, 1) := by decide +kernel
theorem dL_sumOf_13 : decode cL_sumOf 13 = .ok (.ireturn, 1) := by decide +kernel
theorem dL_sumOf_14 : decode cL_sumOf 14 = .ok (.iconst 0, 1) := by decide +kernel
theorem dL_sumOf_15 : decode cL_sumOf 15 = .ok (.ireturn, 1) := by decide +kernel
set_option maxRecDepth 20000 in
theorem ggL_law_X7_init : GoodIn wsL_law wsX7_init := goodIn_r _ [9, 10, 11, 12, 13, 14, 15, 16, 17, 18, 19, 20, 21, 22, 23, 24, 25, 26, 27, 28, 29, 30, 31, 32, 33, 34, 35, 36, 37, 38, 39, 40, 41, 42, 43, 44, 45, 46, 47, 48, 49, 50, 51, 52, 53, 54, 55, 56, 57, 58, 59, 60, 61, 62, 63, 64, 65, 66, 67, 68, 69, 70, 71, 72, 73, 74, 75, 76, 77, 78, 79, 80, 81, 82, 83, 84, 85, 86, 87, 88, 89, 90, 6, 91, 92, 957, 958, 959, 960, 961, 920, 921, 922, 923, 924, 925, 962, 963, 964, 965, 966, 967, 968, 969, 970, 971, 972, 973, 974, 975, 976, 977, 978, 979, 980, 981, 982, 983, 984, 985, 986, 987] (by decide +kernel) (by decide +kernel)
set_option maxRecDepth 20000 in
theorem gL_law_X7_init : GoodIn wsL_law (wsX7_init) := ggL_law_X7_init
set_option maxRecDepth 20000 in
theorem ggL_law_X8_init : GoodIn wsL_law wsX8_init := goodIn_r _ [95, 96, 11, 12, 37, 97, 98, 40, 99, 100, 101, 102, 103, 104, 105, 106, 107, 108, 109, 110, 111, 112, 113, 114, 115, 116, 117, 118, 119, 120, 6, 121, 926, 927, 928, 929, 930, 931, 932, 933, 934, 935, 936, 937, 938, 939, 940, 941, 942, 943, 944, 945, 946, 947, 948, 949, 950, 951, 952, 953, 954, 955, 956] (by decide +kernel) (by decide +kernel)
set_option maxRecDepth 20000 in
theorem gL_law_X8_init : GoodIn wsL_law (wsX8_init) := ggL_law_X8_init
set_option maxRecDepth 20000 in
theorem ggL_law_L_policy : GoodIn wsL_law wsL_policy := goodIn_ca (goodIn_r _ [125, 126, 127, 128, 129, 2, 130, 131, 132, 16, 133, 134, 135, 15, 136, 43, 137, 138, 139, 140, 920, 921, 922, 923, 924, 925, 957, 958, 959, 960, 961] (by decide +kernel) (by decide +kernel)) (goodIn_sub (fun _ h => List.mem_append_left _ (List.mem_append_left _ (List.mem_append_right _ h))) (by decide +kernel))
set_option maxRecDepth 20000 in
theorem gL_law_L_policy : GoodIn wsL_law (va_wsS RL 105 yL_policy wsL_policy) := goodIn_app (goodIn_of _ (by decide +kernel)) ggL_law_L_policy
set_option maxRecDepth 20000 in
theorem ggL_law_X8_policy : GoodIn wsL_law wsX8_policy := goodIn_r _ [144, 145, 146, 926, 927, 928, 929, 930, 931, 932, 933, 934, 935, 936, 937, 938, 939, 940, 941, 942, 943, 944, 945, 946, 947, 948, 949, 950, 951, 952, 953, 954, 955, 956] (by decide +kernel) (by decide +kernel)
set_option maxRecDepth 20000 in
theorem gL_law_X8_policy : GoodIn wsL_law (wsV RL 110 RX8 yX8_policy wsX8_policy) := goodIn_app (goodIn_of _ (by decide +kernel)) ggL_law_X8_policy
set_option maxRecDepth 20000 in
theorem ggL_law_X8_thrown : GoodIn wsL_law wsX8_thrown := goodIn_r _ [150, 146, 926, 927, 928, 929, 930, 931, 932, 933, 934, 935, 936, 937, 938, 939, 940, 941, 942, 943, 944, 945, 946, 947, 948, 949, 950, 951, 952, 953, 954, 955, 956] (by decide +kernel) (by decide +kernel)
set_option maxRecDepth 20000 in
theorem gL_law_X8_thrown : GoodIn wsL_law (wsV RL 111 RX8 yX8_thrown wsX8_thrown) := goodIn_app (goodIn_of _ (by decide +kernel)) ggL_law_X8_thrown
set_option maxRecDepth 20000 in
theorem ggL_law_L_allow : GoodIn wsL_law wsL_allow := goodIn_ca (goodIn_ca (goodIn_ca (goodIn_r _ [153, 154, 155, 126, 156, 157, 158, 2, 159, 160, 161, 131, 132, 16, 162, 163, 164, 165, 166, 167, 168, 169, 170, 15, 171, 43, 172, 173, 174, 175, 176, 177, 178, 179, 180, 181, 182, 183, 184, 185, 186, 39, 41, 187, 188, 189, 190, 38, 191, 192, 193, 194, 195, 196, 42, 197, 198, 199, 200, 201, 920, 921, 922, 923, 924, 925, 957, 958, 959, 960, 961] (by decide +kernel) (by decide +kernel)) (goodIn_sub (fun _ h => List.mem_append_left _ (List.mem_append_right _ h)) (by decide +kernel))) (goodIn_sub (fun _ h => List.mem_append_left _ (List.mem_append_left _ (List.mem_append_right _ h))) (by decide +kernel))) (goodIn_sub (fun _ h => List.mem_append_right _ h) (by decide +kernel))
set_option maxRecDepth 20000 in
theorem gL_law_L_allow : GoodIn wsL_law (va_wsS RL 114 yL_allow wsL_allow) := goodIn_app (goodIn_of _ (by decide +kernel)) ggL_law_L_allow
set_option maxRecDepth 20000 in
theorem ggL_law_X8_allow : GoodIn wsL_law wsX8_allow := goodIn_r _ [205, 146, 97, 98, 99, 100, 206, 207, 208, 5, 209, 145, 210, 211, 212, 213, 214, 215, 926, 927, 928, 929, 930, 931, 932, 933, 934, 935, 936, 937, 938, 939, 940, 941, 942, 943, 944, 945, 946, 947, 948, 949, 950, 951, 952, 953, 954, 955, 956] (by decide +kernel) (by decide +kernel)
set_option maxRecDepth 20000 in
theorem gL_law_X8_allow : GoodIn wsL_law (wsV RL 117 RX8 yX8_allow wsX8_allow) := goodIn_app (goodIn_of _ (by decide +kernel)) ggL_law_X8_allow
set_option maxRecDepth 20000 in
theorem ggL_law_L_clear : GoodIn wsL_law wsL_clear := goodIn_ca (goodIn_r _ [218, 154, 219, 220, 221, 2, 222, 16, 162, 163, 164, 165, 166, 167, 168, 169, 170, 15, 171, 43, 192, 188, 189, 190, 38, 191, 223, 224, 225, 226, 920, 921, 922, 923, 924, 925, 957, 958, 959, 960, 961] (by decide +kernel) (by decide +kernel)) (goodIn_sub (fun _ h => List.mem_append_right _ h) (by decide +kernel))
set_option maxRecDepth 20000 in
theorem gL_law_L_clear : GoodIn wsL_law (va_wsS RL 118 yL_clear wsL_clear) := goodIn_app (goodIn_of _ (by decide +kernel)) ggL_law_L_clear
set_option maxRecDepth 20000 in
theorem ggL_law_X8_clear : GoodIn wsL_law wsX8_clear := goodIn_r _ [230, 146, 97, 206, 207, 208, 5, 209, 145, 926, 927, 928, 929, 930, 931, 932, 933, 934, 935, 936, 937, 938, 939, 940, 941, 942, 943, 944, 945, 946, 947, 948, 949, 950, 951, 952, 953, 954, 955, 956] (by decide +kernel) (by decide +kernel)
set_option maxRecDepth 20000 in
theorem gL_law_X8_clear : GoodIn wsL_law (wsV RL 121 RX8 yX8_clear wsX8_clear) := goodIn_app (goodIn_of _ (by decide +kernel)) ggL_law_X8_clear
set_option maxRecDepth 20000 in
theorem ggL_law_L_mount : GoodIn wsL_law wsL_mount := goodIn_ca (goodIn_ca (goodIn_r _ [233, 155, 126, 234, 235, 236, 2, 237, 131, 132, 20, 238, 239, 240, 160, 161, 241, 242, 174, 243, 176, 177, 178, 179, 244, 245, 246, 180, 181, 182, 247, 248, 249, 19, 250, 50, 47, 251, 252, 253, 254, 255, 256, 257, 258, 48, 49, 259, 920, 921, 922, 923, 924, 925, 962, 963, 964, 965] (by decide +kernel) (by decide +kernel)) (goodIn_sub (fun _ h => List.mem_append_left _ (List.mem_append_left _ (List.mem_append_right _ h))) (by decide +kernel))) (goodIn_sub (fun _ h => List.mem_append_left _ (List.mem_append_right _ h)) (by decide +kernel))
set_option maxRecDepth 20000 in
theorem gL_law_L_mount : GoodIn wsL_law (va_wsS RL 122 yL_mount wsL_mount) := goodIn_app (goodIn_of _ (by decide +kernel)) ggL_law_L_mount
set_option maxRecDepth 20000 in
theorem ggL_law_X8_mount : GoodIn wsL_law wsX8_mount := goodIn_r _ [263, 264, 101, 146, 102, 103, 265, 266, 5, 267, 210, 211, 212, 213, 214, 215, 268, 269, 270, 926, 927, 928, 929, 930, 931, 932, 933, 934, 935, 936, 937, 938, 939, 940, 941, 942, 943, 944, 945, 946, 947, 948, 949, 950, 951, 952, 953, 954, 955, 956] (by decide +kernel) (by decide +kernel)
set_option maxRecDepth 20000 in
theorem gL_law_X8_mount : GoodIn wsL_law (wsV RL 125 RX8 yX8_mount wsX8_mount) := goodIn_app (goodIn_of _ (by decide +kernel)) ggL_law_X8_mount
set_option maxRecDepth 20000 in
theorem ggL_law_L_create : GoodIn wsL_law wsL_create := goodIn_ca (goodIn_ca (goodIn_ca (goodIn_r _ [273, 154, 155, 126, 274, 275, 276, 2, 277, 160, 161, 131, 132, 24, 33, 32, 278, 279, 280, 281, 166, 167, 282, 77, 78, 79, 58, 80, 65, 283, 284, 285, 286, 16, 287, 288, 289, 15, 290, 43, 291, 292, 293, 23, 294, 55, 76, 244, 245, 246, 180, 181, 182, 295, 296, 297, 298, 299, 300, 301, 302, 303, 64, 304, 305, 306, 307, 308, 309, 310, 311, 312, 66, 313, 314, 315, 316, 317, 318, 68, 69, 70, 71, 61, 62, 63, 319, 73, 74, 75, 54, 56, 320, 321, 322, 31, 323, 92, 324, 91, 88, 89, 90, 325, 326, 327, 328, 329, 920, 921, 922, 923, 924, 925, 975, 976, 977, 978, 979, 980, 981, 982, 966, 967, 968, 969, 970, 971, 972, 973, 974, 957, 958, 959, 960, 961, 983, 984, 985, 986, 987] (by decide +kernel) (by decide +kernel)) (goodIn_sub (fun _ h => List.mem_append_left _ (List.mem_append_right _ h)) (by decide +kernel))) (goodIn_sub (fun _ h => List.mem_append_left _ (List.mem_append_left _ (List.mem_append_right _ h))) (by decide +kernel))) (goodIn_sub (fun _ h => List.mem_append_right _ h) (by decide +kernel))
set_option maxRecDepth 20000 in
theorem gL_law_L_create : GoodIn wsL_law (va_wsS RL 126 yL_create wsL_create) := goodIn_app (goodIn_of _ (by decide +kernel)) ggL_law_L_create
set_option maxRecDepth 20000 in
theorem ggL_law_X8_create : GoodIn wsL_law wsX8_create := goodIn_r _ [333, 145, 107, 105, 146, 104, 106, 108, 334, 109, 110, 111, 335, 336, 337, 5, 338, 268, 269, 270, 339, 340, 341, 342, 343, 344, 345, 346, 118, 347, 119, 120, 348, 121, 349, 350, 351, 352, 353, 926, 927, 928, 929, 930, 931, 932, 933, 934, 935, 936, 937, 938, 939, 940, 941, 942, 943, 944, 945, 946, 947, 948, 949, 950, 951, 952, 953, 954, 955, 956] (by decide +kernel) (by decide +kernel)
set_option maxRecDepth 20000 in
theorem gL_law_X8_create : GoodIn wsL_law (wsV RL 129 RX8 yX8_create wsX8_create) := goodIn_app (goodIn_of _ (by decide +kernel)) ggL_law_X8_create
set_option maxRecDepth 20000 in
theorem ggL_law_L_renew : GoodIn wsL_law wsL_renew := goodIn_ca (goodIn_ca (goodIn_ca (goodIn_r _ [356, 154, 155, 126, 357, 358, 359, 2, 360, 24, 33, 32, 278, 279, 280, 281, 166, 167, 282, 77, 78, 79, 58, 80, 65, 180, 181, 182, 160, 161, 361, 362, 363, 364, 131, 132, 295, 296, 297, 298, 299, 300, 301, 302, 303, 64, 304, 305, 306, 307, 365, 366, 367, 368, 369, 61, 63, 62, 370, 371, 372, 373, 374, 375, 376, 377, 378, 379, 380, 381, 320, 321, 322, 31, 323, 92, 324, 91, 88, 89, 90, 325, 326, 327, 328, 329, 920, 921, 922, 923, 924, 925, 975, 976, 977, 978, 979, 980, 981, 982, 966, 967, 968, 969, 970, 971, 972, 973, 974, 983, 984, 985, 986, 987] (by decide +kernel) (by decide +kernel)) (goodIn_sub (fun _ h => List.mem_append_right _ h) (by decide +kernel))) (goodIn_sub (fun _ h => List.mem_append_left _ (List.mem_append_right _ h)) (by decide +kernel))) (goodIn_sub (fun _ h => List.mem_append_left _ (List.mem_append_left _ (List.mem_append_right _ h))) (by decide +kernel))
set_option maxRecDepth 20000 in
theorem gL_law_L_renew : GoodIn wsL_law (va_wsS RL 130 yL_renew wsL_renew) := goodIn_app (goodIn_of _ (by decide +kernel)) ggL_law_L_renew
set_option maxRecDepth 20000 in
theorem ggL_law_X8_renew : GoodIn wsL_law wsX8_renew := goodIn_r _ [385, 146, 109, 108, 110, 386, 387, 388, 5, 389, 105, 335, 336, 337, 338, 104, 390, 391, 392, 393, 334, 343, 344, 345, 346, 118, 347, 119, 120, 348, 121, 349, 350, 351, 352, 353, 926, 927, 928, 929, 930, 931, 932, 933, 934, 935, 936, 937, 938, 939, 940, 941, 942, 943, 944, 945, 946, 947, 948, 949, 950, 951, 952, 953, 954, 955, 956] (by decide +kernel) (by decide +kernel)
set_option maxRecDepth 20000 in
theorem gL_law_X8_renew : GoodIn wsL_law (wsV RL 133 RX8 yX8_renew wsX8_renew) := goodIn_app (goodIn_of _ (by decide +kernel)) ggL_law_X8_renew
set_option maxRecDepth 20000 in
theorem ggL_law_L_revoke : GoodIn wsL_law wsL_revoke := goodIn_ca (goodIn_ca (goodIn_r _ [396, 154, 126, 397, 398, 399, 2, 400, 278, 279, 280, 281, 166, 167, 24, 282, 77, 78, 79, 58, 80, 65, 361, 362, 363, 364, 131, 132, 295, 296, 297, 298, 299, 300, 301, 302, 303, 64, 304, 305, 306, 307, 401, 402, 403, 404, 32, 33, 405, 406, 407, 408, 409, 66, 410, 411, 412, 413, 414, 415, 416, 417, 28, 418, 419, 420, 23, 421, 54, 422, 423, 424, 425, 426, 427, 428, 429, 430, 431, 27, 432, 83, 433, 434, 435, 436, 437, 438, 439, 320, 321, 322, 31, 323, 92, 324, 91, 88, 89, 90, 325, 326, 327, 328, 329, 920, 921, 922, 923, 924, 925, 975, 976, 977, 978, 979, 980, 981, 982, 966, 967, 968, 969, 970, 971, 972, 973, 974, 983, 984, 985, 986, 987] (by decide +kernel) (by decide +kernel)) (goodIn_sub (fun _ h => List.mem_append_right _ h) (by decide +kernel))) (goodIn_sub (fun _ h => List.mem_append_left _ (List.mem_append_left _ (List.mem_append_right _ h))) (by decide +kernel))
set_option maxRecDepth 20000 in
theorem gL_law_L_revoke : GoodIn wsL_law (va_wsS RL 134 yL_revoke wsL_revoke) := goodIn_app (goodIn_of _ (by decide +kernel)) ggL_law_L_revoke
set_option maxRecDepth 20000 in
theorem ggL_law_X8_revoke : GoodIn wsL_law wsX8_revoke := goodIn_r _ [443, 146, 105, 386, 387, 388, 5, 389, 335, 336, 337, 338, 104, 444, 445, 446, 447, 109, 334, 106, 448, 112, 116, 113, 343, 344, 345, 346, 118, 347, 119, 120, 348, 121, 349, 350, 351, 352, 353, 926, 927, 928, 929, 930, 931, 932, 933, 934, 935, 936, 937, 938, 939, 940, 941, 942, 943, 944, 945, 946, 947, 948, 949, 950, 951, 952, 953, 954, 955, 956] (by decide +kernel) (by decide +kernel)
set_option maxRecDepth 20000 in
theorem gL_law_X8_revoke : GoodIn wsL_law (wsV RL 136 RX8 yX8_revoke wsX8_revoke) := goodIn_app (goodIn_of _ (by decide +kernel)) ggL_law_X8_revoke
set_option maxRecDepth 20000 in
theorem ggL_law_L_revokeAlone : GoodIn wsL_law wsL_revokeAlone := goodIn_ca (goodIn_ca (goodIn_r _ [451, 154, 126, 452, 453, 454, 2, 455, 24, 278, 279, 280, 281, 166, 167, 282, 77, 78, 79, 58, 80, 65, 361, 362, 363, 364, 131, 132, 295, 296, 297, 298, 299, 300, 301, 302, 303, 64, 304, 305, 306, 307, 456, 457, 458, 23, 459, 54, 422, 423, 424, 425, 426, 427, 401, 402, 403, 404, 32, 33, 405, 406, 407, 408, 409, 66, 410, 411, 412, 413, 414, 415, 416, 417, 28, 418, 419, 420, 421, 428, 429, 430, 431, 27, 432, 83, 433, 434, 435, 436, 437, 438, 439, 320, 321, 322, 31, 323, 92, 324, 91, 88, 89, 90, 325, 326, 327, 328, 329, 920, 921, 922, 923, 924, 925, 975, 976, 977, 978, 979, 980, 981, 982, 966, 967, 968, 969, 970, 971, 972, 973, 974, 983, 984, 985, 986, 987] (by decide +kernel) (by decide +kernel)) (goodIn_sub (fun _ h => List.mem_append_right _ h) (by decide +kernel))) (goodIn_sub (fun _ h => List.mem_append_left _ (List.mem_append_left _ (List.mem_append_right _ h))) (by decide +kernel))
set_option maxRecDepth 20000 in
theorem gL_law_L_revokeAlone : GoodIn wsL_law (va_wsS RL 137 yL_revokeAlone wsL_revokeAlone) := goodIn_app (goodIn_of _ (by decide +kernel)) ggL_law_L_revokeAlone
set_option maxRecDepth 20000 in
theorem ggL_law_X8_revokeAlone : GoodIn wsL_law wsX8_revokeAlone := goodIn_r _ [463, 146, 104, 106, 105, 386, 387, 388, 5, 389, 335, 336, 337, 338, 444, 445, 446, 447, 109, 334, 448, 112, 116, 113, 343, 344, 345, 346, 118, 347, 119, 120, 348, 121, 349, 350, 351, 352, 353, 926, 927, 928, 929, 930, 931, 932, 933, 934, 935, 936, 937, 938, 939, 940, 941, 942, 943, 944, 945, 946, 947, 948, 949, 950, 951, 952, 953, 954, 955, 956] (by decide +kernel) (by decide +kernel)
set_option maxRecDepth 20000 in
theorem gL_law_X8_revokeAlone : GoodIn wsL_law (wsV RL 139 RX8 yX8_revokeAlone wsX8_revokeAlone) := goodIn_app (goodIn_of _ (by decide +kernel)) ggL_law_X8_revokeAlone
set_option maxRecDepth 20000 in
theorem ggL_law_L_isAlive : GoodIn wsL_law wsL_isAlive := goodIn_ca (goodIn_r _ [466, 154, 467, 468, 469, 2, 470, 24, 278, 279, 280, 281, 166, 167, 282, 77, 78, 79, 58, 80, 65, 299, 300, 301, 302, 303, 64, 304, 305, 306, 307, 920, 921, 922, 923, 924, 925, 975, 976, 977, 978, 979, 980, 981, 982, 966, 967, 968, 969, 970, 971, 972, 973, 974] (by decide +kernel) (by decide +kernel)) (goodIn_sub (fun _ h => List.mem_append_right _ h) (by decide +kernel))
set_option maxRecDepth 20000 in
theorem gL_law_L_isAlive : GoodIn wsL_law (va_wsS RL 140 yL_isAlive wsL_isAlive) := goodIn_app (goodIn_of _ (by decide +kernel)) ggL_law_L_isAlive
set_option maxRecDepth 20000 in
theorem ggL_law_X8_isAlive : GoodIn wsL_law wsX8_isAlive := goodIn_r _ [474, 105, 475, 476, 477, 5, 478, 146, 335, 336, 337, 338, 104, 926, 927, 928, 929, 930, 931, 932, 933, 934, 935, 936, 937, 938, 939, 940, 941, 942, 943, 944, 945, 946, 947, 948, 949, 950, 951, 952, 953, 954, 955, 956] (by decide +kernel) (by decide +kernel)
set_option maxRecDepth 20000 in
theorem gL_law_X8_isAlive : GoodIn wsL_law (wsV RL 142 RX8 yX8_isAlive wsX8_isAlive) := goodIn_app (goodIn_of _ (by decide +kernel)) ggL_law_X8_isAlive
set_option maxRecDepth 20000 in
theorem ggL_law_L_parentOf : GoodIn wsL_law wsL_parentOf := goodIn_ca (goodIn_r _ [481, 154, 482, 483, 484, 2, 485, 24, 278, 279, 280, 281, 166, 167, 282, 77, 78, 79, 58, 80, 65, 486, 487, 488, 23, 489, 54, 76, 920, 921, 922, 923, 924, 925, 975, 976, 977, 978, 979, 980, 981, 982, 966, 967, 968, 969, 970, 971, 972, 973, 974] (by decide +kernel) (by decide +kernel)) (goodIn_sub (fun _ h => List.mem_append_right _ h) (by decide +kernel))
set_option maxRecDepth 20000 in
theorem gL_law_L_parentOf : GoodIn wsL_law (va_wsS RL 143 yL_parentOf wsL_parentOf) := goodIn_app (goodIn_of _ (by decide +kernel)) ggL_law_L_parentOf
set_option maxRecDepth 20000 in
theorem ggL_law_X8_parentOf : GoodIn wsL_law wsX8_parentOf := goodIn_r _ [493, 106, 475, 476, 477, 5, 478, 146, 335, 336, 337, 338, 104, 926, 927, 928, 929, 930, 931, 932, 933, 934, 935, 936, 937, 938, 939, 940, 941, 942, 943, 944, 945, 946, 947, 948, 949, 950, 951, 952, 953, 954, 955, 956] (by decide +kernel) (by decide +kernel)
set_option maxRecDepth 20000 in
theorem gL_law_X8_parentOf : GoodIn wsL_law (wsV RL 145 RX8 yX8_parentOf wsX8_parentOf) := goodIn_app (goodIn_of _ (by decide +kernel)) ggL_law_X8_parentOf
set_option maxRecDepth 20000 in
theorem ggL_law_L_endOf : GoodIn wsL_law wsL_endOf := goodIn_ca (goodIn_r _ [496, 154, 497, 498, 499, 2, 500, 24, 278, 279, 280, 281, 166, 167, 282, 77, 78, 79, 58, 80, 65, 377, 378, 379, 380, 381, 62, 304, 305, 306, 307, 920, 921, 922, 923, 924, 925, 975, 976, 977, 978, 979, 980, 981, 982, 966, 967, 968, 969, 970, 971, 972, 973, 974] (by decide +kernel) (by decide +kernel)) (goodIn_sub (fun _ h => List.mem_append_right _ h) (by decide +kernel))
set_option maxRecDepth 20000 in
theorem gL_law_L_endOf : GoodIn wsL_law (va_wsS RL 146 yL_endOf wsL_endOf) := goodIn_app (goodIn_of _ (by decide +kernel)) ggL_law_L_endOf
set_option maxRecDepth 20000 in
theorem ggL_law_X8_endOf : GoodIn wsL_law wsX8_endOf := goodIn_r _ [504, 109, 475, 476, 477, 5, 478, 146, 335, 336, 337, 338, 104, 926, 927, 928, 929, 930, 931, 932, 933, 934, 935, 936, 937, 938, 939, 940, 941, 942, 943, 944, 945, 946, 947, 948, 949, 950, 951, 952, 953, 954, 955, 956] (by decide +kernel) (by decide +kernel)
set_option maxRecDepth 20000 in
theorem gL_law_X8_endOf : GoodIn wsL_law (wsV RL 148 RX8 yX8_endOf wsX8_endOf) := goodIn_app (goodIn_of _ (by decide +kernel)) ggL_law_X8_endOf
set_option maxRecDepth 20000 in
theorem ggL_law_L_usesLeft : GoodIn wsL_law wsL_usesLeft := goodIn_ca (goodIn_r _ [507, 154, 508, 509, 510, 2, 511, 24, 278, 279, 280, 281, 166, 167, 282, 77, 78, 79, 58, 80, 65, 512, 513, 514, 23, 515, 56, 76, 920, 921, 922, 923, 924, 925, 975, 976, 977, 978, 979, 980, 981, 982, 966, 967, 968, 969, 970, 971, 972, 973, 974] (by decide +kernel) (by decide +kernel)) (goodIn_sub (fun _ h => List.mem_append_right _ h) (by decide +kernel))
set_option maxRecDepth 20000 in
theorem gL_law_L_usesLeft : GoodIn wsL_law (va_wsS RL 149 yL_usesLeft wsL_usesLeft) := goodIn_app (goodIn_of _ (by decide +kernel)) ggL_law_L_usesLeft
set_option maxRecDepth 20000 in
theorem ggL_law_X8_usesLeft : GoodIn wsL_law wsX8_usesLeft := goodIn_r _ [519, 111, 475, 476, 477, 5, 478, 146, 335, 336, 337, 338, 104, 926, 927, 928, 929, 930, 931, 932, 933, 934, 935, 936, 937, 938, 939, 940, 941, 942, 943, 944, 945, 946, 947, 948, 949, 950, 951, 952, 953, 954, 955, 956] (by decide +kernel) (by decide +kernel)
set_option maxRecDepth 20000 in
theorem gL_law_X8_usesLeft : GoodIn wsL_law (wsV RL 151 RX8 yX8_usesLeft wsX8_usesLeft) := goodIn_app (goodIn_of _ (by decide +kernel)) ggL_law_X8_usesLeft
set_option maxRecDepth 20000 in
theorem ggL_law_L_below : GoodIn wsL_law wsL_below := goodIn_ca (goodIn_r _ [522, 154, 523, 524, 525, 2, 526, 24, 278, 279, 280, 281, 166, 167, 282, 77, 78, 79, 58, 80, 65, 527, 528, 529, 23, 530, 422, 423, 424, 425, 426, 427, 300, 301, 302, 303, 64, 304, 305, 306, 307, 531, 532, 533, 534, 535, 487, 488, 489, 54, 76, 920, 921, 922, 923, 924, 925, 975, 976, 977, 978, 979, 980, 981, 982, 966, 967, 968, 969, 970, 971, 972, 973, 974] (by decide +kernel) (by decide +kernel)) (goodIn_sub (fun _ h => List.mem_append_right _ h) (by decide +kernel))
set_option maxRecDepth 20000 in
theorem gL_law_L_below : GoodIn wsL_law (va_wsS RL 152 yL_below wsL_below) := goodIn_app (goodIn_of _ (by decide +kernel)) ggL_law_L_below
set_option maxRecDepth 20000 in
theorem ggL_law_X8_below : GoodIn wsL_law wsX8_below := goodIn_r _ [539, 104, 105, 106, 475, 476, 477, 5, 478, 146, 335, 336, 337, 338, 926, 927, 928, 929, 930, 931, 932, 933, 934, 935, 936, 937, 938, 939, 940, 941, 942, 943, 944, 945, 946, 947, 948, 949, 950, 951, 952, 953, 954, 955, 956] (by decide +kernel) (by decide +kernel)
set_option maxRecDepth 20000 in
theorem gL_law_X8_below : GoodIn wsL_law (wsV RL 154 RX8 yX8_below wsX8_below) := goodIn_app (goodIn_of _ (by decide +kernel)) ggL_law_X8_below
set_option maxRecDepth 20000 in
theorem ggL_law_X7_tokens : GoodIn wsL_law wsX7_tokens := goodIn_r _ [543, 24, 308, 309, 310, 311, 58, 312, 66, 920, 921, 922, 923, 924, 925, 975, 976, 977, 978, 979, 980, 981, 982, 966, 967, 968, 969, 970, 971, 972, 973, 974] (by decide +kernel) (by decide +kernel)
set_option maxRecDepth 20000 in
theorem gL_law_X7_tokens : GoodIn wsL_law (wsV RL 155 RX7 yX7_tokens wsX7_tokens) := goodIn_app (goodIn_of _ (by decide +kernel)) ggL_law_X7_tokens
set_option maxRecDepth 20000 in
theorem ggL_law_X8_tokens : GoodIn wsL_law wsX8_tokens := goodIn_r _ [547, 146, 339, 340, 341, 5, 342, 104, 105, 926, 927, 928, 929, 930, 931, 932, 933, 934, 935, 936, 937, 938, 939, 940, 941, 942, 943, 944, 945, 946, 947, 948, 949, 950, 951, 952, 953, 954, 955, 956] (by decide +kernel) (by decide +kernel)
set_option maxRecDepth 20000 in
theorem gL_law_X8_tokens : GoodIn wsL_law (wsV RL 158 RX8 yX8_tokens wsX8_tokens) := goodIn_app (goodIn_of _ (by decide +kernel)) ggL_law_X8_tokens
set_option maxRecDepth 20000 in
theorem ggL_law_L_capabilities : GoodIn wsL_law wsL_capabilities := goodIn_ca (goodIn_ca (goodIn_r _ [550, 154, 155, 551, 552, 553, 2, 554, 278, 279, 280, 281, 166, 167, 24, 282, 77, 78, 79, 58, 80, 65, 238, 239, 240, 160, 161, 241, 242, 174, 243, 176, 177, 178, 179, 555, 556, 557, 558, 16, 291, 292, 293, 23, 294, 55, 76, 559, 560, 561, 15, 562, 43, 563, 564, 565, 566, 39, 41, 42, 187, 188, 189, 190, 38, 191, 169, 170, 171, 567, 568, 569, 570, 571, 572, 573, 574, 575, 576, 577, 578, 579, 580, 920, 921, 922, 923, 924, 925, 975, 976, 977, 978, 979, 980, 981, 982, 966, 967, 968, 969, 970, 971, 972, 973, 974, 957, 958, 959, 960, 961] (by decide +kernel) (by decide +kernel)) (goodIn_sub (fun _ h => List.mem_append_right _ h) (by decide +kernel))) (goodIn_sub (fun _ h => List.mem_append_left _ (List.mem_append_right _ h)) (by decide +kernel))
set_option maxRecDepth 20000 in
theorem gL_law_L_capabilities : GoodIn wsL_law (va_wsS RL 159 yL_capabilities wsL_capabilities) := goodIn_app (goodIn_of _ (by decide +kernel)) ggL_law_L_capabilities
set_option maxRecDepth 20000 in
theorem ggL_law_X8_capabilities : GoodIn wsL_law wsX8_capabilities := goodIn_r _ [584, 146, 335, 336, 337, 5, 338, 104, 265, 266, 267, 210, 211, 212, 213, 214, 215, 585, 586, 587, 588, 145, 107, 589, 590, 591, 592, 97, 100, 593, 594, 595, 596, 98, 99, 597, 598, 599, 600, 601, 602, 603, 604, 605, 606, 926, 927, 928, 929, 930, 931, 932, 933, 934, 935, 936, 937, 938, 939, 940, 941, 942, 943, 944, 945, 946, 947, 948, 949, 950, 951, 952, 953, 954, 955, 956] (by decide +kernel) (by decide +kernel)
set_option maxRecDepth 20000 in
theorem gL_law_X8_capabilities : GoodIn wsL_law (wsV RL 161 RX8 yX8_capabilities wsX8_capabilities) := goodIn_app (goodIn_of _ (by decide +kernel)) ggL_law_X8_capabilities
set_option maxRecDepth 20000 in
theorem ggL_law_L_request : GoodIn wsL_law wsL_request := goodIn_ca (goodIn_ca (goodIn_ca (goodIn_r _ [609, 154, 155, 126, 610, 611, 612, 2, 613, 131, 132, 28, 24, 32, 33, 278, 279, 280, 281, 166, 167, 282, 77, 78, 79, 58, 80, 65, 238, 239, 240, 160, 161, 241, 242, 174, 243, 176, 177, 178, 179, 614, 615, 616, 617, 20, 299, 300, 301, 302, 303, 64, 304, 305, 306, 307, 512, 513, 514, 23, 515, 56, 76, 618, 619, 620, 19, 621, 50, 47, 622, 623, 624, 570, 571, 572, 573, 574, 575, 555, 556, 557, 558, 16, 291, 292, 293, 294, 55, 559, 560, 561, 15, 562, 43, 563, 564, 565, 566, 39, 41, 42, 187, 188, 189, 190, 38, 191, 169, 170, 171, 567, 568, 569, 576, 577, 578, 579, 580, 625, 626, 627, 311, 312, 66, 628, 629, 630, 316, 317, 631, 632, 633, 634, 427, 320, 321, 322, 31, 323, 92, 324, 91, 88, 89, 90, 325, 326, 327, 328, 329, 635, 636, 637, 638, 639, 640, 641, 642, 48, 643, 644, 645, 646, 647, 648, 649, 650, 49, 651, 652, 653, 70, 71, 61, 62, 63, 654, 655, 656, 27, 657, 83, 84, 658, 659, 660, 920, 921, 922, 923, 924, 925, 975, 976, 977, 978, 979, 980, 981, 982, 966, 967, 968, 969, 970, 971, 972, 973, 974, 962, 963, 964, 965, 957, 958, 959, 960, 961, 983, 984, 985, 986, 987] (by decide +kernel) (by decide +kernel)) (goodIn_sub (fun _ h => List.mem_append_left _ (List.mem_append_left _ (List.mem_append_right _ h))) (by decide +kernel))) (goodIn_sub (fun _ h => List.mem_append_right _ h) (by decide +kernel))) (goodIn_sub (fun _ h => List.mem_append_left _ (List.mem_append_right _ h)) (by decide +kernel))
set_option maxRecDepth 20000 in
theorem gL_law_L_request : GoodIn wsL_law (va_wsS RL 162 yL_request wsL_request) := goodIn_app (goodIn_of _ (by decide +kernel)) ggL_law_L_request
set_option maxRecDepth 20000 in
theorem ggL_law_X8_request : GoodIn wsL_law wsX8_request := goodIn_r _ [664, 146, 111, 105, 112, 448, 113, 114, 115, 334, 116, 102, 117, 103, 335, 336, 337, 5, 338, 104, 265, 266, 267, 210, 211, 212, 213, 214, 215, 665, 666, 667, 668, 669, 670, 671, 672, 264, 101, 673, 674, 675, 600, 601, 602, 585, 586, 587, 588, 145, 107, 589, 590, 591, 592, 97, 100, 593, 594, 595, 596, 98, 99, 597, 598, 599, 603, 604, 605, 606, 676, 677, 678, 679, 343, 344, 345, 346, 118, 347, 119, 120, 348, 121, 349, 350, 351, 352, 353, 926, 927, 928, 929, 930, 931, 932, 933, 934, 935, 936, 937, 938, 939, 940, 941, 942, 943, 944, 945, 946, 947, 948, 949, 950, 951, 952, 953, 954, 955, 956] (by decide +kernel) (by decide +kernel)
set_option maxRecDepth 20000 in
theorem gL_law_X8_request : GoodIn wsL_law (wsV RL 164 RX8 yX8_request wsX8_request) := goodIn_app (goodIn_of _ (by decide +kernel)) ggL_law_X8_request
set_option maxRecDepth 20000 in
theorem ggL_law_L_whyDenied : GoodIn wsL_law wsL_whyDenied := goodIn_ca (goodIn_ca (goodIn_r _ [682, 154, 155, 683, 684, 685, 2, 686, 278, 279, 280, 281, 166, 167, 24, 282, 77, 78, 79, 58, 80, 65, 238, 239, 240, 160, 161, 241, 242, 174, 243, 176, 177, 178, 179, 614, 615, 616, 617, 20, 299, 300, 301, 302, 303, 64, 304, 305, 306, 307, 512, 513, 514, 23, 515, 56, 76, 618, 619, 620, 19, 621, 50, 47, 622, 623, 624, 570, 571, 572, 573, 574, 575, 555, 556, 557, 558, 16, 291, 292, 293, 294, 55, 559, 560, 561, 15, 562, 43, 563, 564, 565, 566, 39, 41, 42, 187, 188, 189, 190, 38, 191, 169, 170, 171, 567, 568, 569, 576, 577, 578, 579, 580, 920, 921, 922, 923, 924, 925, 975, 976, 977, 978, 979, 980, 981, 982, 966, 967, 968, 969, 970, 971, 972, 973, 974, 962, 963, 964, 965, 957, 958, 959, 960, 961] (by decide +kernel) (by decide +kernel)) (goodIn_sub (fun _ h => List.mem_append_right _ h) (by decide +kernel))) (goodIn_sub (fun _ h => List.mem_append_left _ (List.mem_append_right _ h)) (by decide +kernel))
set_option maxRecDepth 20000 in
theorem gL_law_L_whyDenied : GoodIn wsL_law (va_wsS RL 165 yL_whyDenied wsL_whyDenied) := goodIn_app (goodIn_of _ (by decide +kernel)) ggL_law_L_whyDenied
set_option maxRecDepth 20000 in
theorem ggL_law_X8_whyDenied : GoodIn wsL_law wsX8_whyDenied := goodIn_r _ [690, 146, 335, 336, 337, 5, 338, 104, 265, 266, 267, 210, 211, 212, 213, 214, 215, 665, 666, 667, 668, 105, 111, 669, 670, 671, 672, 264, 101, 673, 674, 675, 600, 601, 602, 585, 586, 587, 588, 145, 107, 589, 590, 591, 592, 97, 100, 593, 594, 595, 596, 98, 99, 597, 598, 599, 603, 604, 605, 606, 926, 927, 928, 929, 930, 931, 932, 933, 934, 935, 936, 937, 938, 939, 940, 941, 942, 943, 944, 945, 946, 947, 948, 949, 950, 951, 952, 953, 954, 955, 956] (by decide +kernel) (by decide +kernel)
set_option maxRecDepth 20000 in
theorem gL_law_X8_whyDenied : GoodIn wsL_law (wsV RL 167 RX8 yX8_whyDenied wsX8_whyDenied) := goodIn_app (goodIn_of _ (by decide +kernel)) ggL_law_X8_whyDenied
set_option maxRecDepth 20000 in
theorem ggL_law_L_renewCredential : GoodIn wsL_law wsL_renewCredential := goodIn_ca (goodIn_ca (goodIn_ca (goodIn_r _ [693, 154, 155, 126, 694, 695, 696, 2, 697, 131, 132, 28, 33, 32, 698, 699, 700, 701, 166, 167, 702, 659, 660, 79, 58, 80, 65, 180, 181, 182, 160, 161, 703, 704, 705, 302, 303, 64, 304, 305, 306, 307, 706, 707, 708, 368, 369, 61, 63, 62, 370, 371, 372, 373, 374, 375, 376, 709, 710, 711, 380, 381, 712, 713, 714, 27, 715, 83, 658, 320, 321, 322, 31, 323, 92, 324, 91, 88, 89, 90, 325, 326, 327, 328, 329, 920, 921, 922, 923, 924, 925, 975, 976, 977, 978, 979, 980, 981, 982, 966, 967, 968, 969, 970, 971, 972, 973, 974, 983, 984, 985, 986, 987] (by decide +kernel) (by decide +kernel)) (goodIn_sub (fun _ h => List.mem_append_left _ (List.mem_append_left _ (List.mem_append_right _ h))) (by decide +kernel))) (goodIn_sub (fun _ h => List.mem_append_right _ h) (by decide +kernel))) (goodIn_sub (fun _ h => List.mem_append_left _ (List.mem_append_right _ h)) (by decide +kernel))
set_option maxRecDepth 20000 in
theorem gL_law_L_renewCredential : GoodIn wsL_law (va_wsS RL 168 yL_renewCredential wsL_renewCredential) := goodIn_app (goodIn_of _ (by decide +kernel)) ggL_law_L_renewCredential
set_option maxRecDepth 20000 in
theorem ggL_law_X8_renewCredential : GoodIn wsL_law wsX8_renewCredential := goodIn_r _ [719, 112, 146, 116, 115, 117, 113, 720, 721, 722, 5, 723, 448, 390, 391, 392, 393, 334, 343, 344, 345, 346, 118, 347, 119, 120, 348, 121, 349, 350, 351, 352, 353, 926, 927, 928, 929, 930, 931, 932, 933, 934, 935, 936, 937, 938, 939, 940, 941, 942, 943, 944, 945, 946, 947, 948, 949, 950, 951, 952, 953, 954, 955, 956] (by decide +kernel) (by decide +kernel)
set_option maxRecDepth 20000 in
theorem gL_law_X8_renewCredential : GoodIn wsL_law (wsV RL 170 RX8 yX8_renewCredential wsX8_renewCredential) := goodIn_app (goodIn_of _ (by decide +kernel)) ggL_law_X8_renewCredential
set_option maxRecDepth 20000 in
theorem ggL_law_L_revokeBelow : GoodIn wsL_law wsL_revokeBelow := goodIn_ca (goodIn_r _ [726, 155, 727, 728, 729, 2, 730, 28, 32, 33, 238, 239, 240, 160, 161, 241, 242, 174, 243, 176, 177, 178, 179, 731, 732, 733, 27, 734, 84, 433, 434, 435, 425, 58, 426, 65, 735, 623, 624, 570, 571, 572, 573, 574, 575, 437, 438, 439, 408, 409, 64, 66, 410, 411, 412, 302, 303, 304, 305, 306, 79, 80, 307, 413, 320, 321, 322, 31, 323, 92, 324, 91, 88, 89, 90, 325, 326, 327, 328, 329, 920, 921, 922, 923, 924, 925, 975, 976, 977, 978, 979, 980, 981, 982, 966, 967, 968, 969, 970, 971, 972, 973, 974, 983, 984, 985, 986, 987] (by decide +kernel) (by decide +kernel)) (goodIn_sub (fun _ h => List.mem_append_left _ (List.mem_append_right _ h)) (by decide +kernel))
set_option maxRecDepth 20000 in
theorem gL_law_L_revokeBelow : GoodIn wsL_law (va_wsS RL 171 yL_revokeBelow wsL_revokeBelow) := goodIn_app (goodIn_of _ (by decide +kernel)) ggL_law_L_revokeBelow
set_option maxRecDepth 20000 in
theorem ggL_law_X8_revokeBelow : GoodIn wsL_law wsX8_revokeBelow := goodIn_r _ [739, 146, 448, 112, 114, 265, 266, 5, 267, 210, 211, 212, 213, 214, 215, 673, 674, 675, 600, 601, 602, 343, 344, 345, 346, 118, 347, 119, 120, 348, 121, 349, 350, 351, 352, 334, 353, 926, 927, 928, 929, 930, 931, 932, 933, 934, 935, 936, 937, 938, 939, 940, 941, 942, 943, 944, 945, 946, 947, 948, 949, 950, 951, 952, 953, 954, 955, 956] (by decide +kernel) (by decide +kernel)
set_option maxRecDepth 20000 in
theorem gL_law_X8_revokeBelow : GoodIn wsL_law (wsV RL 173 RX8 yX8_revokeBelow wsX8_revokeBelow) := goodIn_app (goodIn_of _ (by decide +kernel)) ggL_law_X8_revokeBelow
set_option maxRecDepth 20000 in
theorem ggL_law_L_works : GoodIn wsL_law wsL_works := goodIn_ca (goodIn_r _ [742, 154, 743, 744, 745, 2, 746, 28, 698, 699, 700, 701, 166, 167, 702, 659, 660, 79, 58, 80, 65, 703, 704, 705, 302, 303, 64, 304, 305, 306, 307, 920, 921, 922, 923, 924, 925, 975, 976, 977, 978, 979, 980, 981, 982, 966, 967, 968, 969, 970, 971, 972, 973, 974] (by decide +kernel) (by decide +kernel)) (goodIn_sub (fun _ h => List.mem_append_right _ h) (by decide +kernel))
set_option maxRecDepth 20000 in
theorem gL_law_L_works : GoodIn wsL_law (va_wsS RL 174 yL_works wsL_works) := goodIn_app (goodIn_of _ (by decide +kernel)) ggL_law_L_works
set_option maxRecDepth 20000 in
theorem ggL_law_X8_works : GoodIn wsL_law wsX8_works := goodIn_r _ [750, 146, 112, 720, 721, 722, 5, 723, 448, 926, 927, 928, 929, 930, 931, 932, 933, 934, 935, 936, 937, 938, 939, 940, 941, 942, 943, 944, 945, 946, 947, 948, 949, 950, 951, 952, 953, 954, 955, 956] (by decide +kernel) (by decide +kernel)
set_option maxRecDepth 20000 in
theorem gL_law_X8_works : GoodIn wsL_law (wsV RL 176 RX8 yX8_works wsX8_works) := goodIn_app (goodIn_of _ (by decide +kernel)) ggL_law_X8_works
set_option maxRecDepth 20000 in
theorem ggL_law_L_endOfCredential : GoodIn wsL_law wsL_endOfCredential := goodIn_ca (goodIn_r _ [753, 154, 754, 755, 756, 2, 757, 28, 698, 699, 700, 701, 166, 167, 702, 659, 660, 79, 58, 80, 65, 709, 710, 711, 380, 381, 62, 304, 305, 306, 307, 920, 921, 922, 923, 924, 925, 975, 976, 977, 978, 979, 980, 981, 982, 966, 967, 968, 969, 970, 971, 972, 973, 974] (by decide +kernel) (by decide +kernel)) (goodIn_sub (fun _ h => List.mem_append_right _ h) (by decide +kernel))
set_option maxRecDepth 20000 in
theorem gL_law_L_endOfCredential : GoodIn wsL_law (va_wsS RL 177 yL_endOfCredential wsL_endOfCredential) := goodIn_app (goodIn_of _ (by decide +kernel)) ggL_law_L_endOfCredential
set_option maxRecDepth 20000 in
theorem ggL_law_X8_endOfCredential : GoodIn wsL_law wsX8_endOfCredential := goodIn_r _ [761, 146, 116, 720, 721, 722, 5, 723, 448, 926, 927, 928, 929, 930, 931, 932, 933, 934, 935, 936, 937, 938, 939, 940, 941, 942, 943, 944, 945, 946, 947, 948, 949, 950, 951, 952, 953, 954, 955, 956] (by decide +kernel) (by decide +kernel)
set_option maxRecDepth 20000 in
theorem gL_law_X8_endOfCredential : GoodIn wsL_law (wsV RL 179 RX8 yX8_endOfCredential wsX8_endOfCredential) := goodIn_app (goodIn_of _ (by decide +kernel)) ggL_law_X8_endOfCredential
set_option maxRecDepth 20000 in
theorem ggL_law_X7_credentials : GoodIn wsL_law wsX7_credentials := goodIn_r _ [765, 28, 625, 626, 627, 311, 58, 312, 66, 920, 921, 922, 923, 924, 925, 975, 976, 977, 978, 979, 980, 981, 982, 966, 967, 968, 969, 970, 971, 972, 973, 974] (by decide +kernel) (by decide +kernel)
set_option maxRecDepth 20000 in
theorem gL_law_X7_credentials : GoodIn wsL_law (wsV RL 180 RX7 yX7_credentials wsX7_credentials) := goodIn_app (goodIn_of _ (by decide +kernel)) ggL_law_X7_credentials
set_option maxRecDepth 20000 in
theorem ggL_law_X8_credentials : GoodIn wsL_law wsX8_credentials := goodIn_r _ [769, 146, 676, 677, 678, 5, 679, 448, 112, 926, 927, 928, 929, 930, 931, 932, 933, 934, 935, 936, 937, 938, 939, 940, 941, 942, 943, 944, 945, 946, 947, 948, 949, 950, 951, 952, 953, 954, 955, 956] (by decide +kernel) (by decide +kernel)
set_option maxRecDepth 20000 in
theorem gL_law_X8_credentials : GoodIn wsL_law (wsV RL 183 RX8 yX8_credentials wsX8_credentials) := goodIn_app (goodIn_of _ (by decide +kernel)) ggL_law_X8_credentials
set_option maxRecDepth 20000 in
theorem ggL_law_L_credentialsOf : GoodIn wsL_law wsL_credentialsOf := goodIn_ca (goodIn_r _ [772, 154, 773, 774, 775, 2, 776, 28, 278, 279, 280, 281, 166, 167, 24, 282, 77, 78, 79, 58, 80, 65, 777, 778, 779, 27, 780, 83, 433, 434, 435, 425, 426, 781, 704, 705, 302, 303, 64, 304, 305, 306, 307, 920, 921, 922, 923, 924, 925, 975, 976, 977, 978, 979, 980, 981, 982, 966, 967, 968, 969, 970, 971, 972, 973, 974] (by decide +kernel) (by decide +kernel)) (goodIn_sub (fun _ h => List.mem_append_right _ h) (by decide +kernel))
set_option maxRecDepth 20000 in
theorem gL_law_L_credentialsOf : GoodIn wsL_law (va_wsS RL 184 yL_credentialsOf wsL_credentialsOf) := goodIn_app (goodIn_of _ (by decide +kernel)) ggL_law_L_credentialsOf
set_option maxRecDepth 20000 in
theorem ggL_law_X8_credentialsOf : GoodIn wsL_law wsX8_credentialsOf := goodIn_r _ [785, 448, 112, 113, 475, 476, 477, 5, 478, 146, 335, 336, 337, 338, 104, 926, 927, 928, 929, 930, 931, 932, 933, 934, 935, 936, 937, 938, 939, 940, 941, 942, 943, 944, 945, 946, 947, 948, 949, 950, 951, 952, 953, 954, 955, 956] (by decide +kernel) (by decide +kernel)
set_option maxRecDepth 20000 in
theorem gL_law_X8_credentialsOf : GoodIn wsL_law (wsV RL 186 RX8 yX8_credentialsOf wsX8_credentialsOf) := goodIn_app (goodIn_of _ (by decide +kernel)) ggL_law_X8_credentialsOf
set_option maxRecDepth 20000 in
theorem ggL_law_L_pass : GoodIn wsL_law wsL_pass := goodIn_ca (goodIn_r _ [788, 155, 789, 790, 791, 2, 792, 33, 24, 28, 32, 180, 181, 182, 160, 161, 793, 794, 795, 796, 58, 797, 65, 62, 798, 799, 800, 408, 409, 64, 66, 410, 411, 412, 302, 303, 304, 305, 306, 79, 80, 307, 413, 801, 802, 803, 804, 414, 415, 416, 417, 418, 419, 420, 23, 421, 54, 422, 423, 424, 425, 426, 427, 300, 301, 428, 406, 407, 429, 430, 431, 27, 432, 83, 433, 434, 435, 436, 437, 438, 439, 320, 321, 322, 31, 323, 92, 324, 91, 88, 89, 90, 325, 326, 327, 328, 329, 920, 921, 922, 923, 924, 925, 975, 976, 977, 978, 979, 980, 981, 982, 966, 967, 968, 969, 970, 971, 972, 973, 974, 983, 984, 985, 986, 987] (by decide +kernel) (by decide +kernel)) (goodIn_sub (fun _ h => List.mem_append_left _ (List.mem_append_right _ h)) (by decide +kernel))
set_option maxRecDepth 20000 in
theorem gL_law_L_pass : GoodIn wsL_law (va_wsS RL 187 yL_pass wsL_pass) := goodIn_app (goodIn_of _ (by decide +kernel)) ggL_law_L_pass
set_option maxRecDepth 20000 in
theorem ggL_law_X8_pass : GoodIn wsL_law wsX8_pass := goodIn_r _ [808, 146, 334, 444, 445, 446, 5, 447, 104, 105, 109, 106, 448, 112, 116, 113, 343, 344, 345, 346, 118, 347, 119, 120, 348, 121, 349, 350, 351, 352, 353, 926, 927, 928, 929, 930, 931, 932, 933, 934, 935, 936, 937, 938, 939, 940, 941, 942, 943, 944, 945, 946, 947, 948, 949, 950, 951, 952, 953, 954, 955, 956] (by decide +kernel) (by decide +kernel)
set_option maxRecDepth 20000 in
theorem gL_law_X8_pass : GoodIn wsL_law (wsV RL 189 RX8 yX8_pass wsX8_pass) := goodIn_app (goodIn_of _ (by decide +kernel)) ggL_law_X8_pass
set_option maxRecDepth 20000 in
theorem ggL_law_X7_time : GoodIn wsL_law wsX7_time := goodIn_r _ [812, 33, 920, 921, 922, 923, 924, 925] (by decide +kernel) (by decide +kernel)
set_option maxRecDepth 20000 in
theorem gL_law_X7_time : GoodIn wsL_law (wsV RL 190 RX7 yX7_time wsX7_time) := goodIn_app (goodIn_of _ (by decide +kernel)) ggL_law_X7_time
set_option maxRecDepth 20000 in
theorem ggL_law_X8_time : GoodIn wsL_law wsX8_time := goodIn_r _ [816, 146, 334, 926, 927, 928, 929, 930, 931, 932, 933, 934, 935, 936, 937, 938, 939, 940, 941, 942, 943, 944, 945, 946, 947, 948, 949, 950, 951, 952, 953, 954, 955, 956] (by decide +kernel) (by decide +kernel)
set_option maxRecDepth 20000 in
theorem gL_law_X8_time : GoodIn wsL_law (wsV RL 193 RX8 yX8_time wsX8_time) := goodIn_app (goodIn_of _ (by decide +kernel)) ggL_law_X8_time
set_option maxRecDepth 20000 in
theorem ggL_law_X7_nextEnd : GoodIn wsL_law wsX7_nextEnd := goodIn_r _ [820, 24, 28, 821, 375, 372, 376, 822, 371, 373, 823, 824, 825, 826, 58, 827, 65, 64, 62, 828, 829, 830, 920, 921, 922, 923, 924, 925, 975, 976, 977, 978, 979, 980, 981, 982, 966, 967, 968, 969, 970, 971, 972, 973, 974] (by decide +kernel) (by decide +kernel)
set_option maxRecDepth 20000 in
theorem gL_law_X7_nextEnd : GoodIn wsL_law (wsV RL 194 RX7 yX7_nextEnd wsX7_nextEnd) := goodIn_app (goodIn_of _ (by decide +kernel)) ggL_law_X7_nextEnd
set_option maxRecDepth 20000 in
theorem ggL_law_X8_nextEnd : GoodIn wsL_law wsX8_nextEnd := goodIn_r _ [834, 146, 104, 105, 109, 448, 112, 116, 926, 927, 928, 929, 930, 931, 932, 933, 934, 935, 936, 937, 938, 939, 940, 941, 942, 943, 944, 945, 946, 947, 948, 949, 950, 951, 952, 953, 954, 955, 956] (by decide +kernel) (by decide +kernel)
set_option maxRecDepth 20000 in
theorem gL_law_X8_nextEnd : GoodIn wsL_law (wsV RL 197 RX8 yX8_nextEnd wsX8_nextEnd) := goodIn_app (goodIn_of _ (by decide +kernel)) ggL_law_X8_nextEnd
set_option maxRecDepth 20000 in
theorem ggL_law_X7_entries : GoodIn wsL_law wsX7_entries := goodIn_r _ [838, 32, 839, 840, 841, 31, 842, 92, 920, 921, 922, 923, 924, 925, 983, 984, 985, 986, 987] (by decide +kernel) (by decide +kernel)
set_option maxRecDepth 20000 in
theorem gL_law_X7_entries : GoodIn wsL_law (wsV RL 198 RX7 yX7_entries wsX7_entries) := goodIn_app (goodIn_of _ (by decide +kernel)) ggL_law_X7_entries
set_option maxRecDepth 20000 in
theorem ggL_law_X8_entries : GoodIn wsL_law wsX8_entries := goodIn_r _ [846, 146, 347, 926, 927, 928, 929, 930, 931, 932, 933, 934, 935, 936, 937, 938, 939, 940, 941, 942, 943, 944, 945, 946, 947, 948, 949, 950, 951, 952, 953, 954, 955, 956] (by decide +kernel) (by decide +kernel)
set_option maxRecDepth 20000 in
theorem gL_law_X8_entries : GoodIn wsL_law (wsV RL 201 RX8 yX8_entries wsX8_entries) := goodIn_app (goodIn_of _ (by decide +kernel)) ggL_law_X8_entries
set_option maxRecDepth 20000 in
theorem ggL_law_L_kindOf : GoodIn wsL_law wsL_kindOf := goodIn_ca (goodIn_r _ [849, 154, 850, 851, 852, 2, 853, 32, 854, 855, 856, 857, 166, 167, 858, 859, 860, 31, 861, 92, 862, 863, 864, 865, 88, 866, 920, 921, 922, 923, 924, 925, 983, 984, 985, 986, 987] (by decide +kernel) (by decide +kernel)) (goodIn_sub (fun _ h => List.mem_append_right _ h) (by decide +kernel))
set_option maxRecDepth 20000 in
theorem gL_law_L_kindOf : GoodIn wsL_law (va_wsS RL 202 yL_kindOf wsL_kindOf) := goodIn_app (goodIn_of _ (by decide +kernel)) ggL_law_L_kindOf
set_option maxRecDepth 20000 in
theorem ggL_law_X8_kindOf : GoodIn wsL_law wsX8_kindOf := goodIn_r _ [870, 118, 871, 872, 873, 5, 874, 347, 146, 926, 927, 928, 929, 930, 931, 932, 933, 934, 935, 936, 937, 938, 939, 940, 941, 942, 943, 944, 945, 946, 947, 948, 949, 950, 951, 952, 953, 954, 955, 956] (by decide +kernel) (by decide +kernel)
set_option maxRecDepth 20000 in
theorem gL_law_X8_kindOf : GoodIn wsL_law (wsV RL 204 RX8 yX8_kindOf wsX8_kindOf) := goodIn_app (goodIn_of _ (by decide +kernel)) ggL_law_X8_kindOf
set_option maxRecDepth 20000 in
theorem ggL_law_L_subjectOf : GoodIn wsL_law wsL_subjectOf := goodIn_ca (goodIn_r _ [877, 154, 878, 879, 880, 2, 881, 32, 854, 855, 856, 857, 166, 167, 858, 859, 860, 31, 861, 92, 882, 883, 884, 885, 89, 866, 920, 921, 922, 923, 924, 925, 983, 984, 985, 986, 987] (by decide +kernel) (by decide +kernel)) (goodIn_sub (fun _ h => List.mem_append_right _ h) (by decide +kernel))
set_option maxRecDepth 20000 in
theorem gL_law_L_subjectOf : GoodIn wsL_law (va_wsS RL 205 yL_subjectOf wsL_subjectOf) := goodIn_app (goodIn_of _ (by decide +kernel)) ggL_law_L_subjectOf
set_option maxRecDepth 20000 in
theorem ggL_law_X8_subjectOf : GoodIn wsL_law wsX8_subjectOf := goodIn_r _ [889, 119, 871, 872, 873, 5, 874, 347, 146, 926, 927, 928, 929, 930, 931, 932, 933, 934, 935, 936, 937, 938, 939, 940, 941, 942, 943, 944, 945, 946, 947, 948, 949, 950, 951, 952, 953, 954, 955, 956] (by decide +kernel) (by decide +kernel)
set_option maxRecDepth 20000 in
theorem gL_law_X8_subjectOf : GoodIn wsL_law (wsV RL 207 RX8 yX8_subjectOf wsX8_subjectOf) := goodIn_app (goodIn_of _ (by decide +kernel)) ggL_law_X8_subjectOf
set_option maxRecDepth 20000 in
theorem ggL_law_L_detailOf : GoodIn wsL_law wsL_detailOf := goodIn_ca (goodIn_r _ [892, 154, 893, 894, 895, 2, 896, 32, 854, 855, 856, 857, 166, 167, 858, 859, 860, 31, 861, 92, 897, 898, 899, 900, 90, 866, 920, 921, 922, 923, 924, 925, 983, 984, 985, 986, 987] (by decide +kernel) (by decide +kernel)) (goodIn_sub (fun _ h => List.mem_append_right _ h) (by decide +kernel))
set_option maxRecDepth 20000 in
theorem gL_law_L_detailOf : GoodIn wsL_law (va_wsS RL 208 yL_detailOf wsL_detailOf) := goodIn_app (goodIn_of _ (by decide +kernel)) ggL_law_L_detailOf
set_option maxRecDepth 20000 in
theorem ggL_law_X8_detailOf : GoodIn wsL_law wsX8_detailOf := goodIn_r _ [904, 120, 871, 872, 873, 5, 874, 347, 146, 926, 927, 928, 929, 930, 931, 932, 933, 934, 935, 936, 937, 938, 939, 940, 941, 942, 943, 944, 945, 946, 947, 948, 949, 950, 951, 952, 953, 954, 955, 956] (by decide +kernel) (by decide +kernel)
set_option maxRecDepth 20000 in
theorem gL_law_X8_detailOf : GoodIn wsL_law (wsV RL 210 RX8 yX8_detailOf wsX8_detailOf) := goodIn_app (goodIn_of _ (by decide +kernel)) ggL_law_X8_detailOf
set_option maxRecDepth 20000 in
theorem ggL_law_L_sumOf : GoodIn wsL_law wsL_sumOf := goodIn_ca (goodIn_r _ [907, 154, 908, 909, 910, 2, 911, 32, 854, 855, 856, 857, 166, 167, 858, 859, 860, 31, 861, 92, 912, 913, 914, 915, 91, 866, 920, 921, 922, 923, 924, 925, 983, 984, 985, 986, 987] (by decide +kernel) (by decide +kernel)) (goodIn_sub (fun _ h => List.mem_append_right _ h) (by decide +kernel))
set_option maxRecDepth 20000 in
theorem gL_law_L_sumOf : GoodIn wsL_law (va_wsS RL 211 yL_sumOf wsL_sumOf) := goodIn_app (goodIn_of _ (by decide +kernel)) ggL_law_L_sumOf
set_option maxRecDepth 20000 in
theorem ggL_law_X8_sumOf : GoodIn wsL_law wsX8_sumOf := goodIn_r _ [919, 121, 871, 872, 873, 5, 874, 347, 146, 926, 927, 928, 929, 930, 931, 932, 933, 934, 935, 936, 937, 938, 939, 940, 941, 942, 943, 944, 945, 946, 947, 948, 949, 950, 951, 952, 953, 954, 955, 956] (by decide +kernel) (by decide +kernel)
set_option maxRecDepth 20000 in
theorem gL_law_X8_sumOf : GoodIn wsL_law (wsV RL 213 RX8 yX8_sumOf wsX8_sumOf) := goodIn_app (goodIn_of _ (by decide +kernel)) ggL_law_X8_sumOf
theorem dL_law_0 : decode cL_law 0 = .ok (.new 8, 3) := by decide +kernel
theorem dL_law_3 : decode cL_law 3 = .ok (.dup, 1) := by decide +kernel
theorem dL_law_4 : decode cL_law 4 = .ok (.invokespecial 101, 3) := by decide +kernel
theorem dL_law_7 : decode cL_law 7 = .ok (.astore_n 1, 1) := by decide +kernel
theorem dL_law_8 : decode cL_law 8 = .ok (.new 102, 3) := by decide +kernel
theorem dL_law_11 : decode cL_law 11 = .ok (.dup, 1) := by decide +kernel
theorem dL_law_12 : decode cL_law 12 = .ok (.invokespecial 104, 3) := by decide +kernel
theorem dL_law_15 : decode cL_law 15 = .ok (.astore_n 2, 1) := by decide +kernel
theorem dL_law_16 : decode cL_law 16 = .ok (.iconst 1, 1) := by decide +kernel
theorem dL_law_17 : decode cL_law 17 = .ok (.newarray .long, 2) := by decide +kernel
