theorem inlX0 : ∀ w ∈ wsX00, w ∈ wsL_law := fun _ h => List.mem_append_left _ (List.mem_append_left _ (List.mem_append_left _ (List.mem_append_left _ (List.mem_append_right _ h))))
theorem inlX1 : ∀ w ∈ wsX10, w ∈ wsL_law := fun _ h => List.mem_append_left _ (List.mem_append_left _ (List.mem_append_left _ (List.mem_append_left _ (List.mem_append_left _ (List.mem_append_right _ h)))))
theorem inlX3 : ∀ w ∈ wsX30, w ∈ wsL_law := fun _ h => List.mem_append_left _ (List.mem_append_left _ (List.mem_append_left _ (List.mem_append_left _ (List.mem_append_left _ (List.mem_append_left _ (List.mem_append_left _ (List.mem_append_right _ h)))))))
theorem inlX5 : ∀ w ∈ wsX50, w ∈ wsL_law := fun _ h => List.mem_append_left _ (List.mem_append_left _ (List.mem_append_left _ (List.mem_append_left _ (List.mem_append_left _ (List.mem_append_left _ (List.mem_append_left _ (List.mem_append_left _ (List.mem_append_right _ h))))))))
theorem inlX6 : ∀ w ∈ wsX60, w ∈ wsL_law := fun _ h => List.mem_append_left _ (List.mem_append_left _ (List.mem_append_left _ (List.mem_append_left _ (List.mem_append_left _ (List.mem_append_left _ (List.mem_append_right _ h))))))
theorem inlX7 : ∀ w ∈ wsX70, w ∈ wsL_law := fun _ h => List.mem_append_left _ (List.mem_append_left _ (List.mem_append_left _ (List.mem_append_left _ (List.mem_append_left _ (List.mem_append_left _ (List.mem_append_left _ (List.mem_append_left _ (List.mem_append_left _ (List.mem_append_right _ h)))))))))
theorem dL_cell_0 : decode cL_cell 0 = .ok (.iload_n 1, 1) := by decide +kernel
theorem dL_cell_1 : decode cL_cell 1 = .ok (.aload_n 0, 1) := by decide +kernel
theorem dL_cell_2 : decode cL_cell 2 = .ok (.arraylength, 1) := by decide +kernel
theorem dL_cell_3 : decode cL_cell 3 = .ok (.if_icmp .ge 9, 3) := by decide +kernel
theorem dL_cell_6 : decode cL_cell 6 = .ok (.aload_n 0, 1) := by decide +kernel
theorem dL_cell_7 : decode cL_cell 7 = .ok (.iload_n 1, 1) := by decide +kernel
theorem dL_cell_8 : decode cL_cell 8 = .ok (.iaload, 1) := by decide +kernel
theorem dL_cell_9 : decode cL_cell 9 = .ok (.goto 12, 3) := by decide +kernel
theorem dL_cell_12 : decode cL_cell 12 = .ok (.ldc 7, 2) := by decide +kernel
theorem dL_cell_14 : decode cL_cell 14 = .ok (.iload_n 1, 1) := by decide +kernel
theorem dL_cell_15 : decode cL_cell 15 = .ok (.iconst 1, 1) := by decide +kernel
theorem dL_cell_16 : decode cL_cell 16 = .ok (.iadd, 1) := by decide +kernel
theorem dL_cell_17 : decode cL_cell 17 = .ok (.imul, 1) := by decide +kernel
theorem dL_cell_18 : decode cL_cell 18 = .ok (.ldc 8, 2) := by decide +kernel
theorem dL_cell_20 : decode cL_cell 20 = .ok (.iadd, 1) := by decide +kernel
theorem dL_cell_21 : decode cL_cell 21 = .ok (.ireturn, 1) := by decide +kernel
theorem dL_low_0 : decode cL_low 0 = .ok (.iload_n 0, 1) := by decide +kernel
theorem dL_low_1 : decode cL_low 1 = .ok (.ldc 9, 2) := by decide +kernel
theorem dL_low_3 : decode cL_low 3 = .ok (.iand, 1) := by decide +kernel
theorem dL_low_4 : decode cL_low 4 = .ok (.iload_n 1, 1) := by decide +kernel
theorem dL_low_5 : decode cL_low 5 = .ok (.irem, 1) := by decide +kernel
theorem dL_low_6 : decode cL_low 6 = .ok (.ireturn, 1) := by decide +kernel
theorem dL_ten_0 : decode cL_ten 0 = .ok (.iconst 1, 1) := by decide +kernel
theorem dL_ten_1 : decode cL_ten 1 = .ok (.istore_n 1, 1) := by decide +kernel
theorem dL_ten_2 : decode cL_ten 2 = .ok (.iconst 0, 1) := by decide +kernel
theorem dL_ten_3 : decode cL_ten 3 = .ok (.istore_n 2, 1) := by decide +kernel
theorem dL_ten_4 : decode cL_ten 4 = .ok (.iload_n 2, 1) := by decide +kernel
theorem dL_ten_5 : decode cL_ten 5 = .ok (.iload_n 0, 1) := by decide +kernel
theorem dL_ten_6 : decode cL_ten 6 = .ok (.if_icmp .ge 14, 3) := by decide +kernel
theorem dL_ten_9 : decode cL_ten 9 = .ok (.iload_n 1, 1) := by decide +kernel
theorem dL_ten_10 : decode cL_ten 10 = .ok (.bipush 10, 2) := by decide +kernel
theorem dL_ten_12 : decode cL_ten 12 = .ok (.imul, 1) := by decide +kernel
theorem dL_ten_13 : decode cL_ten 13 = .ok (.istore_n 1, 1) := by decide +kernel
theorem dL_ten_14 : decode cL_ten 14 = .ok (.iinc 2 1, 3) := by decide +kernel
theorem dL_ten_17 : decode cL_ten 17 = .ok (.goto (-13), 3) := by decide +kernel
theorem dL_ten_20 : decode cL_ten 20 = .ok (.iload_n 1, 1) := by decide +kernel
theorem dL_ten_21 : decode cL_ten 21 = .ok (.ireturn, 1) := by decide +kernel
set_option maxRecDepth 20000 in
theorem ggL_digits_L_ten : GoodIn wsL_digits wsL_ten := goodIn_r _ [4] (by decide +kernel) (by decide +kernel)
set_option maxRecDepth 20000 in
theorem gL_digits_L_ten : GoodIn wsL_digits (va_wsS RL 10 yL_ten wsL_ten) := goodIn_app (goodIn_of _ (by decide +kernel)) ggL_digits_L_ten
theorem dL_digits_0 : decode cL_digits 0 = .ok (.iconst 0, 1) := by decide +kernel
theorem dL_digits_1 : decode cL_digits 1 = .ok (.istore_n 1, 1) := by decide +kernel
theorem dL_digits_2 : decode cL_digits 2 = .ok (.iload_n 0, 1) := by decide +kernel
theorem dL_digits_3 : decode cL_digits 3 = .ok (.iload_n 1, 1) := by decide +kernel
theorem dL_digits_4 : decode cL_digits 4 = .ok (.invokestatic 10, 3) := by decide +kernel
theorem dL_digits_7 : decode cL_digits 7 = .ok (.if_icmp .lt 9, 3) := by decide +kernel
theorem dL_digits_10 : decode cL_digits 10 = .ok (.iinc 1 1, 3) := by decide +kernel
theorem dL_digits_13 : decode cL_digits 13 = .ok (.goto (-11), 3) := by decide +kernel
theorem dL_digits_16 : decode cL_digits 16 = .ok (.iload_n 1, 1) := by decide +kernel
theorem dL_digits_17 : decode cL_digits 17 = .ok (.ireturn, 1) := by decide +kernel
set_option maxRecDepth 20000 in
theorem ggL_isBelow_L_digits : GoodIn wsL_isBelow wsL_digits := goodIn_r _ [4, 5, 6, 3, 7] (by decide +kernel) (by decide +kernel)
set_option maxRecDepth 20000 in
theorem gL_isBelow_L_digits : GoodIn wsL_isBelow (va_wsS RL 16 yL_digits wsL_digits) := goodIn_app (goodIn_of _ (by decide +kernel)) ggL_isBelow_L_digits
set_option maxRecDepth 20000 in
theorem ggL_isBelow_L_ten : GoodIn wsL_isBelow wsL_ten := goodIn_r _ [7] (by decide +kernel) (by decide +kernel)
set_option maxRecDepth 20000 in
theorem gL_isBelow_L_ten : GoodIn wsL_isBelow (va_wsS RL 10 yL_ten wsL_ten) := goodIn_app (goodIn_of _ (by decide +kernel)) ggL_isBelow_L_ten
theorem dL_isBelow_0 : decode cL_isBelow 0 = .ok (.iload_n 0, 1) := by decide +kernel
theorem dL_isBelow_1 : decode cL_isBelow 1 = .ok (.invokestatic 16, 3) := by decide +kernel
theorem dL_isBelow_4 : decode cL_isBelow 4 = .ok (.iload_n 1, 1) := by decide +kernel
theorem dL_isBelow_5 : decode cL_isBelow 5 = .ok (.invokestatic 16, 3) := by decide +kernel
theorem dL_isBelow_8 : decode cL_isBelow 8 = .ok (.isub, 1) := by decide +kernel
theorem dL_isBelow_9 : decode cL_isBelow 9 = .ok (.istore_n 2, 1) := by decide +kernel
theorem dL_isBelow_10 : decode cL_isBelow 10 = .ok (.iload_n 2, 1) := by decide +kernel
theorem dL_isBelow_11 : decode cL_isBelow 11 = .ok (.ifCond .lt 17, 3) := by decide +kernel
theorem dL_isBelow_14 : decode cL_isBelow 14 = .ok (.iload_n 0, 1) := by decide +kernel
theorem dL_isBelow_15 : decode cL_isBelow 15 = .ok (.iload_n 2, 1) := by decide +kernel
theorem dL_isBelow_16 : decode cL_isBelow 16 = .ok (.invokestatic 10, 3) := by decide +kernel
theorem dL_isBelow_19 : decode cL_isBelow 19 = .ok (.idiv, 1) := by decide +kernel
theorem dL_isBelow_20 : decode cL_isBelow 20 = .ok (.iload_n 1, 1) := by decide +kernel
theorem dL_isBelow_21 : decode cL_isBelow 21 = .ok (.if_icmp .ne 7, 3) := by decide +kernel
theorem dL_isBelow_24 : decode cL_isBelow 24 = .ok (.iconst 1, 1) := by decide +kernel
theorem dL_isBelow_25 : decode cL_isBelow 25 = .ok (.goto 4, 3) := by decide +kernel
theorem dL_isBelow_28 : decode cL_isBelow 28 = .ok (.iconst 0, 1) := by decide +kernel
theorem dL_isBelow_29 : decode cL_isBelow 29 = .ok (.ireturn, 1) := by decide +kernel
set_option maxRecDepth 20000 in
theorem ggL_fit_L_digits : GoodIn wsL_fit wsL_digits := goodIn_r _ [4, 5, 6, 3, 7] (by decide +kernel) (by decide +kernel)
set_option maxRecDepth 20000 in
theorem gL_fit_L_digits : GoodIn wsL_fit (va_wsS RL 16 yL_digits wsL_digits) := goodIn_app (goodIn_of _ (by decide +kernel)) ggL_fit_L_digits
set_option maxRecDepth 20000 in
theorem ggL_fit_L_ten : GoodIn wsL_fit wsL_ten := goodIn_r _ [7] (by decide +kernel) (by decide +kernel)
set_option maxRecDepth 20000 in
theorem gL_fit_L_ten : GoodIn wsL_fit (va_wsS RL 10 yL_ten wsL_ten) := goodIn_app (goodIn_of _ (by decide +kernel)) ggL_fit_L_ten
theorem dL_fit_0 : decode cL_fit 0 = .ok (.iload_n 0, 1) := by decide +kernel
theorem dL_fit_1 : decode cL_fit 1 = .ok (.invokestatic 16, 3) := by decide +kernel
theorem dL_fit_4 : decode cL_fit 4 = .ok (.istore_n 3, 1) := by decide +kernel
theorem dL_fit_5 : decode cL_fit 5 = .ok (.iload_n 2, 1) := by decide +kernel
theorem dL_fit_6 : decode cL_fit 6 = .ok (.invokestatic 16, 3) := by decide +kernel
theorem dL_fit_9 : decode cL_fit 9 = .ok (.iload_n 3, 1) := by decide +kernel
theorem dL_fit_10 : decode cL_fit 10 = .ok (.isub, 1) := by decide +kernel
theorem dL_fit_11 : decode cL_fit 11 = .ok (.istore 4, 2) := by decide +kernel
theorem dL_fit_13 : decode cL_fit 13 = .ok (.iload 4, 2) := by decide +kernel
theorem dL_fit_15 : decode cL_fit 15 = .ok (.ifCond .lt 12, 3) := by decide +kernel
theorem dL_fit_18 : decode cL_fit 18 = .ok (.iload_n 1, 1) := by decide +kernel
theorem dL_fit_19 : decode cL_fit 19 = .ok (.ifCond .ne 10, 3) := by decide +kernel
theorem dL_fit_22 : decode cL_fit 22 = .ok (.iload 4, 2) := by decide +kernel
theorem dL_fit_24 : decode cL_fit 24 = .ok (.ifCond .le 5, 3) := by decide +kernel
theorem dL_fit_27 : decode cL_fit 27 = .ok (.iconst 0, 1) := by decide +kernel
theorem dL_fit_28 : decode cL_fit 28 = .ok (.ireturn, 1) := by decide +kernel
theorem dL_fit_29 : decode cL_fit 29 = .ok (.iconst 0, 1) := by decide +kernel
theorem dL_fit_30 : decode cL_fit 30 = .ok (.istore 5, 2) := by decide +kernel
theorem dL_fit_32 : decode cL_fit 32 = .ok (.iconst 0, 1) := by decide +kernel
theorem dL_fit_33 : decode cL_fit 33 = .ok (.istore 6, 2) := by decide +kernel
theorem dL_fit_35 : decode cL_fit 35 = .ok (.iload 6, 2) := by decide +kernel
theorem dL_fit_37 : decode cL_fit 37 = .ok (.iload_n 3, 1) := by decide +kernel
theorem dL_fit_38 : decode cL_fit 38 = .ok (.if_icmp .ge 68, 3) := by decide +kernel
theorem dL_fit_41 : decode cL_fit 41 = .ok (.iload_n 0, 1) := by decide +kernel
theorem dL_fit_42 : decode cL_fit 42 = .ok (.iload 6, 2) := by decide +kernel
theorem dL_fit_44 : decode cL_fit 44 = .ok (.invokestatic 10, 3) := by decide +kernel
theorem dL_fit_47 : decode cL_fit 47 = .ok (.idiv, 1) := by decide +kernel
theorem dL_fit_48 : decode cL_fit 48 = .ok (.bipush 10, 2) := by decide +kernel
theorem dL_fit_50 : decode cL_fit 50 = .ok (.irem, 1) := by decide +kernel
theorem dL_fit_51 : decode cL_fit 51 = .ok (.istore 7, 2) := by decide +kernel
theorem dL_fit_53 : decode cL_fit 53 = .ok (.iload 7, 2) := by decide +kernel
theorem dL_fit_55 : decode cL_fit 55 = .ok (.bipush 9, 2) := by decide +kernel
theorem dL_fit_57 : decode cL_fit 57 = .ok (.if_icmp .eq 23, 3) := by decide +kernel
theorem dL_fit_60 : decode cL_fit 60 = .ok (.iload 7, 2) := by decide +kernel
theorem dL_fit_62 : decode cL_fit 62 = .ok (.iload_n 2, 1) := by decide +kernel
theorem dL_fit_63 : decode cL_fit 63 = .ok (.iload 4, 2) := by decide +kernel
theorem dL_fit_65 : decode cL_fit 65 = .ok (.iload 6, 2) := by decide +kernel
theorem dL_fit_67 : decode cL_fit 67 = .ok (.iadd, 1) := by decide +kernel
theorem dL_fit_68 : decode cL_fit 68 = .ok (.invokestatic 10, 3) := by decide +kernel
theorem dL_fit_71 : decode cL_fit 71 = .ok (.idiv, 1) := by decide +kernel
theorem dL_fit_72 : decode cL_fit 72 = .ok (.bipush 10, 2) := by decide +kernel
theorem dL_fit_74 : decode cL_fit 74 = .ok (.irem, 1) := by decide +kernel
theorem dL_fit_75 : decode cL_fit 75 = .ok (.if_icmp .eq 5, 3) := by decide +kernel
theorem dL_fit_78 : decode cL_fit 78 = .ok (.iconst 0, 1) := by decide +kernel
theorem dL_fit_79 : decode cL_fit 79 = .ok (.ireturn, 1) := by decide +kernel
theorem dL_fit_80 : decode cL_fit 80 = .ok (.iload 5, 2) := by decide +kernel
theorem dL_fit_82 : decode cL_fit 82 = .ok (.iload 7, 2) := by decide +kernel
theorem dL_fit_84 : decode cL_fit 84 = .ok (.bipush 9, 2) := by decide +kernel
theorem dL_fit_86 : decode cL_fit 86 = .ok (.if_icmp .ne 10, 3) := by decide +kernel
theorem dL_fit_89 : decode cL_fit 89 = .ok (.iconst 1, 1) := by decide +kernel
theorem dL_fit_90 : decode cL_fit 90 = .ok (.iload 6, 2) := by decide +kernel
theorem dL_fit_92 : decode cL_fit 92 = .ok (.ishl, 1) := by decide +kernel
theorem dL_fit_93 : decode cL_fit 93 = .ok (.goto 4, 3) := by decide +kernel
theorem dL_fit_96 : decode cL_fit 96 = .ok (.iconst 0, 1) := by decide +kernel
theorem dL_fit_97 : decode cL_fit 97 = .ok (.iadd, 1) := by decide +kernel
theorem dL_fit_98 : decode cL_fit 98 = .ok (.istore 5, 2) := by decide +kernel
theorem dL_fit_100 : decode cL_fit 100 = .ok (.iinc 6 1, 3) := by decide +kernel
theorem dL_fit_103 : decode cL_fit 103 = .ok (.goto (-68), 3) := by decide +kernel
theorem dL_fit_106 : decode cL_fit 106 = .ok (.iconst 2, 1) := by decide +kernel
theorem dL_fit_107 : decode cL_fit 107 = .ok (.iload_n 3, 1) := by decide +kernel
theorem dL_fit_108 : decode cL_fit 108 = .ok (.imul, 1) := by decide +kernel
theorem dL_fit_109 : decode cL_fit 109 = .ok (.iconst 1, 1) := by decide +kernel
theorem dL_fit_110 : decode cL_fit 110 = .ok (.iadd, 1) := by decide +kernel
theorem dL_fit_111 : decode cL_fit 111 = .ok (.iload_n 1, 1) := by decide +kernel
theorem dL_fit_112 : decode cL_fit 112 = .ok (.isub, 1) := by decide +kernel
theorem dL_fit_113 : decode cL_fit 113 = .ok (.bipush 64, 2) := by decide +kernel
theorem dL_fit_115 : decode cL_fit 115 = .ok (.imul, 1) := by decide +kernel
theorem dL_fit_116 : decode cL_fit 116 = .ok (.bipush 63, 2) := by decide +kernel
theorem dL_fit_118 : decode cL_fit 118 = .ok (.iadd, 1) := by decide +kernel
theorem dL_fit_119 : decode cL_fit 119 = .ok (.iload 5, 2) := by decide +kernel
theorem dL_fit_121 : decode cL_fit 121 = .ok (.isub, 1) := by decide +kernel
theorem dL_fit_122 : decode cL_fit 122 = .ok (.ireturn, 1) := by decide +kernel
set_option maxRecDepth 20000 in
theorem ggL_can_L_fit : GoodIn wsL_can wsL_fit := goodIn_r _ [4, 5, 6, 3, 7, 8, 9, 10] (by decide +kernel) (by decide +kernel)
set_option maxRecDepth 20000 in
theorem gL_can_L_fit : GoodIn wsL_can (va_wsS RL 19 yL_fit wsL_fit) := goodIn_app (goodIn_of _ (by decide +kernel)) ggL_can_L_fit
theorem dL_can_0 : decode cL_can 0 = .ok (.iload_n 0, 1) := by decide +kernel
theorem dL_can_1 : decode cL_can 1 = .ok (.ifCond .ne 6, 3) := by decide +kernel
theorem dL_can_4 : decode cL_can 4 = .ok (.bipush 7, 2) := by decide +kernel
theorem dL_can_6 : decode cL_can 6 = .ok (.ireturn, 1) := by decide +kernel
theorem dL_can_7 : decode cL_can 7 = .ok (.iconst 0, 1) := by decide +kernel
theorem dL_can_8 : decode cL_can 8 = .ok (.istore 6, 2) := by decide +kernel
theorem dL_can_10 : decode cL_can 10 = .ok (.iconst 0, 1) := by decide +kernel
theorem dL_can_11 : decode cL_can 11 = .ok (.istore 7, 2) := by decide +kernel
theorem dL_can_13 : decode cL_can 13 = .ok (.iload 7, 2) := by decide +kernel
theorem dL_can_15 : decode cL_can 15 = .ok (.iconst 3, 1) := by decide +kernel
theorem dL_can_16 : decode cL_can 16 = .ok (.if_icmp .ge 125, 3) := by decide +kernel
theorem dL_can_19 : decode cL_can 19 = .ok (.iconst 0, 1) := by decide +kernel
theorem dL_can_20 : decode cL_can 20 = .ok (.istore 8, 2) := by decide +kernel
theorem dL_can_22 : decode cL_can 22 = .ok (.iconst 0, 1) := by decide +kernel
theorem dL_can_23 : decode cL_can 23 = .ok (.istore 9, 2) := by decide +kernel
theorem dL_can_25 : decode cL_can 25 = .ok (.bipush 6, 2) := by decide +kernel
theorem dL_can_27 : decode cL_can 27 = .ok (.iload 7, 2) := by decide +kernel
theorem dL_can_29 : decode cL_can 29 = .ok (.imul, 1) := by decide +kernel
theorem dL_can_30 : decode cL_can 30 = .ok (.istore 10, 2) := by decide +kernel
theorem dL_can_32 : decode cL_can 32 = .ok (.iload 10, 2) := by decide +kernel
theorem dL_can_34 : decode cL_can 34 = .ok (.bipush 6, 2) := by decide +kernel
theorem dL_can_36 : decode cL_can 36 = .ok (.iload 7, 2) := by decide +kernel
theorem dL_can_38 : decode cL_can 38 = .ok (.imul, 1) := by decide +kernel
theorem dL_can_39 : decode cL_can 39 = .ok (.aload 5, 2) := by decide +kernel
theorem dL_can_41 : decode cL_can 41 = .ok (.iload 7, 2) := by decide +kernel
theorem dL_can_43 : decode cL_can 43 = .ok (.iaload, 1) := by decide +kernel
theorem dL_can_44 : decode cL_can 44 = .ok (.iadd, 1) := by decide +kernel
theorem dL_can_45 : decode cL_can 45 = .ok (.if_icmp .ge 64, 3) := by decide +kernel
theorem dL_can_48 : decode cL_can 48 = .ok (.aload_n 3, 1) := by decide +kernel
theorem dL_can_49 : decode cL_can 49 = .ok (.iload 10, 2) := by decide +kernel
theorem dL_can_51 : decode cL_can 51 = .ok (.iaload, 1) := by decide +kernel
theorem dL_can_52 : decode cL_can 52 = .ok (.bipush 10, 2) := by decide +kernel
theorem dL_can_54 : decode cL_can 54 = .ok (.idiv, 1) := by decide +kernel
theorem dL_can_55 : decode cL_can 55 = .ok (.aload_n 3, 1) := by decide +kernel
theorem dL_can_56 : decode cL_can 56 = .ok (.iload 10, 2) := by decide +kernel
theorem dL_can_58 : decode cL_can 58 = .ok (.iaload, 1) := by decide +kernel
theorem dL_can_59 : decode cL_can 59 = .ok (.bipush 10, 2) := by decide +kernel
theorem dL_can_61 : decode cL_can 61 = .ok (.irem, 1) := by decide +kernel
theorem dL_can_62 : decode cL_can 62 = .ok (.iload_n 1, 1) := by decide +kernel
theorem dL_can_63 : decode cL_can 63 = .ok (.invokestatic 19, 3) := by decide +kernel
theorem dL_can_66 : decode cL_can 66 = .ok (.istore 11, 2) := by decide +kernel
theorem dL_can_68 : decode cL_can 68 = .ok (.iload 11, 2) := by decide +kernel
theorem dL_can_70 : decode cL_can 70 = .ok (.iload 8, 2) := by decide +kernel
theorem dL_can_72 : decode cL_can 72 = .ok (.if_icmp .le 11, 3) := by decide +kernel
theorem dL_can_75 : decode cL_can 75 = .ok (.aload 4, 2) := by decide +kernel
theorem dL_can_77 : decode cL_can 77 = .ok (.iload 10, 2) := by decide +kernel
theorem dL_can_79 : decode cL_can 79 = .ok (.iaload, 1) := by decide +kernel
theorem dL_can_80 : decode cL_can 80 = .ok (.goto 5, 3) := by decide +kernel
theorem dL_can_83 : decode cL_can 83 = .ok (.iload 9, 2) := by decide +kernel
theorem dL_can_85 : decode cL_can 85 = .ok (.istore 9, 2) := by decide +kernel
theorem dL_can_87 : decode cL_can 87 = .ok (.iload 11, 2) := by decide +kernel
theorem dL_can_89 : decode cL_can 89 = .ok (.iload 8, 2) := by decide +kernel
theorem dL_can_91 : decode cL_can 91 = .ok (.if_icmp .le 8, 3) := by decide +kernel
theorem dL_can_94 : decode cL_can 94 = .ok (.iload 11, 2) := by decide +kernel
theorem dL_can_96 : decode cL_can 96 = .ok (.goto 5, 3) := by decide +kernel
theorem dL_can_99 : decode cL_can 99 = .ok (.iload 8, 2) := by decide +kernel
theorem dL_can_101 : decode cL_can 101 = .ok (.istore 8, 2) := by decide +kernel
theorem dL_can_103 : decode cL_can 103 = .ok (.iinc 10 1, 3) := by decide +kernel
theorem dL_can_106 : decode cL_can 106 = .ok (.goto (-74), 3) := by decide +kernel
theorem dL_can_109 : decode cL_can 109 = .ok (.iload 6, 2) := by decide +kernel
theorem dL_can_111 : decode cL_can 111 = .ok (.aload_n 2, 1) := by decide +kernel
theorem dL_can_112 : decode cL_can 112 = .ok (.iconst 5, 1) := by decide +kernel
theorem dL_can_113 : decode cL_can 113 = .ok (.iload_n 0, 1) := by decide +kernel
theorem dL_can_114 : decode cL_can 114 = .ok (.imul, 1) := by decide +kernel
theorem dL_can_115 : decode cL_can 115 = .ok (.iconst 1, 1) := by decide +kernel
theorem dL_can_116 : decode cL_can 116 = .ok (.iadd, 1) := by decide +kernel
theorem dL_can_117 : decode cL_can 117 = .ok (.iaload, 1) := by decide +kernel
theorem dL_can_118 : decode cL_can 118 = .ok (.iload 7, 2) := by decide +kernel
theorem dL_can_120 : decode cL_can 120 = .ok (.ishr, 1) := by decide +kernel
theorem dL_can_121 : decode cL_can 121 = .ok (.iconst 1, 1) := by decide +kernel
theorem dL_can_122 : decode cL_can 122 = .ok (.iand, 1) := by decide +kernel
theorem dL_can_123 : decode cL_can 123 = .ok (.ifCond .ne 7, 3) := by decide +kernel
theorem dL_can_126 : decode cL_can 126 = .ok (.iconst 0, 1) := by decide +kernel
theorem dL_can_127 : decode cL_can 127 = .ok (.goto 5, 3) := by decide +kernel
theorem dL_can_130 : decode cL_can 130 = .ok (.iload 9, 2) := by decide +kernel
theorem dL_can_132 : decode cL_can 132 = .ok (.ior, 1) := by decide +kernel
theorem dL_can_133 : decode cL_can 133 = .ok (.istore 6, 2) := by decide +kernel
theorem dL_can_135 : decode cL_can 135 = .ok (.iinc 7 1, 3) := by decide +kernel
theorem dL_can_138 : decode cL_can 138 = .ok (.goto (-125), 3) := by decide +kernel
theorem dL_can_141 : decode cL_can 141 = .ok (.iload 6, 2) := by decide +kernel
theorem dL_can_143 : decode cL_can 143 = .ok (.bipush 7, 2) := by decide +kernel
theorem dL_can_145 : decode cL_can 145 = .ok (.if_icmp .le 7, 3) := by decide +kernel
theorem dL_can_148 : decode cL_can 148 = .ok (.iconst 0, 1) := by decide +kernel
theorem dL_can_149 : decode cL_can 149 = .ok (.goto 5, 3) := by decide +kernel
theorem dL_can_152 : decode cL_can 152 = .ok (.iload 6, 2) := by decide +kernel
theorem dL_can_154 : decode cL_can 154 = .ok (.ireturn, 1) := by decide +kernel
theorem dL_lives_0 : decode cL_lives 0 = .ok (.iload_n 0, 1) := by decide +kernel
theorem dL_lives_1 : decode cL_lives 1 = .ok (.istore_n 3, 1) := by decide +kernel
theorem dL_lives_2 : decode cL_lives 2 = .ok (.iload_n 3, 1) := by decide +kernel
theorem dL_lives_3 : decode cL_lives 3 = .ok (.ifCond .le 35, 3) := by decide +kernel
theorem dL_lives_6 : decode cL_lives 6 = .ok (.aload_n 2, 1) := by decide +kernel
theorem dL_lives_7 : decode cL_lives 7 = .ok (.iconst 5, 1) := by decide +kernel
theorem dL_lives_8 : decode cL_lives 8 = .ok (.iload_n 3, 1) := by decide +kernel
theorem dL_lives_9 : decode cL_lives 9 = .ok (.imul, 1) := by decide +kernel
theorem dL_lives_10 : decode cL_lives 10 = .ok (.iconst 2, 1) := by decide +kernel
theorem dL_lives_11 : decode cL_lives 11 = .ok (.iadd, 1) := by decide +kernel
theorem dL_lives_12 : decode cL_lives 12 = .ok (.iaload, 1) := by decide +kernel
theorem dL_lives_13 : decode cL_lives 13 = .ok (.aload_n 1, 1) := by decide +kernel
theorem dL_lives_14 : decode cL_lives 14 = .ok (.iconst 0, 1) := by decide +kernel
theorem dL_lives_15 : decode cL_lives 15 = .ok (.iaload, 1) := by decide +kernel
theorem dL_lives_16 : decode cL_lives 16 = .ok (.if_icmp .le 22, 3) := by decide +kernel
theorem dL_lives_19 : decode cL_lives 19 = .ok (.aload_n 2, 1) := by decide +kernel
theorem dL_lives_20 : decode cL_lives 20 = .ok (.iconst 5, 1) := by decide +kernel
theorem dL_lives_21 : decode cL_lives 21 = .ok (.iload_n 3, 1) := by decide +kernel
theorem dL_lives_22 : decode cL_lives 22 = .ok (.imul, 1) := by decide +kernel
theorem dL_lives_23 : decode cL_lives 23 = .ok (.iconst 3, 1) := by decide +kernel
theorem dL_lives_24 : decode cL_lives 24 = .ok (.iadd, 1) := by decide +kernel
theorem dL_lives_25 : decode cL_lives 25 = .ok (.iaload, 1) := by decide +kernel
theorem dL_lives_26 : decode cL_lives 26 = .ok (.ifCond .lt 12, 3) := by decide +kernel
theorem dL_lives_29 : decode cL_lives 29 = .ok (.aload_n 2, 1) := by decide +kernel
theorem dL_lives_30 : decode cL_lives 30 = .ok (.iconst 5, 1) := by decide +kernel
theorem dL_lives_31 : decode cL_lives 31 = .ok (.iload_n 3, 1) := by decide +kernel
theorem dL_lives_32 : decode cL_lives 32 = .ok (.imul, 1) := by decide +kernel
theorem dL_lives_33 : decode cL_lives 33 = .ok (.iaload, 1) := by decide +kernel
theorem dL_lives_34 : decode cL_lives 34 = .ok (.istore_n 3, 1) := by decide +kernel
theorem dL_lives_35 : decode cL_lives 35 = .ok (.goto (-33), 3) := by decide +kernel
theorem dL_lives_38 : decode cL_lives 38 = .ok (.iload_n 3, 1) := by decide +kernel
theorem dL_lives_39 : decode cL_lives 39 = .ok (.ifCond .gt 7, 3) := by decide +kernel
theorem dL_lives_42 : decode cL_lives 42 = .ok (.iconst 1, 1) := by decide +kernel
theorem dL_lives_43 : decode cL_lives 43 = .ok (.goto 4, 3) := by decide +kernel
theorem dL_lives_46 : decode cL_lives 46 = .ok (.iconst 0, 1) := by decide +kernel
theorem dL_lives_47 : decode cL_lives 47 = .ok (.ireturn, 1) := by decide +kernel
set_option maxRecDepth 20000 in
theorem ggL_works_L_lives : GoodIn wsL_works wsL_lives := goodIn_r _ [4] (by decide +kernel) (by decide +kernel)
set_option maxRecDepth 20000 in
theorem gL_works_L_lives : GoodIn wsL_works (va_wsS RL 23 yL_lives wsL_lives) := goodIn_app (goodIn_of _ (by decide +kernel)) ggL_works_L_lives
theorem dL_works_0 : decode cL_works 0 = .ok (.aload_n 3, 1) := by decide +kernel
theorem dL_works_1 : decode cL_works 1 = .ok (.iconst 5, 1) := by decide +kernel
theorem dL_works_2 : decode cL_works 2 = .ok (.iload_n 0, 1) := by decide +kernel
theorem dL_works_3 : decode cL_works 3 = .ok (.imul, 1) := by decide +kernel
theorem dL_works_4 : decode cL_works 4 = .ok (.iconst 4, 1) := by decide +kernel
theorem dL_works_5 : decode cL_works 5 = .ok (.iadd, 1) := by decide +kernel
theorem dL_works_6 : decode cL_works 6 = .ok (.iaload, 1) := by decide +kernel
theorem dL_works_7 : decode cL_works 7 = .ok (.ifCond .ne 33, 3) := by decide +kernel
theorem dL_works_10 : decode cL_works 10 = .ok (.aload_n 3, 1) := by decide +kernel
theorem dL_works_11 : decode cL_works 11 = .ok (.iconst 5, 1) := by decide +kernel
theorem dL_works_12 : decode cL_works 12 = .ok (.iload_n 0, 1) := by decide +kernel
theorem dL_works_13 : decode cL_works 13 = .ok (.imul, 1) := by decide +kernel
theorem dL_works_14 : decode cL_works 14 = .ok (.iconst 2, 1) := by decide +kernel
theorem dL_works_15 : decode cL_works 15 = .ok (.iadd, 1) := by decide +kernel
theorem dL_works_16 : decode cL_works 16 = .ok (.iaload, 1) := by decide +kernel
theorem dL_works_17 : decode cL_works 17 = .ok (.aload_n 1, 1) := by decide +kernel
theorem dL_works_18 : decode cL_works 18 = .ok (.iconst 0, 1) := by decide +kernel
theorem dL_works_19 : decode cL_works 19 = .ok (.iaload, 1) := by decide +kernel
theorem dL_works_20 : decode cL_works 20 = .ok (.if_icmp .le 20, 3) := by decide +kernel
theorem dL_works_23 : decode cL_works 23 = .ok (.aload_n 3, 1) := by decide +kernel
theorem dL_works_24 : decode cL_works 24 = .ok (.iconst 5, 1) := by decide +kernel
