theorem dX5_add_0 : decode cX5_add 0 = .ok (.aload_n 0, 1) := by decide +kernel
theorem dX5_add_1 : decode cX5_add 1 = .ok (.dup, 1) := by decide +kernel
theorem dX5_add_2 : decode cX5_add 2 = .ok (.getfield 25, 3) := by decide +kernel
theorem dX5_add_5 : decode cX5_add 5 = .ok (.iconst 1, 1) := by decide +kernel
theorem dX5_add_6 : decode cX5_add 6 = .ok (.iadd, 1) := by decide +kernel
theorem dX5_add_7 : decode cX5_add 7 = .ok (.putfield 25, 3) := by decide +kernel
theorem dX5_add_10 : decode cX5_add 10 = .ok (.aload_n 0, 1) := by decide +kernel
theorem dX5_add_11 : decode cX5_add 11 = .ok (.getfield 25, 3) := by decide +kernel
theorem dX5_add_14 : decode cX5_add 14 = .ok (.iconst 1, 1) := by decide +kernel
theorem dX5_add_15 : decode cX5_add 15 = .ok (.isub, 1) := by decide +kernel
theorem dX5_add_16 : decode cX5_add 16 = .ok (.ireturn, 1) := by decide +kernel
set_option maxRecDepth 20000 in
theorem ggX5_rulesOf_X5_has : GoodIn wsX5_rulesOf wsX5_has := goodIn_r _ [6, 7, 8, 9, 10, 11, 12] (by decide +kernel) (by decide +kernel)
set_option maxRecDepth 20000 in
theorem gX5_rulesOf_X5_has : GoodIn wsX5_rulesOf (wsV RX5 29 RX5 yX5_has wsX5_has) := goodIn_app (goodIn_of _ (by decide +kernel)) ggX5_rulesOf_X5_has
theorem dX5_rulesOf_0 : decode cX5_rulesOf 0 = .ok (.aload_n 0, 1) := by decide +kernel
theorem dX5_rulesOf_1 : decode cX5_rulesOf 1 = .ok (.iload_n 1, 1) := by decide +kernel
theorem dX5_rulesOf_2 : decode cX5_rulesOf 2 = .ok (.invokevirtual 29, 3) := by decide +kernel
theorem dX5_rulesOf_5 : decode cX5_rulesOf 5 = .ok (.ifCond .eq 12, 3) := by decide +kernel
theorem dX5_rulesOf_8 : decode cX5_rulesOf 8 = .ok (.aload_n 0, 1) := by decide +kernel
theorem dX5_rulesOf_9 : decode cX5_rulesOf 9 = .ok (.getfield 9, 3) := by decide +kernel
theorem dX5_rulesOf_12 : decode cX5_rulesOf 12 = .ok (.iload_n 1, 1) := by decide +kernel
theorem dX5_rulesOf_13 : decode cX5_rulesOf 13 = .ok (.iaload, 1) := by decide +kernel
theorem dX5_rulesOf_14 : decode cX5_rulesOf 14 = .ok (.goto 4, 3) := by decide +kernel
theorem dX5_rulesOf_17 : decode cX5_rulesOf 17 = .ok (.iconst 0, 1) := by decide +kernel
theorem dX5_rulesOf_18 : decode cX5_rulesOf 18 = .ok (.ireturn, 1) := by decide +kernel
set_option maxRecDepth 20000 in
theorem ggX5_find_X5_rulesOf : GoodIn wsX5_find wsX5_rulesOf := goodIn_r _ [7, 8, 9, 10, 11, 6, 12, 13, 14, 15, 16, 17, 18] (by decide +kernel) (by decide +kernel)
set_option maxRecDepth 20000 in
theorem gX5_find_X5_rulesOf : GoodIn wsX5_find (wsV RX5 33 RX5 yX5_rulesOf wsX5_rulesOf) := goodIn_app (goodIn_of _ (by decide +kernel)) ggX5_find_X5_rulesOf
theorem dX5_find_0 : decode cX5_find 0 = .ok (.iload_n 1, 1) := by decide +kernel
theorem dX5_find_1 : decode cX5_find 1 = .ok (.bipush 6, 2) := by decide +kernel
theorem dX5_find_3 : decode cX5_find 3 = .ok (.imul, 1) := by decide +kernel
theorem dX5_find_4 : decode cX5_find 4 = .ok (.istore 4, 2) := by decide +kernel
theorem dX5_find_6 : decode cX5_find 6 = .ok (.iload 4, 2) := by decide +kernel
theorem dX5_find_8 : decode cX5_find 8 = .ok (.aload_n 0, 1) := by decide +kernel
theorem dX5_find_9 : decode cX5_find 9 = .ok (.iload_n 1, 1) := by decide +kernel
theorem dX5_find_10 : decode cX5_find 10 = .ok (.invokevirtual 33, 3) := by decide +kernel
theorem dX5_find_13 : decode cX5_find 13 = .ok (.iadd, 1) := by decide +kernel
theorem dX5_find_14 : decode cX5_find 14 = .ok (.istore 5, 2) := by decide +kernel
theorem dX5_find_16 : decode cX5_find 16 = .ok (.iload 4, 2) := by decide +kernel
theorem dX5_find_18 : decode cX5_find 18 = .ok (.istore 6, 2) := by decide +kernel
theorem dX5_find_20 : decode cX5_find 20 = .ok (.iload 6, 2) := by decide +kernel
theorem dX5_find_22 : decode cX5_find 22 = .ok (.iload 5, 2) := by decide +kernel
theorem dX5_find_24 : decode cX5_find 24 = .ok (.if_icmp .ge 34, 3) := by decide +kernel
theorem dX5_find_27 : decode cX5_find 27 = .ok (.aload_n 0, 1) := by decide +kernel
theorem dX5_find_28 : decode cX5_find 28 = .ok (.getfield 15, 3) := by decide +kernel
theorem dX5_find_31 : decode cX5_find 31 = .ok (.iload 6, 2) := by decide +kernel
theorem dX5_find_33 : decode cX5_find 33 = .ok (.iaload, 1) := by decide +kernel
theorem dX5_find_34 : decode cX5_find 34 = .ok (.iload_n 2, 1) := by decide +kernel
theorem dX5_find_35 : decode cX5_find 35 = .ok (.if_icmp .ne 17, 3) := by decide +kernel
theorem dX5_find_38 : decode cX5_find 38 = .ok (.aload_n 0, 1) := by decide +kernel
theorem dX5_find_39 : decode cX5_find 39 = .ok (.getfield 18, 3) := by decide +kernel
theorem dX5_find_42 : decode cX5_find 42 = .ok (.iload 6, 2) := by decide +kernel
theorem dX5_find_44 : decode cX5_find 44 = .ok (.baload, 1) := by decide +kernel
theorem dX5_find_45 : decode cX5_find 45 = .ok (.iload_n 3, 1) := by decide +kernel
theorem dX5_find_46 : decode cX5_find 46 = .ok (.if_icmp .ne 6, 3) := by decide +kernel
theorem dX5_find_49 : decode cX5_find 49 = .ok (.iload 6, 2) := by decide +kernel
theorem dX5_find_51 : decode cX5_find 51 = .ok (.ireturn, 1) := by decide +kernel
theorem dX5_find_52 : decode cX5_find 52 = .ok (.iinc 6 1, 3) := by decide +kernel
theorem dX5_find_55 : decode cX5_find 55 = .ok (.goto (-35), 3) := by decide +kernel
theorem dX5_find_58 : decode cX5_find 58 = .ok (.iconst (-1), 1) := by decide +kernel
theorem dX5_find_59 : decode cX5_find 59 = .ok (.ireturn, 1) := by decide +kernel
set_option maxRecDepth 20000 in
theorem ggX5_put_X5_find : GoodIn wsX5_put wsX5_find := goodIn_r _ [8, 1, 2, 9, 10, 11, 7, 12, 13, 14, 15, 16, 17, 18, 23, 24, 25, 26, 27] (by decide +kernel) (by decide +kernel)
set_option maxRecDepth 20000 in
theorem gX5_put_X5_find : GoodIn wsX5_put (wsV RX5 37 RX5 yX5_find wsX5_find) := goodIn_app (goodIn_of _ (by decide +kernel)) ggX5_put_X5_find
set_option maxRecDepth 20000 in
theorem ggX5_put_X5_addRule : GoodIn wsX5_put wsX5_addRule := goodIn_r _ [22, 13, 14, 15, 16, 7, 17, 18, 23, 24, 25, 26, 27] (by decide +kernel) (by decide +kernel)
set_option maxRecDepth 20000 in
theorem gX5_put_X5_addRule : GoodIn wsX5_put (wsV RX5 41 RX5 yX5_addRule wsX5_addRule) := goodIn_app (goodIn_of _ (by decide +kernel)) ggX5_put_X5_addRule
theorem dX5_put_0 : decode cX5_put 0 = .ok (.aload_n 0, 1) := by decide +kernel
theorem dX5_put_1 : decode cX5_put 1 = .ok (.iload_n 1, 1) := by decide +kernel
theorem dX5_put_2 : decode cX5_put 2 = .ok (.iload_n 2, 1) := by decide +kernel
theorem dX5_put_3 : decode cX5_put 3 = .ok (.iload_n 3, 1) := by decide +kernel
theorem dX5_put_4 : decode cX5_put 4 = .ok (.invokevirtual 37, 3) := by decide +kernel
theorem dX5_put_7 : decode cX5_put 7 = .ok (.istore 5, 2) := by decide +kernel
theorem dX5_put_9 : decode cX5_put 9 = .ok (.iload 5, 2) := by decide +kernel
theorem dX5_put_11 : decode cX5_put 11 = .ok (.iconst (-1), 1) := by decide +kernel
theorem dX5_put_12 : decode cX5_put 12 = .ok (.if_icmp .ne 10, 3) := by decide +kernel
theorem dX5_put_15 : decode cX5_put 15 = .ok (.aload_n 0, 1) := by decide +kernel
theorem dX5_put_16 : decode cX5_put 16 = .ok (.iload_n 1, 1) := by decide +kernel
theorem dX5_put_17 : decode cX5_put 17 = .ok (.invokevirtual 41, 3) := by decide +kernel
theorem dX5_put_20 : decode cX5_put 20 = .ok (.istore 5, 2) := by decide +kernel
theorem dX5_put_22 : decode cX5_put 22 = .ok (.iload 5, 2) := by decide +kernel
theorem dX5_put_24 : decode cX5_put 24 = .ok (.iconst (-1), 1) := by decide +kernel
theorem dX5_put_25 : decode cX5_put 25 = .ok (.if_icmp .eq 28, 3) := by decide +kernel
theorem dX5_put_28 : decode cX5_put 28 = .ok (.aload_n 0, 1) := by decide +kernel
theorem dX5_put_29 : decode cX5_put 29 = .ok (.getfield 15, 3) := by decide +kernel
theorem dX5_put_32 : decode cX5_put 32 = .ok (.iload 5, 2) := by decide +kernel
theorem dX5_put_34 : decode cX5_put 34 = .ok (.iload_n 2, 1) := by decide +kernel
theorem dX5_put_35 : decode cX5_put 35 = .ok (.iastore, 1) := by decide +kernel
theorem dX5_put_36 : decode cX5_put 36 = .ok (.aload_n 0, 1) := by decide +kernel
theorem dX5_put_37 : decode cX5_put 37 = .ok (.getfield 18, 3) := by decide +kernel
theorem dX5_put_40 : decode cX5_put 40 = .ok (.iload 5, 2) := by decide +kernel
theorem dX5_put_42 : decode cX5_put 42 = .ok (.iload_n 3, 1) := by decide +kernel
theorem dX5_put_43 : decode cX5_put 43 = .ok (.bastore, 1) := by decide +kernel
theorem dX5_put_44 : decode cX5_put 44 = .ok (.aload_n 0, 1) := by decide +kernel
theorem dX5_put_45 : decode cX5_put 45 = .ok (.getfield 22, 3) := by decide +kernel
theorem dX5_put_48 : decode cX5_put 48 = .ok (.iload 5, 2) := by decide +kernel
theorem dX5_put_50 : decode cX5_put 50 = .ok (.iload 4, 2) := by decide +kernel
theorem dX5_put_52 : decode cX5_put 52 = .ok (.iastore, 1) := by decide +kernel
theorem dX5_put_53 : decode cX5_put 53 = .ok (.return_, 1) := by decide +kernel
set_option maxRecDepth 20000 in
theorem ggX5_addRule_X5_has : GoodIn wsX5_addRule wsX5_has := goodIn_r _ [6, 7, 8, 9, 10, 11, 12] (by decide +kernel) (by decide +kernel)
set_option maxRecDepth 20000 in
theorem gX5_addRule_X5_has : GoodIn wsX5_addRule (wsV RX5 29 RX5 yX5_has wsX5_has) := goodIn_app (goodIn_of _ (by decide +kernel)) ggX5_addRule_X5_has
theorem dX5_addRule_0 : decode cX5_addRule 0 = .ok (.aload_n 0, 1) := by decide +kernel
theorem dX5_addRule_1 : decode cX5_addRule 1 = .ok (.iload_n 1, 1) := by decide +kernel
theorem dX5_addRule_2 : decode cX5_addRule 2 = .ok (.invokevirtual 29, 3) := by decide +kernel
theorem dX5_addRule_5 : decode cX5_addRule 5 = .ok (.ifCond .eq 14, 3) := by decide +kernel
theorem dX5_addRule_8 : decode cX5_addRule 8 = .ok (.aload_n 0, 1) := by decide +kernel
theorem dX5_addRule_9 : decode cX5_addRule 9 = .ok (.getfield 9, 3) := by decide +kernel
theorem dX5_addRule_12 : decode cX5_addRule 12 = .ok (.iload_n 1, 1) := by decide +kernel
theorem dX5_addRule_13 : decode cX5_addRule 13 = .ok (.iaload, 1) := by decide +kernel
theorem dX5_addRule_14 : decode cX5_addRule 14 = .ok (.bipush 6, 2) := by decide +kernel
theorem dX5_addRule_16 : decode cX5_addRule 16 = .ok (.if_icmp .lt 5, 3) := by decide +kernel
theorem dX5_addRule_19 : decode cX5_addRule 19 = .ok (.iconst (-1), 1) := by decide +kernel
theorem dX5_addRule_20 : decode cX5_addRule 20 = .ok (.ireturn, 1) := by decide +kernel
theorem dX5_addRule_21 : decode cX5_addRule 21 = .ok (.aload_n 0, 1) := by decide +kernel
theorem dX5_addRule_22 : decode cX5_addRule 22 = .ok (.getfield 9, 3) := by decide +kernel
theorem dX5_addRule_25 : decode cX5_addRule 25 = .ok (.iload_n 1, 1) := by decide +kernel
theorem dX5_addRule_26 : decode cX5_addRule 26 = .ok (.dup2, 1) := by decide +kernel
theorem dX5_addRule_27 : decode cX5_addRule 27 = .ok (.iaload, 1) := by decide +kernel
theorem dX5_addRule_28 : decode cX5_addRule 28 = .ok (.iconst 1, 1) := by decide +kernel
theorem dX5_addRule_29 : decode cX5_addRule 29 = .ok (.iadd, 1) := by decide +kernel
theorem dX5_addRule_30 : decode cX5_addRule 30 = .ok (.iastore, 1) := by decide +kernel
theorem dX5_addRule_31 : decode cX5_addRule 31 = .ok (.iload_n 1, 1) := by decide +kernel
theorem dX5_addRule_32 : decode cX5_addRule 32 = .ok (.bipush 6, 2) := by decide +kernel
theorem dX5_addRule_34 : decode cX5_addRule 34 = .ok (.imul, 1) := by decide +kernel
theorem dX5_addRule_35 : decode cX5_addRule 35 = .ok (.aload_n 0, 1) := by decide +kernel
theorem dX5_addRule_36 : decode cX5_addRule 36 = .ok (.getfield 9, 3) := by decide +kernel
theorem dX5_addRule_39 : decode cX5_addRule 39 = .ok (.iload_n 1, 1) := by decide +kernel
theorem dX5_addRule_40 : decode cX5_addRule 40 = .ok (.iaload, 1) := by decide +kernel
theorem dX5_addRule_41 : decode cX5_addRule 41 = .ok (.iadd, 1) := by decide +kernel
theorem dX5_addRule_42 : decode cX5_addRule 42 = .ok (.iconst 1, 1) := by decide +kernel
theorem dX5_addRule_43 : decode cX5_addRule 43 = .ok (.isub, 1) := by decide +kernel
theorem dX5_addRule_44 : decode cX5_addRule 44 = .ok (.ireturn, 1) := by decide +kernel
set_option maxRecDepth 20000 in
theorem ggX5_together_X5_decided : GoodIn wsX5_together wsX5_decided := goodIn_r _ [6, 7, 8, 9, 10, 11, 12, 5, 13, 14, 15, 16, 17, 18, 1, 19, 20, 21, 22, 23, 24, 25, 26, 27, 28, 29, 30, 31, 32, 33, 34, 35, 36, 37, 38] (by decide +kernel) (by decide +kernel)
set_option maxRecDepth 20000 in
theorem gX5_together_X5_decided : GoodIn wsX5_together (wsV RX5 44 RX5 yX5_decided wsX5_decided) := goodIn_app (goodIn_of _ (by decide +kernel)) ggX5_together_X5_decided
theorem dX5_together_0 : decode cX5_together 0 = .ok (.iconst 0, 1) := by decide +kernel
theorem dX5_together_1 : decode cX5_together 1 = .ok (.istore_n 3, 1) := by decide +kernel
theorem dX5_together_2 : decode cX5_together 2 = .ok (.iconst 0, 1) := by decide +kernel
theorem dX5_together_3 : decode cX5_together 3 = .ok (.istore 4, 2) := by decide +kernel
theorem dX5_together_5 : decode cX5_together 5 = .ok (.iload 4, 2) := by decide +kernel
theorem dX5_together_7 : decode cX5_together 7 = .ok (.aload_n 0, 1) := by decide +kernel
theorem dX5_together_8 : decode cX5_together 8 = .ok (.getfield 25, 3) := by decide +kernel
theorem dX5_together_11 : decode cX5_together 11 = .ok (.if_icmp .ge 28, 3) := by decide +kernel
theorem dX5_together_14 : decode cX5_together 14 = .ok (.iload_n 1, 1) := by decide +kernel
theorem dX5_together_15 : decode cX5_together 15 = .ok (.iload 4, 2) := by decide +kernel
theorem dX5_together_17 : decode cX5_together 17 = .ok (.ishr, 1) := by decide +kernel
theorem dX5_together_18 : decode cX5_together 18 = .ok (.iconst 1, 1) := by decide +kernel
theorem dX5_together_19 : decode cX5_together 19 = .ok (.iand, 1) := by decide +kernel
theorem dX5_together_20 : decode cX5_together 20 = .ok (.ifCond .eq 13, 3) := by decide +kernel
theorem dX5_together_23 : decode cX5_together 23 = .ok (.iload_n 3, 1) := by decide +kernel
theorem dX5_together_24 : decode cX5_together 24 = .ok (.aload_n 0, 1) := by decide +kernel
theorem dX5_together_25 : decode cX5_together 25 = .ok (.iload 4, 2) := by decide +kernel
theorem dX5_together_27 : decode cX5_together 27 = .ok (.iload_n 2, 1) := by decide +kernel
theorem dX5_together_28 : decode cX5_together 28 = .ok (.invokevirtual 44, 3) := by decide +kernel
theorem dX5_together_31 : decode cX5_together 31 = .ok (.ior, 1) := by decide +kernel
theorem dX5_together_32 : decode cX5_together 32 = .ok (.istore_n 3, 1) := by decide +kernel
theorem dX5_together_33 : decode cX5_together 33 = .ok (.iinc 4 1, 3) := by decide +kernel
theorem dX5_together_36 : decode cX5_together 36 = .ok (.goto (-31), 3) := by decide +kernel
theorem dX5_together_39 : decode cX5_together 39 = .ok (.iload_n 3, 1) := by decide +kernel
theorem dX5_together_40 : decode cX5_together 40 = .ok (.ireturn, 1) := by decide +kernel
set_option maxRecDepth 20000 in
theorem ggX5_decided_X5_rulesOf : GoodIn wsX5_decided wsX5_rulesOf := goodIn_r _ [8, 9, 10, 11, 12, 7, 13, 14, 30, 31, 32, 33, 34] (by decide +kernel) (by decide +kernel)
set_option maxRecDepth 20000 in
theorem gX5_decided_X5_rulesOf : GoodIn wsX5_decided (wsV RX5 33 RX5 yX5_rulesOf wsX5_rulesOf) := goodIn_app (goodIn_of _ (by decide +kernel)) ggX5_decided_X5_rulesOf
set_option maxRecDepth 20000 in
theorem ggX5_decided_X4_fits : GoodIn wsX5_decided wsX4_fits := goodIn_r _ [18, 19, 20, 17, 21, 22, 23, 24] (by decide +kernel) (by decide +kernel)
set_option maxRecDepth 20000 in
theorem gX5_decided_X4_fits : GoodIn wsX5_decided (va_wsS RX5 48 yX4_fits wsX4_fits) := goodIn_app (goodIn_of _ (by decide +kernel)) ggX5_decided_X4_fits
set_option maxRecDepth 20000 in
theorem ggX5_decided_X5_goesAhead : GoodIn wsX5_decided wsX5_goesAhead := goodIn_r _ [28, 1, 2, 29, 20, 17, 21, 30, 31, 32, 33, 34] (by decide +kernel) (by decide +kernel)
set_option maxRecDepth 20000 in
theorem gX5_decided_X5_goesAhead : GoodIn wsX5_decided (wsV RX5 54 RX5 yX5_goesAhead wsX5_goesAhead) := goodIn_app (goodIn_of _ (by decide +kernel)) ggX5_decided_X5_goesAhead
theorem dX5_decided_0 : decode cX5_decided 0 = .ok (.iload_n 1, 1) := by decide +kernel
theorem dX5_decided_1 : decode cX5_decided 1 = .ok (.bipush 6, 2) := by decide +kernel
theorem dX5_decided_3 : decode cX5_decided 3 = .ok (.imul, 1) := by decide +kernel
theorem dX5_decided_4 : decode cX5_decided 4 = .ok (.istore_n 3, 1) := by decide +kernel
theorem dX5_decided_5 : decode cX5_decided 5 = .ok (.iload_n 3, 1) := by decide +kernel
theorem dX5_decided_6 : decode cX5_decided 6 = .ok (.aload_n 0, 1) := by decide +kernel
theorem dX5_decided_7 : decode cX5_decided 7 = .ok (.iload_n 1, 1) := by decide +kernel
theorem dX5_decided_8 : decode cX5_decided 8 = .ok (.invokevirtual 33, 3) := by decide +kernel
theorem dX5_decided_11 : decode cX5_decided 11 = .ok (.iadd, 1) := by decide +kernel
theorem dX5_decided_12 : decode cX5_decided 12 = .ok (.istore 4, 2) := by decide +kernel
theorem dX5_decided_14 : decode cX5_decided 14 = .ok (.iconst (-1), 1) := by decide +kernel
theorem dX5_decided_15 : decode cX5_decided 15 = .ok (.istore 5, 2) := by decide +kernel
theorem dX5_decided_17 : decode cX5_decided 17 = .ok (.iload_n 3, 1) := by decide +kernel
theorem dX5_decided_18 : decode cX5_decided 18 = .ok (.istore 6, 2) := by decide +kernel
theorem dX5_decided_20 : decode cX5_decided 20 = .ok (.iload 6, 2) := by decide +kernel
theorem dX5_decided_22 : decode cX5_decided 22 = .ok (.iload 4, 2) := by decide +kernel
theorem dX5_decided_24 : decode cX5_decided 24 = .ok (.if_icmp .ge 51, 3) := by decide +kernel
theorem dX5_decided_27 : decode cX5_decided 27 = .ok (.aload_n 0, 1) := by decide +kernel
theorem dX5_decided_28 : decode cX5_decided 28 = .ok (.getfield 15, 3) := by decide +kernel
theorem dX5_decided_31 : decode cX5_decided 31 = .ok (.iload 6, 2) := by decide +kernel
theorem dX5_decided_33 : decode cX5_decided 33 = .ok (.iaload, 1) := by decide +kernel
theorem dX5_decided_34 : decode cX5_decided 34 = .ok (.aload_n 0, 1) := by decide +kernel
theorem dX5_decided_35 : decode cX5_decided 35 = .ok (.getfield 18, 3) := by decide +kernel
theorem dX5_decided_38 : decode cX5_decided 38 = .ok (.iload 6, 2) := by decide +kernel
theorem dX5_decided_40 : decode cX5_decided 40 = .ok (.baload, 1) := by decide +kernel
theorem dX5_decided_41 : decode cX5_decided 41 = .ok (.iload_n 2, 1) := by decide +kernel
theorem dX5_decided_42 : decode cX5_decided 42 = .ok (.invokestatic 48, 3) := by decide +kernel
theorem dX5_decided_45 : decode cX5_decided 45 = .ok (.ifCond .eq 24, 3) := by decide +kernel
theorem dX5_decided_48 : decode cX5_decided 48 = .ok (.iload 5, 2) := by decide +kernel
theorem dX5_decided_50 : decode cX5_decided 50 = .ok (.iconst (-1), 1) := by decide +kernel
theorem dX5_decided_51 : decode cX5_decided 51 = .ok (.if_icmp .eq 14, 3) := by decide +kernel
theorem dX5_decided_54 : decode cX5_decided 54 = .ok (.aload_n 0, 1) := by decide +kernel
theorem dX5_decided_55 : decode cX5_decided 55 = .ok (.iload 6, 2) := by decide +kernel
theorem dX5_decided_57 : decode cX5_decided 57 = .ok (.iload 5, 2) := by decide +kernel
theorem dX5_decided_59 : decode cX5_decided 59 = .ok (.invokevirtual 54, 3) := by decide +kernel
theorem dX5_decided_62 : decode cX5_decided 62 = .ok (.ifCond .eq 7, 3) := by decide +kernel
theorem dX5_decided_65 : decode cX5_decided 65 = .ok (.iload 6, 2) := by decide +kernel
theorem dX5_decided_67 : decode cX5_decided 67 = .ok (.istore 5, 2) := by decide +kernel
theorem dX5_decided_69 : decode cX5_decided 69 = .ok (.iinc 6 1, 3) := by decide +kernel
theorem dX5_decided_72 : decode cX5_decided 72 = .ok (.goto (-52), 3) := by decide +kernel
theorem dX5_decided_75 : decode cX5_decided 75 = .ok (.iload 5, 2) := by decide +kernel
theorem dX5_decided_77 : decode cX5_decided 77 = .ok (.iconst (-1), 1) := by decide +kernel
theorem dX5_decided_78 : decode cX5_decided 78 = .ok (.if_icmp .ne 7, 3) := by decide +kernel
theorem dX5_decided_81 : decode cX5_decided 81 = .ok (.iconst 0, 1) := by decide +kernel
theorem dX5_decided_82 : decode cX5_decided 82 = .ok (.goto 10, 3) := by decide +kernel
theorem dX5_decided_85 : decode cX5_decided 85 = .ok (.aload_n 0, 1) := by decide +kernel
theorem dX5_decided_86 : decode cX5_decided 86 = .ok (.getfield 22, 3) := by decide +kernel
theorem dX5_decided_89 : decode cX5_decided 89 = .ok (.iload 5, 2) := by decide +kernel
theorem dX5_decided_91 : decode cX5_decided 91 = .ok (.iaload, 1) := by decide +kernel
theorem dX5_decided_92 : decode cX5_decided 92 = .ok (.ireturn, 1) := by decide +kernel
set_option maxRecDepth 20000 in
theorem ggX5_goesAhead_X4_length : GoodIn wsX5_goesAhead wsX4_length := goodIn_r _ [6] (by decide +kernel) (by decide +kernel)
set_option maxRecDepth 20000 in
theorem gX5_goesAhead_X4_length : GoodIn wsX5_goesAhead (va_wsS RX5 58 yX4_length wsX4_length) := goodIn_app (goodIn_of _ (by decide +kernel)) ggX5_goesAhead_X4_length
theorem dX5_goesAhead_0 : decode cX5_goesAhead 0 = .ok (.aload_n 0, 1) := by decide +kernel
theorem dX5_goesAhead_1 : decode cX5_goesAhead 1 = .ok (.getfield 15, 3) := by decide +kernel
theorem dX5_goesAhead_4 : decode cX5_goesAhead 4 = .ok (.iload_n 1, 1) := by decide +kernel
theorem dX5_goesAhead_5 : decode cX5_goesAhead 5 = .ok (.iaload, 1) := by decide +kernel
theorem dX5_goesAhead_6 : decode cX5_goesAhead 6 = .ok (.invokestatic 58, 3) := by decide +kernel
theorem dX5_goesAhead_9 : decode cX5_goesAhead 9 = .ok (.aload_n 0, 1) := by decide +kernel
theorem dX5_goesAhead_10 : decode cX5_goesAhead 10 = .ok (.getfield 15, 3) := by decide +kernel
theorem dX5_goesAhead_13 : decode cX5_goesAhead 13 = .ok (.iload_n 2, 1) := by decide +kernel
theorem dX5_goesAhead_14 : decode cX5_goesAhead 14 = .ok (.iaload, 1) := by decide +kernel
theorem dX5_goesAhead_15 : decode cX5_goesAhead 15 = .ok (.invokestatic 58, 3) := by decide +kernel
theorem dX5_goesAhead_18 : decode cX5_goesAhead 18 = .ok (.isub, 1) := by decide +kernel
theorem dX5_goesAhead_19 : decode cX5_goesAhead 19 = .ok (.istore_n 3, 1) := by decide +kernel
theorem dX5_goesAhead_20 : decode cX5_goesAhead 20 = .ok (.iload_n 3, 1) := by decide +kernel
theorem dX5_goesAhead_21 : decode cX5_goesAhead 21 = .ok (.ifCond .eq 13, 3) := by decide +kernel
theorem dX5_goesAhead_24 : decode cX5_goesAhead 24 = .ok (.iload_n 3, 1) := by decide +kernel
theorem dX5_goesAhead_25 : decode cX5_goesAhead 25 = .ok (.ifCond .le 7, 3) := by decide +kernel
theorem dX5_goesAhead_28 : decode cX5_goesAhead 28 = .ok (.iconst 1, 1) := by decide +kernel
theorem dX5_goesAhead_29 : decode cX5_goesAhead 29 = .ok (.goto 4, 3) := by decide +kernel
theorem dX5_goesAhead_32 : decode cX5_goesAhead 32 = .ok (.iconst 0, 1) := by decide +kernel
theorem dX5_goesAhead_33 : decode cX5_goesAhead 33 = .ok (.ireturn, 1) := by decide +kernel
theorem dX5_goesAhead_34 : decode cX5_goesAhead 34 = .ok (.aload_n 0, 1) := by decide +kernel
theorem dX5_goesAhead_35 : decode cX5_goesAhead 35 = .ok (.getfield 18, 3) := by decide +kernel
theorem dX5_goesAhead_38 : decode cX5_goesAhead 38 = .ok (.iload_n 1, 1) := by decide +kernel
theorem dX5_goesAhead_39 : decode cX5_goesAhead 39 = .ok (.baload, 1) := by decide +kernel
theorem dX5_goesAhead_40 : decode cX5_goesAhead 40 = .ok (.aload_n 0, 1) := by decide +kernel
theorem dX5_goesAhead_41 : decode cX5_goesAhead 41 = .ok (.getfield 18, 3) := by decide +kernel
theorem dX5_goesAhead_44 : decode cX5_goesAhead 44 = .ok (.iload_n 2, 1) := by decide +kernel
theorem dX5_goesAhead_45 : decode cX5_goesAhead 45 = .ok (.baload, 1) := by decide +kernel
theorem dX5_goesAhead_46 : decode cX5_goesAhead 46 = .ok (.if_icmp .eq 10, 3) := by decide +kernel
theorem dX5_goesAhead_49 : decode cX5_goesAhead 49 = .ok (.aload_n 0, 1) := by decide +kernel
theorem dX5_goesAhead_50 : decode cX5_goesAhead 50 = .ok (.getfield 18, 3) := by decide +kernel
theorem dX5_goesAhead_53 : decode cX5_goesAhead 53 = .ok (.iload_n 2, 1) := by decide +kernel
theorem dX5_goesAhead_54 : decode cX5_goesAhead 54 = .ok (.baload, 1) := by decide +kernel
theorem dX5_goesAhead_55 : decode cX5_goesAhead 55 = .ok (.ireturn, 1) := by decide +kernel
theorem dX5_goesAhead_56 : decode cX5_goesAhead 56 = .ok (.aload_n 0, 1) := by decide +kernel
theorem dX5_goesAhead_57 : decode cX5_goesAhead 57 = .ok (.getfield 15, 3) := by decide +kernel
theorem dX5_goesAhead_60 : decode cX5_goesAhead 60 = .ok (.iload_n 1, 1) := by decide +kernel
theorem dX5_goesAhead_61 : decode cX5_goesAhead 61 = .ok (.iaload, 1) := by decide +kernel
theorem dX5_goesAhead_62 : decode cX5_goesAhead 62 = .ok (.aload_n 0, 1) := by decide +kernel
theorem dX5_goesAhead_63 : decode cX5_goesAhead 63 = .ok (.getfield 15, 3) := by decide +kernel
theorem dX5_goesAhead_66 : decode cX5_goesAhead 66 = .ok (.iload_n 2, 1) := by decide +kernel
theorem dX5_goesAhead_67 : decode cX5_goesAhead 67 = .ok (.iaload, 1) := by decide +kernel
theorem dX5_goesAhead_68 : decode cX5_goesAhead 68 = .ok (.if_icmp .ge 7, 3) := by decide +kernel
theorem dX5_goesAhead_71 : decode cX5_goesAhead 71 = .ok (.iconst 1, 1) := by decide +kernel
theorem dX5_goesAhead_72 : decode cX5_goesAhead 72 = .ok (.goto 4, 3) := by decide +kernel
theorem dX5_goesAhead_75 : decode cX5_goesAhead 75 = .ok (.iconst 0, 1) := by decide +kernel
theorem dX5_goesAhead_76 : decode cX5_goesAhead 76 = .ok (.ireturn, 1) := by decide +kernel
set_option maxRecDepth 20000 in
theorem ggX6_init_X2_init : GoodIn wsX6_init wsX2_init := goodIn_r _ [7, 8, 9, 10, 1, 11, 12, 13, 14, 15, 16, 17, 42, 43, 44, 45, 46, 47, 48, 49, 33, 34, 35, 36, 37, 38, 39, 40, 41] (by decide +kernel) (by decide +kernel)
set_option maxRecDepth 20000 in
theorem gX6_init_X2_init_n3 : GoodIn wsX6_init (wsX2_init) := ggX6_init_X2_init
set_option maxRecDepth 20000 in
theorem ggX6_init_X2_add : GoodIn wsX6_init wsX2_add := goodIn_r _ [22, 16, 11, 12, 13, 15, 17, 42, 43, 44, 45, 46, 47, 48, 49, 33, 34, 35, 36, 37, 38, 39, 40, 41] (by decide +kernel) (by decide +kernel)
set_option maxRecDepth 20000 in
theorem gX6_init_X2_add_u21X6 : GoodIn wsX6_init (va_wsU RX6 21 RX6 "SecretBroker$Leased" ⟨"SecretBroker$Tokens", "add", "(III)I"⟩ yX2_add wsX2_add) := goodIn_app (goodIn_of _ (by decide +kernel)) ggX6_init_X2_add
set_option maxRecDepth 20000 in
theorem ggX6_init_X6_describe : GoodIn wsX6_init wsX6_describe := goodIn_r _ [27, 2, 3, 4, 28, 29, 30, 31, 6, 32, 16, 33, 34, 35, 36, 37, 38, 39, 40, 41, 42, 43, 44, 45, 46, 47, 48, 49] (by decide +kernel) (by decide +kernel)
set_option maxRecDepth 20000 in
theorem gX6_init_X6_describe : GoodIn wsX6_init (wsV RX6 25 RX6 yX6_describe wsX6_describe) := goodIn_app (goodIn_of _ (by decide +kernel)) ggX6_init_X6_describe
theorem dX6_init_0 : decode cX6_init 0 = .ok (.aload_n 0, 1) := by decide +kernel
theorem dX6_init_1 : decode cX6_init 1 = .ok (.invokespecial 3, 3) := by decide +kernel
theorem dX6_init_4 : decode cX6_init 4 = .ok (.aload_n 0, 1) := by decide +kernel
theorem dX6_init_5 : decode cX6_init 5 = .ok (.sipush 513, 3) := by decide +kernel
theorem dX6_init_8 : decode cX6_init 8 = .ok (.newarray .int, 2) := by decide +kernel
theorem dX6_init_10 : decode cX6_init 10 = .ok (.putfield 9, 3) := by decide +kernel
theorem dX6_init_13 : decode cX6_init 13 = .ok (.aload_n 0, 1) := by decide +kernel
theorem dX6_init_14 : decode cX6_init 14 = .ok (.sipush 513, 3) := by decide +kernel
theorem dX6_init_17 : decode cX6_init 17 = .ok (.newarray .int, 2) := by decide +kernel
theorem dX6_init_19 : decode cX6_init 19 = .ok (.putfield 15, 3) := by decide +kernel
theorem dX6_init_22 : decode cX6_init 22 = .ok (.aload_n 0, 1) := by decide +kernel
theorem dX6_init_23 : decode cX6_init 23 = .ok (.sipush 513, 3) := by decide +kernel
theorem dX6_init_26 : decode cX6_init 26 = .ok (.newarray .int, 2) := by decide +kernel
theorem dX6_init_28 : decode cX6_init 28 = .ok (.putfield 18, 3) := by decide +kernel
theorem dX6_init_31 : decode cX6_init 31 = .ok (.aload_n 0, 1) := by decide +kernel
theorem dX6_init_32 : decode cX6_init 32 = .ok (.iconst 0, 1) := by decide +kernel
theorem dX6_init_33 : decode cX6_init 33 = .ok (.iconst (-1), 1) := by decide +kernel
theorem dX6_init_34 : decode cX6_init 34 = .ok (.iconst 0, 1) := by decide +kernel
theorem dX6_init_35 : decode cX6_init 35 = .ok (.invokevirtual 21, 3) := by decide +kernel
theorem dX6_init_38 : decode cX6_init 38 = .ok (.pop, 1) := by decide +kernel
theorem dX6_init_39 : decode cX6_init 39 = .ok (.aload_n 0, 1) := by decide +kernel
theorem dX6_init_40 : decode cX6_init 40 = .ok (.iconst 0, 1) := by decide +kernel
theorem dX6_init_41 : decode cX6_init 41 = .ok (.iconst (-1), 1) := by decide +kernel
theorem dX6_init_42 : decode cX6_init 42 = .ok (.iconst 0, 1) := by decide +kernel
theorem dX6_init_43 : decode cX6_init 43 = .ok (.iconst (-1), 1) := by decide +kernel
theorem dX6_init_44 : decode cX6_init 44 = .ok (.invokevirtual 25, 3) := by decide +kernel
theorem dX6_init_47 : decode cX6_init 47 = .ok (.return_, 1) := by decide +kernel
set_option maxRecDepth 20000 in
theorem ggX6_describe_X2_has : GoodIn wsX6_describe wsX2_has := goodIn_r _ [9, 10, 20, 21, 22, 23, 24, 25, 26, 27, 11, 12, 13, 14, 15, 16, 17, 18, 19] (by decide +kernel) (by decide +kernel)
set_option maxRecDepth 20000 in
theorem gX6_describe_X2_has_u29X6 : GoodIn wsX6_describe (va_wsU RX6 29 RX6 "SecretBroker$Leased" ⟨"SecretBroker$Tokens", "has", "(I)Z"⟩ yX2_has wsX2_has) := goodIn_app (goodIn_of _ (by decide +kernel)) ggX6_describe_X2_has
theorem dX6_describe_0 : decode cX6_describe 0 = .ok (.aload_n 0, 1) := by decide +kernel
theorem dX6_describe_1 : decode cX6_describe 1 = .ok (.iload_n 1, 1) := by decide +kernel
theorem dX6_describe_2 : decode cX6_describe 2 = .ok (.invokevirtual 29, 3) := by decide +kernel
theorem dX6_describe_5 : decode cX6_describe 5 = .ok (.ifCond .eq 25, 3) := by decide +kernel
theorem dX6_describe_8 : decode cX6_describe 8 = .ok (.aload_n 0, 1) := by decide +kernel
theorem dX6_describe_9 : decode cX6_describe 9 = .ok (.getfield 9, 3) := by decide +kernel
theorem dX6_describe_12 : decode cX6_describe 12 = .ok (.iload_n 1, 1) := by decide +kernel
theorem dX6_describe_13 : decode cX6_describe 13 = .ok (.iload_n 2, 1) := by decide +kernel
theorem dX6_describe_14 : decode cX6_describe 14 = .ok (.iastore, 1) := by decide +kernel
theorem dX6_describe_15 : decode cX6_describe 15 = .ok (.aload_n 0, 1) := by decide +kernel
theorem dX6_describe_16 : decode cX6_describe 16 = .ok (.getfield 15, 3) := by decide +kernel
theorem dX6_describe_19 : decode cX6_describe 19 = .ok (.iload_n 1, 1) := by decide +kernel
theorem dX6_describe_20 : decode cX6_describe 20 = .ok (.iload_n 3, 1) := by decide +kernel
theorem dX6_describe_21 : decode cX6_describe 21 = .ok (.iastore, 1) := by decide +kernel
theorem dX6_describe_22 : decode cX6_describe 22 = .ok (.aload_n 0, 1) := by decide +kernel
theorem dX6_describe_23 : decode cX6_describe 23 = .ok (.getfield 18, 3) := by decide +kernel
theorem dX6_describe_26 : decode cX6_describe 26 = .ok (.iload_n 1, 1) := by decide +kernel
theorem dX6_describe_27 : decode cX6_describe 27 = .ok (.iload 4, 2) := by decide +kernel
theorem dX6_describe_29 : decode cX6_describe 29 = .ok (.iastore, 1) := by decide +kernel
theorem dX6_describe_30 : decode cX6_describe 30 = .ok (.return_, 1) := by decide +kernel
set_option maxRecDepth 20000 in
theorem ggX6_parentAt_X2_has : GoodIn wsX6_parentAt wsX2_has := goodIn_r _ [7, 8, 18, 19, 20, 21, 22, 23, 24, 25, 9, 10, 11, 12, 13, 14, 15, 16, 17] (by decide +kernel) (by decide +kernel)
set_option maxRecDepth 20000 in
theorem gX6_parentAt_X2_has_u29X6 : GoodIn wsX6_parentAt (va_wsU RX6 29 RX6 "SecretBroker$Leased" ⟨"SecretBroker$Tokens", "has", "(I)Z"⟩ yX2_has wsX2_has) := goodIn_app (goodIn_of _ (by decide +kernel)) ggX6_parentAt_X2_has
theorem dX6_parentAt_0 : decode cX6_parentAt 0 = .ok (.aload_n 0, 1) := by decide +kernel
theorem dX6_parentAt_1 : decode cX6_parentAt 1 = .ok (.iload_n 1, 1) := by decide +kernel
theorem dX6_parentAt_2 : decode cX6_parentAt 2 = .ok (.invokevirtual 29, 3) := by decide +kernel
theorem dX6_parentAt_5 : decode cX6_parentAt 5 = .ok (.ifCond .eq 12, 3) := by decide +kernel
theorem dX6_parentAt_8 : decode cX6_parentAt 8 = .ok (.aload_n 0, 1) := by decide +kernel
theorem dX6_parentAt_9 : decode cX6_parentAt 9 = .ok (.getfield 9, 3) := by decide +kernel
theorem dX6_parentAt_12 : decode cX6_parentAt 12 = .ok (.iload_n 1, 1) := by decide +kernel
theorem dX6_parentAt_13 : decode cX6_parentAt 13 = .ok (.iaload, 1) := by decide +kernel
theorem dX6_parentAt_14 : decode cX6_parentAt 14 = .ok (.goto 4, 3) := by decide +kernel
theorem dX6_parentAt_17 : decode cX6_parentAt 17 = .ok (.iconst (-1), 1) := by decide +kernel
theorem dX6_parentAt_18 : decode cX6_parentAt 18 = .ok (.ireturn, 1) := by decide +kernel
set_option maxRecDepth 20000 in
theorem ggX6_policiesAt_X2_has : GoodIn wsX6_policiesAt wsX2_has := goodIn_r _ [7, 8, 18, 19, 20, 21, 22, 23, 24, 25, 9, 10, 11, 12, 13, 14, 15, 16, 17] (by decide +kernel) (by decide +kernel)
set_option maxRecDepth 20000 in
theorem gX6_policiesAt_X2_has_u29X6 : GoodIn wsX6_policiesAt (va_wsU RX6 29 RX6 "SecretBroker$Leased" ⟨"SecretBroker$Tokens", "has", "(I)Z"⟩ yX2_has wsX2_has) := goodIn_app (goodIn_of _ (by decide +kernel)) ggX6_policiesAt_X2_has
theorem dX6_policiesAt_0 : decode cX6_policiesAt 0 = .ok (.aload_n 0, 1) := by decide +kernel
theorem dX6_policiesAt_1 : decode cX6_policiesAt 1 = .ok (.iload_n 1, 1) := by decide +kernel
theorem dX6_policiesAt_2 : decode cX6_policiesAt 2 = .ok (.invokevirtual 29, 3) := by decide +kernel
theorem dX6_policiesAt_5 : decode cX6_policiesAt 5 = .ok (.ifCond .eq 12, 3) := by decide +kernel
theorem dX6_policiesAt_8 : decode cX6_policiesAt 8 = .ok (.aload_n 0, 1) := by decide +kernel
theorem dX6_policiesAt_9 : decode cX6_policiesAt 9 = .ok (.getfield 15, 3) := by decide +kernel
theorem dX6_policiesAt_12 : decode cX6_policiesAt 12 = .ok (.iload_n 1, 1) := by decide +kernel
theorem dX6_policiesAt_13 : decode cX6_policiesAt 13 = .ok (.iaload, 1) := by decide +kernel
theorem dX6_policiesAt_14 : decode cX6_policiesAt 14 = .ok (.goto 4, 3) := by decide +kernel
theorem dX6_policiesAt_17 : decode cX6_policiesAt 17 = .ok (.iconst 0, 1) := by decide +kernel
theorem dX6_policiesAt_18 : decode cX6_policiesAt 18 = .ok (.ireturn, 1) := by decide +kernel
set_option maxRecDepth 20000 in
theorem ggX6_usesAt_X2_has : GoodIn wsX6_usesAt wsX2_has := goodIn_r _ [7, 8, 18, 19, 20, 21, 22, 23, 24, 25, 9, 10, 11, 12, 13, 14, 15, 16, 17] (by decide +kernel) (by decide +kernel)
set_option maxRecDepth 20000 in
theorem gX6_usesAt_X2_has_u29X6 : GoodIn wsX6_usesAt (va_wsU RX6 29 RX6 "SecretBroker$Leased" ⟨"SecretBroker$Tokens", "has", "(I)Z"⟩ yX2_has wsX2_has) := goodIn_app (goodIn_of _ (by decide +kernel)) ggX6_usesAt_X2_has
theorem dX6_usesAt_0 : decode cX6_usesAt 0 = .ok (.aload_n 0, 1) := by decide +kernel
theorem dX6_usesAt_1 : decode cX6_usesAt 1 = .ok (.iload_n 1, 1) := by decide +kernel
theorem dX6_usesAt_2 : decode cX6_usesAt 2 = .ok (.invokevirtual 29, 3) := by decide +kernel
theorem dX6_usesAt_5 : decode cX6_usesAt 5 = .ok (.ifCond .eq 12, 3) := by decide +kernel
theorem dX6_usesAt_8 : decode cX6_usesAt 8 = .ok (.aload_n 0, 1) := by decide +kernel
theorem dX6_usesAt_9 : decode cX6_usesAt 9 = .ok (.getfield 18, 3) := by decide +kernel
theorem dX6_usesAt_12 : decode cX6_usesAt 12 = .ok (.iload_n 1, 1) := by decide +kernel
theorem dX6_usesAt_13 : decode cX6_usesAt 13 = .ok (.iaload, 1) := by decide +kernel
theorem dX6_usesAt_14 : decode cX6_usesAt 14 = .ok (.goto 4, 3) := by decide +kernel
theorem dX6_usesAt_17 : decode cX6_usesAt 17 = .ok (.iconst (-1), 1) := by decide +kernel
theorem dX6_usesAt_18 : decode cX6_usesAt 18 = .ok (.ireturn, 1) := by decide +kernel
set_option maxRecDepth 20000 in
theorem ggX6_takeUse_X2_isOn : GoodIn wsX6_takeUse wsX2_isOn := goodIn_r _ [7, 8, 9, 10, 11, 12, 6, 13, 14, 15, 25, 26, 27, 28, 29, 30, 31, 32, 16, 17, 18, 19, 20, 21, 22, 23, 24] (by decide +kernel) (by decide +kernel)
set_option maxRecDepth 20000 in
theorem gX6_takeUse_X2_isOn_u33X6 : GoodIn wsX6_takeUse (va_wsU RX6 33 RX6 "SecretBroker$Leased" ⟨"SecretBroker$Tokens", "isOn", "(I)Z"⟩ yX2_isOn wsX2_isOn) := goodIn_app (goodIn_of _ (by decide +kernel)) ggX6_takeUse_X2_isOn
theorem dX6_takeUse_0 : decode cX6_takeUse 0 = .ok (.aload_n 0, 1) := by decide +kernel
theorem dX6_takeUse_1 : decode cX6_takeUse 1 = .ok (.iload_n 1, 1) := by decide +kernel
theorem dX6_takeUse_2 : decode cX6_takeUse 2 = .ok (.invokevirtual 33, 3) := by decide +kernel
theorem dX6_takeUse_5 : decode cX6_takeUse 5 = .ok (.ifCond .eq 22, 3) := by decide +kernel
theorem dX6_takeUse_8 : decode cX6_takeUse 8 = .ok (.aload_n 0, 1) := by decide +kernel
theorem dX6_takeUse_9 : decode cX6_takeUse 9 = .ok (.getfield 18, 3) := by decide +kernel
theorem dX6_takeUse_12 : decode cX6_takeUse 12 = .ok (.iload_n 1, 1) := by decide +kernel
theorem dX6_takeUse_13 : decode cX6_takeUse 13 = .ok (.iaload, 1) := by decide +kernel
theorem dX6_takeUse_14 : decode cX6_takeUse 14 = .ok (.ifCond .le 13, 3) := by decide +kernel
theorem dX6_takeUse_17 : decode cX6_takeUse 17 = .ok (.aload_n 0, 1) := by decide +kernel
theorem dX6_takeUse_18 : decode cX6_takeUse 18 = .ok (.getfield 18, 3) := by decide +kernel
theorem dX6_takeUse_21 : decode cX6_takeUse 21 = .ok (.iload_n 1, 1) := by decide +kernel
theorem dX6_takeUse_22 : decode cX6_takeUse 22 = .ok (.dup2, 1) := by decide +kernel
theorem dX6_takeUse_23 : decode cX6_takeUse 23 = .ok (.iaload, 1) := by decide +kernel
theorem dX6_takeUse_24 : decode cX6_takeUse 24 = .ok (.iconst 1, 1) := by decide +kernel
theorem dX6_takeUse_25 : decode cX6_takeUse 25 = .ok (.isub, 1) := by decide +kernel
theorem dX6_takeUse_26 : decode cX6_takeUse 26 = .ok (.iastore, 1) := by decide +kernel
theorem dX6_takeUse_27 : decode cX6_takeUse 27 = .ok (.return_, 1) := by decide +kernel
set_option maxRecDepth 20000 in
theorem ggX6_freeChildren_X2_made : GoodIn wsX6_freeChildren wsX2_made := goodIn_r _ [7, 8, 30, 31, 32, 33, 34, 35, 36, 37, 21, 22, 23, 24, 25, 26, 27, 28, 29] (by decide +kernel) (by decide +kernel)
set_option maxRecDepth 20000 in
theorem gX6_freeChildren_X2_made_u36X6 : GoodIn wsX6_freeChildren (va_wsU RX6 36 RX6 "SecretBroker$Leased" ⟨"SecretBroker$Tokens", "made", "()I"⟩ yX2_made wsX2_made) := goodIn_app (goodIn_of _ (by decide +kernel)) ggX6_freeChildren_X2_made
set_option maxRecDepth 20000 in
theorem ggX6_freeChildren_X2_isOn : GoodIn wsX6_freeChildren wsX2_isOn := goodIn_r _ [13, 14, 15, 16, 17, 18, 6, 19, 8, 20, 30, 31, 32, 33, 34, 35, 36, 37, 21, 22, 23, 24, 25, 26, 27, 28, 29] (by decide +kernel) (by decide +kernel)
set_option maxRecDepth 20000 in
theorem gX6_freeChildren_X2_isOn_u33X6 : GoodIn wsX6_freeChildren (va_wsU RX6 33 RX6 "SecretBroker$Leased" ⟨"SecretBroker$Tokens", "isOn", "(I)Z"⟩ yX2_isOn wsX2_isOn) := goodIn_app (goodIn_of _ (by decide +kernel)) ggX6_freeChildren_X2_isOn
theorem dX6_freeChildren_0 : decode cX6_freeChildren 0 = .ok (.iconst 0, 1) := by decide +kernel
theorem dX6_freeChildren_1 : decode cX6_freeChildren 1 = .ok (.istore_n 2, 1) := by decide +kernel
theorem dX6_freeChildren_2 : decode cX6_freeChildren 2 = .ok (.iload_n 2, 1) := by decide +kernel
theorem dX6_freeChildren_3 : decode cX6_freeChildren 3 = .ok (.aload_n 0, 1) := by decide +kernel
theorem dX6_freeChildren_4 : decode cX6_freeChildren 4 = .ok (.invokevirtual 36, 3) := by decide +kernel
theorem dX6_freeChildren_7 : decode cX6_freeChildren 7 = .ok (.if_icmp .ge 34, 3) := by decide +kernel
theorem dX6_freeChildren_10 : decode cX6_freeChildren 10 = .ok (.aload_n 0, 1) := by decide +kernel
theorem dX6_freeChildren_11 : decode cX6_freeChildren 11 = .ok (.getfield 9, 3) := by decide +kernel
theorem dX6_freeChildren_14 : decode cX6_freeChildren 14 = .ok (.iload_n 2, 1) := by decide +kernel
theorem dX6_freeChildren_15 : decode cX6_freeChildren 15 = .ok (.iaload, 1) := by decide +kernel
theorem dX6_freeChildren_16 : decode cX6_freeChildren 16 = .ok (.iload_n 1, 1) := by decide +kernel
theorem dX6_freeChildren_17 : decode cX6_freeChildren 17 = .ok (.if_icmp .ne 18, 3) := by decide +kernel
theorem dX6_freeChildren_20 : decode cX6_freeChildren 20 = .ok (.aload_n 0, 1) := by decide +kernel
theorem dX6_freeChildren_21 : decode cX6_freeChildren 21 = .ok (.iload_n 2, 1) := by decide +kernel
theorem dX6_freeChildren_22 : decode cX6_freeChildren 22 = .ok (.invokevirtual 33, 3) := by decide +kernel
theorem dX6_freeChildren_25 : decode cX6_freeChildren 25 = .ok (.ifCond .eq 10, 3) := by decide +kernel
theorem dX6_freeChildren_28 : decode cX6_freeChildren 28 = .ok (.aload_n 0, 1) := by decide +kernel
theorem dX6_freeChildren_29 : decode cX6_freeChildren 29 = .ok (.getfield 9, 3) := by decide +kernel
theorem dX6_freeChildren_32 : decode cX6_freeChildren 32 = .ok (.iload_n 2, 1) := by decide +kernel
theorem dX6_freeChildren_33 : decode cX6_freeChildren 33 = .ok (.iconst (-1), 1) := by decide +kernel
theorem dX6_freeChildren_34 : decode cX6_freeChildren 34 = .ok (.iastore, 1) := by decide +kernel
theorem dX6_freeChildren_35 : decode cX6_freeChildren 35 = .ok (.iinc 2 1, 3) := by decide +kernel
theorem dX6_freeChildren_38 : decode cX6_freeChildren 38 = .ok (.goto (-36), 3) := by decide +kernel
theorem dX6_freeChildren_41 : decode cX6_freeChildren 41 = .ok (.return_, 1) := by decide +kernel
set_option maxRecDepth 20000 in
theorem ggX6_endBelowEnded_X2_made : GoodIn wsX6_endBelowEnded wsX2_made := goodIn_r _ [7, 8, 40, 41, 42, 43, 44, 45, 46, 47, 31, 32, 33, 34, 35, 36, 37, 38, 39] (by decide +kernel) (by decide +kernel)
set_option maxRecDepth 20000 in
theorem gX6_endBelowEnded_X2_made_u36X6 : GoodIn wsX6_endBelowEnded (va_wsU RX6 36 RX6 "SecretBroker$Leased" ⟨"SecretBroker$Tokens", "made", "()I"⟩ yX2_made wsX2_made) := goodIn_app (goodIn_of _ (by decide +kernel)) ggX6_endBelowEnded_X2_made
set_option maxRecDepth 20000 in
theorem ggX6_endBelowEnded_X2_isOn : GoodIn wsX6_endBelowEnded wsX2_isOn := goodIn_r _ [13, 14, 15, 16, 17, 18, 6, 19, 8, 20, 40, 41, 42, 43, 44, 45, 46, 47, 31, 32, 33, 34, 35, 36, 37, 38, 39] (by decide +kernel) (by decide +kernel)
set_option maxRecDepth 20000 in
theorem gX6_endBelowEnded_X2_isOn_u33X6 : GoodIn wsX6_endBelowEnded (va_wsU RX6 33 RX6 "SecretBroker$Leased" ⟨"SecretBroker$Tokens", "isOn", "(I)Z"⟩ yX2_isOn wsX2_isOn) := goodIn_app (goodIn_of _ (by decide +kernel)) ggX6_endBelowEnded_X2_isOn
set_option maxRecDepth 20000 in
theorem ggX6_endBelowEnded_X2_end : GoodIn wsX6_endBelowEnded wsX2_end := goodIn_r _ [25, 14, 26, 27, 28, 29, 12, 6, 13, 15, 16, 17, 18, 19, 8, 20, 30, 40, 41, 42, 43, 44, 45, 46, 47, 31, 32, 33, 34, 35, 36, 37, 38, 39] (by decide +kernel) (by decide +kernel)
set_option maxRecDepth 20000 in
theorem gX6_endBelowEnded_X2_end_u40X6 : GoodIn wsX6_endBelowEnded (va_wsU RX6 40 RX6 "SecretBroker$Leased" ⟨"SecretBroker$Tokens", "end", "(I)I"⟩ yX2_end wsX2_end) := goodIn_app (goodIn_of _ (by decide +kernel)) ggX6_endBelowEnded_X2_end
theorem dX6_endBelowEnded_0 : decode cX6_endBelowEnded 0 = .ok (.iconst 0, 1) := by decide +kernel
theorem dX6_endBelowEnded_1 : decode cX6_endBelowEnded 1 = .ok (.istore_n 1, 1) := by decide +kernel
theorem dX6_endBelowEnded_2 : decode cX6_endBelowEnded 2 = .ok (.iconst 0, 1) := by decide +kernel
theorem dX6_endBelowEnded_3 : decode cX6_endBelowEnded 3 = .ok (.istore_n 2, 1) := by decide +kernel
theorem dX6_endBelowEnded_4 : decode cX6_endBelowEnded 4 = .ok (.iload_n 2, 1) := by decide +kernel
theorem dX6_endBelowEnded_5 : decode cX6_endBelowEnded 5 = .ok (.aload_n 0, 1) := by decide +kernel
theorem dX6_endBelowEnded_6 : decode cX6_endBelowEnded 6 = .ok (.invokevirtual 36, 3) := by decide +kernel
theorem dX6_endBelowEnded_9 : decode cX6_endBelowEnded 9 = .ok (.if_icmp .ge 40, 3) := by decide +kernel
theorem dX6_endBelowEnded_12 : decode cX6_endBelowEnded 12 = .ok (.aload_n 0, 1) := by decide +kernel
theorem dX6_endBelowEnded_13 : decode cX6_endBelowEnded 13 = .ok (.getfield 9, 3) := by decide +kernel
theorem dX6_endBelowEnded_16 : decode cX6_endBelowEnded 16 = .ok (.iload_n 2, 1) := by decide +kernel
theorem dX6_endBelowEnded_17 : decode cX6_endBelowEnded 17 = .ok (.iaload, 1) := by decide +kernel
theorem dX6_endBelowEnded_18 : decode cX6_endBelowEnded 18 = .ok (.iconst (-1), 1) := by decide +kernel
theorem dX6_endBelowEnded_19 : decode cX6_endBelowEnded 19 = .ok (.if_icmp .eq 24, 3) := by decide +kernel
theorem dX6_endBelowEnded_22 : decode cX6_endBelowEnded 22 = .ok (.aload_n 0, 1) := by decide +kernel
theorem dX6_endBelowEnded_23 : decode cX6_endBelowEnded 23 = .ok (.aload_n 0, 1) := by decide +kernel
theorem dX6_endBelowEnded_24 : decode cX6_endBelowEnded 24 = .ok (.getfield 9, 3) := by decide +kernel
theorem dX6_endBelowEnded_27 : decode cX6_endBelowEnded 27 = .ok (.iload_n 2, 1) := by decide +kernel
theorem dX6_endBelowEnded_28 : decode cX6_endBelowEnded 28 = .ok (.iaload, 1) := by decide +kernel
theorem dX6_endBelowEnded_29 : decode cX6_endBelowEnded 29 = .ok (.invokevirtual 33, 3) := by decide +kernel
theorem dX6_endBelowEnded_32 : decode cX6_endBelowEnded 32 = .ok (.ifCond .ne 11, 3) := by decide +kernel
theorem dX6_endBelowEnded_35 : decode cX6_endBelowEnded 35 = .ok (.iload_n 1, 1) := by decide +kernel
theorem dX6_endBelowEnded_36 : decode cX6_endBelowEnded 36 = .ok (.aload_n 0, 1) := by decide +kernel
theorem dX6_endBelowEnded_37 : decode cX6_endBelowEnded 37 = .ok (.iload_n 2, 1) := by decide +kernel
theorem dX6_endBelowEnded_38 : decode cX6_endBelowEnded 38 = .ok (.invokevirtual 40, 3) := by decide +kernel
theorem dX6_endBelowEnded_41 : decode cX6_endBelowEnded 41 = .ok (.iadd, 1) := by decide +kernel
theorem dX6_endBelowEnded_42 : decode cX6_endBelowEnded 42 = .ok (.istore_n 1, 1) := by decide +kernel
theorem dX6_endBelowEnded_43 : decode cX6_endBelowEnded 43 = .ok (.iinc 2 1, 3) := by decide +kernel
theorem dX6_endBelowEnded_46 : decode cX6_endBelowEnded 46 = .ok (.goto (-42), 3) := by decide +kernel
theorem dX6_endBelowEnded_49 : decode cX6_endBelowEnded 49 = .ok (.iload_n 1, 1) := by decide +kernel
theorem dX6_endBelowEnded_50 : decode cX6_endBelowEnded 50 = .ok (.ireturn, 1) := by decide +kernel
set_option maxRecDepth 20000 in
theorem ggX6_livingBelow_X2_made : GoodIn wsX6_livingBelow wsX2_made := goodIn_r _ [6, 7, 33, 34, 35, 36, 37, 38, 39, 40, 41, 42, 43, 44, 45, 46, 47, 48, 49] (by decide +kernel) (by decide +kernel)
set_option maxRecDepth 20000 in
theorem gX6_livingBelow_X2_made_u36X6 : GoodIn wsX6_livingBelow (va_wsU RX6 36 RX6 "SecretBroker$Leased" ⟨"SecretBroker$Tokens", "made", "()I"⟩ yX2_made wsX2_made) := goodIn_app (goodIn_of _ (by decide +kernel)) ggX6_livingBelow_X2_made
set_option maxRecDepth 20000 in
theorem ggX6_livingBelow_X2_isOn : GoodIn wsX6_livingBelow wsX2_isOn := goodIn_r _ [12, 13, 14, 15, 16, 17, 5, 18, 7, 19, 33, 34, 35, 36, 37, 38, 39, 40, 41, 42, 43, 44, 45, 46, 47, 48, 49] (by decide +kernel) (by decide +kernel)
set_option maxRecDepth 20000 in
theorem gX6_livingBelow_X2_isOn_u33X6 : GoodIn wsX6_livingBelow (va_wsU RX6 33 RX6 "SecretBroker$Leased" ⟨"SecretBroker$Tokens", "isOn", "(I)Z"⟩ yX2_isOn wsX2_isOn) := goodIn_app (goodIn_of _ (by decide +kernel)) ggX6_livingBelow_X2_isOn
set_option maxRecDepth 20000 in
theorem ggX6_livingBelow_X6_hangsBelow : GoodIn wsX6_livingBelow wsX6_hangsBelow := goodIn_r _ [24, 25, 26, 27, 23, 28, 29, 30, 31, 32, 17, 5, 18, 7, 41, 42, 43, 44, 45, 46, 47, 48, 49, 33, 34, 35, 36, 37, 38, 39, 40] (by decide +kernel) (by decide +kernel)
set_option maxRecDepth 20000 in
theorem gX6_livingBelow_X6_hangsBelow : GoodIn wsX6_livingBelow (wsV RX6 44 RX6 yX6_hangsBelow wsX6_hangsBelow) := goodIn_app (goodIn_of _ (by decide +kernel)) ggX6_livingBelow_X6_hangsBelow
theorem dX6_livingBelow_0 : decode cX6_livingBelow 0 = .ok (.iconst 0, 1) := by decide +kernel
theorem dX6_livingBelow_1 : decode cX6_livingBelow 1 = .ok (.istore_n 2, 1) := by decide +kernel
theorem dX6_livingBelow_2 : decode cX6_livingBelow 2 = .ok (.iconst 0, 1) := by decide +kernel
theorem dX6_livingBelow_3 : decode cX6_livingBelow 3 = .ok (.istore_n 3, 1) := by decide +kernel
theorem dX6_livingBelow_4 : decode cX6_livingBelow 4 = .ok (.iload_n 3, 1) := by decide +kernel
theorem dX6_livingBelow_5 : decode cX6_livingBelow 5 = .ok (.aload_n 0, 1) := by decide +kernel
theorem dX6_livingBelow_6 : decode cX6_livingBelow 6 = .ok (.invokevirtual 36, 3) := by decide +kernel
theorem dX6_livingBelow_9 : decode cX6_livingBelow 9 = .ok (.if_icmp .ge 29, 3) := by decide +kernel
theorem dX6_livingBelow_12 : decode cX6_livingBelow 12 = .ok (.aload_n 0, 1) := by decide +kernel
theorem dX6_livingBelow_13 : decode cX6_livingBelow 13 = .ok (.iload_n 3, 1) := by decide +kernel
theorem dX6_livingBelow_14 : decode cX6_livingBelow 14 = .ok (.invokevirtual 33, 3) := by decide +kernel
theorem dX6_livingBelow_17 : decode cX6_livingBelow 17 = .ok (.ifCond .eq 15, 3) := by decide +kernel
theorem dX6_livingBelow_20 : decode cX6_livingBelow 20 = .ok (.aload_n 0, 1) := by decide +kernel
theorem dX6_livingBelow_21 : decode cX6_livingBelow 21 = .ok (.iload_n 3, 1) := by decide +kernel
theorem dX6_livingBelow_22 : decode cX6_livingBelow 22 = .ok (.iload_n 1, 1) := by decide +kernel
theorem dX6_livingBelow_23 : decode cX6_livingBelow 23 = .ok (.invokevirtual 44, 3) := by decide +kernel
theorem dX6_livingBelow_26 : decode cX6_livingBelow 26 = .ok (.ifCond .eq 6, 3) := by decide +kernel
theorem dX6_livingBelow_29 : decode cX6_livingBelow 29 = .ok (.iinc 2 1, 3) := by decide +kernel
theorem dX6_livingBelow_32 : decode cX6_livingBelow 32 = .ok (.iinc 3 1, 3) := by decide +kernel
theorem dX6_livingBelow_35 : decode cX6_livingBelow 35 = .ok (.goto (-31), 3) := by decide +kernel
theorem dX6_livingBelow_38 : decode cX6_livingBelow 38 = .ok (.iload_n 2, 1) := by decide +kernel
theorem dX6_livingBelow_39 : decode cX6_livingBelow 39 = .ok (.ireturn, 1) := by decide +kernel
set_option maxRecDepth 20000 in
theorem ggX6_hangsBelow_X6_parentAt : GoodIn wsX6_hangsBelow wsX6_parentAt := goodIn_r _ [5, 6, 7, 8, 9, 10, 11, 12, 13, 14, 15, 16, 17, 18, 19, 20, 21, 22, 23, 24, 25, 26, 27, 28, 29, 30] (by decide +kernel) (by decide +kernel)
set_option maxRecDepth 20000 in
theorem gX6_hangsBelow_X6_parentAt : GoodIn wsX6_hangsBelow (wsV RX6 48 RX6 yX6_parentAt wsX6_parentAt) := goodIn_app (goodIn_of _ (by decide +kernel)) ggX6_hangsBelow_X6_parentAt
theorem dX6_hangsBelow_0 : decode cX6_hangsBelow 0 = .ok (.aload_n 0, 1) := by decide +kernel
theorem dX6_hangsBelow_1 : decode cX6_hangsBelow 1 = .ok (.iload_n 1, 1) := by decide +kernel
theorem dX6_hangsBelow_2 : decode cX6_hangsBelow 2 = .ok (.invokevirtual 48, 3) := by decide +kernel
theorem dX6_hangsBelow_5 : decode cX6_hangsBelow 5 = .ok (.istore_n 3, 1) := by decide +kernel
theorem dX6_hangsBelow_6 : decode cX6_hangsBelow 6 = .ok (.iconst 0, 1) := by decide +kernel
theorem dX6_hangsBelow_7 : decode cX6_hangsBelow 7 = .ok (.istore 4, 2) := by decide +kernel
theorem dX6_hangsBelow_9 : decode cX6_hangsBelow 9 = .ok (.iload 4, 2) := by decide +kernel
theorem dX6_hangsBelow_11 : decode cX6_hangsBelow 11 = .ok (.sipush 513, 3) := by decide +kernel
theorem dX6_hangsBelow_14 : decode cX6_hangsBelow 14 = .ok (.if_icmp .ge 20, 3) := by decide +kernel
theorem dX6_hangsBelow_17 : decode cX6_hangsBelow 17 = .ok (.iload_n 3, 1) := by decide +kernel
theorem dX6_hangsBelow_18 : decode cX6_hangsBelow 18 = .ok (.iload_n 2, 1) := by decide +kernel
theorem dX6_hangsBelow_19 : decode cX6_hangsBelow 19 = .ok (.if_icmp .le 15, 3) := by decide +kernel
theorem dX6_hangsBelow_22 : decode cX6_hangsBelow 22 = .ok (.aload_n 0, 1) := by decide +kernel
theorem dX6_hangsBelow_23 : decode cX6_hangsBelow 23 = .ok (.iload_n 3, 1) := by decide +kernel
theorem dX6_hangsBelow_24 : decode cX6_hangsBelow 24 = .ok (.invokevirtual 48, 3) := by decide +kernel
theorem dX6_hangsBelow_27 : decode cX6_hangsBelow 27 = .ok (.istore_n 3, 1) := by decide +kernel
theorem dX6_hangsBelow_28 : decode cX6_hangsBelow 28 = .ok (.iinc 4 1, 3) := by decide +kernel
theorem dX6_hangsBelow_31 : decode cX6_hangsBelow 31 = .ok (.goto (-22), 3) := by decide +kernel
theorem dX6_hangsBelow_34 : decode cX6_hangsBelow 34 = .ok (.iload_n 3, 1) := by decide +kernel
theorem dX6_hangsBelow_35 : decode cX6_hangsBelow 35 = .ok (.iload_n 2, 1) := by decide +kernel
theorem dX6_hangsBelow_36 : decode cX6_hangsBelow 36 = .ok (.if_icmp .ne 7, 3) := by decide +kernel
theorem dX6_hangsBelow_39 : decode cX6_hangsBelow 39 = .ok (.iconst 1, 1) := by decide +kernel
theorem dX6_hangsBelow_40 : decode cX6_hangsBelow 40 = .ok (.goto 4, 3) := by decide +kernel
theorem dX6_hangsBelow_43 : decode cX6_hangsBelow 43 = .ok (.iconst 0, 1) := by decide +kernel
theorem dX6_hangsBelow_44 : decode cX6_hangsBelow 44 = .ok (.ireturn, 1) := by decide +kernel
set_option maxRecDepth 20000 in
theorem ggX7_init_X5_init : GoodIn wsX7_init wsX5_init := goodIn_r _ [26, 27, 2, 3, 28, 29, 30, 31, 32, 33, 34, 85, 86, 87, 88, 89] (by decide +kernel) (by decide +kernel)
set_option maxRecDepth 20000 in
theorem gX7_init_X5_init_n9 : GoodIn wsX7_init (wsX5_init) := ggX7_init_X5_init
set_option maxRecDepth 20000 in
theorem ggX7_init_X3_init : GoodIn wsX7_init wsX3_init := goodIn_r _ [36, 37, 2, 3, 28, 38, 39, 40, 41, 96, 97, 98, 99] (by decide +kernel) (by decide +kernel)
set_option maxRecDepth 20000 in
theorem gX7_init_X3_init_n18 : GoodIn wsX7_init (wsX3_init) := ggX7_init_X3_init
set_option maxRecDepth 20000 in
theorem ggX7_init_X6_init : GoodIn wsX7_init wsX6_init := goodIn_r _ [44, 28, 45, 46, 47, 48, 49, 50, 51, 2, 3, 52, 53, 54, 31, 55, 56, 57, 58, 59, 60, 61, 62, 63, 64, 65, 14, 66, 67, 68, 69, 70, 71, 100, 101, 102, 103, 104, 105, 106, 107, 108, 109, 110, 111, 112, 113, 114, 115, 116] (by decide +kernel) (by decide +kernel)
set_option maxRecDepth 20000 in
theorem gX7_init_X6_init : GoodIn wsX7_init (wsX6_init) := ggX7_init_X6_init
set_option maxRecDepth 20000 in
theorem ggX7_init_X1_init : GoodIn wsX7_init wsX1_init := goodIn_r _ [73, 28, 74, 75, 48, 49, 50, 51, 2, 3, 52, 53, 54, 31, 55, 56, 57, 109, 110, 111, 112, 113, 114, 115, 116, 100, 101, 102, 103, 104, 105, 106, 107, 108] (by decide +kernel) (by decide +kernel)
set_option maxRecDepth 20000 in
theorem gX7_init_X1_init_n32 : GoodIn wsX7_init (wsX1_init) := ggX7_init_X1_init
set_option maxRecDepth 20000 in
theorem ggX7_init_X0_init : GoodIn wsX7_init wsX0_init := goodIn_r _ [77, 78, 2, 3, 28, 79, 80, 81, 82, 83, 84, 117, 118, 119, 120, 121] (by decide +kernel) (by decide +kernel)
set_option maxRecDepth 20000 in
theorem gX7_init_X0_init_n39 : GoodIn wsX7_init (wsX0_init) := ggX7_init_X0_init
theorem dX7_init_0 : decode cX7_init 0 = .ok (.aload_n 0, 1) := by decide +kernel
theorem dX7_init_1 : decode cX7_init 1 = .ok (.invokespecial 1, 3) := by decide +kernel
theorem dX7_init_4 : decode cX7_init 4 = .ok (.aload_n 0, 1) := by decide +kernel
theorem dX7_init_5 : decode cX7_init 5 = .ok (.new 7, 3) := by decide +kernel
theorem dX7_init_8 : decode cX7_init 8 = .ok (.dup, 1) := by decide +kernel
theorem dX7_init_9 : decode cX7_init 9 = .ok (.invokespecial 9, 3) := by decide +kernel
theorem dX7_init_12 : decode cX7_init 12 = .ok (.putfield 10, 3) := by decide +kernel
theorem dX7_init_15 : decode cX7_init 15 = .ok (.aload_n 0, 1) := by decide +kernel
theorem dX7_init_16 : decode cX7_init 16 = .ok (.new 16, 3) := by decide +kernel
theorem dX7_init_19 : decode cX7_init 19 = .ok (.dup, 1) := by decide +kernel
theorem dX7_init_20 : decode cX7_init 20 = .ok (.invokespecial 18, 3) := by decide +kernel
theorem dX7_init_23 : decode cX7_init 23 = .ok (.putfield 19, 3) := by decide +kernel
theorem dX7_init_26 : decode cX7_init 26 = .ok (.aload_n 0, 1) := by decide +kernel
theorem dX7_init_27 : decode cX7_init 27 = .ok (.new 23, 3) := by decide +kernel
theorem dX7_init_30 : decode cX7_init 30 = .ok (.dup, 1) := by decide +kernel
theorem dX7_init_31 : decode cX7_init 31 = .ok (.invokespecial 25, 3) := by decide +kernel
theorem dX7_init_34 : decode cX7_init 34 = .ok (.putfield 26, 3) := by decide +kernel
theorem dX7_init_37 : decode cX7_init 37 = .ok (.aload_n 0, 1) := by decide +kernel
theorem dX7_init_38 : decode cX7_init 38 = .ok (.new 30, 3) := by decide +kernel
theorem dX7_init_41 : decode cX7_init 41 = .ok (.dup, 1) := by decide +kernel
theorem dX7_init_42 : decode cX7_init 42 = .ok (.invokespecial 32, 3) := by decide +kernel
theorem dX7_init_45 : decode cX7_init 45 = .ok (.putfield 33, 3) := by decide +kernel
theorem dX7_init_48 : decode cX7_init 48 = .ok (.aload_n 0, 1) := by decide +kernel
theorem dX7_init_49 : decode cX7_init 49 = .ok (.new 37, 3) := by decide +kernel
theorem dX7_init_52 : decode cX7_init 52 = .ok (.dup, 1) := by decide +kernel
theorem dX7_init_53 : decode cX7_init 53 = .ok (.invokespecial 39, 3) := by decide +kernel
theorem dX7_init_56 : decode cX7_init 56 = .ok (.putfield 40, 3) := by decide +kernel
theorem dX7_init_59 : decode cX7_init 59 = .ok (.aload_n 0, 1) := by decide +kernel
theorem dX7_init_60 : decode cX7_init 60 = .ok (.iconst 0, 1) := by decide +kernel
theorem dX7_init_61 : decode cX7_init 61 = .ok (.putfield 44, 3) := by decide +kernel
theorem dX7_init_64 : decode cX7_init 64 = .ok (.return_, 1) := by decide +kernel
set_option maxRecDepth 20000 in
theorem ggX7_policy_X5_count : GoodIn wsX7_policy wsX5_count := goodIn_r _ [8, 9, 20, 21, 22, 23, 24] (by decide +kernel) (by decide +kernel)
set_option maxRecDepth 20000 in
theorem gX7_policy_X5_count : GoodIn wsX7_policy (wsV RX7 48 RX5 yX5_count wsX5_count) := goodIn_app (goodIn_of _ (by decide +kernel)) ggX7_policy_X5_count
set_option maxRecDepth 20000 in
theorem ggX7_policy_X5_add : GoodIn wsX7_policy wsX5_add := goodIn_r _ [13, 9, 20, 21, 22, 23, 24] (by decide +kernel) (by decide +kernel)
set_option maxRecDepth 20000 in
theorem gX7_policy_X5_add : GoodIn wsX7_policy (wsV RX7 59 RX5 yX5_add wsX5_add) := goodIn_app (goodIn_of _ (by decide +kernel)) ggX7_policy_X5_add
theorem dX7_policy_0 : decode cX7_policy 0 = .ok (.aload_n 0, 1) := by decide +kernel
theorem dX7_policy_1 : decode cX7_policy 1 = .ok (.getfield 10, 3) := by decide +kernel
theorem dX7_policy_4 : decode cX7_policy 4 = .ok (.invokevirtual 48, 3) := by decide +kernel
theorem dX7_policy_7 : decode cX7_policy 7 = .ok (.bipush 8, 2) := by decide +kernel
theorem dX7_policy_9 : decode cX7_policy 9 = .ok (.if_icmp .lt 13, 3) := by decide +kernel
theorem dX7_policy_12 : decode cX7_policy 12 = .ok (.new 52, 3) := by decide +kernel
theorem dX7_policy_15 : decode cX7_policy 15 = .ok (.dup, 1) := by decide +kernel
theorem dX7_policy_16 : decode cX7_policy 16 = .ok (.ldc 54, 2) := by decide +kernel
theorem dX7_policy_18 : decode cX7_policy 18 = .ok (.invokespecial 56, 3) := by decide +kernel
theorem dX7_policy_21 : decode cX7_policy 21 = .ok (.athrow, 1) := by decide +kernel
theorem dX7_policy_22 : decode cX7_policy 22 = .ok (.aload_n 0, 1) := by decide +kernel
theorem dX7_policy_23 : decode cX7_policy 23 = .ok (.getfield 10, 3) := by decide +kernel
theorem dX7_policy_26 : decode cX7_policy 26 = .ok (.invokevirtual 59, 3) := by decide +kernel
theorem dX7_policy_29 : decode cX7_policy 29 = .ok (.ireturn, 1) := by decide +kernel
set_option maxRecDepth 20000 in
theorem ggX7_allow_X7_checkPolicy : GoodIn wsX7_allow wsX7_checkPolicy := goodIn_ca (goodIn_r _ [10, 11, 12, 5, 13, 14, 15, 16, 17, 18, 53, 54, 55, 56, 57, 58, 59, 60, 61, 62, 63] (by decide +kernel) (by decide +kernel)) (goodIn_sub (fun _ h => List.mem_cons_of_mem _ (List.mem_append_right _ h)) (by decide +kernel))
set_option maxRecDepth 20000 in
theorem gX7_allow_X7_checkPolicy : GoodIn wsX7_allow (wsV RX7 62 RX7 yX7_checkPolicy wsX7_checkPolicy) := goodIn_app (goodIn_of _ (by decide +kernel)) ggX7_allow_X7_checkPolicy
set_option maxRecDepth 20000 in
theorem ggX7_allow_X4_isPattern : GoodIn wsX7_allow wsX4_isPattern := goodIn_r _ [22, 23, 24, 21, 25, 26] (by decide +kernel) (by decide +kernel)
set_option maxRecDepth 20000 in
theorem gX7_allow_X4_isPattern : GoodIn wsX7_allow (va_wsS RX7 66 yX4_isPattern wsX4_isPattern) := goodIn_app (goodIn_of _ (by decide +kernel)) ggX7_allow_X4_isPattern
set_option maxRecDepth 20000 in
theorem ggX7_allow_X7_checkRange : GoodIn wsX7_allow wsX7_checkRange := goodIn_ca (goodIn_r _ [29, 1, 2] (by decide +kernel) (by decide +kernel)) (goodIn_sub (fun _ h => List.mem_cons_of_mem _ (List.mem_append_left _ (List.mem_append_left _ (List.mem_append_right _ h)))) (by decide +kernel))
set_option maxRecDepth 20000 in
theorem gX7_allow_X7_checkRange : GoodIn wsX7_allow (va_wsS RX7 77 yX7_checkRange wsX7_checkRange) := goodIn_app (goodIn_of _ (by decide +kernel)) ggX7_allow_X7_checkRange
set_option maxRecDepth 20000 in
theorem ggX7_allow_X5_find : GoodIn wsX7_allow wsX5_find := goodIn_r _ [33, 34, 35, 36, 37, 38, 16, 39, 40, 41, 14, 15, 17, 18, 59, 60, 61, 62, 63] (by decide +kernel) (by decide +kernel)
set_option maxRecDepth 20000 in
theorem gX7_allow_X5_find : GoodIn wsX7_allow (wsV RX7 81 RX5 yX5_find wsX5_find) := goodIn_app (goodIn_of _ (by decide +kernel)) ggX7_allow_X5_find
set_option maxRecDepth 20000 in
theorem ggX7_allow_X5_rulesOf : GoodIn wsX7_allow wsX5_rulesOf := goodIn_r _ [39, 40, 41, 14, 15, 16, 17, 18, 59, 60, 61, 62, 63] (by decide +kernel) (by decide +kernel)
set_option maxRecDepth 20000 in
theorem gX7_allow_X5_rulesOf : GoodIn wsX7_allow (wsV RX7 85 RX5 yX5_rulesOf wsX5_rulesOf) := goodIn_app (goodIn_of _ (by decide +kernel)) ggX7_allow_X5_rulesOf
set_option maxRecDepth 20000 in
theorem ggX7_allow_X5_put : GoodIn wsX7_allow wsX5_put := goodIn_r _ [46, 34, 35, 47, 48, 31, 32, 16, 33, 36, 37, 38, 39, 40, 41, 14, 15, 17, 18, 49, 50, 51, 52, 59, 60, 61, 62, 63] (by decide +kernel) (by decide +kernel)
set_option maxRecDepth 20000 in
theorem gX7_allow_X5_put : GoodIn wsX7_allow (wsV RX7 91 RX5 yX5_put wsX5_put) := goodIn_app (goodIn_of _ (by decide +kernel)) ggX7_allow_X5_put
theorem dX7_allow_0 : decode cX7_allow 0 = .ok (.aload_n 0, 1) := by decide +kernel
theorem dX7_allow_1 : decode cX7_allow 1 = .ok (.iload_n 1, 1) := by decide +kernel
theorem dX7_allow_2 : decode cX7_allow 2 = .ok (.invokevirtual 62, 3) := by decide +kernel
theorem dX7_allow_5 : decode cX7_allow 5 = .ok (.iload_n 2, 1) := by decide +kernel
theorem dX7_allow_6 : decode cX7_allow 6 = .ok (.invokestatic 66, 3) := by decide +kernel
theorem dX7_allow_9 : decode cX7_allow 9 = .ok (.ifCond .ne 13, 3) := by decide +kernel
theorem dX7_allow_12 : decode cX7_allow 12 = .ok (.new 72, 3) := by decide +kernel
theorem dX7_allow_15 : decode cX7_allow 15 = .ok (.dup, 1) := by decide +kernel
theorem dX7_allow_16 : decode cX7_allow 16 = .ok (.ldc 74, 2) := by decide +kernel
theorem dX7_allow_18 : decode cX7_allow 18 = .ok (.invokespecial 76, 3) := by decide +kernel
theorem dX7_allow_21 : decode cX7_allow 21 = .ok (.athrow, 1) := by decide +kernel
theorem dX7_allow_22 : decode cX7_allow 22 = .ok (.iload 4, 2) := by decide +kernel
theorem dX7_allow_24 : decode cX7_allow 24 = .ok (.iconst 0, 1) := by decide +kernel
theorem dX7_allow_25 : decode cX7_allow 25 = .ok (.bipush 15, 2) := by decide +kernel
theorem dX7_allow_27 : decode cX7_allow 27 = .ok (.invokestatic 77, 3) := by decide +kernel
theorem dX7_allow_30 : decode cX7_allow 30 = .ok (.aload_n 0, 1) := by decide +kernel
theorem dX7_allow_31 : decode cX7_allow 31 = .ok (.getfield 10, 3) := by decide +kernel
theorem dX7_allow_34 : decode cX7_allow 34 = .ok (.iload_n 1, 1) := by decide +kernel
theorem dX7_allow_35 : decode cX7_allow 35 = .ok (.iload_n 2, 1) := by decide +kernel
theorem dX7_allow_36 : decode cX7_allow 36 = .ok (.iload_n 3, 1) := by decide +kernel
theorem dX7_allow_37 : decode cX7_allow 37 = .ok (.invokevirtual 81, 3) := by decide +kernel
theorem dX7_allow_40 : decode cX7_allow 40 = .ok (.istore 5, 2) := by decide +kernel
theorem dX7_allow_42 : decode cX7_allow 42 = .ok (.iload 5, 2) := by decide +kernel
theorem dX7_allow_44 : decode cX7_allow 44 = .ok (.iconst (-1), 1) := by decide +kernel
theorem dX7_allow_45 : decode cX7_allow 45 = .ok (.if_icmp .ne 26, 3) := by decide +kernel
theorem dX7_allow_48 : decode cX7_allow 48 = .ok (.aload_n 0, 1) := by decide +kernel
theorem dX7_allow_49 : decode cX7_allow 49 = .ok (.getfield 10, 3) := by decide +kernel
theorem dX7_allow_52 : decode cX7_allow 52 = .ok (.iload_n 1, 1) := by decide +kernel
theorem dX7_allow_53 : decode cX7_allow 53 = .ok (.invokevirtual 85, 3) := by decide +kernel
theorem dX7_allow_56 : decode cX7_allow 56 = .ok (.bipush 6, 2) := by decide +kernel
theorem dX7_allow_58 : decode cX7_allow 58 = .ok (.if_icmp .lt 13, 3) := by decide +kernel
theorem dX7_allow_61 : decode cX7_allow 61 = .ok (.new 52, 3) := by decide +kernel
theorem dX7_allow_64 : decode cX7_allow 64 = .ok (.dup, 1) := by decide +kernel
theorem dX7_allow_65 : decode cX7_allow 65 = .ok (.ldc 89, 2) := by decide +kernel
theorem dX7_allow_67 : decode cX7_allow 67 = .ok (.invokespecial 56, 3) := by decide +kernel
theorem dX7_allow_70 : decode cX7_allow 70 = .ok (.athrow, 1) := by decide +kernel
theorem dX7_allow_71 : decode cX7_allow 71 = .ok (.aload_n 0, 1) := by decide +kernel
theorem dX7_allow_72 : decode cX7_allow 72 = .ok (.getfield 10, 3) := by decide +kernel
theorem dX7_allow_75 : decode cX7_allow 75 = .ok (.iload_n 1, 1) := by decide +kernel
theorem dX7_allow_76 : decode cX7_allow 76 = .ok (.iload_n 2, 1) := by decide +kernel
theorem dX7_allow_77 : decode cX7_allow 77 = .ok (.iload_n 3, 1) := by decide +kernel
theorem dX7_allow_78 : decode cX7_allow 78 = .ok (.iload 4, 2) := by decide +kernel
theorem dX7_allow_80 : decode cX7_allow 80 = .ok (.invokevirtual 91, 3) := by decide +kernel
theorem dX7_allow_83 : decode cX7_allow 83 = .ok (.aload_n 0, 1) := by decide +kernel
theorem dX7_allow_84 : decode cX7_allow 84 = .ok (.getfield 10, 3) := by decide +kernel
theorem dX7_allow_87 : decode cX7_allow 87 = .ok (.iload_n 1, 1) := by decide +kernel
theorem dX7_allow_88 : decode cX7_allow 88 = .ok (.invokevirtual 85, 3) := by decide +kernel
theorem dX7_allow_91 : decode cX7_allow 91 = .ok (.ireturn, 1) := by decide +kernel
set_option maxRecDepth 20000 in
theorem ggX7_mount_X7_checkPath : GoodIn wsX7_mount wsX7_checkPath := goodIn_ca (goodIn_r _ [7, 8, 9, 10, 11, 12, 13, 14, 15, 16, 17] (by decide +kernel) (by decide +kernel)) (goodIn_sub (fun _ h => List.mem_cons_of_mem _ (List.mem_append_right _ h)) (by decide +kernel))
set_option maxRecDepth 20000 in
theorem gX7_mount_X7_checkPath : GoodIn wsX7_mount (va_wsS RX7 98 yX7_checkPath wsX7_checkPath) := goodIn_app (goodIn_of _ (by decide +kernel)) ggX7_mount_X7_checkPath
set_option maxRecDepth 20000 in
theorem ggX7_mount_X7_checkLease : GoodIn wsX7_mount wsX7_checkLease := goodIn_ca (goodIn_r _ [20, 21, 22, 6, 23, 8, 9] (by decide +kernel) (by decide +kernel)) (goodIn_sub (fun _ h => List.mem_cons_of_mem _ (List.mem_append_right _ h)) (by decide +kernel))
set_option maxRecDepth 20000 in
theorem gX7_mount_X7_checkLease : GoodIn wsX7_mount (va_wsS RX7 101 yX7_checkLease wsX7_checkLease) := goodIn_app (goodIn_of _ (by decide +kernel)) ggX7_mount_X7_checkLease
set_option maxRecDepth 20000 in
theorem ggX7_mount_X3_find : GoodIn wsX7_mount wsX3_find := goodIn_r _ [28, 29, 30, 48, 49, 50, 51] (by decide +kernel) (by decide +kernel)
set_option maxRecDepth 20000 in
theorem gX7_mount_X3_find : GoodIn wsX7_mount (wsV RX7 105 RX3 yX3_find wsX3_find) := goodIn_app (goodIn_of _ (by decide +kernel)) ggX7_mount_X3_find
set_option maxRecDepth 20000 in
theorem ggX7_mount_X3_count : GoodIn wsX7_mount wsX3_count := goodIn_r _ [34, 29, 48, 49, 50, 51] (by decide +kernel) (by decide +kernel)
set_option maxRecDepth 20000 in
theorem gX7_mount_X3_count : GoodIn wsX7_mount (wsV RX7 107 RX3 yX3_count wsX3_count) := goodIn_app (goodIn_of _ (by decide +kernel)) ggX7_mount_X3_count
set_option maxRecDepth 20000 in
theorem ggX7_mount_X3_put : GoodIn wsX7_mount wsX3_put := goodIn_r _ [38, 29, 30, 39, 40, 41, 25, 26, 27, 28, 48, 49, 50, 51] (by decide +kernel) (by decide +kernel)
set_option maxRecDepth 20000 in
theorem gX7_mount_X3_put : GoodIn wsX7_mount (wsV RX7 110 RX3 yX3_put wsX3_put) := goodIn_app (goodIn_of _ (by decide +kernel)) ggX7_mount_X3_put
theorem dX7_mount_0 : decode cX7_mount 0 = .ok (.iload_n 1, 1) := by decide +kernel
theorem dX7_mount_1 : decode cX7_mount 1 = .ok (.invokestatic 98, 3) := by decide +kernel
theorem dX7_mount_4 : decode cX7_mount 4 = .ok (.iload_n 2, 1) := by decide +kernel
theorem dX7_mount_5 : decode cX7_mount 5 = .ok (.iload_n 3, 1) := by decide +kernel
theorem dX7_mount_6 : decode cX7_mount 6 = .ok (.invokestatic 101, 3) := by decide +kernel
theorem dX7_mount_9 : decode cX7_mount 9 = .ok (.aload_n 0, 1) := by decide +kernel
theorem dX7_mount_10 : decode cX7_mount 10 = .ok (.getfield 19, 3) := by decide +kernel
theorem dX7_mount_13 : decode cX7_mount 13 = .ok (.iload_n 1, 1) := by decide +kernel
theorem dX7_mount_14 : decode cX7_mount 14 = .ok (.invokevirtual 105, 3) := by decide +kernel
theorem dX7_mount_17 : decode cX7_mount 17 = .ok (.iconst (-1), 1) := by decide +kernel
theorem dX7_mount_18 : decode cX7_mount 18 = .ok (.if_icmp .ne 25, 3) := by decide +kernel
theorem dX7_mount_21 : decode cX7_mount 21 = .ok (.aload_n 0, 1) := by decide +kernel
theorem dX7_mount_22 : decode cX7_mount 22 = .ok (.getfield 19, 3) := by decide +kernel
theorem dX7_mount_25 : decode cX7_mount 25 = .ok (.invokevirtual 107, 3) := by decide +kernel
theorem dX7_mount_28 : decode cX7_mount 28 = .ok (.bipush 6, 2) := by decide +kernel
theorem dX7_mount_30 : decode cX7_mount 30 = .ok (.if_icmp .lt 13, 3) := by decide +kernel
theorem dX7_mount_33 : decode cX7_mount 33 = .ok (.new 52, 3) := by decide +kernel
theorem dX7_mount_36 : decode cX7_mount 36 = .ok (.dup, 1) := by decide +kernel
theorem dX7_mount_37 : decode cX7_mount 37 = .ok (.ldc 108, 2) := by decide +kernel
theorem dX7_mount_39 : decode cX7_mount 39 = .ok (.invokespecial 56, 3) := by decide +kernel
theorem dX7_mount_42 : decode cX7_mount 42 = .ok (.athrow, 1) := by decide +kernel
theorem dX7_mount_43 : decode cX7_mount 43 = .ok (.aload_n 0, 1) := by decide +kernel
theorem dX7_mount_44 : decode cX7_mount 44 = .ok (.getfield 19, 3) := by decide +kernel
theorem dX7_mount_47 : decode cX7_mount 47 = .ok (.iload_n 1, 1) := by decide +kernel
theorem dX7_mount_48 : decode cX7_mount 48 = .ok (.iload_n 2, 1) := by decide +kernel
theorem dX7_mount_49 : decode cX7_mount 49 = .ok (.iload_n 3, 1) := by decide +kernel
theorem dX7_mount_50 : decode cX7_mount 50 = .ok (.invokevirtual 110, 3) := by decide +kernel
theorem dX7_mount_53 : decode cX7_mount 53 = .ok (.aload_n 0, 1) := by decide +kernel
theorem dX7_mount_54 : decode cX7_mount 54 = .ok (.getfield 19, 3) := by decide +kernel
theorem dX7_mount_57 : decode cX7_mount 57 = .ok (.invokevirtual 107, 3) := by decide +kernel
theorem dX7_mount_60 : decode cX7_mount 60 = .ok (.ireturn, 1) := by decide +kernel
set_option maxRecDepth 20000 in
theorem ggX7_create_X7_checkToken : GoodIn wsX7_create wsX7_checkToken := goodIn_ca (goodIn_r _ [12, 13, 14, 5, 15, 16, 17, 18, 19, 20, 21, 101, 102, 103, 104, 105, 106, 107, 108, 109, 110, 111, 112, 113, 114, 115, 116, 117, 118, 119, 120, 121, 122, 123] (by decide +kernel) (by decide +kernel)) (goodIn_sub (fun _ h => List.mem_cons_of_mem _ (List.mem_append_right _ h)) (by decide +kernel))
set_option maxRecDepth 20000 in
theorem gX7_create_X7_checkToken : GoodIn wsX7_create (wsV RX7 112 RX7 yX7_checkToken wsX7_checkToken) := goodIn_app (goodIn_of _ (by decide +kernel)) ggX7_create_X7_checkToken
set_option maxRecDepth 20000 in
theorem ggX7_create_X7_mayHand : GoodIn wsX7_create wsX7_mayHand := goodIn_r _ [25, 26, 5, 27, 28, 29, 30, 31, 32, 33, 34, 35, 36, 37, 38, 39, 16, 17, 18, 19, 20, 21, 101, 102, 103, 104, 105, 106, 124, 125, 126, 127, 128, 115, 116, 117, 118, 119, 120, 121, 122, 123, 107, 108, 109, 110, 111, 112, 113, 114] (by decide +kernel) (by decide +kernel)
set_option maxRecDepth 20000 in
theorem gX7_create_X7_mayHand : GoodIn wsX7_create (wsV RX7 115 RX7 yX7_mayHand wsX7_mayHand) := goodIn_app (goodIn_of _ (by decide +kernel)) ggX7_create_X7_mayHand
set_option maxRecDepth 20000 in
theorem ggX7_create_X7_checkLease : GoodIn wsX7_create wsX7_checkLease := goodIn_ca (goodIn_r _ [42, 43, 44, 11, 45, 1, 2] (by decide +kernel) (by decide +kernel)) (goodIn_sub (fun _ h => List.mem_cons_of_mem _ (List.mem_append_left _ (List.mem_append_left _ (List.mem_append_right _ h)))) (by decide +kernel))
set_option maxRecDepth 20000 in
theorem gX7_create_X7_checkLease : GoodIn wsX7_create (va_wsS RX7 101 yX7_checkLease wsX7_checkLease) := goodIn_app (goodIn_of _ (by decide +kernel)) ggX7_create_X7_checkLease
set_option maxRecDepth 20000 in
theorem ggX7_create_X7_checkRange : GoodIn wsX7_create wsX7_checkRange := goodIn_ca (goodIn_r _ [45, 1, 2] (by decide +kernel) (by decide +kernel)) (goodIn_sub (fun _ h => List.mem_cons_of_mem _ (List.mem_append_left _ (List.mem_append_left _ (List.mem_append_right _ h)))) (by decide +kernel))
set_option maxRecDepth 20000 in
theorem gX7_create_X7_checkRange : GoodIn wsX7_create (va_wsS RX7 77 yX7_checkRange wsX7_checkRange) := goodIn_app (goodIn_of _ (by decide +kernel)) ggX7_create_X7_checkRange
set_option maxRecDepth 20000 in
theorem ggX7_create_X7_checkAliveToken : GoodIn wsX7_create wsX7_checkAliveToken := goodIn_ca (goodIn_r _ [49, 3, 4, 5, 50, 51, 52, 53, 19, 54, 55, 56, 57, 58, 18, 20, 21, 59, 101, 102, 103, 104, 105, 106, 107, 108, 109, 110, 111, 112, 113, 114, 115, 116, 117, 118, 119, 120, 121, 122, 123] (by decide +kernel) (by decide +kernel)) (goodIn_sub (fun _ h => List.mem_cons_of_mem _ (List.mem_append_left _ (List.mem_append_right _ h))) (by decide +kernel))
set_option maxRecDepth 20000 in
theorem gX7_create_X7_checkAliveToken : GoodIn wsX7_create (wsV RX7 121 RX7 yX7_checkAliveToken wsX7_checkAliveToken) := goodIn_app (goodIn_of _ (by decide +kernel)) ggX7_create_X7_checkAliveToken
set_option maxRecDepth 20000 in
theorem ggX7_create_X2_living : GoodIn wsX7_create wsX2_living := goodIn_r _ [64, 65, 107, 108, 109, 110, 111, 112, 113, 114, 115, 116, 117, 118, 119, 120, 121, 122, 123] (by decide +kernel) (by decide +kernel)
set_option maxRecDepth 20000 in
theorem gX7_create_X2_living_u124X6 : GoodIn wsX7_create (va_wsU RX7 124 RX6 "SecretBroker$Leased" ⟨"SecretBroker$Tokens", "living", "()I"⟩ yX2_living wsX2_living) := goodIn_app (goodIn_of _ (by decide +kernel)) ggX7_create_X2_living
set_option maxRecDepth 20000 in
theorem ggX7_create_X2_isFull : GoodIn wsX7_create wsX2_isFull := goodIn_r _ [70, 21, 107, 108, 109, 110, 111, 112, 113, 114, 115, 116, 117, 118, 119, 120, 121, 122, 123] (by decide +kernel) (by decide +kernel)
set_option maxRecDepth 20000 in
theorem gX7_create_X2_isFull_u127X6 : GoodIn wsX7_create (va_wsU RX7 127 RX6 "SecretBroker$Leased" ⟨"SecretBroker$Tokens", "isFull", "()Z"⟩ yX2_isFull wsX2_isFull) := goodIn_app (goodIn_of _ (by decide +kernel)) ggX7_create_X2_isFull
set_option maxRecDepth 20000 in
theorem ggX7_create_X2_add : GoodIn wsX7_create wsX2_add := goodIn_r _ [75, 21, 76, 77, 78, 55, 65, 107, 108, 109, 110, 111, 112, 113, 114, 115, 116, 117, 118, 119, 120, 121, 122, 123] (by decide +kernel) (by decide +kernel)
set_option maxRecDepth 20000 in
theorem gX7_create_X2_add_u133X6 : GoodIn wsX7_create (va_wsU RX7 133 RX6 "SecretBroker$Leased" ⟨"SecretBroker$Tokens", "add", "(III)I"⟩ yX2_add wsX2_add) := goodIn_app (goodIn_of _ (by decide +kernel)) ggX7_create_X2_add
set_option maxRecDepth 20000 in
theorem ggX7_create_X6_describe : GoodIn wsX7_create wsX6_describe := goodIn_r _ [82, 83, 38, 84, 39, 16, 17, 18, 19, 20, 21, 115, 116, 117, 118, 119, 120, 121, 122, 123, 107, 108, 109, 110, 111, 112, 113, 114] (by decide +kernel) (by decide +kernel)
set_option maxRecDepth 20000 in
theorem gX7_create_X6_describe : GoodIn wsX7_create (wsV RX7 136 RX6 yX6_describe wsX6_describe) := goodIn_app (goodIn_of _ (by decide +kernel)) ggX7_create_X6_describe
set_option maxRecDepth 20000 in
theorem ggX7_create_X0_write : GoodIn wsX7_create wsX0_write := goodIn_r _ [89, 90, 91, 92, 93, 94, 95, 96, 97, 98, 99, 100, 129, 130, 131, 132, 133] (by decide +kernel) (by decide +kernel)
set_option maxRecDepth 20000 in
theorem gX7_create_X0_write : GoodIn wsX7_create (wsV RX7 140 RX0 yX0_write wsX0_write) := goodIn_app (goodIn_of _ (by decide +kernel)) ggX7_create_X0_write
theorem dX7_create_0 : decode cX7_create 0 = .ok (.aload_n 0, 1) := by decide +kernel
theorem dX7_create_1 : decode cX7_create 1 = .ok (.iload_n 1, 1) := by decide +kernel
theorem dX7_create_2 : decode cX7_create 2 = .ok (.invokevirtual 112, 3) := by decide +kernel
theorem dX7_create_5 : decode cX7_create 5 = .ok (.aload_n 0, 1) := by decide +kernel
theorem dX7_create_6 : decode cX7_create 6 = .ok (.iload_n 1, 1) := by decide +kernel
theorem dX7_create_7 : decode cX7_create 7 = .ok (.iload_n 2, 1) := by decide +kernel
theorem dX7_create_8 : decode cX7_create 8 = .ok (.invokevirtual 115, 3) := by decide +kernel
theorem dX7_create_11 : decode cX7_create 11 = .ok (.ifCond .ne 13, 3) := by decide +kernel
theorem dX7_create_14 : decode cX7_create 14 = .ok (.new 72, 3) := by decide +kernel
theorem dX7_create_17 : decode cX7_create 17 = .ok (.dup, 1) := by decide +kernel
theorem dX7_create_18 : decode cX7_create 18 = .ok (.ldc 119, 2) := by decide +kernel
theorem dX7_create_20 : decode cX7_create 20 = .ok (.invokespecial 76, 3) := by decide +kernel
theorem dX7_create_23 : decode cX7_create 23 = .ok (.athrow, 1) := by decide +kernel
theorem dX7_create_24 : decode cX7_create 24 = .ok (.iload_n 3, 1) := by decide +kernel
theorem dX7_create_25 : decode cX7_create 25 = .ok (.iload 4, 2) := by decide +kernel
theorem dX7_create_27 : decode cX7_create 27 = .ok (.invokestatic 101, 3) := by decide +kernel
theorem dX7_create_30 : decode cX7_create 30 = .ok (.iload 5, 2) := by decide +kernel
theorem dX7_create_32 : decode cX7_create 32 = .ok (.iconst 0, 1) := by decide +kernel
theorem dX7_create_33 : decode cX7_create 33 = .ok (.bipush 100, 2) := by decide +kernel
theorem dX7_create_35 : decode cX7_create 35 = .ok (.invokestatic 77, 3) := by decide +kernel
theorem dX7_create_38 : decode cX7_create 38 = .ok (.aload_n 0, 1) := by decide +kernel
theorem dX7_create_39 : decode cX7_create 39 = .ok (.iload_n 1, 1) := by decide +kernel
theorem dX7_create_40 : decode cX7_create 40 = .ok (.invokevirtual 121, 3) := by decide +kernel
theorem dX7_create_43 : decode cX7_create 43 = .ok (.aload_n 0, 1) := by decide +kernel
theorem dX7_create_44 : decode cX7_create 44 = .ok (.getfield 26, 3) := by decide +kernel
theorem dX7_create_47 : decode cX7_create 47 = .ok (.invokevirtual 124, 3) := by decide +kernel
theorem dX7_create_50 : decode cX7_create 50 = .ok (.bipush 30, 2) := by decide +kernel
theorem dX7_create_52 : decode cX7_create 52 = .ok (.if_icmp .ge 13, 3) := by decide +kernel
theorem dX7_create_55 : decode cX7_create 55 = .ok (.aload_n 0, 1) := by decide +kernel
theorem dX7_create_56 : decode cX7_create 56 = .ok (.getfield 26, 3) := by decide +kernel
theorem dX7_create_59 : decode cX7_create 59 = .ok (.invokevirtual 127, 3) := by decide +kernel
theorem dX7_create_62 : decode cX7_create 62 = .ok (.ifCond .eq 13, 3) := by decide +kernel
theorem dX7_create_65 : decode cX7_create 65 = .ok (.new 52, 3) := by decide +kernel
theorem dX7_create_68 : decode cX7_create 68 = .ok (.dup, 1) := by decide +kernel
theorem dX7_create_69 : decode cX7_create 69 = .ok (.ldc 131, 2) := by decide +kernel
theorem dX7_create_71 : decode cX7_create 71 = .ok (.invokespecial 56, 3) := by decide +kernel
theorem dX7_create_74 : decode cX7_create 74 = .ok (.athrow, 1) := by decide +kernel
theorem dX7_create_75 : decode cX7_create 75 = .ok (.aload_n 0, 1) := by decide +kernel
theorem dX7_create_76 : decode cX7_create 76 = .ok (.getfield 26, 3) := by decide +kernel
theorem dX7_create_79 : decode cX7_create 79 = .ok (.aload_n 0, 1) := by decide +kernel
theorem dX7_create_80 : decode cX7_create 80 = .ok (.getfield 44, 3) := by decide +kernel
theorem dX7_create_83 : decode cX7_create 83 = .ok (.aload_n 0, 1) := by decide +kernel
theorem dX7_create_84 : decode cX7_create 84 = .ok (.getfield 44, 3) := by decide +kernel
theorem dX7_create_87 : decode cX7_create 87 = .ok (.iload_n 3, 1) := by decide +kernel
theorem dX7_create_88 : decode cX7_create 88 = .ok (.iadd, 1) := by decide +kernel
theorem dX7_create_89 : decode cX7_create 89 = .ok (.iload 4, 2) := by decide +kernel
theorem dX7_create_91 : decode cX7_create 91 = .ok (.invokevirtual 133, 3) := by decide +kernel
theorem dX7_create_94 : decode cX7_create 94 = .ok (.istore 6, 2) := by decide +kernel
theorem dX7_create_96 : decode cX7_create 96 = .ok (.aload_n 0, 1) := by decide +kernel
theorem dX7_create_97 : decode cX7_create 97 = .ok (.getfield 26, 3) := by decide +kernel
theorem dX7_create_100 : decode cX7_create 100 = .ok (.iload 6, 2) := by decide +kernel
theorem dX7_create_102 : decode cX7_create 102 = .ok (.iload_n 1, 1) := by decide +kernel
theorem dX7_create_103 : decode cX7_create 103 = .ok (.iload_n 2, 1) := by decide +kernel
theorem dX7_create_104 : decode cX7_create 104 = .ok (.iload 5, 2) := by decide +kernel
theorem dX7_create_106 : decode cX7_create 106 = .ok (.ifCond .ne 7, 3) := by decide +kernel
theorem dX7_create_109 : decode cX7_create 109 = .ok (.iconst (-1), 1) := by decide +kernel
theorem dX7_create_110 : decode cX7_create 110 = .ok (.goto 5, 3) := by decide +kernel
theorem dX7_create_113 : decode cX7_create 113 = .ok (.iload 5, 2) := by decide +kernel
theorem dX7_create_115 : decode cX7_create 115 = .ok (.invokevirtual 136, 3) := by decide +kernel
theorem dX7_create_118 : decode cX7_create 118 = .ok (.aload_n 0, 1) := by decide +kernel
theorem dX7_create_119 : decode cX7_create 119 = .ok (.getfield 40, 3) := by decide +kernel
theorem dX7_create_122 : decode cX7_create 122 = .ok (.iconst 0, 1) := by decide +kernel
theorem dX7_create_123 : decode cX7_create 123 = .ok (.iload_n 1, 1) := by decide +kernel
theorem dX7_create_124 : decode cX7_create 124 = .ok (.iload 6, 2) := by decide +kernel
theorem dX7_create_126 : decode cX7_create 126 = .ok (.aload_n 0, 1) := by decide +kernel
theorem dX7_create_127 : decode cX7_create 127 = .ok (.getfield 44, 3) := by decide +kernel
theorem dX7_create_130 : decode cX7_create 130 = .ok (.invokevirtual 140, 3) := by decide +kernel
theorem dX7_create_133 : decode cX7_create 133 = .ok (.iload 6, 2) := by decide +kernel
theorem dX7_create_135 : decode cX7_create 135 = .ok (.ireturn, 1) := by decide +kernel
set_option maxRecDepth 20000 in
theorem ggX7_renew_X7_checkToken : GoodIn wsX7_renew wsX7_checkToken := goodIn_ca (goodIn_r _ [8, 9, 10, 1, 11, 12, 13, 14, 15, 16, 17, 79, 80, 81, 82, 83, 84, 85, 86, 87, 88, 89, 90, 91, 92, 93, 94, 95, 96, 97, 98, 99, 100, 101] (by decide +kernel) (by decide +kernel)) (goodIn_sub (fun _ h => List.mem_cons_of_mem _ (List.mem_append_left _ (List.mem_append_left _ (List.mem_append_right _ h)))) (by decide +kernel))
set_option maxRecDepth 20000 in
theorem gX7_renew_X7_checkToken : GoodIn wsX7_renew (wsV RX7 112 RX7 yX7_checkToken wsX7_checkToken) := goodIn_app (goodIn_of _ (by decide +kernel)) ggX7_renew_X7_checkToken
set_option maxRecDepth 20000 in
theorem ggX7_renew_X7_checkRange : GoodIn wsX7_renew wsX7_checkRange := goodIn_ca (goodIn_r _ [20, 21, 22] (by decide +kernel) (by decide +kernel)) (goodIn_sub (fun _ h => List.mem_cons_of_mem _ (List.mem_append_left _ (List.mem_append_right _ h))) (by decide +kernel))
set_option maxRecDepth 20000 in
theorem gX7_renew_X7_checkRange : GoodIn wsX7_renew (va_wsS RX7 77 yX7_checkRange wsX7_checkRange) := goodIn_app (goodIn_of _ (by decide +kernel)) ggX7_renew_X7_checkRange
set_option maxRecDepth 20000 in
theorem ggX7_renew_X7_checkEndingToken : GoodIn wsX7_renew wsX7_checkEndingToken := goodIn_ca (goodIn_r _ [26, 27, 28, 29, 30, 31, 7, 32, 1, 33, 34, 35, 36, 15, 37, 38, 39, 40, 41, 14, 16, 17, 42, 79, 80, 81, 82, 83, 84, 85, 86, 87, 88, 89, 90, 91, 92, 93, 94, 95, 96, 97, 98, 99, 100, 101] (by decide +kernel) (by decide +kernel)) (goodIn_sub (fun _ h => List.mem_cons_of_mem _ (List.mem_append_right _ h)) (by decide +kernel))
set_option maxRecDepth 20000 in
theorem gX7_renew_X7_checkEndingToken : GoodIn wsX7_renew (wsV RX7 143 RX7 yX7_checkEndingToken wsX7_checkEndingToken) := goodIn_app (goodIn_of _ (by decide +kernel)) ggX7_renew_X7_checkEndingToken
set_option maxRecDepth 20000 in
theorem ggX7_renew_X2_prolong : GoodIn wsX7_renew wsX2_prolong := goodIn_r _ [47, 48, 49, 50, 51, 52, 53, 54, 55, 56, 57, 39, 40, 41, 14, 15, 16, 17, 42, 85, 86, 87, 88, 89, 90, 91, 92, 93, 94, 95, 96, 97, 98, 99, 100, 101] (by decide +kernel) (by decide +kernel)
set_option maxRecDepth 20000 in
theorem gX7_renew_X2_prolong_u146X6 : GoodIn wsX7_renew (va_wsU RX7 146 RX6 "SecretBroker$Leased" ⟨"SecretBroker$Tokens", "prolong", "(III)V"⟩ yX2_prolong wsX2_prolong) := goodIn_app (goodIn_of _ (by decide +kernel)) ggX7_renew_X2_prolong
set_option maxRecDepth 20000 in
theorem ggX7_renew_X2_endAt : GoodIn wsX7_renew wsX2_endAt := goodIn_r _ [62, 50, 39, 40, 41, 14, 15, 16, 17, 42, 85, 86, 87, 88, 89, 90, 91, 92, 93, 94, 95, 96, 97, 98, 99, 100, 101] (by decide +kernel) (by decide +kernel)
set_option maxRecDepth 20000 in
theorem gX7_renew_X2_endAt_u149X6 : GoodIn wsX7_renew (va_wsU RX7 149 RX6 "SecretBroker$Leased" ⟨"SecretBroker$Tokens", "endAt", "(I)I"⟩ yX2_endAt wsX2_endAt) := goodIn_app (goodIn_of _ (by decide +kernel)) ggX7_renew_X2_endAt
set_option maxRecDepth 20000 in
theorem ggX7_renew_X0_write : GoodIn wsX7_renew wsX0_write := goodIn_r _ [67, 68, 69, 70, 71, 72, 73, 74, 75, 76, 77, 78, 102, 103, 104, 105, 106] (by decide +kernel) (by decide +kernel)
set_option maxRecDepth 20000 in
theorem gX7_renew_X0_write : GoodIn wsX7_renew (wsV RX7 140 RX0 yX0_write wsX0_write) := goodIn_app (goodIn_of _ (by decide +kernel)) ggX7_renew_X0_write
theorem dX7_renew_0 : decode cX7_renew 0 = .ok (.aload_n 0, 1) := by decide +kernel
theorem dX7_renew_1 : decode cX7_renew 1 = .ok (.iload_n 1, 1) := by decide +kernel
theorem dX7_renew_2 : decode cX7_renew 2 = .ok (.invokevirtual 112, 3) := by decide +kernel
theorem dX7_renew_5 : decode cX7_renew 5 = .ok (.iload_n 2, 1) := by decide +kernel
theorem dX7_renew_6 : decode cX7_renew 6 = .ok (.iconst 1, 1) := by decide +kernel
theorem dX7_renew_7 : decode cX7_renew 7 = .ok (.sipush 1000, 3) := by decide +kernel
theorem dX7_renew_10 : decode cX7_renew 10 = .ok (.invokestatic 77, 3) := by decide +kernel
theorem dX7_renew_13 : decode cX7_renew 13 = .ok (.aload_n 0, 1) := by decide +kernel
theorem dX7_renew_14 : decode cX7_renew 14 = .ok (.iload_n 1, 1) := by decide +kernel
theorem dX7_renew_15 : decode cX7_renew 15 = .ok (.invokevirtual 143, 3) := by decide +kernel
theorem dX7_renew_18 : decode cX7_renew 18 = .ok (.aload_n 0, 1) := by decide +kernel
theorem dX7_renew_19 : decode cX7_renew 19 = .ok (.getfield 26, 3) := by decide +kernel
theorem dX7_renew_22 : decode cX7_renew 22 = .ok (.iload_n 1, 1) := by decide +kernel
theorem dX7_renew_23 : decode cX7_renew 23 = .ok (.aload_n 0, 1) := by decide +kernel
theorem dX7_renew_24 : decode cX7_renew 24 = .ok (.getfield 44, 3) := by decide +kernel
theorem dX7_renew_27 : decode cX7_renew 27 = .ok (.iload_n 2, 1) := by decide +kernel
theorem dX7_renew_28 : decode cX7_renew 28 = .ok (.invokevirtual 146, 3) := by decide +kernel
theorem dX7_renew_31 : decode cX7_renew 31 = .ok (.aload_n 0, 1) := by decide +kernel
theorem dX7_renew_32 : decode cX7_renew 32 = .ok (.getfield 26, 3) := by decide +kernel
theorem dX7_renew_35 : decode cX7_renew 35 = .ok (.iload_n 1, 1) := by decide +kernel
theorem dX7_renew_36 : decode cX7_renew 36 = .ok (.invokevirtual 149, 3) := by decide +kernel
theorem dX7_renew_39 : decode cX7_renew 39 = .ok (.istore_n 3, 1) := by decide +kernel
theorem dX7_renew_40 : decode cX7_renew 40 = .ok (.aload_n 0, 1) := by decide +kernel
theorem dX7_renew_41 : decode cX7_renew 41 = .ok (.getfield 40, 3) := by decide +kernel
theorem dX7_renew_44 : decode cX7_renew 44 = .ok (.iconst 1, 1) := by decide +kernel
theorem dX7_renew_45 : decode cX7_renew 45 = .ok (.iload_n 1, 1) := by decide +kernel
theorem dX7_renew_46 : decode cX7_renew 46 = .ok (.iload_n 3, 1) := by decide +kernel
theorem dX7_renew_47 : decode cX7_renew 47 = .ok (.aload_n 0, 1) := by decide +kernel
theorem dX7_renew_48 : decode cX7_renew 48 = .ok (.getfield 44, 3) := by decide +kernel
theorem dX7_renew_51 : decode cX7_renew 51 = .ok (.invokevirtual 140, 3) := by decide +kernel
theorem dX7_renew_54 : decode cX7_renew 54 = .ok (.iload_n 3, 1) := by decide +kernel
theorem dX7_renew_55 : decode cX7_renew 55 = .ok (.ireturn, 1) := by decide +kernel
set_option maxRecDepth 20000 in
theorem ggX7_revoke_X7_checkToken : GoodIn wsX7_revoke wsX7_checkToken := goodIn_ca (goodIn_r _ [5, 6, 7, 8, 9, 10, 11, 12, 13, 14, 15, 99, 100, 101, 102, 103, 104, 105, 106, 107, 108, 109, 110, 111, 112, 113, 114, 115, 116, 117, 118, 119, 120, 121] (by decide +kernel) (by decide +kernel)) (goodIn_sub (fun _ h => List.mem_cons_of_mem _ (List.mem_append_left _ (List.mem_append_right _ h))) (by decide +kernel))
set_option maxRecDepth 20000 in
theorem gX7_revoke_X7_checkToken : GoodIn wsX7_revoke (wsV RX7 112 RX7 yX7_checkToken wsX7_checkToken) := goodIn_app (goodIn_of _ (by decide +kernel)) ggX7_revoke_X7_checkToken
set_option maxRecDepth 20000 in
theorem ggX7_revoke_X7_checkEndingToken : GoodIn wsX7_revoke wsX7_checkEndingToken := goodIn_ca (goodIn_r _ [19, 20, 21, 22, 23, 24, 4, 25, 8, 26, 27, 28, 29, 13, 30, 31, 32, 33, 34, 12, 14, 15, 35, 99, 100, 101, 102, 103, 104, 105, 106, 107, 108, 109, 110, 111, 112, 113, 114, 115, 116, 117, 118, 119, 120, 121] (by decide +kernel) (by decide +kernel)) (goodIn_sub (fun _ h => List.mem_cons_of_mem _ (List.mem_append_right _ h)) (by decide +kernel))
set_option maxRecDepth 20000 in
theorem gX7_revoke_X7_checkEndingToken : GoodIn wsX7_revoke (wsV RX7 143 RX7 yX7_checkEndingToken wsX7_checkEndingToken) := goodIn_app (goodIn_of _ (by decide +kernel)) ggX7_revoke_X7_checkEndingToken
set_option maxRecDepth 20000 in
theorem ggX7_revoke_X7_endToken : GoodIn wsX7_revoke wsX7_endToken := goodIn_r _ [39, 8, 40, 41, 42, 43, 44, 45, 13, 46, 31, 47, 48, 49, 50, 29, 30, 32, 33, 34, 12, 14, 15, 35, 51, 52, 53, 54, 4, 55, 56, 57, 58, 59, 60, 61, 62, 63, 64, 65, 66, 67, 68, 27, 28, 69, 70, 71, 72, 73, 74, 75, 76, 77, 78, 79, 80, 81, 82, 83, 84, 85, 86, 87, 88, 89, 90, 91, 92, 93, 94, 95, 96, 97, 98, 99, 100, 101, 102, 103, 104, 105, 106, 107, 108, 109, 110, 111, 112, 113, 114, 115, 116, 117, 118, 119, 120, 121, 122, 123, 124, 125, 126] (by decide +kernel) (by decide +kernel)
set_option maxRecDepth 20000 in
theorem gX7_revoke_X7_endToken : GoodIn wsX7_revoke (wsV RX7 152 RX7 yX7_endToken wsX7_endToken) := goodIn_app (goodIn_of _ (by decide +kernel)) ggX7_revoke_X7_endToken
theorem dX7_revoke_0 : decode cX7_revoke 0 = .ok (.aload_n 0, 1) := by decide +kernel
theorem dX7_revoke_1 : decode cX7_revoke 1 = .ok (.iload_n 1, 1) := by decide +kernel
theorem dX7_revoke_2 : decode cX7_revoke 2 = .ok (.invokevirtual 112, 3) := by decide +kernel
theorem dX7_revoke_5 : decode cX7_revoke 5 = .ok (.aload_n 0, 1) := by decide +kernel
theorem dX7_revoke_6 : decode cX7_revoke 6 = .ok (.iload_n 1, 1) := by decide +kernel
theorem dX7_revoke_7 : decode cX7_revoke 7 = .ok (.invokevirtual 143, 3) := by decide +kernel
theorem dX7_revoke_10 : decode cX7_revoke 10 = .ok (.aload_n 0, 1) := by decide +kernel
theorem dX7_revoke_11 : decode cX7_revoke 11 = .ok (.iload_n 1, 1) := by decide +kernel
theorem dX7_revoke_12 : decode cX7_revoke 12 = .ok (.invokevirtual 152, 3) := by decide +kernel
theorem dX7_revoke_15 : decode cX7_revoke 15 = .ok (.ireturn, 1) := by decide +kernel
set_option maxRecDepth 20000 in
theorem ggX7_revokeAlone_X7_checkToken : GoodIn wsX7_revokeAlone wsX7_checkToken := goodIn_ca (goodIn_r _ [6, 7, 8, 1, 9, 10, 11, 12, 13, 14, 15, 103, 104, 105, 106, 107, 108, 109, 110, 111, 112, 113, 114, 115, 116, 117, 118, 119, 120, 121, 122, 123, 124, 125] (by decide +kernel) (by decide +kernel)) (goodIn_sub (fun _ h => List.mem_cons_of_mem _ (List.mem_append_left _ (List.mem_append_right _ h))) (by decide +kernel))
set_option maxRecDepth 20000 in
theorem gX7_revokeAlone_X7_checkToken : GoodIn wsX7_revokeAlone (wsV RX7 112 RX7 yX7_checkToken wsX7_checkToken) := goodIn_app (goodIn_of _ (by decide +kernel)) ggX7_revokeAlone_X7_checkToken
set_option maxRecDepth 20000 in
theorem ggX7_revokeAlone_X7_checkEndingToken : GoodIn wsX7_revokeAlone wsX7_checkEndingToken := goodIn_ca (goodIn_r _ [19, 20, 21, 22, 23, 24, 5, 25, 1, 26, 27, 28, 29, 13, 30, 31, 32, 33, 34, 12, 14, 15, 35, 103, 104, 105, 106, 107, 108, 109, 110, 111, 112, 113, 114, 115, 116, 117, 118, 119, 120, 121, 122, 123, 124, 125] (by decide +kernel) (by decide +kernel)) (goodIn_sub (fun _ h => List.mem_cons_of_mem _ (List.mem_append_right _ h)) (by decide +kernel))
set_option maxRecDepth 20000 in
theorem gX7_revokeAlone_X7_checkEndingToken : GoodIn wsX7_revokeAlone (wsV RX7 143 RX7 yX7_checkEndingToken wsX7_checkEndingToken) := goodIn_app (goodIn_of _ (by decide +kernel)) ggX7_revokeAlone_X7_checkEndingToken
set_option maxRecDepth 20000 in
theorem ggX7_revokeAlone_X6_freeChildren : GoodIn wsX7_revokeAlone wsX6_freeChildren := goodIn_r _ [40, 41, 42, 43, 44, 45, 13, 46, 15, 47, 27, 28, 29, 30, 31, 32, 33, 34, 12, 14, 35, 117, 118, 119, 120, 121, 122, 123, 124, 125, 109, 110, 111, 112, 113, 114, 115, 116] (by decide +kernel) (by decide +kernel)
set_option maxRecDepth 20000 in
theorem gX7_revokeAlone_X6_freeChildren : GoodIn wsX7_revokeAlone (wsV RX7 155 RX6 yX6_freeChildren wsX6_freeChildren) := goodIn_app (goodIn_of _ (by decide +kernel)) ggX7_revokeAlone_X6_freeChildren
set_option maxRecDepth 20000 in
theorem ggX7_revokeAlone_X7_endToken : GoodIn wsX7_revokeAlone wsX7_endToken := goodIn_r _ [51, 1, 52, 53, 54, 55, 56, 57, 13, 58, 31, 59, 60, 61, 62, 29, 30, 32, 33, 34, 12, 14, 15, 35, 63, 64, 65, 66, 5, 67, 68, 69, 70, 71, 39, 72, 41, 42, 43, 44, 45, 46, 47, 27, 28, 73, 74, 75, 76, 77, 78, 79, 80, 81, 82, 83, 84, 85, 86, 87, 88, 89, 90, 91, 92, 93, 94, 95, 96, 97, 98, 99, 100, 101, 102, 103, 104, 105, 106, 107, 108, 109, 110, 111, 112, 113, 114, 115, 116, 117, 118, 119, 120, 121, 122, 123, 124, 125, 126, 127, 128, 129, 130] (by decide +kernel) (by decide +kernel)
set_option maxRecDepth 20000 in
theorem gX7_revokeAlone_X7_endToken : GoodIn wsX7_revokeAlone (wsV RX7 152 RX7 yX7_endToken wsX7_endToken) := goodIn_app (goodIn_of _ (by decide +kernel)) ggX7_revokeAlone_X7_endToken
theorem dX7_revokeAlone_0 : decode cX7_revokeAlone 0 = .ok (.aload_n 0, 1) := by decide +kernel
theorem dX7_revokeAlone_1 : decode cX7_revokeAlone 1 = .ok (.iload_n 1, 1) := by decide +kernel
theorem dX7_revokeAlone_2 : decode cX7_revokeAlone 2 = .ok (.invokevirtual 112, 3) := by decide +kernel
theorem dX7_revokeAlone_5 : decode cX7_revokeAlone 5 = .ok (.aload_n 0, 1) := by decide +kernel
theorem dX7_revokeAlone_6 : decode cX7_revokeAlone 6 = .ok (.iload_n 1, 1) := by decide +kernel
theorem dX7_revokeAlone_7 : decode cX7_revokeAlone 7 = .ok (.invokevirtual 143, 3) := by decide +kernel
theorem dX7_revokeAlone_10 : decode cX7_revokeAlone 10 = .ok (.aload_n 0, 1) := by decide +kernel
theorem dX7_revokeAlone_11 : decode cX7_revokeAlone 11 = .ok (.getfield 26, 3) := by decide +kernel
theorem dX7_revokeAlone_14 : decode cX7_revokeAlone 14 = .ok (.iload_n 1, 1) := by decide +kernel
theorem dX7_revokeAlone_15 : decode cX7_revokeAlone 15 = .ok (.invokevirtual 155, 3) := by decide +kernel
theorem dX7_revokeAlone_18 : decode cX7_revokeAlone 18 = .ok (.aload_n 0, 1) := by decide +kernel
theorem dX7_revokeAlone_19 : decode cX7_revokeAlone 19 = .ok (.iload_n 1, 1) := by decide +kernel
theorem dX7_revokeAlone_20 : decode cX7_revokeAlone 20 = .ok (.invokevirtual 152, 3) := by decide +kernel
theorem dX7_revokeAlone_23 : decode cX7_revokeAlone 23 = .ok (.ireturn, 1) := by decide +kernel
set_option maxRecDepth 20000 in
theorem ggX7_isAlive_X7_checkToken : GoodIn wsX7_isAlive wsX7_checkToken := goodIn_ca (goodIn_r _ [6, 7, 8, 1, 9, 10, 11, 12, 13, 14, 15, 26, 27, 28, 29, 30, 31, 32, 33, 34, 35, 36, 37, 38, 39, 40, 41, 42, 43, 44, 45, 46, 47, 48] (by decide +kernel) (by decide +kernel)) (goodIn_sub (fun _ h => List.mem_cons_of_mem _ (List.mem_append_right _ h)) (by decide +kernel))
set_option maxRecDepth 20000 in
theorem gX7_isAlive_X7_checkToken : GoodIn wsX7_isAlive (wsV RX7 112 RX7 yX7_checkToken wsX7_checkToken) := goodIn_app (goodIn_of _ (by decide +kernel)) ggX7_isAlive_X7_checkToken
set_option maxRecDepth 20000 in
theorem ggX7_isAlive_X2_isOn : GoodIn wsX7_isAlive wsX2_isOn := goodIn_r _ [20, 21, 22, 23, 24, 12, 13, 14, 15, 25, 32, 33, 34, 35, 36, 37, 38, 39, 40, 41, 42, 43, 44, 45, 46, 47, 48] (by decide +kernel) (by decide +kernel)
set_option maxRecDepth 20000 in
theorem gX7_isAlive_X2_isOn_u158X6 : GoodIn wsX7_isAlive (va_wsU RX7 158 RX6 "SecretBroker$Leased" ⟨"SecretBroker$Tokens", "isOn", "(I)Z"⟩ yX2_isOn wsX2_isOn) := goodIn_app (goodIn_of _ (by decide +kernel)) ggX7_isAlive_X2_isOn
theorem dX7_isAlive_0 : decode cX7_isAlive 0 = .ok (.aload_n 0, 1) := by decide +kernel
theorem dX7_isAlive_1 : decode cX7_isAlive 1 = .ok (.iload_n 1, 1) := by decide +kernel
theorem dX7_isAlive_2 : decode cX7_isAlive 2 = .ok (.invokevirtual 112, 3) := by decide +kernel
theorem dX7_isAlive_5 : decode cX7_isAlive 5 = .ok (.aload_n 0, 1) := by decide +kernel
theorem dX7_isAlive_6 : decode cX7_isAlive 6 = .ok (.getfield 26, 3) := by decide +kernel
theorem dX7_isAlive_9 : decode cX7_isAlive 9 = .ok (.iload_n 1, 1) := by decide +kernel
theorem dX7_isAlive_10 : decode cX7_isAlive 10 = .ok (.invokevirtual 158, 3) := by decide +kernel
theorem dX7_isAlive_13 : decode cX7_isAlive 13 = .ok (.ireturn, 1) := by decide +kernel
set_option maxRecDepth 20000 in
theorem ggX7_parentOf_X7_checkToken : GoodIn wsX7_parentOf wsX7_checkToken := goodIn_ca (goodIn_r _ [6, 7, 8, 1, 9, 10, 11, 12, 13, 14, 15, 23, 24, 25, 26, 27, 28, 29, 30, 31, 32, 33, 34, 35, 36, 37, 38, 39, 40, 41, 42, 43, 44, 45] (by decide +kernel) (by decide +kernel)) (goodIn_sub (fun _ h => List.mem_cons_of_mem _ (List.mem_append_right _ h)) (by decide +kernel))
set_option maxRecDepth 20000 in
theorem gX7_parentOf_X7_checkToken : GoodIn wsX7_parentOf (wsV RX7 112 RX7 yX7_checkToken wsX7_checkToken) := goodIn_app (goodIn_of _ (by decide +kernel)) ggX7_parentOf_X7_checkToken
set_option maxRecDepth 20000 in
theorem ggX7_parentOf_X6_parentAt : GoodIn wsX7_parentOf wsX6_parentAt := goodIn_r _ [20, 21, 22, 10, 11, 12, 13, 14, 15, 37, 38, 39, 40, 41, 42, 43, 44, 45, 29, 30, 31, 32, 33, 34, 35, 36] (by decide +kernel) (by decide +kernel)
set_option maxRecDepth 20000 in
theorem gX7_parentOf_X6_parentAt : GoodIn wsX7_parentOf (wsV RX7 161 RX6 yX6_parentAt wsX6_parentAt) := goodIn_app (goodIn_of _ (by decide +kernel)) ggX7_parentOf_X6_parentAt
theorem dX7_parentOf_0 : decode cX7_parentOf 0 = .ok (.aload_n 0, 1) := by decide +kernel
theorem dX7_parentOf_1 : decode cX7_parentOf 1 = .ok (.iload_n 1, 1) := by decide +kernel
theorem dX7_parentOf_2 : decode cX7_parentOf 2 = .ok (.invokevirtual 112, 3) := by decide +kernel
theorem dX7_parentOf_5 : decode cX7_parentOf 5 = .ok (.aload_n 0, 1) := by decide +kernel
theorem dX7_parentOf_6 : decode cX7_parentOf 6 = .ok (.getfield 26, 3) := by decide +kernel
theorem dX7_parentOf_9 : decode cX7_parentOf 9 = .ok (.iload_n 1, 1) := by decide +kernel
theorem dX7_parentOf_10 : decode cX7_parentOf 10 = .ok (.invokevirtual 161, 3) := by decide +kernel
theorem dX7_parentOf_13 : decode cX7_parentOf 13 = .ok (.ireturn, 1) := by decide +kernel
set_option maxRecDepth 20000 in
theorem ggX7_endOf_X7_checkToken : GoodIn wsX7_endOf wsX7_checkToken := goodIn_ca (goodIn_r _ [6, 7, 8, 1, 9, 10, 11, 12, 13, 14, 15, 26, 27, 28, 29, 30, 31, 32, 33, 34, 35, 36, 37, 38, 39, 40, 41, 42, 43, 44, 45, 46, 47, 48] (by decide +kernel) (by decide +kernel)) (goodIn_sub (fun _ h => List.mem_cons_of_mem _ (List.mem_append_right _ h)) (by decide +kernel))
set_option maxRecDepth 20000 in
theorem gX7_endOf_X7_checkToken : GoodIn wsX7_endOf (wsV RX7 112 RX7 yX7_checkToken wsX7_checkToken) := goodIn_app (goodIn_of _ (by decide +kernel)) ggX7_endOf_X7_checkToken
set_option maxRecDepth 20000 in
theorem ggX7_endOf_X2_endAt : GoodIn wsX7_endOf wsX2_endAt := goodIn_r _ [20, 21, 22, 23, 24, 12, 13, 14, 15, 25, 32, 33, 34, 35, 36, 37, 38, 39, 40, 41, 42, 43, 44, 45, 46, 47, 48] (by decide +kernel) (by decide +kernel)
set_option maxRecDepth 20000 in
theorem gX7_endOf_X2_endAt_u149X6 : GoodIn wsX7_endOf (va_wsU RX7 149 RX6 "SecretBroker$Leased" ⟨"SecretBroker$Tokens", "endAt", "(I)I"⟩ yX2_endAt wsX2_endAt) := goodIn_app (goodIn_of _ (by decide +kernel)) ggX7_endOf_X2_endAt
theorem dX7_endOf_0 : decode cX7_endOf 0 = .ok (.aload_n 0, 1) := by decide +kernel
theorem dX7_endOf_1 : decode cX7_endOf 1 = .ok (.iload_n 1, 1) := by decide +kernel
theorem dX7_endOf_2 : decode cX7_endOf 2 = .ok (.invokevirtual 112, 3) := by decide +kernel
theorem dX7_endOf_5 : decode cX7_endOf 5 = .ok (.aload_n 0, 1) := by decide +kernel
theorem dX7_endOf_6 : decode cX7_endOf 6 = .ok (.getfield 26, 3) := by decide +kernel
theorem dX7_endOf_9 : decode cX7_endOf 9 = .ok (.iload_n 1, 1) := by decide +kernel
theorem dX7_endOf_10 : decode cX7_endOf 10 = .ok (.invokevirtual 149, 3) := by decide +kernel
theorem dX7_endOf_13 : decode cX7_endOf 13 = .ok (.ireturn, 1) := by decide +kernel
set_option maxRecDepth 20000 in
theorem ggX7_usesLeft_X7_checkToken : GoodIn wsX7_usesLeft wsX7_checkToken := goodIn_ca (goodIn_r _ [6, 7, 8, 1, 9, 10, 11, 12, 13, 14, 15, 23, 24, 25, 26, 27, 28, 29, 30, 31, 32, 33, 34, 35, 36, 37, 38, 39, 40, 41, 42, 43, 44, 45] (by decide +kernel) (by decide +kernel)) (goodIn_sub (fun _ h => List.mem_cons_of_mem _ (List.mem_append_right _ h)) (by decide +kernel))
set_option maxRecDepth 20000 in
theorem gX7_usesLeft_X7_checkToken : GoodIn wsX7_usesLeft (wsV RX7 112 RX7 yX7_checkToken wsX7_checkToken) := goodIn_app (goodIn_of _ (by decide +kernel)) ggX7_usesLeft_X7_checkToken
set_option maxRecDepth 20000 in
theorem ggX7_usesLeft_X6_usesAt : GoodIn wsX7_usesLeft wsX6_usesAt := goodIn_r _ [20, 21, 22, 10, 11, 12, 13, 14, 15, 37, 38, 39, 40, 41, 42, 43, 44, 45, 29, 30, 31, 32, 33, 34, 35, 36] (by decide +kernel) (by decide +kernel)
set_option maxRecDepth 20000 in
theorem gX7_usesLeft_X6_usesAt : GoodIn wsX7_usesLeft (wsV RX7 164 RX6 yX6_usesAt wsX6_usesAt) := goodIn_app (goodIn_of _ (by decide +kernel)) ggX7_usesLeft_X6_usesAt
theorem dX7_usesLeft_0 : decode cX7_usesLeft 0 = .ok (.aload_n 0, 1) := by decide +kernel
theorem dX7_usesLeft_1 : decode cX7_usesLeft 1 = .ok (.iload_n 1, 1) := by decide +kernel
theorem dX7_usesLeft_2 : decode cX7_usesLeft 2 = .ok (.invokevirtual 112, 3) := by decide +kernel
theorem dX7_usesLeft_5 : decode cX7_usesLeft 5 = .ok (.aload_n 0, 1) := by decide +kernel
theorem dX7_usesLeft_6 : decode cX7_usesLeft 6 = .ok (.getfield 26, 3) := by decide +kernel
theorem dX7_usesLeft_9 : decode cX7_usesLeft 9 = .ok (.iload_n 1, 1) := by decide +kernel
theorem dX7_usesLeft_10 : decode cX7_usesLeft 10 = .ok (.invokevirtual 164, 3) := by decide +kernel
theorem dX7_usesLeft_13 : decode cX7_usesLeft 13 = .ok (.ireturn, 1) := by decide +kernel
set_option maxRecDepth 20000 in
theorem ggX7_below_X7_checkToken : GoodIn wsX7_below wsX7_checkToken := goodIn_ca (goodIn_r _ [6, 7, 8, 1, 9, 10, 11, 12, 13, 14, 15, 46, 47, 48, 49, 50, 51, 52, 53, 54, 55, 56, 57, 58, 59, 60, 61, 62, 63, 64, 65, 66, 67, 68] (by decide +kernel) (by decide +kernel)) (goodIn_sub (fun _ h => List.mem_cons_of_mem _ (List.mem_append_right _ h)) (by decide +kernel))
set_option maxRecDepth 20000 in
theorem gX7_below_X7_checkToken : GoodIn wsX7_below (wsV RX7 112 RX7 yX7_checkToken wsX7_checkToken) := goodIn_app (goodIn_of _ (by decide +kernel)) ggX7_below_X7_checkToken
set_option maxRecDepth 20000 in
theorem ggX7_below_X6_livingBelow : GoodIn wsX7_below wsX6_livingBelow := goodIn_r _ [20, 21, 22, 23, 24, 13, 25, 15, 26, 27, 28, 29, 30, 31, 32, 33, 34, 12, 14, 35, 36, 37, 38, 19, 39, 40, 41, 42, 43, 44, 45, 10, 11, 52, 53, 54, 55, 56, 57, 58, 59, 60, 61, 62, 63, 64, 65, 66, 67, 68] (by decide +kernel) (by decide +kernel)
set_option maxRecDepth 20000 in
theorem gX7_below_X6_livingBelow : GoodIn wsX7_below (wsV RX7 167 RX6 yX6_livingBelow wsX6_livingBelow) := goodIn_app (goodIn_of _ (by decide +kernel)) ggX7_below_X6_livingBelow
theorem dX7_below_0 : decode cX7_below 0 = .ok (.aload_n 0, 1) := by decide +kernel
theorem dX7_below_1 : decode cX7_below 1 = .ok (.iload_n 1, 1) := by decide +kernel
theorem dX7_below_2 : decode cX7_below 2 = .ok (.invokevirtual 112, 3) := by decide +kernel
theorem dX7_below_5 : decode cX7_below 5 = .ok (.aload_n 0, 1) := by decide +kernel
theorem dX7_below_6 : decode cX7_below 6 = .ok (.getfield 26, 3) := by decide +kernel
theorem dX7_below_9 : decode cX7_below 9 = .ok (.iload_n 1, 1) := by decide +kernel
theorem dX7_below_10 : decode cX7_below 10 = .ok (.invokevirtual 167, 3) := by decide +kernel
theorem dX7_below_13 : decode cX7_below 13 = .ok (.ireturn, 1) := by decide +kernel
set_option maxRecDepth 20000 in
theorem ggX7_tokens_X2_living : GoodIn wsX7_tokens wsX2_living := goodIn_r _ [7, 8, 15, 16, 17, 18, 19, 20, 21, 22, 23, 24, 25, 26, 27, 28, 29, 30, 31] (by decide +kernel) (by decide +kernel)
set_option maxRecDepth 20000 in
theorem gX7_tokens_X2_living_u124X6 : GoodIn wsX7_tokens (va_wsU RX7 124 RX6 "SecretBroker$Leased" ⟨"SecretBroker$Tokens", "living", "()I"⟩ yX2_living wsX2_living) := goodIn_app (goodIn_of _ (by decide +kernel)) ggX7_tokens_X2_living
theorem dX7_tokens_0 : decode cX7_tokens 0 = .ok (.aload_n 0, 1) := by decide +kernel
theorem dX7_tokens_1 : decode cX7_tokens 1 = .ok (.getfield 26, 3) := by decide +kernel
theorem dX7_tokens_4 : decode cX7_tokens 4 = .ok (.invokevirtual 124, 3) := by decide +kernel
theorem dX7_tokens_7 : decode cX7_tokens 7 = .ok (.ireturn, 1) := by decide +kernel
set_option maxRecDepth 20000 in
theorem ggX7_capabilities_X7_checkToken : GoodIn wsX7_capabilities wsX7_checkToken := goodIn_ca (goodIn_r _ [5, 6, 7, 8, 9, 10, 11, 12, 13, 14, 15, 77, 78, 79, 80, 81, 82, 83, 84, 85, 86, 87, 88, 89, 90, 91, 92, 93, 94, 95, 96, 97, 98, 99] (by decide +kernel) (by decide +kernel)) (goodIn_sub (fun _ h => List.mem_cons_of_mem _ (List.mem_append_left _ (List.mem_append_right _ h))) (by decide +kernel))
set_option maxRecDepth 20000 in
theorem gX7_capabilities_X7_checkToken : GoodIn wsX7_capabilities (wsV RX7 112 RX7 yX7_checkToken wsX7_checkToken) := goodIn_app (goodIn_of _ (by decide +kernel)) ggX7_capabilities_X7_checkToken
set_option maxRecDepth 20000 in
theorem ggX7_capabilities_X7_checkPath : GoodIn wsX7_capabilities wsX7_checkPath := goodIn_ca (goodIn_r _ [18, 19, 20, 21, 22, 23, 24, 25, 26, 27, 28] (by decide +kernel) (by decide +kernel)) (goodIn_sub (fun _ h => List.mem_cons_of_mem _ (List.mem_append_right _ h)) (by decide +kernel))
set_option maxRecDepth 20000 in
theorem gX7_capabilities_X7_checkPath : GoodIn wsX7_capabilities (va_wsS RX7 98 yX7_checkPath wsX7_checkPath) := goodIn_app (goodIn_of _ (by decide +kernel)) ggX7_capabilities_X7_checkPath
set_option maxRecDepth 20000 in
theorem ggX7_capabilities_X7_capabilitiesAt : GoodIn wsX7_capabilities wsX7_capabilitiesAt := goodIn_r _ [32, 33, 8, 34, 35, 36, 37, 38, 39, 40, 10, 11, 12, 13, 14, 15, 41, 42, 43, 44, 45, 46, 47, 48, 49, 50, 51, 52, 53, 54, 55, 56, 57, 58, 59, 60, 61, 62, 63, 64, 23, 65, 66, 67, 68, 69, 70, 71, 72, 73, 74, 75, 76, 77, 78, 79, 80, 81, 82, 91, 92, 93, 94, 95, 96, 97, 98, 99, 83, 84, 85, 86, 87, 88, 89, 90, 100, 101, 102, 103, 104] (by decide +kernel) (by decide +kernel)
set_option maxRecDepth 20000 in
theorem gX7_capabilities_X7_capabilitiesAt : GoodIn wsX7_capabilities (wsV RX7 170 RX7 yX7_capabilitiesAt wsX7_capabilitiesAt) := goodIn_app (goodIn_of _ (by decide +kernel)) ggX7_capabilities_X7_capabilitiesAt
theorem dX7_capabilities_0 : decode cX7_capabilities 0 = .ok (.aload_n 0, 1) := by decide +kernel
theorem dX7_capabilities_1 : decode cX7_capabilities 1 = .ok (.iload_n 1, 1) := by decide +kernel
theorem dX7_capabilities_2 : decode cX7_capabilities 2 = .ok (.invokevirtual 112, 3) := by decide +kernel
