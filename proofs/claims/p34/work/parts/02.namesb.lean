theorem dX0_init_0 : decode cX0_init 0 = .ok (.aload_n 0, 1) := by decide +kernel
theorem dX0_init_1 : decode cX0_init 1 = .ok (.invokespecial 3, 3) := by decide +kernel
theorem dX0_init_4 : decode cX0_init 4 = .ok (.aload_n 0, 1) := by decide +kernel
theorem dX0_init_5 : decode cX0_init 5 = .ok (.sipush 513, 3) := by decide +kernel
theorem dX0_init_8 : decode cX0_init 8 = .ok (.newarray .int, 2) := by decide +kernel
theorem dX0_init_10 : decode cX0_init 10 = .ok (.putfield 9, 3) := by decide +kernel
theorem dX0_init_13 : decode cX0_init 13 = .ok (.aload_n 0, 1) := by decide +kernel
theorem dX0_init_14 : decode cX0_init 14 = .ok (.sipush 513, 3) := by decide +kernel
theorem dX0_init_17 : decode cX0_init 17 = .ok (.newarray .int, 2) := by decide +kernel
theorem dX0_init_19 : decode cX0_init 19 = .ok (.putfield 15, 3) := by decide +kernel
theorem dX0_init_22 : decode cX0_init 22 = .ok (.aload_n 0, 1) := by decide +kernel
theorem dX0_init_23 : decode cX0_init 23 = .ok (.sipush 513, 3) := by decide +kernel
theorem dX0_init_26 : decode cX0_init 26 = .ok (.newarray .int, 2) := by decide +kernel
theorem dX0_init_28 : decode cX0_init 28 = .ok (.putfield 18, 3) := by decide +kernel
theorem dX0_init_31 : decode cX0_init 31 = .ok (.aload_n 0, 1) := by decide +kernel
theorem dX0_init_32 : decode cX0_init 32 = .ok (.sipush 513, 3) := by decide +kernel
theorem dX0_init_35 : decode cX0_init 35 = .ok (.newarray .long, 2) := by decide +kernel
theorem dX0_init_37 : decode cX0_init 37 = .ok (.putfield 21, 3) := by decide +kernel
theorem dX0_init_40 : decode cX0_init 40 = .ok (.aload_n 0, 1) := by decide +kernel
theorem dX0_init_41 : decode cX0_init 41 = .ok (.iconst 0, 1) := by decide +kernel
theorem dX0_init_42 : decode cX0_init 42 = .ok (.putfield 25, 3) := by decide +kernel
theorem dX0_init_45 : decode cX0_init 45 = .ok (.return_, 1) := by decide +kernel
theorem dX0_count_0 : decode cX0_count 0 = .ok (.aload_n 0, 1) := by decide +kernel
theorem dX0_count_1 : decode cX0_count 1 = .ok (.getfield 25, 3) := by decide +kernel
theorem dX0_count_4 : decode cX0_count 4 = .ok (.ireturn, 1) := by decide +kernel
theorem dX0_has_0 : decode cX0_has 0 = .ok (.iload_n 1, 1) := by decide +kernel
theorem dX0_has_1 : decode cX0_has 1 = .ok (.ifCond .lt 15, 3) := by decide +kernel
theorem dX0_has_4 : decode cX0_has 4 = .ok (.iload_n 1, 1) := by decide +kernel
theorem dX0_has_5 : decode cX0_has 5 = .ok (.aload_n 0, 1) := by decide +kernel
theorem dX0_has_6 : decode cX0_has 6 = .ok (.getfield 25, 3) := by decide +kernel
theorem dX0_has_9 : decode cX0_has 9 = .ok (.if_icmp .ge 7, 3) := by decide +kernel
theorem dX0_has_12 : decode cX0_has 12 = .ok (.iconst 1, 1) := by decide +kernel
theorem dX0_has_13 : decode cX0_has 13 = .ok (.goto 4, 3) := by decide +kernel
theorem dX0_has_16 : decode cX0_has 16 = .ok (.iconst 0, 1) := by decide +kernel
theorem dX0_has_17 : decode cX0_has 17 = .ok (.ireturn, 1) := by decide +kernel
theorem dX0_write_0 : decode cX0_write 0 = .ok (.aload_n 0, 1) := by decide +kernel
theorem dX0_write_1 : decode cX0_write 1 = .ok (.getfield 25, 3) := by decide +kernel
theorem dX0_write_4 : decode cX0_write 4 = .ok (.sipush 513, 3) := by decide +kernel
theorem dX0_write_7 : decode cX0_write 7 = .ok (.if_icmp .lt 4, 3) := by decide +kernel
theorem dX0_write_10 : decode cX0_write 10 = .ok (.return_, 1) := by decide +kernel
theorem dX0_write_11 : decode cX0_write 11 = .ok (.aload_n 0, 1) := by decide +kernel
theorem dX0_write_12 : decode cX0_write 12 = .ok (.getfield 25, 3) := by decide +kernel
theorem dX0_write_15 : decode cX0_write 15 = .ok (.ifCond .ne 9, 3) := by decide +kernel
theorem dX0_write_18 : decode cX0_write 18 = .ok (.ldc2_w 29, 3) := by decide +kernel
theorem dX0_write_21 : decode cX0_write 21 = .ok (.goto 14, 3) := by decide +kernel
theorem dX0_write_24 : decode cX0_write 24 = .ok (.aload_n 0, 1) := by decide +kernel
theorem dX0_write_25 : decode cX0_write 25 = .ok (.getfield 21, 3) := by decide +kernel
theorem dX0_write_28 : decode cX0_write 28 = .ok (.aload_n 0, 1) := by decide +kernel
theorem dX0_write_29 : decode cX0_write 29 = .ok (.getfield 25, 3) := by decide +kernel
theorem dX0_write_32 : decode cX0_write 32 = .ok (.iconst 1, 1) := by decide +kernel
theorem dX0_write_33 : decode cX0_write 33 = .ok (.isub, 1) := by decide +kernel
theorem dX0_write_34 : decode cX0_write 34 = .ok (.laload, 1) := by decide +kernel
theorem dX0_write_35 : decode cX0_write 35 = .ok (.lstore 5, 2) := by decide +kernel
theorem dX0_write_37 : decode cX0_write 37 = .ok (.aload_n 0, 1) := by decide +kernel
theorem dX0_write_38 : decode cX0_write 38 = .ok (.getfield 9, 3) := by decide +kernel
theorem dX0_write_41 : decode cX0_write 41 = .ok (.aload_n 0, 1) := by decide +kernel
theorem dX0_write_42 : decode cX0_write 42 = .ok (.getfield 25, 3) := by decide +kernel
theorem dX0_write_45 : decode cX0_write 45 = .ok (.iload_n 1, 1) := by decide +kernel
theorem dX0_write_46 : decode cX0_write 46 = .ok (.iastore, 1) := by decide +kernel
theorem dX0_write_47 : decode cX0_write 47 = .ok (.aload_n 0, 1) := by decide +kernel
theorem dX0_write_48 : decode cX0_write 48 = .ok (.getfield 15, 3) := by decide +kernel
theorem dX0_write_51 : decode cX0_write 51 = .ok (.aload_n 0, 1) := by decide +kernel
theorem dX0_write_52 : decode cX0_write 52 = .ok (.getfield 25, 3) := by decide +kernel
theorem dX0_write_55 : decode cX0_write 55 = .ok (.iload_n 2, 1) := by decide +kernel
theorem dX0_write_56 : decode cX0_write 56 = .ok (.iastore, 1) := by decide +kernel
theorem dX0_write_57 : decode cX0_write 57 = .ok (.aload_n 0, 1) := by decide +kernel
theorem dX0_write_58 : decode cX0_write 58 = .ok (.getfield 18, 3) := by decide +kernel
theorem dX0_write_61 : decode cX0_write 61 = .ok (.aload_n 0, 1) := by decide +kernel
theorem dX0_write_62 : decode cX0_write 62 = .ok (.getfield 25, 3) := by decide +kernel
theorem dX0_write_65 : decode cX0_write 65 = .ok (.iload_n 3, 1) := by decide +kernel
theorem dX0_write_66 : decode cX0_write 66 = .ok (.iastore, 1) := by decide +kernel
theorem dX0_write_67 : decode cX0_write 67 = .ok (.aload_n 0, 1) := by decide +kernel
theorem dX0_write_68 : decode cX0_write 68 = .ok (.getfield 21, 3) := by decide +kernel
theorem dX0_write_71 : decode cX0_write 71 = .ok (.aload_n 0, 1) := by decide +kernel
theorem dX0_write_72 : decode cX0_write 72 = .ok (.getfield 25, 3) := by decide +kernel
theorem dX0_write_75 : decode cX0_write 75 = .ok (.ldc2_w 31, 3) := by decide +kernel
theorem dX0_write_78 : decode cX0_write 78 = .ok (.lload 5, 2) := by decide +kernel
theorem dX0_write_80 : decode cX0_write 80 = .ok (.lmul, 1) := by decide +kernel
theorem dX0_write_81 : decode cX0_write 81 = .ok (.ldc2_w 33, 3) := by decide +kernel
theorem dX0_write_84 : decode cX0_write 84 = .ok (.iload_n 1, 1) := by decide +kernel
theorem dX0_write_85 : decode cX0_write 85 = .ok (.i2l, 1) := by decide +kernel
theorem dX0_write_86 : decode cX0_write 86 = .ok (.lmul, 1) := by decide +kernel
theorem dX0_write_87 : decode cX0_write 87 = .ok (.ladd, 1) := by decide +kernel
theorem dX0_write_88 : decode cX0_write 88 = .ok (.ldc2_w 35, 3) := by decide +kernel
theorem dX0_write_91 : decode cX0_write 91 = .ok (.iload_n 2, 1) := by decide +kernel
theorem dX0_write_92 : decode cX0_write 92 = .ok (.i2l, 1) := by decide +kernel
theorem dX0_write_93 : decode cX0_write 93 = .ok (.lmul, 1) := by decide +kernel
theorem dX0_write_94 : decode cX0_write 94 = .ok (.ladd, 1) := by decide +kernel
theorem dX0_write_95 : decode cX0_write 95 = .ok (.ldc2_w 37, 3) := by decide +kernel
theorem dX0_write_98 : decode cX0_write 98 = .ok (.iload_n 3, 1) := by decide +kernel
theorem dX0_write_99 : decode cX0_write 99 = .ok (.i2l, 1) := by decide +kernel
theorem dX0_write_100 : decode cX0_write 100 = .ok (.lmul, 1) := by decide +kernel
theorem dX0_write_101 : decode cX0_write 101 = .ok (.ladd, 1) := by decide +kernel
theorem dX0_write_102 : decode cX0_write 102 = .ok (.iload 4, 2) := by decide +kernel
theorem dX0_write_104 : decode cX0_write 104 = .ok (.i2l, 1) := by decide +kernel
theorem dX0_write_105 : decode cX0_write 105 = .ok (.ladd, 1) := by decide +kernel
theorem dX0_write_106 : decode cX0_write 106 = .ok (.ldc2_w 39, 3) := by decide +kernel
theorem dX0_write_109 : decode cX0_write 109 = .ok (.lrem, 1) := by decide +kernel
theorem dX0_write_110 : decode cX0_write 110 = .ok (.lastore, 1) := by decide +kernel
theorem dX0_write_111 : decode cX0_write 111 = .ok (.aload_n 0, 1) := by decide +kernel
theorem dX0_write_112 : decode cX0_write 112 = .ok (.dup, 1) := by decide +kernel
theorem dX0_write_113 : decode cX0_write 113 = .ok (.getfield 25, 3) := by decide +kernel
theorem dX0_write_116 : decode cX0_write 116 = .ok (.iconst 1, 1) := by decide +kernel
theorem dX0_write_117 : decode cX0_write 117 = .ok (.iadd, 1) := by decide +kernel
theorem dX0_write_118 : decode cX0_write 118 = .ok (.putfield 25, 3) := by decide +kernel
theorem dX0_write_121 : decode cX0_write 121 = .ok (.return_, 1) := by decide +kernel
set_option maxRecDepth 20000 in
theorem ggX0_kindAt_X0_has : GoodIn wsX0_kindAt wsX0_has := goodIn_r _ [6, 7, 8, 9, 10, 11, 12] (by decide +kernel) (by decide +kernel)
set_option maxRecDepth 20000 in
theorem gX0_kindAt_X0_has : GoodIn wsX0_kindAt (wsV RX0 41 RX0 yX0_has wsX0_has) := goodIn_app (goodIn_of _ (by decide +kernel)) ggX0_kindAt_X0_has
theorem dX0_kindAt_0 : decode cX0_kindAt 0 = .ok (.aload_n 0, 1) := by decide +kernel
theorem dX0_kindAt_1 : decode cX0_kindAt 1 = .ok (.iload_n 1, 1) := by decide +kernel
theorem dX0_kindAt_2 : decode cX0_kindAt 2 = .ok (.invokevirtual 41, 3) := by decide +kernel
theorem dX0_kindAt_5 : decode cX0_kindAt 5 = .ok (.ifCond .eq 12, 3) := by decide +kernel
theorem dX0_kindAt_8 : decode cX0_kindAt 8 = .ok (.aload_n 0, 1) := by decide +kernel
theorem dX0_kindAt_9 : decode cX0_kindAt 9 = .ok (.getfield 9, 3) := by decide +kernel
theorem dX0_kindAt_12 : decode cX0_kindAt 12 = .ok (.iload_n 1, 1) := by decide +kernel
theorem dX0_kindAt_13 : decode cX0_kindAt 13 = .ok (.iaload, 1) := by decide +kernel
theorem dX0_kindAt_14 : decode cX0_kindAt 14 = .ok (.goto 4, 3) := by decide +kernel
theorem dX0_kindAt_17 : decode cX0_kindAt 17 = .ok (.iconst 0, 1) := by decide +kernel
theorem dX0_kindAt_18 : decode cX0_kindAt 18 = .ok (.ireturn, 1) := by decide +kernel
set_option maxRecDepth 20000 in
theorem ggX0_subjectAt_X0_has : GoodIn wsX0_subjectAt wsX0_has := goodIn_r _ [6, 7, 8, 9, 10, 11, 12] (by decide +kernel) (by decide +kernel)
set_option maxRecDepth 20000 in
theorem gX0_subjectAt_X0_has : GoodIn wsX0_subjectAt (wsV RX0 41 RX0 yX0_has wsX0_has) := goodIn_app (goodIn_of _ (by decide +kernel)) ggX0_subjectAt_X0_has
theorem dX0_subjectAt_0 : decode cX0_subjectAt 0 = .ok (.aload_n 0, 1) := by decide +kernel
theorem dX0_subjectAt_1 : decode cX0_subjectAt 1 = .ok (.iload_n 1, 1) := by decide +kernel
theorem dX0_subjectAt_2 : decode cX0_subjectAt 2 = .ok (.invokevirtual 41, 3) := by decide +kernel
theorem dX0_subjectAt_5 : decode cX0_subjectAt 5 = .ok (.ifCond .eq 12, 3) := by decide +kernel
theorem dX0_subjectAt_8 : decode cX0_subjectAt 8 = .ok (.aload_n 0, 1) := by decide +kernel
theorem dX0_subjectAt_9 : decode cX0_subjectAt 9 = .ok (.getfield 15, 3) := by decide +kernel
theorem dX0_subjectAt_12 : decode cX0_subjectAt 12 = .ok (.iload_n 1, 1) := by decide +kernel
theorem dX0_subjectAt_13 : decode cX0_subjectAt 13 = .ok (.iaload, 1) := by decide +kernel
theorem dX0_subjectAt_14 : decode cX0_subjectAt 14 = .ok (.goto 4, 3) := by decide +kernel
theorem dX0_subjectAt_17 : decode cX0_subjectAt 17 = .ok (.iconst 0, 1) := by decide +kernel
theorem dX0_subjectAt_18 : decode cX0_subjectAt 18 = .ok (.ireturn, 1) := by decide +kernel
set_option maxRecDepth 20000 in
theorem ggX0_detailAt_X0_has : GoodIn wsX0_detailAt wsX0_has := goodIn_r _ [6, 7, 8, 9, 10, 11, 12] (by decide +kernel) (by decide +kernel)
set_option maxRecDepth 20000 in
theorem gX0_detailAt_X0_has : GoodIn wsX0_detailAt (wsV RX0 41 RX0 yX0_has wsX0_has) := goodIn_app (goodIn_of _ (by decide +kernel)) ggX0_detailAt_X0_has
theorem dX0_detailAt_0 : decode cX0_detailAt 0 = .ok (.aload_n 0, 1) := by decide +kernel
theorem dX0_detailAt_1 : decode cX0_detailAt 1 = .ok (.iload_n 1, 1) := by decide +kernel
theorem dX0_detailAt_2 : decode cX0_detailAt 2 = .ok (.invokevirtual 41, 3) := by decide +kernel
theorem dX0_detailAt_5 : decode cX0_detailAt 5 = .ok (.ifCond .eq 12, 3) := by decide +kernel
theorem dX0_detailAt_8 : decode cX0_detailAt 8 = .ok (.aload_n 0, 1) := by decide +kernel
theorem dX0_detailAt_9 : decode cX0_detailAt 9 = .ok (.getfield 18, 3) := by decide +kernel
theorem dX0_detailAt_12 : decode cX0_detailAt 12 = .ok (.iload_n 1, 1) := by decide +kernel
theorem dX0_detailAt_13 : decode cX0_detailAt 13 = .ok (.iaload, 1) := by decide +kernel
theorem dX0_detailAt_14 : decode cX0_detailAt 14 = .ok (.goto 4, 3) := by decide +kernel
theorem dX0_detailAt_17 : decode cX0_detailAt 17 = .ok (.iconst 0, 1) := by decide +kernel
theorem dX0_detailAt_18 : decode cX0_detailAt 18 = .ok (.ireturn, 1) := by decide +kernel
set_option maxRecDepth 20000 in
theorem ggX0_sumAt_X0_has : GoodIn wsX0_sumAt wsX0_has := goodIn_r _ [6, 7, 8, 9, 10, 11, 12] (by decide +kernel) (by decide +kernel)
set_option maxRecDepth 20000 in
theorem gX0_sumAt_X0_has : GoodIn wsX0_sumAt (wsV RX0 41 RX0 yX0_has wsX0_has) := goodIn_app (goodIn_of _ (by decide +kernel)) ggX0_sumAt_X0_has
theorem dX0_sumAt_0 : decode cX0_sumAt 0 = .ok (.aload_n 0, 1) := by decide +kernel
theorem dX0_sumAt_1 : decode cX0_sumAt 1 = .ok (.iload_n 1, 1) := by decide +kernel
theorem dX0_sumAt_2 : decode cX0_sumAt 2 = .ok (.invokevirtual 41, 3) := by decide +kernel
theorem dX0_sumAt_5 : decode cX0_sumAt 5 = .ok (.ifCond .eq 12, 3) := by decide +kernel
theorem dX0_sumAt_8 : decode cX0_sumAt 8 = .ok (.aload_n 0, 1) := by decide +kernel
theorem dX0_sumAt_9 : decode cX0_sumAt 9 = .ok (.getfield 21, 3) := by decide +kernel
theorem dX0_sumAt_12 : decode cX0_sumAt 12 = .ok (.iload_n 1, 1) := by decide +kernel
theorem dX0_sumAt_13 : decode cX0_sumAt 13 = .ok (.laload, 1) := by decide +kernel
theorem dX0_sumAt_14 : decode cX0_sumAt 14 = .ok (.goto 4, 3) := by decide +kernel
theorem dX0_sumAt_17 : decode cX0_sumAt 17 = .ok (.lconst 0, 1) := by decide +kernel
theorem dX0_sumAt_18 : decode cX0_sumAt 18 = .ok (.lreturn, 1) := by decide +kernel
set_option maxRecDepth 20000 in
theorem ggX1_init_X2_init : GoodIn wsX1_init wsX2_init := goodIn_r _ [6, 7, 8, 9, 1, 10, 11, 12, 13, 14, 15, 16, 17, 18, 19, 20, 21, 22, 23, 24, 25, 26, 27, 28, 29, 30, 31, 32, 33] (by decide +kernel) (by decide +kernel)
set_option maxRecDepth 20000 in
theorem gX1_init_X2_init_n3 : GoodIn wsX1_init (wsX2_init) := ggX1_init_X2_init
theorem dX1_init_0 : decode cX1_init 0 = .ok (.aload_n 0, 1) := by decide +kernel
theorem dX1_init_1 : decode cX1_init 1 = .ok (.invokespecial 3, 3) := by decide +kernel
theorem dX1_init_4 : decode cX1_init 4 = .ok (.aload_n 0, 1) := by decide +kernel
theorem dX1_init_5 : decode cX1_init 5 = .ok (.sipush 513, 3) := by decide +kernel
theorem dX1_init_8 : decode cX1_init 8 = .ok (.newarray .int, 2) := by decide +kernel
theorem dX1_init_10 : decode cX1_init 10 = .ok (.putfield 9, 3) := by decide +kernel
theorem dX1_init_13 : decode cX1_init 13 = .ok (.aload_n 0, 1) := by decide +kernel
theorem dX1_init_14 : decode cX1_init 14 = .ok (.sipush 513, 3) := by decide +kernel
theorem dX1_init_17 : decode cX1_init 17 = .ok (.newarray .int, 2) := by decide +kernel
theorem dX1_init_19 : decode cX1_init 19 = .ok (.putfield 15, 3) := by decide +kernel
theorem dX1_init_22 : decode cX1_init 22 = .ok (.return_, 1) := by decide +kernel
set_option maxRecDepth 20000 in
theorem ggX1_describe_X2_has : GoodIn wsX1_describe wsX2_has := goodIn_r _ [8, 9, 10, 11, 12, 13, 14, 15, 16, 17, 18, 19, 20, 21, 22, 23, 24, 25, 26] (by decide +kernel) (by decide +kernel)
set_option maxRecDepth 20000 in
theorem gX1_describe_X2_has_u18X1 : GoodIn wsX1_describe (va_wsU RX1 18 RX1 "SecretBroker$Leased" ⟨"SecretBroker$Credentials", "has", "(I)Z"⟩ yX2_has wsX2_has) := goodIn_app (goodIn_of _ (by decide +kernel)) ggX1_describe_X2_has
theorem dX1_describe_0 : decode cX1_describe 0 = .ok (.aload_n 0, 1) := by decide +kernel
theorem dX1_describe_1 : decode cX1_describe 1 = .ok (.iload_n 1, 1) := by decide +kernel
theorem dX1_describe_2 : decode cX1_describe 2 = .ok (.invokevirtual 18, 3) := by decide +kernel
theorem dX1_describe_5 : decode cX1_describe 5 = .ok (.ifCond .eq 17, 3) := by decide +kernel
theorem dX1_describe_8 : decode cX1_describe 8 = .ok (.aload_n 0, 1) := by decide +kernel
theorem dX1_describe_9 : decode cX1_describe 9 = .ok (.getfield 9, 3) := by decide +kernel
theorem dX1_describe_12 : decode cX1_describe 12 = .ok (.iload_n 1, 1) := by decide +kernel
theorem dX1_describe_13 : decode cX1_describe 13 = .ok (.iload_n 2, 1) := by decide +kernel
theorem dX1_describe_14 : decode cX1_describe 14 = .ok (.iastore, 1) := by decide +kernel
theorem dX1_describe_15 : decode cX1_describe 15 = .ok (.aload_n 0, 1) := by decide +kernel
theorem dX1_describe_16 : decode cX1_describe 16 = .ok (.getfield 15, 3) := by decide +kernel
theorem dX1_describe_19 : decode cX1_describe 19 = .ok (.iload_n 1, 1) := by decide +kernel
theorem dX1_describe_20 : decode cX1_describe 20 = .ok (.iload_n 3, 1) := by decide +kernel
theorem dX1_describe_21 : decode cX1_describe 21 = .ok (.iastore, 1) := by decide +kernel
theorem dX1_describe_22 : decode cX1_describe 22 = .ok (.return_, 1) := by decide +kernel
set_option maxRecDepth 20000 in
theorem ggX1_ownerAt_X2_has : GoodIn wsX1_ownerAt wsX2_has := goodIn_r _ [7, 8, 9, 10, 11, 12, 13, 14, 15, 16, 17, 18, 19, 20, 21, 22, 23, 24, 25] (by decide +kernel) (by decide +kernel)
set_option maxRecDepth 20000 in
theorem gX1_ownerAt_X2_has_u18X1 : GoodIn wsX1_ownerAt (va_wsU RX1 18 RX1 "SecretBroker$Leased" ⟨"SecretBroker$Credentials", "has", "(I)Z"⟩ yX2_has wsX2_has) := goodIn_app (goodIn_of _ (by decide +kernel)) ggX1_ownerAt_X2_has
theorem dX1_ownerAt_0 : decode cX1_ownerAt 0 = .ok (.aload_n 0, 1) := by decide +kernel
theorem dX1_ownerAt_1 : decode cX1_ownerAt 1 = .ok (.iload_n 1, 1) := by decide +kernel
theorem dX1_ownerAt_2 : decode cX1_ownerAt 2 = .ok (.invokevirtual 18, 3) := by decide +kernel
theorem dX1_ownerAt_5 : decode cX1_ownerAt 5 = .ok (.ifCond .eq 12, 3) := by decide +kernel
theorem dX1_ownerAt_8 : decode cX1_ownerAt 8 = .ok (.aload_n 0, 1) := by decide +kernel
theorem dX1_ownerAt_9 : decode cX1_ownerAt 9 = .ok (.getfield 9, 3) := by decide +kernel
theorem dX1_ownerAt_12 : decode cX1_ownerAt 12 = .ok (.iload_n 1, 1) := by decide +kernel
theorem dX1_ownerAt_13 : decode cX1_ownerAt 13 = .ok (.iaload, 1) := by decide +kernel
theorem dX1_ownerAt_14 : decode cX1_ownerAt 14 = .ok (.goto 4, 3) := by decide +kernel
theorem dX1_ownerAt_17 : decode cX1_ownerAt 17 = .ok (.iconst (-1), 1) := by decide +kernel
theorem dX1_ownerAt_18 : decode cX1_ownerAt 18 = .ok (.ireturn, 1) := by decide +kernel
set_option maxRecDepth 20000 in
theorem ggX1_livingOf_X2_made : GoodIn wsX1_livingOf wsX2_made := goodIn_r _ [7, 8, 21, 22, 23, 24, 25, 26, 27, 28, 29, 30, 31, 32, 33, 34, 35, 36, 37] (by decide +kernel) (by decide +kernel)
set_option maxRecDepth 20000 in
theorem gX1_livingOf_X2_made_u22X1 : GoodIn wsX1_livingOf (va_wsU RX1 22 RX1 "SecretBroker$Leased" ⟨"SecretBroker$Credentials", "made", "()I"⟩ yX2_made wsX2_made) := goodIn_app (goodIn_of _ (by decide +kernel)) ggX1_livingOf_X2_made
set_option maxRecDepth 20000 in
theorem ggX1_livingOf_X2_isOn : GoodIn wsX1_livingOf wsX2_isOn := goodIn_r _ [13, 14, 15, 16, 17, 18, 6, 19, 8, 20, 21, 22, 23, 24, 25, 26, 27, 28, 29, 30, 31, 32, 33, 34, 35, 36, 37] (by decide +kernel) (by decide +kernel)
set_option maxRecDepth 20000 in
theorem gX1_livingOf_X2_isOn_u26X1 : GoodIn wsX1_livingOf (va_wsU RX1 26 RX1 "SecretBroker$Leased" ⟨"SecretBroker$Credentials", "isOn", "(I)Z"⟩ yX2_isOn wsX2_isOn) := goodIn_app (goodIn_of _ (by decide +kernel)) ggX1_livingOf_X2_isOn
theorem dX1_livingOf_0 : decode cX1_livingOf 0 = .ok (.iconst 0, 1) := by decide +kernel
theorem dX1_livingOf_1 : decode cX1_livingOf 1 = .ok (.istore_n 2, 1) := by decide +kernel
theorem dX1_livingOf_2 : decode cX1_livingOf 2 = .ok (.iconst 0, 1) := by decide +kernel
theorem dX1_livingOf_3 : decode cX1_livingOf 3 = .ok (.istore_n 3, 1) := by decide +kernel
theorem dX1_livingOf_4 : decode cX1_livingOf 4 = .ok (.iload_n 3, 1) := by decide +kernel
theorem dX1_livingOf_5 : decode cX1_livingOf 5 = .ok (.aload_n 0, 1) := by decide +kernel
theorem dX1_livingOf_6 : decode cX1_livingOf 6 = .ok (.invokevirtual 22, 3) := by decide +kernel
theorem dX1_livingOf_9 : decode cX1_livingOf 9 = .ok (.if_icmp .ge 30, 3) := by decide +kernel
theorem dX1_livingOf_12 : decode cX1_livingOf 12 = .ok (.aload_n 0, 1) := by decide +kernel
theorem dX1_livingOf_13 : decode cX1_livingOf 13 = .ok (.getfield 9, 3) := by decide +kernel
theorem dX1_livingOf_16 : decode cX1_livingOf 16 = .ok (.iload_n 3, 1) := by decide +kernel
theorem dX1_livingOf_17 : decode cX1_livingOf 17 = .ok (.iaload, 1) := by decide +kernel
theorem dX1_livingOf_18 : decode cX1_livingOf 18 = .ok (.iload_n 1, 1) := by decide +kernel
theorem dX1_livingOf_19 : decode cX1_livingOf 19 = .ok (.if_icmp .ne 14, 3) := by decide +kernel
theorem dX1_livingOf_22 : decode cX1_livingOf 22 = .ok (.aload_n 0, 1) := by decide +kernel
theorem dX1_livingOf_23 : decode cX1_livingOf 23 = .ok (.iload_n 3, 1) := by decide +kernel
theorem dX1_livingOf_24 : decode cX1_livingOf 24 = .ok (.invokevirtual 26, 3) := by decide +kernel
theorem dX1_livingOf_27 : decode cX1_livingOf 27 = .ok (.ifCond .eq 6, 3) := by decide +kernel
theorem dX1_livingOf_30 : decode cX1_livingOf 30 = .ok (.iinc 2 1, 3) := by decide +kernel
theorem dX1_livingOf_33 : decode cX1_livingOf 33 = .ok (.iinc 3 1, 3) := by decide +kernel
theorem dX1_livingOf_36 : decode cX1_livingOf 36 = .ok (.goto (-32), 3) := by decide +kernel
theorem dX1_livingOf_39 : decode cX1_livingOf 39 = .ok (.iload_n 2, 1) := by decide +kernel
theorem dX1_livingOf_40 : decode cX1_livingOf 40 = .ok (.ireturn, 1) := by decide +kernel
set_option maxRecDepth 20000 in
theorem ggX1_endBelow_X2_made : GoodIn wsX1_endBelow wsX2_made := goodIn_r _ [7, 8, 38, 39, 40, 41, 42, 43, 44, 45, 46, 47, 48, 49, 50, 51, 52, 53, 54] (by decide +kernel) (by decide +kernel)
set_option maxRecDepth 20000 in
theorem gX1_endBelow_X2_made_u22X1 : GoodIn wsX1_endBelow (va_wsU RX1 22 RX1 "SecretBroker$Leased" ⟨"SecretBroker$Credentials", "made", "()I"⟩ yX2_made wsX2_made) := goodIn_app (goodIn_of _ (by decide +kernel)) ggX1_endBelow_X2_made
set_option maxRecDepth 20000 in
theorem ggX1_endBelow_X4_isBelow : GoodIn wsX1_endBelow wsX4_isBelow := goodIn_r _ [12, 13, 14, 11, 15, 16, 17, 18] (by decide +kernel) (by decide +kernel)
set_option maxRecDepth 20000 in
theorem gX1_endBelow_X4_isBelow : GoodIn wsX1_endBelow (va_wsS RX1 29 yX4_isBelow wsX4_isBelow) := goodIn_app (goodIn_of _ (by decide +kernel)) ggX1_endBelow_X4_isBelow
set_option maxRecDepth 20000 in
theorem ggX1_endBelow_X2_end : GoodIn wsX1_endBelow wsX2_end := goodIn_r _ [23, 24, 25, 26, 27, 28, 29, 6, 30, 31, 32, 33, 34, 35, 8, 36, 37, 38, 39, 40, 41, 42, 43, 44, 45, 46, 47, 48, 49, 50, 51, 52, 53, 54] (by decide +kernel) (by decide +kernel)
set_option maxRecDepth 20000 in
theorem gX1_endBelow_X2_end_u35X1 : GoodIn wsX1_endBelow (va_wsU RX1 35 RX1 "SecretBroker$Leased" ⟨"SecretBroker$Credentials", "end", "(I)I"⟩ yX2_end wsX2_end) := goodIn_app (goodIn_of _ (by decide +kernel)) ggX1_endBelow_X2_end
theorem dX1_endBelow_0 : decode cX1_endBelow 0 = .ok (.iconst 0, 1) := by decide +kernel
theorem dX1_endBelow_1 : decode cX1_endBelow 1 = .ok (.istore_n 2, 1) := by decide +kernel
theorem dX1_endBelow_2 : decode cX1_endBelow 2 = .ok (.iconst 0, 1) := by decide +kernel
theorem dX1_endBelow_3 : decode cX1_endBelow 3 = .ok (.istore_n 3, 1) := by decide +kernel
theorem dX1_endBelow_4 : decode cX1_endBelow 4 = .ok (.iload_n 3, 1) := by decide +kernel
theorem dX1_endBelow_5 : decode cX1_endBelow 5 = .ok (.aload_n 0, 1) := by decide +kernel
theorem dX1_endBelow_6 : decode cX1_endBelow 6 = .ok (.invokevirtual 22, 3) := by decide +kernel
theorem dX1_endBelow_9 : decode cX1_endBelow 9 = .ok (.if_icmp .ge 30, 3) := by decide +kernel
theorem dX1_endBelow_12 : decode cX1_endBelow 12 = .ok (.aload_n 0, 1) := by decide +kernel
theorem dX1_endBelow_13 : decode cX1_endBelow 13 = .ok (.getfield 15, 3) := by decide +kernel
theorem dX1_endBelow_16 : decode cX1_endBelow 16 = .ok (.iload_n 3, 1) := by decide +kernel
theorem dX1_endBelow_17 : decode cX1_endBelow 17 = .ok (.iaload, 1) := by decide +kernel
theorem dX1_endBelow_18 : decode cX1_endBelow 18 = .ok (.iload_n 1, 1) := by decide +kernel
theorem dX1_endBelow_19 : decode cX1_endBelow 19 = .ok (.invokestatic 29, 3) := by decide +kernel
theorem dX1_endBelow_22 : decode cX1_endBelow 22 = .ok (.ifCond .eq 11, 3) := by decide +kernel
theorem dX1_endBelow_25 : decode cX1_endBelow 25 = .ok (.iload_n 2, 1) := by decide +kernel
theorem dX1_endBelow_26 : decode cX1_endBelow 26 = .ok (.aload_n 0, 1) := by decide +kernel
theorem dX1_endBelow_27 : decode cX1_endBelow 27 = .ok (.iload_n 3, 1) := by decide +kernel
theorem dX1_endBelow_28 : decode cX1_endBelow 28 = .ok (.invokevirtual 35, 3) := by decide +kernel
theorem dX1_endBelow_31 : decode cX1_endBelow 31 = .ok (.iadd, 1) := by decide +kernel
theorem dX1_endBelow_32 : decode cX1_endBelow 32 = .ok (.istore_n 2, 1) := by decide +kernel
theorem dX1_endBelow_33 : decode cX1_endBelow 33 = .ok (.iinc 3 1, 3) := by decide +kernel
theorem dX1_endBelow_36 : decode cX1_endBelow 36 = .ok (.goto (-32), 3) := by decide +kernel
theorem dX1_endBelow_39 : decode cX1_endBelow 39 = .ok (.iload_n 2, 1) := by decide +kernel
theorem dX1_endBelow_40 : decode cX1_endBelow 40 = .ok (.ireturn, 1) := by decide +kernel
set_option maxRecDepth 20000 in
theorem ggX1_endOfEnded_X2_made : GoodIn wsX1_endOfEnded wsX2_made := goodIn_r _ [7, 8, 31, 32, 33, 34, 35, 36, 37, 38, 39, 40, 41, 42, 43, 44, 45, 46, 47] (by decide +kernel) (by decide +kernel)
set_option maxRecDepth 20000 in
theorem gX1_endOfEnded_X2_made_u22X1 : GoodIn wsX1_endOfEnded (va_wsU RX1 22 RX1 "SecretBroker$Leased" ⟨"SecretBroker$Credentials", "made", "()I"⟩ yX2_made wsX2_made) := goodIn_app (goodIn_of _ (by decide +kernel)) ggX1_endOfEnded_X2_made
set_option maxRecDepth 20000 in
theorem ggX1_endOfEnded_X2_isOn : GoodIn wsX1_endOfEnded wsX2_isOn := goodIn_r _ [13, 14, 15, 16, 17, 18, 6, 19, 8, 20, 31, 32, 33, 34, 35, 36, 37, 38, 39, 40, 41, 42, 43, 44, 45, 46, 47] (by decide +kernel) (by decide +kernel)
set_option maxRecDepth 20000 in
theorem gX1_endOfEnded_X2_isOn_u39X6 : GoodIn wsX1_endOfEnded (va_wsU RX1 39 RX6 "SecretBroker$Leased" ⟨"SecretBroker$Tokens", "isOn", "(I)Z"⟩ yX2_isOn wsX2_isOn) := goodIn_app (goodIn_of _ (by decide +kernel)) ggX1_endOfEnded_X2_isOn
set_option maxRecDepth 20000 in
theorem ggX1_endOfEnded_X2_end : GoodIn wsX1_endOfEnded wsX2_end := goodIn_r _ [25, 14, 26, 27, 28, 29, 12, 6, 13, 15, 16, 17, 18, 19, 8, 20, 30, 31, 32, 33, 34, 35, 36, 37, 38, 39, 40, 41, 42, 43, 44, 45, 46, 47] (by decide +kernel) (by decide +kernel)
set_option maxRecDepth 20000 in
theorem gX1_endOfEnded_X2_end_u35X1 : GoodIn wsX1_endOfEnded (va_wsU RX1 35 RX1 "SecretBroker$Leased" ⟨"SecretBroker$Credentials", "end", "(I)I"⟩ yX2_end wsX2_end) := goodIn_app (goodIn_of _ (by decide +kernel)) ggX1_endOfEnded_X2_end
theorem dX1_endOfEnded_0 : decode cX1_endOfEnded 0 = .ok (.iconst 0, 1) := by decide +kernel
theorem dX1_endOfEnded_1 : decode cX1_endOfEnded 1 = .ok (.istore_n 2, 1) := by decide +kernel
theorem dX1_endOfEnded_2 : decode cX1_endOfEnded 2 = .ok (.iconst 0, 1) := by decide +kernel
theorem dX1_endOfEnded_3 : decode cX1_endOfEnded 3 = .ok (.istore_n 3, 1) := by decide +kernel
theorem dX1_endOfEnded_4 : decode cX1_endOfEnded 4 = .ok (.iload_n 3, 1) := by decide +kernel
theorem dX1_endOfEnded_5 : decode cX1_endOfEnded 5 = .ok (.aload_n 0, 1) := by decide +kernel
theorem dX1_endOfEnded_6 : decode cX1_endOfEnded 6 = .ok (.invokevirtual 22, 3) := by decide +kernel
theorem dX1_endOfEnded_9 : decode cX1_endOfEnded 9 = .ok (.if_icmp .ge 30, 3) := by decide +kernel
theorem dX1_endOfEnded_12 : decode cX1_endOfEnded 12 = .ok (.aload_n 1, 1) := by decide +kernel
theorem dX1_endOfEnded_13 : decode cX1_endOfEnded 13 = .ok (.aload_n 0, 1) := by decide +kernel
theorem dX1_endOfEnded_14 : decode cX1_endOfEnded 14 = .ok (.getfield 9, 3) := by decide +kernel
theorem dX1_endOfEnded_17 : decode cX1_endOfEnded 17 = .ok (.iload_n 3, 1) := by decide +kernel
theorem dX1_endOfEnded_18 : decode cX1_endOfEnded 18 = .ok (.iaload, 1) := by decide +kernel
theorem dX1_endOfEnded_19 : decode cX1_endOfEnded 19 = .ok (.invokevirtual 39, 3) := by decide +kernel
theorem dX1_endOfEnded_22 : decode cX1_endOfEnded 22 = .ok (.ifCond .ne 11, 3) := by decide +kernel
theorem dX1_endOfEnded_25 : decode cX1_endOfEnded 25 = .ok (.iload_n 2, 1) := by decide +kernel
theorem dX1_endOfEnded_26 : decode cX1_endOfEnded 26 = .ok (.aload_n 0, 1) := by decide +kernel
theorem dX1_endOfEnded_27 : decode cX1_endOfEnded 27 = .ok (.iload_n 3, 1) := by decide +kernel
theorem dX1_endOfEnded_28 : decode cX1_endOfEnded 28 = .ok (.invokevirtual 35, 3) := by decide +kernel
theorem dX1_endOfEnded_31 : decode cX1_endOfEnded 31 = .ok (.iadd, 1) := by decide +kernel
theorem dX1_endOfEnded_32 : decode cX1_endOfEnded 32 = .ok (.istore_n 2, 1) := by decide +kernel
theorem dX1_endOfEnded_33 : decode cX1_endOfEnded 33 = .ok (.iinc 3 1, 3) := by decide +kernel
theorem dX1_endOfEnded_36 : decode cX1_endOfEnded 36 = .ok (.goto (-32), 3) := by decide +kernel
theorem dX1_endOfEnded_39 : decode cX1_endOfEnded 39 = .ok (.iload_n 2, 1) := by decide +kernel
theorem dX1_endOfEnded_40 : decode cX1_endOfEnded 40 = .ok (.ireturn, 1) := by decide +kernel
theorem dX2_init_0 : decode cX2_init 0 = .ok (.aload_n 0, 1) := by decide +kernel
theorem dX2_init_1 : decode cX2_init 1 = .ok (.invokespecial 3, 3) := by decide +kernel
theorem dX2_init_4 : decode cX2_init 4 = .ok (.aload_n 0, 1) := by decide +kernel
theorem dX2_init_5 : decode cX2_init 5 = .ok (.sipush 513, 3) := by decide +kernel
theorem dX2_init_8 : decode cX2_init 8 = .ok (.newarray .int, 2) := by decide +kernel
theorem dX2_init_10 : decode cX2_init 10 = .ok (.putfield 9, 3) := by decide +kernel
theorem dX2_init_13 : decode cX2_init 13 = .ok (.aload_n 0, 1) := by decide +kernel
theorem dX2_init_14 : decode cX2_init 14 = .ok (.sipush 513, 3) := by decide +kernel
theorem dX2_init_17 : decode cX2_init 17 = .ok (.newarray .int, 2) := by decide +kernel
theorem dX2_init_19 : decode cX2_init 19 = .ok (.putfield 15, 3) := by decide +kernel
theorem dX2_init_22 : decode cX2_init 22 = .ok (.aload_n 0, 1) := by decide +kernel
theorem dX2_init_23 : decode cX2_init 23 = .ok (.sipush 513, 3) := by decide +kernel
theorem dX2_init_26 : decode cX2_init 26 = .ok (.newarray .int, 2) := by decide +kernel
theorem dX2_init_28 : decode cX2_init 28 = .ok (.putfield 18, 3) := by decide +kernel
theorem dX2_init_31 : decode cX2_init 31 = .ok (.aload_n 0, 1) := by decide +kernel
theorem dX2_init_32 : decode cX2_init 32 = .ok (.sipush 513, 3) := by decide +kernel
theorem dX2_init_35 : decode cX2_init 35 = .ok (.newarray .boolean, 2) := by decide +kernel
theorem dX2_init_37 : decode cX2_init 37 = .ok (.putfield 21, 3) := by decide +kernel
theorem dX2_init_40 : decode cX2_init 40 = .ok (.aload_n 0, 1) := by decide +kernel
theorem dX2_init_41 : decode cX2_init 41 = .ok (.iconst 0, 1) := by decide +kernel
theorem dX2_init_42 : decode cX2_init 42 = .ok (.putfield 25, 3) := by decide +kernel
theorem dX2_init_45 : decode cX2_init 45 = .ok (.aload_n 0, 1) := by decide +kernel
theorem dX2_init_46 : decode cX2_init 46 = .ok (.iconst 0, 1) := by decide +kernel
theorem dX2_init_47 : decode cX2_init 47 = .ok (.putfield 29, 3) := by decide +kernel
theorem dX2_init_50 : decode cX2_init 50 = .ok (.return_, 1) := by decide +kernel
theorem dX2_made_0 : decode cX2_made 0 = .ok (.aload_n 0, 1) := by decide +kernel
theorem dX2_made_1 : decode cX2_made 1 = .ok (.getfield 25, 3) := by decide +kernel
theorem dX2_made_4 : decode cX2_made 4 = .ok (.ireturn, 1) := by decide +kernel
theorem dX2_living_0 : decode cX2_living 0 = .ok (.aload_n 0, 1) := by decide +kernel
theorem dX2_living_1 : decode cX2_living 1 = .ok (.getfield 29, 3) := by decide +kernel
theorem dX2_living_4 : decode cX2_living 4 = .ok (.ireturn, 1) := by decide +kernel
theorem dX2_isFull_0 : decode cX2_isFull 0 = .ok (.aload_n 0, 1) := by decide +kernel
theorem dX2_isFull_1 : decode cX2_isFull 1 = .ok (.getfield 25, 3) := by decide +kernel
theorem dX2_isFull_4 : decode cX2_isFull 4 = .ok (.sipush 513, 3) := by decide +kernel
theorem dX2_isFull_7 : decode cX2_isFull 7 = .ok (.if_icmp .lt 7, 3) := by decide +kernel
theorem dX2_isFull_10 : decode cX2_isFull 10 = .ok (.iconst 1, 1) := by decide +kernel
theorem dX2_isFull_11 : decode cX2_isFull 11 = .ok (.goto 4, 3) := by decide +kernel
theorem dX2_isFull_14 : decode cX2_isFull 14 = .ok (.iconst 0, 1) := by decide +kernel
theorem dX2_isFull_15 : decode cX2_isFull 15 = .ok (.ireturn, 1) := by decide +kernel
theorem dX2_has_0 : decode cX2_has 0 = .ok (.iload_n 1, 1) := by decide +kernel
theorem dX2_has_1 : decode cX2_has 1 = .ok (.ifCond .lt 15, 3) := by decide +kernel
theorem dX2_has_4 : decode cX2_has 4 = .ok (.iload_n 1, 1) := by decide +kernel
theorem dX2_has_5 : decode cX2_has 5 = .ok (.aload_n 0, 1) := by decide +kernel
theorem dX2_has_6 : decode cX2_has 6 = .ok (.getfield 25, 3) := by decide +kernel
theorem dX2_has_9 : decode cX2_has 9 = .ok (.if_icmp .ge 7, 3) := by decide +kernel
theorem dX2_has_12 : decode cX2_has 12 = .ok (.iconst 1, 1) := by decide +kernel
theorem dX2_has_13 : decode cX2_has 13 = .ok (.goto 4, 3) := by decide +kernel
theorem dX2_has_16 : decode cX2_has 16 = .ok (.iconst 0, 1) := by decide +kernel
theorem dX2_has_17 : decode cX2_has 17 = .ok (.ireturn, 1) := by decide +kernel
set_option maxRecDepth 20000 in
theorem ggX2_isOn_X2_has : GoodIn wsX2_isOn wsX2_has := goodIn_r _ [7, 8, 10, 11, 12, 13, 14, 15, 16, 17, 18, 19, 20, 21, 22, 23, 24, 25, 26] (by decide +kernel) (by decide +kernel)
set_option maxRecDepth 20000 in
theorem gX2_isOn_X2_has_u32X1 : GoodIn wsX2_isOn (va_wsU RX2 32 RX1 "SecretBroker$Leased" ⟨"SecretBroker$Leased", "has", "(I)Z"⟩ yX2_has wsX2_has) := goodIn_app (goodIn_of _ (by decide +kernel)) ggX2_isOn_X2_has
set_option maxRecDepth 20000 in
theorem gX2_isOn_X2_has_u32X6 : GoodIn wsX2_isOn (va_wsU RX2 32 RX6 "SecretBroker$Leased" ⟨"SecretBroker$Leased", "has", "(I)Z"⟩ yX2_has wsX2_has) := goodIn_app (goodIn_of _ (by decide +kernel)) ggX2_isOn_X2_has
theorem dX2_isOn_0 : decode cX2_isOn 0 = .ok (.aload_n 0, 1) := by decide +kernel
theorem dX2_isOn_1 : decode cX2_isOn 1 = .ok (.iload_n 1, 1) := by decide +kernel
theorem dX2_isOn_2 : decode cX2_isOn 2 = .ok (.invokevirtual 32, 3) := by decide +kernel
theorem dX2_isOn_5 : decode cX2_isOn 5 = .ok (.ifCond .eq 16, 3) := by decide +kernel
theorem dX2_isOn_8 : decode cX2_isOn 8 = .ok (.aload_n 0, 1) := by decide +kernel
theorem dX2_isOn_9 : decode cX2_isOn 9 = .ok (.getfield 21, 3) := by decide +kernel
theorem dX2_isOn_12 : decode cX2_isOn 12 = .ok (.iload_n 1, 1) := by decide +kernel
theorem dX2_isOn_13 : decode cX2_isOn 13 = .ok (.baload, 1) := by decide +kernel
theorem dX2_isOn_14 : decode cX2_isOn 14 = .ok (.ifCond .eq 7, 3) := by decide +kernel
theorem dX2_isOn_17 : decode cX2_isOn 17 = .ok (.iconst 1, 1) := by decide +kernel
theorem dX2_isOn_18 : decode cX2_isOn 18 = .ok (.goto 4, 3) := by decide +kernel
theorem dX2_isOn_21 : decode cX2_isOn 21 = .ok (.iconst 0, 1) := by decide +kernel
theorem dX2_isOn_22 : decode cX2_isOn 22 = .ok (.ireturn, 1) := by decide +kernel
set_option maxRecDepth 20000 in
theorem ggX2_endAt_X2_has : GoodIn wsX2_endAt wsX2_has := goodIn_r _ [7, 8, 10, 11, 12, 13, 14, 15, 16, 17, 18, 19, 20, 21, 22, 23, 24, 25, 26] (by decide +kernel) (by decide +kernel)
set_option maxRecDepth 20000 in
theorem gX2_endAt_X2_has_u32X1 : GoodIn wsX2_endAt (va_wsU RX2 32 RX1 "SecretBroker$Leased" ⟨"SecretBroker$Leased", "has", "(I)Z"⟩ yX2_has wsX2_has) := goodIn_app (goodIn_of _ (by decide +kernel)) ggX2_endAt_X2_has
set_option maxRecDepth 20000 in
theorem gX2_endAt_X2_has_u32X6 : GoodIn wsX2_endAt (va_wsU RX2 32 RX6 "SecretBroker$Leased" ⟨"SecretBroker$Leased", "has", "(I)Z"⟩ yX2_has wsX2_has) := goodIn_app (goodIn_of _ (by decide +kernel)) ggX2_endAt_X2_has
theorem dX2_endAt_0 : decode cX2_endAt 0 = .ok (.aload_n 0, 1) := by decide +kernel
theorem dX2_endAt_1 : decode cX2_endAt 1 = .ok (.iload_n 1, 1) := by decide +kernel
theorem dX2_endAt_2 : decode cX2_endAt 2 = .ok (.invokevirtual 32, 3) := by decide +kernel
theorem dX2_endAt_5 : decode cX2_endAt 5 = .ok (.ifCond .eq 12, 3) := by decide +kernel
theorem dX2_endAt_8 : decode cX2_endAt 8 = .ok (.aload_n 0, 1) := by decide +kernel
theorem dX2_endAt_9 : decode cX2_endAt 9 = .ok (.getfield 15, 3) := by decide +kernel
theorem dX2_endAt_12 : decode cX2_endAt 12 = .ok (.iload_n 1, 1) := by decide +kernel
theorem dX2_endAt_13 : decode cX2_endAt 13 = .ok (.iaload, 1) := by decide +kernel
theorem dX2_endAt_14 : decode cX2_endAt 14 = .ok (.goto 4, 3) := by decide +kernel
theorem dX2_endAt_17 : decode cX2_endAt 17 = .ok (.iconst (-1), 1) := by decide +kernel
theorem dX2_endAt_18 : decode cX2_endAt 18 = .ok (.ireturn, 1) := by decide +kernel
theorem dX2_add_0 : decode cX2_add 0 = .ok (.aload_n 0, 1) := by decide +kernel
theorem dX2_add_1 : decode cX2_add 1 = .ok (.getfield 25, 3) := by decide +kernel
theorem dX2_add_4 : decode cX2_add 4 = .ok (.sipush 513, 3) := by decide +kernel
theorem dX2_add_7 : decode cX2_add 7 = .ok (.if_icmp .lt 5, 3) := by decide +kernel
theorem dX2_add_10 : decode cX2_add 10 = .ok (.iconst (-1), 1) := by decide +kernel
theorem dX2_add_11 : decode cX2_add 11 = .ok (.ireturn, 1) := by decide +kernel
theorem dX2_add_12 : decode cX2_add 12 = .ok (.aload_n 0, 1) := by decide +kernel
theorem dX2_add_13 : decode cX2_add 13 = .ok (.getfield 9, 3) := by decide +kernel
theorem dX2_add_16 : decode cX2_add 16 = .ok (.aload_n 0, 1) := by decide +kernel
theorem dX2_add_17 : decode cX2_add 17 = .ok (.getfield 25, 3) := by decide +kernel
theorem dX2_add_20 : decode cX2_add 20 = .ok (.iload_n 1, 1) := by decide +kernel
theorem dX2_add_21 : decode cX2_add 21 = .ok (.iastore, 1) := by decide +kernel
theorem dX2_add_22 : decode cX2_add 22 = .ok (.aload_n 0, 1) := by decide +kernel
theorem dX2_add_23 : decode cX2_add 23 = .ok (.getfield 15, 3) := by decide +kernel
theorem dX2_add_26 : decode cX2_add 26 = .ok (.aload_n 0, 1) := by decide +kernel
theorem dX2_add_27 : decode cX2_add 27 = .ok (.getfield 25, 3) := by decide +kernel
theorem dX2_add_30 : decode cX2_add 30 = .ok (.iload_n 2, 1) := by decide +kernel
theorem dX2_add_31 : decode cX2_add 31 = .ok (.iastore, 1) := by decide +kernel
theorem dX2_add_32 : decode cX2_add 32 = .ok (.aload_n 0, 1) := by decide +kernel
theorem dX2_add_33 : decode cX2_add 33 = .ok (.getfield 18, 3) := by decide +kernel
theorem dX2_add_36 : decode cX2_add 36 = .ok (.aload_n 0, 1) := by decide +kernel
theorem dX2_add_37 : decode cX2_add 37 = .ok (.getfield 25, 3) := by decide +kernel
theorem dX2_add_40 : decode cX2_add 40 = .ok (.iload_n 3, 1) := by decide +kernel
theorem dX2_add_41 : decode cX2_add 41 = .ok (.iastore, 1) := by decide +kernel
theorem dX2_add_42 : decode cX2_add 42 = .ok (.aload_n 0, 1) := by decide +kernel
theorem dX2_add_43 : decode cX2_add 43 = .ok (.getfield 21, 3) := by decide +kernel
theorem dX2_add_46 : decode cX2_add 46 = .ok (.aload_n 0, 1) := by decide +kernel
theorem dX2_add_47 : decode cX2_add 47 = .ok (.getfield 25, 3) := by decide +kernel
theorem dX2_add_50 : decode cX2_add 50 = .ok (.iconst 1, 1) := by decide +kernel
theorem dX2_add_51 : decode cX2_add 51 = .ok (.bastore, 1) := by decide +kernel
theorem dX2_add_52 : decode cX2_add 52 = .ok (.aload_n 0, 1) := by decide +kernel
theorem dX2_add_53 : decode cX2_add 53 = .ok (.dup, 1) := by decide +kernel
theorem dX2_add_54 : decode cX2_add 54 = .ok (.getfield 29, 3) := by decide +kernel
theorem dX2_add_57 : decode cX2_add 57 = .ok (.iconst 1, 1) := by decide +kernel
theorem dX2_add_58 : decode cX2_add 58 = .ok (.iadd, 1) := by decide +kernel
theorem dX2_add_59 : decode cX2_add 59 = .ok (.putfield 29, 3) := by decide +kernel
theorem dX2_add_62 : decode cX2_add 62 = .ok (.aload_n 0, 1) := by decide +kernel
theorem dX2_add_63 : decode cX2_add 63 = .ok (.dup, 1) := by decide +kernel
theorem dX2_add_64 : decode cX2_add 64 = .ok (.getfield 25, 3) := by decide +kernel
theorem dX2_add_67 : decode cX2_add 67 = .ok (.iconst 1, 1) := by decide +kernel
theorem dX2_add_68 : decode cX2_add 68 = .ok (.iadd, 1) := by decide +kernel
theorem dX2_add_69 : decode cX2_add 69 = .ok (.putfield 25, 3) := by decide +kernel
theorem dX2_add_72 : decode cX2_add 72 = .ok (.aload_n 0, 1) := by decide +kernel
theorem dX2_add_73 : decode cX2_add 73 = .ok (.getfield 25, 3) := by decide +kernel
theorem dX2_add_76 : decode cX2_add 76 = .ok (.iconst 1, 1) := by decide +kernel
theorem dX2_add_77 : decode cX2_add 77 = .ok (.isub, 1) := by decide +kernel
theorem dX2_add_78 : decode cX2_add 78 = .ok (.ireturn, 1) := by decide +kernel
set_option maxRecDepth 20000 in
theorem ggX2_prolong_X2_has : GoodIn wsX2_prolong wsX2_has := goodIn_r _ [16, 17, 19, 20, 21, 22, 23, 24, 25, 26, 27, 28, 29, 30, 31, 32, 33, 34, 35] (by decide +kernel) (by decide +kernel)
set_option maxRecDepth 20000 in
theorem gX2_prolong_X2_has_u32X1 : GoodIn wsX2_prolong (va_wsU RX2 32 RX1 "SecretBroker$Leased" ⟨"SecretBroker$Leased", "has", "(I)Z"⟩ yX2_has wsX2_has) := goodIn_app (goodIn_of _ (by decide +kernel)) ggX2_prolong_X2_has
set_option maxRecDepth 20000 in
theorem gX2_prolong_X2_has_u32X6 : GoodIn wsX2_prolong (va_wsU RX2 32 RX6 "SecretBroker$Leased" ⟨"SecretBroker$Leased", "has", "(I)Z"⟩ yX2_has wsX2_has) := goodIn_app (goodIn_of _ (by decide +kernel)) ggX2_prolong_X2_has
theorem dX2_prolong_0 : decode cX2_prolong 0 = .ok (.aload_n 0, 1) := by decide +kernel
theorem dX2_prolong_1 : decode cX2_prolong 1 = .ok (.iload_n 1, 1) := by decide +kernel
theorem dX2_prolong_2 : decode cX2_prolong 2 = .ok (.invokevirtual 32, 3) := by decide +kernel
theorem dX2_prolong_5 : decode cX2_prolong 5 = .ok (.ifCond .eq 41, 3) := by decide +kernel
theorem dX2_prolong_8 : decode cX2_prolong 8 = .ok (.aload_n 0, 1) := by decide +kernel
theorem dX2_prolong_9 : decode cX2_prolong 9 = .ok (.getfield 9, 3) := by decide +kernel
theorem dX2_prolong_12 : decode cX2_prolong 12 = .ok (.iload_n 1, 1) := by decide +kernel
theorem dX2_prolong_13 : decode cX2_prolong 13 = .ok (.iaload, 1) := by decide +kernel
theorem dX2_prolong_14 : decode cX2_prolong 14 = .ok (.aload_n 0, 1) := by decide +kernel
theorem dX2_prolong_15 : decode cX2_prolong 15 = .ok (.getfield 18, 3) := by decide +kernel
theorem dX2_prolong_18 : decode cX2_prolong 18 = .ok (.iload_n 1, 1) := by decide +kernel
theorem dX2_prolong_19 : decode cX2_prolong 19 = .ok (.iaload, 1) := by decide +kernel
theorem dX2_prolong_20 : decode cX2_prolong 20 = .ok (.iadd, 1) := by decide +kernel
theorem dX2_prolong_21 : decode cX2_prolong 21 = .ok (.istore 4, 2) := by decide +kernel
theorem dX2_prolong_23 : decode cX2_prolong 23 = .ok (.aload_n 0, 1) := by decide +kernel
theorem dX2_prolong_24 : decode cX2_prolong 24 = .ok (.getfield 15, 3) := by decide +kernel
theorem dX2_prolong_27 : decode cX2_prolong 27 = .ok (.iload_n 1, 1) := by decide +kernel
theorem dX2_prolong_28 : decode cX2_prolong 28 = .ok (.aload_n 0, 1) := by decide +kernel
theorem dX2_prolong_29 : decode cX2_prolong 29 = .ok (.getfield 15, 3) := by decide +kernel
theorem dX2_prolong_32 : decode cX2_prolong 32 = .ok (.iload_n 1, 1) := by decide +kernel
theorem dX2_prolong_33 : decode cX2_prolong 33 = .ok (.iaload, 1) := by decide +kernel
theorem dX2_prolong_34 : decode cX2_prolong 34 = .ok (.iload_n 2, 1) := by decide +kernel
theorem dX2_prolong_35 : decode cX2_prolong 35 = .ok (.iload_n 3, 1) := by decide +kernel
theorem dX2_prolong_36 : decode cX2_prolong 36 = .ok (.iadd, 1) := by decide +kernel
theorem dX2_prolong_37 : decode cX2_prolong 37 = .ok (.iload 4, 2) := by decide +kernel
theorem dX2_prolong_39 : decode cX2_prolong 39 = .ok (.invokestatic 36, 3) := by decide +kernel
theorem dX2_prolong_42 : decode cX2_prolong 42 = .ok (.invokestatic 42, 3) := by decide +kernel
theorem dX2_prolong_45 : decode cX2_prolong 45 = .ok (.iastore, 1) := by decide +kernel
theorem dX2_prolong_46 : decode cX2_prolong 46 = .ok (.return_, 1) := by decide +kernel
set_option maxRecDepth 20000 in
theorem ggX2_end_X2_isOn : GoodIn wsX2_end wsX2_isOn := goodIn_r _ [8, 1, 9, 10, 11, 12, 7, 13, 14, 15, 17, 18, 19, 20, 21, 22, 23, 24, 25, 26, 27, 28, 29, 30, 31, 32, 33] (by decide +kernel) (by decide +kernel)
set_option maxRecDepth 20000 in
theorem gX2_end_X2_isOn_u45X1 : GoodIn wsX2_end (va_wsU RX2 45 RX1 "SecretBroker$Leased" ⟨"SecretBroker$Leased", "isOn", "(I)Z"⟩ yX2_isOn wsX2_isOn) := goodIn_app (goodIn_of _ (by decide +kernel)) ggX2_end_X2_isOn
set_option maxRecDepth 20000 in
theorem gX2_end_X2_isOn_u45X6 : GoodIn wsX2_end (va_wsU RX2 45 RX6 "SecretBroker$Leased" ⟨"SecretBroker$Leased", "isOn", "(I)Z"⟩ yX2_isOn wsX2_isOn) := goodIn_app (goodIn_of _ (by decide +kernel)) ggX2_end_X2_isOn
theorem dX2_end_0 : decode cX2_end 0 = .ok (.aload_n 0, 1) := by decide +kernel
theorem dX2_end_1 : decode cX2_end 1 = .ok (.iload_n 1, 1) := by decide +kernel
theorem dX2_end_2 : decode cX2_end 2 = .ok (.invokevirtual 45, 3) := by decide +kernel
theorem dX2_end_5 : decode cX2_end 5 = .ok (.ifCond .ne 5, 3) := by decide +kernel
theorem dX2_end_8 : decode cX2_end 8 = .ok (.iconst 0, 1) := by decide +kernel
theorem dX2_end_9 : decode cX2_end 9 = .ok (.ireturn, 1) := by decide +kernel
theorem dX2_end_10 : decode cX2_end 10 = .ok (.aload_n 0, 1) := by decide +kernel
theorem dX2_end_11 : decode cX2_end 11 = .ok (.getfield 21, 3) := by decide +kernel
theorem dX2_end_14 : decode cX2_end 14 = .ok (.iload_n 1, 1) := by decide +kernel
theorem dX2_end_15 : decode cX2_end 15 = .ok (.iconst 0, 1) := by decide +kernel
theorem dX2_end_16 : decode cX2_end 16 = .ok (.bastore, 1) := by decide +kernel
theorem dX2_end_17 : decode cX2_end 17 = .ok (.aload_n 0, 1) := by decide +kernel
theorem dX2_end_18 : decode cX2_end 18 = .ok (.dup, 1) := by decide +kernel
theorem dX2_end_19 : decode cX2_end 19 = .ok (.getfield 29, 3) := by decide +kernel
theorem dX2_end_22 : decode cX2_end 22 = .ok (.iconst 1, 1) := by decide +kernel
theorem dX2_end_23 : decode cX2_end 23 = .ok (.isub, 1) := by decide +kernel
theorem dX2_end_24 : decode cX2_end 24 = .ok (.putfield 29, 3) := by decide +kernel
theorem dX2_end_27 : decode cX2_end 27 = .ok (.iconst 1, 1) := by decide +kernel
theorem dX2_end_28 : decode cX2_end 28 = .ok (.ireturn, 1) := by decide +kernel
set_option maxRecDepth 20000 in
theorem ggX2_endByTime_X2_end : GoodIn wsX2_endByTime wsX2_end := goodIn_r _ [8, 9, 10, 11, 12, 13, 14, 7, 15, 16, 17, 18, 19, 20, 1, 21, 22, 24, 25, 26, 27, 28, 29, 30, 31, 32, 33, 34, 35, 36, 37, 38, 39, 40] (by decide +kernel) (by decide +kernel)
set_option maxRecDepth 20000 in
theorem gX2_endByTime_X2_end_u48X1 : GoodIn wsX2_endByTime (va_wsU RX2 48 RX1 "SecretBroker$Leased" ⟨"SecretBroker$Leased", "end", "(I)I"⟩ yX2_end wsX2_end) := goodIn_app (goodIn_of _ (by decide +kernel)) ggX2_endByTime_X2_end
set_option maxRecDepth 20000 in
theorem gX2_endByTime_X2_end_u48X6 : GoodIn wsX2_endByTime (va_wsU RX2 48 RX6 "SecretBroker$Leased" ⟨"SecretBroker$Leased", "end", "(I)I"⟩ yX2_end wsX2_end) := goodIn_app (goodIn_of _ (by decide +kernel)) ggX2_endByTime_X2_end
theorem dX2_endByTime_0 : decode cX2_endByTime 0 = .ok (.iconst 0, 1) := by decide +kernel
theorem dX2_endByTime_1 : decode cX2_endByTime 1 = .ok (.istore_n 2, 1) := by decide +kernel
theorem dX2_endByTime_2 : decode cX2_endByTime 2 = .ok (.iconst 0, 1) := by decide +kernel
theorem dX2_endByTime_3 : decode cX2_endByTime 3 = .ok (.istore_n 3, 1) := by decide +kernel
theorem dX2_endByTime_4 : decode cX2_endByTime 4 = .ok (.iload_n 3, 1) := by decide +kernel
theorem dX2_endByTime_5 : decode cX2_endByTime 5 = .ok (.aload_n 0, 1) := by decide +kernel
theorem dX2_endByTime_6 : decode cX2_endByTime 6 = .ok (.getfield 25, 3) := by decide +kernel
theorem dX2_endByTime_9 : decode cX2_endByTime 9 = .ok (.if_icmp .ge 37, 3) := by decide +kernel
theorem dX2_endByTime_12 : decode cX2_endByTime 12 = .ok (.aload_n 0, 1) := by decide +kernel
theorem dX2_endByTime_13 : decode cX2_endByTime 13 = .ok (.getfield 15, 3) := by decide +kernel
theorem dX2_endByTime_16 : decode cX2_endByTime 16 = .ok (.iload_n 3, 1) := by decide +kernel
theorem dX2_endByTime_17 : decode cX2_endByTime 17 = .ok (.iaload, 1) := by decide +kernel
theorem dX2_endByTime_18 : decode cX2_endByTime 18 = .ok (.iconst (-1), 1) := by decide +kernel
theorem dX2_endByTime_19 : decode cX2_endByTime 19 = .ok (.if_icmp .eq 21, 3) := by decide +kernel
theorem dX2_endByTime_22 : decode cX2_endByTime 22 = .ok (.aload_n 0, 1) := by decide +kernel
theorem dX2_endByTime_23 : decode cX2_endByTime 23 = .ok (.getfield 15, 3) := by decide +kernel
theorem dX2_endByTime_26 : decode cX2_endByTime 26 = .ok (.iload_n 3, 1) := by decide +kernel
theorem dX2_endByTime_27 : decode cX2_endByTime 27 = .ok (.iaload, 1) := by decide +kernel
theorem dX2_endByTime_28 : decode cX2_endByTime 28 = .ok (.iload_n 1, 1) := by decide +kernel
theorem dX2_endByTime_29 : decode cX2_endByTime 29 = .ok (.if_icmp .gt 11, 3) := by decide +kernel
theorem dX2_endByTime_32 : decode cX2_endByTime 32 = .ok (.iload_n 2, 1) := by decide +kernel
theorem dX2_endByTime_33 : decode cX2_endByTime 33 = .ok (.aload_n 0, 1) := by decide +kernel
theorem dX2_endByTime_34 : decode cX2_endByTime 34 = .ok (.iload_n 3, 1) := by decide +kernel
theorem dX2_endByTime_35 : decode cX2_endByTime 35 = .ok (.invokevirtual 48, 3) := by decide +kernel
theorem dX2_endByTime_38 : decode cX2_endByTime 38 = .ok (.iadd, 1) := by decide +kernel
theorem dX2_endByTime_39 : decode cX2_endByTime 39 = .ok (.istore_n 2, 1) := by decide +kernel
theorem dX2_endByTime_40 : decode cX2_endByTime 40 = .ok (.iinc 3 1, 3) := by decide +kernel
theorem dX2_endByTime_43 : decode cX2_endByTime 43 = .ok (.goto (-39), 3) := by decide +kernel
theorem dX2_endByTime_46 : decode cX2_endByTime 46 = .ok (.iload_n 2, 1) := by decide +kernel
theorem dX2_endByTime_47 : decode cX2_endByTime 47 = .ok (.ireturn, 1) := by decide +kernel
theorem dX2_firstEnd_0 : decode cX2_firstEnd 0 = .ok (.iconst (-1), 1) := by decide +kernel
theorem dX2_firstEnd_1 : decode cX2_firstEnd 1 = .ok (.istore_n 1, 1) := by decide +kernel
theorem dX2_firstEnd_2 : decode cX2_firstEnd 2 = .ok (.iconst 0, 1) := by decide +kernel
theorem dX2_firstEnd_3 : decode cX2_firstEnd 3 = .ok (.istore_n 2, 1) := by decide +kernel
theorem dX2_firstEnd_4 : decode cX2_firstEnd 4 = .ok (.iload_n 2, 1) := by decide +kernel
theorem dX2_firstEnd_5 : decode cX2_firstEnd 5 = .ok (.aload_n 0, 1) := by decide +kernel
theorem dX2_firstEnd_6 : decode cX2_firstEnd 6 = .ok (.getfield 25, 3) := by decide +kernel
theorem dX2_firstEnd_9 : decode cX2_firstEnd 9 = .ok (.if_icmp .ge 50, 3) := by decide +kernel
theorem dX2_firstEnd_12 : decode cX2_firstEnd 12 = .ok (.aload_n 0, 1) := by decide +kernel
theorem dX2_firstEnd_13 : decode cX2_firstEnd 13 = .ok (.getfield 21, 3) := by decide +kernel
theorem dX2_firstEnd_16 : decode cX2_firstEnd 16 = .ok (.iload_n 2, 1) := by decide +kernel
theorem dX2_firstEnd_17 : decode cX2_firstEnd 17 = .ok (.baload, 1) := by decide +kernel
theorem dX2_firstEnd_18 : decode cX2_firstEnd 18 = .ok (.ifCond .eq 35, 3) := by decide +kernel
theorem dX2_firstEnd_21 : decode cX2_firstEnd 21 = .ok (.aload_n 0, 1) := by decide +kernel
theorem dX2_firstEnd_22 : decode cX2_firstEnd 22 = .ok (.getfield 15, 3) := by decide +kernel
theorem dX2_firstEnd_25 : decode cX2_firstEnd 25 = .ok (.iload_n 2, 1) := by decide +kernel
theorem dX2_firstEnd_26 : decode cX2_firstEnd 26 = .ok (.iaload, 1) := by decide +kernel
theorem dX2_firstEnd_27 : decode cX2_firstEnd 27 = .ok (.iconst (-1), 1) := by decide +kernel
theorem dX2_firstEnd_28 : decode cX2_firstEnd 28 = .ok (.if_icmp .eq 25, 3) := by decide +kernel
theorem dX2_firstEnd_31 : decode cX2_firstEnd 31 = .ok (.iload_n 1, 1) := by decide +kernel
theorem dX2_firstEnd_32 : decode cX2_firstEnd 32 = .ok (.iconst (-1), 1) := by decide +kernel
theorem dX2_firstEnd_33 : decode cX2_firstEnd 33 = .ok (.if_icmp .eq 13, 3) := by decide +kernel
theorem dX2_firstEnd_36 : decode cX2_firstEnd 36 = .ok (.aload_n 0, 1) := by decide +kernel
theorem dX2_firstEnd_37 : decode cX2_firstEnd 37 = .ok (.getfield 15, 3) := by decide +kernel
theorem dX2_firstEnd_40 : decode cX2_firstEnd 40 = .ok (.iload_n 2, 1) := by decide +kernel
theorem dX2_firstEnd_41 : decode cX2_firstEnd 41 = .ok (.iaload, 1) := by decide +kernel
theorem dX2_firstEnd_42 : decode cX2_firstEnd 42 = .ok (.iload_n 1, 1) := by decide +kernel
theorem dX2_firstEnd_43 : decode cX2_firstEnd 43 = .ok (.if_icmp .ge 10, 3) := by decide +kernel
theorem dX2_firstEnd_46 : decode cX2_firstEnd 46 = .ok (.aload_n 0, 1) := by decide +kernel
theorem dX2_firstEnd_47 : decode cX2_firstEnd 47 = .ok (.getfield 15, 3) := by decide +kernel
theorem dX2_firstEnd_50 : decode cX2_firstEnd 50 = .ok (.iload_n 2, 1) := by decide +kernel
theorem dX2_firstEnd_51 : decode cX2_firstEnd 51 = .ok (.iaload, 1) := by decide +kernel
theorem dX2_firstEnd_52 : decode cX2_firstEnd 52 = .ok (.istore_n 1, 1) := by decide +kernel
theorem dX2_firstEnd_53 : decode cX2_firstEnd 53 = .ok (.iinc 2 1, 3) := by decide +kernel
theorem dX2_firstEnd_56 : decode cX2_firstEnd 56 = .ok (.goto (-52), 3) := by decide +kernel
theorem dX2_firstEnd_59 : decode cX2_firstEnd 59 = .ok (.iload_n 1, 1) := by decide +kernel
theorem dX2_firstEnd_60 : decode cX2_firstEnd 60 = .ok (.ireturn, 1) := by decide +kernel
theorem dX3_init_0 : decode cX3_init 0 = .ok (.aload_n 0, 1) := by decide +kernel
theorem dX3_init_1 : decode cX3_init 1 = .ok (.invokespecial 3, 3) := by decide +kernel
theorem dX3_init_4 : decode cX3_init 4 = .ok (.aload_n 0, 1) := by decide +kernel
theorem dX3_init_5 : decode cX3_init 5 = .ok (.bipush 6, 2) := by decide +kernel
theorem dX3_init_7 : decode cX3_init 7 = .ok (.newarray .int, 2) := by decide +kernel
theorem dX3_init_9 : decode cX3_init 9 = .ok (.putfield 9, 3) := by decide +kernel
theorem dX3_init_12 : decode cX3_init 12 = .ok (.aload_n 0, 1) := by decide +kernel
theorem dX3_init_13 : decode cX3_init 13 = .ok (.bipush 6, 2) := by decide +kernel
theorem dX3_init_15 : decode cX3_init 15 = .ok (.newarray .int, 2) := by decide +kernel
theorem dX3_init_17 : decode cX3_init 17 = .ok (.putfield 15, 3) := by decide +kernel
theorem dX3_init_20 : decode cX3_init 20 = .ok (.aload_n 0, 1) := by decide +kernel
theorem dX3_init_21 : decode cX3_init 21 = .ok (.bipush 6, 2) := by decide +kernel
theorem dX3_init_23 : decode cX3_init 23 = .ok (.newarray .int, 2) := by decide +kernel
theorem dX3_init_25 : decode cX3_init 25 = .ok (.putfield 18, 3) := by decide +kernel
theorem dX3_init_28 : decode cX3_init 28 = .ok (.aload_n 0, 1) := by decide +kernel
theorem dX3_init_29 : decode cX3_init 29 = .ok (.iconst 0, 1) := by decide +kernel
theorem dX3_init_30 : decode cX3_init 30 = .ok (.putfield 21, 3) := by decide +kernel
theorem dX3_init_33 : decode cX3_init 33 = .ok (.return_, 1) := by decide +kernel
theorem dX3_count_0 : decode cX3_count 0 = .ok (.aload_n 0, 1) := by decide +kernel
theorem dX3_count_1 : decode cX3_count 1 = .ok (.getfield 21, 3) := by decide +kernel
theorem dX3_count_4 : decode cX3_count 4 = .ok (.ireturn, 1) := by decide +kernel
theorem dX3_has_0 : decode cX3_has 0 = .ok (.iload_n 1, 1) := by decide +kernel
theorem dX3_has_1 : decode cX3_has 1 = .ok (.ifCond .lt 15, 3) := by decide +kernel
theorem dX3_has_4 : decode cX3_has 4 = .ok (.iload_n 1, 1) := by decide +kernel
theorem dX3_has_5 : decode cX3_has 5 = .ok (.aload_n 0, 1) := by decide +kernel
theorem dX3_has_6 : decode cX3_has 6 = .ok (.getfield 21, 3) := by decide +kernel
theorem dX3_has_9 : decode cX3_has 9 = .ok (.if_icmp .ge 7, 3) := by decide +kernel
theorem dX3_has_12 : decode cX3_has 12 = .ok (.iconst 1, 1) := by decide +kernel
theorem dX3_has_13 : decode cX3_has 13 = .ok (.goto 4, 3) := by decide +kernel
theorem dX3_has_16 : decode cX3_has 16 = .ok (.iconst 0, 1) := by decide +kernel
theorem dX3_has_17 : decode cX3_has 17 = .ok (.ireturn, 1) := by decide +kernel
theorem dX3_find_0 : decode cX3_find 0 = .ok (.iconst 0, 1) := by decide +kernel
theorem dX3_find_1 : decode cX3_find 1 = .ok (.istore_n 2, 1) := by decide +kernel
theorem dX3_find_2 : decode cX3_find 2 = .ok (.iload_n 2, 1) := by decide +kernel
theorem dX3_find_3 : decode cX3_find 3 = .ok (.aload_n 0, 1) := by decide +kernel
theorem dX3_find_4 : decode cX3_find 4 = .ok (.getfield 21, 3) := by decide +kernel
theorem dX3_find_7 : decode cX3_find 7 = .ok (.if_icmp .ge 21, 3) := by decide +kernel
theorem dX3_find_10 : decode cX3_find 10 = .ok (.aload_n 0, 1) := by decide +kernel
theorem dX3_find_11 : decode cX3_find 11 = .ok (.getfield 9, 3) := by decide +kernel
theorem dX3_find_14 : decode cX3_find 14 = .ok (.iload_n 2, 1) := by decide +kernel
theorem dX3_find_15 : decode cX3_find 15 = .ok (.iaload, 1) := by decide +kernel
theorem dX3_find_16 : decode cX3_find 16 = .ok (.iload_n 1, 1) := by decide +kernel
theorem dX3_find_17 : decode cX3_find 17 = .ok (.if_icmp .ne 5, 3) := by decide +kernel
theorem dX3_find_20 : decode cX3_find 20 = .ok (.iload_n 2, 1) := by decide +kernel
theorem dX3_find_21 : decode cX3_find 21 = .ok (.ireturn, 1) := by decide +kernel
theorem dX3_find_22 : decode cX3_find 22 = .ok (.iinc 2 1, 3) := by decide +kernel
theorem dX3_find_25 : decode cX3_find 25 = .ok (.goto (-23), 3) := by decide +kernel
theorem dX3_find_28 : decode cX3_find 28 = .ok (.iconst (-1), 1) := by decide +kernel
theorem dX3_find_29 : decode cX3_find 29 = .ok (.ireturn, 1) := by decide +kernel
set_option maxRecDepth 20000 in
theorem ggX3_put_X3_find : GoodIn wsX3_put wsX3_find := goodIn_r _ [9, 1, 2, 10, 11, 12, 13] (by decide +kernel) (by decide +kernel)
set_option maxRecDepth 20000 in
theorem gX3_put_X3_find : GoodIn wsX3_put (wsV RX3 25 RX3 yX3_find wsX3_find) := goodIn_app (goodIn_of _ (by decide +kernel)) ggX3_put_X3_find
theorem dX3_put_0 : decode cX3_put 0 = .ok (.aload_n 0, 1) := by decide +kernel
theorem dX3_put_1 : decode cX3_put 1 = .ok (.iload_n 1, 1) := by decide +kernel
theorem dX3_put_2 : decode cX3_put 2 = .ok (.invokevirtual 25, 3) := by decide +kernel
theorem dX3_put_5 : decode cX3_put 5 = .ok (.istore 4, 2) := by decide +kernel
theorem dX3_put_7 : decode cX3_put 7 = .ok (.iload 4, 2) := by decide +kernel
theorem dX3_put_9 : decode cX3_put 9 = .ok (.iconst (-1), 1) := by decide +kernel
theorem dX3_put_10 : decode cX3_put 10 = .ok (.if_icmp .ne 28, 3) := by decide +kernel
theorem dX3_put_13 : decode cX3_put 13 = .ok (.aload_n 0, 1) := by decide +kernel
theorem dX3_put_14 : decode cX3_put 14 = .ok (.getfield 21, 3) := by decide +kernel
theorem dX3_put_17 : decode cX3_put 17 = .ok (.bipush 6, 2) := by decide +kernel
theorem dX3_put_19 : decode cX3_put 19 = .ok (.if_icmp .ge 19, 3) := by decide +kernel
theorem dX3_put_22 : decode cX3_put 22 = .ok (.aload_n 0, 1) := by decide +kernel
theorem dX3_put_23 : decode cX3_put 23 = .ok (.getfield 21, 3) := by decide +kernel
theorem dX3_put_26 : decode cX3_put 26 = .ok (.istore 4, 2) := by decide +kernel
theorem dX3_put_28 : decode cX3_put 28 = .ok (.aload_n 0, 1) := by decide +kernel
theorem dX3_put_29 : decode cX3_put 29 = .ok (.dup, 1) := by decide +kernel
theorem dX3_put_30 : decode cX3_put 30 = .ok (.getfield 21, 3) := by decide +kernel
theorem dX3_put_33 : decode cX3_put 33 = .ok (.iconst 1, 1) := by decide +kernel
theorem dX3_put_34 : decode cX3_put 34 = .ok (.iadd, 1) := by decide +kernel
theorem dX3_put_35 : decode cX3_put 35 = .ok (.putfield 21, 3) := by decide +kernel
theorem dX3_put_38 : decode cX3_put 38 = .ok (.iload 4, 2) := by decide +kernel
theorem dX3_put_40 : decode cX3_put 40 = .ok (.iconst (-1), 1) := by decide +kernel
theorem dX3_put_41 : decode cX3_put 41 = .ok (.if_icmp .eq 27, 3) := by decide +kernel
theorem dX3_put_44 : decode cX3_put 44 = .ok (.aload_n 0, 1) := by decide +kernel
theorem dX3_put_45 : decode cX3_put 45 = .ok (.getfield 9, 3) := by decide +kernel
theorem dX3_put_48 : decode cX3_put 48 = .ok (.iload 4, 2) := by decide +kernel
theorem dX3_put_50 : decode cX3_put 50 = .ok (.iload_n 1, 1) := by decide +kernel
theorem dX3_put_51 : decode cX3_put 51 = .ok (.iastore, 1) := by decide +kernel
theorem dX3_put_52 : decode cX3_put 52 = .ok (.aload_n 0, 1) := by decide +kernel
theorem dX3_put_53 : decode cX3_put 53 = .ok (.getfield 15, 3) := by decide +kernel
theorem dX3_put_56 : decode cX3_put 56 = .ok (.iload 4, 2) := by decide +kernel
theorem dX3_put_58 : decode cX3_put 58 = .ok (.iload_n 2, 1) := by decide +kernel
theorem dX3_put_59 : decode cX3_put 59 = .ok (.iastore, 1) := by decide +kernel
theorem dX3_put_60 : decode cX3_put 60 = .ok (.aload_n 0, 1) := by decide +kernel
theorem dX3_put_61 : decode cX3_put 61 = .ok (.getfield 18, 3) := by decide +kernel
theorem dX3_put_64 : decode cX3_put 64 = .ok (.iload 4, 2) := by decide +kernel
theorem dX3_put_66 : decode cX3_put 66 = .ok (.iload_n 3, 1) := by decide +kernel
theorem dX3_put_67 : decode cX3_put 67 = .ok (.iastore, 1) := by decide +kernel
theorem dX3_put_68 : decode cX3_put 68 = .ok (.return_, 1) := by decide +kernel
set_option maxRecDepth 20000 in
theorem ggX3_nearest_X4_isBelow : GoodIn wsX3_nearest wsX4_isBelow := goodIn_r _ [6, 7, 8, 5, 9, 10, 11, 12] (by decide +kernel) (by decide +kernel)
set_option maxRecDepth 20000 in
theorem gX3_nearest_X4_isBelow : GoodIn wsX3_nearest (va_wsS RX3 29 yX4_isBelow wsX4_isBelow) := goodIn_app (goodIn_of _ (by decide +kernel)) ggX3_nearest_X4_isBelow
theorem dX3_nearest_0 : decode cX3_nearest 0 = .ok (.iconst (-1), 1) := by decide +kernel
theorem dX3_nearest_1 : decode cX3_nearest 1 = .ok (.istore_n 2, 1) := by decide +kernel
theorem dX3_nearest_2 : decode cX3_nearest 2 = .ok (.iconst 0, 1) := by decide +kernel
theorem dX3_nearest_3 : decode cX3_nearest 3 = .ok (.istore_n 3, 1) := by decide +kernel
theorem dX3_nearest_4 : decode cX3_nearest 4 = .ok (.iload_n 3, 1) := by decide +kernel
theorem dX3_nearest_5 : decode cX3_nearest 5 = .ok (.aload_n 0, 1) := by decide +kernel
theorem dX3_nearest_6 : decode cX3_nearest 6 = .ok (.getfield 21, 3) := by decide +kernel
theorem dX3_nearest_9 : decode cX3_nearest 9 = .ok (.if_icmp .ge 44, 3) := by decide +kernel
theorem dX3_nearest_12 : decode cX3_nearest 12 = .ok (.iload_n 1, 1) := by decide +kernel
theorem dX3_nearest_13 : decode cX3_nearest 13 = .ok (.aload_n 0, 1) := by decide +kernel
theorem dX3_nearest_14 : decode cX3_nearest 14 = .ok (.getfield 9, 3) := by decide +kernel
theorem dX3_nearest_17 : decode cX3_nearest 17 = .ok (.iload_n 3, 1) := by decide +kernel
theorem dX3_nearest_18 : decode cX3_nearest 18 = .ok (.iaload, 1) := by decide +kernel
theorem dX3_nearest_19 : decode cX3_nearest 19 = .ok (.invokestatic 29, 3) := by decide +kernel
theorem dX3_nearest_22 : decode cX3_nearest 22 = .ok (.ifCond .eq 25, 3) := by decide +kernel
theorem dX3_nearest_25 : decode cX3_nearest 25 = .ok (.iload_n 2, 1) := by decide +kernel
theorem dX3_nearest_26 : decode cX3_nearest 26 = .ok (.iconst (-1), 1) := by decide +kernel
theorem dX3_nearest_27 : decode cX3_nearest 27 = .ok (.if_icmp .eq 18, 3) := by decide +kernel
theorem dX3_nearest_30 : decode cX3_nearest 30 = .ok (.aload_n 0, 1) := by decide +kernel
theorem dX3_nearest_31 : decode cX3_nearest 31 = .ok (.getfield 9, 3) := by decide +kernel
theorem dX3_nearest_34 : decode cX3_nearest 34 = .ok (.iload_n 3, 1) := by decide +kernel
theorem dX3_nearest_35 : decode cX3_nearest 35 = .ok (.iaload, 1) := by decide +kernel
theorem dX3_nearest_36 : decode cX3_nearest 36 = .ok (.aload_n 0, 1) := by decide +kernel
theorem dX3_nearest_37 : decode cX3_nearest 37 = .ok (.getfield 9, 3) := by decide +kernel
theorem dX3_nearest_40 : decode cX3_nearest 40 = .ok (.iload_n 2, 1) := by decide +kernel
theorem dX3_nearest_41 : decode cX3_nearest 41 = .ok (.iaload, 1) := by decide +kernel
theorem dX3_nearest_42 : decode cX3_nearest 42 = .ok (.if_icmp .le 5, 3) := by decide +kernel
theorem dX3_nearest_45 : decode cX3_nearest 45 = .ok (.iload_n 3, 1) := by decide +kernel
theorem dX3_nearest_46 : decode cX3_nearest 46 = .ok (.istore_n 2, 1) := by decide +kernel
theorem dX3_nearest_47 : decode cX3_nearest 47 = .ok (.iinc 3 1, 3) := by decide +kernel
theorem dX3_nearest_50 : decode cX3_nearest 50 = .ok (.goto (-46), 3) := by decide +kernel
theorem dX3_nearest_53 : decode cX3_nearest 53 = .ok (.iload_n 2, 1) := by decide +kernel
theorem dX3_nearest_54 : decode cX3_nearest 54 = .ok (.ireturn, 1) := by decide +kernel
set_option maxRecDepth 20000 in
theorem ggX3_minutesAt_X3_has : GoodIn wsX3_minutesAt wsX3_has := goodIn_r _ [6, 7, 8, 9, 10, 11] (by decide +kernel) (by decide +kernel)
set_option maxRecDepth 20000 in
theorem gX3_minutesAt_X3_has : GoodIn wsX3_minutesAt (wsV RX3 35 RX3 yX3_has wsX3_has) := goodIn_app (goodIn_of _ (by decide +kernel)) ggX3_minutesAt_X3_has
theorem dX3_minutesAt_0 : decode cX3_minutesAt 0 = .ok (.aload_n 0, 1) := by decide +kernel
theorem dX3_minutesAt_1 : decode cX3_minutesAt 1 = .ok (.iload_n 1, 1) := by decide +kernel
theorem dX3_minutesAt_2 : decode cX3_minutesAt 2 = .ok (.invokevirtual 35, 3) := by decide +kernel
theorem dX3_minutesAt_5 : decode cX3_minutesAt 5 = .ok (.ifCond .eq 12, 3) := by decide +kernel
theorem dX3_minutesAt_8 : decode cX3_minutesAt 8 = .ok (.aload_n 0, 1) := by decide +kernel
theorem dX3_minutesAt_9 : decode cX3_minutesAt 9 = .ok (.getfield 15, 3) := by decide +kernel
theorem dX3_minutesAt_12 : decode cX3_minutesAt 12 = .ok (.iload_n 1, 1) := by decide +kernel
theorem dX3_minutesAt_13 : decode cX3_minutesAt 13 = .ok (.iaload, 1) := by decide +kernel
theorem dX3_minutesAt_14 : decode cX3_minutesAt 14 = .ok (.goto 4, 3) := by decide +kernel
theorem dX3_minutesAt_17 : decode cX3_minutesAt 17 = .ok (.iconst 0, 1) := by decide +kernel
theorem dX3_minutesAt_18 : decode cX3_minutesAt 18 = .ok (.ireturn, 1) := by decide +kernel
set_option maxRecDepth 20000 in
theorem ggX3_boundAt_X3_has : GoodIn wsX3_boundAt wsX3_has := goodIn_r _ [6, 7, 8, 9, 10, 11] (by decide +kernel) (by decide +kernel)
set_option maxRecDepth 20000 in
theorem gX3_boundAt_X3_has : GoodIn wsX3_boundAt (wsV RX3 35 RX3 yX3_has wsX3_has) := goodIn_app (goodIn_of _ (by decide +kernel)) ggX3_boundAt_X3_has
theorem dX3_boundAt_0 : decode cX3_boundAt 0 = .ok (.aload_n 0, 1) := by decide +kernel
theorem dX3_boundAt_1 : decode cX3_boundAt 1 = .ok (.iload_n 1, 1) := by decide +kernel
theorem dX3_boundAt_2 : decode cX3_boundAt 2 = .ok (.invokevirtual 35, 3) := by decide +kernel
theorem dX3_boundAt_5 : decode cX3_boundAt 5 = .ok (.ifCond .eq 12, 3) := by decide +kernel
theorem dX3_boundAt_8 : decode cX3_boundAt 8 = .ok (.aload_n 0, 1) := by decide +kernel
theorem dX3_boundAt_9 : decode cX3_boundAt 9 = .ok (.getfield 18, 3) := by decide +kernel
theorem dX3_boundAt_12 : decode cX3_boundAt 12 = .ok (.iload_n 1, 1) := by decide +kernel
theorem dX3_boundAt_13 : decode cX3_boundAt 13 = .ok (.iaload, 1) := by decide +kernel
theorem dX3_boundAt_14 : decode cX3_boundAt 14 = .ok (.goto 4, 3) := by decide +kernel
theorem dX3_boundAt_17 : decode cX3_boundAt 17 = .ok (.iconst 0, 1) := by decide +kernel
theorem dX3_boundAt_18 : decode cX3_boundAt 18 = .ok (.ireturn, 1) := by decide +kernel
set_option maxRecDepth 20000 in
theorem ggX4_isPath_X4_hasDigits : GoodIn wsX4_isPath wsX4_hasDigits := goodIn_r _ [4, 5] (by decide +kernel) (by decide +kernel)
set_option maxRecDepth 20000 in
theorem gX4_isPath_X4_hasDigits : GoodIn wsX4_isPath (va_wsS RX4 9 yX4_hasDigits wsX4_hasDigits) := goodIn_app (goodIn_of _ (by decide +kernel)) ggX4_isPath_X4_hasDigits
theorem dX4_isPath_0 : decode cX4_isPath 0 = .ok (.iload_n 0, 1) := by decide +kernel
theorem dX4_isPath_1 : decode cX4_isPath 1 = .ok (.bipush 8, 2) := by decide +kernel
theorem dX4_isPath_3 : decode cX4_isPath 3 = .ok (.invokestatic 9, 3) := by decide +kernel
theorem dX4_isPath_6 : decode cX4_isPath 6 = .ok (.ireturn, 1) := by decide +kernel
set_option maxRecDepth 20000 in
theorem ggX4_isPattern_X4_hasDigits : GoodIn wsX4_isPattern wsX4_hasDigits := goodIn_r _ [4, 5] (by decide +kernel) (by decide +kernel)
set_option maxRecDepth 20000 in
theorem gX4_isPattern_X4_hasDigits : GoodIn wsX4_isPattern (va_wsS RX4 9 yX4_hasDigits wsX4_hasDigits) := goodIn_app (goodIn_of _ (by decide +kernel)) ggX4_isPattern_X4_hasDigits
theorem dX4_isPattern_0 : decode cX4_isPattern 0 = .ok (.iload_n 0, 1) := by decide +kernel
theorem dX4_isPattern_1 : decode cX4_isPattern 1 = .ok (.bipush 9, 2) := by decide +kernel
theorem dX4_isPattern_3 : decode cX4_isPattern 3 = .ok (.invokestatic 9, 3) := by decide +kernel
theorem dX4_isPattern_6 : decode cX4_isPattern 6 = .ok (.ireturn, 1) := by decide +kernel
theorem dX4_hasDigits_0 : decode cX4_hasDigits 0 = .ok (.iload_n 0, 1) := by decide +kernel
theorem dX4_hasDigits_1 : decode cX4_hasDigits 1 = .ok (.iconst 1, 1) := by decide +kernel
theorem dX4_hasDigits_2 : decode cX4_hasDigits 2 = .ok (.if_icmp .lt 9, 3) := by decide +kernel
theorem dX4_hasDigits_5 : decode cX4_hasDigits 5 = .ok (.iload_n 0, 1) := by decide +kernel
theorem dX4_hasDigits_6 : decode cX4_hasDigits 6 = .ok (.ldc 15, 2) := by decide +kernel
theorem dX4_hasDigits_8 : decode cX4_hasDigits 8 = .ok (.if_icmp .le 5, 3) := by decide +kernel
theorem dX4_hasDigits_11 : decode cX4_hasDigits 11 = .ok (.iconst 0, 1) := by decide +kernel
theorem dX4_hasDigits_12 : decode cX4_hasDigits 12 = .ok (.ireturn, 1) := by decide +kernel
theorem dX4_hasDigits_13 : decode cX4_hasDigits 13 = .ok (.iload_n 0, 1) := by decide +kernel
theorem dX4_hasDigits_14 : decode cX4_hasDigits 14 = .ok (.istore_n 2, 1) := by decide +kernel
theorem dX4_hasDigits_15 : decode cX4_hasDigits 15 = .ok (.iconst 0, 1) := by decide +kernel
theorem dX4_hasDigits_16 : decode cX4_hasDigits 16 = .ok (.istore_n 3, 1) := by decide +kernel
theorem dX4_hasDigits_17 : decode cX4_hasDigits 17 = .ok (.iload_n 3, 1) := by decide +kernel
theorem dX4_hasDigits_18 : decode cX4_hasDigits 18 = .ok (.bipush 6, 2) := by decide +kernel
theorem dX4_hasDigits_20 : decode cX4_hasDigits 20 = .ok (.if_icmp .ge 38, 3) := by decide +kernel
theorem dX4_hasDigits_23 : decode cX4_hasDigits 23 = .ok (.iload_n 2, 1) := by decide +kernel
theorem dX4_hasDigits_24 : decode cX4_hasDigits 24 = .ok (.ifCond .le 34, 3) := by decide +kernel
theorem dX4_hasDigits_27 : decode cX4_hasDigits 27 = .ok (.iload_n 2, 1) := by decide +kernel
theorem dX4_hasDigits_28 : decode cX4_hasDigits 28 = .ok (.bipush 10, 2) := by decide +kernel
theorem dX4_hasDigits_30 : decode cX4_hasDigits 30 = .ok (.irem, 1) := by decide +kernel
theorem dX4_hasDigits_31 : decode cX4_hasDigits 31 = .ok (.istore 4, 2) := by decide +kernel
theorem dX4_hasDigits_33 : decode cX4_hasDigits 33 = .ok (.iload 4, 2) := by decide +kernel
theorem dX4_hasDigits_35 : decode cX4_hasDigits 35 = .ok (.iconst 1, 1) := by decide +kernel
theorem dX4_hasDigits_36 : decode cX4_hasDigits 36 = .ok (.if_icmp .lt 9, 3) := by decide +kernel
theorem dX4_hasDigits_39 : decode cX4_hasDigits 39 = .ok (.iload 4, 2) := by decide +kernel
theorem dX4_hasDigits_41 : decode cX4_hasDigits 41 = .ok (.iload_n 1, 1) := by decide +kernel
theorem dX4_hasDigits_42 : decode cX4_hasDigits 42 = .ok (.if_icmp .le 5, 3) := by decide +kernel
theorem dX4_hasDigits_45 : decode cX4_hasDigits 45 = .ok (.iconst 0, 1) := by decide +kernel
theorem dX4_hasDigits_46 : decode cX4_hasDigits 46 = .ok (.ireturn, 1) := by decide +kernel
theorem dX4_hasDigits_47 : decode cX4_hasDigits 47 = .ok (.iload_n 2, 1) := by decide +kernel
theorem dX4_hasDigits_48 : decode cX4_hasDigits 48 = .ok (.bipush 10, 2) := by decide +kernel
theorem dX4_hasDigits_50 : decode cX4_hasDigits 50 = .ok (.idiv, 1) := by decide +kernel
theorem dX4_hasDigits_51 : decode cX4_hasDigits 51 = .ok (.istore_n 2, 1) := by decide +kernel
theorem dX4_hasDigits_52 : decode cX4_hasDigits 52 = .ok (.iinc 3 1, 3) := by decide +kernel
theorem dX4_hasDigits_55 : decode cX4_hasDigits 55 = .ok (.goto (-38), 3) := by decide +kernel
theorem dX4_hasDigits_58 : decode cX4_hasDigits 58 = .ok (.iconst 1, 1) := by decide +kernel
theorem dX4_hasDigits_59 : decode cX4_hasDigits 59 = .ok (.ireturn, 1) := by decide +kernel
theorem dX4_length_0 : decode cX4_length 0 = .ok (.iconst 0, 1) := by decide +kernel
theorem dX4_length_1 : decode cX4_length 1 = .ok (.istore_n 1, 1) := by decide +kernel
theorem dX4_length_2 : decode cX4_length 2 = .ok (.iload_n 0, 1) := by decide +kernel
theorem dX4_length_3 : decode cX4_length 3 = .ok (.istore_n 2, 1) := by decide +kernel
theorem dX4_length_4 : decode cX4_length 4 = .ok (.iconst 0, 1) := by decide +kernel
theorem dX4_length_5 : decode cX4_length 5 = .ok (.istore_n 3, 1) := by decide +kernel
theorem dX4_length_6 : decode cX4_length 6 = .ok (.iload_n 3, 1) := by decide +kernel
theorem dX4_length_7 : decode cX4_length 7 = .ok (.bipush 6, 2) := by decide +kernel
theorem dX4_length_9 : decode cX4_length 9 = .ok (.if_icmp .ge 21, 3) := by decide +kernel
theorem dX4_length_12 : decode cX4_length 12 = .ok (.iload_n 2, 1) := by decide +kernel
theorem dX4_length_13 : decode cX4_length 13 = .ok (.ifCond .le 17, 3) := by decide +kernel
theorem dX4_length_16 : decode cX4_length 16 = .ok (.iinc 1 1, 3) := by decide +kernel
theorem dX4_length_19 : decode cX4_length 19 = .ok (.iload_n 2, 1) := by decide +kernel
theorem dX4_length_20 : decode cX4_length 20 = .ok (.bipush 10, 2) := by decide +kernel
theorem dX4_length_22 : decode cX4_length 22 = .ok (.idiv, 1) := by decide +kernel
theorem dX4_length_23 : decode cX4_length 23 = .ok (.istore_n 2, 1) := by decide +kernel
theorem dX4_length_24 : decode cX4_length 24 = .ok (.iinc 3 1, 3) := by decide +kernel
theorem dX4_length_27 : decode cX4_length 27 = .ok (.goto (-21), 3) := by decide +kernel
theorem dX4_length_30 : decode cX4_length 30 = .ok (.iload_n 1, 1) := by decide +kernel
theorem dX4_length_31 : decode cX4_length 31 = .ok (.ireturn, 1) := by decide +kernel
theorem dX4_withoutLast_0 : decode cX4_withoutLast 0 = .ok (.iload_n 0, 1) := by decide +kernel
theorem dX4_withoutLast_1 : decode cX4_withoutLast 1 = .ok (.istore_n 2, 1) := by decide +kernel
theorem dX4_withoutLast_2 : decode cX4_withoutLast 2 = .ok (.iconst 0, 1) := by decide +kernel
theorem dX4_withoutLast_3 : decode cX4_withoutLast 3 = .ok (.istore_n 3, 1) := by decide +kernel
theorem dX4_withoutLast_4 : decode cX4_withoutLast 4 = .ok (.iload_n 3, 1) := by decide +kernel
theorem dX4_withoutLast_5 : decode cX4_withoutLast 5 = .ok (.iload_n 1, 1) := by decide +kernel
theorem dX4_withoutLast_6 : decode cX4_withoutLast 6 = .ok (.if_icmp .ge 14, 3) := by decide +kernel
theorem dX4_withoutLast_9 : decode cX4_withoutLast 9 = .ok (.iload_n 2, 1) := by decide +kernel
theorem dX4_withoutLast_10 : decode cX4_withoutLast 10 = .ok (.bipush 10, 2) := by decide +kernel
theorem dX4_withoutLast_12 : decode cX4_withoutLast 12 = .ok (.idiv, 1) := by decide +kernel
theorem dX4_withoutLast_13 : decode cX4_withoutLast 13 = .ok (.istore_n 2, 1) := by decide +kernel
theorem dX4_withoutLast_14 : decode cX4_withoutLast 14 = .ok (.iinc 3 1, 3) := by decide +kernel
theorem dX4_withoutLast_17 : decode cX4_withoutLast 17 = .ok (.goto (-13), 3) := by decide +kernel
theorem dX4_withoutLast_20 : decode cX4_withoutLast 20 = .ok (.iload_n 2, 1) := by decide +kernel
theorem dX4_withoutLast_21 : decode cX4_withoutLast 21 = .ok (.ireturn, 1) := by decide +kernel
set_option maxRecDepth 20000 in
theorem ggX4_isBelow_X4_length : GoodIn wsX4_isBelow wsX4_length := goodIn_r _ [4] (by decide +kernel) (by decide +kernel)
set_option maxRecDepth 20000 in
theorem gX4_isBelow_X4_length : GoodIn wsX4_isBelow (va_wsS RX4 16 yX4_length wsX4_length) := goodIn_app (goodIn_of _ (by decide +kernel)) ggX4_isBelow_X4_length
set_option maxRecDepth 20000 in
theorem ggX4_isBelow_X4_withoutLast : GoodIn wsX4_isBelow wsX4_withoutLast := goodIn_r _ [7] (by decide +kernel) (by decide +kernel)
set_option maxRecDepth 20000 in
theorem gX4_isBelow_X4_withoutLast : GoodIn wsX4_isBelow (va_wsS RX4 20 yX4_withoutLast wsX4_withoutLast) := goodIn_app (goodIn_of _ (by decide +kernel)) ggX4_isBelow_X4_withoutLast
theorem dX4_isBelow_0 : decode cX4_isBelow 0 = .ok (.iload_n 0, 1) := by decide +kernel
theorem dX4_isBelow_1 : decode cX4_isBelow 1 = .ok (.invokestatic 16, 3) := by decide +kernel
theorem dX4_isBelow_4 : decode cX4_isBelow 4 = .ok (.iload_n 1, 1) := by decide +kernel
theorem dX4_isBelow_5 : decode cX4_isBelow 5 = .ok (.invokestatic 16, 3) := by decide +kernel
theorem dX4_isBelow_8 : decode cX4_isBelow 8 = .ok (.isub, 1) := by decide +kernel
theorem dX4_isBelow_9 : decode cX4_isBelow 9 = .ok (.istore_n 2, 1) := by decide +kernel
theorem dX4_isBelow_10 : decode cX4_isBelow 10 = .ok (.iload_n 2, 1) := by decide +kernel
theorem dX4_isBelow_11 : decode cX4_isBelow 11 = .ok (.ifCond .lt 16, 3) := by decide +kernel
theorem dX4_isBelow_14 : decode cX4_isBelow 14 = .ok (.iload_n 0, 1) := by decide +kernel
theorem dX4_isBelow_15 : decode cX4_isBelow 15 = .ok (.iload_n 2, 1) := by decide +kernel
theorem dX4_isBelow_16 : decode cX4_isBelow 16 = .ok (.invokestatic 20, 3) := by decide +kernel
theorem dX4_isBelow_19 : decode cX4_isBelow 19 = .ok (.iload_n 1, 1) := by decide +kernel
theorem dX4_isBelow_20 : decode cX4_isBelow 20 = .ok (.if_icmp .ne 7, 3) := by decide +kernel
theorem dX4_isBelow_23 : decode cX4_isBelow 23 = .ok (.iconst 1, 1) := by decide +kernel
theorem dX4_isBelow_24 : decode cX4_isBelow 24 = .ok (.goto 4, 3) := by decide +kernel
theorem dX4_isBelow_27 : decode cX4_isBelow 27 = .ok (.iconst 0, 1) := by decide +kernel
theorem dX4_isBelow_28 : decode cX4_isBelow 28 = .ok (.ireturn, 1) := by decide +kernel
set_option maxRecDepth 20000 in
theorem ggX4_fits_X4_length : GoodIn wsX4_fits wsX4_length := goodIn_r _ [4] (by decide +kernel) (by decide +kernel)
set_option maxRecDepth 20000 in
theorem gX4_fits_X4_length : GoodIn wsX4_fits (va_wsS RX4 16 yX4_length wsX4_length) := goodIn_app (goodIn_of _ (by decide +kernel)) ggX4_fits_X4_length
set_option maxRecDepth 20000 in
theorem ggX4_fits_X4_withoutLast : GoodIn wsX4_fits wsX4_withoutLast := goodIn_r _ [7] (by decide +kernel) (by decide +kernel)
set_option maxRecDepth 20000 in
theorem gX4_fits_X4_withoutLast : GoodIn wsX4_fits (va_wsS RX4 20 yX4_withoutLast wsX4_withoutLast) := goodIn_app (goodIn_of _ (by decide +kernel)) ggX4_fits_X4_withoutLast
theorem dX4_fits_0 : decode cX4_fits 0 = .ok (.iload_n 2, 1) := by decide +kernel
theorem dX4_fits_1 : decode cX4_fits 1 = .ok (.invokestatic 16, 3) := by decide +kernel
theorem dX4_fits_4 : decode cX4_fits 4 = .ok (.iload_n 0, 1) := by decide +kernel
theorem dX4_fits_5 : decode cX4_fits 5 = .ok (.invokestatic 16, 3) := by decide +kernel
theorem dX4_fits_8 : decode cX4_fits 8 = .ok (.isub, 1) := by decide +kernel
theorem dX4_fits_9 : decode cX4_fits 9 = .ok (.istore_n 3, 1) := by decide +kernel
theorem dX4_fits_10 : decode cX4_fits 10 = .ok (.iload_n 3, 1) := by decide +kernel
theorem dX4_fits_11 : decode cX4_fits 11 = .ok (.ifCond .lt 11, 3) := by decide +kernel
theorem dX4_fits_14 : decode cX4_fits 14 = .ok (.iload_n 3, 1) := by decide +kernel
theorem dX4_fits_15 : decode cX4_fits 15 = .ok (.ifCond .le 9, 3) := by decide +kernel
theorem dX4_fits_18 : decode cX4_fits 18 = .ok (.iload_n 1, 1) := by decide +kernel
theorem dX4_fits_19 : decode cX4_fits 19 = .ok (.ifCond .ne 5, 3) := by decide +kernel
theorem dX4_fits_22 : decode cX4_fits 22 = .ok (.iconst 0, 1) := by decide +kernel
theorem dX4_fits_23 : decode cX4_fits 23 = .ok (.ireturn, 1) := by decide +kernel
theorem dX4_fits_24 : decode cX4_fits 24 = .ok (.iload_n 0, 1) := by decide +kernel
theorem dX4_fits_25 : decode cX4_fits 25 = .ok (.istore 4, 2) := by decide +kernel
theorem dX4_fits_27 : decode cX4_fits 27 = .ok (.iload_n 2, 1) := by decide +kernel
theorem dX4_fits_28 : decode cX4_fits 28 = .ok (.iload_n 3, 1) := by decide +kernel
theorem dX4_fits_29 : decode cX4_fits 29 = .ok (.invokestatic 20, 3) := by decide +kernel
theorem dX4_fits_32 : decode cX4_fits 32 = .ok (.istore 5, 2) := by decide +kernel
theorem dX4_fits_34 : decode cX4_fits 34 = .ok (.iconst 0, 1) := by decide +kernel
theorem dX4_fits_35 : decode cX4_fits 35 = .ok (.istore 6, 2) := by decide +kernel
theorem dX4_fits_37 : decode cX4_fits 37 = .ok (.iload 6, 2) := by decide +kernel
theorem dX4_fits_39 : decode cX4_fits 39 = .ok (.bipush 6, 2) := by decide +kernel
theorem dX4_fits_41 : decode cX4_fits 41 = .ok (.if_icmp .ge 54, 3) := by decide +kernel
theorem dX4_fits_44 : decode cX4_fits 44 = .ok (.iload 4, 2) := by decide +kernel
theorem dX4_fits_46 : decode cX4_fits 46 = .ok (.ifCond .le 49, 3) := by decide +kernel
theorem dX4_fits_49 : decode cX4_fits 49 = .ok (.iload 4, 2) := by decide +kernel
theorem dX4_fits_51 : decode cX4_fits 51 = .ok (.bipush 10, 2) := by decide +kernel
theorem dX4_fits_53 : decode cX4_fits 53 = .ok (.irem, 1) := by decide +kernel
theorem dX4_fits_54 : decode cX4_fits 54 = .ok (.istore 7, 2) := by decide +kernel
theorem dX4_fits_56 : decode cX4_fits 56 = .ok (.iload 7, 2) := by decide +kernel
theorem dX4_fits_58 : decode cX4_fits 58 = .ok (.bipush 9, 2) := by decide +kernel
theorem dX4_fits_60 : decode cX4_fits 60 = .ok (.if_icmp .eq 15, 3) := by decide +kernel
theorem dX4_fits_63 : decode cX4_fits 63 = .ok (.iload 7, 2) := by decide +kernel
theorem dX4_fits_65 : decode cX4_fits 65 = .ok (.iload 5, 2) := by decide +kernel
theorem dX4_fits_67 : decode cX4_fits 67 = .ok (.bipush 10, 2) := by decide +kernel
theorem dX4_fits_69 : decode cX4_fits 69 = .ok (.irem, 1) := by decide +kernel
theorem dX4_fits_70 : decode cX4_fits 70 = .ok (.if_icmp .eq 5, 3) := by decide +kernel
theorem dX4_fits_73 : decode cX4_fits 73 = .ok (.iconst 0, 1) := by decide +kernel
theorem dX4_fits_74 : decode cX4_fits 74 = .ok (.ireturn, 1) := by decide +kernel
theorem dX4_fits_75 : decode cX4_fits 75 = .ok (.iload 4, 2) := by decide +kernel
theorem dX4_fits_77 : decode cX4_fits 77 = .ok (.bipush 10, 2) := by decide +kernel
theorem dX4_fits_79 : decode cX4_fits 79 = .ok (.idiv, 1) := by decide +kernel
theorem dX4_fits_80 : decode cX4_fits 80 = .ok (.istore 4, 2) := by decide +kernel
theorem dX4_fits_82 : decode cX4_fits 82 = .ok (.iload 5, 2) := by decide +kernel
theorem dX4_fits_84 : decode cX4_fits 84 = .ok (.bipush 10, 2) := by decide +kernel
theorem dX4_fits_86 : decode cX4_fits 86 = .ok (.idiv, 1) := by decide +kernel
theorem dX4_fits_87 : decode cX4_fits 87 = .ok (.istore 5, 2) := by decide +kernel
theorem dX4_fits_89 : decode cX4_fits 89 = .ok (.iinc 6 1, 3) := by decide +kernel
theorem dX4_fits_92 : decode cX4_fits 92 = .ok (.goto (-55), 3) := by decide +kernel
theorem dX4_fits_95 : decode cX4_fits 95 = .ok (.iconst 1, 1) := by decide +kernel
theorem dX4_fits_96 : decode cX4_fits 96 = .ok (.ireturn, 1) := by decide +kernel
theorem dX5_init_0 : decode cX5_init 0 = .ok (.aload_n 0, 1) := by decide +kernel
theorem dX5_init_1 : decode cX5_init 1 = .ok (.invokespecial 3, 3) := by decide +kernel
theorem dX5_init_4 : decode cX5_init 4 = .ok (.aload_n 0, 1) := by decide +kernel
theorem dX5_init_5 : decode cX5_init 5 = .ok (.bipush 8, 2) := by decide +kernel
theorem dX5_init_7 : decode cX5_init 7 = .ok (.newarray .int, 2) := by decide +kernel
theorem dX5_init_9 : decode cX5_init 9 = .ok (.putfield 9, 3) := by decide +kernel
theorem dX5_init_12 : decode cX5_init 12 = .ok (.aload_n 0, 1) := by decide +kernel
theorem dX5_init_13 : decode cX5_init 13 = .ok (.bipush 48, 2) := by decide +kernel
theorem dX5_init_15 : decode cX5_init 15 = .ok (.newarray .int, 2) := by decide +kernel
theorem dX5_init_17 : decode cX5_init 17 = .ok (.putfield 15, 3) := by decide +kernel
theorem dX5_init_20 : decode cX5_init 20 = .ok (.aload_n 0, 1) := by decide +kernel
theorem dX5_init_21 : decode cX5_init 21 = .ok (.bipush 48, 2) := by decide +kernel
theorem dX5_init_23 : decode cX5_init 23 = .ok (.newarray .boolean, 2) := by decide +kernel
theorem dX5_init_25 : decode cX5_init 25 = .ok (.putfield 18, 3) := by decide +kernel
theorem dX5_init_28 : decode cX5_init 28 = .ok (.aload_n 0, 1) := by decide +kernel
theorem dX5_init_29 : decode cX5_init 29 = .ok (.bipush 48, 2) := by decide +kernel
theorem dX5_init_31 : decode cX5_init 31 = .ok (.newarray .int, 2) := by decide +kernel
theorem dX5_init_33 : decode cX5_init 33 = .ok (.putfield 22, 3) := by decide +kernel
theorem dX5_init_36 : decode cX5_init 36 = .ok (.aload_n 0, 1) := by decide +kernel
theorem dX5_init_37 : decode cX5_init 37 = .ok (.iconst 0, 1) := by decide +kernel
theorem dX5_init_38 : decode cX5_init 38 = .ok (.putfield 25, 3) := by decide +kernel
theorem dX5_init_41 : decode cX5_init 41 = .ok (.return_, 1) := by decide +kernel
theorem dX5_count_0 : decode cX5_count 0 = .ok (.aload_n 0, 1) := by decide +kernel
theorem dX5_count_1 : decode cX5_count 1 = .ok (.getfield 25, 3) := by decide +kernel
theorem dX5_count_4 : decode cX5_count 4 = .ok (.ireturn, 1) := by decide +kernel
theorem dX5_has_0 : decode cX5_has 0 = .ok (.iload_n 1, 1) := by decide +kernel
theorem dX5_has_1 : decode cX5_has 1 = .ok (.ifCond .lt 15, 3) := by decide +kernel
theorem dX5_has_4 : decode cX5_has 4 = .ok (.iload_n 1, 1) := by decide +kernel
theorem dX5_has_5 : decode cX5_has 5 = .ok (.aload_n 0, 1) := by decide +kernel
theorem dX5_has_6 : decode cX5_has 6 = .ok (.getfield 25, 3) := by decide +kernel
theorem dX5_has_9 : decode cX5_has 9 = .ok (.if_icmp .ge 7, 3) := by decide +kernel
theorem dX5_has_12 : decode cX5_has 12 = .ok (.iconst 1, 1) := by decide +kernel
theorem dX5_has_13 : decode cX5_has 13 = .ok (.goto 4, 3) := by decide +kernel
theorem dX5_has_16 : decode cX5_has 16 = .ok (.iconst 0, 1) := by decide +kernel
theorem dX5_has_17 : decode cX5_has 17 = .ok (.ireturn, 1) := by decide +kernel
theorem dX5_hasAll_0 : decode cX5_hasAll 0 = .ok (.iload_n 1, 1) := by decide +kernel
theorem dX5_hasAll_1 : decode cX5_hasAll 1 = .ok (.ifCond .lt 17, 3) := by decide +kernel
theorem dX5_hasAll_4 : decode cX5_hasAll 4 = .ok (.iload_n 1, 1) := by decide +kernel
theorem dX5_hasAll_5 : decode cX5_hasAll 5 = .ok (.iconst 1, 1) := by decide +kernel
theorem dX5_hasAll_6 : decode cX5_hasAll 6 = .ok (.aload_n 0, 1) := by decide +kernel
theorem dX5_hasAll_7 : decode cX5_hasAll 7 = .ok (.getfield 25, 3) := by decide +kernel
theorem dX5_hasAll_10 : decode cX5_hasAll 10 = .ok (.ishl, 1) := by decide +kernel
theorem dX5_hasAll_11 : decode cX5_hasAll 11 = .ok (.if_icmp .ge 7, 3) := by decide +kernel
theorem dX5_hasAll_14 : decode cX5_hasAll 14 = .ok (.iconst 1, 1) := by decide +kernel
theorem dX5_hasAll_15 : decode cX5_hasAll 15 = .ok (.goto 4, 3) := by decide +kernel
theorem dX5_hasAll_18 : decode cX5_hasAll 18 = .ok (.iconst 0, 1) := by decide +kernel
theorem dX5_hasAll_19 : decode cX5_hasAll 19 = .ok (.ireturn, 1) := by decide +kernel
