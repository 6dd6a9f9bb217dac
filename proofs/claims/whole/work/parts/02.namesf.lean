theorem dX8_asksLiving_14 : decode cX8_asksLiving 14 = .ok (.ifCond .eq 12, 3) := by decide +kernel
theorem dX8_asksLiving_17 : decode cX8_asksLiving 17 = .ok (.aload_n 0, 1) := by decide +kernel
theorem dX8_asksLiving_18 : decode cX8_asksLiving 18 = .ok (.getfield 36, 3) := by decide +kernel
theorem dX8_asksLiving_21 : decode cX8_asksLiving 21 = .ok (.iload_n 1, 1) := by decide +kernel
theorem dX8_asksLiving_22 : decode cX8_asksLiving 22 = .ok (.baload, 1) := by decide +kernel
theorem dX8_asksLiving_23 : decode cX8_asksLiving 23 = .ok (.ifCond .ne 7, 3) := by decide +kernel
theorem dX8_asksLiving_26 : decode cX8_asksLiving 26 = .ok (.iconst 2, 1) := by decide +kernel
theorem dX8_asksLiving_27 : decode cX8_asksLiving 27 = .ok (.goto 4, 3) := by decide +kernel
theorem dX8_asksLiving_30 : decode cX8_asksLiving 30 = .ok (.iconst 0, 1) := by decide +kernel
theorem dX8_asksLiving_31 : decode cX8_asksLiving 31 = .ok (.putfield 88, 3) := by decide +kernel
theorem dX8_asksLiving_34 : decode cX8_asksLiving 34 = .ok (.return_, 1) := by decide +kernel
set_option maxRecDepth 20000 in
theorem ggX8_renew_X8_asksLiving : GoodIn wsX8_renew wsX8_asksLiving := goodIn_r _ [9, 10, 1, 11, 12, 13, 8, 14, 15, 36, 37, 38, 39, 40, 41, 42, 43, 44, 45, 46, 47, 48, 49, 50, 51, 52, 53, 54, 55, 56, 57, 58, 59, 60, 61, 62, 63, 64, 65, 66] (by decide +kernel) (by decide +kernel)
set_option maxRecDepth 20000 in
theorem gX8_renew_X8_asksLiving : GoodIn wsX8_renew (wsV RX8 166 RX8 yX8_asksLiving wsX8_asksLiving) := goodIn_app (goodIn_of _ (by decide +kernel)) ggX8_renew_X8_asksLiving
set_option maxRecDepth 20000 in
theorem ggX8_renew_X8_renewed : GoodIn wsX8_renew wsX8_renewed := goodIn_r _ [19, 20, 36, 37, 38, 39, 40, 41, 42, 43, 44, 45, 46, 47, 48, 49, 50, 51, 52, 53, 54, 55, 56, 57, 58, 59, 60, 61, 62, 63, 64, 65, 66] (by decide +kernel) (by decide +kernel)
set_option maxRecDepth 20000 in
theorem gX8_renew_X8_renewed : GoodIn wsX8_renew (wsV RX8 170 RX8 yX8_renewed wsX8_renewed) := goodIn_app (goodIn_of _ (by decide +kernel)) ggX8_renew_X8_renewed
set_option maxRecDepth 20000 in
theorem ggX8_renew_X8_writes : GoodIn wsX8_renew wsX8_writes := goodIn_r _ [24, 25, 26, 27, 28, 29, 30, 31, 32, 33, 34, 20, 35, 36, 37, 38, 39, 40, 41, 42, 43, 44, 45, 46, 47, 48, 49, 50, 51, 52, 53, 54, 55, 56, 57, 58, 59, 60, 61, 62, 63, 64, 65, 66] (by decide +kernel) (by decide +kernel)
set_option maxRecDepth 20000 in
theorem gX8_renew_X8_writes : GoodIn wsX8_renew (wsV RX8 162 RX8 yX8_writes wsX8_writes) := goodIn_app (goodIn_of _ (by decide +kernel)) ggX8_renew_X8_writes
theorem dX8_renew_0 : decode cX8_renew 0 = .ok (.aload_n 0, 1) := by decide +kernel
theorem dX8_renew_1 : decode cX8_renew 1 = .ok (.iload_n 1, 1) := by decide +kernel
theorem dX8_renew_2 : decode cX8_renew 2 = .ok (.invokevirtual 166, 3) := by decide +kernel
theorem dX8_renew_5 : decode cX8_renew 5 = .ok (.aload_n 0, 1) := by decide +kernel
theorem dX8_renew_6 : decode cX8_renew 6 = .ok (.aload_n 0, 1) := by decide +kernel
theorem dX8_renew_7 : decode cX8_renew 7 = .ok (.getfield 88, 3) := by decide +kernel
theorem dX8_renew_10 : decode cX8_renew 10 = .ok (.iconst 1, 1) := by decide +kernel
theorem dX8_renew_11 : decode cX8_renew 11 = .ok (.if_icmp .ne 7, 3) := by decide +kernel
theorem dX8_renew_14 : decode cX8_renew 14 = .ok (.iconst 1, 1) := by decide +kernel
theorem dX8_renew_15 : decode cX8_renew 15 = .ok (.goto 32, 3) := by decide +kernel
theorem dX8_renew_18 : decode cX8_renew 18 = .ok (.iload_n 2, 1) := by decide +kernel
theorem dX8_renew_19 : decode cX8_renew 19 = .ok (.iconst 1, 1) := by decide +kernel
theorem dX8_renew_20 : decode cX8_renew 20 = .ok (.if_icmp .lt 10, 3) := by decide +kernel
theorem dX8_renew_23 : decode cX8_renew 23 = .ok (.iload_n 2, 1) := by decide +kernel
theorem dX8_renew_24 : decode cX8_renew 24 = .ok (.sipush 1000, 3) := by decide +kernel
theorem dX8_renew_27 : decode cX8_renew 27 = .ok (.if_icmp .le 7, 3) := by decide +kernel
theorem dX8_renew_30 : decode cX8_renew 30 = .ok (.iconst 2, 1) := by decide +kernel
theorem dX8_renew_31 : decode cX8_renew 31 = .ok (.goto 16, 3) := by decide +kernel
theorem dX8_renew_34 : decode cX8_renew 34 = .ok (.aload_n 0, 1) := by decide +kernel
theorem dX8_renew_35 : decode cX8_renew 35 = .ok (.getfield 88, 3) := by decide +kernel
theorem dX8_renew_38 : decode cX8_renew 38 = .ok (.iconst 2, 1) := by decide +kernel
theorem dX8_renew_39 : decode cX8_renew 39 = .ok (.if_icmp .ne 7, 3) := by decide +kernel
theorem dX8_renew_42 : decode cX8_renew 42 = .ok (.iconst 3, 1) := by decide +kernel
theorem dX8_renew_43 : decode cX8_renew 43 = .ok (.goto 4, 3) := by decide +kernel
theorem dX8_renew_46 : decode cX8_renew 46 = .ok (.iconst 0, 1) := by decide +kernel
theorem dX8_renew_47 : decode cX8_renew 47 = .ok (.putfield 88, 3) := by decide +kernel
theorem dX8_renew_50 : decode cX8_renew 50 = .ok (.aload_n 0, 1) := by decide +kernel
theorem dX8_renew_51 : decode cX8_renew 51 = .ok (.getfield 88, 3) := by decide +kernel
theorem dX8_renew_54 : decode cX8_renew 54 = .ok (.ifCond .le 5, 3) := by decide +kernel
theorem dX8_renew_57 : decode cX8_renew 57 = .ok (.iconst 0, 1) := by decide +kernel
theorem dX8_renew_58 : decode cX8_renew 58 = .ok (.ireturn, 1) := by decide +kernel
theorem dX8_renew_59 : decode cX8_renew 59 = .ok (.aload_n 0, 1) := by decide +kernel
theorem dX8_renew_60 : decode cX8_renew 60 = .ok (.getfield 48, 3) := by decide +kernel
theorem dX8_renew_63 : decode cX8_renew 63 = .ok (.iload_n 1, 1) := by decide +kernel
theorem dX8_renew_64 : decode cX8_renew 64 = .ok (.aload_n 0, 1) := by decide +kernel
theorem dX8_renew_65 : decode cX8_renew 65 = .ok (.aload_n 0, 1) := by decide +kernel
theorem dX8_renew_66 : decode cX8_renew 66 = .ok (.getfield 45, 3) := by decide +kernel
theorem dX8_renew_69 : decode cX8_renew 69 = .ok (.iload_n 1, 1) := by decide +kernel
theorem dX8_renew_70 : decode cX8_renew 70 = .ok (.iaload, 1) := by decide +kernel
theorem dX8_renew_71 : decode cX8_renew 71 = .ok (.aload_n 0, 1) := by decide +kernel
theorem dX8_renew_72 : decode cX8_renew 72 = .ok (.getfield 48, 3) := by decide +kernel
theorem dX8_renew_75 : decode cX8_renew 75 = .ok (.iload_n 1, 1) := by decide +kernel
theorem dX8_renew_76 : decode cX8_renew 76 = .ok (.iaload, 1) := by decide +kernel
theorem dX8_renew_77 : decode cX8_renew 77 = .ok (.aload_n 0, 1) := by decide +kernel
theorem dX8_renew_78 : decode cX8_renew 78 = .ok (.getfield 51, 3) := by decide +kernel
theorem dX8_renew_81 : decode cX8_renew 81 = .ok (.iload_n 1, 1) := by decide +kernel
theorem dX8_renew_82 : decode cX8_renew 82 = .ok (.iaload, 1) := by decide +kernel
theorem dX8_renew_83 : decode cX8_renew 83 = .ok (.iload_n 2, 1) := by decide +kernel
theorem dX8_renew_84 : decode cX8_renew 84 = .ok (.invokevirtual 170, 3) := by decide +kernel
theorem dX8_renew_87 : decode cX8_renew 87 = .ok (.iastore, 1) := by decide +kernel
theorem dX8_renew_88 : decode cX8_renew 88 = .ok (.aload_n 0, 1) := by decide +kernel
theorem dX8_renew_89 : decode cX8_renew 89 = .ok (.iconst 1, 1) := by decide +kernel
theorem dX8_renew_90 : decode cX8_renew 90 = .ok (.iload_n 1, 1) := by decide +kernel
theorem dX8_renew_91 : decode cX8_renew 91 = .ok (.aload_n 0, 1) := by decide +kernel
theorem dX8_renew_92 : decode cX8_renew 92 = .ok (.getfield 48, 3) := by decide +kernel
theorem dX8_renew_95 : decode cX8_renew 95 = .ok (.iload_n 1, 1) := by decide +kernel
theorem dX8_renew_96 : decode cX8_renew 96 = .ok (.iaload, 1) := by decide +kernel
theorem dX8_renew_97 : decode cX8_renew 97 = .ok (.invokevirtual 162, 3) := by decide +kernel
theorem dX8_renew_100 : decode cX8_renew 100 = .ok (.aload_n 0, 1) := by decide +kernel
theorem dX8_renew_101 : decode cX8_renew 101 = .ok (.getfield 48, 3) := by decide +kernel
theorem dX8_renew_104 : decode cX8_renew 104 = .ok (.iload_n 1, 1) := by decide +kernel
theorem dX8_renew_105 : decode cX8_renew 105 = .ok (.iaload, 1) := by decide +kernel
theorem dX8_renew_106 : decode cX8_renew 106 = .ok (.ireturn, 1) := by decide +kernel
set_option maxRecDepth 20000 in
theorem ggX8_revoke_X8_asksLiving : GoodIn wsX8_revoke wsX8_asksLiving := goodIn_r _ [7, 2, 1, 8, 9, 10, 6, 11, 12, 39, 40, 41, 42, 43, 44, 45, 46, 47, 48, 49, 50, 51, 52, 53, 54, 55, 56, 57, 58, 59, 60, 61, 62, 63, 64, 65, 66, 67, 68, 69] (by decide +kernel) (by decide +kernel)
set_option maxRecDepth 20000 in
theorem gX8_revoke_X8_asksLiving : GoodIn wsX8_revoke (wsV RX8 166 RX8 yX8_asksLiving wsX8_asksLiving) := goodIn_app (goodIn_of _ (by decide +kernel)) ggX8_revoke_X8_asksLiving
set_option maxRecDepth 20000 in
theorem ggX8_revoke_X8_ceases : GoodIn wsX8_revoke wsX8_ceases := goodIn_r _ [16, 12, 2, 17, 18, 19, 20, 21, 22, 23, 39, 40, 41, 42, 43, 44, 45, 46, 47, 48, 49, 50, 51, 52, 53, 54, 55, 56, 57, 58, 59, 60, 61, 62, 63, 64, 65, 66, 67, 68, 69] (by decide +kernel) (by decide +kernel)
set_option maxRecDepth 20000 in
theorem gX8_revoke_X8_ceases : GoodIn wsX8_revoke (wsV RX8 174 RX8 yX8_ceases wsX8_ceases) := goodIn_app (goodIn_of _ (by decide +kernel)) ggX8_revoke_X8_ceases
set_option maxRecDepth 20000 in
theorem ggX8_revoke_X8_writes : GoodIn wsX8_revoke wsX8_writes := goodIn_r _ [27, 28, 29, 30, 31, 32, 33, 34, 35, 36, 37, 18, 38, 39, 40, 41, 42, 43, 44, 45, 46, 47, 48, 49, 50, 51, 52, 53, 54, 55, 56, 57, 58, 59, 60, 61, 62, 63, 64, 65, 66, 67, 68, 69] (by decide +kernel) (by decide +kernel)
set_option maxRecDepth 20000 in
theorem gX8_revoke_X8_writes : GoodIn wsX8_revoke (wsV RX8 162 RX8 yX8_writes wsX8_writes) := goodIn_app (goodIn_of _ (by decide +kernel)) ggX8_revoke_X8_writes
theorem dX8_revoke_0 : decode cX8_revoke 0 = .ok (.aload_n 0, 1) := by decide +kernel
theorem dX8_revoke_1 : decode cX8_revoke 1 = .ok (.iload_n 1, 1) := by decide +kernel
theorem dX8_revoke_2 : decode cX8_revoke 2 = .ok (.invokevirtual 166, 3) := by decide +kernel
theorem dX8_revoke_5 : decode cX8_revoke 5 = .ok (.aload_n 0, 1) := by decide +kernel
theorem dX8_revoke_6 : decode cX8_revoke 6 = .ok (.getfield 88, 3) := by decide +kernel
theorem dX8_revoke_9 : decode cX8_revoke 9 = .ok (.ifCond .le 5, 3) := by decide +kernel
theorem dX8_revoke_12 : decode cX8_revoke 12 = .ok (.iconst 0, 1) := by decide +kernel
theorem dX8_revoke_13 : decode cX8_revoke 13 = .ok (.ireturn, 1) := by decide +kernel
theorem dX8_revoke_14 : decode cX8_revoke 14 = .ok (.aload_n 0, 1) := by decide +kernel
theorem dX8_revoke_15 : decode cX8_revoke 15 = .ok (.getfield 36, 3) := by decide +kernel
theorem dX8_revoke_18 : decode cX8_revoke 18 = .ok (.iload_n 1, 1) := by decide +kernel
theorem dX8_revoke_19 : decode cX8_revoke 19 = .ok (.iconst 0, 1) := by decide +kernel
theorem dX8_revoke_20 : decode cX8_revoke 20 = .ok (.bastore, 1) := by decide +kernel
theorem dX8_revoke_21 : decode cX8_revoke 21 = .ok (.iconst 1, 1) := by decide +kernel
theorem dX8_revoke_22 : decode cX8_revoke 22 = .ok (.aload_n 0, 1) := by decide +kernel
theorem dX8_revoke_23 : decode cX8_revoke 23 = .ok (.invokevirtual 174, 3) := by decide +kernel
theorem dX8_revoke_26 : decode cX8_revoke 26 = .ok (.iadd, 1) := by decide +kernel
theorem dX8_revoke_27 : decode cX8_revoke 27 = .ok (.istore_n 2, 1) := by decide +kernel
theorem dX8_revoke_28 : decode cX8_revoke 28 = .ok (.aload_n 0, 1) := by decide +kernel
theorem dX8_revoke_29 : decode cX8_revoke 29 = .ok (.iconst 4, 1) := by decide +kernel
theorem dX8_revoke_30 : decode cX8_revoke 30 = .ok (.iload_n 1, 1) := by decide +kernel
theorem dX8_revoke_31 : decode cX8_revoke 31 = .ok (.iload_n 2, 1) := by decide +kernel
theorem dX8_revoke_32 : decode cX8_revoke 32 = .ok (.invokevirtual 162, 3) := by decide +kernel
theorem dX8_revoke_35 : decode cX8_revoke 35 = .ok (.iload_n 2, 1) := by decide +kernel
theorem dX8_revoke_36 : decode cX8_revoke 36 = .ok (.ireturn, 1) := by decide +kernel
set_option maxRecDepth 20000 in
theorem ggX8_revokeAlone_X8_asksLiving : GoodIn wsX8_revokeAlone wsX8_asksLiving := goodIn_r _ [9, 4, 1, 10, 11, 12, 8, 13, 2, 39, 40, 41, 42, 43, 44, 45, 46, 47, 48, 49, 50, 51, 52, 53, 54, 55, 56, 57, 58, 59, 60, 61, 62, 63, 64, 65, 66, 67, 68, 69] (by decide +kernel) (by decide +kernel)
set_option maxRecDepth 20000 in
theorem gX8_revokeAlone_X8_asksLiving : GoodIn wsX8_revokeAlone (wsV RX8 166 RX8 yX8_asksLiving wsX8_asksLiving) := goodIn_app (goodIn_of _ (by decide +kernel)) ggX8_revokeAlone_X8_asksLiving
set_option maxRecDepth 20000 in
theorem ggX8_revokeAlone_X8_ceases : GoodIn wsX8_revokeAlone wsX8_ceases := goodIn_r _ [17, 2, 4, 18, 19, 3, 20, 21, 22, 23, 39, 40, 41, 42, 43, 44, 45, 46, 47, 48, 49, 50, 51, 52, 53, 54, 55, 56, 57, 58, 59, 60, 61, 62, 63, 64, 65, 66, 67, 68, 69] (by decide +kernel) (by decide +kernel)
set_option maxRecDepth 20000 in
theorem gX8_revokeAlone_X8_ceases : GoodIn wsX8_revokeAlone (wsV RX8 174 RX8 yX8_ceases wsX8_ceases) := goodIn_app (goodIn_of _ (by decide +kernel)) ggX8_revokeAlone_X8_ceases
set_option maxRecDepth 20000 in
theorem ggX8_revokeAlone_X8_writes : GoodIn wsX8_revokeAlone wsX8_writes := goodIn_r _ [27, 28, 29, 30, 31, 32, 33, 34, 35, 36, 37, 19, 38, 39, 40, 41, 42, 43, 44, 45, 46, 47, 48, 49, 50, 51, 52, 53, 54, 55, 56, 57, 58, 59, 60, 61, 62, 63, 64, 65, 66, 67, 68, 69] (by decide +kernel) (by decide +kernel)
set_option maxRecDepth 20000 in
theorem gX8_revokeAlone_X8_writes : GoodIn wsX8_revokeAlone (wsV RX8 162 RX8 yX8_writes wsX8_writes) := goodIn_app (goodIn_of _ (by decide +kernel)) ggX8_revokeAlone_X8_writes
theorem dX8_revokeAlone_0 : decode cX8_revokeAlone 0 = .ok (.aload_n 0, 1) := by decide +kernel
theorem dX8_revokeAlone_1 : decode cX8_revokeAlone 1 = .ok (.iload_n 1, 1) := by decide +kernel
theorem dX8_revokeAlone_2 : decode cX8_revokeAlone 2 = .ok (.invokevirtual 166, 3) := by decide +kernel
theorem dX8_revokeAlone_5 : decode cX8_revokeAlone 5 = .ok (.aload_n 0, 1) := by decide +kernel
theorem dX8_revokeAlone_6 : decode cX8_revokeAlone 6 = .ok (.getfield 88, 3) := by decide +kernel
theorem dX8_revokeAlone_9 : decode cX8_revokeAlone 9 = .ok (.ifCond .le 5, 3) := by decide +kernel
theorem dX8_revokeAlone_12 : decode cX8_revokeAlone 12 = .ok (.iconst 0, 1) := by decide +kernel
theorem dX8_revokeAlone_13 : decode cX8_revokeAlone 13 = .ok (.ireturn, 1) := by decide +kernel
theorem dX8_revokeAlone_14 : decode cX8_revokeAlone 14 = .ok (.iconst 1, 1) := by decide +kernel
theorem dX8_revokeAlone_15 : decode cX8_revokeAlone 15 = .ok (.istore_n 2, 1) := by decide +kernel
theorem dX8_revokeAlone_16 : decode cX8_revokeAlone 16 = .ok (.iload_n 2, 1) := by decide +kernel
theorem dX8_revokeAlone_17 : decode cX8_revokeAlone 17 = .ok (.aload_n 0, 1) := by decide +kernel
theorem dX8_revokeAlone_18 : decode cX8_revokeAlone 18 = .ok (.getfield 32, 3) := by decide +kernel
theorem dX8_revokeAlone_21 : decode cX8_revokeAlone 21 = .ok (.if_icmp .ge 44, 3) := by decide +kernel
theorem dX8_revokeAlone_24 : decode cX8_revokeAlone 24 = .ok (.aload_n 0, 1) := by decide +kernel
theorem dX8_revokeAlone_25 : decode cX8_revokeAlone 25 = .ok (.getfield 39, 3) := by decide +kernel
theorem dX8_revokeAlone_28 : decode cX8_revokeAlone 28 = .ok (.iload_n 2, 1) := by decide +kernel
theorem dX8_revokeAlone_29 : decode cX8_revokeAlone 29 = .ok (.aload_n 0, 1) := by decide +kernel
theorem dX8_revokeAlone_30 : decode cX8_revokeAlone 30 = .ok (.getfield 36, 3) := by decide +kernel
theorem dX8_revokeAlone_33 : decode cX8_revokeAlone 33 = .ok (.iload_n 2, 1) := by decide +kernel
theorem dX8_revokeAlone_34 : decode cX8_revokeAlone 34 = .ok (.baload, 1) := by decide +kernel
theorem dX8_revokeAlone_35 : decode cX8_revokeAlone 35 = .ok (.ifCond .eq 17, 3) := by decide +kernel
theorem dX8_revokeAlone_38 : decode cX8_revokeAlone 38 = .ok (.aload_n 0, 1) := by decide +kernel
theorem dX8_revokeAlone_39 : decode cX8_revokeAlone 39 = .ok (.getfield 39, 3) := by decide +kernel
theorem dX8_revokeAlone_42 : decode cX8_revokeAlone 42 = .ok (.iload_n 2, 1) := by decide +kernel
theorem dX8_revokeAlone_43 : decode cX8_revokeAlone 43 = .ok (.iaload, 1) := by decide +kernel
theorem dX8_revokeAlone_44 : decode cX8_revokeAlone 44 = .ok (.iload_n 1, 1) := by decide +kernel
theorem dX8_revokeAlone_45 : decode cX8_revokeAlone 45 = .ok (.if_icmp .ne 7, 3) := by decide +kernel
theorem dX8_revokeAlone_48 : decode cX8_revokeAlone 48 = .ok (.iconst (-1), 1) := by decide +kernel
theorem dX8_revokeAlone_49 : decode cX8_revokeAlone 49 = .ok (.goto 9, 3) := by decide +kernel
theorem dX8_revokeAlone_52 : decode cX8_revokeAlone 52 = .ok (.aload_n 0, 1) := by decide +kernel
theorem dX8_revokeAlone_53 : decode cX8_revokeAlone 53 = .ok (.getfield 39, 3) := by decide +kernel
theorem dX8_revokeAlone_56 : decode cX8_revokeAlone 56 = .ok (.iload_n 2, 1) := by decide +kernel
theorem dX8_revokeAlone_57 : decode cX8_revokeAlone 57 = .ok (.iaload, 1) := by decide +kernel
theorem dX8_revokeAlone_58 : decode cX8_revokeAlone 58 = .ok (.iastore, 1) := by decide +kernel
theorem dX8_revokeAlone_59 : decode cX8_revokeAlone 59 = .ok (.iinc 2 1, 3) := by decide +kernel
theorem dX8_revokeAlone_62 : decode cX8_revokeAlone 62 = .ok (.goto (-46), 3) := by decide +kernel
theorem dX8_revokeAlone_65 : decode cX8_revokeAlone 65 = .ok (.aload_n 0, 1) := by decide +kernel
theorem dX8_revokeAlone_66 : decode cX8_revokeAlone 66 = .ok (.getfield 36, 3) := by decide +kernel
theorem dX8_revokeAlone_69 : decode cX8_revokeAlone 69 = .ok (.iload_n 1, 1) := by decide +kernel
theorem dX8_revokeAlone_70 : decode cX8_revokeAlone 70 = .ok (.iconst 0, 1) := by decide +kernel
theorem dX8_revokeAlone_71 : decode cX8_revokeAlone 71 = .ok (.bastore, 1) := by decide +kernel
theorem dX8_revokeAlone_72 : decode cX8_revokeAlone 72 = .ok (.iconst 1, 1) := by decide +kernel
theorem dX8_revokeAlone_73 : decode cX8_revokeAlone 73 = .ok (.aload_n 0, 1) := by decide +kernel
theorem dX8_revokeAlone_74 : decode cX8_revokeAlone 74 = .ok (.invokevirtual 174, 3) := by decide +kernel
theorem dX8_revokeAlone_77 : decode cX8_revokeAlone 77 = .ok (.iadd, 1) := by decide +kernel
theorem dX8_revokeAlone_78 : decode cX8_revokeAlone 78 = .ok (.istore_n 2, 1) := by decide +kernel
theorem dX8_revokeAlone_79 : decode cX8_revokeAlone 79 = .ok (.aload_n 0, 1) := by decide +kernel
theorem dX8_revokeAlone_80 : decode cX8_revokeAlone 80 = .ok (.iconst 4, 1) := by decide +kernel
theorem dX8_revokeAlone_81 : decode cX8_revokeAlone 81 = .ok (.iload_n 1, 1) := by decide +kernel
theorem dX8_revokeAlone_82 : decode cX8_revokeAlone 82 = .ok (.iload_n 2, 1) := by decide +kernel
theorem dX8_revokeAlone_83 : decode cX8_revokeAlone 83 = .ok (.invokevirtual 162, 3) := by decide +kernel
theorem dX8_revokeAlone_86 : decode cX8_revokeAlone 86 = .ok (.iload_n 2, 1) := by decide +kernel
theorem dX8_revokeAlone_87 : decode cX8_revokeAlone 87 = .ok (.ireturn, 1) := by decide +kernel
set_option maxRecDepth 20000 in
theorem ggX8_asks_X8_wasMade : GoodIn wsX8_asks wsX8_wasMade := goodIn_r _ [6, 7, 8, 9, 10, 11, 12, 13, 14, 15, 16, 17, 18, 19, 20, 21, 22, 23, 24, 25, 26, 27, 28, 29, 30, 31, 32, 33, 34, 35, 36, 37, 38] (by decide +kernel) (by decide +kernel)
set_option maxRecDepth 20000 in
theorem gX8_asks_X8_wasMade : GoodIn wsX8_asks (wsV RX8 155 RX8 yX8_wasMade wsX8_wasMade) := goodIn_app (goodIn_of _ (by decide +kernel)) ggX8_asks_X8_wasMade
theorem dX8_asks_0 : decode cX8_asks 0 = .ok (.aload_n 0, 1) := by decide +kernel
theorem dX8_asks_1 : decode cX8_asks 1 = .ok (.aload_n 0, 1) := by decide +kernel
theorem dX8_asks_2 : decode cX8_asks 2 = .ok (.iload_n 1, 1) := by decide +kernel
theorem dX8_asks_3 : decode cX8_asks 3 = .ok (.invokevirtual 155, 3) := by decide +kernel
theorem dX8_asks_6 : decode cX8_asks 6 = .ok (.ifCond .eq 7, 3) := by decide +kernel
theorem dX8_asks_9 : decode cX8_asks 9 = .ok (.iconst 0, 1) := by decide +kernel
theorem dX8_asks_10 : decode cX8_asks 10 = .ok (.goto 4, 3) := by decide +kernel
theorem dX8_asks_13 : decode cX8_asks 13 = .ok (.iconst 1, 1) := by decide +kernel
theorem dX8_asks_14 : decode cX8_asks 14 = .ok (.putfield 88, 3) := by decide +kernel
theorem dX8_asks_17 : decode cX8_asks 17 = .ok (.aload_n 0, 1) := by decide +kernel
theorem dX8_asks_18 : decode cX8_asks 18 = .ok (.getfield 88, 3) := by decide +kernel
theorem dX8_asks_21 : decode cX8_asks 21 = .ok (.ifCond .ne 7, 3) := by decide +kernel
theorem dX8_asks_24 : decode cX8_asks 24 = .ok (.iconst 1, 1) := by decide +kernel
theorem dX8_asks_25 : decode cX8_asks 25 = .ok (.goto 4, 3) := by decide +kernel
theorem dX8_asks_28 : decode cX8_asks 28 = .ok (.iconst 0, 1) := by decide +kernel
theorem dX8_asks_29 : decode cX8_asks 29 = .ok (.ireturn, 1) := by decide +kernel
set_option maxRecDepth 20000 in
theorem ggX8_isAlive_X8_asks : GoodIn wsX8_isAlive wsX8_asks := goodIn_r _ [6, 7, 8, 9, 10, 5, 11, 12, 13, 14, 15, 16, 17, 18, 19, 20, 21, 22, 23, 24, 25, 26, 27, 28, 29, 30, 31, 32, 33, 34, 35, 36, 37, 38, 39, 40, 41, 42, 43] (by decide +kernel) (by decide +kernel)
set_option maxRecDepth 20000 in
theorem gX8_isAlive_X8_asks : GoodIn wsX8_isAlive (wsV RX8 177 RX8 yX8_asks wsX8_asks) := goodIn_app (goodIn_of _ (by decide +kernel)) ggX8_isAlive_X8_asks
theorem dX8_isAlive_0 : decode cX8_isAlive 0 = .ok (.aload_n 0, 1) := by decide +kernel
theorem dX8_isAlive_1 : decode cX8_isAlive 1 = .ok (.iload_n 1, 1) := by decide +kernel
theorem dX8_isAlive_2 : decode cX8_isAlive 2 = .ok (.invokevirtual 177, 3) := by decide +kernel
theorem dX8_isAlive_5 : decode cX8_isAlive 5 = .ok (.ifCond .eq 16, 3) := by decide +kernel
theorem dX8_isAlive_8 : decode cX8_isAlive 8 = .ok (.aload_n 0, 1) := by decide +kernel
theorem dX8_isAlive_9 : decode cX8_isAlive 9 = .ok (.getfield 36, 3) := by decide +kernel
theorem dX8_isAlive_12 : decode cX8_isAlive 12 = .ok (.iload_n 1, 1) := by decide +kernel
theorem dX8_isAlive_13 : decode cX8_isAlive 13 = .ok (.baload, 1) := by decide +kernel
theorem dX8_isAlive_14 : decode cX8_isAlive 14 = .ok (.ifCond .eq 7, 3) := by decide +kernel
theorem dX8_isAlive_17 : decode cX8_isAlive 17 = .ok (.iconst 1, 1) := by decide +kernel
theorem dX8_isAlive_18 : decode cX8_isAlive 18 = .ok (.goto 4, 3) := by decide +kernel
theorem dX8_isAlive_21 : decode cX8_isAlive 21 = .ok (.iconst 0, 1) := by decide +kernel
theorem dX8_isAlive_22 : decode cX8_isAlive 22 = .ok (.ireturn, 1) := by decide +kernel
set_option maxRecDepth 20000 in
theorem ggX8_parentOf_X8_asks : GoodIn wsX8_parentOf wsX8_asks := goodIn_r _ [6, 7, 8, 9, 10, 5, 11, 12, 13, 14, 15, 16, 17, 18, 19, 20, 21, 22, 23, 24, 25, 26, 27, 28, 29, 30, 31, 32, 33, 34, 35, 36, 37, 38, 39, 40, 41, 42, 43] (by decide +kernel) (by decide +kernel)
set_option maxRecDepth 20000 in
theorem gX8_parentOf_X8_asks : GoodIn wsX8_parentOf (wsV RX8 177 RX8 yX8_asks wsX8_asks) := goodIn_app (goodIn_of _ (by decide +kernel)) ggX8_parentOf_X8_asks
theorem dX8_parentOf_0 : decode cX8_parentOf 0 = .ok (.aload_n 0, 1) := by decide +kernel
theorem dX8_parentOf_1 : decode cX8_parentOf 1 = .ok (.iload_n 1, 1) := by decide +kernel
theorem dX8_parentOf_2 : decode cX8_parentOf 2 = .ok (.invokevirtual 177, 3) := by decide +kernel
theorem dX8_parentOf_5 : decode cX8_parentOf 5 = .ok (.ifCond .eq 12, 3) := by decide +kernel
theorem dX8_parentOf_8 : decode cX8_parentOf 8 = .ok (.aload_n 0, 1) := by decide +kernel
theorem dX8_parentOf_9 : decode cX8_parentOf 9 = .ok (.getfield 39, 3) := by decide +kernel
theorem dX8_parentOf_12 : decode cX8_parentOf 12 = .ok (.iload_n 1, 1) := by decide +kernel
theorem dX8_parentOf_13 : decode cX8_parentOf 13 = .ok (.iaload, 1) := by decide +kernel
theorem dX8_parentOf_14 : decode cX8_parentOf 14 = .ok (.goto 4, 3) := by decide +kernel
theorem dX8_parentOf_17 : decode cX8_parentOf 17 = .ok (.iconst 0, 1) := by decide +kernel
theorem dX8_parentOf_18 : decode cX8_parentOf 18 = .ok (.ireturn, 1) := by decide +kernel
set_option maxRecDepth 20000 in
theorem ggX8_endOf_X8_asks : GoodIn wsX8_endOf wsX8_asks := goodIn_r _ [6, 7, 8, 9, 10, 5, 11, 12, 13, 14, 15, 16, 17, 18, 19, 20, 21, 22, 23, 24, 25, 26, 27, 28, 29, 30, 31, 32, 33, 34, 35, 36, 37, 38, 39, 40, 41, 42, 43] (by decide +kernel) (by decide +kernel)
set_option maxRecDepth 20000 in
theorem gX8_endOf_X8_asks : GoodIn wsX8_endOf (wsV RX8 177 RX8 yX8_asks wsX8_asks) := goodIn_app (goodIn_of _ (by decide +kernel)) ggX8_endOf_X8_asks
theorem dX8_endOf_0 : decode cX8_endOf 0 = .ok (.aload_n 0, 1) := by decide +kernel
theorem dX8_endOf_1 : decode cX8_endOf 1 = .ok (.iload_n 1, 1) := by decide +kernel
theorem dX8_endOf_2 : decode cX8_endOf 2 = .ok (.invokevirtual 177, 3) := by decide +kernel
theorem dX8_endOf_5 : decode cX8_endOf 5 = .ok (.ifCond .eq 12, 3) := by decide +kernel
theorem dX8_endOf_8 : decode cX8_endOf 8 = .ok (.aload_n 0, 1) := by decide +kernel
theorem dX8_endOf_9 : decode cX8_endOf 9 = .ok (.getfield 48, 3) := by decide +kernel
theorem dX8_endOf_12 : decode cX8_endOf 12 = .ok (.iload_n 1, 1) := by decide +kernel
theorem dX8_endOf_13 : decode cX8_endOf 13 = .ok (.iaload, 1) := by decide +kernel
theorem dX8_endOf_14 : decode cX8_endOf 14 = .ok (.goto 4, 3) := by decide +kernel
theorem dX8_endOf_17 : decode cX8_endOf 17 = .ok (.iconst 0, 1) := by decide +kernel
theorem dX8_endOf_18 : decode cX8_endOf 18 = .ok (.ireturn, 1) := by decide +kernel
set_option maxRecDepth 20000 in
theorem ggX8_usesLeft_X8_asks : GoodIn wsX8_usesLeft wsX8_asks := goodIn_r _ [6, 7, 8, 9, 10, 5, 11, 12, 13, 14, 15, 16, 17, 18, 19, 20, 21, 22, 23, 24, 25, 26, 27, 28, 29, 30, 31, 32, 33, 34, 35, 36, 37, 38, 39, 40, 41, 42, 43] (by decide +kernel) (by decide +kernel)
set_option maxRecDepth 20000 in
theorem gX8_usesLeft_X8_asks : GoodIn wsX8_usesLeft (wsV RX8 177 RX8 yX8_asks wsX8_asks) := goodIn_app (goodIn_of _ (by decide +kernel)) ggX8_usesLeft_X8_asks
theorem dX8_usesLeft_0 : decode cX8_usesLeft 0 = .ok (.aload_n 0, 1) := by decide +kernel
theorem dX8_usesLeft_1 : decode cX8_usesLeft 1 = .ok (.iload_n 1, 1) := by decide +kernel
theorem dX8_usesLeft_2 : decode cX8_usesLeft 2 = .ok (.invokevirtual 177, 3) := by decide +kernel
theorem dX8_usesLeft_5 : decode cX8_usesLeft 5 = .ok (.ifCond .eq 12, 3) := by decide +kernel
theorem dX8_usesLeft_8 : decode cX8_usesLeft 8 = .ok (.aload_n 0, 1) := by decide +kernel
theorem dX8_usesLeft_9 : decode cX8_usesLeft 9 = .ok (.getfield 54, 3) := by decide +kernel
theorem dX8_usesLeft_12 : decode cX8_usesLeft 12 = .ok (.iload_n 1, 1) := by decide +kernel
theorem dX8_usesLeft_13 : decode cX8_usesLeft 13 = .ok (.iaload, 1) := by decide +kernel
theorem dX8_usesLeft_14 : decode cX8_usesLeft 14 = .ok (.goto 4, 3) := by decide +kernel
theorem dX8_usesLeft_17 : decode cX8_usesLeft 17 = .ok (.iconst 0, 1) := by decide +kernel
theorem dX8_usesLeft_18 : decode cX8_usesLeft 18 = .ok (.ireturn, 1) := by decide +kernel
set_option maxRecDepth 20000 in
theorem ggX8_below_X8_asks : GoodIn wsX8_below wsX8_asks := goodIn_r _ [8, 9, 10, 11, 12, 7, 13, 1, 14, 15, 16, 17, 18, 19, 20, 21, 22, 23, 24, 25, 26, 27, 28, 29, 30, 31, 32, 33, 34, 35, 36, 37, 38, 39, 40, 41, 42, 43, 44] (by decide +kernel) (by decide +kernel)
set_option maxRecDepth 20000 in
theorem gX8_below_X8_asks : GoodIn wsX8_below (wsV RX8 177 RX8 yX8_asks wsX8_asks) := goodIn_app (goodIn_of _ (by decide +kernel)) ggX8_below_X8_asks
theorem dX8_below_0 : decode cX8_below 0 = .ok (.iconst 0, 1) := by decide +kernel
theorem dX8_below_1 : decode cX8_below 1 = .ok (.istore_n 2, 1) := by decide +kernel
theorem dX8_below_2 : decode cX8_below 2 = .ok (.aload_n 0, 1) := by decide +kernel
theorem dX8_below_3 : decode cX8_below 3 = .ok (.getfield 32, 3) := by decide +kernel
theorem dX8_below_6 : decode cX8_below 6 = .ok (.iconst 1, 1) := by decide +kernel
theorem dX8_below_7 : decode cX8_below 7 = .ok (.isub, 1) := by decide +kernel
theorem dX8_below_8 : decode cX8_below 8 = .ok (.istore_n 3, 1) := by decide +kernel
theorem dX8_below_9 : decode cX8_below 9 = .ok (.iload_n 3, 1) := by decide +kernel
theorem dX8_below_10 : decode cX8_below 10 = .ok (.ifCond .lt 76, 3) := by decide +kernel
theorem dX8_below_13 : decode cX8_below 13 = .ok (.aload_n 0, 1) := by decide +kernel
theorem dX8_below_14 : decode cX8_below 14 = .ok (.iload_n 1, 1) := by decide +kernel
theorem dX8_below_15 : decode cX8_below 15 = .ok (.invokevirtual 177, 3) := by decide +kernel
theorem dX8_below_18 : decode cX8_below 18 = .ok (.ifCond .eq 68, 3) := by decide +kernel
theorem dX8_below_21 : decode cX8_below 21 = .ok (.aload_n 0, 1) := by decide +kernel
theorem dX8_below_22 : decode cX8_below 22 = .ok (.getfield 36, 3) := by decide +kernel
theorem dX8_below_25 : decode cX8_below 25 = .ok (.iload_n 3, 1) := by decide +kernel
theorem dX8_below_26 : decode cX8_below 26 = .ok (.baload, 1) := by decide +kernel
theorem dX8_below_27 : decode cX8_below 27 = .ok (.ifCond .eq 12, 3) := by decide +kernel
theorem dX8_below_30 : decode cX8_below 30 = .ok (.aload_n 0, 1) := by decide +kernel
theorem dX8_below_31 : decode cX8_below 31 = .ok (.getfield 39, 3) := by decide +kernel
theorem dX8_below_34 : decode cX8_below 34 = .ok (.iload_n 3, 1) := by decide +kernel
theorem dX8_below_35 : decode cX8_below 35 = .ok (.iaload, 1) := by decide +kernel
theorem dX8_below_36 : decode cX8_below 36 = .ok (.goto 4, 3) := by decide +kernel
theorem dX8_below_39 : decode cX8_below 39 = .ok (.iconst (-1), 1) := by decide +kernel
theorem dX8_below_40 : decode cX8_below 40 = .ok (.istore 4, 2) := by decide +kernel
theorem dX8_below_42 : decode cX8_below 42 = .ok (.iload 4, 2) := by decide +kernel
theorem dX8_below_44 : decode cX8_below 44 = .ok (.iconst (-1), 1) := by decide +kernel
theorem dX8_below_45 : decode cX8_below 45 = .ok (.if_icmp .eq 21, 3) := by decide +kernel
theorem dX8_below_48 : decode cX8_below 48 = .ok (.iload 4, 2) := by decide +kernel
theorem dX8_below_50 : decode cX8_below 50 = .ok (.iload_n 1, 1) := by decide +kernel
theorem dX8_below_51 : decode cX8_below 51 = .ok (.if_icmp .eq 15, 3) := by decide +kernel
theorem dX8_below_54 : decode cX8_below 54 = .ok (.aload_n 0, 1) := by decide +kernel
theorem dX8_below_55 : decode cX8_below 55 = .ok (.getfield 39, 3) := by decide +kernel
theorem dX8_below_58 : decode cX8_below 58 = .ok (.iload 4, 2) := by decide +kernel
theorem dX8_below_60 : decode cX8_below 60 = .ok (.iaload, 1) := by decide +kernel
theorem dX8_below_61 : decode cX8_below 61 = .ok (.istore 4, 2) := by decide +kernel
theorem dX8_below_63 : decode cX8_below 63 = .ok (.goto (-21), 3) := by decide +kernel
theorem dX8_below_66 : decode cX8_below 66 = .ok (.iload_n 2, 1) := by decide +kernel
theorem dX8_below_67 : decode cX8_below 67 = .ok (.iload 4, 2) := by decide +kernel
theorem dX8_below_69 : decode cX8_below 69 = .ok (.iload_n 1, 1) := by decide +kernel
theorem dX8_below_70 : decode cX8_below 70 = .ok (.if_icmp .ne 7, 3) := by decide +kernel
theorem dX8_below_73 : decode cX8_below 73 = .ok (.iconst 1, 1) := by decide +kernel
theorem dX8_below_74 : decode cX8_below 74 = .ok (.goto 4, 3) := by decide +kernel
theorem dX8_below_77 : decode cX8_below 77 = .ok (.iconst 0, 1) := by decide +kernel
theorem dX8_below_78 : decode cX8_below 78 = .ok (.iadd, 1) := by decide +kernel
theorem dX8_below_79 : decode cX8_below 79 = .ok (.istore_n 2, 1) := by decide +kernel
theorem dX8_below_80 : decode cX8_below 80 = .ok (.iinc 3 (-1), 3) := by decide +kernel
theorem dX8_below_83 : decode cX8_below 83 = .ok (.goto (-74), 3) := by decide +kernel
theorem dX8_below_86 : decode cX8_below 86 = .ok (.iload_n 2, 1) := by decide +kernel
theorem dX8_below_87 : decode cX8_below 87 = .ok (.ireturn, 1) := by decide +kernel
set_option maxRecDepth 20000 in
theorem ggX8_tokens_X8_manyTokens : GoodIn wsX8_tokens wsX8_manyTokens := goodIn_r _ [6, 7, 8, 9, 10, 11, 12, 13, 14, 15, 16, 17, 18, 19, 20, 21, 22, 23, 24, 25, 26, 27, 28, 29, 30, 31, 32, 33, 34, 35, 36, 37, 38, 39] (by decide +kernel) (by decide +kernel)
set_option maxRecDepth 20000 in
theorem gX8_tokens_X8_manyTokens : GoodIn wsX8_tokens (wsV RX8 158 RX8 yX8_manyTokens wsX8_manyTokens) := goodIn_app (goodIn_of _ (by decide +kernel)) ggX8_tokens_X8_manyTokens
theorem dX8_tokens_0 : decode cX8_tokens 0 = .ok (.aload_n 0, 1) := by decide +kernel
theorem dX8_tokens_1 : decode cX8_tokens 1 = .ok (.iconst 0, 1) := by decide +kernel
theorem dX8_tokens_2 : decode cX8_tokens 2 = .ok (.putfield 88, 3) := by decide +kernel
theorem dX8_tokens_5 : decode cX8_tokens 5 = .ok (.aload_n 0, 1) := by decide +kernel
theorem dX8_tokens_6 : decode cX8_tokens 6 = .ok (.invokevirtual 158, 3) := by decide +kernel
theorem dX8_tokens_9 : decode cX8_tokens 9 = .ok (.ireturn, 1) := by decide +kernel
set_option maxRecDepth 20000 in
theorem ggX8_capabilities_X8_wasMade : GoodIn wsX8_capabilities wsX8_wasMade := goodIn_r _ [6, 7, 45, 46, 47, 48, 49, 50, 51, 52, 53, 54, 55, 56, 57, 58, 59, 60, 61, 62, 63, 64, 65, 66, 67, 68, 69, 70, 71, 72, 73, 74, 75] (by decide +kernel) (by decide +kernel)
set_option maxRecDepth 20000 in
theorem gX8_capabilities_X8_wasMade : GoodIn wsX8_capabilities (wsV RX8 155 RX8 yX8_wasMade wsX8_wasMade) := goodIn_app (goodIn_of _ (by decide +kernel)) ggX8_capabilities_X8_wasMade
set_option maxRecDepth 20000 in
theorem ggX8_capabilities_X8_isPath : GoodIn wsX8_capabilities wsX8_isPath := goodIn_r _ [10, 11, 12, 5, 13, 14, 15, 16] (by decide +kernel) (by decide +kernel)
set_option maxRecDepth 20000 in
theorem gX8_capabilities_X8_isPath : GoodIn wsX8_capabilities (va_wsS RX8 146 yX8_isPath wsX8_isPath) := goodIn_app (goodIn_of _ (by decide +kernel)) ggX8_capabilities_X8_isPath
set_option maxRecDepth 20000 in
theorem ggX8_capabilities_X8_can : GoodIn wsX8_capabilities wsX8_can := goodIn_r _ [20, 21, 22, 23, 24, 25, 5, 26, 27, 28, 29, 30, 31, 32, 33, 34, 14, 15, 16, 35, 36, 37, 38, 39, 40, 41, 42, 43, 44, 45, 46, 47, 48, 49, 50, 51, 52, 53, 54, 55, 56, 57, 58, 59, 60, 61, 62, 63, 64, 65, 66, 67, 68, 69, 70, 71, 72, 73, 74, 75] (by decide +kernel) (by decide +kernel)
set_option maxRecDepth 20000 in
theorem gX8_capabilities_X8_can : GoodIn wsX8_capabilities (wsV RX8 180 RX8 yX8_can wsX8_can) := goodIn_app (goodIn_of _ (by decide +kernel)) ggX8_capabilities_X8_can
theorem dX8_capabilities_0 : decode cX8_capabilities 0 = .ok (.aload_n 0, 1) := by decide +kernel
theorem dX8_capabilities_1 : decode cX8_capabilities 1 = .ok (.aload_n 0, 1) := by decide +kernel
theorem dX8_capabilities_2 : decode cX8_capabilities 2 = .ok (.iload_n 1, 1) := by decide +kernel
theorem dX8_capabilities_3 : decode cX8_capabilities 3 = .ok (.invokevirtual 155, 3) := by decide +kernel
theorem dX8_capabilities_6 : decode cX8_capabilities 6 = .ok (.ifCond .ne 7, 3) := by decide +kernel
theorem dX8_capabilities_9 : decode cX8_capabilities 9 = .ok (.iconst 1, 1) := by decide +kernel
theorem dX8_capabilities_10 : decode cX8_capabilities 10 = .ok (.goto 15, 3) := by decide +kernel
theorem dX8_capabilities_13 : decode cX8_capabilities 13 = .ok (.iload_n 2, 1) := by decide +kernel
theorem dX8_capabilities_14 : decode cX8_capabilities 14 = .ok (.invokestatic 146, 3) := by decide +kernel
theorem dX8_capabilities_17 : decode cX8_capabilities 17 = .ok (.ifCond .eq 7, 3) := by decide +kernel
theorem dX8_capabilities_20 : decode cX8_capabilities 20 = .ok (.iconst 0, 1) := by decide +kernel
theorem dX8_capabilities_21 : decode cX8_capabilities 21 = .ok (.goto 4, 3) := by decide +kernel
theorem dX8_capabilities_24 : decode cX8_capabilities 24 = .ok (.iconst 2, 1) := by decide +kernel
theorem dX8_capabilities_25 : decode cX8_capabilities 25 = .ok (.putfield 88, 3) := by decide +kernel
theorem dX8_capabilities_28 : decode cX8_capabilities 28 = .ok (.aload_n 0, 1) := by decide +kernel
theorem dX8_capabilities_29 : decode cX8_capabilities 29 = .ok (.getfield 88, 3) := by decide +kernel
theorem dX8_capabilities_32 : decode cX8_capabilities 32 = .ok (.ifCond .le 7, 3) := by decide +kernel
theorem dX8_capabilities_35 : decode cX8_capabilities 35 = .ok (.iconst 0, 1) := by decide +kernel
theorem dX8_capabilities_36 : decode cX8_capabilities 36 = .ok (.goto 9, 3) := by decide +kernel
theorem dX8_capabilities_39 : decode cX8_capabilities 39 = .ok (.aload_n 0, 1) := by decide +kernel
theorem dX8_capabilities_40 : decode cX8_capabilities 40 = .ok (.iload_n 1, 1) := by decide +kernel
theorem dX8_capabilities_41 : decode cX8_capabilities 41 = .ok (.iload_n 2, 1) := by decide +kernel
theorem dX8_capabilities_42 : decode cX8_capabilities 42 = .ok (.invokevirtual 180, 3) := by decide +kernel
theorem dX8_capabilities_45 : decode cX8_capabilities 45 = .ok (.ireturn, 1) := by decide +kernel
set_option maxRecDepth 20000 in
theorem ggX8_reason_X8_mountFor : GoodIn wsX8_reason wsX8_mountFor := goodIn_r _ [7, 8, 9, 10, 11, 6, 12, 13, 14, 15, 16, 17, 18, 44, 45, 46, 47, 48, 49, 50, 51, 52, 53, 54, 55, 56, 57, 58, 59, 60, 61, 62, 63, 64, 65, 66, 67, 68, 69, 70, 71, 72, 73, 74] (by decide +kernel) (by decide +kernel)
set_option maxRecDepth 20000 in
theorem gX8_reason_X8_mountFor : GoodIn wsX8_reason (wsV RX8 183 RX8 yX8_mountFor wsX8_mountFor) := goodIn_app (goodIn_of _ (by decide +kernel)) ggX8_reason_X8_mountFor
set_option maxRecDepth 20000 in
theorem ggX8_reason_X8_can : GoodIn wsX8_reason wsX8_can := goodIn_r _ [22, 23, 24, 25, 26, 27, 6, 28, 29, 30, 31, 32, 33, 34, 35, 36, 13, 14, 15, 37, 38, 39, 16, 17, 18, 40, 41, 42, 43, 44, 45, 46, 47, 48, 49, 50, 51, 52, 53, 54, 55, 56, 57, 58, 59, 60, 61, 62, 63, 64, 65, 66, 67, 68, 69, 70, 71, 72, 73, 74] (by decide +kernel) (by decide +kernel)
set_option maxRecDepth 20000 in
theorem gX8_reason_X8_can : GoodIn wsX8_reason (wsV RX8 180 RX8 yX8_can wsX8_can) := goodIn_app (goodIn_of _ (by decide +kernel)) ggX8_reason_X8_can
theorem dX8_reason_0 : decode cX8_reason 0 = .ok (.aload_n 0, 1) := by decide +kernel
theorem dX8_reason_1 : decode cX8_reason 1 = .ok (.getfield 36, 3) := by decide +kernel
theorem dX8_reason_4 : decode cX8_reason 4 = .ok (.iload_n 1, 1) := by decide +kernel
theorem dX8_reason_5 : decode cX8_reason 5 = .ok (.baload, 1) := by decide +kernel
theorem dX8_reason_6 : decode cX8_reason 6 = .ok (.ifCond .ne 7, 3) := by decide +kernel
theorem dX8_reason_9 : decode cX8_reason 9 = .ok (.iconst 1, 1) := by decide +kernel
theorem dX8_reason_10 : decode cX8_reason 10 = .ok (.goto 45, 3) := by decide +kernel
theorem dX8_reason_13 : decode cX8_reason 13 = .ok (.aload_n 0, 1) := by decide +kernel
theorem dX8_reason_14 : decode cX8_reason 14 = .ok (.getfield 54, 3) := by decide +kernel
theorem dX8_reason_17 : decode cX8_reason 17 = .ok (.iload_n 1, 1) := by decide +kernel
theorem dX8_reason_18 : decode cX8_reason 18 = .ok (.iaload, 1) := by decide +kernel
theorem dX8_reason_19 : decode cX8_reason 19 = .ok (.ifCond .ne 7, 3) := by decide +kernel
theorem dX8_reason_22 : decode cX8_reason 22 = .ok (.iconst 2, 1) := by decide +kernel
theorem dX8_reason_23 : decode cX8_reason 23 = .ok (.goto 32, 3) := by decide +kernel
theorem dX8_reason_26 : decode cX8_reason 26 = .ok (.aload_n 0, 1) := by decide +kernel
theorem dX8_reason_27 : decode cX8_reason 27 = .ok (.iload_n 2, 1) := by decide +kernel
theorem dX8_reason_28 : decode cX8_reason 28 = .ok (.invokevirtual 183, 3) := by decide +kernel
theorem dX8_reason_31 : decode cX8_reason 31 = .ok (.iconst (-1), 1) := by decide +kernel
theorem dX8_reason_32 : decode cX8_reason 32 = .ok (.if_icmp .ne 7, 3) := by decide +kernel
theorem dX8_reason_35 : decode cX8_reason 35 = .ok (.iconst 3, 1) := by decide +kernel
theorem dX8_reason_36 : decode cX8_reason 36 = .ok (.goto 19, 3) := by decide +kernel
theorem dX8_reason_39 : decode cX8_reason 39 = .ok (.aload_n 0, 1) := by decide +kernel
theorem dX8_reason_40 : decode cX8_reason 40 = .ok (.iload_n 1, 1) := by decide +kernel
theorem dX8_reason_41 : decode cX8_reason 41 = .ok (.iload_n 2, 1) := by decide +kernel
theorem dX8_reason_42 : decode cX8_reason 42 = .ok (.invokevirtual 180, 3) := by decide +kernel
theorem dX8_reason_45 : decode cX8_reason 45 = .ok (.iconst 1, 1) := by decide +kernel
theorem dX8_reason_46 : decode cX8_reason 46 = .ok (.iand, 1) := by decide +kernel
theorem dX8_reason_47 : decode cX8_reason 47 = .ok (.ifCond .ne 7, 3) := by decide +kernel
theorem dX8_reason_50 : decode cX8_reason 50 = .ok (.iconst 4, 1) := by decide +kernel
theorem dX8_reason_51 : decode cX8_reason 51 = .ok (.goto 4, 3) := by decide +kernel
theorem dX8_reason_54 : decode cX8_reason 54 = .ok (.iconst 0, 1) := by decide +kernel
theorem dX8_reason_55 : decode cX8_reason 55 = .ok (.ireturn, 1) := by decide +kernel
set_option maxRecDepth 20000 in
theorem ggX8_request_X8_wasMade : GoodIn wsX8_request wsX8_wasMade := goodIn_r _ [18, 19, 89, 90, 91, 92, 93, 94, 95, 96, 97, 98, 99, 100, 101, 102, 103, 104, 105, 106, 107, 108, 109, 110, 111, 112, 113, 114, 115, 116, 117, 118, 119] (by decide +kernel) (by decide +kernel)
set_option maxRecDepth 20000 in
theorem gX8_request_X8_wasMade : GoodIn wsX8_request (wsV RX8 155 RX8 yX8_wasMade wsX8_wasMade) := goodIn_app (goodIn_of _ (by decide +kernel)) ggX8_request_X8_wasMade
set_option maxRecDepth 20000 in
theorem ggX8_request_X8_isPath : GoodIn wsX8_request wsX8_isPath := goodIn_r _ [22, 23, 24, 17, 25, 26, 27, 28] (by decide +kernel) (by decide +kernel)
set_option maxRecDepth 20000 in
theorem gX8_request_X8_isPath : GoodIn wsX8_request (va_wsS RX8 146 yX8_isPath wsX8_isPath) := goodIn_app (goodIn_of _ (by decide +kernel)) ggX8_request_X8_isPath
set_option maxRecDepth 20000 in
theorem ggX8_request_X8_reason : GoodIn wsX8_request wsX8_reason := goodIn_r _ [32, 3, 2, 33, 34, 35, 17, 36, 37, 38, 39, 40, 41, 26, 27, 28, 42, 43, 44, 45, 46, 47, 48, 49, 50, 51, 52, 53, 54, 55, 56, 57, 58, 59, 60, 61, 62, 63, 64, 65, 66, 67, 68, 69, 89, 90, 91, 92, 93, 94, 95, 96, 97, 98, 99, 100, 101, 102, 103, 104, 105, 106, 107, 108, 109, 110, 111, 112, 113, 114, 115, 116, 117, 118, 119] (by decide +kernel) (by decide +kernel)
set_option maxRecDepth 20000 in
theorem gX8_request_X8_reason : GoodIn wsX8_request (wsV RX8 186 RX8 yX8_reason wsX8_reason) := goodIn_app (goodIn_of _ (by decide +kernel)) ggX8_request_X8_reason
set_option maxRecDepth 20000 in
theorem ggX8_request_X8_manyCredentials : GoodIn wsX8_request wsX8_manyCredentials := goodIn_r _ [73, 5, 4, 89, 90, 91, 92, 93, 94, 95, 96, 97, 98, 99, 100, 101, 102, 103, 104, 105, 106, 107, 108, 109, 110, 111, 112, 113, 114, 115, 116, 117, 118, 119] (by decide +kernel) (by decide +kernel)
set_option maxRecDepth 20000 in
theorem gX8_request_X8_manyCredentials : GoodIn wsX8_request (wsV RX8 189 RX8 yX8_manyCredentials wsX8_manyCredentials) := goodIn_app (goodIn_of _ (by decide +kernel)) ggX8_request_X8_manyCredentials
set_option maxRecDepth 20000 in
theorem ggX8_request_X8_writes : GoodIn wsX8_request wsX8_writes := goodIn_r _ [77, 78, 79, 80, 81, 82, 83, 84, 85, 86, 87, 9, 88, 89, 90, 91, 92, 93, 94, 95, 96, 97, 98, 99, 100, 101, 102, 103, 104, 105, 106, 107, 108, 109, 110, 111, 112, 113, 114, 115, 116, 117, 118, 119] (by decide +kernel) (by decide +kernel)
set_option maxRecDepth 20000 in
theorem gX8_request_X8_writes : GoodIn wsX8_request (wsV RX8 162 RX8 yX8_writes wsX8_writes) := goodIn_app (goodIn_of _ (by decide +kernel)) ggX8_request_X8_writes
set_option maxRecDepth 20000 in
theorem ggX8_request_X8_mountFor : GoodIn wsX8_request wsX8_mountFor := goodIn_r _ [36, 37, 38, 39, 40, 17, 41, 26, 27, 28, 42, 43, 44, 89, 90, 91, 92, 93, 94, 95, 96, 97, 98, 99, 100, 101, 102, 103, 104, 105, 106, 107, 108, 109, 110, 111, 112, 113, 114, 115, 116, 117, 118, 119] (by decide +kernel) (by decide +kernel)
set_option maxRecDepth 20000 in
theorem gX8_request_X8_mountFor : GoodIn wsX8_request (wsV RX8 183 RX8 yX8_mountFor wsX8_mountFor) := goodIn_app (goodIn_of _ (by decide +kernel)) ggX8_request_X8_mountFor
theorem dX8_request_0 : decode cX8_request 0 = .ok (.aload_n 0, 1) := by decide +kernel
theorem dX8_request_1 : decode cX8_request 1 = .ok (.aload_n 0, 1) := by decide +kernel
theorem dX8_request_2 : decode cX8_request 2 = .ok (.iload_n 1, 1) := by decide +kernel
theorem dX8_request_3 : decode cX8_request 3 = .ok (.invokevirtual 155, 3) := by decide +kernel
theorem dX8_request_6 : decode cX8_request 6 = .ok (.ifCond .ne 7, 3) := by decide +kernel
theorem dX8_request_9 : decode cX8_request 9 = .ok (.iconst 1, 1) := by decide +kernel
theorem dX8_request_10 : decode cX8_request 10 = .ok (.goto 37, 3) := by decide +kernel
theorem dX8_request_13 : decode cX8_request 13 = .ok (.iload_n 2, 1) := by decide +kernel
theorem dX8_request_14 : decode cX8_request 14 = .ok (.invokestatic 146, 3) := by decide +kernel
theorem dX8_request_17 : decode cX8_request 17 = .ok (.ifCond .ne 7, 3) := by decide +kernel
theorem dX8_request_20 : decode cX8_request 20 = .ok (.iconst 2, 1) := by decide +kernel
theorem dX8_request_21 : decode cX8_request 21 = .ok (.goto 26, 3) := by decide +kernel
theorem dX8_request_24 : decode cX8_request 24 = .ok (.aload_n 0, 1) := by decide +kernel
theorem dX8_request_25 : decode cX8_request 25 = .ok (.iload_n 1, 1) := by decide +kernel
theorem dX8_request_26 : decode cX8_request 26 = .ok (.iload_n 2, 1) := by decide +kernel
theorem dX8_request_27 : decode cX8_request 27 = .ok (.invokevirtual 186, 3) := by decide +kernel
theorem dX8_request_30 : decode cX8_request 30 = .ok (.ifCond .ne 16, 3) := by decide +kernel
theorem dX8_request_33 : decode cX8_request 33 = .ok (.aload_n 0, 1) := by decide +kernel
theorem dX8_request_34 : decode cX8_request 34 = .ok (.invokevirtual 189, 3) := by decide +kernel
theorem dX8_request_37 : decode cX8_request 37 = .ok (.bipush 40, 2) := by decide +kernel
theorem dX8_request_39 : decode cX8_request 39 = .ok (.if_icmp .ne 7, 3) := by decide +kernel
theorem dX8_request_42 : decode cX8_request 42 = .ok (.iconst 3, 1) := by decide +kernel
theorem dX8_request_43 : decode cX8_request 43 = .ok (.goto 4, 3) := by decide +kernel
theorem dX8_request_46 : decode cX8_request 46 = .ok (.iconst 0, 1) := by decide +kernel
theorem dX8_request_47 : decode cX8_request 47 = .ok (.putfield 88, 3) := by decide +kernel
theorem dX8_request_50 : decode cX8_request 50 = .ok (.aload_n 0, 1) := by decide +kernel
theorem dX8_request_51 : decode cX8_request 51 = .ok (.getfield 88, 3) := by decide +kernel
theorem dX8_request_54 : decode cX8_request 54 = .ok (.ifCond .le 5, 3) := by decide +kernel
theorem dX8_request_57 : decode cX8_request 57 = .ok (.iconst 0, 1) := by decide +kernel
theorem dX8_request_58 : decode cX8_request 58 = .ok (.ireturn, 1) := by decide +kernel
theorem dX8_request_59 : decode cX8_request 59 = .ok (.aload_n 0, 1) := by decide +kernel
theorem dX8_request_60 : decode cX8_request 60 = .ok (.iload_n 1, 1) := by decide +kernel
theorem dX8_request_61 : decode cX8_request 61 = .ok (.iload_n 2, 1) := by decide +kernel
theorem dX8_request_62 : decode cX8_request 62 = .ok (.invokevirtual 186, 3) := by decide +kernel
theorem dX8_request_65 : decode cX8_request 65 = .ok (.istore_n 3, 1) := by decide +kernel
theorem dX8_request_66 : decode cX8_request 66 = .ok (.aload_n 0, 1) := by decide +kernel
theorem dX8_request_67 : decode cX8_request 67 = .ok (.getfield 54, 3) := by decide +kernel
theorem dX8_request_70 : decode cX8_request 70 = .ok (.iload_n 1, 1) := by decide +kernel
theorem dX8_request_71 : decode cX8_request 71 = .ok (.dup2, 1) := by decide +kernel
theorem dX8_request_72 : decode cX8_request 72 = .ok (.iaload, 1) := by decide +kernel
theorem dX8_request_73 : decode cX8_request 73 = .ok (.aload_n 0, 1) := by decide +kernel
theorem dX8_request_74 : decode cX8_request 74 = .ok (.getfield 36, 3) := by decide +kernel
theorem dX8_request_77 : decode cX8_request 77 = .ok (.iload_n 1, 1) := by decide +kernel
theorem dX8_request_78 : decode cX8_request 78 = .ok (.baload, 1) := by decide +kernel
theorem dX8_request_79 : decode cX8_request 79 = .ok (.ifCond .eq 16, 3) := by decide +kernel
theorem dX8_request_82 : decode cX8_request 82 = .ok (.aload_n 0, 1) := by decide +kernel
theorem dX8_request_83 : decode cX8_request 83 = .ok (.getfield 54, 3) := by decide +kernel
theorem dX8_request_86 : decode cX8_request 86 = .ok (.iload_n 1, 1) := by decide +kernel
theorem dX8_request_87 : decode cX8_request 87 = .ok (.iaload, 1) := by decide +kernel
theorem dX8_request_88 : decode cX8_request 88 = .ok (.ifCond .le 7, 3) := by decide +kernel
theorem dX8_request_91 : decode cX8_request 91 = .ok (.iconst 1, 1) := by decide +kernel
theorem dX8_request_92 : decode cX8_request 92 = .ok (.goto 4, 3) := by decide +kernel
theorem dX8_request_95 : decode cX8_request 95 = .ok (.iconst 0, 1) := by decide +kernel
theorem dX8_request_96 : decode cX8_request 96 = .ok (.isub, 1) := by decide +kernel
theorem dX8_request_97 : decode cX8_request 97 = .ok (.iastore, 1) := by decide +kernel
theorem dX8_request_98 : decode cX8_request 98 = .ok (.iload_n 3, 1) := by decide +kernel
theorem dX8_request_99 : decode cX8_request 99 = .ok (.ifCond .le 12, 3) := by decide +kernel
theorem dX8_request_102 : decode cX8_request 102 = .ok (.aload_n 0, 1) := by decide +kernel
theorem dX8_request_103 : decode cX8_request 103 = .ok (.iconst 3, 1) := by decide +kernel
theorem dX8_request_104 : decode cX8_request 104 = .ok (.iload_n 1, 1) := by decide +kernel
theorem dX8_request_105 : decode cX8_request 105 = .ok (.iload_n 3, 1) := by decide +kernel
theorem dX8_request_106 : decode cX8_request 106 = .ok (.invokevirtual 162, 3) := by decide +kernel
theorem dX8_request_109 : decode cX8_request 109 = .ok (.iconst (-1), 1) := by decide +kernel
theorem dX8_request_110 : decode cX8_request 110 = .ok (.ireturn, 1) := by decide +kernel
theorem dX8_request_111 : decode cX8_request 111 = .ok (.aload_n 0, 1) := by decide +kernel
theorem dX8_request_112 : decode cX8_request 112 = .ok (.iload_n 2, 1) := by decide +kernel
theorem dX8_request_113 : decode cX8_request 113 = .ok (.invokevirtual 183, 3) := by decide +kernel
theorem dX8_request_116 : decode cX8_request 116 = .ok (.istore 4, 2) := by decide +kernel
theorem dX8_request_118 : decode cX8_request 118 = .ok (.aload_n 0, 1) := by decide +kernel
theorem dX8_request_119 : decode cX8_request 119 = .ok (.getfield 57, 3) := by decide +kernel
theorem dX8_request_122 : decode cX8_request 122 = .ok (.aload_n 0, 1) := by decide +kernel
theorem dX8_request_123 : decode cX8_request 123 = .ok (.getfield 152, 3) := by decide +kernel
theorem dX8_request_126 : decode cX8_request 126 = .ok (.iconst 1, 1) := by decide +kernel
theorem dX8_request_127 : decode cX8_request 127 = .ok (.bastore, 1) := by decide +kernel
theorem dX8_request_128 : decode cX8_request 128 = .ok (.aload_n 0, 1) := by decide +kernel
theorem dX8_request_129 : decode cX8_request 129 = .ok (.getfield 60, 3) := by decide +kernel
theorem dX8_request_132 : decode cX8_request 132 = .ok (.aload_n 0, 1) := by decide +kernel
theorem dX8_request_133 : decode cX8_request 133 = .ok (.getfield 152, 3) := by decide +kernel
theorem dX8_request_136 : decode cX8_request 136 = .ok (.iload_n 1, 1) := by decide +kernel
theorem dX8_request_137 : decode cX8_request 137 = .ok (.iastore, 1) := by decide +kernel
theorem dX8_request_138 : decode cX8_request 138 = .ok (.aload_n 0, 1) := by decide +kernel
theorem dX8_request_139 : decode cX8_request 139 = .ok (.getfield 63, 3) := by decide +kernel
theorem dX8_request_142 : decode cX8_request 142 = .ok (.aload_n 0, 1) := by decide +kernel
theorem dX8_request_143 : decode cX8_request 143 = .ok (.getfield 152, 3) := by decide +kernel
theorem dX8_request_146 : decode cX8_request 146 = .ok (.iload_n 2, 1) := by decide +kernel
theorem dX8_request_147 : decode cX8_request 147 = .ok (.iastore, 1) := by decide +kernel
theorem dX8_request_148 : decode cX8_request 148 = .ok (.aload_n 0, 1) := by decide +kernel
theorem dX8_request_149 : decode cX8_request 149 = .ok (.getfield 66, 3) := by decide +kernel
theorem dX8_request_152 : decode cX8_request 152 = .ok (.aload_n 0, 1) := by decide +kernel
theorem dX8_request_153 : decode cX8_request 153 = .ok (.getfield 152, 3) := by decide +kernel
theorem dX8_request_156 : decode cX8_request 156 = .ok (.aload_n 0, 1) := by decide +kernel
theorem dX8_request_157 : decode cX8_request 157 = .ok (.getfield 104, 3) := by decide +kernel
theorem dX8_request_160 : decode cX8_request 160 = .ok (.iastore, 1) := by decide +kernel
theorem dX8_request_161 : decode cX8_request 161 = .ok (.aload_n 0, 1) := by decide +kernel
theorem dX8_request_162 : decode cX8_request 162 = .ok (.getfield 69, 3) := by decide +kernel
theorem dX8_request_165 : decode cX8_request 165 = .ok (.aload_n 0, 1) := by decide +kernel
theorem dX8_request_166 : decode cX8_request 166 = .ok (.getfield 152, 3) := by decide +kernel
theorem dX8_request_169 : decode cX8_request 169 = .ok (.aload_n 0, 1) := by decide +kernel
theorem dX8_request_170 : decode cX8_request 170 = .ok (.getfield 104, 3) := by decide +kernel
theorem dX8_request_173 : decode cX8_request 173 = .ok (.aload_n 0, 1) := by decide +kernel
theorem dX8_request_174 : decode cX8_request 174 = .ok (.getfield 26, 3) := by decide +kernel
theorem dX8_request_177 : decode cX8_request 177 = .ok (.iload 4, 2) := by decide +kernel
theorem dX8_request_179 : decode cX8_request 179 = .ok (.iaload, 1) := by decide +kernel
theorem dX8_request_180 : decode cX8_request 180 = .ok (.iadd, 1) := by decide +kernel
theorem dX8_request_181 : decode cX8_request 181 = .ok (.iastore, 1) := by decide +kernel
theorem dX8_request_182 : decode cX8_request 182 = .ok (.aload_n 0, 1) := by decide +kernel
theorem dX8_request_183 : decode cX8_request 183 = .ok (.getfield 72, 3) := by decide +kernel
theorem dX8_request_186 : decode cX8_request 186 = .ok (.aload_n 0, 1) := by decide +kernel
theorem dX8_request_187 : decode cX8_request 187 = .ok (.getfield 152, 3) := by decide +kernel
theorem dX8_request_190 : decode cX8_request 190 = .ok (.aload_n 0, 1) := by decide +kernel
theorem dX8_request_191 : decode cX8_request 191 = .ok (.getfield 29, 3) := by decide +kernel
theorem dX8_request_194 : decode cX8_request 194 = .ok (.iload 4, 2) := by decide +kernel
theorem dX8_request_196 : decode cX8_request 196 = .ok (.iaload, 1) := by decide +kernel
theorem dX8_request_197 : decode cX8_request 197 = .ok (.iastore, 1) := by decide +kernel
theorem dX8_request_198 : decode cX8_request 198 = .ok (.aload_n 0, 1) := by decide +kernel
theorem dX8_request_199 : decode cX8_request 199 = .ok (.dup, 1) := by decide +kernel
theorem dX8_request_200 : decode cX8_request 200 = .ok (.getfield 152, 3) := by decide +kernel
theorem dX8_request_203 : decode cX8_request 203 = .ok (.iconst 1, 1) := by decide +kernel
theorem dX8_request_204 : decode cX8_request 204 = .ok (.iadd, 1) := by decide +kernel
theorem dX8_request_205 : decode cX8_request 205 = .ok (.putfield 152, 3) := by decide +kernel
theorem dX8_request_208 : decode cX8_request 208 = .ok (.aload_n 0, 1) := by decide +kernel
theorem dX8_request_209 : decode cX8_request 209 = .ok (.iconst 2, 1) := by decide +kernel
theorem dX8_request_210 : decode cX8_request 210 = .ok (.iload_n 1, 1) := by decide +kernel
theorem dX8_request_211 : decode cX8_request 211 = .ok (.aload_n 0, 1) := by decide +kernel
theorem dX8_request_212 : decode cX8_request 212 = .ok (.getfield 152, 3) := by decide +kernel
theorem dX8_request_215 : decode cX8_request 215 = .ok (.iconst 1, 1) := by decide +kernel
theorem dX8_request_216 : decode cX8_request 216 = .ok (.isub, 1) := by decide +kernel
theorem dX8_request_217 : decode cX8_request 217 = .ok (.invokevirtual 162, 3) := by decide +kernel
theorem dX8_request_220 : decode cX8_request 220 = .ok (.aload_n 0, 1) := by decide +kernel
theorem dX8_request_221 : decode cX8_request 221 = .ok (.getfield 152, 3) := by decide +kernel
theorem dX8_request_224 : decode cX8_request 224 = .ok (.iconst 1, 1) := by decide +kernel
theorem dX8_request_225 : decode cX8_request 225 = .ok (.isub, 1) := by decide +kernel
theorem dX8_request_226 : decode cX8_request 226 = .ok (.ireturn, 1) := by decide +kernel
set_option maxRecDepth 20000 in
theorem ggX8_whyDenied_X8_wasMade : GoodIn wsX8_whyDenied wsX8_wasMade := goodIn_r _ [6, 7, 60, 61, 62, 63, 64, 65, 66, 67, 68, 69, 70, 71, 72, 73, 74, 75, 76, 77, 78, 79, 80, 81, 82, 83, 84, 85, 86, 87, 88, 89, 90] (by decide +kernel) (by decide +kernel)
set_option maxRecDepth 20000 in
theorem gX8_whyDenied_X8_wasMade : GoodIn wsX8_whyDenied (wsV RX8 155 RX8 yX8_wasMade wsX8_wasMade) := goodIn_app (goodIn_of _ (by decide +kernel)) ggX8_whyDenied_X8_wasMade
set_option maxRecDepth 20000 in
theorem ggX8_whyDenied_X8_isPath : GoodIn wsX8_whyDenied wsX8_isPath := goodIn_r _ [10, 11, 12, 5, 13, 14, 15, 16] (by decide +kernel) (by decide +kernel)
set_option maxRecDepth 20000 in
theorem gX8_whyDenied_X8_isPath : GoodIn wsX8_whyDenied (va_wsS RX8 146 yX8_isPath wsX8_isPath) := goodIn_app (goodIn_of _ (by decide +kernel)) ggX8_whyDenied_X8_isPath
set_option maxRecDepth 20000 in
theorem ggX8_whyDenied_X8_reason : GoodIn wsX8_whyDenied wsX8_reason := goodIn_r _ [20, 21, 22, 23, 24, 25, 5, 26, 27, 28, 29, 30, 31, 14, 15, 16, 32, 33, 34, 35, 36, 37, 38, 39, 40, 41, 42, 43, 44, 45, 46, 47, 48, 49, 50, 51, 52, 53, 54, 55, 56, 57, 58, 59, 60, 61, 62, 63, 64, 65, 66, 67, 68, 69, 70, 71, 72, 73, 74, 75, 76, 77, 78, 79, 80, 81, 82, 83, 84, 85, 86, 87, 88, 89, 90] (by decide +kernel) (by decide +kernel)
set_option maxRecDepth 20000 in
theorem gX8_whyDenied_X8_reason : GoodIn wsX8_whyDenied (wsV RX8 186 RX8 yX8_reason wsX8_reason) := goodIn_app (goodIn_of _ (by decide +kernel)) ggX8_whyDenied_X8_reason
theorem dX8_whyDenied_0 : decode cX8_whyDenied 0 = .ok (.aload_n 0, 1) := by decide +kernel
theorem dX8_whyDenied_1 : decode cX8_whyDenied 1 = .ok (.aload_n 0, 1) := by decide +kernel
theorem dX8_whyDenied_2 : decode cX8_whyDenied 2 = .ok (.iload_n 1, 1) := by decide +kernel
theorem dX8_whyDenied_3 : decode cX8_whyDenied 3 = .ok (.invokevirtual 155, 3) := by decide +kernel
theorem dX8_whyDenied_6 : decode cX8_whyDenied 6 = .ok (.ifCond .ne 7, 3) := by decide +kernel
theorem dX8_whyDenied_9 : decode cX8_whyDenied 9 = .ok (.iconst 1, 1) := by decide +kernel
theorem dX8_whyDenied_10 : decode cX8_whyDenied 10 = .ok (.goto 15, 3) := by decide +kernel
theorem dX8_whyDenied_13 : decode cX8_whyDenied 13 = .ok (.iload_n 2, 1) := by decide +kernel
theorem dX8_whyDenied_14 : decode cX8_whyDenied 14 = .ok (.invokestatic 146, 3) := by decide +kernel
theorem dX8_whyDenied_17 : decode cX8_whyDenied 17 = .ok (.ifCond .ne 7, 3) := by decide +kernel
theorem dX8_whyDenied_20 : decode cX8_whyDenied 20 = .ok (.iconst 2, 1) := by decide +kernel
theorem dX8_whyDenied_21 : decode cX8_whyDenied 21 = .ok (.goto 4, 3) := by decide +kernel
theorem dX8_whyDenied_24 : decode cX8_whyDenied 24 = .ok (.iconst 0, 1) := by decide +kernel
theorem dX8_whyDenied_25 : decode cX8_whyDenied 25 = .ok (.putfield 88, 3) := by decide +kernel
theorem dX8_whyDenied_28 : decode cX8_whyDenied 28 = .ok (.aload_n 0, 1) := by decide +kernel
theorem dX8_whyDenied_29 : decode cX8_whyDenied 29 = .ok (.getfield 88, 3) := by decide +kernel
theorem dX8_whyDenied_32 : decode cX8_whyDenied 32 = .ok (.ifCond .le 7, 3) := by decide +kernel
theorem dX8_whyDenied_35 : decode cX8_whyDenied 35 = .ok (.iconst 0, 1) := by decide +kernel
theorem dX8_whyDenied_36 : decode cX8_whyDenied 36 = .ok (.goto 9, 3) := by decide +kernel
theorem dX8_whyDenied_39 : decode cX8_whyDenied 39 = .ok (.aload_n 0, 1) := by decide +kernel
theorem dX8_whyDenied_40 : decode cX8_whyDenied 40 = .ok (.iload_n 1, 1) := by decide +kernel
theorem dX8_whyDenied_41 : decode cX8_whyDenied 41 = .ok (.iload_n 2, 1) := by decide +kernel
theorem dX8_whyDenied_42 : decode cX8_whyDenied 42 = .ok (.invokevirtual 186, 3) := by decide +kernel
theorem dX8_whyDenied_45 : decode cX8_whyDenied 45 = .ok (.ireturn, 1) := by decide +kernel
theorem dX8_wasGiven_0 : decode cX8_wasGiven 0 = .ok (.iload_n 1, 1) := by decide +kernel
theorem dX8_wasGiven_1 : decode cX8_wasGiven 1 = .ok (.ifCond .lt 15, 3) := by decide +kernel
theorem dX8_wasGiven_4 : decode cX8_wasGiven 4 = .ok (.iload_n 1, 1) := by decide +kernel
theorem dX8_wasGiven_5 : decode cX8_wasGiven 5 = .ok (.aload_n 0, 1) := by decide +kernel
theorem dX8_wasGiven_6 : decode cX8_wasGiven 6 = .ok (.getfield 152, 3) := by decide +kernel
theorem dX8_wasGiven_9 : decode cX8_wasGiven 9 = .ok (.if_icmp .ge 7, 3) := by decide +kernel
theorem dX8_wasGiven_12 : decode cX8_wasGiven 12 = .ok (.iconst 1, 1) := by decide +kernel
theorem dX8_wasGiven_13 : decode cX8_wasGiven 13 = .ok (.goto 4, 3) := by decide +kernel
theorem dX8_wasGiven_16 : decode cX8_wasGiven 16 = .ok (.iconst 0, 1) := by decide +kernel
theorem dX8_wasGiven_17 : decode cX8_wasGiven 17 = .ok (.ireturn, 1) := by decide +kernel
set_option maxRecDepth 20000 in
theorem ggX8_renewCredential_X8_wasGiven : GoodIn wsX8_renewCredential wsX8_wasGiven := goodIn_r _ [11, 12, 33, 34, 35, 36, 37, 38, 39, 40, 41, 42, 43, 44, 45, 46, 47, 48, 49, 50, 51, 52, 53, 54, 55, 56, 57, 58, 59, 60, 61, 62, 63] (by decide +kernel) (by decide +kernel)
set_option maxRecDepth 20000 in
theorem gX8_renewCredential_X8_wasGiven : GoodIn wsX8_renewCredential (wsV RX8 192 RX8 yX8_wasGiven wsX8_wasGiven) := goodIn_app (goodIn_of _ (by decide +kernel)) ggX8_renewCredential_X8_wasGiven
set_option maxRecDepth 20000 in
theorem ggX8_renewCredential_X8_renewed : GoodIn wsX8_renewCredential wsX8_renewed := goodIn_r _ [16, 17, 33, 34, 35, 36, 37, 38, 39, 40, 41, 42, 43, 44, 45, 46, 47, 48, 49, 50, 51, 52, 53, 54, 55, 56, 57, 58, 59, 60, 61, 62, 63] (by decide +kernel) (by decide +kernel)
set_option maxRecDepth 20000 in
theorem gX8_renewCredential_X8_renewed : GoodIn wsX8_renewCredential (wsV RX8 170 RX8 yX8_renewed wsX8_renewed) := goodIn_app (goodIn_of _ (by decide +kernel)) ggX8_renewCredential_X8_renewed
set_option maxRecDepth 20000 in
theorem ggX8_renewCredential_X8_writes : GoodIn wsX8_renewCredential wsX8_writes := goodIn_r _ [21, 22, 23, 24, 25, 26, 27, 28, 29, 30, 31, 17, 32, 33, 34, 35, 36, 37, 38, 39, 40, 41, 42, 43, 44, 45, 46, 47, 48, 49, 50, 51, 52, 53, 54, 55, 56, 57, 58, 59, 60, 61, 62, 63] (by decide +kernel) (by decide +kernel)
set_option maxRecDepth 20000 in
theorem gX8_renewCredential_X8_writes : GoodIn wsX8_renewCredential (wsV RX8 162 RX8 yX8_writes wsX8_writes) := goodIn_app (goodIn_of _ (by decide +kernel)) ggX8_renewCredential_X8_writes
theorem dX8_renewCredential_0 : decode cX8_renewCredential 0 = .ok (.aload_n 0, 1) := by decide +kernel
theorem dX8_renewCredential_1 : decode cX8_renewCredential 1 = .ok (.aload_n 0, 1) := by decide +kernel
theorem dX8_renewCredential_2 : decode cX8_renewCredential 2 = .ok (.iload_n 1, 1) := by decide +kernel
theorem dX8_renewCredential_3 : decode cX8_renewCredential 3 = .ok (.invokevirtual 192, 3) := by decide +kernel
theorem dX8_renewCredential_6 : decode cX8_renewCredential 6 = .ok (.ifCond .ne 7, 3) := by decide +kernel
theorem dX8_renewCredential_9 : decode cX8_renewCredential 9 = .ok (.iconst 1, 1) := by decide +kernel
theorem dX8_renewCredential_10 : decode cX8_renewCredential 10 = .ok (.goto 33, 3) := by decide +kernel
theorem dX8_renewCredential_13 : decode cX8_renewCredential 13 = .ok (.iload_n 2, 1) := by decide +kernel
theorem dX8_renewCredential_14 : decode cX8_renewCredential 14 = .ok (.iconst 1, 1) := by decide +kernel
theorem dX8_renewCredential_15 : decode cX8_renewCredential 15 = .ok (.if_icmp .lt 10, 3) := by decide +kernel
theorem dX8_renewCredential_18 : decode cX8_renewCredential 18 = .ok (.iload_n 2, 1) := by decide +kernel
theorem dX8_renewCredential_19 : decode cX8_renewCredential 19 = .ok (.sipush 1000, 3) := by decide +kernel
theorem dX8_renewCredential_22 : decode cX8_renewCredential 22 = .ok (.if_icmp .le 7, 3) := by decide +kernel
theorem dX8_renewCredential_25 : decode cX8_renewCredential 25 = .ok (.iconst 2, 1) := by decide +kernel
theorem dX8_renewCredential_26 : decode cX8_renewCredential 26 = .ok (.goto 17, 3) := by decide +kernel
theorem dX8_renewCredential_29 : decode cX8_renewCredential 29 = .ok (.aload_n 0, 1) := by decide +kernel
theorem dX8_renewCredential_30 : decode cX8_renewCredential 30 = .ok (.getfield 57, 3) := by decide +kernel
theorem dX8_renewCredential_33 : decode cX8_renewCredential 33 = .ok (.iload_n 1, 1) := by decide +kernel
theorem dX8_renewCredential_34 : decode cX8_renewCredential 34 = .ok (.baload, 1) := by decide +kernel
theorem dX8_renewCredential_35 : decode cX8_renewCredential 35 = .ok (.ifCond .ne 7, 3) := by decide +kernel
theorem dX8_renewCredential_38 : decode cX8_renewCredential 38 = .ok (.iconst 3, 1) := by decide +kernel
theorem dX8_renewCredential_39 : decode cX8_renewCredential 39 = .ok (.goto 4, 3) := by decide +kernel
theorem dX8_renewCredential_42 : decode cX8_renewCredential 42 = .ok (.iconst 0, 1) := by decide +kernel
theorem dX8_renewCredential_43 : decode cX8_renewCredential 43 = .ok (.putfield 88, 3) := by decide +kernel
theorem dX8_renewCredential_46 : decode cX8_renewCredential 46 = .ok (.aload_n 0, 1) := by decide +kernel
theorem dX8_renewCredential_47 : decode cX8_renewCredential 47 = .ok (.getfield 88, 3) := by decide +kernel
theorem dX8_renewCredential_50 : decode cX8_renewCredential 50 = .ok (.ifCond .le 5, 3) := by decide +kernel
theorem dX8_renewCredential_53 : decode cX8_renewCredential 53 = .ok (.iconst 0, 1) := by decide +kernel
theorem dX8_renewCredential_54 : decode cX8_renewCredential 54 = .ok (.ireturn, 1) := by decide +kernel
theorem dX8_renewCredential_55 : decode cX8_renewCredential 55 = .ok (.aload_n 0, 1) := by decide +kernel
theorem dX8_renewCredential_56 : decode cX8_renewCredential 56 = .ok (.getfield 69, 3) := by decide +kernel
theorem dX8_renewCredential_59 : decode cX8_renewCredential 59 = .ok (.iload_n 1, 1) := by decide +kernel
theorem dX8_renewCredential_60 : decode cX8_renewCredential 60 = .ok (.aload_n 0, 1) := by decide +kernel
theorem dX8_renewCredential_61 : decode cX8_renewCredential 61 = .ok (.aload_n 0, 1) := by decide +kernel
theorem dX8_renewCredential_62 : decode cX8_renewCredential 62 = .ok (.getfield 66, 3) := by decide +kernel
theorem dX8_renewCredential_65 : decode cX8_renewCredential 65 = .ok (.iload_n 1, 1) := by decide +kernel
theorem dX8_renewCredential_66 : decode cX8_renewCredential 66 = .ok (.iaload, 1) := by decide +kernel
theorem dX8_renewCredential_67 : decode cX8_renewCredential 67 = .ok (.aload_n 0, 1) := by decide +kernel
theorem dX8_renewCredential_68 : decode cX8_renewCredential 68 = .ok (.getfield 69, 3) := by decide +kernel
theorem dX8_renewCredential_71 : decode cX8_renewCredential 71 = .ok (.iload_n 1, 1) := by decide +kernel
theorem dX8_renewCredential_72 : decode cX8_renewCredential 72 = .ok (.iaload, 1) := by decide +kernel
theorem dX8_renewCredential_73 : decode cX8_renewCredential 73 = .ok (.aload_n 0, 1) := by decide +kernel
theorem dX8_renewCredential_74 : decode cX8_renewCredential 74 = .ok (.getfield 72, 3) := by decide +kernel
theorem dX8_renewCredential_77 : decode cX8_renewCredential 77 = .ok (.iload_n 1, 1) := by decide +kernel
theorem dX8_renewCredential_78 : decode cX8_renewCredential 78 = .ok (.iaload, 1) := by decide +kernel
theorem dX8_renewCredential_79 : decode cX8_renewCredential 79 = .ok (.iload_n 2, 1) := by decide +kernel
theorem dX8_renewCredential_80 : decode cX8_renewCredential 80 = .ok (.invokevirtual 170, 3) := by decide +kernel
theorem dX8_renewCredential_83 : decode cX8_renewCredential 83 = .ok (.iastore, 1) := by decide +kernel
theorem dX8_renewCredential_84 : decode cX8_renewCredential 84 = .ok (.aload_n 0, 1) := by decide +kernel
theorem dX8_renewCredential_85 : decode cX8_renewCredential 85 = .ok (.iconst 1, 1) := by decide +kernel
theorem dX8_renewCredential_86 : decode cX8_renewCredential 86 = .ok (.aload_n 0, 1) := by decide +kernel
theorem dX8_renewCredential_87 : decode cX8_renewCredential 87 = .ok (.getfield 60, 3) := by decide +kernel
theorem dX8_renewCredential_90 : decode cX8_renewCredential 90 = .ok (.iload_n 1, 1) := by decide +kernel
theorem dX8_renewCredential_91 : decode cX8_renewCredential 91 = .ok (.iaload, 1) := by decide +kernel
theorem dX8_renewCredential_92 : decode cX8_renewCredential 92 = .ok (.aload_n 0, 1) := by decide +kernel
theorem dX8_renewCredential_93 : decode cX8_renewCredential 93 = .ok (.getfield 69, 3) := by decide +kernel
theorem dX8_renewCredential_96 : decode cX8_renewCredential 96 = .ok (.iload_n 1, 1) := by decide +kernel
theorem dX8_renewCredential_97 : decode cX8_renewCredential 97 = .ok (.iaload, 1) := by decide +kernel
theorem dX8_renewCredential_98 : decode cX8_renewCredential 98 = .ok (.invokevirtual 162, 3) := by decide +kernel
theorem dX8_renewCredential_101 : decode cX8_renewCredential 101 = .ok (.aload_n 0, 1) := by decide +kernel
theorem dX8_renewCredential_102 : decode cX8_renewCredential 102 = .ok (.getfield 69, 3) := by decide +kernel
theorem dX8_renewCredential_105 : decode cX8_renewCredential 105 = .ok (.iload_n 1, 1) := by decide +kernel
theorem dX8_renewCredential_106 : decode cX8_renewCredential 106 = .ok (.iaload, 1) := by decide +kernel
theorem dX8_renewCredential_107 : decode cX8_renewCredential 107 = .ok (.ireturn, 1) := by decide +kernel
set_option maxRecDepth 20000 in
theorem ggX8_revokeBelow_X8_isPath : GoodIn wsX8_revokeBelow wsX8_isPath := goodIn_r _ [8, 9, 10, 7, 11, 12, 13, 14] (by decide +kernel) (by decide +kernel)
set_option maxRecDepth 20000 in
theorem gX8_revokeBelow_X8_isPath : GoodIn wsX8_revokeBelow (va_wsS RX8 146 yX8_isPath wsX8_isPath) := goodIn_app (goodIn_of _ (by decide +kernel)) ggX8_revokeBelow_X8_isPath
set_option maxRecDepth 20000 in
theorem ggX8_revokeBelow_X8_isBelow : GoodIn wsX8_revokeBelow wsX8_isBelow := goodIn_r _ [17, 12, 13, 7, 14, 18, 19, 20] (by decide +kernel) (by decide +kernel)
set_option maxRecDepth 20000 in
theorem gX8_revokeBelow_X8_isBelow : GoodIn wsX8_revokeBelow (va_wsS RX8 139 yX8_isBelow wsX8_isBelow) := goodIn_app (goodIn_of _ (by decide +kernel)) ggX8_revokeBelow_X8_isBelow
set_option maxRecDepth 20000 in
theorem ggX8_revokeBelow_X8_writes : GoodIn wsX8_revokeBelow wsX8_writes := goodIn_r _ [24, 25, 26, 27, 28, 29, 30, 31, 32, 33, 34, 35, 36, 37, 38, 39, 40, 41, 42, 43, 44, 45, 46, 47, 48, 49, 50, 51, 52, 53, 54, 55, 56, 57, 58, 59, 60, 61, 62, 63, 64, 65, 66, 67] (by decide +kernel) (by decide +kernel)
set_option maxRecDepth 20000 in
theorem gX8_revokeBelow_X8_writes : GoodIn wsX8_revokeBelow (wsV RX8 162 RX8 yX8_writes wsX8_writes) := goodIn_app (goodIn_of _ (by decide +kernel)) ggX8_revokeBelow_X8_writes
theorem dX8_revokeBelow_0 : decode cX8_revokeBelow 0 = .ok (.aload_n 0, 1) := by decide +kernel
theorem dX8_revokeBelow_1 : decode cX8_revokeBelow 1 = .ok (.iload_n 1, 1) := by decide +kernel
theorem dX8_revokeBelow_2 : decode cX8_revokeBelow 2 = .ok (.invokestatic 146, 3) := by decide +kernel
theorem dX8_revokeBelow_5 : decode cX8_revokeBelow 5 = .ok (.ifCond .eq 7, 3) := by decide +kernel
theorem dX8_revokeBelow_8 : decode cX8_revokeBelow 8 = .ok (.iconst 0, 1) := by decide +kernel
theorem dX8_revokeBelow_9 : decode cX8_revokeBelow 9 = .ok (.goto 4, 3) := by decide +kernel
theorem dX8_revokeBelow_12 : decode cX8_revokeBelow 12 = .ok (.iconst 1, 1) := by decide +kernel
theorem dX8_revokeBelow_13 : decode cX8_revokeBelow 13 = .ok (.putfield 88, 3) := by decide +kernel
theorem dX8_revokeBelow_16 : decode cX8_revokeBelow 16 = .ok (.aload_n 0, 1) := by decide +kernel
theorem dX8_revokeBelow_17 : decode cX8_revokeBelow 17 = .ok (.getfield 88, 3) := by decide +kernel
theorem dX8_revokeBelow_20 : decode cX8_revokeBelow 20 = .ok (.ifCond .le 5, 3) := by decide +kernel
theorem dX8_revokeBelow_23 : decode cX8_revokeBelow 23 = .ok (.iconst 0, 1) := by decide +kernel
theorem dX8_revokeBelow_24 : decode cX8_revokeBelow 24 = .ok (.ireturn, 1) := by decide +kernel
theorem dX8_revokeBelow_25 : decode cX8_revokeBelow 25 = .ok (.iconst 0, 1) := by decide +kernel
theorem dX8_revokeBelow_26 : decode cX8_revokeBelow 26 = .ok (.istore_n 2, 1) := by decide +kernel
theorem dX8_revokeBelow_27 : decode cX8_revokeBelow 27 = .ok (.iconst 0, 1) := by decide +kernel
theorem dX8_revokeBelow_28 : decode cX8_revokeBelow 28 = .ok (.istore_n 3, 1) := by decide +kernel
theorem dX8_revokeBelow_29 : decode cX8_revokeBelow 29 = .ok (.iload_n 3, 1) := by decide +kernel
theorem dX8_revokeBelow_30 : decode cX8_revokeBelow 30 = .ok (.aload_n 0, 1) := by decide +kernel
theorem dX8_revokeBelow_31 : decode cX8_revokeBelow 31 = .ok (.getfield 152, 3) := by decide +kernel
theorem dX8_revokeBelow_34 : decode cX8_revokeBelow 34 = .ok (.if_icmp .ge 41, 3) := by decide +kernel
theorem dX8_revokeBelow_37 : decode cX8_revokeBelow 37 = .ok (.aload_n 0, 1) := by decide +kernel
theorem dX8_revokeBelow_38 : decode cX8_revokeBelow 38 = .ok (.getfield 57, 3) := by decide +kernel
theorem dX8_revokeBelow_41 : decode cX8_revokeBelow 41 = .ok (.iload_n 3, 1) := by decide +kernel
theorem dX8_revokeBelow_42 : decode cX8_revokeBelow 42 = .ok (.baload, 1) := by decide +kernel
theorem dX8_revokeBelow_43 : decode cX8_revokeBelow 43 = .ok (.ifCond .eq 26, 3) := by decide +kernel
theorem dX8_revokeBelow_46 : decode cX8_revokeBelow 46 = .ok (.aload_n 0, 1) := by decide +kernel
theorem dX8_revokeBelow_47 : decode cX8_revokeBelow 47 = .ok (.getfield 63, 3) := by decide +kernel
theorem dX8_revokeBelow_50 : decode cX8_revokeBelow 50 = .ok (.iload_n 3, 1) := by decide +kernel
theorem dX8_revokeBelow_51 : decode cX8_revokeBelow 51 = .ok (.iaload, 1) := by decide +kernel
theorem dX8_revokeBelow_52 : decode cX8_revokeBelow 52 = .ok (.iload_n 1, 1) := by decide +kernel
theorem dX8_revokeBelow_53 : decode cX8_revokeBelow 53 = .ok (.invokestatic 139, 3) := by decide +kernel
theorem dX8_revokeBelow_56 : decode cX8_revokeBelow 56 = .ok (.ifCond .eq 13, 3) := by decide +kernel
theorem dX8_revokeBelow_59 : decode cX8_revokeBelow 59 = .ok (.aload_n 0, 1) := by decide +kernel
theorem dX8_revokeBelow_60 : decode cX8_revokeBelow 60 = .ok (.getfield 57, 3) := by decide +kernel
theorem dX8_revokeBelow_63 : decode cX8_revokeBelow 63 = .ok (.iload_n 3, 1) := by decide +kernel
theorem dX8_revokeBelow_64 : decode cX8_revokeBelow 64 = .ok (.iconst 0, 1) := by decide +kernel
theorem dX8_revokeBelow_65 : decode cX8_revokeBelow 65 = .ok (.bastore, 1) := by decide +kernel
theorem dX8_revokeBelow_66 : decode cX8_revokeBelow 66 = .ok (.iinc 2 1, 3) := by decide +kernel
theorem dX8_revokeBelow_69 : decode cX8_revokeBelow 69 = .ok (.iinc 3 1, 3) := by decide +kernel
theorem dX8_revokeBelow_72 : decode cX8_revokeBelow 72 = .ok (.goto (-43), 3) := by decide +kernel
theorem dX8_revokeBelow_75 : decode cX8_revokeBelow 75 = .ok (.aload_n 0, 1) := by decide +kernel
theorem dX8_revokeBelow_76 : decode cX8_revokeBelow 76 = .ok (.iconst 4, 1) := by decide +kernel
theorem dX8_revokeBelow_77 : decode cX8_revokeBelow 77 = .ok (.iconst 0, 1) := by decide +kernel
theorem dX8_revokeBelow_78 : decode cX8_revokeBelow 78 = .ok (.iload_n 2, 1) := by decide +kernel
theorem dX8_revokeBelow_79 : decode cX8_revokeBelow 79 = .ok (.invokevirtual 162, 3) := by decide +kernel
theorem dX8_revokeBelow_82 : decode cX8_revokeBelow 82 = .ok (.iload_n 2, 1) := by decide +kernel
theorem dX8_revokeBelow_83 : decode cX8_revokeBelow 83 = .ok (.ireturn, 1) := by decide +kernel
set_option maxRecDepth 20000 in
theorem ggX8_works_X8_wasGiven : GoodIn wsX8_works wsX8_wasGiven := goodIn_r _ [7, 8, 9, 10, 11, 12, 13, 14, 15, 16, 17, 18, 19, 20, 21, 22, 23, 24, 25, 26, 27, 28, 29, 30, 31, 32, 33, 34, 35, 36, 37, 38, 39] (by decide +kernel) (by decide +kernel)
set_option maxRecDepth 20000 in
theorem gX8_works_X8_wasGiven : GoodIn wsX8_works (wsV RX8 192 RX8 yX8_wasGiven wsX8_wasGiven) := goodIn_app (goodIn_of _ (by decide +kernel)) ggX8_works_X8_wasGiven
theorem dX8_works_0 : decode cX8_works 0 = .ok (.aload_n 0, 1) := by decide +kernel
theorem dX8_works_1 : decode cX8_works 1 = .ok (.aload_n 0, 1) := by decide +kernel
theorem dX8_works_2 : decode cX8_works 2 = .ok (.iload_n 1, 1) := by decide +kernel
theorem dX8_works_3 : decode cX8_works 3 = .ok (.invokevirtual 192, 3) := by decide +kernel
theorem dX8_works_6 : decode cX8_works 6 = .ok (.ifCond .eq 7, 3) := by decide +kernel
theorem dX8_works_9 : decode cX8_works 9 = .ok (.iconst 0, 1) := by decide +kernel
theorem dX8_works_10 : decode cX8_works 10 = .ok (.goto 4, 3) := by decide +kernel
theorem dX8_works_13 : decode cX8_works 13 = .ok (.iconst 1, 1) := by decide +kernel
theorem dX8_works_14 : decode cX8_works 14 = .ok (.putfield 88, 3) := by decide +kernel
theorem dX8_works_17 : decode cX8_works 17 = .ok (.aload_n 0, 1) := by decide +kernel
theorem dX8_works_18 : decode cX8_works 18 = .ok (.getfield 88, 3) := by decide +kernel
theorem dX8_works_21 : decode cX8_works 21 = .ok (.ifCond .ne 16, 3) := by decide +kernel
theorem dX8_works_24 : decode cX8_works 24 = .ok (.aload_n 0, 1) := by decide +kernel
theorem dX8_works_25 : decode cX8_works 25 = .ok (.getfield 57, 3) := by decide +kernel
theorem dX8_works_28 : decode cX8_works 28 = .ok (.iload_n 1, 1) := by decide +kernel
theorem dX8_works_29 : decode cX8_works 29 = .ok (.baload, 1) := by decide +kernel
theorem dX8_works_30 : decode cX8_works 30 = .ok (.ifCond .eq 7, 3) := by decide +kernel
theorem dX8_works_33 : decode cX8_works 33 = .ok (.iconst 1, 1) := by decide +kernel
theorem dX8_works_34 : decode cX8_works 34 = .ok (.goto 4, 3) := by decide +kernel
theorem dX8_works_37 : decode cX8_works 37 = .ok (.iconst 0, 1) := by decide +kernel
theorem dX8_works_38 : decode cX8_works 38 = .ok (.ireturn, 1) := by decide +kernel
set_option maxRecDepth 20000 in
theorem ggX8_endOfCredential_X8_wasGiven : GoodIn wsX8_endOfCredential wsX8_wasGiven := goodIn_r _ [7, 8, 9, 10, 11, 12, 13, 14, 15, 16, 17, 18, 19, 20, 21, 22, 23, 24, 25, 26, 27, 28, 29, 30, 31, 32, 33, 34, 35, 36, 37, 38, 39] (by decide +kernel) (by decide +kernel)
set_option maxRecDepth 20000 in
theorem gX8_endOfCredential_X8_wasGiven : GoodIn wsX8_endOfCredential (wsV RX8 192 RX8 yX8_wasGiven wsX8_wasGiven) := goodIn_app (goodIn_of _ (by decide +kernel)) ggX8_endOfCredential_X8_wasGiven
theorem dX8_endOfCredential_0 : decode cX8_endOfCredential 0 = .ok (.aload_n 0, 1) := by decide +kernel
theorem dX8_endOfCredential_1 : decode cX8_endOfCredential 1 = .ok (.aload_n 0, 1) := by decide +kernel
theorem dX8_endOfCredential_2 : decode cX8_endOfCredential 2 = .ok (.iload_n 1, 1) := by decide +kernel
theorem dX8_endOfCredential_3 : decode cX8_endOfCredential 3 = .ok (.invokevirtual 192, 3) := by decide +kernel
theorem dX8_endOfCredential_6 : decode cX8_endOfCredential 6 = .ok (.ifCond .eq 7, 3) := by decide +kernel
theorem dX8_endOfCredential_9 : decode cX8_endOfCredential 9 = .ok (.iconst 0, 1) := by decide +kernel
theorem dX8_endOfCredential_10 : decode cX8_endOfCredential 10 = .ok (.goto 4, 3) := by decide +kernel
theorem dX8_endOfCredential_13 : decode cX8_endOfCredential 13 = .ok (.iconst 1, 1) := by decide +kernel
theorem dX8_endOfCredential_14 : decode cX8_endOfCredential 14 = .ok (.putfield 88, 3) := by decide +kernel
theorem dX8_endOfCredential_17 : decode cX8_endOfCredential 17 = .ok (.aload_n 0, 1) := by decide +kernel
theorem dX8_endOfCredential_18 : decode cX8_endOfCredential 18 = .ok (.getfield 88, 3) := by decide +kernel
theorem dX8_endOfCredential_21 : decode cX8_endOfCredential 21 = .ok (.ifCond .le 7, 3) := by decide +kernel
theorem dX8_endOfCredential_24 : decode cX8_endOfCredential 24 = .ok (.iconst 0, 1) := by decide +kernel
theorem dX8_endOfCredential_25 : decode cX8_endOfCredential 25 = .ok (.goto 9, 3) := by decide +kernel
theorem dX8_endOfCredential_28 : decode cX8_endOfCredential 28 = .ok (.aload_n 0, 1) := by decide +kernel
theorem dX8_endOfCredential_29 : decode cX8_endOfCredential 29 = .ok (.getfield 69, 3) := by decide +kernel
theorem dX8_endOfCredential_32 : decode cX8_endOfCredential 32 = .ok (.iload_n 1, 1) := by decide +kernel
theorem dX8_endOfCredential_33 : decode cX8_endOfCredential 33 = .ok (.iaload, 1) := by decide +kernel
theorem dX8_endOfCredential_34 : decode cX8_endOfCredential 34 = .ok (.ireturn, 1) := by decide +kernel
set_option maxRecDepth 20000 in
theorem ggX8_credentials_X8_manyCredentials : GoodIn wsX8_credentials wsX8_manyCredentials := goodIn_r _ [6, 7, 8, 9, 10, 11, 12, 13, 14, 15, 16, 17, 18, 19, 20, 21, 22, 23, 24, 25, 26, 27, 28, 29, 30, 31, 32, 33, 34, 35, 36, 37, 38, 39] (by decide +kernel) (by decide +kernel)
set_option maxRecDepth 20000 in
theorem gX8_credentials_X8_manyCredentials : GoodIn wsX8_credentials (wsV RX8 189 RX8 yX8_manyCredentials wsX8_manyCredentials) := goodIn_app (goodIn_of _ (by decide +kernel)) ggX8_credentials_X8_manyCredentials
theorem dX8_credentials_0 : decode cX8_credentials 0 = .ok (.aload_n 0, 1) := by decide +kernel
theorem dX8_credentials_1 : decode cX8_credentials 1 = .ok (.iconst 0, 1) := by decide +kernel
theorem dX8_credentials_2 : decode cX8_credentials 2 = .ok (.putfield 88, 3) := by decide +kernel
theorem dX8_credentials_5 : decode cX8_credentials 5 = .ok (.aload_n 0, 1) := by decide +kernel
theorem dX8_credentials_6 : decode cX8_credentials 6 = .ok (.invokevirtual 189, 3) := by decide +kernel
theorem dX8_credentials_9 : decode cX8_credentials 9 = .ok (.ireturn, 1) := by decide +kernel
set_option maxRecDepth 20000 in
theorem ggX8_credentialsOf_X8_asks : GoodIn wsX8_credentialsOf wsX8_asks := goodIn_r _ [8, 9, 10, 11, 12, 7, 13, 14, 15, 16, 17, 18, 19, 20, 21, 22, 23, 24, 25, 26, 27, 28, 29, 30, 31, 32, 33, 34, 35, 36, 37, 38, 39, 40, 41, 42, 43, 44, 45] (by decide +kernel) (by decide +kernel)
set_option maxRecDepth 20000 in
theorem gX8_credentialsOf_X8_asks : GoodIn wsX8_credentialsOf (wsV RX8 177 RX8 yX8_asks wsX8_asks) := goodIn_app (goodIn_of _ (by decide +kernel)) ggX8_credentialsOf_X8_asks
theorem dX8_credentialsOf_0 : decode cX8_credentialsOf 0 = .ok (.iconst 0, 1) := by decide +kernel
theorem dX8_credentialsOf_1 : decode cX8_credentialsOf 1 = .ok (.istore_n 2, 1) := by decide +kernel
theorem dX8_credentialsOf_2 : decode cX8_credentialsOf 2 = .ok (.iconst 0, 1) := by decide +kernel
theorem dX8_credentialsOf_3 : decode cX8_credentialsOf 3 = .ok (.istore_n 3, 1) := by decide +kernel
theorem dX8_credentialsOf_4 : decode cX8_credentialsOf 4 = .ok (.aload_n 0, 1) := by decide +kernel
theorem dX8_credentialsOf_5 : decode cX8_credentialsOf 5 = .ok (.iload_n 1, 1) := by decide +kernel
theorem dX8_credentialsOf_6 : decode cX8_credentialsOf 6 = .ok (.invokevirtual 177, 3) := by decide +kernel
theorem dX8_credentialsOf_9 : decode cX8_credentialsOf 9 = .ok (.ifCond .eq 44, 3) := by decide +kernel
theorem dX8_credentialsOf_12 : decode cX8_credentialsOf 12 = .ok (.iload_n 3, 1) := by decide +kernel
theorem dX8_credentialsOf_13 : decode cX8_credentialsOf 13 = .ok (.aload_n 0, 1) := by decide +kernel
theorem dX8_credentialsOf_14 : decode cX8_credentialsOf 14 = .ok (.getfield 152, 3) := by decide +kernel
theorem dX8_credentialsOf_17 : decode cX8_credentialsOf 17 = .ok (.if_icmp .ge 36, 3) := by decide +kernel
theorem dX8_credentialsOf_20 : decode cX8_credentialsOf 20 = .ok (.iload_n 2, 1) := by decide +kernel
theorem dX8_credentialsOf_21 : decode cX8_credentialsOf 21 = .ok (.aload_n 0, 1) := by decide +kernel
theorem dX8_credentialsOf_22 : decode cX8_credentialsOf 22 = .ok (.getfield 57, 3) := by decide +kernel
theorem dX8_credentialsOf_25 : decode cX8_credentialsOf 25 = .ok (.iload_n 3, 1) := by decide +kernel
theorem dX8_credentialsOf_26 : decode cX8_credentialsOf 26 = .ok (.baload, 1) := by decide +kernel
theorem dX8_credentialsOf_27 : decode cX8_credentialsOf 27 = .ok (.ifCond .eq 17, 3) := by decide +kernel
theorem dX8_credentialsOf_30 : decode cX8_credentialsOf 30 = .ok (.aload_n 0, 1) := by decide +kernel
theorem dX8_credentialsOf_31 : decode cX8_credentialsOf 31 = .ok (.getfield 60, 3) := by decide +kernel
theorem dX8_credentialsOf_34 : decode cX8_credentialsOf 34 = .ok (.iload_n 3, 1) := by decide +kernel
theorem dX8_credentialsOf_35 : decode cX8_credentialsOf 35 = .ok (.iaload, 1) := by decide +kernel
theorem dX8_credentialsOf_36 : decode cX8_credentialsOf 36 = .ok (.iload_n 1, 1) := by decide +kernel
theorem dX8_credentialsOf_37 : decode cX8_credentialsOf 37 = .ok (.if_icmp .ne 7, 3) := by decide +kernel
theorem dX8_credentialsOf_40 : decode cX8_credentialsOf 40 = .ok (.iconst 1, 1) := by decide +kernel
theorem dX8_credentialsOf_41 : decode cX8_credentialsOf 41 = .ok (.goto 4, 3) := by decide +kernel
theorem dX8_credentialsOf_44 : decode cX8_credentialsOf 44 = .ok (.iconst 0, 1) := by decide +kernel
theorem dX8_credentialsOf_45 : decode cX8_credentialsOf 45 = .ok (.iadd, 1) := by decide +kernel
theorem dX8_credentialsOf_46 : decode cX8_credentialsOf 46 = .ok (.istore_n 2, 1) := by decide +kernel
theorem dX8_credentialsOf_47 : decode cX8_credentialsOf 47 = .ok (.iinc 3 1, 3) := by decide +kernel
theorem dX8_credentialsOf_50 : decode cX8_credentialsOf 50 = .ok (.goto (-46), 3) := by decide +kernel
theorem dX8_credentialsOf_53 : decode cX8_credentialsOf 53 = .ok (.iload_n 2, 1) := by decide +kernel
theorem dX8_credentialsOf_54 : decode cX8_credentialsOf 54 = .ok (.ireturn, 1) := by decide +kernel
set_option maxRecDepth 20000 in
theorem ggX8_pass_X8_ceases : GoodIn wsX8_pass wsX8_ceases := goodIn_r _ [7, 8, 9, 10, 2, 11, 12, 13, 14, 15, 31, 32, 33, 34, 35, 36, 37, 38, 39, 40, 41, 42, 43, 44, 45, 46, 47, 48, 49, 50, 51, 52, 53, 54, 55, 56, 57, 58, 59, 60, 61] (by decide +kernel) (by decide +kernel)
set_option maxRecDepth 20000 in
theorem gX8_pass_X8_ceases : GoodIn wsX8_pass (wsV RX8 174 RX8 yX8_ceases wsX8_ceases) := goodIn_app (goodIn_of _ (by decide +kernel)) ggX8_pass_X8_ceases
set_option maxRecDepth 20000 in
theorem ggX8_pass_X8_writes : GoodIn wsX8_pass wsX8_writes := goodIn_r _ [19, 20, 21, 22, 23, 24, 25, 26, 27, 28, 29, 2, 30, 31, 32, 33, 34, 35, 36, 37, 38, 39, 40, 41, 42, 43, 44, 45, 46, 47, 48, 49, 50, 51, 52, 53, 54, 55, 56, 57, 58, 59, 60, 61] (by decide +kernel) (by decide +kernel)
set_option maxRecDepth 20000 in
theorem gX8_pass_X8_writes : GoodIn wsX8_pass (wsV RX8 162 RX8 yX8_writes wsX8_writes) := goodIn_app (goodIn_of _ (by decide +kernel)) ggX8_pass_X8_writes
theorem dX8_pass_0 : decode cX8_pass 0 = .ok (.aload_n 0, 1) := by decide +kernel
theorem dX8_pass_1 : decode cX8_pass 1 = .ok (.iload_n 1, 1) := by decide +kernel
theorem dX8_pass_2 : decode cX8_pass 2 = .ok (.iconst 1, 1) := by decide +kernel
theorem dX8_pass_3 : decode cX8_pass 3 = .ok (.if_icmp .lt 10, 3) := by decide +kernel
theorem dX8_pass_6 : decode cX8_pass 6 = .ok (.iload_n 1, 1) := by decide +kernel
theorem dX8_pass_7 : decode cX8_pass 7 = .ok (.sipush 1000, 3) := by decide +kernel
theorem dX8_pass_10 : decode cX8_pass 10 = .ok (.if_icmp .le 7, 3) := by decide +kernel
theorem dX8_pass_13 : decode cX8_pass 13 = .ok (.iconst 1, 1) := by decide +kernel
theorem dX8_pass_14 : decode cX8_pass 14 = .ok (.goto 4, 3) := by decide +kernel
theorem dX8_pass_17 : decode cX8_pass 17 = .ok (.iconst 0, 1) := by decide +kernel
theorem dX8_pass_18 : decode cX8_pass 18 = .ok (.putfield 88, 3) := by decide +kernel
theorem dX8_pass_21 : decode cX8_pass 21 = .ok (.aload_n 0, 1) := by decide +kernel
theorem dX8_pass_22 : decode cX8_pass 22 = .ok (.getfield 88, 3) := by decide +kernel
theorem dX8_pass_25 : decode cX8_pass 25 = .ok (.ifCond .le 5, 3) := by decide +kernel
theorem dX8_pass_28 : decode cX8_pass 28 = .ok (.iconst 0, 1) := by decide +kernel
theorem dX8_pass_29 : decode cX8_pass 29 = .ok (.ireturn, 1) := by decide +kernel
theorem dX8_pass_30 : decode cX8_pass 30 = .ok (.aload_n 0, 1) := by decide +kernel
theorem dX8_pass_31 : decode cX8_pass 31 = .ok (.dup, 1) := by decide +kernel
theorem dX8_pass_32 : decode cX8_pass 32 = .ok (.getfield 104, 3) := by decide +kernel
theorem dX8_pass_35 : decode cX8_pass 35 = .ok (.iload_n 1, 1) := by decide +kernel
theorem dX8_pass_36 : decode cX8_pass 36 = .ok (.iadd, 1) := by decide +kernel
theorem dX8_pass_37 : decode cX8_pass 37 = .ok (.putfield 104, 3) := by decide +kernel
theorem dX8_pass_40 : decode cX8_pass 40 = .ok (.aload_n 0, 1) := by decide +kernel
theorem dX8_pass_41 : decode cX8_pass 41 = .ok (.invokevirtual 174, 3) := by decide +kernel
theorem dX8_pass_44 : decode cX8_pass 44 = .ok (.istore_n 2, 1) := by decide +kernel
theorem dX8_pass_45 : decode cX8_pass 45 = .ok (.iload_n 2, 1) := by decide +kernel
theorem dX8_pass_46 : decode cX8_pass 46 = .ok (.ifCond .le 10, 3) := by decide +kernel
theorem dX8_pass_49 : decode cX8_pass 49 = .ok (.aload_n 0, 1) := by decide +kernel
theorem dX8_pass_50 : decode cX8_pass 50 = .ok (.iconst 5, 1) := by decide +kernel
theorem dX8_pass_51 : decode cX8_pass 51 = .ok (.iconst 0, 1) := by decide +kernel
theorem dX8_pass_52 : decode cX8_pass 52 = .ok (.iload_n 2, 1) := by decide +kernel
theorem dX8_pass_53 : decode cX8_pass 53 = .ok (.invokevirtual 162, 3) := by decide +kernel
theorem dX8_pass_56 : decode cX8_pass 56 = .ok (.iload_n 2, 1) := by decide +kernel
theorem dX8_pass_57 : decode cX8_pass 57 = .ok (.ireturn, 1) := by decide +kernel
theorem dX8_time_0 : decode cX8_time 0 = .ok (.aload_n 0, 1) := by decide +kernel
theorem dX8_time_1 : decode cX8_time 1 = .ok (.iconst 0, 1) := by decide +kernel
theorem dX8_time_2 : decode cX8_time 2 = .ok (.putfield 88, 3) := by decide +kernel
theorem dX8_time_5 : decode cX8_time 5 = .ok (.aload_n 0, 1) := by decide +kernel
theorem dX8_time_6 : decode cX8_time 6 = .ok (.getfield 104, 3) := by decide +kernel
theorem dX8_time_9 : decode cX8_time 9 = .ok (.ireturn, 1) := by decide +kernel
theorem dX8_nextEnd_0 : decode cX8_nextEnd 0 = .ok (.aload_n 0, 1) := by decide +kernel
theorem dX8_nextEnd_1 : decode cX8_nextEnd 1 = .ok (.iconst 0, 1) := by decide +kernel
theorem dX8_nextEnd_2 : decode cX8_nextEnd 2 = .ok (.putfield 88, 3) := by decide +kernel
theorem dX8_nextEnd_5 : decode cX8_nextEnd 5 = .ok (.iconst (-1), 1) := by decide +kernel
theorem dX8_nextEnd_6 : decode cX8_nextEnd 6 = .ok (.istore_n 1, 1) := by decide +kernel
theorem dX8_nextEnd_7 : decode cX8_nextEnd 7 = .ok (.iconst 1, 1) := by decide +kernel
theorem dX8_nextEnd_8 : decode cX8_nextEnd 8 = .ok (.istore_n 2, 1) := by decide +kernel
theorem dX8_nextEnd_9 : decode cX8_nextEnd 9 = .ok (.iload_n 2, 1) := by decide +kernel
theorem dX8_nextEnd_10 : decode cX8_nextEnd 10 = .ok (.aload_n 0, 1) := by decide +kernel
theorem dX8_nextEnd_11 : decode cX8_nextEnd 11 = .ok (.getfield 32, 3) := by decide +kernel
theorem dX8_nextEnd_14 : decode cX8_nextEnd 14 = .ok (.if_icmp .ge 44, 3) := by decide +kernel
theorem dX8_nextEnd_17 : decode cX8_nextEnd 17 = .ok (.aload_n 0, 1) := by decide +kernel
theorem dX8_nextEnd_18 : decode cX8_nextEnd 18 = .ok (.getfield 36, 3) := by decide +kernel
theorem dX8_nextEnd_21 : decode cX8_nextEnd 21 = .ok (.iload_n 2, 1) := by decide +kernel
theorem dX8_nextEnd_22 : decode cX8_nextEnd 22 = .ok (.baload, 1) := by decide +kernel
theorem dX8_nextEnd_23 : decode cX8_nextEnd 23 = .ok (.ifCond .eq 27, 3) := by decide +kernel
theorem dX8_nextEnd_26 : decode cX8_nextEnd 26 = .ok (.iload_n 1, 1) := by decide +kernel
theorem dX8_nextEnd_27 : decode cX8_nextEnd 27 = .ok (.iconst (-1), 1) := by decide +kernel
theorem dX8_nextEnd_28 : decode cX8_nextEnd 28 = .ok (.if_icmp .eq 13, 3) := by decide +kernel
theorem dX8_nextEnd_31 : decode cX8_nextEnd 31 = .ok (.aload_n 0, 1) := by decide +kernel
theorem dX8_nextEnd_32 : decode cX8_nextEnd 32 = .ok (.getfield 48, 3) := by decide +kernel
theorem dX8_nextEnd_35 : decode cX8_nextEnd 35 = .ok (.iload_n 2, 1) := by decide +kernel
theorem dX8_nextEnd_36 : decode cX8_nextEnd 36 = .ok (.iaload, 1) := by decide +kernel
theorem dX8_nextEnd_37 : decode cX8_nextEnd 37 = .ok (.iload_n 1, 1) := by decide +kernel
theorem dX8_nextEnd_38 : decode cX8_nextEnd 38 = .ok (.if_icmp .ge 12, 3) := by decide +kernel
theorem dX8_nextEnd_41 : decode cX8_nextEnd 41 = .ok (.aload_n 0, 1) := by decide +kernel
theorem dX8_nextEnd_42 : decode cX8_nextEnd 42 = .ok (.getfield 48, 3) := by decide +kernel
theorem dX8_nextEnd_45 : decode cX8_nextEnd 45 = .ok (.iload_n 2, 1) := by decide +kernel
theorem dX8_nextEnd_46 : decode cX8_nextEnd 46 = .ok (.iaload, 1) := by decide +kernel
theorem dX8_nextEnd_47 : decode cX8_nextEnd 47 = .ok (.goto 4, 3) := by decide +kernel
theorem dX8_nextEnd_50 : decode cX8_nextEnd 50 = .ok (.iload_n 1, 1) := by decide +kernel
theorem dX8_nextEnd_51 : decode cX8_nextEnd 51 = .ok (.istore_n 1, 1) := by decide +kernel
theorem dX8_nextEnd_52 : decode cX8_nextEnd 52 = .ok (.iinc 2 1, 3) := by decide +kernel
theorem dX8_nextEnd_55 : decode cX8_nextEnd 55 = .ok (.goto (-46), 3) := by decide +kernel
theorem dX8_nextEnd_58 : decode cX8_nextEnd 58 = .ok (.iconst 0, 1) := by decide +kernel
theorem dX8_nextEnd_59 : decode cX8_nextEnd 59 = .ok (.istore_n 2, 1) := by decide +kernel
theorem dX8_nextEnd_60 : decode cX8_nextEnd 60 = .ok (.iload_n 2, 1) := by decide +kernel
theorem dX8_nextEnd_61 : decode cX8_nextEnd 61 = .ok (.aload_n 0, 1) := by decide +kernel
theorem dX8_nextEnd_62 : decode cX8_nextEnd 62 = .ok (.getfield 152, 3) := by decide +kernel
theorem dX8_nextEnd_65 : decode cX8_nextEnd 65 = .ok (.if_icmp .ge 44, 3) := by decide +kernel
theorem dX8_nextEnd_68 : decode cX8_nextEnd 68 = .ok (.aload_n 0, 1) := by decide +kernel
theorem dX8_nextEnd_69 : decode cX8_nextEnd 69 = .ok (.getfield 57, 3) := by decide +kernel
theorem dX8_nextEnd_72 : decode cX8_nextEnd 72 = .ok (.iload_n 2, 1) := by decide +kernel
theorem dX8_nextEnd_73 : decode cX8_nextEnd 73 = .ok (.baload, 1) := by decide +kernel
theorem dX8_nextEnd_74 : decode cX8_nextEnd 74 = .ok (.ifCond .eq 27, 3) := by decide +kernel
theorem dX8_nextEnd_77 : decode cX8_nextEnd 77 = .ok (.iload_n 1, 1) := by decide +kernel
theorem dX8_nextEnd_78 : decode cX8_nextEnd 78 = .ok (.iconst (-1), 1) := by decide +kernel
theorem dX8_nextEnd_79 : decode cX8_nextEnd 79 = .ok (.if_icmp .eq 13, 3) := by decide +kernel
theorem dX8_nextEnd_82 : decode cX8_nextEnd 82 = .ok (.aload_n 0, 1) := by decide +kernel
theorem dX8_nextEnd_83 : decode cX8_nextEnd 83 = .ok (.getfield 69, 3) := by decide +kernel
theorem dX8_nextEnd_86 : decode cX8_nextEnd 86 = .ok (.iload_n 2, 1) := by decide +kernel
theorem dX8_nextEnd_87 : decode cX8_nextEnd 87 = .ok (.iaload, 1) := by decide +kernel
theorem dX8_nextEnd_88 : decode cX8_nextEnd 88 = .ok (.iload_n 1, 1) := by decide +kernel
theorem dX8_nextEnd_89 : decode cX8_nextEnd 89 = .ok (.if_icmp .ge 12, 3) := by decide +kernel
theorem dX8_nextEnd_92 : decode cX8_nextEnd 92 = .ok (.aload_n 0, 1) := by decide +kernel
theorem dX8_nextEnd_93 : decode cX8_nextEnd 93 = .ok (.getfield 69, 3) := by decide +kernel
theorem dX8_nextEnd_96 : decode cX8_nextEnd 96 = .ok (.iload_n 2, 1) := by decide +kernel
theorem dX8_nextEnd_97 : decode cX8_nextEnd 97 = .ok (.iaload, 1) := by decide +kernel
theorem dX8_nextEnd_98 : decode cX8_nextEnd 98 = .ok (.goto 4, 3) := by decide +kernel
theorem dX8_nextEnd_101 : decode cX8_nextEnd 101 = .ok (.iload_n 1, 1) := by decide +kernel
theorem dX8_nextEnd_102 : decode cX8_nextEnd 102 = .ok (.istore_n 1, 1) := by decide +kernel
theorem dX8_nextEnd_103 : decode cX8_nextEnd 103 = .ok (.iinc 2 1, 3) := by decide +kernel
theorem dX8_nextEnd_106 : decode cX8_nextEnd 106 = .ok (.goto (-46), 3) := by decide +kernel
theorem dX8_nextEnd_109 : decode cX8_nextEnd 109 = .ok (.iload_n 1, 1) := by decide +kernel
theorem dX8_nextEnd_110 : decode cX8_nextEnd 110 = .ok (.ireturn, 1) := by decide +kernel
theorem dX8_entries_0 : decode cX8_entries 0 = .ok (.aload_n 0, 1) := by decide +kernel
theorem dX8_entries_1 : decode cX8_entries 1 = .ok (.iconst 0, 1) := by decide +kernel
theorem dX8_entries_2 : decode cX8_entries 2 = .ok (.putfield 88, 3) := by decide +kernel
theorem dX8_entries_5 : decode cX8_entries 5 = .ok (.aload_n 0, 1) := by decide +kernel
theorem dX8_entries_6 : decode cX8_entries 6 = .ok (.getfield 91, 3) := by decide +kernel
theorem dX8_entries_9 : decode cX8_entries 9 = .ok (.ireturn, 1) := by decide +kernel
theorem dX8_asksEntry_0 : decode cX8_asksEntry 0 = .ok (.aload_n 0, 1) := by decide +kernel
theorem dX8_asksEntry_1 : decode cX8_asksEntry 1 = .ok (.iload_n 1, 1) := by decide +kernel
theorem dX8_asksEntry_2 : decode cX8_asksEntry 2 = .ok (.ifCond .lt 15, 3) := by decide +kernel
theorem dX8_asksEntry_5 : decode cX8_asksEntry 5 = .ok (.iload_n 1, 1) := by decide +kernel
theorem dX8_asksEntry_6 : decode cX8_asksEntry 6 = .ok (.aload_n 0, 1) := by decide +kernel
theorem dX8_asksEntry_7 : decode cX8_asksEntry 7 = .ok (.getfield 91, 3) := by decide +kernel
theorem dX8_asksEntry_10 : decode cX8_asksEntry 10 = .ok (.if_icmp .ge 7, 3) := by decide +kernel
theorem dX8_asksEntry_13 : decode cX8_asksEntry 13 = .ok (.iconst 0, 1) := by decide +kernel
theorem dX8_asksEntry_14 : decode cX8_asksEntry 14 = .ok (.goto 4, 3) := by decide +kernel
theorem dX8_asksEntry_17 : decode cX8_asksEntry 17 = .ok (.iconst 1, 1) := by decide +kernel
theorem dX8_asksEntry_18 : decode cX8_asksEntry 18 = .ok (.putfield 88, 3) := by decide +kernel
theorem dX8_asksEntry_21 : decode cX8_asksEntry 21 = .ok (.aload_n 0, 1) := by decide +kernel
theorem dX8_asksEntry_22 : decode cX8_asksEntry 22 = .ok (.getfield 88, 3) := by decide +kernel
theorem dX8_asksEntry_25 : decode cX8_asksEntry 25 = .ok (.ifCond .ne 7, 3) := by decide +kernel
theorem dX8_asksEntry_28 : decode cX8_asksEntry 28 = .ok (.iconst 1, 1) := by decide +kernel
theorem dX8_asksEntry_29 : decode cX8_asksEntry 29 = .ok (.goto 4, 3) := by decide +kernel
theorem dX8_asksEntry_32 : decode cX8_asksEntry 32 = .ok (.iconst 0, 1) := by decide +kernel
theorem dX8_asksEntry_33 : decode cX8_asksEntry 33 = .ok (.ireturn, 1) := by decide +kernel
set_option maxRecDepth 20000 in
theorem ggX8_kindOf_X8_asksEntry : GoodIn wsX8_kindOf wsX8_asksEntry := goodIn_r _ [6, 7, 8, 9, 10, 11, 12, 13, 14, 15, 16, 17, 18, 19, 20, 21, 22, 23, 24, 25, 26, 27, 28, 29, 30, 31, 32, 33, 34, 35, 36, 37, 38, 39] (by decide +kernel) (by decide +kernel)
set_option maxRecDepth 20000 in
theorem gX8_kindOf_X8_asksEntry : GoodIn wsX8_kindOf (wsV RX8 195 RX8 yX8_asksEntry wsX8_asksEntry) := goodIn_app (goodIn_of _ (by decide +kernel)) ggX8_kindOf_X8_asksEntry
