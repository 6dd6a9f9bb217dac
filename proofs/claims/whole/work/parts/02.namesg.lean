theorem dX8_kindOf_0 : decode cX8_kindOf 0 = .ok (.aload_n 0, 1) := by decide +kernel
theorem dX8_kindOf_1 : decode cX8_kindOf 1 = .ok (.iload_n 1, 1) := by decide +kernel
theorem dX8_kindOf_2 : decode cX8_kindOf 2 = .ok (.invokevirtual 195, 3) := by decide +kernel
theorem dX8_kindOf_5 : decode cX8_kindOf 5 = .ok (.ifCond .eq 12, 3) := by decide +kernel
theorem dX8_kindOf_8 : decode cX8_kindOf 8 = .ok (.aload_n 0, 1) := by decide +kernel
theorem dX8_kindOf_9 : decode cX8_kindOf 9 = .ok (.getfield 75, 3) := by decide +kernel
theorem dX8_kindOf_12 : decode cX8_kindOf 12 = .ok (.iload_n 1, 1) := by decide +kernel
theorem dX8_kindOf_13 : decode cX8_kindOf 13 = .ok (.iaload, 1) := by decide +kernel
theorem dX8_kindOf_14 : decode cX8_kindOf 14 = .ok (.goto 4, 3) := by decide +kernel
theorem dX8_kindOf_17 : decode cX8_kindOf 17 = .ok (.iconst 0, 1) := by decide +kernel
theorem dX8_kindOf_18 : decode cX8_kindOf 18 = .ok (.ireturn, 1) := by decide +kernel
set_option maxRecDepth 20000 in
theorem ggX8_subjectOf_X8_asksEntry : GoodIn wsX8_subjectOf wsX8_asksEntry := goodIn_r _ [6, 7, 8, 9, 10, 11, 12, 13, 14, 15, 16, 17, 18, 19, 20, 21, 22, 23, 24, 25, 26, 27, 28, 29, 30, 31, 32, 33, 34, 35, 36, 37, 38, 39] (by decide +kernel) (by decide +kernel)
set_option maxRecDepth 20000 in
theorem gX8_subjectOf_X8_asksEntry : GoodIn wsX8_subjectOf (wsV RX8 195 RX8 yX8_asksEntry wsX8_asksEntry) := goodIn_app (goodIn_of _ (by decide +kernel)) ggX8_subjectOf_X8_asksEntry
theorem dX8_subjectOf_0 : decode cX8_subjectOf 0 = .ok (.aload_n 0, 1) := by decide +kernel
theorem dX8_subjectOf_1 : decode cX8_subjectOf 1 = .ok (.iload_n 1, 1) := by decide +kernel
theorem dX8_subjectOf_2 : decode cX8_subjectOf 2 = .ok (.invokevirtual 195, 3) := by decide +kernel
theorem dX8_subjectOf_5 : decode cX8_subjectOf 5 = .ok (.ifCond .eq 12, 3) := by decide +kernel
theorem dX8_subjectOf_8 : decode cX8_subjectOf 8 = .ok (.aload_n 0, 1) := by decide +kernel
theorem dX8_subjectOf_9 : decode cX8_subjectOf 9 = .ok (.getfield 78, 3) := by decide +kernel
theorem dX8_subjectOf_12 : decode cX8_subjectOf 12 = .ok (.iload_n 1, 1) := by decide +kernel
theorem dX8_subjectOf_13 : decode cX8_subjectOf 13 = .ok (.iaload, 1) := by decide +kernel
theorem dX8_subjectOf_14 : decode cX8_subjectOf 14 = .ok (.goto 4, 3) := by decide +kernel
theorem dX8_subjectOf_17 : decode cX8_subjectOf 17 = .ok (.iconst 0, 1) := by decide +kernel
theorem dX8_subjectOf_18 : decode cX8_subjectOf 18 = .ok (.ireturn, 1) := by decide +kernel
set_option maxRecDepth 20000 in
theorem ggX8_detailOf_X8_asksEntry : GoodIn wsX8_detailOf wsX8_asksEntry := goodIn_r _ [6, 7, 8, 9, 10, 11, 12, 13, 14, 15, 16, 17, 18, 19, 20, 21, 22, 23, 24, 25, 26, 27, 28, 29, 30, 31, 32, 33, 34, 35, 36, 37, 38, 39] (by decide +kernel) (by decide +kernel)
set_option maxRecDepth 20000 in
theorem gX8_detailOf_X8_asksEntry : GoodIn wsX8_detailOf (wsV RX8 195 RX8 yX8_asksEntry wsX8_asksEntry) := goodIn_app (goodIn_of _ (by decide +kernel)) ggX8_detailOf_X8_asksEntry
theorem dX8_detailOf_0 : decode cX8_detailOf 0 = .ok (.aload_n 0, 1) := by decide +kernel
theorem dX8_detailOf_1 : decode cX8_detailOf 1 = .ok (.iload_n 1, 1) := by decide +kernel
theorem dX8_detailOf_2 : decode cX8_detailOf 2 = .ok (.invokevirtual 195, 3) := by decide +kernel
theorem dX8_detailOf_5 : decode cX8_detailOf 5 = .ok (.ifCond .eq 12, 3) := by decide +kernel
theorem dX8_detailOf_8 : decode cX8_detailOf 8 = .ok (.aload_n 0, 1) := by decide +kernel
theorem dX8_detailOf_9 : decode cX8_detailOf 9 = .ok (.getfield 81, 3) := by decide +kernel
theorem dX8_detailOf_12 : decode cX8_detailOf 12 = .ok (.iload_n 1, 1) := by decide +kernel
theorem dX8_detailOf_13 : decode cX8_detailOf 13 = .ok (.iaload, 1) := by decide +kernel
theorem dX8_detailOf_14 : decode cX8_detailOf 14 = .ok (.goto 4, 3) := by decide +kernel
theorem dX8_detailOf_17 : decode cX8_detailOf 17 = .ok (.iconst 0, 1) := by decide +kernel
theorem dX8_detailOf_18 : decode cX8_detailOf 18 = .ok (.ireturn, 1) := by decide +kernel
set_option maxRecDepth 20000 in
theorem ggX8_sumOf_X8_asksEntry : GoodIn wsX8_sumOf wsX8_asksEntry := goodIn_r _ [6, 7, 8, 9, 10, 11, 12, 13, 14, 15, 16, 17, 18, 19, 20, 21, 22, 23, 24, 25, 26, 27, 28, 29, 30, 31, 32, 33, 34, 35, 36, 37, 38, 39] (by decide +kernel) (by decide +kernel)
set_option maxRecDepth 20000 in
theorem gX8_sumOf_X8_asksEntry : GoodIn wsX8_sumOf (wsV RX8 195 RX8 yX8_asksEntry wsX8_asksEntry) := goodIn_app (goodIn_of _ (by decide +kernel)) ggX8_sumOf_X8_asksEntry
theorem dX8_sumOf_0 : decode cX8_sumOf 0 = .ok (.aload_n 0, 1) := by decide +kernel
theorem dX8_sumOf_1 : decode cX8_sumOf 1 = .ok (.iload_n 1, 1) := by decide +kernel
theorem dX8_sumOf_2 : decode cX8_sumOf 2 = .ok (.invokevirtual 195, 3) := by decide +kernel
theorem dX8_sumOf_5 : decode cX8_sumOf 5 = .ok (.ifCond .eq 12, 3) := by decide +kernel
theorem dX8_sumOf_8 : decode cX8_sumOf 8 = .ok (.aload_n 0, 1) := by decide +kernel
theorem dX8_sumOf_9 : decode cX8_sumOf 9 = .ok (.getfield 84, 3) := by decide +kernel
theorem dX8_sumOf_12 : decode cX8_sumOf 12 = .ok (.iload_n 1, 1) := by decide +kernel
theorem dX8_sumOf_13 : decode cX8_sumOf 13 = .ok (.laload, 1) := by decide +kernel
theorem dX8_sumOf_14 : decode cX8_sumOf 14 = .ok (.goto 4, 3) := by decide +kernel
theorem dX8_sumOf_17 : decode cX8_sumOf 17 = .ok (.lconst 0, 1) := by decide +kernel
theorem dX8_sumOf_18 : decode cX8_sumOf 18 = .ok (.lreturn, 1) := by decide +kernel
theorem dJ9_max_7cf53_0 : decode cJ9_max_7cf53 0 = .ok (.iload_n 0, 1) := by decide +kernel
theorem dJ9_max_7cf53_1 : decode cJ9_max_7cf53 1 = .ok (.iload_n 1, 1) := by decide +kernel
theorem dJ9_max_7cf53_2 : decode cJ9_max_7cf53 2 = .ok (.if_icmp .lt 7, 3) := by decide +kernel
theorem dJ9_max_7cf53_5 : decode cJ9_max_7cf53 5 = .ok (.iload_n 0, 1) := by decide +kernel
theorem dJ9_max_7cf53_6 : decode cJ9_max_7cf53 6 = .ok (.goto 4, 3) := by decide +kernel
theorem dJ9_max_7cf53_9 : decode cJ9_max_7cf53 9 = .ok (.iload_n 1, 1) := by decide +kernel
theorem dJ9_max_7cf53_10 : decode cJ9_max_7cf53 10 = .ok (.ireturn, 1) := by decide +kernel
theorem dJ9_min_7cf53_0 : decode cJ9_min_7cf53 0 = .ok (.iload_n 0, 1) := by decide +kernel
theorem dJ9_min_7cf53_1 : decode cJ9_min_7cf53 1 = .ok (.iload_n 1, 1) := by decide +kernel
theorem dJ9_min_7cf53_2 : decode cJ9_min_7cf53 2 = .ok (.if_icmp .gt 7, 3) := by decide +kernel
theorem dJ9_min_7cf53_5 : decode cJ9_min_7cf53 5 = .ok (.iload_n 0, 1) := by decide +kernel
theorem dJ9_min_7cf53_6 : decode cJ9_min_7cf53 6 = .ok (.goto 4, 3) := by decide +kernel
theorem dJ9_min_7cf53_9 : decode cJ9_min_7cf53 9 = .ok (.iload_n 1, 1) := by decide +kernel
theorem dJ9_min_7cf53_10 : decode cJ9_min_7cf53 10 = .ok (.ireturn, 1) := by decide +kernel
