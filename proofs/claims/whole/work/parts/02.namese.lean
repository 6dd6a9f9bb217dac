theorem dX8_digit_10 : decode cX8_digit 10 = .ok (.ireturn, 1) := by decide +kernel
set_option maxRecDepth 20000 in
theorem ggX8_isWritten_X8_digits : GoodIn wsX8_isWritten wsX8_digits := goodIn_r _ [4] (by decide +kernel) (by decide +kernel)
set_option maxRecDepth 20000 in
theorem gX8_isWritten_X8_digits : GoodIn wsX8_isWritten (va_wsS RX8 109 yX8_digits wsX8_digits) := goodIn_app (goodIn_of _ (by decide +kernel)) ggX8_isWritten_X8_digits
theorem dX8_isWritten_0 : decode cX8_isWritten 0 = .ok (.iload_n 0, 1) := by decide +kernel
theorem dX8_isWritten_1 : decode cX8_isWritten 1 = .ok (.ifCond .le 16, 3) := by decide +kernel
theorem dX8_isWritten_4 : decode cX8_isWritten 4 = .ok (.iload_n 0, 1) := by decide +kernel
theorem dX8_isWritten_5 : decode cX8_isWritten 5 = .ok (.invokestatic 109, 3) := by decide +kernel
theorem dX8_isWritten_8 : decode cX8_isWritten 8 = .ok (.bipush 6, 2) := by decide +kernel
theorem dX8_isWritten_10 : decode cX8_isWritten 10 = .ok (.if_icmp .gt 7, 3) := by decide +kernel
theorem dX8_isWritten_13 : decode cX8_isWritten 13 = .ok (.iconst 1, 1) := by decide +kernel
theorem dX8_isWritten_14 : decode cX8_isWritten 14 = .ok (.goto 4, 3) := by decide +kernel
theorem dX8_isWritten_17 : decode cX8_isWritten 17 = .ok (.iconst 0, 1) := by decide +kernel
theorem dX8_isWritten_18 : decode cX8_isWritten 18 = .ok (.istore_n 2, 1) := by decide +kernel
theorem dX8_isWritten_19 : decode cX8_isWritten 19 = .ok (.iload_n 0, 1) := by decide +kernel
theorem dX8_isWritten_20 : decode cX8_isWritten 20 = .ok (.istore_n 3, 1) := by decide +kernel
theorem dX8_isWritten_21 : decode cX8_isWritten 21 = .ok (.iload_n 3, 1) := by decide +kernel
theorem dX8_isWritten_22 : decode cX8_isWritten 22 = .ok (.ifCond .le 37, 3) := by decide +kernel
theorem dX8_isWritten_25 : decode cX8_isWritten 25 = .ok (.iload_n 2, 1) := by decide +kernel
theorem dX8_isWritten_26 : decode cX8_isWritten 26 = .ok (.ifCond .eq 23, 3) := by decide +kernel
theorem dX8_isWritten_29 : decode cX8_isWritten 29 = .ok (.iload_n 3, 1) := by decide +kernel
theorem dX8_isWritten_30 : decode cX8_isWritten 30 = .ok (.bipush 10, 2) := by decide +kernel
theorem dX8_isWritten_32 : decode cX8_isWritten 32 = .ok (.irem, 1) := by decide +kernel
theorem dX8_isWritten_33 : decode cX8_isWritten 33 = .ok (.iconst 1, 1) := by decide +kernel
theorem dX8_isWritten_34 : decode cX8_isWritten 34 = .ok (.if_icmp .lt 15, 3) := by decide +kernel
theorem dX8_isWritten_37 : decode cX8_isWritten 37 = .ok (.iload_n 3, 1) := by decide +kernel
theorem dX8_isWritten_38 : decode cX8_isWritten 38 = .ok (.bipush 10, 2) := by decide +kernel
theorem dX8_isWritten_40 : decode cX8_isWritten 40 = .ok (.irem, 1) := by decide +kernel
theorem dX8_isWritten_41 : decode cX8_isWritten 41 = .ok (.iload_n 1, 1) := by decide +kernel
theorem dX8_isWritten_42 : decode cX8_isWritten 42 = .ok (.if_icmp .gt 7, 3) := by decide +kernel
theorem dX8_isWritten_45 : decode cX8_isWritten 45 = .ok (.iconst 1, 1) := by decide +kernel
theorem dX8_isWritten_46 : decode cX8_isWritten 46 = .ok (.goto 4, 3) := by decide +kernel
theorem dX8_isWritten_49 : decode cX8_isWritten 49 = .ok (.iconst 0, 1) := by decide +kernel
theorem dX8_isWritten_50 : decode cX8_isWritten 50 = .ok (.istore_n 2, 1) := by decide +kernel
theorem dX8_isWritten_51 : decode cX8_isWritten 51 = .ok (.iload_n 3, 1) := by decide +kernel
theorem dX8_isWritten_52 : decode cX8_isWritten 52 = .ok (.bipush 10, 2) := by decide +kernel
theorem dX8_isWritten_54 : decode cX8_isWritten 54 = .ok (.idiv, 1) := by decide +kernel
theorem dX8_isWritten_55 : decode cX8_isWritten 55 = .ok (.istore_n 3, 1) := by decide +kernel
theorem dX8_isWritten_56 : decode cX8_isWritten 56 = .ok (.goto (-35), 3) := by decide +kernel
theorem dX8_isWritten_59 : decode cX8_isWritten 59 = .ok (.iload_n 2, 1) := by decide +kernel
theorem dX8_isWritten_60 : decode cX8_isWritten 60 = .ok (.ireturn, 1) := by decide +kernel
set_option maxRecDepth 20000 in
theorem ggX8_isPath_X8_isWritten : GoodIn wsX8_isPath wsX8_isWritten := goodIn_r _ [4, 5, 6, 3, 7] (by decide +kernel) (by decide +kernel)
set_option maxRecDepth 20000 in
theorem gX8_isPath_X8_isWritten : GoodIn wsX8_isPath (va_wsS RX8 117 yX8_isWritten wsX8_isWritten) := goodIn_app (goodIn_of _ (by decide +kernel)) ggX8_isPath_X8_isWritten
theorem dX8_isPath_0 : decode cX8_isPath 0 = .ok (.iload_n 0, 1) := by decide +kernel
theorem dX8_isPath_1 : decode cX8_isPath 1 = .ok (.bipush 8, 2) := by decide +kernel
theorem dX8_isPath_3 : decode cX8_isPath 3 = .ok (.invokestatic 117, 3) := by decide +kernel
theorem dX8_isPath_6 : decode cX8_isPath 6 = .ok (.ireturn, 1) := by decide +kernel
set_option maxRecDepth 20000 in
theorem ggX8_isBelow_X8_digits : GoodIn wsX8_isBelow wsX8_digits := goodIn_r _ [4] (by decide +kernel) (by decide +kernel)
set_option maxRecDepth 20000 in
theorem gX8_isBelow_X8_digits : GoodIn wsX8_isBelow (va_wsS RX8 109 yX8_digits wsX8_digits) := goodIn_app (goodIn_of _ (by decide +kernel)) ggX8_isBelow_X8_digits
set_option maxRecDepth 20000 in
theorem ggX8_isBelow_X8_upper : GoodIn wsX8_isBelow wsX8_upper := goodIn_r _ [7, 1, 2, 3, 4] (by decide +kernel) (by decide +kernel)
set_option maxRecDepth 20000 in
theorem gX8_isBelow_X8_upper : GoodIn wsX8_isBelow (va_wsS RX8 113 yX8_upper wsX8_upper) := goodIn_app (goodIn_of _ (by decide +kernel)) ggX8_isBelow_X8_upper
theorem dX8_isBelow_0 : decode cX8_isBelow 0 = .ok (.iload_n 0, 1) := by decide +kernel
theorem dX8_isBelow_1 : decode cX8_isBelow 1 = .ok (.invokestatic 109, 3) := by decide +kernel
theorem dX8_isBelow_4 : decode cX8_isBelow 4 = .ok (.iload_n 1, 1) := by decide +kernel
theorem dX8_isBelow_5 : decode cX8_isBelow 5 = .ok (.invokestatic 109, 3) := by decide +kernel
theorem dX8_isBelow_8 : decode cX8_isBelow 8 = .ok (.if_icmp .lt 19, 3) := by decide +kernel
theorem dX8_isBelow_11 : decode cX8_isBelow 11 = .ok (.iload_n 0, 1) := by decide +kernel
theorem dX8_isBelow_12 : decode cX8_isBelow 12 = .ok (.iload_n 1, 1) := by decide +kernel
theorem dX8_isBelow_13 : decode cX8_isBelow 13 = .ok (.invokestatic 109, 3) := by decide +kernel
theorem dX8_isBelow_16 : decode cX8_isBelow 16 = .ok (.invokestatic 113, 3) := by decide +kernel
theorem dX8_isBelow_19 : decode cX8_isBelow 19 = .ok (.iload_n 1, 1) := by decide +kernel
theorem dX8_isBelow_20 : decode cX8_isBelow 20 = .ok (.if_icmp .ne 7, 3) := by decide +kernel
theorem dX8_isBelow_23 : decode cX8_isBelow 23 = .ok (.iconst 1, 1) := by decide +kernel
theorem dX8_isBelow_24 : decode cX8_isBelow 24 = .ok (.goto 4, 3) := by decide +kernel
theorem dX8_isBelow_27 : decode cX8_isBelow 27 = .ok (.iconst 0, 1) := by decide +kernel
theorem dX8_isBelow_28 : decode cX8_isBelow 28 = .ok (.ireturn, 1) := by decide +kernel
set_option maxRecDepth 20000 in
theorem ggX8_fits_X8_digits : GoodIn wsX8_fits wsX8_digits := goodIn_r _ [6] (by decide +kernel) (by decide +kernel)
set_option maxRecDepth 20000 in
theorem gX8_fits_X8_digits : GoodIn wsX8_fits (va_wsS RX8 109 yX8_digits wsX8_digits) := goodIn_app (goodIn_of _ (by decide +kernel)) ggX8_fits_X8_digits
set_option maxRecDepth 20000 in
theorem ggX8_fits_X8_digit : GoodIn wsX8_fits wsX8_digit := goodIn_r _ [9, 10, 11, 5, 12, 3, 4, 6] (by decide +kernel) (by decide +kernel)
set_option maxRecDepth 20000 in
theorem gX8_fits_X8_digit : GoodIn wsX8_fits (va_wsS RX8 121 yX8_digit wsX8_digit) := goodIn_app (goodIn_of _ (by decide +kernel)) ggX8_fits_X8_digit
theorem dX8_fits_0 : decode cX8_fits 0 = .ok (.aload_n 0, 1) := by decide +kernel
theorem dX8_fits_1 : decode cX8_fits 1 = .ok (.getfield 13, 3) := by decide +kernel
theorem dX8_fits_4 : decode cX8_fits 4 = .ok (.iload_n 1, 1) := by decide +kernel
theorem dX8_fits_5 : decode cX8_fits 5 = .ok (.iaload, 1) := by decide +kernel
theorem dX8_fits_6 : decode cX8_fits 6 = .ok (.invokestatic 109, 3) := by decide +kernel
theorem dX8_fits_9 : decode cX8_fits 9 = .ok (.istore_n 3, 1) := by decide +kernel
theorem dX8_fits_10 : decode cX8_fits 10 = .ok (.aload_n 0, 1) := by decide +kernel
theorem dX8_fits_11 : decode cX8_fits 11 = .ok (.getfield 16, 3) := by decide +kernel
theorem dX8_fits_14 : decode cX8_fits 14 = .ok (.iload_n 1, 1) := by decide +kernel
theorem dX8_fits_15 : decode cX8_fits 15 = .ok (.baload, 1) := by decide +kernel
theorem dX8_fits_16 : decode cX8_fits 16 = .ok (.ifCond .eq 19, 3) := by decide +kernel
theorem dX8_fits_19 : decode cX8_fits 19 = .ok (.iload_n 2, 1) := by decide +kernel
theorem dX8_fits_20 : decode cX8_fits 20 = .ok (.invokestatic 109, 3) := by decide +kernel
theorem dX8_fits_23 : decode cX8_fits 23 = .ok (.iload_n 3, 1) := by decide +kernel
theorem dX8_fits_24 : decode cX8_fits 24 = .ok (.if_icmp .lt 7, 3) := by decide +kernel
theorem dX8_fits_27 : decode cX8_fits 27 = .ok (.iconst 1, 1) := by decide +kernel
theorem dX8_fits_28 : decode cX8_fits 28 = .ok (.goto 20, 3) := by decide +kernel
theorem dX8_fits_31 : decode cX8_fits 31 = .ok (.iconst 0, 1) := by decide +kernel
theorem dX8_fits_32 : decode cX8_fits 32 = .ok (.goto 16, 3) := by decide +kernel
theorem dX8_fits_35 : decode cX8_fits 35 = .ok (.iload_n 2, 1) := by decide +kernel
theorem dX8_fits_36 : decode cX8_fits 36 = .ok (.invokestatic 109, 3) := by decide +kernel
theorem dX8_fits_39 : decode cX8_fits 39 = .ok (.iload_n 3, 1) := by decide +kernel
theorem dX8_fits_40 : decode cX8_fits 40 = .ok (.if_icmp .ne 7, 3) := by decide +kernel
theorem dX8_fits_43 : decode cX8_fits 43 = .ok (.iconst 1, 1) := by decide +kernel
theorem dX8_fits_44 : decode cX8_fits 44 = .ok (.goto 4, 3) := by decide +kernel
theorem dX8_fits_47 : decode cX8_fits 47 = .ok (.iconst 0, 1) := by decide +kernel
theorem dX8_fits_48 : decode cX8_fits 48 = .ok (.istore 4, 2) := by decide +kernel
theorem dX8_fits_50 : decode cX8_fits 50 = .ok (.iconst 0, 1) := by decide +kernel
theorem dX8_fits_51 : decode cX8_fits 51 = .ok (.istore 5, 2) := by decide +kernel
theorem dX8_fits_53 : decode cX8_fits 53 = .ok (.iload 5, 2) := by decide +kernel
theorem dX8_fits_55 : decode cX8_fits 55 = .ok (.iload_n 3, 1) := by decide +kernel
theorem dX8_fits_56 : decode cX8_fits 56 = .ok (.if_icmp .ge 52, 3) := by decide +kernel
theorem dX8_fits_59 : decode cX8_fits 59 = .ok (.iload 4, 2) := by decide +kernel
theorem dX8_fits_61 : decode cX8_fits 61 = .ok (.ifCond .eq 47, 3) := by decide +kernel
theorem dX8_fits_64 : decode cX8_fits 64 = .ok (.aload_n 0, 1) := by decide +kernel
theorem dX8_fits_65 : decode cX8_fits 65 = .ok (.getfield 13, 3) := by decide +kernel
theorem dX8_fits_68 : decode cX8_fits 68 = .ok (.iload_n 1, 1) := by decide +kernel
theorem dX8_fits_69 : decode cX8_fits 69 = .ok (.iaload, 1) := by decide +kernel
theorem dX8_fits_70 : decode cX8_fits 70 = .ok (.iload 5, 2) := by decide +kernel
theorem dX8_fits_72 : decode cX8_fits 72 = .ok (.invokestatic 121, 3) := by decide +kernel
theorem dX8_fits_75 : decode cX8_fits 75 = .ok (.istore 6, 2) := by decide +kernel
theorem dX8_fits_77 : decode cX8_fits 77 = .ok (.iload 6, 2) := by decide +kernel
theorem dX8_fits_79 : decode cX8_fits 79 = .ok (.bipush 9, 2) := by decide +kernel
theorem dX8_fits_81 : decode cX8_fits 81 = .ok (.if_icmp .eq 14, 3) := by decide +kernel
theorem dX8_fits_84 : decode cX8_fits 84 = .ok (.iload 6, 2) := by decide +kernel
theorem dX8_fits_86 : decode cX8_fits 86 = .ok (.iload_n 2, 1) := by decide +kernel
theorem dX8_fits_87 : decode cX8_fits 87 = .ok (.iload 5, 2) := by decide +kernel
theorem dX8_fits_89 : decode cX8_fits 89 = .ok (.invokestatic 121, 3) := by decide +kernel
theorem dX8_fits_92 : decode cX8_fits 92 = .ok (.if_icmp .ne 7, 3) := by decide +kernel
theorem dX8_fits_95 : decode cX8_fits 95 = .ok (.iconst 1, 1) := by decide +kernel
theorem dX8_fits_96 : decode cX8_fits 96 = .ok (.goto 4, 3) := by decide +kernel
theorem dX8_fits_99 : decode cX8_fits 99 = .ok (.iconst 0, 1) := by decide +kernel
theorem dX8_fits_100 : decode cX8_fits 100 = .ok (.istore 4, 2) := by decide +kernel
theorem dX8_fits_102 : decode cX8_fits 102 = .ok (.iinc 5 1, 3) := by decide +kernel
theorem dX8_fits_105 : decode cX8_fits 105 = .ok (.goto (-52), 3) := by decide +kernel
theorem dX8_fits_108 : decode cX8_fits 108 = .ok (.iload 4, 2) := by decide +kernel
theorem dX8_fits_110 : decode cX8_fits 110 = .ok (.ireturn, 1) := by decide +kernel
set_option maxRecDepth 20000 in
theorem ggX8_goesAhead_X8_digits : GoodIn wsX8_goesAhead wsX8_digits := goodIn_r _ [6] (by decide +kernel) (by decide +kernel)
set_option maxRecDepth 20000 in
theorem gX8_goesAhead_X8_digits : GoodIn wsX8_goesAhead (va_wsS RX8 109 yX8_digits wsX8_digits) := goodIn_app (goodIn_of _ (by decide +kernel)) ggX8_goesAhead_X8_digits
set_option maxRecDepth 20000 in
theorem ggX8_goesAhead_X8_digit : GoodIn wsX8_goesAhead wsX8_digit := goodIn_r _ [9, 10, 11, 5, 12, 3, 4, 6] (by decide +kernel) (by decide +kernel)
set_option maxRecDepth 20000 in
theorem gX8_goesAhead_X8_digit : GoodIn wsX8_goesAhead (va_wsS RX8 121 yX8_digit wsX8_digit) := goodIn_app (goodIn_of _ (by decide +kernel)) ggX8_goesAhead_X8_digit
theorem dX8_goesAhead_0 : decode cX8_goesAhead 0 = .ok (.aload_n 0, 1) := by decide +kernel
theorem dX8_goesAhead_1 : decode cX8_goesAhead 1 = .ok (.getfield 13, 3) := by decide +kernel
theorem dX8_goesAhead_4 : decode cX8_goesAhead 4 = .ok (.iload_n 1, 1) := by decide +kernel
theorem dX8_goesAhead_5 : decode cX8_goesAhead 5 = .ok (.iaload, 1) := by decide +kernel
theorem dX8_goesAhead_6 : decode cX8_goesAhead 6 = .ok (.invokestatic 109, 3) := by decide +kernel
theorem dX8_goesAhead_9 : decode cX8_goesAhead 9 = .ok (.istore_n 3, 1) := by decide +kernel
theorem dX8_goesAhead_10 : decode cX8_goesAhead 10 = .ok (.iload_n 3, 1) := by decide +kernel
theorem dX8_goesAhead_11 : decode cX8_goesAhead 11 = .ok (.aload_n 0, 1) := by decide +kernel
theorem dX8_goesAhead_12 : decode cX8_goesAhead 12 = .ok (.getfield 13, 3) := by decide +kernel
theorem dX8_goesAhead_15 : decode cX8_goesAhead 15 = .ok (.iload_n 2, 1) := by decide +kernel
theorem dX8_goesAhead_16 : decode cX8_goesAhead 16 = .ok (.iaload, 1) := by decide +kernel
theorem dX8_goesAhead_17 : decode cX8_goesAhead 17 = .ok (.invokestatic 109, 3) := by decide +kernel
theorem dX8_goesAhead_20 : decode cX8_goesAhead 20 = .ok (.if_icmp .eq 22, 3) := by decide +kernel
theorem dX8_goesAhead_23 : decode cX8_goesAhead 23 = .ok (.iload_n 3, 1) := by decide +kernel
theorem dX8_goesAhead_24 : decode cX8_goesAhead 24 = .ok (.aload_n 0, 1) := by decide +kernel
theorem dX8_goesAhead_25 : decode cX8_goesAhead 25 = .ok (.getfield 13, 3) := by decide +kernel
theorem dX8_goesAhead_28 : decode cX8_goesAhead 28 = .ok (.iload_n 2, 1) := by decide +kernel
theorem dX8_goesAhead_29 : decode cX8_goesAhead 29 = .ok (.iaload, 1) := by decide +kernel
theorem dX8_goesAhead_30 : decode cX8_goesAhead 30 = .ok (.invokestatic 109, 3) := by decide +kernel
theorem dX8_goesAhead_33 : decode cX8_goesAhead 33 = .ok (.if_icmp .le 7, 3) := by decide +kernel
theorem dX8_goesAhead_36 : decode cX8_goesAhead 36 = .ok (.iconst 1, 1) := by decide +kernel
theorem dX8_goesAhead_37 : decode cX8_goesAhead 37 = .ok (.goto 4, 3) := by decide +kernel
theorem dX8_goesAhead_40 : decode cX8_goesAhead 40 = .ok (.iconst 0, 1) := by decide +kernel
theorem dX8_goesAhead_41 : decode cX8_goesAhead 41 = .ok (.ireturn, 1) := by decide +kernel
theorem dX8_goesAhead_42 : decode cX8_goesAhead 42 = .ok (.aload_n 0, 1) := by decide +kernel
theorem dX8_goesAhead_43 : decode cX8_goesAhead 43 = .ok (.getfield 16, 3) := by decide +kernel
theorem dX8_goesAhead_46 : decode cX8_goesAhead 46 = .ok (.iload_n 1, 1) := by decide +kernel
theorem dX8_goesAhead_47 : decode cX8_goesAhead 47 = .ok (.baload, 1) := by decide +kernel
theorem dX8_goesAhead_48 : decode cX8_goesAhead 48 = .ok (.aload_n 0, 1) := by decide +kernel
theorem dX8_goesAhead_49 : decode cX8_goesAhead 49 = .ok (.getfield 16, 3) := by decide +kernel
theorem dX8_goesAhead_52 : decode cX8_goesAhead 52 = .ok (.iload_n 2, 1) := by decide +kernel
theorem dX8_goesAhead_53 : decode cX8_goesAhead 53 = .ok (.baload, 1) := by decide +kernel
theorem dX8_goesAhead_54 : decode cX8_goesAhead 54 = .ok (.if_icmp .eq 18, 3) := by decide +kernel
theorem dX8_goesAhead_57 : decode cX8_goesAhead 57 = .ok (.aload_n 0, 1) := by decide +kernel
theorem dX8_goesAhead_58 : decode cX8_goesAhead 58 = .ok (.getfield 16, 3) := by decide +kernel
theorem dX8_goesAhead_61 : decode cX8_goesAhead 61 = .ok (.iload_n 1, 1) := by decide +kernel
theorem dX8_goesAhead_62 : decode cX8_goesAhead 62 = .ok (.baload, 1) := by decide +kernel
theorem dX8_goesAhead_63 : decode cX8_goesAhead 63 = .ok (.ifCond .ne 7, 3) := by decide +kernel
theorem dX8_goesAhead_66 : decode cX8_goesAhead 66 = .ok (.iconst 1, 1) := by decide +kernel
theorem dX8_goesAhead_67 : decode cX8_goesAhead 67 = .ok (.goto 4, 3) := by decide +kernel
theorem dX8_goesAhead_70 : decode cX8_goesAhead 70 = .ok (.iconst 0, 1) := by decide +kernel
theorem dX8_goesAhead_71 : decode cX8_goesAhead 71 = .ok (.ireturn, 1) := by decide +kernel
theorem dX8_goesAhead_72 : decode cX8_goesAhead 72 = .ok (.iconst 0, 1) := by decide +kernel
theorem dX8_goesAhead_73 : decode cX8_goesAhead 73 = .ok (.istore 4, 2) := by decide +kernel
theorem dX8_goesAhead_75 : decode cX8_goesAhead 75 = .ok (.iload 4, 2) := by decide +kernel
theorem dX8_goesAhead_77 : decode cX8_goesAhead 77 = .ok (.iload_n 3, 1) := by decide +kernel
theorem dX8_goesAhead_78 : decode cX8_goesAhead 78 = .ok (.if_icmp .ge 69, 3) := by decide +kernel
theorem dX8_goesAhead_81 : decode cX8_goesAhead 81 = .ok (.aload_n 0, 1) := by decide +kernel
theorem dX8_goesAhead_82 : decode cX8_goesAhead 82 = .ok (.getfield 13, 3) := by decide +kernel
theorem dX8_goesAhead_85 : decode cX8_goesAhead 85 = .ok (.iload_n 1, 1) := by decide +kernel
theorem dX8_goesAhead_86 : decode cX8_goesAhead 86 = .ok (.iaload, 1) := by decide +kernel
theorem dX8_goesAhead_87 : decode cX8_goesAhead 87 = .ok (.iload 4, 2) := by decide +kernel
theorem dX8_goesAhead_89 : decode cX8_goesAhead 89 = .ok (.invokestatic 121, 3) := by decide +kernel
theorem dX8_goesAhead_92 : decode cX8_goesAhead 92 = .ok (.bipush 9, 2) := by decide +kernel
theorem dX8_goesAhead_94 : decode cX8_goesAhead 94 = .ok (.if_icmp .ne 7, 3) := by decide +kernel
theorem dX8_goesAhead_97 : decode cX8_goesAhead 97 = .ok (.iconst 1, 1) := by decide +kernel
theorem dX8_goesAhead_98 : decode cX8_goesAhead 98 = .ok (.goto 4, 3) := by decide +kernel
theorem dX8_goesAhead_101 : decode cX8_goesAhead 101 = .ok (.iconst 0, 1) := by decide +kernel
theorem dX8_goesAhead_102 : decode cX8_goesAhead 102 = .ok (.istore 5, 2) := by decide +kernel
theorem dX8_goesAhead_104 : decode cX8_goesAhead 104 = .ok (.iload 5, 2) := by decide +kernel
theorem dX8_goesAhead_106 : decode cX8_goesAhead 106 = .ok (.aload_n 0, 1) := by decide +kernel
theorem dX8_goesAhead_107 : decode cX8_goesAhead 107 = .ok (.getfield 13, 3) := by decide +kernel
theorem dX8_goesAhead_110 : decode cX8_goesAhead 110 = .ok (.iload_n 2, 1) := by decide +kernel
theorem dX8_goesAhead_111 : decode cX8_goesAhead 111 = .ok (.iaload, 1) := by decide +kernel
theorem dX8_goesAhead_112 : decode cX8_goesAhead 112 = .ok (.iload 4, 2) := by decide +kernel
theorem dX8_goesAhead_114 : decode cX8_goesAhead 114 = .ok (.invokestatic 121, 3) := by decide +kernel
theorem dX8_goesAhead_117 : decode cX8_goesAhead 117 = .ok (.bipush 9, 2) := by decide +kernel
theorem dX8_goesAhead_119 : decode cX8_goesAhead 119 = .ok (.if_icmp .ne 7, 3) := by decide +kernel
theorem dX8_goesAhead_122 : decode cX8_goesAhead 122 = .ok (.iconst 1, 1) := by decide +kernel
theorem dX8_goesAhead_123 : decode cX8_goesAhead 123 = .ok (.goto 4, 3) := by decide +kernel
theorem dX8_goesAhead_126 : decode cX8_goesAhead 126 = .ok (.iconst 0, 1) := by decide +kernel
theorem dX8_goesAhead_127 : decode cX8_goesAhead 127 = .ok (.if_icmp .eq 14, 3) := by decide +kernel
theorem dX8_goesAhead_130 : decode cX8_goesAhead 130 = .ok (.iload 5, 2) := by decide +kernel
theorem dX8_goesAhead_132 : decode cX8_goesAhead 132 = .ok (.ifCond .ne 7, 3) := by decide +kernel
theorem dX8_goesAhead_135 : decode cX8_goesAhead 135 = .ok (.iconst 1, 1) := by decide +kernel
theorem dX8_goesAhead_136 : decode cX8_goesAhead 136 = .ok (.goto 4, 3) := by decide +kernel
theorem dX8_goesAhead_139 : decode cX8_goesAhead 139 = .ok (.iconst 0, 1) := by decide +kernel
theorem dX8_goesAhead_140 : decode cX8_goesAhead 140 = .ok (.ireturn, 1) := by decide +kernel
theorem dX8_goesAhead_141 : decode cX8_goesAhead 141 = .ok (.iinc 4 1, 3) := by decide +kernel
theorem dX8_goesAhead_144 : decode cX8_goesAhead 144 = .ok (.goto (-69), 3) := by decide +kernel
theorem dX8_goesAhead_147 : decode cX8_goesAhead 147 = .ok (.iconst 0, 1) := by decide +kernel
theorem dX8_goesAhead_148 : decode cX8_goesAhead 148 = .ok (.ireturn, 1) := by decide +kernel
set_option maxRecDepth 20000 in
theorem ggX8_decided_X8_fits : GoodIn wsX8_decided wsX8_fits := goodIn_r _ [7, 8, 9, 10, 11, 6, 12, 13, 14, 15, 16, 17, 18, 23, 24, 25, 26, 27, 28, 29, 30, 31, 32, 33, 34, 35, 36, 37, 38, 39, 40, 41, 42, 43, 44, 45, 46, 47, 48, 49, 50, 51, 52, 53] (by decide +kernel) (by decide +kernel)
set_option maxRecDepth 20000 in
theorem gX8_decided_X8_fits : GoodIn wsX8_decided (wsV RX8 124 RX8 yX8_fits wsX8_fits) := goodIn_app (goodIn_of _ (by decide +kernel)) ggX8_decided_X8_fits
set_option maxRecDepth 20000 in
theorem ggX8_decided_X8_goesAhead : GoodIn wsX8_decided wsX8_goesAhead := goodIn_r _ [22, 8, 9, 10, 11, 6, 12, 13, 14, 15, 16, 17, 18, 23, 24, 25, 26, 27, 28, 29, 30, 31, 32, 33, 34, 35, 36, 37, 38, 39, 40, 41, 42, 43, 44, 45, 46, 47, 48, 49, 50, 51, 52, 53] (by decide +kernel) (by decide +kernel)
set_option maxRecDepth 20000 in
theorem gX8_decided_X8_goesAhead : GoodIn wsX8_decided (wsV RX8 127 RX8 yX8_goesAhead wsX8_goesAhead) := goodIn_app (goodIn_of _ (by decide +kernel)) ggX8_decided_X8_goesAhead
theorem dX8_decided_0 : decode cX8_decided 0 = .ok (.iconst (-1), 1) := by decide +kernel
theorem dX8_decided_1 : decode cX8_decided 1 = .ok (.istore_n 3, 1) := by decide +kernel
theorem dX8_decided_2 : decode cX8_decided 2 = .ok (.bipush 6, 2) := by decide +kernel
theorem dX8_decided_4 : decode cX8_decided 4 = .ok (.iload_n 1, 1) := by decide +kernel
theorem dX8_decided_5 : decode cX8_decided 5 = .ok (.imul, 1) := by decide +kernel
theorem dX8_decided_6 : decode cX8_decided 6 = .ok (.istore 4, 2) := by decide +kernel
theorem dX8_decided_8 : decode cX8_decided 8 = .ok (.iload 4, 2) := by decide +kernel
theorem dX8_decided_10 : decode cX8_decided 10 = .ok (.bipush 6, 2) := by decide +kernel
theorem dX8_decided_12 : decode cX8_decided 12 = .ok (.iload_n 1, 1) := by decide +kernel
theorem dX8_decided_13 : decode cX8_decided 13 = .ok (.imul, 1) := by decide +kernel
theorem dX8_decided_14 : decode cX8_decided 14 = .ok (.aload_n 0, 1) := by decide +kernel
theorem dX8_decided_15 : decode cX8_decided 15 = .ok (.getfield 7, 3) := by decide +kernel
theorem dX8_decided_18 : decode cX8_decided 18 = .ok (.iload_n 1, 1) := by decide +kernel
theorem dX8_decided_19 : decode cX8_decided 19 = .ok (.iaload, 1) := by decide +kernel
theorem dX8_decided_20 : decode cX8_decided 20 = .ok (.iadd, 1) := by decide +kernel
theorem dX8_decided_21 : decode cX8_decided 21 = .ok (.if_icmp .ge 37, 3) := by decide +kernel
theorem dX8_decided_24 : decode cX8_decided 24 = .ok (.aload_n 0, 1) := by decide +kernel
theorem dX8_decided_25 : decode cX8_decided 25 = .ok (.iload 4, 2) := by decide +kernel
theorem dX8_decided_27 : decode cX8_decided 27 = .ok (.iload_n 2, 1) := by decide +kernel
theorem dX8_decided_28 : decode cX8_decided 28 = .ok (.invokevirtual 124, 3) := by decide +kernel
theorem dX8_decided_31 : decode cX8_decided 31 = .ok (.ifCond .eq 21, 3) := by decide +kernel
theorem dX8_decided_34 : decode cX8_decided 34 = .ok (.iload_n 3, 1) := by decide +kernel
theorem dX8_decided_35 : decode cX8_decided 35 = .ok (.iconst (-1), 1) := by decide +kernel
theorem dX8_decided_36 : decode cX8_decided 36 = .ok (.if_icmp .eq 13, 3) := by decide +kernel
theorem dX8_decided_39 : decode cX8_decided 39 = .ok (.aload_n 0, 1) := by decide +kernel
theorem dX8_decided_40 : decode cX8_decided 40 = .ok (.iload 4, 2) := by decide +kernel
theorem dX8_decided_42 : decode cX8_decided 42 = .ok (.iload_n 3, 1) := by decide +kernel
theorem dX8_decided_43 : decode cX8_decided 43 = .ok (.invokevirtual 127, 3) := by decide +kernel
theorem dX8_decided_46 : decode cX8_decided 46 = .ok (.ifCond .eq 6, 3) := by decide +kernel
theorem dX8_decided_49 : decode cX8_decided 49 = .ok (.iload 4, 2) := by decide +kernel
theorem dX8_decided_51 : decode cX8_decided 51 = .ok (.istore_n 3, 1) := by decide +kernel
theorem dX8_decided_52 : decode cX8_decided 52 = .ok (.iinc 4 1, 3) := by decide +kernel
theorem dX8_decided_55 : decode cX8_decided 55 = .ok (.goto (-47), 3) := by decide +kernel
theorem dX8_decided_58 : decode cX8_decided 58 = .ok (.iload_n 3, 1) := by decide +kernel
theorem dX8_decided_59 : decode cX8_decided 59 = .ok (.iconst (-1), 1) := by decide +kernel
theorem dX8_decided_60 : decode cX8_decided 60 = .ok (.if_icmp .ne 7, 3) := by decide +kernel
theorem dX8_decided_63 : decode cX8_decided 63 = .ok (.iconst 0, 1) := by decide +kernel
theorem dX8_decided_64 : decode cX8_decided 64 = .ok (.goto 9, 3) := by decide +kernel
theorem dX8_decided_67 : decode cX8_decided 67 = .ok (.aload_n 0, 1) := by decide +kernel
theorem dX8_decided_68 : decode cX8_decided 68 = .ok (.getfield 20, 3) := by decide +kernel
theorem dX8_decided_71 : decode cX8_decided 71 = .ok (.iload_n 3, 1) := by decide +kernel
theorem dX8_decided_72 : decode cX8_decided 72 = .ok (.iaload, 1) := by decide +kernel
theorem dX8_decided_73 : decode cX8_decided 73 = .ok (.ireturn, 1) := by decide +kernel
set_option maxRecDepth 20000 in
theorem ggX8_can_X8_decided : GoodIn wsX8_can wsX8_decided := goodIn_r _ [7, 8, 9, 10, 11, 12, 6, 13, 14, 15, 16, 17, 18, 19, 20, 21, 22, 23, 24, 25, 26, 27, 28, 29, 30, 31, 32, 33, 34, 35, 36, 37, 38, 39, 40, 41, 42, 43, 44, 45, 46, 47, 48, 49, 50, 51, 52, 53, 54, 55, 56, 57, 58, 59] (by decide +kernel) (by decide +kernel)
set_option maxRecDepth 20000 in
theorem gX8_can_X8_decided : GoodIn wsX8_can (wsV RX8 133 RX8 yX8_decided wsX8_decided) := goodIn_app (goodIn_of _ (by decide +kernel)) ggX8_can_X8_decided
theorem dX8_can_0 : decode cX8_can 0 = .ok (.iload_n 1, 1) := by decide +kernel
theorem dX8_can_1 : decode cX8_can 1 = .ok (.ifCond .ne 8, 3) := by decide +kernel
theorem dX8_can_4 : decode cX8_can 4 = .ok (.bipush 7, 2) := by decide +kernel
theorem dX8_can_6 : decode cX8_can 6 = .ok (.goto 4, 3) := by decide +kernel
theorem dX8_can_9 : decode cX8_can 9 = .ok (.iconst 0, 1) := by decide +kernel
theorem dX8_can_10 : decode cX8_can 10 = .ok (.istore_n 3, 1) := by decide +kernel
theorem dX8_can_11 : decode cX8_can 11 = .ok (.iconst 0, 1) := by decide +kernel
theorem dX8_can_12 : decode cX8_can 12 = .ok (.istore 4, 2) := by decide +kernel
theorem dX8_can_14 : decode cX8_can 14 = .ok (.iload 4, 2) := by decide +kernel
theorem dX8_can_16 : decode cX8_can 16 = .ok (.aload_n 0, 1) := by decide +kernel
theorem dX8_can_17 : decode cX8_can 17 = .ok (.getfield 130, 3) := by decide +kernel
theorem dX8_can_20 : decode cX8_can 20 = .ok (.if_icmp .ge 38, 3) := by decide +kernel
theorem dX8_can_23 : decode cX8_can 23 = .ok (.iload_n 3, 1) := by decide +kernel
theorem dX8_can_24 : decode cX8_can 24 = .ok (.aload_n 0, 1) := by decide +kernel
theorem dX8_can_25 : decode cX8_can 25 = .ok (.getfield 42, 3) := by decide +kernel
theorem dX8_can_28 : decode cX8_can 28 = .ok (.iload_n 1, 1) := by decide +kernel
theorem dX8_can_29 : decode cX8_can 29 = .ok (.iaload, 1) := by decide +kernel
theorem dX8_can_30 : decode cX8_can 30 = .ok (.iload 4, 2) := by decide +kernel
theorem dX8_can_32 : decode cX8_can 32 = .ok (.ishr, 1) := by decide +kernel
theorem dX8_can_33 : decode cX8_can 33 = .ok (.iconst 1, 1) := by decide +kernel
theorem dX8_can_34 : decode cX8_can 34 = .ok (.iand, 1) := by decide +kernel
theorem dX8_can_35 : decode cX8_can 35 = .ok (.iconst 1, 1) := by decide +kernel
theorem dX8_can_36 : decode cX8_can 36 = .ok (.if_icmp .ne 13, 3) := by decide +kernel
theorem dX8_can_39 : decode cX8_can 39 = .ok (.aload_n 0, 1) := by decide +kernel
theorem dX8_can_40 : decode cX8_can 40 = .ok (.iload 4, 2) := by decide +kernel
theorem dX8_can_42 : decode cX8_can 42 = .ok (.iload_n 2, 1) := by decide +kernel
theorem dX8_can_43 : decode cX8_can 43 = .ok (.invokevirtual 133, 3) := by decide +kernel
theorem dX8_can_46 : decode cX8_can 46 = .ok (.goto 4, 3) := by decide +kernel
theorem dX8_can_49 : decode cX8_can 49 = .ok (.iconst 0, 1) := by decide +kernel
theorem dX8_can_50 : decode cX8_can 50 = .ok (.ior, 1) := by decide +kernel
theorem dX8_can_51 : decode cX8_can 51 = .ok (.istore_n 3, 1) := by decide +kernel
theorem dX8_can_52 : decode cX8_can 52 = .ok (.iinc 4 1, 3) := by decide +kernel
theorem dX8_can_55 : decode cX8_can 55 = .ok (.goto (-41), 3) := by decide +kernel
theorem dX8_can_58 : decode cX8_can 58 = .ok (.iload_n 3, 1) := by decide +kernel
theorem dX8_can_59 : decode cX8_can 59 = .ok (.bipush 8, 2) := by decide +kernel
theorem dX8_can_61 : decode cX8_can 61 = .ok (.iand, 1) := by decide +kernel
theorem dX8_can_62 : decode cX8_can 62 = .ok (.ifCond .ne 7, 3) := by decide +kernel
theorem dX8_can_65 : decode cX8_can 65 = .ok (.iload_n 3, 1) := by decide +kernel
theorem dX8_can_66 : decode cX8_can 66 = .ok (.goto 4, 3) := by decide +kernel
theorem dX8_can_69 : decode cX8_can 69 = .ok (.iconst 0, 1) := by decide +kernel
theorem dX8_can_70 : decode cX8_can 70 = .ok (.ireturn, 1) := by decide +kernel
set_option maxRecDepth 20000 in
theorem ggX8_mountFor_X8_isBelow : GoodIn wsX8_mountFor wsX8_isBelow := goodIn_r _ [6, 7, 8, 5, 9, 10, 11, 12] (by decide +kernel) (by decide +kernel)
set_option maxRecDepth 20000 in
theorem gX8_mountFor_X8_isBelow : GoodIn wsX8_mountFor (va_wsS RX8 139 yX8_isBelow wsX8_isBelow) := goodIn_app (goodIn_of _ (by decide +kernel)) ggX8_mountFor_X8_isBelow
set_option maxRecDepth 20000 in
theorem ggX8_mountFor_X8_digits : GoodIn wsX8_mountFor wsX8_digits := goodIn_r _ [9] (by decide +kernel) (by decide +kernel)
set_option maxRecDepth 20000 in
theorem gX8_mountFor_X8_digits : GoodIn wsX8_mountFor (va_wsS RX8 109 yX8_digits wsX8_digits) := goodIn_app (goodIn_of _ (by decide +kernel)) ggX8_mountFor_X8_digits
theorem dX8_mountFor_0 : decode cX8_mountFor 0 = .ok (.iconst (-1), 1) := by decide +kernel
theorem dX8_mountFor_1 : decode cX8_mountFor 1 = .ok (.istore_n 2, 1) := by decide +kernel
theorem dX8_mountFor_2 : decode cX8_mountFor 2 = .ok (.iconst 0, 1) := by decide +kernel
theorem dX8_mountFor_3 : decode cX8_mountFor 3 = .ok (.istore_n 3, 1) := by decide +kernel
theorem dX8_mountFor_4 : decode cX8_mountFor 4 = .ok (.iload_n 3, 1) := by decide +kernel
theorem dX8_mountFor_5 : decode cX8_mountFor 5 = .ok (.aload_n 0, 1) := by decide +kernel
theorem dX8_mountFor_6 : decode cX8_mountFor 6 = .ok (.getfield 136, 3) := by decide +kernel
theorem dX8_mountFor_9 : decode cX8_mountFor 9 = .ok (.if_icmp .ge 50, 3) := by decide +kernel
theorem dX8_mountFor_12 : decode cX8_mountFor 12 = .ok (.iload_n 1, 1) := by decide +kernel
theorem dX8_mountFor_13 : decode cX8_mountFor 13 = .ok (.aload_n 0, 1) := by decide +kernel
theorem dX8_mountFor_14 : decode cX8_mountFor 14 = .ok (.getfield 23, 3) := by decide +kernel
theorem dX8_mountFor_17 : decode cX8_mountFor 17 = .ok (.iload_n 3, 1) := by decide +kernel
theorem dX8_mountFor_18 : decode cX8_mountFor 18 = .ok (.iaload, 1) := by decide +kernel
theorem dX8_mountFor_19 : decode cX8_mountFor 19 = .ok (.invokestatic 139, 3) := by decide +kernel
theorem dX8_mountFor_22 : decode cX8_mountFor 22 = .ok (.ifCond .eq 31, 3) := by decide +kernel
theorem dX8_mountFor_25 : decode cX8_mountFor 25 = .ok (.iload_n 2, 1) := by decide +kernel
theorem dX8_mountFor_26 : decode cX8_mountFor 26 = .ok (.iconst (-1), 1) := by decide +kernel
theorem dX8_mountFor_27 : decode cX8_mountFor 27 = .ok (.if_icmp .eq 24, 3) := by decide +kernel
theorem dX8_mountFor_30 : decode cX8_mountFor 30 = .ok (.aload_n 0, 1) := by decide +kernel
theorem dX8_mountFor_31 : decode cX8_mountFor 31 = .ok (.getfield 23, 3) := by decide +kernel
theorem dX8_mountFor_34 : decode cX8_mountFor 34 = .ok (.iload_n 3, 1) := by decide +kernel
theorem dX8_mountFor_35 : decode cX8_mountFor 35 = .ok (.iaload, 1) := by decide +kernel
theorem dX8_mountFor_36 : decode cX8_mountFor 36 = .ok (.invokestatic 109, 3) := by decide +kernel
theorem dX8_mountFor_39 : decode cX8_mountFor 39 = .ok (.aload_n 0, 1) := by decide +kernel
theorem dX8_mountFor_40 : decode cX8_mountFor 40 = .ok (.getfield 23, 3) := by decide +kernel
theorem dX8_mountFor_43 : decode cX8_mountFor 43 = .ok (.iload_n 2, 1) := by decide +kernel
theorem dX8_mountFor_44 : decode cX8_mountFor 44 = .ok (.iaload, 1) := by decide +kernel
theorem dX8_mountFor_45 : decode cX8_mountFor 45 = .ok (.invokestatic 109, 3) := by decide +kernel
theorem dX8_mountFor_48 : decode cX8_mountFor 48 = .ok (.if_icmp .le 5, 3) := by decide +kernel
theorem dX8_mountFor_51 : decode cX8_mountFor 51 = .ok (.iload_n 3, 1) := by decide +kernel
theorem dX8_mountFor_52 : decode cX8_mountFor 52 = .ok (.istore_n 2, 1) := by decide +kernel
theorem dX8_mountFor_53 : decode cX8_mountFor 53 = .ok (.iinc 3 1, 3) := by decide +kernel
theorem dX8_mountFor_56 : decode cX8_mountFor 56 = .ok (.goto (-52), 3) := by decide +kernel
theorem dX8_mountFor_59 : decode cX8_mountFor 59 = .ok (.iload_n 2, 1) := by decide +kernel
theorem dX8_mountFor_60 : decode cX8_mountFor 60 = .ok (.ireturn, 1) := by decide +kernel
theorem dX8_policy_0 : decode cX8_policy 0 = .ok (.aload_n 0, 1) := by decide +kernel
theorem dX8_policy_1 : decode cX8_policy 1 = .ok (.aload_n 0, 1) := by decide +kernel
theorem dX8_policy_2 : decode cX8_policy 2 = .ok (.getfield 130, 3) := by decide +kernel
theorem dX8_policy_5 : decode cX8_policy 5 = .ok (.bipush 8, 2) := by decide +kernel
theorem dX8_policy_7 : decode cX8_policy 7 = .ok (.if_icmp .ne 7, 3) := by decide +kernel
theorem dX8_policy_10 : decode cX8_policy 10 = .ok (.iconst 1, 1) := by decide +kernel
theorem dX8_policy_11 : decode cX8_policy 11 = .ok (.goto 4, 3) := by decide +kernel
theorem dX8_policy_14 : decode cX8_policy 14 = .ok (.iconst 0, 1) := by decide +kernel
theorem dX8_policy_15 : decode cX8_policy 15 = .ok (.putfield 88, 3) := by decide +kernel
theorem dX8_policy_18 : decode cX8_policy 18 = .ok (.aload_n 0, 1) := by decide +kernel
theorem dX8_policy_19 : decode cX8_policy 19 = .ok (.dup, 1) := by decide +kernel
theorem dX8_policy_20 : decode cX8_policy 20 = .ok (.getfield 130, 3) := by decide +kernel
theorem dX8_policy_23 : decode cX8_policy 23 = .ok (.aload_n 0, 1) := by decide +kernel
theorem dX8_policy_24 : decode cX8_policy 24 = .ok (.getfield 88, 3) := by decide +kernel
theorem dX8_policy_27 : decode cX8_policy 27 = .ok (.ifCond .le 7, 3) := by decide +kernel
theorem dX8_policy_30 : decode cX8_policy 30 = .ok (.iconst 0, 1) := by decide +kernel
theorem dX8_policy_31 : decode cX8_policy 31 = .ok (.goto 4, 3) := by decide +kernel
theorem dX8_policy_34 : decode cX8_policy 34 = .ok (.iconst 1, 1) := by decide +kernel
theorem dX8_policy_35 : decode cX8_policy 35 = .ok (.iadd, 1) := by decide +kernel
theorem dX8_policy_36 : decode cX8_policy 36 = .ok (.putfield 130, 3) := by decide +kernel
theorem dX8_policy_39 : decode cX8_policy 39 = .ok (.aload_n 0, 1) := by decide +kernel
theorem dX8_policy_40 : decode cX8_policy 40 = .ok (.getfield 130, 3) := by decide +kernel
theorem dX8_policy_43 : decode cX8_policy 43 = .ok (.iconst 1, 1) := by decide +kernel
theorem dX8_policy_44 : decode cX8_policy 44 = .ok (.isub, 1) := by decide +kernel
theorem dX8_policy_45 : decode cX8_policy 45 = .ok (.ireturn, 1) := by decide +kernel
theorem dX8_isPolicy_0 : decode cX8_isPolicy 0 = .ok (.iload_n 1, 1) := by decide +kernel
theorem dX8_isPolicy_1 : decode cX8_isPolicy 1 = .ok (.ifCond .lt 15, 3) := by decide +kernel
theorem dX8_isPolicy_4 : decode cX8_isPolicy 4 = .ok (.iload_n 1, 1) := by decide +kernel
theorem dX8_isPolicy_5 : decode cX8_isPolicy 5 = .ok (.aload_n 0, 1) := by decide +kernel
theorem dX8_isPolicy_6 : decode cX8_isPolicy 6 = .ok (.getfield 130, 3) := by decide +kernel
theorem dX8_isPolicy_9 : decode cX8_isPolicy 9 = .ok (.if_icmp .ge 7, 3) := by decide +kernel
theorem dX8_isPolicy_12 : decode cX8_isPolicy 12 = .ok (.iconst 1, 1) := by decide +kernel
theorem dX8_isPolicy_13 : decode cX8_isPolicy 13 = .ok (.goto 4, 3) := by decide +kernel
theorem dX8_isPolicy_16 : decode cX8_isPolicy 16 = .ok (.iconst 0, 1) := by decide +kernel
theorem dX8_isPolicy_17 : decode cX8_isPolicy 17 = .ok (.ireturn, 1) := by decide +kernel
set_option maxRecDepth 20000 in
theorem ggX8_allow_X8_isPolicy : GoodIn wsX8_allow wsX8_isPolicy := goodIn_r _ [10, 11, 18, 19, 20, 21, 22, 23, 24, 25, 26, 27, 28, 29, 30, 31, 32, 33, 34, 35, 36, 37, 38, 39, 40, 41, 42, 43, 44, 45, 46, 47, 48] (by decide +kernel) (by decide +kernel)
set_option maxRecDepth 20000 in
theorem gX8_allow_X8_isPolicy : GoodIn wsX8_allow (wsV RX8 142 RX8 yX8_isPolicy wsX8_isPolicy) := goodIn_app (goodIn_of _ (by decide +kernel)) ggX8_allow_X8_isPolicy
set_option maxRecDepth 20000 in
theorem ggX8_allow_X8_isWritten : GoodIn wsX8_allow wsX8_isWritten := goodIn_r _ [14, 15, 16, 9, 17] (by decide +kernel) (by decide +kernel)
set_option maxRecDepth 20000 in
theorem gX8_allow_X8_isWritten : GoodIn wsX8_allow (va_wsS RX8 117 yX8_isWritten wsX8_isWritten) := goodIn_app (goodIn_of _ (by decide +kernel)) ggX8_allow_X8_isWritten
theorem dX8_allow_0 : decode cX8_allow 0 = .ok (.aload_n 0, 1) := by decide +kernel
theorem dX8_allow_1 : decode cX8_allow 1 = .ok (.aload_n 0, 1) := by decide +kernel
theorem dX8_allow_2 : decode cX8_allow 2 = .ok (.iload_n 1, 1) := by decide +kernel
theorem dX8_allow_3 : decode cX8_allow 3 = .ok (.invokevirtual 142, 3) := by decide +kernel
theorem dX8_allow_6 : decode cX8_allow 6 = .ok (.ifCond .ne 7, 3) := by decide +kernel
theorem dX8_allow_9 : decode cX8_allow 9 = .ok (.iconst 1, 1) := by decide +kernel
theorem dX8_allow_10 : decode cX8_allow 10 = .ok (.goto 29, 3) := by decide +kernel
theorem dX8_allow_13 : decode cX8_allow 13 = .ok (.iload_n 2, 1) := by decide +kernel
theorem dX8_allow_14 : decode cX8_allow 14 = .ok (.bipush 9, 2) := by decide +kernel
theorem dX8_allow_16 : decode cX8_allow 16 = .ok (.invokestatic 117, 3) := by decide +kernel
theorem dX8_allow_19 : decode cX8_allow 19 = .ok (.ifCond .eq 15, 3) := by decide +kernel
theorem dX8_allow_22 : decode cX8_allow 22 = .ok (.iload 4, 2) := by decide +kernel
theorem dX8_allow_24 : decode cX8_allow 24 = .ok (.ifCond .lt 10, 3) := by decide +kernel
theorem dX8_allow_27 : decode cX8_allow 27 = .ok (.iload 4, 2) := by decide +kernel
theorem dX8_allow_29 : decode cX8_allow 29 = .ok (.bipush 15, 2) := by decide +kernel
theorem dX8_allow_31 : decode cX8_allow 31 = .ok (.if_icmp .le 7, 3) := by decide +kernel
theorem dX8_allow_34 : decode cX8_allow 34 = .ok (.iconst 2, 1) := by decide +kernel
theorem dX8_allow_35 : decode cX8_allow 35 = .ok (.goto 4, 3) := by decide +kernel
theorem dX8_allow_38 : decode cX8_allow 38 = .ok (.iconst 0, 1) := by decide +kernel
theorem dX8_allow_39 : decode cX8_allow 39 = .ok (.putfield 88, 3) := by decide +kernel
theorem dX8_allow_42 : decode cX8_allow 42 = .ok (.aload_n 0, 1) := by decide +kernel
theorem dX8_allow_43 : decode cX8_allow 43 = .ok (.getfield 88, 3) := by decide +kernel
theorem dX8_allow_46 : decode cX8_allow 46 = .ok (.ifCond .le 5, 3) := by decide +kernel
theorem dX8_allow_49 : decode cX8_allow 49 = .ok (.iconst 0, 1) := by decide +kernel
theorem dX8_allow_50 : decode cX8_allow 50 = .ok (.ireturn, 1) := by decide +kernel
theorem dX8_allow_51 : decode cX8_allow 51 = .ok (.bipush 6, 2) := by decide +kernel
theorem dX8_allow_53 : decode cX8_allow 53 = .ok (.iload_n 1, 1) := by decide +kernel
theorem dX8_allow_54 : decode cX8_allow 54 = .ok (.imul, 1) := by decide +kernel
theorem dX8_allow_55 : decode cX8_allow 55 = .ok (.istore 5, 2) := by decide +kernel
theorem dX8_allow_57 : decode cX8_allow 57 = .ok (.iload 5, 2) := by decide +kernel
theorem dX8_allow_59 : decode cX8_allow 59 = .ok (.aload_n 0, 1) := by decide +kernel
theorem dX8_allow_60 : decode cX8_allow 60 = .ok (.getfield 7, 3) := by decide +kernel
theorem dX8_allow_63 : decode cX8_allow 63 = .ok (.iload_n 1, 1) := by decide +kernel
theorem dX8_allow_64 : decode cX8_allow 64 = .ok (.iaload, 1) := by decide +kernel
theorem dX8_allow_65 : decode cX8_allow 65 = .ok (.iadd, 1) := by decide +kernel
theorem dX8_allow_66 : decode cX8_allow 66 = .ok (.istore 6, 2) := by decide +kernel
theorem dX8_allow_68 : decode cX8_allow 68 = .ok (.iload 5, 2) := by decide +kernel
theorem dX8_allow_70 : decode cX8_allow 70 = .ok (.iload 6, 2) := by decide +kernel
theorem dX8_allow_72 : decode cX8_allow 72 = .ok (.if_icmp .ge 31, 3) := by decide +kernel
theorem dX8_allow_75 : decode cX8_allow 75 = .ok (.aload_n 0, 1) := by decide +kernel
theorem dX8_allow_76 : decode cX8_allow 76 = .ok (.getfield 13, 3) := by decide +kernel
theorem dX8_allow_79 : decode cX8_allow 79 = .ok (.iload 5, 2) := by decide +kernel
theorem dX8_allow_81 : decode cX8_allow 81 = .ok (.iaload, 1) := by decide +kernel
theorem dX8_allow_82 : decode cX8_allow 82 = .ok (.iload_n 2, 1) := by decide +kernel
theorem dX8_allow_83 : decode cX8_allow 83 = .ok (.if_icmp .ne 14, 3) := by decide +kernel
theorem dX8_allow_86 : decode cX8_allow 86 = .ok (.aload_n 0, 1) := by decide +kernel
theorem dX8_allow_87 : decode cX8_allow 87 = .ok (.getfield 16, 3) := by decide +kernel
theorem dX8_allow_90 : decode cX8_allow 90 = .ok (.iload 5, 2) := by decide +kernel
theorem dX8_allow_92 : decode cX8_allow 92 = .ok (.baload, 1) := by decide +kernel
theorem dX8_allow_93 : decode cX8_allow 93 = .ok (.iload_n 3, 1) := by decide +kernel
theorem dX8_allow_94 : decode cX8_allow 94 = .ok (.if_icmp .eq 9, 3) := by decide +kernel
theorem dX8_allow_97 : decode cX8_allow 97 = .ok (.iinc 5 1, 3) := by decide +kernel
theorem dX8_allow_100 : decode cX8_allow 100 = .ok (.goto (-32), 3) := by decide +kernel
theorem dX8_allow_103 : decode cX8_allow 103 = .ok (.iload 5, 2) := by decide +kernel
theorem dX8_allow_105 : decode cX8_allow 105 = .ok (.iload 6, 2) := by decide +kernel
theorem dX8_allow_107 : decode cX8_allow 107 = .ok (.if_icmp .ne 21, 3) := by decide +kernel
theorem dX8_allow_110 : decode cX8_allow 110 = .ok (.aload_n 0, 1) := by decide +kernel
theorem dX8_allow_111 : decode cX8_allow 111 = .ok (.getfield 7, 3) := by decide +kernel
theorem dX8_allow_114 : decode cX8_allow 114 = .ok (.iload_n 1, 1) := by decide +kernel
theorem dX8_allow_115 : decode cX8_allow 115 = .ok (.iaload, 1) := by decide +kernel
theorem dX8_allow_116 : decode cX8_allow 116 = .ok (.bipush 6, 2) := by decide +kernel
theorem dX8_allow_118 : decode cX8_allow 118 = .ok (.if_icmp .ne 10, 3) := by decide +kernel
theorem dX8_allow_121 : decode cX8_allow 121 = .ok (.aload_n 0, 1) := by decide +kernel
theorem dX8_allow_122 : decode cX8_allow 122 = .ok (.iconst 3, 1) := by decide +kernel
theorem dX8_allow_123 : decode cX8_allow 123 = .ok (.putfield 88, 3) := by decide +kernel
theorem dX8_allow_126 : decode cX8_allow 126 = .ok (.iconst 0, 1) := by decide +kernel
theorem dX8_allow_127 : decode cX8_allow 127 = .ok (.ireturn, 1) := by decide +kernel
theorem dX8_allow_128 : decode cX8_allow 128 = .ok (.aload_n 0, 1) := by decide +kernel
theorem dX8_allow_129 : decode cX8_allow 129 = .ok (.getfield 7, 3) := by decide +kernel
theorem dX8_allow_132 : decode cX8_allow 132 = .ok (.iload_n 1, 1) := by decide +kernel
theorem dX8_allow_133 : decode cX8_allow 133 = .ok (.dup2, 1) := by decide +kernel
theorem dX8_allow_134 : decode cX8_allow 134 = .ok (.iaload, 1) := by decide +kernel
theorem dX8_allow_135 : decode cX8_allow 135 = .ok (.iload 5, 2) := by decide +kernel
theorem dX8_allow_137 : decode cX8_allow 137 = .ok (.iload 6, 2) := by decide +kernel
theorem dX8_allow_139 : decode cX8_allow 139 = .ok (.if_icmp .ne 7, 3) := by decide +kernel
theorem dX8_allow_142 : decode cX8_allow 142 = .ok (.iconst 1, 1) := by decide +kernel
theorem dX8_allow_143 : decode cX8_allow 143 = .ok (.goto 4, 3) := by decide +kernel
theorem dX8_allow_146 : decode cX8_allow 146 = .ok (.iconst 0, 1) := by decide +kernel
theorem dX8_allow_147 : decode cX8_allow 147 = .ok (.iadd, 1) := by decide +kernel
theorem dX8_allow_148 : decode cX8_allow 148 = .ok (.iastore, 1) := by decide +kernel
theorem dX8_allow_149 : decode cX8_allow 149 = .ok (.aload_n 0, 1) := by decide +kernel
theorem dX8_allow_150 : decode cX8_allow 150 = .ok (.getfield 13, 3) := by decide +kernel
theorem dX8_allow_153 : decode cX8_allow 153 = .ok (.iload 5, 2) := by decide +kernel
theorem dX8_allow_155 : decode cX8_allow 155 = .ok (.iload_n 2, 1) := by decide +kernel
theorem dX8_allow_156 : decode cX8_allow 156 = .ok (.iastore, 1) := by decide +kernel
theorem dX8_allow_157 : decode cX8_allow 157 = .ok (.aload_n 0, 1) := by decide +kernel
theorem dX8_allow_158 : decode cX8_allow 158 = .ok (.getfield 16, 3) := by decide +kernel
theorem dX8_allow_161 : decode cX8_allow 161 = .ok (.iload 5, 2) := by decide +kernel
theorem dX8_allow_163 : decode cX8_allow 163 = .ok (.iload_n 3, 1) := by decide +kernel
theorem dX8_allow_164 : decode cX8_allow 164 = .ok (.bastore, 1) := by decide +kernel
theorem dX8_allow_165 : decode cX8_allow 165 = .ok (.aload_n 0, 1) := by decide +kernel
theorem dX8_allow_166 : decode cX8_allow 166 = .ok (.getfield 20, 3) := by decide +kernel
theorem dX8_allow_169 : decode cX8_allow 169 = .ok (.iload 5, 2) := by decide +kernel
theorem dX8_allow_171 : decode cX8_allow 171 = .ok (.iload 4, 2) := by decide +kernel
theorem dX8_allow_173 : decode cX8_allow 173 = .ok (.iastore, 1) := by decide +kernel
theorem dX8_allow_174 : decode cX8_allow 174 = .ok (.aload_n 0, 1) := by decide +kernel
theorem dX8_allow_175 : decode cX8_allow 175 = .ok (.getfield 7, 3) := by decide +kernel
theorem dX8_allow_178 : decode cX8_allow 178 = .ok (.iload_n 1, 1) := by decide +kernel
theorem dX8_allow_179 : decode cX8_allow 179 = .ok (.iaload, 1) := by decide +kernel
theorem dX8_allow_180 : decode cX8_allow 180 = .ok (.ireturn, 1) := by decide +kernel
set_option maxRecDepth 20000 in
theorem ggX8_clear_X8_isPolicy : GoodIn wsX8_clear wsX8_isPolicy := goodIn_r _ [7, 8, 9, 10, 11, 12, 13, 14, 15, 16, 17, 18, 19, 20, 21, 22, 23, 24, 25, 26, 27, 28, 29, 30, 31, 32, 33, 34, 35, 36, 37, 38, 39] (by decide +kernel) (by decide +kernel)
set_option maxRecDepth 20000 in
theorem gX8_clear_X8_isPolicy : GoodIn wsX8_clear (wsV RX8 142 RX8 yX8_isPolicy wsX8_isPolicy) := goodIn_app (goodIn_of _ (by decide +kernel)) ggX8_clear_X8_isPolicy
theorem dX8_clear_0 : decode cX8_clear 0 = .ok (.aload_n 0, 1) := by decide +kernel
theorem dX8_clear_1 : decode cX8_clear 1 = .ok (.aload_n 0, 1) := by decide +kernel
theorem dX8_clear_2 : decode cX8_clear 2 = .ok (.iload_n 1, 1) := by decide +kernel
theorem dX8_clear_3 : decode cX8_clear 3 = .ok (.invokevirtual 142, 3) := by decide +kernel
theorem dX8_clear_6 : decode cX8_clear 6 = .ok (.ifCond .eq 7, 3) := by decide +kernel
theorem dX8_clear_9 : decode cX8_clear 9 = .ok (.iconst 0, 1) := by decide +kernel
theorem dX8_clear_10 : decode cX8_clear 10 = .ok (.goto 4, 3) := by decide +kernel
theorem dX8_clear_13 : decode cX8_clear 13 = .ok (.iconst 1, 1) := by decide +kernel
theorem dX8_clear_14 : decode cX8_clear 14 = .ok (.putfield 88, 3) := by decide +kernel
theorem dX8_clear_17 : decode cX8_clear 17 = .ok (.aload_n 0, 1) := by decide +kernel
theorem dX8_clear_18 : decode cX8_clear 18 = .ok (.getfield 88, 3) := by decide +kernel
theorem dX8_clear_21 : decode cX8_clear 21 = .ok (.ifCond .le 5, 3) := by decide +kernel
theorem dX8_clear_24 : decode cX8_clear 24 = .ok (.iconst 0, 1) := by decide +kernel
theorem dX8_clear_25 : decode cX8_clear 25 = .ok (.ireturn, 1) := by decide +kernel
theorem dX8_clear_26 : decode cX8_clear 26 = .ok (.aload_n 0, 1) := by decide +kernel
theorem dX8_clear_27 : decode cX8_clear 27 = .ok (.getfield 7, 3) := by decide +kernel
theorem dX8_clear_30 : decode cX8_clear 30 = .ok (.iload_n 1, 1) := by decide +kernel
theorem dX8_clear_31 : decode cX8_clear 31 = .ok (.iaload, 1) := by decide +kernel
theorem dX8_clear_32 : decode cX8_clear 32 = .ok (.istore_n 2, 1) := by decide +kernel
theorem dX8_clear_33 : decode cX8_clear 33 = .ok (.aload_n 0, 1) := by decide +kernel
theorem dX8_clear_34 : decode cX8_clear 34 = .ok (.getfield 7, 3) := by decide +kernel
theorem dX8_clear_37 : decode cX8_clear 37 = .ok (.iload_n 1, 1) := by decide +kernel
theorem dX8_clear_38 : decode cX8_clear 38 = .ok (.iconst 0, 1) := by decide +kernel
theorem dX8_clear_39 : decode cX8_clear 39 = .ok (.iastore, 1) := by decide +kernel
theorem dX8_clear_40 : decode cX8_clear 40 = .ok (.iload_n 2, 1) := by decide +kernel
theorem dX8_clear_41 : decode cX8_clear 41 = .ok (.ireturn, 1) := by decide +kernel
theorem dX8_isLease_0 : decode cX8_isLease 0 = .ok (.iload_n 0, 1) := by decide +kernel
theorem dX8_isLease_1 : decode cX8_isLease 1 = .ok (.iconst 1, 1) := by decide +kernel
theorem dX8_isLease_2 : decode cX8_isLease 2 = .ok (.if_icmp .lt 26, 3) := by decide +kernel
theorem dX8_isLease_5 : decode cX8_isLease 5 = .ok (.iload_n 0, 1) := by decide +kernel
theorem dX8_isLease_6 : decode cX8_isLease 6 = .ok (.sipush 1000, 3) := by decide +kernel
theorem dX8_isLease_9 : decode cX8_isLease 9 = .ok (.if_icmp .gt 19, 3) := by decide +kernel
theorem dX8_isLease_12 : decode cX8_isLease 12 = .ok (.iload_n 1, 1) := by decide +kernel
theorem dX8_isLease_13 : decode cX8_isLease 13 = .ok (.iload_n 0, 1) := by decide +kernel
theorem dX8_isLease_14 : decode cX8_isLease 14 = .ok (.if_icmp .lt 14, 3) := by decide +kernel
theorem dX8_isLease_17 : decode cX8_isLease 17 = .ok (.iload_n 1, 1) := by decide +kernel
theorem dX8_isLease_18 : decode cX8_isLease 18 = .ok (.sipush 5000, 3) := by decide +kernel
theorem dX8_isLease_21 : decode cX8_isLease 21 = .ok (.if_icmp .gt 7, 3) := by decide +kernel
theorem dX8_isLease_24 : decode cX8_isLease 24 = .ok (.iconst 1, 1) := by decide +kernel
theorem dX8_isLease_25 : decode cX8_isLease 25 = .ok (.goto 4, 3) := by decide +kernel
theorem dX8_isLease_28 : decode cX8_isLease 28 = .ok (.iconst 0, 1) := by decide +kernel
theorem dX8_isLease_29 : decode cX8_isLease 29 = .ok (.ireturn, 1) := by decide +kernel
set_option maxRecDepth 20000 in
theorem ggX8_mount_X8_isPath : GoodIn wsX8_mount wsX8_isPath := goodIn_r _ [9, 10, 11, 8, 12, 13, 14, 15] (by decide +kernel) (by decide +kernel)
set_option maxRecDepth 20000 in
theorem gX8_mount_X8_isPath : GoodIn wsX8_mount (va_wsS RX8 146 yX8_isPath wsX8_isPath) := goodIn_app (goodIn_of _ (by decide +kernel)) ggX8_mount_X8_isPath
set_option maxRecDepth 20000 in
theorem ggX8_mount_X8_isLease : GoodIn wsX8_mount wsX8_isLease := goodIn_r _ [18] (by decide +kernel) (by decide +kernel)
set_option maxRecDepth 20000 in
theorem gX8_mount_X8_isLease : GoodIn wsX8_mount (va_wsS RX8 149 yX8_isLease wsX8_isLease) := goodIn_app (goodIn_of _ (by decide +kernel)) ggX8_mount_X8_isLease
theorem dX8_mount_0 : decode cX8_mount 0 = .ok (.iconst 0, 1) := by decide +kernel
theorem dX8_mount_1 : decode cX8_mount 1 = .ok (.istore 4, 2) := by decide +kernel
theorem dX8_mount_3 : decode cX8_mount 3 = .ok (.iload 4, 2) := by decide +kernel
theorem dX8_mount_5 : decode cX8_mount 5 = .ok (.aload_n 0, 1) := by decide +kernel
theorem dX8_mount_6 : decode cX8_mount 6 = .ok (.getfield 136, 3) := by decide +kernel
theorem dX8_mount_9 : decode cX8_mount 9 = .ok (.if_icmp .ge 20, 3) := by decide +kernel
theorem dX8_mount_12 : decode cX8_mount 12 = .ok (.aload_n 0, 1) := by decide +kernel
theorem dX8_mount_13 : decode cX8_mount 13 = .ok (.getfield 23, 3) := by decide +kernel
theorem dX8_mount_16 : decode cX8_mount 16 = .ok (.iload 4, 2) := by decide +kernel
theorem dX8_mount_18 : decode cX8_mount 18 = .ok (.iaload, 1) := by decide +kernel
theorem dX8_mount_19 : decode cX8_mount 19 = .ok (.iload_n 1, 1) := by decide +kernel
theorem dX8_mount_20 : decode cX8_mount 20 = .ok (.if_icmp .eq 9, 3) := by decide +kernel
theorem dX8_mount_23 : decode cX8_mount 23 = .ok (.iinc 4 1, 3) := by decide +kernel
theorem dX8_mount_26 : decode cX8_mount 26 = .ok (.goto (-23), 3) := by decide +kernel
theorem dX8_mount_29 : decode cX8_mount 29 = .ok (.aload_n 0, 1) := by decide +kernel
theorem dX8_mount_30 : decode cX8_mount 30 = .ok (.iload_n 1, 1) := by decide +kernel
theorem dX8_mount_31 : decode cX8_mount 31 = .ok (.invokestatic 146, 3) := by decide +kernel
theorem dX8_mount_34 : decode cX8_mount 34 = .ok (.ifCond .eq 11, 3) := by decide +kernel
theorem dX8_mount_37 : decode cX8_mount 37 = .ok (.iload_n 2, 1) := by decide +kernel
theorem dX8_mount_38 : decode cX8_mount 38 = .ok (.iload_n 3, 1) := by decide +kernel
theorem dX8_mount_39 : decode cX8_mount 39 = .ok (.invokestatic 149, 3) := by decide +kernel
theorem dX8_mount_42 : decode cX8_mount 42 = .ok (.ifCond .ne 7, 3) := by decide +kernel
theorem dX8_mount_45 : decode cX8_mount 45 = .ok (.iconst 1, 1) := by decide +kernel
theorem dX8_mount_46 : decode cX8_mount 46 = .ok (.goto 15, 3) := by decide +kernel
theorem dX8_mount_49 : decode cX8_mount 49 = .ok (.iload 4, 2) := by decide +kernel
theorem dX8_mount_51 : decode cX8_mount 51 = .ok (.bipush 6, 2) := by decide +kernel
theorem dX8_mount_53 : decode cX8_mount 53 = .ok (.if_icmp .ne 7, 3) := by decide +kernel
theorem dX8_mount_56 : decode cX8_mount 56 = .ok (.iconst 2, 1) := by decide +kernel
theorem dX8_mount_57 : decode cX8_mount 57 = .ok (.goto 4, 3) := by decide +kernel
theorem dX8_mount_60 : decode cX8_mount 60 = .ok (.iconst 0, 1) := by decide +kernel
theorem dX8_mount_61 : decode cX8_mount 61 = .ok (.putfield 88, 3) := by decide +kernel
theorem dX8_mount_64 : decode cX8_mount 64 = .ok (.aload_n 0, 1) := by decide +kernel
theorem dX8_mount_65 : decode cX8_mount 65 = .ok (.getfield 88, 3) := by decide +kernel
theorem dX8_mount_68 : decode cX8_mount 68 = .ok (.ifCond .le 5, 3) := by decide +kernel
theorem dX8_mount_71 : decode cX8_mount 71 = .ok (.iconst 0, 1) := by decide +kernel
theorem dX8_mount_72 : decode cX8_mount 72 = .ok (.ireturn, 1) := by decide +kernel
theorem dX8_mount_73 : decode cX8_mount 73 = .ok (.aload_n 0, 1) := by decide +kernel
theorem dX8_mount_74 : decode cX8_mount 74 = .ok (.dup, 1) := by decide +kernel
theorem dX8_mount_75 : decode cX8_mount 75 = .ok (.getfield 136, 3) := by decide +kernel
theorem dX8_mount_78 : decode cX8_mount 78 = .ok (.iload 4, 2) := by decide +kernel
theorem dX8_mount_80 : decode cX8_mount 80 = .ok (.aload_n 0, 1) := by decide +kernel
theorem dX8_mount_81 : decode cX8_mount 81 = .ok (.getfield 136, 3) := by decide +kernel
theorem dX8_mount_84 : decode cX8_mount 84 = .ok (.if_icmp .ne 7, 3) := by decide +kernel
theorem dX8_mount_87 : decode cX8_mount 87 = .ok (.iconst 1, 1) := by decide +kernel
theorem dX8_mount_88 : decode cX8_mount 88 = .ok (.goto 4, 3) := by decide +kernel
theorem dX8_mount_91 : decode cX8_mount 91 = .ok (.iconst 0, 1) := by decide +kernel
theorem dX8_mount_92 : decode cX8_mount 92 = .ok (.iadd, 1) := by decide +kernel
theorem dX8_mount_93 : decode cX8_mount 93 = .ok (.putfield 136, 3) := by decide +kernel
theorem dX8_mount_96 : decode cX8_mount 96 = .ok (.aload_n 0, 1) := by decide +kernel
theorem dX8_mount_97 : decode cX8_mount 97 = .ok (.getfield 23, 3) := by decide +kernel
theorem dX8_mount_100 : decode cX8_mount 100 = .ok (.iload 4, 2) := by decide +kernel
theorem dX8_mount_102 : decode cX8_mount 102 = .ok (.iload_n 1, 1) := by decide +kernel
theorem dX8_mount_103 : decode cX8_mount 103 = .ok (.iastore, 1) := by decide +kernel
theorem dX8_mount_104 : decode cX8_mount 104 = .ok (.aload_n 0, 1) := by decide +kernel
theorem dX8_mount_105 : decode cX8_mount 105 = .ok (.getfield 26, 3) := by decide +kernel
theorem dX8_mount_108 : decode cX8_mount 108 = .ok (.iload 4, 2) := by decide +kernel
theorem dX8_mount_110 : decode cX8_mount 110 = .ok (.iload_n 2, 1) := by decide +kernel
theorem dX8_mount_111 : decode cX8_mount 111 = .ok (.iastore, 1) := by decide +kernel
theorem dX8_mount_112 : decode cX8_mount 112 = .ok (.aload_n 0, 1) := by decide +kernel
theorem dX8_mount_113 : decode cX8_mount 113 = .ok (.getfield 29, 3) := by decide +kernel
theorem dX8_mount_116 : decode cX8_mount 116 = .ok (.iload 4, 2) := by decide +kernel
theorem dX8_mount_118 : decode cX8_mount 118 = .ok (.iload_n 3, 1) := by decide +kernel
theorem dX8_mount_119 : decode cX8_mount 119 = .ok (.iastore, 1) := by decide +kernel
theorem dX8_mount_120 : decode cX8_mount 120 = .ok (.aload_n 0, 1) := by decide +kernel
theorem dX8_mount_121 : decode cX8_mount 121 = .ok (.getfield 136, 3) := by decide +kernel
theorem dX8_mount_124 : decode cX8_mount 124 = .ok (.ireturn, 1) := by decide +kernel
theorem dX8_manyTokens_0 : decode cX8_manyTokens 0 = .ok (.iconst 0, 1) := by decide +kernel
theorem dX8_manyTokens_1 : decode cX8_manyTokens 1 = .ok (.istore_n 1, 1) := by decide +kernel
theorem dX8_manyTokens_2 : decode cX8_manyTokens 2 = .ok (.iconst 0, 1) := by decide +kernel
theorem dX8_manyTokens_3 : decode cX8_manyTokens 3 = .ok (.istore_n 2, 1) := by decide +kernel
theorem dX8_manyTokens_4 : decode cX8_manyTokens 4 = .ok (.iload_n 2, 1) := by decide +kernel
theorem dX8_manyTokens_5 : decode cX8_manyTokens 5 = .ok (.aload_n 0, 1) := by decide +kernel
theorem dX8_manyTokens_6 : decode cX8_manyTokens 6 = .ok (.getfield 32, 3) := by decide +kernel
theorem dX8_manyTokens_9 : decode cX8_manyTokens 9 = .ok (.if_icmp .ge 26, 3) := by decide +kernel
theorem dX8_manyTokens_12 : decode cX8_manyTokens 12 = .ok (.iload_n 1, 1) := by decide +kernel
theorem dX8_manyTokens_13 : decode cX8_manyTokens 13 = .ok (.aload_n 0, 1) := by decide +kernel
theorem dX8_manyTokens_14 : decode cX8_manyTokens 14 = .ok (.getfield 36, 3) := by decide +kernel
theorem dX8_manyTokens_17 : decode cX8_manyTokens 17 = .ok (.iload_n 2, 1) := by decide +kernel
theorem dX8_manyTokens_18 : decode cX8_manyTokens 18 = .ok (.baload, 1) := by decide +kernel
theorem dX8_manyTokens_19 : decode cX8_manyTokens 19 = .ok (.ifCond .eq 7, 3) := by decide +kernel
theorem dX8_manyTokens_22 : decode cX8_manyTokens 22 = .ok (.iconst 1, 1) := by decide +kernel
theorem dX8_manyTokens_23 : decode cX8_manyTokens 23 = .ok (.goto 4, 3) := by decide +kernel
theorem dX8_manyTokens_26 : decode cX8_manyTokens 26 = .ok (.iconst 0, 1) := by decide +kernel
theorem dX8_manyTokens_27 : decode cX8_manyTokens 27 = .ok (.iadd, 1) := by decide +kernel
theorem dX8_manyTokens_28 : decode cX8_manyTokens 28 = .ok (.istore_n 1, 1) := by decide +kernel
theorem dX8_manyTokens_29 : decode cX8_manyTokens 29 = .ok (.iinc 2 1, 3) := by decide +kernel
theorem dX8_manyTokens_32 : decode cX8_manyTokens 32 = .ok (.goto (-28), 3) := by decide +kernel
theorem dX8_manyTokens_35 : decode cX8_manyTokens 35 = .ok (.iload_n 1, 1) := by decide +kernel
theorem dX8_manyTokens_36 : decode cX8_manyTokens 36 = .ok (.ireturn, 1) := by decide +kernel
theorem dX8_manyCredentials_0 : decode cX8_manyCredentials 0 = .ok (.iconst 0, 1) := by decide +kernel
theorem dX8_manyCredentials_1 : decode cX8_manyCredentials 1 = .ok (.istore_n 1, 1) := by decide +kernel
theorem dX8_manyCredentials_2 : decode cX8_manyCredentials 2 = .ok (.iconst 0, 1) := by decide +kernel
theorem dX8_manyCredentials_3 : decode cX8_manyCredentials 3 = .ok (.istore_n 2, 1) := by decide +kernel
theorem dX8_manyCredentials_4 : decode cX8_manyCredentials 4 = .ok (.iload_n 2, 1) := by decide +kernel
theorem dX8_manyCredentials_5 : decode cX8_manyCredentials 5 = .ok (.aload_n 0, 1) := by decide +kernel
theorem dX8_manyCredentials_6 : decode cX8_manyCredentials 6 = .ok (.getfield 152, 3) := by decide +kernel
theorem dX8_manyCredentials_9 : decode cX8_manyCredentials 9 = .ok (.if_icmp .ge 26, 3) := by decide +kernel
theorem dX8_manyCredentials_12 : decode cX8_manyCredentials 12 = .ok (.iload_n 1, 1) := by decide +kernel
theorem dX8_manyCredentials_13 : decode cX8_manyCredentials 13 = .ok (.aload_n 0, 1) := by decide +kernel
theorem dX8_manyCredentials_14 : decode cX8_manyCredentials 14 = .ok (.getfield 57, 3) := by decide +kernel
theorem dX8_manyCredentials_17 : decode cX8_manyCredentials 17 = .ok (.iload_n 2, 1) := by decide +kernel
theorem dX8_manyCredentials_18 : decode cX8_manyCredentials 18 = .ok (.baload, 1) := by decide +kernel
theorem dX8_manyCredentials_19 : decode cX8_manyCredentials 19 = .ok (.ifCond .eq 7, 3) := by decide +kernel
theorem dX8_manyCredentials_22 : decode cX8_manyCredentials 22 = .ok (.iconst 1, 1) := by decide +kernel
theorem dX8_manyCredentials_23 : decode cX8_manyCredentials 23 = .ok (.goto 4, 3) := by decide +kernel
theorem dX8_manyCredentials_26 : decode cX8_manyCredentials 26 = .ok (.iconst 0, 1) := by decide +kernel
theorem dX8_manyCredentials_27 : decode cX8_manyCredentials 27 = .ok (.iadd, 1) := by decide +kernel
theorem dX8_manyCredentials_28 : decode cX8_manyCredentials 28 = .ok (.istore_n 1, 1) := by decide +kernel
theorem dX8_manyCredentials_29 : decode cX8_manyCredentials 29 = .ok (.iinc 2 1, 3) := by decide +kernel
theorem dX8_manyCredentials_32 : decode cX8_manyCredentials 32 = .ok (.goto (-28), 3) := by decide +kernel
theorem dX8_manyCredentials_35 : decode cX8_manyCredentials 35 = .ok (.iload_n 1, 1) := by decide +kernel
theorem dX8_manyCredentials_36 : decode cX8_manyCredentials 36 = .ok (.ireturn, 1) := by decide +kernel
theorem dX8_ceases_0 : decode cX8_ceases 0 = .ok (.iconst 0, 1) := by decide +kernel
theorem dX8_ceases_1 : decode cX8_ceases 1 = .ok (.istore_n 1, 1) := by decide +kernel
theorem dX8_ceases_2 : decode cX8_ceases 2 = .ok (.iconst 1, 1) := by decide +kernel
theorem dX8_ceases_3 : decode cX8_ceases 3 = .ok (.istore_n 2, 1) := by decide +kernel
theorem dX8_ceases_4 : decode cX8_ceases 4 = .ok (.iload_n 2, 1) := by decide +kernel
theorem dX8_ceases_5 : decode cX8_ceases 5 = .ok (.aload_n 0, 1) := by decide +kernel
theorem dX8_ceases_6 : decode cX8_ceases 6 = .ok (.getfield 32, 3) := by decide +kernel
theorem dX8_ceases_9 : decode cX8_ceases 9 = .ok (.if_icmp .ge 65, 3) := by decide +kernel
theorem dX8_ceases_12 : decode cX8_ceases 12 = .ok (.aload_n 0, 1) := by decide +kernel
theorem dX8_ceases_13 : decode cX8_ceases 13 = .ok (.getfield 36, 3) := by decide +kernel
theorem dX8_ceases_16 : decode cX8_ceases 16 = .ok (.iload_n 2, 1) := by decide +kernel
theorem dX8_ceases_17 : decode cX8_ceases 17 = .ok (.baload, 1) := by decide +kernel
theorem dX8_ceases_18 : decode cX8_ceases 18 = .ok (.ifCond .eq 50, 3) := by decide +kernel
theorem dX8_ceases_21 : decode cX8_ceases 21 = .ok (.aload_n 0, 1) := by decide +kernel
theorem dX8_ceases_22 : decode cX8_ceases 22 = .ok (.getfield 48, 3) := by decide +kernel
theorem dX8_ceases_25 : decode cX8_ceases 25 = .ok (.iload_n 2, 1) := by decide +kernel
theorem dX8_ceases_26 : decode cX8_ceases 26 = .ok (.iaload, 1) := by decide +kernel
theorem dX8_ceases_27 : decode cX8_ceases 27 = .ok (.aload_n 0, 1) := by decide +kernel
theorem dX8_ceases_28 : decode cX8_ceases 28 = .ok (.getfield 104, 3) := by decide +kernel
theorem dX8_ceases_31 : decode cX8_ceases 31 = .ok (.if_icmp .le 27, 3) := by decide +kernel
theorem dX8_ceases_34 : decode cX8_ceases 34 = .ok (.aload_n 0, 1) := by decide +kernel
theorem dX8_ceases_35 : decode cX8_ceases 35 = .ok (.getfield 39, 3) := by decide +kernel
theorem dX8_ceases_38 : decode cX8_ceases 38 = .ok (.iload_n 2, 1) := by decide +kernel
theorem dX8_ceases_39 : decode cX8_ceases 39 = .ok (.iaload, 1) := by decide +kernel
theorem dX8_ceases_40 : decode cX8_ceases 40 = .ok (.iconst (-1), 1) := by decide +kernel
theorem dX8_ceases_41 : decode cX8_ceases 41 = .ok (.if_icmp .eq 27, 3) := by decide +kernel
theorem dX8_ceases_44 : decode cX8_ceases 44 = .ok (.aload_n 0, 1) := by decide +kernel
theorem dX8_ceases_45 : decode cX8_ceases 45 = .ok (.getfield 36, 3) := by decide +kernel
theorem dX8_ceases_48 : decode cX8_ceases 48 = .ok (.aload_n 0, 1) := by decide +kernel
theorem dX8_ceases_49 : decode cX8_ceases 49 = .ok (.getfield 39, 3) := by decide +kernel
theorem dX8_ceases_52 : decode cX8_ceases 52 = .ok (.iload_n 2, 1) := by decide +kernel
theorem dX8_ceases_53 : decode cX8_ceases 53 = .ok (.iaload, 1) := by decide +kernel
theorem dX8_ceases_54 : decode cX8_ceases 54 = .ok (.baload, 1) := by decide +kernel
theorem dX8_ceases_55 : decode cX8_ceases 55 = .ok (.ifCond .ne 13, 3) := by decide +kernel
theorem dX8_ceases_58 : decode cX8_ceases 58 = .ok (.aload_n 0, 1) := by decide +kernel
theorem dX8_ceases_59 : decode cX8_ceases 59 = .ok (.getfield 36, 3) := by decide +kernel
theorem dX8_ceases_62 : decode cX8_ceases 62 = .ok (.iload_n 2, 1) := by decide +kernel
theorem dX8_ceases_63 : decode cX8_ceases 63 = .ok (.iconst 0, 1) := by decide +kernel
theorem dX8_ceases_64 : decode cX8_ceases 64 = .ok (.bastore, 1) := by decide +kernel
theorem dX8_ceases_65 : decode cX8_ceases 65 = .ok (.iinc 1 1, 3) := by decide +kernel
theorem dX8_ceases_68 : decode cX8_ceases 68 = .ok (.iinc 2 1, 3) := by decide +kernel
theorem dX8_ceases_71 : decode cX8_ceases 71 = .ok (.goto (-67), 3) := by decide +kernel
theorem dX8_ceases_74 : decode cX8_ceases 74 = .ok (.iconst 0, 1) := by decide +kernel
theorem dX8_ceases_75 : decode cX8_ceases 75 = .ok (.istore_n 2, 1) := by decide +kernel
theorem dX8_ceases_76 : decode cX8_ceases 76 = .ok (.iload_n 2, 1) := by decide +kernel
theorem dX8_ceases_77 : decode cX8_ceases 77 = .ok (.aload_n 0, 1) := by decide +kernel
theorem dX8_ceases_78 : decode cX8_ceases 78 = .ok (.getfield 152, 3) := by decide +kernel
theorem dX8_ceases_81 : decode cX8_ceases 81 = .ok (.if_icmp .ge 55, 3) := by decide +kernel
theorem dX8_ceases_84 : decode cX8_ceases 84 = .ok (.aload_n 0, 1) := by decide +kernel
theorem dX8_ceases_85 : decode cX8_ceases 85 = .ok (.getfield 57, 3) := by decide +kernel
theorem dX8_ceases_88 : decode cX8_ceases 88 = .ok (.iload_n 2, 1) := by decide +kernel
theorem dX8_ceases_89 : decode cX8_ceases 89 = .ok (.baload, 1) := by decide +kernel
theorem dX8_ceases_90 : decode cX8_ceases 90 = .ok (.ifCond .eq 40, 3) := by decide +kernel
theorem dX8_ceases_93 : decode cX8_ceases 93 = .ok (.aload_n 0, 1) := by decide +kernel
theorem dX8_ceases_94 : decode cX8_ceases 94 = .ok (.getfield 69, 3) := by decide +kernel
theorem dX8_ceases_97 : decode cX8_ceases 97 = .ok (.iload_n 2, 1) := by decide +kernel
theorem dX8_ceases_98 : decode cX8_ceases 98 = .ok (.iaload, 1) := by decide +kernel
theorem dX8_ceases_99 : decode cX8_ceases 99 = .ok (.aload_n 0, 1) := by decide +kernel
theorem dX8_ceases_100 : decode cX8_ceases 100 = .ok (.getfield 104, 3) := by decide +kernel
theorem dX8_ceases_103 : decode cX8_ceases 103 = .ok (.if_icmp .le 17, 3) := by decide +kernel
theorem dX8_ceases_106 : decode cX8_ceases 106 = .ok (.aload_n 0, 1) := by decide +kernel
theorem dX8_ceases_107 : decode cX8_ceases 107 = .ok (.getfield 36, 3) := by decide +kernel
theorem dX8_ceases_110 : decode cX8_ceases 110 = .ok (.aload_n 0, 1) := by decide +kernel
theorem dX8_ceases_111 : decode cX8_ceases 111 = .ok (.getfield 60, 3) := by decide +kernel
theorem dX8_ceases_114 : decode cX8_ceases 114 = .ok (.iload_n 2, 1) := by decide +kernel
theorem dX8_ceases_115 : decode cX8_ceases 115 = .ok (.iaload, 1) := by decide +kernel
theorem dX8_ceases_116 : decode cX8_ceases 116 = .ok (.baload, 1) := by decide +kernel
theorem dX8_ceases_117 : decode cX8_ceases 117 = .ok (.ifCond .ne 13, 3) := by decide +kernel
theorem dX8_ceases_120 : decode cX8_ceases 120 = .ok (.aload_n 0, 1) := by decide +kernel
theorem dX8_ceases_121 : decode cX8_ceases 121 = .ok (.getfield 57, 3) := by decide +kernel
theorem dX8_ceases_124 : decode cX8_ceases 124 = .ok (.iload_n 2, 1) := by decide +kernel
theorem dX8_ceases_125 : decode cX8_ceases 125 = .ok (.iconst 0, 1) := by decide +kernel
theorem dX8_ceases_126 : decode cX8_ceases 126 = .ok (.bastore, 1) := by decide +kernel
theorem dX8_ceases_127 : decode cX8_ceases 127 = .ok (.iinc 1 1, 3) := by decide +kernel
theorem dX8_ceases_130 : decode cX8_ceases 130 = .ok (.iinc 2 1, 3) := by decide +kernel
theorem dX8_ceases_133 : decode cX8_ceases 133 = .ok (.goto (-57), 3) := by decide +kernel
theorem dX8_ceases_136 : decode cX8_ceases 136 = .ok (.iload_n 1, 1) := by decide +kernel
theorem dX8_ceases_137 : decode cX8_ceases 137 = .ok (.ireturn, 1) := by decide +kernel
theorem dX8_wasMade_0 : decode cX8_wasMade 0 = .ok (.iload_n 1, 1) := by decide +kernel
theorem dX8_wasMade_1 : decode cX8_wasMade 1 = .ok (.ifCond .lt 15, 3) := by decide +kernel
theorem dX8_wasMade_4 : decode cX8_wasMade 4 = .ok (.iload_n 1, 1) := by decide +kernel
theorem dX8_wasMade_5 : decode cX8_wasMade 5 = .ok (.aload_n 0, 1) := by decide +kernel
theorem dX8_wasMade_6 : decode cX8_wasMade 6 = .ok (.getfield 32, 3) := by decide +kernel
theorem dX8_wasMade_9 : decode cX8_wasMade 9 = .ok (.if_icmp .ge 7, 3) := by decide +kernel
theorem dX8_wasMade_12 : decode cX8_wasMade 12 = .ok (.iconst 1, 1) := by decide +kernel
theorem dX8_wasMade_13 : decode cX8_wasMade 13 = .ok (.goto 4, 3) := by decide +kernel
theorem dX8_wasMade_16 : decode cX8_wasMade 16 = .ok (.iconst 0, 1) := by decide +kernel
theorem dX8_wasMade_17 : decode cX8_wasMade 17 = .ok (.ireturn, 1) := by decide +kernel
set_option maxRecDepth 20000 in
theorem ggX8_create_X8_wasMade : GoodIn wsX8_create wsX8_wasMade := goodIn_r _ [16, 5, 39, 40, 41, 42, 43, 44, 45, 46, 47, 48, 49, 50, 51, 52, 53, 54, 55, 56, 57, 58, 59, 60, 61, 62, 63, 64, 65, 66, 67, 68, 69] (by decide +kernel) (by decide +kernel)
set_option maxRecDepth 20000 in
theorem gX8_create_X8_wasMade : GoodIn wsX8_create (wsV RX8 155 RX8 yX8_wasMade wsX8_wasMade) := goodIn_app (goodIn_of _ (by decide +kernel)) ggX8_create_X8_wasMade
set_option maxRecDepth 20000 in
theorem ggX8_create_X8_isLease : GoodIn wsX8_create wsX8_isLease := goodIn_r _ [19] (by decide +kernel) (by decide +kernel)
set_option maxRecDepth 20000 in
theorem gX8_create_X8_isLease : GoodIn wsX8_create (va_wsS RX8 149 yX8_isLease wsX8_isLease) := goodIn_app (goodIn_of _ (by decide +kernel)) ggX8_create_X8_isLease
set_option maxRecDepth 20000 in
theorem ggX8_create_X8_manyTokens : GoodIn wsX8_create wsX8_manyTokens := goodIn_r _ [23, 5, 3, 39, 40, 41, 42, 43, 44, 45, 46, 47, 48, 49, 50, 51, 52, 53, 54, 55, 56, 57, 58, 59, 60, 61, 62, 63, 64, 65, 66, 67, 68, 69] (by decide +kernel) (by decide +kernel)
set_option maxRecDepth 20000 in
theorem gX8_create_X8_manyTokens : GoodIn wsX8_create (wsV RX8 158 RX8 yX8_manyTokens wsX8_manyTokens) := goodIn_app (goodIn_of _ (by decide +kernel)) ggX8_create_X8_manyTokens
set_option maxRecDepth 20000 in
theorem ggX8_create_X8_writes : GoodIn wsX8_create wsX8_writes := goodIn_r _ [27, 28, 29, 30, 31, 32, 33, 34, 35, 36, 37, 8, 38, 39, 40, 41, 42, 43, 44, 45, 46, 47, 48, 49, 50, 51, 52, 53, 54, 55, 56, 57, 58, 59, 60, 61, 62, 63, 64, 65, 66, 67, 68, 69] (by decide +kernel) (by decide +kernel)
set_option maxRecDepth 20000 in
theorem gX8_create_X8_writes : GoodIn wsX8_create (wsV RX8 162 RX8 yX8_writes wsX8_writes) := goodIn_app (goodIn_of _ (by decide +kernel)) ggX8_create_X8_writes
theorem dX8_create_0 : decode cX8_create 0 = .ok (.iload_n 2, 1) := by decide +kernel
theorem dX8_create_1 : decode cX8_create 1 = .ok (.ifCond .lt 17, 3) := by decide +kernel
theorem dX8_create_4 : decode cX8_create 4 = .ok (.iload_n 2, 1) := by decide +kernel
theorem dX8_create_5 : decode cX8_create 5 = .ok (.iconst 1, 1) := by decide +kernel
theorem dX8_create_6 : decode cX8_create 6 = .ok (.aload_n 0, 1) := by decide +kernel
theorem dX8_create_7 : decode cX8_create 7 = .ok (.getfield 130, 3) := by decide +kernel
theorem dX8_create_10 : decode cX8_create 10 = .ok (.ishl, 1) := by decide +kernel
theorem dX8_create_11 : decode cX8_create 11 = .ok (.if_icmp .ge 7, 3) := by decide +kernel
theorem dX8_create_14 : decode cX8_create 14 = .ok (.iconst 1, 1) := by decide +kernel
theorem dX8_create_15 : decode cX8_create 15 = .ok (.goto 4, 3) := by decide +kernel
theorem dX8_create_18 : decode cX8_create 18 = .ok (.iconst 0, 1) := by decide +kernel
theorem dX8_create_19 : decode cX8_create 19 = .ok (.istore 6, 2) := by decide +kernel
theorem dX8_create_21 : decode cX8_create 21 = .ok (.aload_n 0, 1) := by decide +kernel
theorem dX8_create_22 : decode cX8_create 22 = .ok (.iload_n 1, 1) := by decide +kernel
theorem dX8_create_23 : decode cX8_create 23 = .ok (.invokevirtual 155, 3) := by decide +kernel
theorem dX8_create_26 : decode cX8_create 26 = .ok (.istore 7, 2) := by decide +kernel
theorem dX8_create_28 : decode cX8_create 28 = .ok (.iload 7, 2) := by decide +kernel
theorem dX8_create_30 : decode cX8_create 30 = .ok (.ifCond .eq 24, 3) := by decide +kernel
theorem dX8_create_33 : decode cX8_create 33 = .ok (.iload_n 1, 1) := by decide +kernel
theorem dX8_create_34 : decode cX8_create 34 = .ok (.ifCond .eq 16, 3) := by decide +kernel
theorem dX8_create_37 : decode cX8_create 37 = .ok (.iload_n 2, 1) := by decide +kernel
theorem dX8_create_38 : decode cX8_create 38 = .ok (.aload_n 0, 1) := by decide +kernel
theorem dX8_create_39 : decode cX8_create 39 = .ok (.getfield 42, 3) := by decide +kernel
theorem dX8_create_42 : decode cX8_create 42 = .ok (.iload_n 1, 1) := by decide +kernel
theorem dX8_create_43 : decode cX8_create 43 = .ok (.iaload, 1) := by decide +kernel
theorem dX8_create_44 : decode cX8_create 44 = .ok (.iconst (-1), 1) := by decide +kernel
theorem dX8_create_45 : decode cX8_create 45 = .ok (.ixor, 1) := by decide +kernel
theorem dX8_create_46 : decode cX8_create 46 = .ok (.iand, 1) := by decide +kernel
theorem dX8_create_47 : decode cX8_create 47 = .ok (.ifCond .ne 7, 3) := by decide +kernel
theorem dX8_create_50 : decode cX8_create 50 = .ok (.iconst 1, 1) := by decide +kernel
theorem dX8_create_51 : decode cX8_create 51 = .ok (.goto 4, 3) := by decide +kernel
theorem dX8_create_54 : decode cX8_create 54 = .ok (.iconst 0, 1) := by decide +kernel
theorem dX8_create_55 : decode cX8_create 55 = .ok (.istore 8, 2) := by decide +kernel
theorem dX8_create_57 : decode cX8_create 57 = .ok (.aload_n 0, 1) := by decide +kernel
theorem dX8_create_58 : decode cX8_create 58 = .ok (.iload 7, 2) := by decide +kernel
theorem dX8_create_60 : decode cX8_create 60 = .ok (.ifCond .ne 7, 3) := by decide +kernel
theorem dX8_create_63 : decode cX8_create 63 = .ok (.iconst 1, 1) := by decide +kernel
theorem dX8_create_64 : decode cX8_create 64 = .ok (.goto 61, 3) := by decide +kernel
theorem dX8_create_67 : decode cX8_create 67 = .ok (.iload 6, 2) := by decide +kernel
theorem dX8_create_69 : decode cX8_create 69 = .ok (.ifCond .eq 29, 3) := by decide +kernel
theorem dX8_create_72 : decode cX8_create 72 = .ok (.iload 8, 2) := by decide +kernel
theorem dX8_create_74 : decode cX8_create 74 = .ok (.ifCond .eq 24, 3) := by decide +kernel
theorem dX8_create_77 : decode cX8_create 77 = .ok (.iload_n 3, 1) := by decide +kernel
theorem dX8_create_78 : decode cX8_create 78 = .ok (.iload 4, 2) := by decide +kernel
theorem dX8_create_80 : decode cX8_create 80 = .ok (.invokestatic 149, 3) := by decide +kernel
theorem dX8_create_83 : decode cX8_create 83 = .ok (.ifCond .eq 15, 3) := by decide +kernel
theorem dX8_create_86 : decode cX8_create 86 = .ok (.iload 5, 2) := by decide +kernel
theorem dX8_create_88 : decode cX8_create 88 = .ok (.ifCond .lt 10, 3) := by decide +kernel
theorem dX8_create_91 : decode cX8_create 91 = .ok (.iload 5, 2) := by decide +kernel
theorem dX8_create_93 : decode cX8_create 93 = .ok (.bipush 100, 2) := by decide +kernel
theorem dX8_create_95 : decode cX8_create 95 = .ok (.if_icmp .le 7, 3) := by decide +kernel
theorem dX8_create_98 : decode cX8_create 98 = .ok (.iconst 2, 1) := by decide +kernel
theorem dX8_create_99 : decode cX8_create 99 = .ok (.goto 26, 3) := by decide +kernel
theorem dX8_create_102 : decode cX8_create 102 = .ok (.aload_n 0, 1) := by decide +kernel
theorem dX8_create_103 : decode cX8_create 103 = .ok (.getfield 36, 3) := by decide +kernel
theorem dX8_create_106 : decode cX8_create 106 = .ok (.iload_n 1, 1) := by decide +kernel
theorem dX8_create_107 : decode cX8_create 107 = .ok (.baload, 1) := by decide +kernel
theorem dX8_create_108 : decode cX8_create 108 = .ok (.ifCond .eq 12, 3) := by decide +kernel
theorem dX8_create_111 : decode cX8_create 111 = .ok (.aload_n 0, 1) := by decide +kernel
theorem dX8_create_112 : decode cX8_create 112 = .ok (.invokevirtual 158, 3) := by decide +kernel
theorem dX8_create_115 : decode cX8_create 115 = .ok (.bipush 30, 2) := by decide +kernel
theorem dX8_create_117 : decode cX8_create 117 = .ok (.if_icmp .ne 7, 3) := by decide +kernel
theorem dX8_create_120 : decode cX8_create 120 = .ok (.iconst 3, 1) := by decide +kernel
theorem dX8_create_121 : decode cX8_create 121 = .ok (.goto 4, 3) := by decide +kernel
theorem dX8_create_124 : decode cX8_create 124 = .ok (.iconst 0, 1) := by decide +kernel
theorem dX8_create_125 : decode cX8_create 125 = .ok (.putfield 88, 3) := by decide +kernel
theorem dX8_create_128 : decode cX8_create 128 = .ok (.aload_n 0, 1) := by decide +kernel
theorem dX8_create_129 : decode cX8_create 129 = .ok (.getfield 88, 3) := by decide +kernel
theorem dX8_create_132 : decode cX8_create 132 = .ok (.ifCond .le 5, 3) := by decide +kernel
theorem dX8_create_135 : decode cX8_create 135 = .ok (.iconst 0, 1) := by decide +kernel
theorem dX8_create_136 : decode cX8_create 136 = .ok (.ireturn, 1) := by decide +kernel
theorem dX8_create_137 : decode cX8_create 137 = .ok (.aload_n 0, 1) := by decide +kernel
theorem dX8_create_138 : decode cX8_create 138 = .ok (.getfield 32, 3) := by decide +kernel
theorem dX8_create_141 : decode cX8_create 141 = .ok (.istore 9, 2) := by decide +kernel
theorem dX8_create_143 : decode cX8_create 143 = .ok (.aload_n 0, 1) := by decide +kernel
theorem dX8_create_144 : decode cX8_create 144 = .ok (.dup, 1) := by decide +kernel
theorem dX8_create_145 : decode cX8_create 145 = .ok (.getfield 32, 3) := by decide +kernel
theorem dX8_create_148 : decode cX8_create 148 = .ok (.iconst 1, 1) := by decide +kernel
theorem dX8_create_149 : decode cX8_create 149 = .ok (.iadd, 1) := by decide +kernel
theorem dX8_create_150 : decode cX8_create 150 = .ok (.putfield 32, 3) := by decide +kernel
theorem dX8_create_153 : decode cX8_create 153 = .ok (.aload_n 0, 1) := by decide +kernel
theorem dX8_create_154 : decode cX8_create 154 = .ok (.getfield 36, 3) := by decide +kernel
theorem dX8_create_157 : decode cX8_create 157 = .ok (.iload 9, 2) := by decide +kernel
theorem dX8_create_159 : decode cX8_create 159 = .ok (.iconst 1, 1) := by decide +kernel
theorem dX8_create_160 : decode cX8_create 160 = .ok (.bastore, 1) := by decide +kernel
theorem dX8_create_161 : decode cX8_create 161 = .ok (.aload_n 0, 1) := by decide +kernel
theorem dX8_create_162 : decode cX8_create 162 = .ok (.getfield 39, 3) := by decide +kernel
theorem dX8_create_165 : decode cX8_create 165 = .ok (.iload 9, 2) := by decide +kernel
theorem dX8_create_167 : decode cX8_create 167 = .ok (.iload_n 1, 1) := by decide +kernel
theorem dX8_create_168 : decode cX8_create 168 = .ok (.iastore, 1) := by decide +kernel
theorem dX8_create_169 : decode cX8_create 169 = .ok (.aload_n 0, 1) := by decide +kernel
theorem dX8_create_170 : decode cX8_create 170 = .ok (.getfield 42, 3) := by decide +kernel
theorem dX8_create_173 : decode cX8_create 173 = .ok (.iload 9, 2) := by decide +kernel
theorem dX8_create_175 : decode cX8_create 175 = .ok (.iload_n 2, 1) := by decide +kernel
theorem dX8_create_176 : decode cX8_create 176 = .ok (.iastore, 1) := by decide +kernel
theorem dX8_create_177 : decode cX8_create 177 = .ok (.aload_n 0, 1) := by decide +kernel
theorem dX8_create_178 : decode cX8_create 178 = .ok (.getfield 45, 3) := by decide +kernel
theorem dX8_create_181 : decode cX8_create 181 = .ok (.iload 9, 2) := by decide +kernel
theorem dX8_create_183 : decode cX8_create 183 = .ok (.aload_n 0, 1) := by decide +kernel
theorem dX8_create_184 : decode cX8_create 184 = .ok (.getfield 104, 3) := by decide +kernel
theorem dX8_create_187 : decode cX8_create 187 = .ok (.iastore, 1) := by decide +kernel
theorem dX8_create_188 : decode cX8_create 188 = .ok (.aload_n 0, 1) := by decide +kernel
theorem dX8_create_189 : decode cX8_create 189 = .ok (.getfield 48, 3) := by decide +kernel
theorem dX8_create_192 : decode cX8_create 192 = .ok (.iload 9, 2) := by decide +kernel
theorem dX8_create_194 : decode cX8_create 194 = .ok (.aload_n 0, 1) := by decide +kernel
theorem dX8_create_195 : decode cX8_create 195 = .ok (.getfield 104, 3) := by decide +kernel
theorem dX8_create_198 : decode cX8_create 198 = .ok (.iload_n 3, 1) := by decide +kernel
theorem dX8_create_199 : decode cX8_create 199 = .ok (.iadd, 1) := by decide +kernel
theorem dX8_create_200 : decode cX8_create 200 = .ok (.iastore, 1) := by decide +kernel
theorem dX8_create_201 : decode cX8_create 201 = .ok (.aload_n 0, 1) := by decide +kernel
theorem dX8_create_202 : decode cX8_create 202 = .ok (.getfield 51, 3) := by decide +kernel
theorem dX8_create_205 : decode cX8_create 205 = .ok (.iload 9, 2) := by decide +kernel
theorem dX8_create_207 : decode cX8_create 207 = .ok (.iload 4, 2) := by decide +kernel
theorem dX8_create_209 : decode cX8_create 209 = .ok (.iastore, 1) := by decide +kernel
theorem dX8_create_210 : decode cX8_create 210 = .ok (.aload_n 0, 1) := by decide +kernel
theorem dX8_create_211 : decode cX8_create 211 = .ok (.getfield 54, 3) := by decide +kernel
theorem dX8_create_214 : decode cX8_create 214 = .ok (.iload 9, 2) := by decide +kernel
theorem dX8_create_216 : decode cX8_create 216 = .ok (.iload 5, 2) := by decide +kernel
theorem dX8_create_218 : decode cX8_create 218 = .ok (.ifCond .ne 7, 3) := by decide +kernel
theorem dX8_create_221 : decode cX8_create 221 = .ok (.iconst (-1), 1) := by decide +kernel
theorem dX8_create_222 : decode cX8_create 222 = .ok (.goto 5, 3) := by decide +kernel
theorem dX8_create_225 : decode cX8_create 225 = .ok (.iload 5, 2) := by decide +kernel
theorem dX8_create_227 : decode cX8_create 227 = .ok (.iastore, 1) := by decide +kernel
theorem dX8_create_228 : decode cX8_create 228 = .ok (.aload_n 0, 1) := by decide +kernel
theorem dX8_create_229 : decode cX8_create 229 = .ok (.iconst 0, 1) := by decide +kernel
theorem dX8_create_230 : decode cX8_create 230 = .ok (.iload_n 1, 1) := by decide +kernel
theorem dX8_create_231 : decode cX8_create 231 = .ok (.iload 9, 2) := by decide +kernel
theorem dX8_create_233 : decode cX8_create 233 = .ok (.invokevirtual 162, 3) := by decide +kernel
theorem dX8_create_236 : decode cX8_create 236 = .ok (.iload 9, 2) := by decide +kernel
theorem dX8_create_238 : decode cX8_create 238 = .ok (.ireturn, 1) := by decide +kernel
theorem dX8_renewed_0 : decode cX8_renewed 0 = .ok (.aload_n 0, 1) := by decide +kernel
theorem dX8_renewed_1 : decode cX8_renewed 1 = .ok (.getfield 104, 3) := by decide +kernel
theorem dX8_renewed_4 : decode cX8_renewed 4 = .ok (.iload 4, 2) := by decide +kernel
theorem dX8_renewed_6 : decode cX8_renewed 6 = .ok (.iadd, 1) := by decide +kernel
theorem dX8_renewed_7 : decode cX8_renewed 7 = .ok (.iload_n 1, 1) := by decide +kernel
theorem dX8_renewed_8 : decode cX8_renewed 8 = .ok (.iload_n 3, 1) := by decide +kernel
theorem dX8_renewed_9 : decode cX8_renewed 9 = .ok (.iadd, 1) := by decide +kernel
theorem dX8_renewed_10 : decode cX8_renewed 10 = .ok (.if_icmp .ge 13, 3) := by decide +kernel
theorem dX8_renewed_13 : decode cX8_renewed 13 = .ok (.aload_n 0, 1) := by decide +kernel
theorem dX8_renewed_14 : decode cX8_renewed 14 = .ok (.getfield 104, 3) := by decide +kernel
theorem dX8_renewed_17 : decode cX8_renewed 17 = .ok (.iload 4, 2) := by decide +kernel
theorem dX8_renewed_19 : decode cX8_renewed 19 = .ok (.iadd, 1) := by decide +kernel
theorem dX8_renewed_20 : decode cX8_renewed 20 = .ok (.goto 6, 3) := by decide +kernel
theorem dX8_renewed_23 : decode cX8_renewed 23 = .ok (.iload_n 1, 1) := by decide +kernel
theorem dX8_renewed_24 : decode cX8_renewed 24 = .ok (.iload_n 3, 1) := by decide +kernel
theorem dX8_renewed_25 : decode cX8_renewed 25 = .ok (.iadd, 1) := by decide +kernel
theorem dX8_renewed_26 : decode cX8_renewed 26 = .ok (.istore 5, 2) := by decide +kernel
theorem dX8_renewed_28 : decode cX8_renewed 28 = .ok (.iload 5, 2) := by decide +kernel
theorem dX8_renewed_30 : decode cX8_renewed 30 = .ok (.iload_n 2, 1) := by decide +kernel
theorem dX8_renewed_31 : decode cX8_renewed 31 = .ok (.if_icmp .le 8, 3) := by decide +kernel
theorem dX8_renewed_34 : decode cX8_renewed 34 = .ok (.iload 5, 2) := by decide +kernel
theorem dX8_renewed_36 : decode cX8_renewed 36 = .ok (.goto 4, 3) := by decide +kernel
theorem dX8_renewed_39 : decode cX8_renewed 39 = .ok (.iload_n 2, 1) := by decide +kernel
theorem dX8_renewed_40 : decode cX8_renewed 40 = .ok (.ireturn, 1) := by decide +kernel
set_option maxRecDepth 20000 in
theorem ggX8_asksLiving_X8_wasMade : GoodIn wsX8_asksLiving wsX8_wasMade := goodIn_r _ [7, 8, 9, 10, 11, 12, 13, 14, 15, 16, 17, 18, 19, 20, 21, 22, 23, 24, 25, 26, 27, 28, 29, 30, 31, 32, 33, 34, 35, 36, 37, 38, 39] (by decide +kernel) (by decide +kernel)
set_option maxRecDepth 20000 in
theorem gX8_asksLiving_X8_wasMade : GoodIn wsX8_asksLiving (wsV RX8 155 RX8 yX8_wasMade wsX8_wasMade) := goodIn_app (goodIn_of _ (by decide +kernel)) ggX8_asksLiving_X8_wasMade
theorem dX8_asksLiving_0 : decode cX8_asksLiving 0 = .ok (.aload_n 0, 1) := by decide +kernel
theorem dX8_asksLiving_1 : decode cX8_asksLiving 1 = .ok (.aload_n 0, 1) := by decide +kernel
theorem dX8_asksLiving_2 : decode cX8_asksLiving 2 = .ok (.iload_n 1, 1) := by decide +kernel
theorem dX8_asksLiving_3 : decode cX8_asksLiving 3 = .ok (.invokevirtual 155, 3) := by decide +kernel
theorem dX8_asksLiving_6 : decode cX8_asksLiving 6 = .ok (.ifCond .ne 7, 3) := by decide +kernel
theorem dX8_asksLiving_9 : decode cX8_asksLiving 9 = .ok (.iconst 1, 1) := by decide +kernel
theorem dX8_asksLiving_10 : decode cX8_asksLiving 10 = .ok (.goto 21, 3) := by decide +kernel
theorem dX8_asksLiving_13 : decode cX8_asksLiving 13 = .ok (.iload_n 1, 1) := by decide +kernel
