theorem dX10_init_63 : decode cX10_init 63 = .ok (.anewarray 29, 3) := by decide +kernel
theorem dX10_init_66 : decode cX10_init 66 = .ok (.putfield 31, 3) := by decide +kernel
theorem dX10_init_69 : decode cX10_init 69 = .ok (.aload_n 0, 1) := by decide +kernel
theorem dX10_init_70 : decode cX10_init 70 = .ok (.bipush 60, 2) := by decide +kernel
theorem dX10_init_72 : decode cX10_init 72 = .ok (.anewarray 35, 3) := by decide +kernel
theorem dX10_init_75 : decode cX10_init 75 = .ok (.putfield 37, 3) := by decide +kernel
theorem dX10_init_78 : decode cX10_init 78 = .ok (.aload_n 0, 1) := by decide +kernel
theorem dX10_init_79 : decode cX10_init 79 = .ok (.sipush 200, 3) := by decide +kernel
theorem dX10_init_82 : decode cX10_init 82 = .ok (.anewarray 41, 3) := by decide +kernel
theorem dX10_init_85 : decode cX10_init 85 = .ok (.putfield 43, 3) := by decide +kernel
theorem dX10_init_88 : decode cX10_init 88 = .ok (.aload_n 0, 1) := by decide +kernel
theorem dX10_init_89 : decode cX10_init 89 = .ok (.new 47, 3) := by decide +kernel
theorem dX10_init_92 : decode cX10_init 92 = .ok (.dup, 1) := by decide +kernel
theorem dX10_init_93 : decode cX10_init 93 = .ok (.invokespecial 49, 3) := by decide +kernel
theorem dX10_init_96 : decode cX10_init 96 = .ok (.putfield 50, 3) := by decide +kernel
theorem dX10_init_99 : decode cX10_init 99 = .ok (.aload_n 0, 1) := by decide +kernel
theorem dX10_init_100 : decode cX10_init 100 = .ok (.new 54, 3) := by decide +kernel
theorem dX10_init_103 : decode cX10_init 103 = .ok (.dup, 1) := by decide +kernel
theorem dX10_init_104 : decode cX10_init 104 = .ok (.invokespecial 56, 3) := by decide +kernel
theorem dX10_init_107 : decode cX10_init 107 = .ok (.putfield 57, 3) := by decide +kernel
theorem dX10_init_110 : decode cX10_init 110 = .ok (.aload_n 0, 1) := by decide +kernel
theorem dX10_init_111 : decode cX10_init 111 = .ok (.bipush 8, 2) := by decide +kernel
theorem dX10_init_113 : decode cX10_init 113 = .ok (.newarray .int, 2) := by decide +kernel
theorem dX10_init_115 : decode cX10_init 115 = .ok (.putfield 61, 3) := by decide +kernel
theorem dX10_init_118 : decode cX10_init 118 = .ok (.aload_n 0, 1) := by decide +kernel
theorem dX10_init_119 : decode cX10_init 119 = .ok (.new 65, 3) := by decide +kernel
theorem dX10_init_122 : decode cX10_init 122 = .ok (.dup, 1) := by decide +kernel
theorem dX10_init_123 : decode cX10_init 123 = .ok (.invokespecial 67, 3) := by decide +kernel
theorem dX10_init_126 : decode cX10_init 126 = .ok (.putfield 68, 3) := by decide +kernel
theorem dX10_init_129 : decode cX10_init 129 = .ok (.aload_n 0, 1) := by decide +kernel
theorem dX10_init_130 : decode cX10_init 130 = .ok (.new 72, 3) := by decide +kernel
theorem dX10_init_133 : decode cX10_init 133 = .ok (.dup, 1) := by decide +kernel
theorem dX10_init_134 : decode cX10_init 134 = .ok (.invokespecial 74, 3) := by decide +kernel
theorem dX10_init_137 : decode cX10_init 137 = .ok (.putfield 75, 3) := by decide +kernel
theorem dX10_init_140 : decode cX10_init 140 = .ok (.aload_n 0, 1) := by decide +kernel
theorem dX10_init_141 : decode cX10_init 141 = .ok (.new 72, 3) := by decide +kernel
theorem dX10_init_144 : decode cX10_init 144 = .ok (.dup, 1) := by decide +kernel
theorem dX10_init_145 : decode cX10_init 145 = .ok (.invokespecial 74, 3) := by decide +kernel
theorem dX10_init_148 : decode cX10_init 148 = .ok (.putfield 79, 3) := by decide +kernel
theorem dX10_init_151 : decode cX10_init 151 = .ok (.return_, 1) := by decide +kernel
theorem dX10_clock_0 : decode cX10_clock 0 = .ok (.iload_n 1, 1) := by decide +kernel
theorem dX10_clock_1 : decode cX10_clock 1 = .ok (.aload_n 0, 1) := by decide +kernel
theorem dX10_clock_2 : decode cX10_clock 2 = .ok (.getfield 82, 3) := by decide +kernel
theorem dX10_clock_5 : decode cX10_clock 5 = .ok (.if_icmp .lt 10, 3) := by decide +kernel
theorem dX10_clock_8 : decode cX10_clock 8 = .ok (.iload_n 1, 1) := by decide +kernel
theorem dX10_clock_9 : decode cX10_clock 9 = .ok (.sipush 3000, 3) := by decide +kernel
theorem dX10_clock_12 : decode cX10_clock 12 = .ok (.if_icmp .le 5, 3) := by decide +kernel
theorem dX10_clock_15 : decode cX10_clock 15 = .ok (.iconst 0, 1) := by decide +kernel
theorem dX10_clock_16 : decode cX10_clock 16 = .ok (.ireturn, 1) := by decide +kernel
theorem dX10_clock_17 : decode cX10_clock 17 = .ok (.aload_n 0, 1) := by decide +kernel
theorem dX10_clock_18 : decode cX10_clock 18 = .ok (.iload_n 1, 1) := by decide +kernel
theorem dX10_clock_19 : decode cX10_clock 19 = .ok (.putfield 82, 3) := by decide +kernel
theorem dX10_clock_22 : decode cX10_clock 22 = .ok (.iconst 1, 1) := by decide +kernel
theorem dX10_clock_23 : decode cX10_clock 23 = .ok (.ireturn, 1) := by decide +kernel
set_option maxRecDepth 20000 in
theorem ggX10_way_X10_isTown : GoodIn wsX10_way wsX10_isTown := goodIn_r _ [5, 6, 7, 4, 8] (by decide +kernel) (by decide +kernel)
set_option maxRecDepth 20000 in
theorem gX10_way_X10_isTown : GoodIn wsX10_way (va_wsS RX10 86 yX10_isTown wsX10_isTown) := goodIn_app (goodIn_of _ (by decide +kernel)) ggX10_way_X10_isTown
set_option maxRecDepth 20000 in
theorem ggX10_way_X10_isWithin : GoodIn wsX10_way wsX10_isWithin := goodIn_r _ [8] (by decide +kernel) (by decide +kernel)
set_option maxRecDepth 20000 in
theorem gX10_way_X10_isWithin : GoodIn wsX10_way (va_wsS RX10 90 yX10_isWithin wsX10_isWithin) := goodIn_app (goodIn_of _ (by decide +kernel)) ggX10_way_X10_isWithin
set_option maxRecDepth 20000 in
theorem ggX10_way_X9_join : GoodIn wsX10_way wsX9_join := goodIn_r _ [13, 14, 15, 33, 34, 35, 36] (by decide +kernel) (by decide +kernel)
set_option maxRecDepth 20000 in
theorem gX10_way_X9_join : GoodIn wsX10_way (wsV RX10 94 RX9 yX9_join wsX9_join) := goodIn_app (goodIn_of _ (by decide +kernel)) ggX10_way_X9_join
theorem dX10_way_0 : decode cX10_way 0 = .ok (.iload_n 1, 1) := by decide +kernel
theorem dX10_way_1 : decode cX10_way 1 = .ok (.invokestatic 86, 3) := by decide +kernel
theorem dX10_way_4 : decode cX10_way 4 = .ok (.ifCond .eq 26, 3) := by decide +kernel
theorem dX10_way_7 : decode cX10_way 7 = .ok (.iload_n 2, 1) := by decide +kernel
theorem dX10_way_8 : decode cX10_way 8 = .ok (.invokestatic 86, 3) := by decide +kernel
theorem dX10_way_11 : decode cX10_way 11 = .ok (.ifCond .eq 19, 3) := by decide +kernel
theorem dX10_way_14 : decode cX10_way 14 = .ok (.iload_n 1, 1) := by decide +kernel
theorem dX10_way_15 : decode cX10_way 15 = .ok (.iload_n 2, 1) := by decide +kernel
theorem dX10_way_16 : decode cX10_way 16 = .ok (.if_icmp .eq 14, 3) := by decide +kernel
theorem dX10_way_19 : decode cX10_way 19 = .ok (.iload 4, 2) := by decide +kernel
theorem dX10_way_21 : decode cX10_way 21 = .ok (.iconst 0, 1) := by decide +kernel
theorem dX10_way_22 : decode cX10_way 22 = .ok (.bipush 99, 2) := by decide +kernel
theorem dX10_way_24 : decode cX10_way 24 = .ok (.invokestatic 90, 3) := by decide +kernel
theorem dX10_way_27 : decode cX10_way 27 = .ok (.ifCond .ne 5, 3) := by decide +kernel
theorem dX10_way_30 : decode cX10_way 30 = .ok (.iconst 0, 1) := by decide +kernel
theorem dX10_way_31 : decode cX10_way 31 = .ok (.ireturn, 1) := by decide +kernel
theorem dX10_way_32 : decode cX10_way 32 = .ok (.aload_n 0, 1) := by decide +kernel
theorem dX10_way_33 : decode cX10_way 33 = .ok (.getfield 10, 3) := by decide +kernel
theorem dX10_way_36 : decode cX10_way 36 = .ok (.iload_n 1, 1) := by decide +kernel
theorem dX10_way_37 : decode cX10_way 37 = .ok (.iload_n 2, 1) := by decide +kernel
theorem dX10_way_38 : decode cX10_way 38 = .ok (.iload_n 3, 1) := by decide +kernel
theorem dX10_way_39 : decode cX10_way 39 = .ok (.iload 4, 2) := by decide +kernel
theorem dX10_way_41 : decode cX10_way 41 = .ok (.invokevirtual 94, 3) := by decide +kernel
theorem dX10_way_44 : decode cX10_way 44 = .ok (.iconst 1, 1) := by decide +kernel
theorem dX10_way_45 : decode cX10_way 45 = .ok (.ireturn, 1) := by decide +kernel
set_option maxRecDepth 20000 in
theorem ggX10_rate_X10_isTown : GoodIn wsX10_rate wsX10_isTown := goodIn_r _ [8, 9, 10, 7, 11] (by decide +kernel) (by decide +kernel)
set_option maxRecDepth 20000 in
theorem gX10_rate_X10_isTown : GoodIn wsX10_rate (va_wsS RX10 86 yX10_isTown wsX10_isTown) := goodIn_app (goodIn_of _ (by decide +kernel)) ggX10_rate_X10_isTown
set_option maxRecDepth 20000 in
theorem ggX10_rate_X10_isWithin : GoodIn wsX10_rate wsX10_isWithin := goodIn_r _ [11] (by decide +kernel) (by decide +kernel)
set_option maxRecDepth 20000 in
theorem gX10_rate_X10_isWithin : GoodIn wsX10_rate (va_wsS RX10 90 yX10_isWithin wsX10_isWithin) := goodIn_app (goodIn_of _ (by decide +kernel)) ggX10_rate_X10_isWithin
theorem dX10_rate_0 : decode cX10_rate 0 = .ok (.iload_n 1, 1) := by decide +kernel
theorem dX10_rate_1 : decode cX10_rate 1 = .ok (.invokestatic 86, 3) := by decide +kernel
theorem dX10_rate_4 : decode cX10_rate 4 = .ok (.ifCond .eq 22, 3) := by decide +kernel
theorem dX10_rate_7 : decode cX10_rate 7 = .ok (.iload_n 2, 1) := by decide +kernel
theorem dX10_rate_8 : decode cX10_rate 8 = .ok (.iconst 0, 1) := by decide +kernel
theorem dX10_rate_9 : decode cX10_rate 9 = .ok (.iconst 3, 1) := by decide +kernel
theorem dX10_rate_10 : decode cX10_rate 10 = .ok (.invokestatic 90, 3) := by decide +kernel
theorem dX10_rate_13 : decode cX10_rate 13 = .ok (.ifCond .eq 13, 3) := by decide +kernel
theorem dX10_rate_16 : decode cX10_rate 16 = .ok (.iload_n 3, 1) := by decide +kernel
theorem dX10_rate_17 : decode cX10_rate 17 = .ok (.iconst 1, 1) := by decide +kernel
theorem dX10_rate_18 : decode cX10_rate 18 = .ok (.ldc 98, 2) := by decide +kernel
theorem dX10_rate_20 : decode cX10_rate 20 = .ok (.invokestatic 90, 3) := by decide +kernel
theorem dX10_rate_23 : decode cX10_rate 23 = .ok (.ifCond .ne 5, 3) := by decide +kernel
theorem dX10_rate_26 : decode cX10_rate 26 = .ok (.iconst 0, 1) := by decide +kernel
theorem dX10_rate_27 : decode cX10_rate 27 = .ok (.ireturn, 1) := by decide +kernel
theorem dX10_rate_28 : decode cX10_rate 28 = .ok (.aload_n 0, 1) := by decide +kernel
theorem dX10_rate_29 : decode cX10_rate 29 = .ok (.getfield 18, 3) := by decide +kernel
theorem dX10_rate_32 : decode cX10_rate 32 = .ok (.iload_n 1, 1) := by decide +kernel
theorem dX10_rate_33 : decode cX10_rate 33 = .ok (.aaload, 1) := by decide +kernel
theorem dX10_rate_34 : decode cX10_rate 34 = .ok (.iload_n 2, 1) := by decide +kernel
theorem dX10_rate_35 : decode cX10_rate 35 = .ok (.putfield 99, 3) := by decide +kernel
theorem dX10_rate_38 : decode cX10_rate 38 = .ok (.aload_n 0, 1) := by decide +kernel
theorem dX10_rate_39 : decode cX10_rate 39 = .ok (.getfield 18, 3) := by decide +kernel
theorem dX10_rate_42 : decode cX10_rate 42 = .ok (.iload_n 1, 1) := by decide +kernel
theorem dX10_rate_43 : decode cX10_rate 43 = .ok (.aaload, 1) := by decide +kernel
theorem dX10_rate_44 : decode cX10_rate 44 = .ok (.iload_n 3, 1) := by decide +kernel
theorem dX10_rate_45 : decode cX10_rate 45 = .ok (.putfield 102, 3) := by decide +kernel
theorem dX10_rate_48 : decode cX10_rate 48 = .ok (.iconst 1, 1) := by decide +kernel
theorem dX10_rate_49 : decode cX10_rate 49 = .ok (.ireturn, 1) := by decide +kernel
set_option maxRecDepth 20000 in
theorem ggX10_book_X10_isWithin : GoodIn wsX10_book wsX10_isWithin := goodIn_r _ [4] (by decide +kernel) (by decide +kernel)
set_option maxRecDepth 20000 in
theorem gX10_book_X10_isWithin : GoodIn wsX10_book (va_wsS RX10 90 yX10_isWithin wsX10_isWithin) := goodIn_app (goodIn_of _ (by decide +kernel)) ggX10_book_X10_isWithin
set_option maxRecDepth 20000 in
theorem ggX10_book_X10_addPaper : GoodIn wsX10_book wsX10_addPaper := goodIn_r _ [8, 9, 10, 11, 12, 13, 14, 15, 16, 3, 17, 18, 1, 2, 4, 19, 20, 21, 22, 23, 24, 25, 26, 27, 28, 29, 30, 31, 32, 33, 34, 35, 36, 37, 38, 39, 40, 41, 42, 43, 44, 45, 46, 47, 48, 49, 50, 51, 52, 53, 54, 55] (by decide +kernel) (by decide +kernel)
set_option maxRecDepth 20000 in
theorem gX10_book_X10_addPaper : GoodIn wsX10_book (wsV RX10 105 RX10 yX10_addPaper wsX10_addPaper) := goodIn_app (goodIn_of _ (by decide +kernel)) ggX10_book_X10_addPaper
theorem dX10_book_0 : decode cX10_book 0 = .ok (.iload_n 1, 1) := by decide +kernel
theorem dX10_book_1 : decode cX10_book 1 = .ok (.iconst 1, 1) := by decide +kernel
theorem dX10_book_2 : decode cX10_book 2 = .ok (.bipush 20, 2) := by decide +kernel
theorem dX10_book_4 : decode cX10_book 4 = .ok (.invokestatic 90, 3) := by decide +kernel
theorem dX10_book_7 : decode cX10_book 7 = .ok (.ifCond .eq 14, 3) := by decide +kernel
theorem dX10_book_10 : decode cX10_book 10 = .ok (.iload_n 2, 1) := by decide +kernel
theorem dX10_book_11 : decode cX10_book 11 = .ok (.iconst 1, 1) := by decide +kernel
theorem dX10_book_12 : decode cX10_book 12 = .ok (.sipush 10000, 3) := by decide +kernel
theorem dX10_book_15 : decode cX10_book 15 = .ok (.invokestatic 90, 3) := by decide +kernel
theorem dX10_book_18 : decode cX10_book 18 = .ok (.ifCond .ne 5, 3) := by decide +kernel
theorem dX10_book_21 : decode cX10_book 21 = .ok (.iconst (-1), 1) := by decide +kernel
theorem dX10_book_22 : decode cX10_book 22 = .ok (.ireturn, 1) := by decide +kernel
theorem dX10_book_23 : decode cX10_book 23 = .ok (.aload_n 0, 1) := by decide +kernel
theorem dX10_book_24 : decode cX10_book 24 = .ok (.iload_n 1, 1) := by decide +kernel
theorem dX10_book_25 : decode cX10_book 25 = .ok (.iload_n 2, 1) := by decide +kernel
theorem dX10_book_26 : decode cX10_book 26 = .ok (.iload_n 3, 1) := by decide +kernel
theorem dX10_book_27 : decode cX10_book 27 = .ok (.iload 4, 2) := by decide +kernel
theorem dX10_book_29 : decode cX10_book 29 = .ok (.invokevirtual 105, 3) := by decide +kernel
theorem dX10_book_32 : decode cX10_book 32 = .ok (.ireturn, 1) := by decide +kernel
set_option maxRecDepth 20000 in
theorem ggX10_credit_X10_isWithin : GoodIn wsX10_credit wsX10_isWithin := goodIn_r _ [5] (by decide +kernel) (by decide +kernel)
set_option maxRecDepth 20000 in
theorem gX10_credit_X10_isWithin : GoodIn wsX10_credit (va_wsS RX10 90 yX10_isWithin wsX10_isWithin) := goodIn_app (goodIn_of _ (by decide +kernel)) ggX10_credit_X10_isWithin
set_option maxRecDepth 20000 in
theorem ggX10_credit_X10_addPaper : GoodIn wsX10_credit wsX10_addPaper := goodIn_r _ [9, 10, 11, 12, 13, 14, 15, 16, 17, 4, 18, 19, 2, 3, 5, 20, 21, 22, 23, 24, 25, 26, 27, 28, 29, 30, 31, 32, 33, 34, 35, 36, 37, 38, 39, 40, 41, 42, 43, 44, 45, 46, 47, 48, 49, 50, 51, 52, 53, 54, 55, 56] (by decide +kernel) (by decide +kernel)
set_option maxRecDepth 20000 in
theorem gX10_credit_X10_addPaper : GoodIn wsX10_credit (wsV RX10 105 RX10 yX10_addPaper wsX10_addPaper) := goodIn_app (goodIn_of _ (by decide +kernel)) ggX10_credit_X10_addPaper
theorem dX10_credit_0 : decode cX10_credit 0 = .ok (.iload_n 1, 1) := by decide +kernel
theorem dX10_credit_1 : decode cX10_credit 1 = .ok (.iconst 1, 1) := by decide +kernel
theorem dX10_credit_2 : decode cX10_credit 2 = .ok (.ldc 98, 2) := by decide +kernel
theorem dX10_credit_4 : decode cX10_credit 4 = .ok (.invokestatic 90, 3) := by decide +kernel
theorem dX10_credit_7 : decode cX10_credit 7 = .ok (.ifCond .ne 5, 3) := by decide +kernel
theorem dX10_credit_10 : decode cX10_credit 10 = .ok (.iconst (-1), 1) := by decide +kernel
theorem dX10_credit_11 : decode cX10_credit 11 = .ok (.ireturn, 1) := by decide +kernel
theorem dX10_credit_12 : decode cX10_credit 12 = .ok (.aload_n 0, 1) := by decide +kernel
theorem dX10_credit_13 : decode cX10_credit 13 = .ok (.iconst 0, 1) := by decide +kernel
theorem dX10_credit_14 : decode cX10_credit 14 = .ok (.iload_n 1, 1) := by decide +kernel
theorem dX10_credit_15 : decode cX10_credit 15 = .ok (.iload_n 2, 1) := by decide +kernel
theorem dX10_credit_16 : decode cX10_credit 16 = .ok (.iload_n 3, 1) := by decide +kernel
theorem dX10_credit_17 : decode cX10_credit 17 = .ok (.invokevirtual 105, 3) := by decide +kernel
theorem dX10_credit_20 : decode cX10_credit 20 = .ok (.ireturn, 1) := by decide +kernel
set_option maxRecDepth 20000 in
theorem ggX10_advise_X10_paperAt : GoodIn wsX10_advise wsX10_paperAt := goodIn_r _ [10, 11, 12, 62, 63, 64, 65, 66, 67, 68, 69, 70, 71, 72, 73, 74, 75, 76, 77, 78] (by decide +kernel) (by decide +kernel)
set_option maxRecDepth 20000 in
theorem gX10_advise_X10_paperAt : GoodIn wsX10_advise (wsV RX10 112 RX10 yX10_paperAt wsX10_paperAt) := goodIn_app (goodIn_of _ (by decide +kernel)) ggX10_advise_X10_paperAt
set_option maxRecDepth 20000 in
theorem ggX10_advise_X10_isTown : GoodIn wsX10_advise wsX10_isTown := goodIn_r _ [15, 16, 17, 9, 18] (by decide +kernel) (by decide +kernel)
set_option maxRecDepth 20000 in
theorem gX10_advise_X10_isTown : GoodIn wsX10_advise (va_wsS RX10 86 yX10_isTown wsX10_isTown) := goodIn_app (goodIn_of _ (by decide +kernel)) ggX10_advise_X10_isTown
set_option maxRecDepth 20000 in
theorem ggX10_advise_X10_letterDay : GoodIn wsX10_advise wsX10_letterDay := goodIn_r _ [22, 23, 24, 25, 26, 27, 28, 29, 30, 31, 32, 33, 34, 35, 36, 37, 38, 39, 40, 41, 42, 43, 44, 45, 46, 47, 48, 49, 50, 51, 62, 63, 64, 65, 66, 67, 68, 69, 70, 71, 72, 73, 74, 75, 76, 77, 78, 83, 84, 85, 86] (by decide +kernel) (by decide +kernel)
set_option maxRecDepth 20000 in
theorem gX10_advise_X10_letterDay : GoodIn wsX10_advise (wsV RX10 116 RX10 yX10_letterDay wsX10_letterDay) := goodIn_app (goodIn_of _ (by decide +kernel)) ggX10_advise_X10_letterDay
set_option maxRecDepth 20000 in
theorem ggX10_advise_X0_init : GoodIn wsX10_advise wsX0_init := goodIn_r _ [54, 55, 56, 57, 58, 59, 60, 61, 79, 80, 81, 82] (by decide +kernel) (by decide +kernel)
set_option maxRecDepth 20000 in
theorem gX10_advise_X0_init : GoodIn wsX10_advise (wsX0_init) := ggX10_advise_X0_init
theorem dX10_advise_0 : decode cX10_advise 0 = .ok (.aload_n 0, 1) := by decide +kernel
theorem dX10_advise_1 : decode cX10_advise 1 = .ok (.getfield 109, 3) := by decide +kernel
theorem dX10_advise_4 : decode cX10_advise 4 = .ok (.bipush 60, 2) := by decide +kernel
theorem dX10_advise_6 : decode cX10_advise 6 = .ok (.if_icmp .ge 18, 3) := by decide +kernel
theorem dX10_advise_9 : decode cX10_advise 9 = .ok (.aload_n 0, 1) := by decide +kernel
theorem dX10_advise_10 : decode cX10_advise 10 = .ok (.iload_n 1, 1) := by decide +kernel
theorem dX10_advise_11 : decode cX10_advise 11 = .ok (.invokevirtual 112, 3) := by decide +kernel
theorem dX10_advise_14 : decode cX10_advise 14 = .ok (.ifnull 10, 3) := by decide +kernel
theorem dX10_advise_17 : decode cX10_advise 17 = .ok (.iload_n 2, 1) := by decide +kernel
theorem dX10_advise_18 : decode cX10_advise 18 = .ok (.invokestatic 86, 3) := by decide +kernel
theorem dX10_advise_21 : decode cX10_advise 21 = .ok (.ifCond .ne 5, 3) := by decide +kernel
theorem dX10_advise_24 : decode cX10_advise 24 = .ok (.iconst (-1), 1) := by decide +kernel
theorem dX10_advise_25 : decode cX10_advise 25 = .ok (.ireturn, 1) := by decide +kernel
theorem dX10_advise_26 : decode cX10_advise 26 = .ok (.aload_n 0, 1) := by decide +kernel
theorem dX10_advise_27 : decode cX10_advise 27 = .ok (.getfield 31, 3) := by decide +kernel
theorem dX10_advise_30 : decode cX10_advise 30 = .ok (.aload_n 0, 1) := by decide +kernel
theorem dX10_advise_31 : decode cX10_advise 31 = .ok (.getfield 109, 3) := by decide +kernel
theorem dX10_advise_34 : decode cX10_advise 34 = .ok (.new 29, 3) := by decide +kernel
theorem dX10_advise_37 : decode cX10_advise 37 = .ok (.dup, 1) := by decide +kernel
theorem dX10_advise_38 : decode cX10_advise 38 = .ok (.iload_n 1, 1) := by decide +kernel
theorem dX10_advise_39 : decode cX10_advise 39 = .ok (.iload_n 2, 1) := by decide +kernel
theorem dX10_advise_40 : decode cX10_advise 40 = .ok (.aload_n 0, 1) := by decide +kernel
theorem dX10_advise_41 : decode cX10_advise 41 = .ok (.iconst 0, 1) := by decide +kernel
theorem dX10_advise_42 : decode cX10_advise 42 = .ok (.iload_n 2, 1) := by decide +kernel
theorem dX10_advise_43 : decode cX10_advise 43 = .ok (.invokevirtual 116, 3) := by decide +kernel
theorem dX10_advise_46 : decode cX10_advise 46 = .ok (.invokespecial 120, 3) := by decide +kernel
theorem dX10_advise_49 : decode cX10_advise 49 = .ok (.aastore, 1) := by decide +kernel
theorem dX10_advise_50 : decode cX10_advise 50 = .ok (.aload_n 0, 1) := by decide +kernel
theorem dX10_advise_51 : decode cX10_advise 51 = .ok (.dup, 1) := by decide +kernel
theorem dX10_advise_52 : decode cX10_advise 52 = .ok (.getfield 109, 3) := by decide +kernel
theorem dX10_advise_55 : decode cX10_advise 55 = .ok (.iconst 1, 1) := by decide +kernel
theorem dX10_advise_56 : decode cX10_advise 56 = .ok (.iadd, 1) := by decide +kernel
theorem dX10_advise_57 : decode cX10_advise 57 = .ok (.putfield 109, 3) := by decide +kernel
theorem dX10_advise_60 : decode cX10_advise 60 = .ok (.aload_n 0, 1) := by decide +kernel
theorem dX10_advise_61 : decode cX10_advise 61 = .ok (.getfield 109, 3) := by decide +kernel
theorem dX10_advise_64 : decode cX10_advise 64 = .ok (.iconst 1, 1) := by decide +kernel
theorem dX10_advise_65 : decode cX10_advise 65 = .ok (.isub, 1) := by decide +kernel
theorem dX10_advise_66 : decode cX10_advise 66 = .ok (.ireturn, 1) := by decide +kernel
set_option maxRecDepth 20000 in
theorem ggX10_lose_X10_adviceAt : GoodIn wsX10_lose wsX10_adviceAt := goodIn_r _ [8, 9, 10, 18, 19, 20, 21, 22, 23, 24, 25, 26, 27, 28, 29, 30, 31, 32, 33, 34] (by decide +kernel) (by decide +kernel)
set_option maxRecDepth 20000 in
theorem gX10_lose_X10_adviceAt : GoodIn wsX10_lose (wsV RX10 123 RX10 yX10_adviceAt wsX10_adviceAt) := goodIn_app (goodIn_of _ (by decide +kernel)) ggX10_lose_X10_adviceAt
set_option maxRecDepth 20000 in
theorem ggX10_lose_X10_hasCome : GoodIn wsX10_lose wsX10_hasCome := goodIn_r _ [13] (by decide +kernel) (by decide +kernel)
set_option maxRecDepth 20000 in
theorem gX10_lose_X10_hasCome : GoodIn wsX10_lose (va_wsS RX10 134 yX10_hasCome wsX10_hasCome) := goodIn_app (goodIn_of _ (by decide +kernel)) ggX10_lose_X10_hasCome
theorem dX10_lose_0 : decode cX10_lose 0 = .ok (.aload_n 0, 1) := by decide +kernel
theorem dX10_lose_1 : decode cX10_lose 1 = .ok (.iload_n 1, 1) := by decide +kernel
theorem dX10_lose_2 : decode cX10_lose 2 = .ok (.invokevirtual 123, 3) := by decide +kernel
theorem dX10_lose_5 : decode cX10_lose 5 = .ok (.astore_n 2, 1) := by decide +kernel
theorem dX10_lose_6 : decode cX10_lose 6 = .ok (.aload_n 2, 1) := by decide +kernel
theorem dX10_lose_7 : decode cX10_lose 7 = .ok (.ifnull 24, 3) := by decide +kernel
theorem dX10_lose_10 : decode cX10_lose 10 = .ok (.aload_n 2, 1) := by decide +kernel
theorem dX10_lose_11 : decode cX10_lose 11 = .ok (.getfield 127, 3) := by decide +kernel
theorem dX10_lose_14 : decode cX10_lose 14 = .ok (.ifCond .ne 17, 3) := by decide +kernel
theorem dX10_lose_17 : decode cX10_lose 17 = .ok (.aload_n 2, 1) := by decide +kernel
theorem dX10_lose_18 : decode cX10_lose 18 = .ok (.getfield 131, 3) := by decide +kernel
theorem dX10_lose_21 : decode cX10_lose 21 = .ok (.aload_n 0, 1) := by decide +kernel
theorem dX10_lose_22 : decode cX10_lose 22 = .ok (.getfield 82, 3) := by decide +kernel
theorem dX10_lose_25 : decode cX10_lose 25 = .ok (.invokestatic 134, 3) := by decide +kernel
theorem dX10_lose_28 : decode cX10_lose 28 = .ok (.ifCond .eq 5, 3) := by decide +kernel
theorem dX10_lose_31 : decode cX10_lose 31 = .ok (.iconst 0, 1) := by decide +kernel
theorem dX10_lose_32 : decode cX10_lose 32 = .ok (.ireturn, 1) := by decide +kernel
theorem dX10_lose_33 : decode cX10_lose 33 = .ok (.aload_n 2, 1) := by decide +kernel
theorem dX10_lose_34 : decode cX10_lose 34 = .ok (.iconst 1, 1) := by decide +kernel
theorem dX10_lose_35 : decode cX10_lose 35 = .ok (.putfield 127, 3) := by decide +kernel
theorem dX10_lose_38 : decode cX10_lose 38 = .ok (.aload_n 2, 1) := by decide +kernel
theorem dX10_lose_39 : decode cX10_lose 39 = .ok (.iconst (-1), 1) := by decide +kernel
theorem dX10_lose_40 : decode cX10_lose 40 = .ok (.putfield 131, 3) := by decide +kernel
theorem dX10_lose_43 : decode cX10_lose 43 = .ok (.iconst 1, 1) := by decide +kernel
theorem dX10_lose_44 : decode cX10_lose 44 = .ok (.ireturn, 1) := by decide +kernel
set_option maxRecDepth 20000 in
theorem ggX10_stop_X10_paperAt : GoodIn wsX10_stop wsX10_paperAt := goodIn_r _ [12, 13, 14, 64, 65, 66, 67, 68, 69, 70, 71, 72, 73, 74, 75, 76, 77, 78, 79, 80] (by decide +kernel) (by decide +kernel)
set_option maxRecDepth 20000 in
theorem gX10_stop_X10_paperAt : GoodIn wsX10_stop (wsV RX10 112 RX10 yX10_paperAt wsX10_paperAt) := goodIn_app (goodIn_of _ (by decide +kernel)) ggX10_stop_X10_paperAt
set_option maxRecDepth 20000 in
theorem ggX10_stop_X10_isTown : GoodIn wsX10_stop wsX10_isTown := goodIn_r _ [17, 18, 19, 11, 20] (by decide +kernel) (by decide +kernel)
set_option maxRecDepth 20000 in
theorem gX10_stop_X10_isTown : GoodIn wsX10_stop (va_wsS RX10 86 yX10_isTown wsX10_isTown) := goodIn_app (goodIn_of _ (by decide +kernel)) ggX10_stop_X10_isTown
set_option maxRecDepth 20000 in
theorem ggX10_stop_X3_hasLeaf : GoodIn wsX10_stop wsX3_hasLeaf := goodIn_r _ [25, 26, 84, 85, 86, 87, 88, 89, 90] (by decide +kernel) (by decide +kernel)
set_option maxRecDepth 20000 in
theorem gX10_stop_X3_hasLeaf : GoodIn wsX10_stop (wsV RX10 141 RX3 yX3_hasLeaf wsX3_hasLeaf) := goodIn_app (goodIn_of _ (by decide +kernel)) ggX10_stop_X3_hasLeaf
set_option maxRecDepth 20000 in
theorem ggX10_stop_X9_newsDays : GoodIn wsX10_stop wsX9_newsDays := goodIn_r _ [31, 32, 33, 34, 30, 35, 36, 37, 38, 39, 40, 41, 42, 43, 44, 45, 46, 47, 48, 49, 50, 51, 52, 91, 92, 93, 94] (by decide +kernel) (by decide +kernel)
set_option maxRecDepth 20000 in
theorem gX10_stop_X9_newsDays : GoodIn wsX10_stop (wsV RX10 144 RX9 yX9_newsDays wsX9_newsDays) := goodIn_app (goodIn_of _ (by decide +kernel)) ggX10_stop_X9_newsDays
set_option maxRecDepth 20000 in
theorem ggX10_stop_X6_init : GoodIn wsX10_stop wsX6_init := goodIn_r _ [55, 56, 57, 58, 59, 60, 61, 62, 63, 81, 82, 83] (by decide +kernel) (by decide +kernel)
set_option maxRecDepth 20000 in
theorem gX10_stop_X6_init : GoodIn wsX10_stop (wsX6_init) := ggX10_stop_X6_init
theorem dX10_stop_0 : decode cX10_stop 0 = .ok (.aload_n 0, 1) := by decide +kernel
theorem dX10_stop_1 : decode cX10_stop 1 = .ok (.iload_n 1, 1) := by decide +kernel
theorem dX10_stop_2 : decode cX10_stop 2 = .ok (.invokevirtual 112, 3) := by decide +kernel
theorem dX10_stop_5 : decode cX10_stop 5 = .ok (.astore 4, 2) := by decide +kernel
theorem dX10_stop_7 : decode cX10_stop 7 = .ok (.aload_n 0, 1) := by decide +kernel
theorem dX10_stop_8 : decode cX10_stop 8 = .ok (.getfield 138, 3) := by decide +kernel
theorem dX10_stop_11 : decode cX10_stop 11 = .ok (.bipush 60, 2) := by decide +kernel
theorem dX10_stop_13 : decode cX10_stop 13 = .ok (.if_icmp .ge 15, 3) := by decide +kernel
theorem dX10_stop_16 : decode cX10_stop 16 = .ok (.aload 4, 2) := by decide +kernel
theorem dX10_stop_18 : decode cX10_stop 18 = .ok (.ifnull 10, 3) := by decide +kernel
theorem dX10_stop_21 : decode cX10_stop 21 = .ok (.iload_n 3, 1) := by decide +kernel
theorem dX10_stop_22 : decode cX10_stop 22 = .ok (.invokestatic 86, 3) := by decide +kernel
theorem dX10_stop_25 : decode cX10_stop 25 = .ok (.ifCond .ne 5, 3) := by decide +kernel
theorem dX10_stop_28 : decode cX10_stop 28 = .ok (.iconst (-1), 1) := by decide +kernel
theorem dX10_stop_29 : decode cX10_stop 29 = .ok (.ireturn, 1) := by decide +kernel
theorem dX10_stop_30 : decode cX10_stop 30 = .ok (.iload_n 2, 1) := by decide +kernel
theorem dX10_stop_31 : decode cX10_stop 31 = .ok (.iconst (-1), 1) := by decide +kernel
theorem dX10_stop_32 : decode cX10_stop 32 = .ok (.if_icmp .eq 14, 3) := by decide +kernel
theorem dX10_stop_35 : decode cX10_stop 35 = .ok (.aload 4, 2) := by decide +kernel
theorem dX10_stop_37 : decode cX10_stop 37 = .ok (.iload_n 2, 1) := by decide +kernel
theorem dX10_stop_38 : decode cX10_stop 38 = .ok (.invokevirtual 141, 3) := by decide +kernel
theorem dX10_stop_41 : decode cX10_stop 41 = .ok (.ifCond .ne 5, 3) := by decide +kernel
theorem dX10_stop_44 : decode cX10_stop 44 = .ok (.iconst (-1), 1) := by decide +kernel
theorem dX10_stop_45 : decode cX10_stop 45 = .ok (.ireturn, 1) := by decide +kernel
theorem dX10_stop_46 : decode cX10_stop 46 = .ok (.aload_n 0, 1) := by decide +kernel
theorem dX10_stop_47 : decode cX10_stop 47 = .ok (.getfield 37, 3) := by decide +kernel
theorem dX10_stop_50 : decode cX10_stop 50 = .ok (.aload_n 0, 1) := by decide +kernel
theorem dX10_stop_51 : decode cX10_stop 51 = .ok (.getfield 138, 3) := by decide +kernel
theorem dX10_stop_54 : decode cX10_stop 54 = .ok (.new 35, 3) := by decide +kernel
theorem dX10_stop_57 : decode cX10_stop 57 = .ok (.dup, 1) := by decide +kernel
theorem dX10_stop_58 : decode cX10_stop 58 = .ok (.iload_n 1, 1) := by decide +kernel
theorem dX10_stop_59 : decode cX10_stop 59 = .ok (.iload_n 2, 1) := by decide +kernel
theorem dX10_stop_60 : decode cX10_stop 60 = .ok (.aload_n 0, 1) := by decide +kernel
theorem dX10_stop_61 : decode cX10_stop 61 = .ok (.getfield 10, 3) := by decide +kernel
theorem dX10_stop_64 : decode cX10_stop 64 = .ok (.iload_n 3, 1) := by decide +kernel
theorem dX10_stop_65 : decode cX10_stop 65 = .ok (.invokevirtual 144, 3) := by decide +kernel
theorem dX10_stop_68 : decode cX10_stop 68 = .ok (.aload_n 0, 1) := by decide +kernel
theorem dX10_stop_69 : decode cX10_stop 69 = .ok (.getfield 82, 3) := by decide +kernel
theorem dX10_stop_72 : decode cX10_stop 72 = .ok (.invokespecial 148, 3) := by decide +kernel
theorem dX10_stop_75 : decode cX10_stop 75 = .ok (.aastore, 1) := by decide +kernel
theorem dX10_stop_76 : decode cX10_stop 76 = .ok (.aload_n 0, 1) := by decide +kernel
theorem dX10_stop_77 : decode cX10_stop 77 = .ok (.dup, 1) := by decide +kernel
theorem dX10_stop_78 : decode cX10_stop 78 = .ok (.getfield 138, 3) := by decide +kernel
theorem dX10_stop_81 : decode cX10_stop 81 = .ok (.iconst 1, 1) := by decide +kernel
theorem dX10_stop_82 : decode cX10_stop 82 = .ok (.iadd, 1) := by decide +kernel
theorem dX10_stop_83 : decode cX10_stop 83 = .ok (.putfield 138, 3) := by decide +kernel
theorem dX10_stop_86 : decode cX10_stop 86 = .ok (.aload_n 0, 1) := by decide +kernel
theorem dX10_stop_87 : decode cX10_stop 87 = .ok (.getfield 138, 3) := by decide +kernel
theorem dX10_stop_90 : decode cX10_stop 90 = .ok (.iconst 1, 1) := by decide +kernel
theorem dX10_stop_91 : decode cX10_stop 91 = .ok (.isub, 1) := by decide +kernel
theorem dX10_stop_92 : decode cX10_stop 92 = .ok (.ireturn, 1) := by decide +kernel
set_option maxRecDepth 20000 in
theorem ggX10_feed_X7_hasRoom : GoodIn wsX10_feed wsX7_hasRoom := goodIn_r _ [7, 8, 31, 32, 33] (by decide +kernel) (by decide +kernel)
set_option maxRecDepth 20000 in
theorem gX10_feed_X7_hasRoom : GoodIn wsX10_feed (wsV RX10 151 RX7 yX7_hasRoom wsX7_hasRoom) := goodIn_app (goodIn_of _ (by decide +kernel)) ggX10_feed_X7_hasRoom
set_option maxRecDepth 20000 in
theorem ggX10_feed_X7_append : GoodIn wsX10_feed wsX7_append := goodIn_r _ [12, 8, 13, 31, 32, 33] (by decide +kernel) (by decide +kernel)
set_option maxRecDepth 20000 in
theorem gX10_feed_X7_append : GoodIn wsX10_feed (wsV RX10 154 RX7 yX7_append wsX7_append) := goodIn_app (goodIn_of _ (by decide +kernel)) ggX10_feed_X7_append
theorem dX10_feed_0 : decode cX10_feed 0 = .ok (.aload_n 0, 1) := by decide +kernel
theorem dX10_feed_1 : decode cX10_feed 1 = .ok (.getfield 50, 3) := by decide +kernel
theorem dX10_feed_4 : decode cX10_feed 4 = .ok (.bipush 20, 2) := by decide +kernel
theorem dX10_feed_6 : decode cX10_feed 6 = .ok (.invokevirtual 151, 3) := by decide +kernel
theorem dX10_feed_9 : decode cX10_feed 9 = .ok (.ifCond .ne 5, 3) := by decide +kernel
theorem dX10_feed_12 : decode cX10_feed 12 = .ok (.iconst (-1), 1) := by decide +kernel
theorem dX10_feed_13 : decode cX10_feed 13 = .ok (.ireturn, 1) := by decide +kernel
theorem dX10_feed_14 : decode cX10_feed 14 = .ok (.aload_n 0, 1) := by decide +kernel
theorem dX10_feed_15 : decode cX10_feed 15 = .ok (.getfield 50, 3) := by decide +kernel
theorem dX10_feed_18 : decode cX10_feed 18 = .ok (.iload_n 1, 1) := by decide +kernel
theorem dX10_feed_19 : decode cX10_feed 19 = .ok (.invokevirtual 154, 3) := by decide +kernel
theorem dX10_feed_22 : decode cX10_feed 22 = .ok (.aload_n 0, 1) := by decide +kernel
theorem dX10_feed_23 : decode cX10_feed 23 = .ok (.getfield 50, 3) := by decide +kernel
theorem dX10_feed_26 : decode cX10_feed 26 = .ok (.iload_n 2, 1) := by decide +kernel
theorem dX10_feed_27 : decode cX10_feed 27 = .ok (.invokevirtual 154, 3) := by decide +kernel
theorem dX10_feed_30 : decode cX10_feed 30 = .ok (.aload_n 0, 1) := by decide +kernel
theorem dX10_feed_31 : decode cX10_feed 31 = .ok (.getfield 50, 3) := by decide +kernel
theorem dX10_feed_34 : decode cX10_feed 34 = .ok (.iload_n 3, 1) := by decide +kernel
theorem dX10_feed_35 : decode cX10_feed 35 = .ok (.invokevirtual 154, 3) := by decide +kernel
theorem dX10_feed_38 : decode cX10_feed 38 = .ok (.aload_n 0, 1) := by decide +kernel
theorem dX10_feed_39 : decode cX10_feed 39 = .ok (.getfield 50, 3) := by decide +kernel
theorem dX10_feed_42 : decode cX10_feed 42 = .ok (.iload 4, 2) := by decide +kernel
theorem dX10_feed_44 : decode cX10_feed 44 = .ok (.invokevirtual 154, 3) := by decide +kernel
theorem dX10_feed_47 : decode cX10_feed 47 = .ok (.aload_n 0, 1) := by decide +kernel
theorem dX10_feed_48 : decode cX10_feed 48 = .ok (.getfield 50, 3) := by decide +kernel
theorem dX10_feed_51 : decode cX10_feed 51 = .ok (.iload 5, 2) := by decide +kernel
theorem dX10_feed_53 : decode cX10_feed 53 = .ok (.invokevirtual 154, 3) := by decide +kernel
theorem dX10_feed_56 : decode cX10_feed 56 = .ok (.aload_n 0, 1) := by decide +kernel
theorem dX10_feed_57 : decode cX10_feed 57 = .ok (.getfield 50, 3) := by decide +kernel
theorem dX10_feed_60 : decode cX10_feed 60 = .ok (.getfield 158, 3) := by decide +kernel
theorem dX10_feed_63 : decode cX10_feed 63 = .ok (.ireturn, 1) := by decide +kernel
theorem dX10_end_0 : decode cX10_end 0 = .ok (.iload_n 1, 1) := by decide +kernel
theorem dX10_end_1 : decode cX10_end 1 = .ok (.ifCond .lt 14, 3) := by decide +kernel
theorem dX10_end_4 : decode cX10_end 4 = .ok (.iload_n 1, 1) := by decide +kernel
theorem dX10_end_5 : decode cX10_end 5 = .ok (.aload_n 0, 1) := by decide +kernel
theorem dX10_end_6 : decode cX10_end 6 = .ok (.getfield 50, 3) := by decide +kernel
theorem dX10_end_9 : decode cX10_end 9 = .ok (.getfield 158, 3) := by decide +kernel
theorem dX10_end_12 : decode cX10_end 12 = .ok (.if_icmp .le 5, 3) := by decide +kernel
theorem dX10_end_15 : decode cX10_end 15 = .ok (.iconst (-1), 1) := by decide +kernel
theorem dX10_end_16 : decode cX10_end 16 = .ok (.ireturn, 1) := by decide +kernel
theorem dX10_end_17 : decode cX10_end 17 = .ok (.aload_n 0, 1) := by decide +kernel
theorem dX10_end_18 : decode cX10_end 18 = .ok (.getfield 50, 3) := by decide +kernel
theorem dX10_end_21 : decode cX10_end 21 = .ok (.iload_n 1, 1) := by decide +kernel
theorem dX10_end_22 : decode cX10_end 22 = .ok (.putfield 158, 3) := by decide +kernel
theorem dX10_end_25 : decode cX10_end 25 = .ok (.iload_n 1, 1) := by decide +kernel
theorem dX10_end_26 : decode cX10_end 26 = .ok (.ireturn, 1) := by decide +kernel
set_option maxRecDepth 20000 in
theorem ggX10_text_X10_isTown : GoodIn wsX10_text wsX10_isTown := goodIn_r _ [10, 11, 12, 9, 13] (by decide +kernel) (by decide +kernel)
set_option maxRecDepth 20000 in
theorem gX10_text_X10_isTown : GoodIn wsX10_text (va_wsS RX10 86 yX10_isTown wsX10_isTown) := goodIn_app (goodIn_of _ (by decide +kernel)) ggX10_text_X10_isTown
set_option maxRecDepth 20000 in
theorem ggX10_text_X1_learn : GoodIn wsX10_text wsX1_learn := goodIn_r _ [18, 19, 20, 21, 22, 23, 24, 25, 26, 27, 28, 29, 30, 31, 32, 33, 34, 35, 36, 37, 38, 17, 39, 40, 41, 42, 43, 44, 45, 46, 47, 48, 49, 50, 12, 9, 13, 51, 52, 53, 54, 55, 56, 57, 58, 59, 60, 61, 62, 63, 64, 65, 66, 67, 68, 69, 70, 71, 72, 73, 74, 75, 76, 77, 78, 79, 80, 81, 82, 83, 84, 85, 86, 87, 88, 89, 90, 91, 92, 93, 94, 95, 96, 97, 98, 99, 100, 101, 102, 103, 104, 105, 106, 107, 108, 109, 110, 111, 112, 113, 114, 115, 116, 117, 118, 119, 120, 121, 122, 123, 124, 125, 126, 127, 128, 129, 130, 131, 156, 157, 158, 159, 160, 161, 149, 150, 151] (by decide +kernel) (by decide +kernel)
set_option maxRecDepth 20000 in
theorem gX10_text_X1_learn : GoodIn wsX10_text (wsV RX10 161 RX1 yX1_learn wsX1_learn) := goodIn_app (goodIn_of _ (by decide +kernel)) ggX10_text_X1_learn
theorem dX10_text_0 : decode cX10_text 0 = .ok (.iload_n 1, 1) := by decide +kernel
theorem dX10_text_1 : decode cX10_text 1 = .ok (.invokestatic 86, 3) := by decide +kernel
theorem dX10_text_4 : decode cX10_text 4 = .ok (.ifCond .ne 5, 3) := by decide +kernel
theorem dX10_text_7 : decode cX10_text 7 = .ok (.iconst (-1), 1) := by decide +kernel
theorem dX10_text_8 : decode cX10_text 8 = .ok (.ireturn, 1) := by decide +kernel
theorem dX10_text_9 : decode cX10_text 9 = .ok (.aload_n 0, 1) := by decide +kernel
theorem dX10_text_10 : decode cX10_text 10 = .ok (.getfield 68, 3) := by decide +kernel
theorem dX10_text_13 : decode cX10_text 13 = .ok (.aload_n 0, 1) := by decide +kernel
theorem dX10_text_14 : decode cX10_text 14 = .ok (.getfield 50, 3) := by decide +kernel
theorem dX10_text_17 : decode cX10_text 17 = .ok (.invokevirtual 161, 3) := by decide +kernel
theorem dX10_text_20 : decode cX10_text 20 = .ok (.istore_n 2, 1) := by decide +kernel
theorem dX10_text_21 : decode cX10_text 21 = .ok (.aload_n 0, 1) := by decide +kernel
theorem dX10_text_22 : decode cX10_text 22 = .ok (.getfield 50, 3) := by decide +kernel
theorem dX10_text_25 : decode cX10_text 25 = .ok (.iconst 0, 1) := by decide +kernel
theorem dX10_text_26 : decode cX10_text 26 = .ok (.putfield 158, 3) := by decide +kernel
theorem dX10_text_29 : decode cX10_text 29 = .ok (.iload_n 2, 1) := by decide +kernel
theorem dX10_text_30 : decode cX10_text 30 = .ok (.ifCond .eq 8, 3) := by decide +kernel
theorem dX10_text_33 : decode cX10_text 33 = .ok (.bipush (-2), 2) := by decide +kernel
theorem dX10_text_35 : decode cX10_text 35 = .ok (.iload_n 2, 1) := by decide +kernel
theorem dX10_text_36 : decode cX10_text 36 = .ok (.isub, 1) := by decide +kernel
theorem dX10_text_37 : decode cX10_text 37 = .ok (.ireturn, 1) := by decide +kernel
theorem dX10_text_38 : decode cX10_text 38 = .ok (.aload_n 0, 1) := by decide +kernel
theorem dX10_text_39 : decode cX10_text 39 = .ok (.getfield 18, 3) := by decide +kernel
theorem dX10_text_42 : decode cX10_text 42 = .ok (.iload_n 1, 1) := by decide +kernel
theorem dX10_text_43 : decode cX10_text 43 = .ok (.aaload, 1) := by decide +kernel
theorem dX10_text_44 : decode cX10_text 44 = .ok (.getfield 165, 3) := by decide +kernel
theorem dX10_text_47 : decode cX10_text 47 = .ok (.astore_n 3, 1) := by decide +kernel
theorem dX10_text_48 : decode cX10_text 48 = .ok (.aload_n 0, 1) := by decide +kernel
theorem dX10_text_49 : decode cX10_text 49 = .ok (.getfield 18, 3) := by decide +kernel
theorem dX10_text_52 : decode cX10_text 52 = .ok (.iload_n 1, 1) := by decide +kernel
theorem dX10_text_53 : decode cX10_text 53 = .ok (.aaload, 1) := by decide +kernel
theorem dX10_text_54 : decode cX10_text 54 = .ok (.aload_n 0, 1) := by decide +kernel
theorem dX10_text_55 : decode cX10_text 55 = .ok (.getfield 68, 3) := by decide +kernel
theorem dX10_text_58 : decode cX10_text 58 = .ok (.putfield 165, 3) := by decide +kernel
theorem dX10_text_61 : decode cX10_text 61 = .ok (.aload_n 0, 1) := by decide +kernel
theorem dX10_text_62 : decode cX10_text 62 = .ok (.aload_n 3, 1) := by decide +kernel
theorem dX10_text_63 : decode cX10_text 63 = .ok (.putfield 68, 3) := by decide +kernel
theorem dX10_text_66 : decode cX10_text 66 = .ok (.aload_n 0, 1) := by decide +kernel
theorem dX10_text_67 : decode cX10_text 67 = .ok (.getfield 18, 3) := by decide +kernel
theorem dX10_text_70 : decode cX10_text 70 = .ok (.iload_n 1, 1) := by decide +kernel
theorem dX10_text_71 : decode cX10_text 71 = .ok (.aaload, 1) := by decide +kernel
theorem dX10_text_72 : decode cX10_text 72 = .ok (.getfield 165, 3) := by decide +kernel
theorem dX10_text_75 : decode cX10_text 75 = .ok (.getfield 168, 3) := by decide +kernel
theorem dX10_text_78 : decode cX10_text 78 = .ok (.ireturn, 1) := by decide +kernel
set_option maxRecDepth 20000 in
theorem ggX10_law_X2_learn : GoodIn wsX10_law wsX2_learn := goodIn_r _ [9, 10, 11, 12, 13, 8, 14, 15, 16, 17, 18, 19, 20, 21, 22, 23, 24, 25, 26, 27, 28, 29, 30, 31, 32, 33, 34, 35, 36, 37, 38, 39, 40, 41, 42, 43, 44, 45, 46, 47, 48, 49, 50, 51, 52, 53, 54, 55, 56, 57, 58, 59, 60, 61, 62, 63, 64, 65, 66, 67, 68, 69, 70, 71, 72, 73, 74, 75, 76, 77, 78, 79, 80, 81, 82, 83, 84, 85, 86, 87, 88, 89, 90, 91, 92, 93, 94, 95, 96, 97, 98, 99, 100, 101, 102, 103, 104, 105, 106, 107, 108, 109, 110, 111, 112, 113, 114, 115, 116, 117, 118, 119, 120, 121, 122, 123, 124, 125, 126, 127, 128, 146, 147, 148, 149, 150, 151] (by decide +kernel) (by decide +kernel)
set_option maxRecDepth 20000 in
theorem gX10_law_X2_learn : GoodIn wsX10_law (wsV RX10 171 RX2 yX2_learn wsX2_learn) := goodIn_app (goodIn_of _ (by decide +kernel)) ggX10_law_X2_learn
theorem dX10_law_0 : decode cX10_law 0 = .ok (.aload_n 0, 1) := by decide +kernel
theorem dX10_law_1 : decode cX10_law 1 = .ok (.getfield 79, 3) := by decide +kernel
theorem dX10_law_4 : decode cX10_law 4 = .ok (.aload_n 0, 1) := by decide +kernel
theorem dX10_law_5 : decode cX10_law 5 = .ok (.getfield 50, 3) := by decide +kernel
theorem dX10_law_8 : decode cX10_law 8 = .ok (.invokevirtual 171, 3) := by decide +kernel
theorem dX10_law_11 : decode cX10_law 11 = .ok (.istore_n 1, 1) := by decide +kernel
theorem dX10_law_12 : decode cX10_law 12 = .ok (.aload_n 0, 1) := by decide +kernel
theorem dX10_law_13 : decode cX10_law 13 = .ok (.getfield 50, 3) := by decide +kernel
theorem dX10_law_16 : decode cX10_law 16 = .ok (.iconst 0, 1) := by decide +kernel
theorem dX10_law_17 : decode cX10_law 17 = .ok (.putfield 158, 3) := by decide +kernel
theorem dX10_law_20 : decode cX10_law 20 = .ok (.iload_n 1, 1) := by decide +kernel
theorem dX10_law_21 : decode cX10_law 21 = .ok (.ifCond .eq 5, 3) := by decide +kernel
theorem dX10_law_24 : decode cX10_law 24 = .ok (.iload_n 1, 1) := by decide +kernel
theorem dX10_law_25 : decode cX10_law 25 = .ok (.ireturn, 1) := by decide +kernel
theorem dX10_law_26 : decode cX10_law 26 = .ok (.aload_n 0, 1) := by decide +kernel
theorem dX10_law_27 : decode cX10_law 27 = .ok (.getfield 75, 3) := by decide +kernel
theorem dX10_law_30 : decode cX10_law 30 = .ok (.astore_n 2, 1) := by decide +kernel
theorem dX10_law_31 : decode cX10_law 31 = .ok (.aload_n 0, 1) := by decide +kernel
theorem dX10_law_32 : decode cX10_law 32 = .ok (.aload_n 0, 1) := by decide +kernel
theorem dX10_law_33 : decode cX10_law 33 = .ok (.getfield 79, 3) := by decide +kernel
theorem dX10_law_36 : decode cX10_law 36 = .ok (.putfield 75, 3) := by decide +kernel
theorem dX10_law_39 : decode cX10_law 39 = .ok (.aload_n 0, 1) := by decide +kernel
theorem dX10_law_40 : decode cX10_law 40 = .ok (.aload_n 2, 1) := by decide +kernel
theorem dX10_law_41 : decode cX10_law 41 = .ok (.putfield 79, 3) := by decide +kernel
theorem dX10_law_44 : decode cX10_law 44 = .ok (.iconst 0, 1) := by decide +kernel
theorem dX10_law_45 : decode cX10_law 45 = .ok (.ireturn, 1) := by decide +kernel
set_option maxRecDepth 20000 in
theorem ggX10_show_X10_paperAt : GoodIn wsX10_show wsX10_paperAt := goodIn_r _ [17, 18, 19, 174, 175, 176, 177, 178, 179, 180, 181, 182, 183, 184, 185, 186, 187, 188, 189, 190] (by decide +kernel) (by decide +kernel)
set_option maxRecDepth 20000 in
theorem gX10_show_X10_paperAt : GoodIn wsX10_show (wsV RX10 112 RX10 yX10_paperAt wsX10_paperAt) := goodIn_app (goodIn_of _ (by decide +kernel)) ggX10_show_X10_paperAt
set_option maxRecDepth 20000 in
theorem ggX10_show_X10_isTown : GoodIn wsX10_show wsX10_isTown := goodIn_r _ [22, 23, 24, 16, 25] (by decide +kernel) (by decide +kernel)
set_option maxRecDepth 20000 in
theorem gX10_show_X10_isTown : GoodIn wsX10_show (va_wsS RX10 86 yX10_isTown wsX10_isTown) := goodIn_app (goodIn_of _ (by decide +kernel)) ggX10_show_X10_isTown
set_option maxRecDepth 20000 in
theorem ggX10_show_X10_isHand : GoodIn wsX10_show wsX10_isHand := goodIn_r _ [28, 29, 23, 24, 16, 25] (by decide +kernel) (by decide +kernel)
set_option maxRecDepth 20000 in
theorem gX10_show_X10_isHand : GoodIn wsX10_show (va_wsS RX10 175 yX10_isHand wsX10_isHand) := goodIn_app (goodIn_of _ (by decide +kernel)) ggX10_show_X10_isHand
set_option maxRecDepth 20000 in
theorem ggX10_show_X3_canBeShown : GoodIn wsX10_show wsX3_canBeShown := goodIn_r _ [34, 35, 36, 37, 38, 33, 39, 40, 41, 42, 43, 44, 24, 16, 25, 191, 192, 193, 194, 195, 196, 197] (by decide +kernel) (by decide +kernel)
set_option maxRecDepth 20000 in
theorem gX10_show_X3_canBeShown : GoodIn wsX10_show (wsV RX10 178 RX3 yX3_canBeShown wsX3_canBeShown) := goodIn_app (goodIn_of _ (by decide +kernel)) ggX10_show_X3_canBeShown
set_option maxRecDepth 20000 in
theorem ggX10_show_X3_isBook : GoodIn wsX10_show wsX3_isBook := goodIn_r _ [39, 40, 191, 192, 193, 194, 195, 196, 197] (by decide +kernel) (by decide +kernel)
set_option maxRecDepth 20000 in
theorem gX10_show_X3_isBook : GoodIn wsX10_show (wsV RX10 181 RX3 yX3_isBook wsX3_isBook) := goodIn_app (goodIn_of _ (by decide +kernel)) ggX10_show_X3_isBook
set_option maxRecDepth 20000 in
theorem ggX10_show_X5_init : GoodIn wsX10_show wsX5_init := goodIn_r _ [48, 49, 50, 51, 52, 53, 54, 55, 56, 57, 58, 59, 60, 61, 198, 199, 200, 201, 202, 203, 204, 205, 206, 207] (by decide +kernel) (by decide +kernel)
set_option maxRecDepth 20000 in
theorem gX10_show_X5_init : GoodIn wsX10_show (wsX5_init) := ggX10_show_X5_init
set_option maxRecDepth 20000 in
theorem ggX10_show_X10_gatherFacts : GoodIn wsX10_show wsX10_gatherFacts := goodIn_r _ [65, 66, 67, 9, 68, 69, 70, 71, 2, 72, 73, 74, 75, 16, 76, 77, 78, 79, 80, 81, 82, 83, 84, 85, 86, 87, 88, 89, 90, 91, 92, 93, 94, 95, 96, 97, 98, 99, 100, 101, 102, 103, 104, 105, 106, 107, 108, 109, 110, 111, 198, 199, 200, 201, 202, 203, 204, 205, 206, 207, 191, 192, 193, 194, 195, 196, 197, 174, 175, 176, 177, 178, 179, 180, 181, 182, 183, 184, 185, 186, 187, 188, 189, 190, 212, 213, 214, 215, 216, 217, 218] (by decide +kernel) (by decide +kernel)
set_option maxRecDepth 20000 in
theorem gX10_show_X10_gatherFacts : GoodIn wsX10_show (wsV RX10 191 RX10 yX10_gatherFacts wsX10_gatherFacts) := goodIn_app (goodIn_of _ (by decide +kernel)) ggX10_show_X10_gatherFacts
set_option maxRecDepth 20000 in
theorem ggX10_show_X1_firstRuleFor : GoodIn wsX10_show wsX1_firstRuleFor := goodIn_r _ [116, 117, 118, 119, 120, 115, 121, 122, 123, 124, 125, 126, 127, 128, 219, 220, 221, 222, 223, 224] (by decide +kernel) (by decide +kernel)
set_option maxRecDepth 20000 in
theorem gX10_show_X1_firstRuleFor : GoodIn wsX10_show (wsV RX10 195 RX1 yX1_firstRuleFor wsX1_firstRuleFor) := goodIn_app (goodIn_of _ (by decide +kernel)) ggX10_show_X1_firstRuleFor
set_option maxRecDepth 20000 in
theorem ggX10_show_X1_deedOf : GoodIn wsX10_show wsX1_deedOf := goodIn_r _ [132, 117, 133, 219, 220, 221, 222, 223, 224] (by decide +kernel) (by decide +kernel)
set_option maxRecDepth 20000 in
theorem gX10_show_X1_deedOf : GoodIn wsX10_show (wsV RX10 202 RX1 yX1_deedOf wsX1_deedOf) := goodIn_app (goodIn_of _ (by decide +kernel)) ggX10_show_X1_deedOf
set_option maxRecDepth 20000 in
theorem ggX10_show_X10_payOut : GoodIn wsX10_show wsX10_payOut := goodIn_r _ [137, 71, 7, 82, 138, 139, 140, 141, 142, 72, 143, 144, 145, 16, 146, 147, 148, 6, 149, 150, 151, 152, 153, 154, 155, 156, 157, 158, 159, 160, 161, 162, 92, 163, 164, 165, 166, 167, 168, 169, 170, 171, 172, 173, 45, 37, 38, 33, 39, 40, 198, 199, 200, 201, 202, 203, 204, 205, 206, 207, 174, 175, 176, 177, 178, 179, 180, 181, 182, 183, 184, 185, 186, 187, 188, 189, 190, 208, 209, 210, 211, 191, 192, 193, 194, 195, 196, 197, 225, 226, 227, 228] (by decide +kernel) (by decide +kernel)
set_option maxRecDepth 20000 in
theorem gX10_show_X10_payOut : GoodIn wsX10_show (wsV RX10 209 RX10 yX10_payOut wsX10_payOut) := goodIn_app (goodIn_of _ (by decide +kernel)) ggX10_show_X10_payOut
theorem dX10_show_0 : decode cX10_show 0 = .ok (.aload_n 0, 1) := by decide +kernel
theorem dX10_show_1 : decode cX10_show 1 = .ok (.iload_n 2, 1) := by decide +kernel
theorem dX10_show_2 : decode cX10_show 2 = .ok (.invokevirtual 112, 3) := by decide +kernel
theorem dX10_show_5 : decode cX10_show 5 = .ok (.astore 7, 2) := by decide +kernel
theorem dX10_show_7 : decode cX10_show 7 = .ok (.aload_n 0, 1) := by decide +kernel
theorem dX10_show_8 : decode cX10_show 8 = .ok (.getfield 172, 3) := by decide +kernel
theorem dX10_show_11 : decode cX10_show 11 = .ok (.sipush 200, 3) := by decide +kernel
theorem dX10_show_14 : decode cX10_show 14 = .ok (.if_icmp .ge 23, 3) := by decide +kernel
theorem dX10_show_17 : decode cX10_show 17 = .ok (.iload_n 1, 1) := by decide +kernel
theorem dX10_show_18 : decode cX10_show 18 = .ok (.invokestatic 86, 3) := by decide +kernel
theorem dX10_show_21 : decode cX10_show 21 = .ok (.ifCond .eq 16, 3) := by decide +kernel
theorem dX10_show_24 : decode cX10_show 24 = .ok (.aload 7, 2) := by decide +kernel
theorem dX10_show_26 : decode cX10_show 26 = .ok (.ifnull 11, 3) := by decide +kernel
theorem dX10_show_29 : decode cX10_show 29 = .ok (.iload 5, 2) := by decide +kernel
theorem dX10_show_31 : decode cX10_show 31 = .ok (.invokestatic 175, 3) := by decide +kernel
theorem dX10_show_34 : decode cX10_show 34 = .ok (.ifCond .ne 5, 3) := by decide +kernel
theorem dX10_show_37 : decode cX10_show 37 = .ok (.iconst (-1), 1) := by decide +kernel
theorem dX10_show_38 : decode cX10_show 38 = .ok (.ireturn, 1) := by decide +kernel
theorem dX10_show_39 : decode cX10_show 39 = .ok (.aload 7, 2) := by decide +kernel
theorem dX10_show_41 : decode cX10_show 41 = .ok (.iload_n 3, 1) := by decide +kernel
theorem dX10_show_42 : decode cX10_show 42 = .ok (.iload 4, 2) := by decide +kernel
theorem dX10_show_44 : decode cX10_show 44 = .ok (.invokevirtual 178, 3) := by decide +kernel
theorem dX10_show_47 : decode cX10_show 47 = .ok (.ifCond .ne 5, 3) := by decide +kernel
theorem dX10_show_50 : decode cX10_show 50 = .ok (.iconst (-1), 1) := by decide +kernel
theorem dX10_show_51 : decode cX10_show 51 = .ok (.ireturn, 1) := by decide +kernel
theorem dX10_show_52 : decode cX10_show 52 = .ok (.aload 7, 2) := by decide +kernel
theorem dX10_show_54 : decode cX10_show 54 = .ok (.invokevirtual 181, 3) := by decide +kernel
theorem dX10_show_57 : decode cX10_show 57 = .ok (.ifCond .eq 11, 3) := by decide +kernel
theorem dX10_show_60 : decode cX10_show 60 = .ok (.aload 7, 2) := by decide +kernel
theorem dX10_show_62 : decode cX10_show 62 = .ok (.getfield 185, 3) := by decide +kernel
theorem dX10_show_65 : decode cX10_show 65 = .ok (.goto 5, 3) := by decide +kernel
theorem dX10_show_68 : decode cX10_show 68 = .ok (.iload 4, 2) := by decide +kernel
theorem dX10_show_70 : decode cX10_show 70 = .ok (.istore 8, 2) := by decide +kernel
theorem dX10_show_72 : decode cX10_show 72 = .ok (.new 41, 3) := by decide +kernel
theorem dX10_show_75 : decode cX10_show 75 = .ok (.dup, 1) := by decide +kernel
theorem dX10_show_76 : decode cX10_show 76 = .ok (.iload_n 1, 1) := by decide +kernel
theorem dX10_show_77 : decode cX10_show 77 = .ok (.iload_n 2, 1) := by decide +kernel
theorem dX10_show_78 : decode cX10_show 78 = .ok (.iload_n 3, 1) := by decide +kernel
theorem dX10_show_79 : decode cX10_show 79 = .ok (.iload 8, 2) := by decide +kernel
theorem dX10_show_81 : decode cX10_show 81 = .ok (.iload 5, 2) := by decide +kernel
theorem dX10_show_83 : decode cX10_show 83 = .ok (.aload_n 0, 1) := by decide +kernel
theorem dX10_show_84 : decode cX10_show 84 = .ok (.getfield 82, 3) := by decide +kernel
theorem dX10_show_87 : decode cX10_show 87 = .ok (.invokespecial 188, 3) := by decide +kernel
theorem dX10_show_90 : decode cX10_show 90 = .ok (.astore 9, 2) := by decide +kernel
theorem dX10_show_92 : decode cX10_show 92 = .ok (.aload_n 0, 1) := by decide +kernel
theorem dX10_show_93 : decode cX10_show 93 = .ok (.aload 9, 2) := by decide +kernel
theorem dX10_show_95 : decode cX10_show 95 = .ok (.aload 7, 2) := by decide +kernel
theorem dX10_show_97 : decode cX10_show 97 = .ok (.invokevirtual 191, 3) := by decide +kernel
theorem dX10_show_100 : decode cX10_show 100 = .ok (.aload 9, 2) := by decide +kernel
theorem dX10_show_102 : decode cX10_show 102 = .ok (.aload_n 0, 1) := by decide +kernel
theorem dX10_show_103 : decode cX10_show 103 = .ok (.getfield 18, 3) := by decide +kernel
theorem dX10_show_106 : decode cX10_show 106 = .ok (.iload_n 1, 1) := by decide +kernel
theorem dX10_show_107 : decode cX10_show 107 = .ok (.aaload, 1) := by decide +kernel
theorem dX10_show_108 : decode cX10_show 108 = .ok (.getfield 165, 3) := by decide +kernel
theorem dX10_show_111 : decode cX10_show 111 = .ok (.aload_n 0, 1) := by decide +kernel
theorem dX10_show_112 : decode cX10_show 112 = .ok (.getfield 61, 3) := by decide +kernel
theorem dX10_show_115 : decode cX10_show 115 = .ok (.invokevirtual 195, 3) := by decide +kernel
theorem dX10_show_118 : decode cX10_show 118 = .ok (.putfield 199, 3) := by decide +kernel
theorem dX10_show_121 : decode cX10_show 121 = .ok (.aload 9, 2) := by decide +kernel
theorem dX10_show_123 : decode cX10_show 123 = .ok (.aload_n 0, 1) := by decide +kernel
theorem dX10_show_124 : decode cX10_show 124 = .ok (.getfield 18, 3) := by decide +kernel
theorem dX10_show_127 : decode cX10_show 127 = .ok (.iload_n 1, 1) := by decide +kernel
theorem dX10_show_128 : decode cX10_show 128 = .ok (.aaload, 1) := by decide +kernel
theorem dX10_show_129 : decode cX10_show 129 = .ok (.getfield 165, 3) := by decide +kernel
theorem dX10_show_132 : decode cX10_show 132 = .ok (.aload 9, 2) := by decide +kernel
theorem dX10_show_134 : decode cX10_show 134 = .ok (.getfield 199, 3) := by decide +kernel
theorem dX10_show_137 : decode cX10_show 137 = .ok (.invokevirtual 202, 3) := by decide +kernel
theorem dX10_show_140 : decode cX10_show 140 = .ok (.putfield 206, 3) := by decide +kernel
theorem dX10_show_143 : decode cX10_show 143 = .ok (.aload 9, 2) := by decide +kernel
theorem dX10_show_145 : decode cX10_show 145 = .ok (.getfield 206, 3) := by decide +kernel
theorem dX10_show_148 : decode cX10_show 148 = .ok (.ifCond .ne 13, 3) := by decide +kernel
theorem dX10_show_151 : decode cX10_show 151 = .ok (.aload_n 0, 1) := by decide +kernel
theorem dX10_show_152 : decode cX10_show 152 = .ok (.aload 9, 2) := by decide +kernel
theorem dX10_show_154 : decode cX10_show 154 = .ok (.aload 7, 2) := by decide +kernel
theorem dX10_show_156 : decode cX10_show 156 = .ok (.iload 6, 2) := by decide +kernel
theorem dX10_show_158 : decode cX10_show 158 = .ok (.invokevirtual 209, 3) := by decide +kernel
theorem dX10_show_161 : decode cX10_show 161 = .ok (.aload_n 0, 1) := by decide +kernel
theorem dX10_show_162 : decode cX10_show 162 = .ok (.getfield 43, 3) := by decide +kernel
theorem dX10_show_165 : decode cX10_show 165 = .ok (.aload_n 0, 1) := by decide +kernel
theorem dX10_show_166 : decode cX10_show 166 = .ok (.getfield 172, 3) := by decide +kernel
theorem dX10_show_169 : decode cX10_show 169 = .ok (.aload 9, 2) := by decide +kernel
theorem dX10_show_171 : decode cX10_show 171 = .ok (.aastore, 1) := by decide +kernel
theorem dX10_show_172 : decode cX10_show 172 = .ok (.aload_n 0, 1) := by decide +kernel
theorem dX10_show_173 : decode cX10_show 173 = .ok (.dup, 1) := by decide +kernel
theorem dX10_show_174 : decode cX10_show 174 = .ok (.getfield 172, 3) := by decide +kernel
theorem dX10_show_177 : decode cX10_show 177 = .ok (.iconst 1, 1) := by decide +kernel
theorem dX10_show_178 : decode cX10_show 178 = .ok (.iadd, 1) := by decide +kernel
theorem dX10_show_179 : decode cX10_show 179 = .ok (.putfield 172, 3) := by decide +kernel
theorem dX10_show_182 : decode cX10_show 182 = .ok (.aload 9, 2) := by decide +kernel
theorem dX10_show_184 : decode cX10_show 184 = .ok (.getfield 206, 3) := by decide +kernel
theorem dX10_show_187 : decode cX10_show 187 = .ok (.ireturn, 1) := by decide +kernel
set_option maxRecDepth 20000 in
theorem ggX10_send_X10_isTown : GoodIn wsX10_send wsX10_isTown := goodIn_r _ [8, 9, 10, 7, 11] (by decide +kernel) (by decide +kernel)
set_option maxRecDepth 20000 in
theorem gX10_send_X10_isTown : GoodIn wsX10_send (va_wsS RX10 86 yX10_isTown wsX10_isTown) := goodIn_app (goodIn_of _ (by decide +kernel)) ggX10_send_X10_isTown
set_option maxRecDepth 20000 in
theorem ggX10_send_X10_isWithin : GoodIn wsX10_send wsX10_isWithin := goodIn_r _ [11] (by decide +kernel) (by decide +kernel)
set_option maxRecDepth 20000 in
theorem gX10_send_X10_isWithin : GoodIn wsX10_send (va_wsS RX10 90 yX10_isWithin wsX10_isWithin) := goodIn_app (goodIn_of _ (by decide +kernel)) ggX10_send_X10_isWithin
theorem dX10_send_0 : decode cX10_send 0 = .ok (.iload_n 1, 1) := by decide +kernel
theorem dX10_send_1 : decode cX10_send 1 = .ok (.invokestatic 86, 3) := by decide +kernel
theorem dX10_send_4 : decode cX10_send 4 = .ok (.ifCond .eq 17, 3) := by decide +kernel
theorem dX10_send_7 : decode cX10_send 7 = .ok (.iload_n 1, 1) := by decide +kernel
theorem dX10_send_8 : decode cX10_send 8 = .ok (.ifCond .eq 13, 3) := by decide +kernel
theorem dX10_send_11 : decode cX10_send 11 = .ok (.iload_n 2, 1) := by decide +kernel
theorem dX10_send_12 : decode cX10_send 12 = .ok (.iconst 1, 1) := by decide +kernel
theorem dX10_send_13 : decode cX10_send 13 = .ok (.ldc 213, 2) := by decide +kernel
theorem dX10_send_15 : decode cX10_send 15 = .ok (.invokestatic 90, 3) := by decide +kernel
theorem dX10_send_18 : decode cX10_send 18 = .ok (.ifCond .ne 5, 3) := by decide +kernel
theorem dX10_send_21 : decode cX10_send 21 = .ok (.iconst (-1), 1) := by decide +kernel
theorem dX10_send_22 : decode cX10_send 22 = .ok (.ireturn, 1) := by decide +kernel
theorem dX10_send_23 : decode cX10_send 23 = .ok (.aload_n 0, 1) := by decide +kernel
theorem dX10_send_24 : decode cX10_send 24 = .ok (.getfield 18, 3) := by decide +kernel
theorem dX10_send_27 : decode cX10_send 27 = .ok (.iload_n 1, 1) := by decide +kernel
theorem dX10_send_28 : decode cX10_send 28 = .ok (.aaload, 1) := by decide +kernel
theorem dX10_send_29 : decode cX10_send 29 = .ok (.getfield 214, 3) := by decide +kernel
theorem dX10_send_32 : decode cX10_send 32 = .ok (.ldc 217, 2) := by decide +kernel
theorem dX10_send_34 : decode cX10_send 34 = .ok (.iload_n 2, 1) := by decide +kernel
theorem dX10_send_35 : decode cX10_send 35 = .ok (.isub, 1) := by decide +kernel
theorem dX10_send_36 : decode cX10_send 36 = .ok (.if_icmp .le 5, 3) := by decide +kernel
theorem dX10_send_39 : decode cX10_send 39 = .ok (.iconst (-1), 1) := by decide +kernel
theorem dX10_send_40 : decode cX10_send 40 = .ok (.ireturn, 1) := by decide +kernel
theorem dX10_send_41 : decode cX10_send 41 = .ok (.aload_n 0, 1) := by decide +kernel
theorem dX10_send_42 : decode cX10_send 42 = .ok (.getfield 18, 3) := by decide +kernel
theorem dX10_send_45 : decode cX10_send 45 = .ok (.iload_n 1, 1) := by decide +kernel
theorem dX10_send_46 : decode cX10_send 46 = .ok (.aaload, 1) := by decide +kernel
theorem dX10_send_47 : decode cX10_send 47 = .ok (.dup, 1) := by decide +kernel
theorem dX10_send_48 : decode cX10_send 48 = .ok (.getfield 214, 3) := by decide +kernel
theorem dX10_send_51 : decode cX10_send 51 = .ok (.iload_n 2, 1) := by decide +kernel
theorem dX10_send_52 : decode cX10_send 52 = .ok (.iadd, 1) := by decide +kernel
theorem dX10_send_53 : decode cX10_send 53 = .ok (.putfield 214, 3) := by decide +kernel
theorem dX10_send_56 : decode cX10_send 56 = .ok (.aload_n 0, 1) := by decide +kernel
theorem dX10_send_57 : decode cX10_send 57 = .ok (.getfield 18, 3) := by decide +kernel
theorem dX10_send_60 : decode cX10_send 60 = .ok (.iload_n 1, 1) := by decide +kernel
theorem dX10_send_61 : decode cX10_send 61 = .ok (.aaload, 1) := by decide +kernel
theorem dX10_send_62 : decode cX10_send 62 = .ok (.getfield 214, 3) := by decide +kernel
theorem dX10_send_65 : decode cX10_send 65 = .ok (.ireturn, 1) := by decide +kernel
set_option maxRecDepth 20000 in
theorem ggX10_shown_X10_shownAt : GoodIn wsX10_shown wsX10_shownAt := goodIn_r _ [14, 15, 16, 27, 28, 29, 30, 31, 32, 33, 34, 35, 36, 37, 38, 39, 40, 41, 42, 43] (by decide +kernel) (by decide +kernel)
set_option maxRecDepth 20000 in
theorem gX10_shown_X10_shownAt : GoodIn wsX10_shown (wsV RX10 218 RX10 yX10_shownAt wsX10_shownAt) := goodIn_app (goodIn_of _ (by decide +kernel)) ggX10_shown_X10_shownAt
theorem dX10_shown_0 : decode cX10_shown 0 = .ok (.aload_n 0, 1) := by decide +kernel
theorem dX10_shown_1 : decode cX10_shown 1 = .ok (.iload_n 1, 1) := by decide +kernel
theorem dX10_shown_2 : decode cX10_shown 2 = .ok (.invokevirtual 218, 3) := by decide +kernel
theorem dX10_shown_5 : decode cX10_shown 5 = .ok (.astore_n 3, 1) := by decide +kernel
theorem dX10_shown_6 : decode cX10_shown 6 = .ok (.aload_n 3, 1) := by decide +kernel
theorem dX10_shown_7 : decode cX10_shown 7 = .ok (.ifnonnull 5, 3) := by decide +kernel
theorem dX10_shown_10 : decode cX10_shown 10 = .ok (.iconst (-1), 1) := by decide +kernel
theorem dX10_shown_11 : decode cX10_shown 11 = .ok (.ireturn, 1) := by decide +kernel
theorem dX10_shown_12 : decode cX10_shown 12 = .ok (.iload_n 2, 1) := by decide +kernel
theorem dX10_shown_13 : decode cX10_shown 13 = .ok (.tableswitch 96 0 8 #[51, 56, 61, 66, 71, 76, 81, 86, 91], 51) := by decide +kernel
theorem dX10_shown_64 : decode cX10_shown 64 = .ok (.aload_n 3, 1) := by decide +kernel
theorem dX10_shown_65 : decode cX10_shown 65 = .ok (.getfield 222, 3) := by decide +kernel
theorem dX10_shown_68 : decode cX10_shown 68 = .ok (.ireturn, 1) := by decide +kernel
theorem dX10_shown_69 : decode cX10_shown 69 = .ok (.aload_n 3, 1) := by decide +kernel
theorem dX10_shown_70 : decode cX10_shown 70 = .ok (.getfield 225, 3) := by decide +kernel
theorem dX10_shown_73 : decode cX10_shown 73 = .ok (.ireturn, 1) := by decide +kernel
theorem dX10_shown_74 : decode cX10_shown 74 = .ok (.aload_n 3, 1) := by decide +kernel
theorem dX10_shown_75 : decode cX10_shown 75 = .ok (.getfield 228, 3) := by decide +kernel
theorem dX10_shown_78 : decode cX10_shown 78 = .ok (.ireturn, 1) := by decide +kernel
theorem dX10_shown_79 : decode cX10_shown 79 = .ok (.aload_n 3, 1) := by decide +kernel
theorem dX10_shown_80 : decode cX10_shown 80 = .ok (.getfield 231, 3) := by decide +kernel
theorem dX10_shown_83 : decode cX10_shown 83 = .ok (.ireturn, 1) := by decide +kernel
theorem dX10_shown_84 : decode cX10_shown 84 = .ok (.aload_n 3, 1) := by decide +kernel
theorem dX10_shown_85 : decode cX10_shown 85 = .ok (.getfield 206, 3) := by decide +kernel
theorem dX10_shown_88 : decode cX10_shown 88 = .ok (.ireturn, 1) := by decide +kernel
theorem dX10_shown_89 : decode cX10_shown 89 = .ok (.aload_n 3, 1) := by decide +kernel
theorem dX10_shown_90 : decode cX10_shown 90 = .ok (.getfield 199, 3) := by decide +kernel
theorem dX10_shown_93 : decode cX10_shown 93 = .ok (.ireturn, 1) := by decide +kernel
theorem dX10_shown_94 : decode cX10_shown 94 = .ok (.aload_n 3, 1) := by decide +kernel
theorem dX10_shown_95 : decode cX10_shown 95 = .ok (.getfield 234, 3) := by decide +kernel
theorem dX10_shown_98 : decode cX10_shown 98 = .ok (.ireturn, 1) := by decide +kernel
theorem dX10_shown_99 : decode cX10_shown 99 = .ok (.aload_n 3, 1) := by decide +kernel
theorem dX10_shown_100 : decode cX10_shown 100 = .ok (.getfield 237, 3) := by decide +kernel
theorem dX10_shown_103 : decode cX10_shown 103 = .ok (.ireturn, 1) := by decide +kernel
theorem dX10_shown_104 : decode cX10_shown 104 = .ok (.aload_n 3, 1) := by decide +kernel
theorem dX10_shown_105 : decode cX10_shown 105 = .ok (.getfield 240, 3) := by decide +kernel
theorem dX10_shown_108 : decode cX10_shown 108 = .ok (.ireturn, 1) := by decide +kernel
theorem dX10_shown_109 : decode cX10_shown 109 = .ok (.iconst (-1), 1) := by decide +kernel
theorem dX10_shown_110 : decode cX10_shown 110 = .ok (.ireturn, 1) := by decide +kernel
set_option maxRecDepth 20000 in
theorem ggX10_paper_X10_paperAt : GoodIn wsX10_paper wsX10_paperAt := goodIn_r _ [10, 11, 12, 20, 21, 22, 23, 24, 25, 26, 27, 28, 29, 30, 31, 32, 33, 34, 35, 36] (by decide +kernel) (by decide +kernel)
set_option maxRecDepth 20000 in
theorem gX10_paper_X10_paperAt : GoodIn wsX10_paper (wsV RX10 112 RX10 yX10_paperAt wsX10_paperAt) := goodIn_app (goodIn_of _ (by decide +kernel)) ggX10_paper_X10_paperAt
theorem dX10_paper_0 : decode cX10_paper 0 = .ok (.aload_n 0, 1) := by decide +kernel
theorem dX10_paper_1 : decode cX10_paper 1 = .ok (.iload_n 1, 1) := by decide +kernel
theorem dX10_paper_2 : decode cX10_paper 2 = .ok (.invokevirtual 112, 3) := by decide +kernel
theorem dX10_paper_5 : decode cX10_paper 5 = .ok (.astore_n 3, 1) := by decide +kernel
theorem dX10_paper_6 : decode cX10_paper 6 = .ok (.aload_n 3, 1) := by decide +kernel
theorem dX10_paper_7 : decode cX10_paper 7 = .ok (.ifnonnull 5, 3) := by decide +kernel
theorem dX10_paper_10 : decode cX10_paper 10 = .ok (.iconst (-1), 1) := by decide +kernel
theorem dX10_paper_11 : decode cX10_paper 11 = .ok (.ireturn, 1) := by decide +kernel
theorem dX10_paper_12 : decode cX10_paper 12 = .ok (.iload_n 2, 1) := by decide +kernel
theorem dX10_paper_13 : decode cX10_paper 13 = .ok (.tableswitch 60 0 4 #[35, 40, 45, 50, 55], 35) := by decide +kernel
theorem dX10_paper_48 : decode cX10_paper 48 = .ok (.aload_n 3, 1) := by decide +kernel
theorem dX10_paper_49 : decode cX10_paper 49 = .ok (.getfield 242, 3) := by decide +kernel
theorem dX10_paper_52 : decode cX10_paper 52 = .ok (.ireturn, 1) := by decide +kernel
theorem dX10_paper_53 : decode cX10_paper 53 = .ok (.aload_n 3, 1) := by decide +kernel
theorem dX10_paper_54 : decode cX10_paper 54 = .ok (.getfield 185, 3) := by decide +kernel
theorem dX10_paper_57 : decode cX10_paper 57 = .ok (.ireturn, 1) := by decide +kernel
theorem dX10_paper_58 : decode cX10_paper 58 = .ok (.aload_n 3, 1) := by decide +kernel
theorem dX10_paper_59 : decode cX10_paper 59 = .ok (.getfield 245, 3) := by decide +kernel
theorem dX10_paper_62 : decode cX10_paper 62 = .ok (.ireturn, 1) := by decide +kernel
theorem dX10_paper_63 : decode cX10_paper 63 = .ok (.aload_n 3, 1) := by decide +kernel
theorem dX10_paper_64 : decode cX10_paper 64 = .ok (.getfield 246, 3) := by decide +kernel
theorem dX10_paper_67 : decode cX10_paper 67 = .ok (.ireturn, 1) := by decide +kernel
theorem dX10_paper_68 : decode cX10_paper 68 = .ok (.aload_n 3, 1) := by decide +kernel
theorem dX10_paper_69 : decode cX10_paper 69 = .ok (.getfield 249, 3) := by decide +kernel
theorem dX10_paper_72 : decode cX10_paper 72 = .ok (.ireturn, 1) := by decide +kernel
theorem dX10_paper_73 : decode cX10_paper 73 = .ok (.iconst (-1), 1) := by decide +kernel
theorem dX10_paper_74 : decode cX10_paper 74 = .ok (.ireturn, 1) := by decide +kernel
set_option maxRecDepth 20000 in
theorem ggX10_comes_X10_isTown : GoodIn wsX10_comes wsX10_isTown := goodIn_r _ [7, 8, 9, 6, 10] (by decide +kernel) (by decide +kernel)
set_option maxRecDepth 20000 in
theorem gX10_comes_X10_isTown : GoodIn wsX10_comes (va_wsS RX10 86 yX10_isTown wsX10_isTown) := goodIn_app (goodIn_of _ (by decide +kernel)) ggX10_comes_X10_isTown
set_option maxRecDepth 20000 in
theorem ggX10_comes_X10_adviceAt : GoodIn wsX10_comes wsX10_adviceAt := goodIn_r _ [14, 15, 16, 30, 31, 32, 33, 34, 35, 36, 37, 38, 39, 40, 41, 42, 43, 44, 45, 46] (by decide +kernel) (by decide +kernel)
set_option maxRecDepth 20000 in
theorem gX10_comes_X10_adviceAt : GoodIn wsX10_comes (wsV RX10 123 RX10 yX10_adviceAt wsX10_adviceAt) := goodIn_app (goodIn_of _ (by decide +kernel)) ggX10_comes_X10_adviceAt
set_option maxRecDepth 20000 in
theorem ggX10_comes_X10_stopAt : GoodIn wsX10_comes wsX10_stopAt := goodIn_r _ [20, 21, 22, 30, 31, 32, 33, 34, 35, 36, 37, 38, 39, 40, 41, 42, 43, 44, 45, 46] (by decide +kernel) (by decide +kernel)
set_option maxRecDepth 20000 in
theorem gX10_comes_X10_stopAt : GoodIn wsX10_comes (wsV RX10 253 RX10 yX10_stopAt wsX10_stopAt) := goodIn_app (goodIn_of _ (by decide +kernel)) ggX10_comes_X10_stopAt
theorem dX10_comes_0 : decode cX10_comes 0 = .ok (.iload_n 3, 1) := by decide +kernel
theorem dX10_comes_1 : decode cX10_comes 1 = .ok (.invokestatic 86, 3) := by decide +kernel
theorem dX10_comes_4 : decode cX10_comes 4 = .ok (.ifCond .ne 5, 3) := by decide +kernel
theorem dX10_comes_7 : decode cX10_comes 7 = .ok (.iconst (-1), 1) := by decide +kernel
theorem dX10_comes_8 : decode cX10_comes 8 = .ok (.ireturn, 1) := by decide +kernel
theorem dX10_comes_9 : decode cX10_comes 9 = .ok (.iload_n 1, 1) := by decide +kernel
theorem dX10_comes_10 : decode cX10_comes 10 = .ok (.ifCond .ne 34, 3) := by decide +kernel
theorem dX10_comes_13 : decode cX10_comes 13 = .ok (.aload_n 0, 1) := by decide +kernel
theorem dX10_comes_14 : decode cX10_comes 14 = .ok (.iload_n 2, 1) := by decide +kernel
theorem dX10_comes_15 : decode cX10_comes 15 = .ok (.invokevirtual 123, 3) := by decide +kernel
theorem dX10_comes_18 : decode cX10_comes 18 = .ok (.astore 4, 2) := by decide +kernel
theorem dX10_comes_20 : decode cX10_comes 20 = .ok (.aload 4, 2) := by decide +kernel
theorem dX10_comes_22 : decode cX10_comes 22 = .ok (.ifnull 12, 3) := by decide +kernel
theorem dX10_comes_25 : decode cX10_comes 25 = .ok (.aload 4, 2) := by decide +kernel
theorem dX10_comes_27 : decode cX10_comes 27 = .ok (.getfield 252, 3) := by decide +kernel
theorem dX10_comes_30 : decode cX10_comes 30 = .ok (.iload_n 3, 1) := by decide +kernel
theorem dX10_comes_31 : decode cX10_comes 31 = .ok (.if_icmp .eq 7, 3) := by decide +kernel
theorem dX10_comes_34 : decode cX10_comes 34 = .ok (.iconst (-1), 1) := by decide +kernel
theorem dX10_comes_35 : decode cX10_comes 35 = .ok (.goto 8, 3) := by decide +kernel
theorem dX10_comes_38 : decode cX10_comes 38 = .ok (.aload 4, 2) := by decide +kernel
theorem dX10_comes_40 : decode cX10_comes 40 = .ok (.getfield 131, 3) := by decide +kernel
theorem dX10_comes_43 : decode cX10_comes 43 = .ok (.ireturn, 1) := by decide +kernel
theorem dX10_comes_44 : decode cX10_comes 44 = .ok (.iload_n 1, 1) := by decide +kernel
theorem dX10_comes_45 : decode cX10_comes 45 = .ok (.iconst 1, 1) := by decide +kernel
theorem dX10_comes_46 : decode cX10_comes 46 = .ok (.if_icmp .ne 27, 3) := by decide +kernel
theorem dX10_comes_49 : decode cX10_comes 49 = .ok (.aload_n 0, 1) := by decide +kernel
theorem dX10_comes_50 : decode cX10_comes 50 = .ok (.iload_n 2, 1) := by decide +kernel
theorem dX10_comes_51 : decode cX10_comes 51 = .ok (.invokevirtual 253, 3) := by decide +kernel
theorem dX10_comes_54 : decode cX10_comes 54 = .ok (.astore 4, 2) := by decide +kernel
theorem dX10_comes_56 : decode cX10_comes 56 = .ok (.aload 4, 2) := by decide +kernel
theorem dX10_comes_58 : decode cX10_comes 58 = .ok (.ifnonnull 7, 3) := by decide +kernel
theorem dX10_comes_61 : decode cX10_comes 61 = .ok (.iconst (-1), 1) := by decide +kernel
theorem dX10_comes_62 : decode cX10_comes 62 = .ok (.goto 10, 3) := by decide +kernel
theorem dX10_comes_65 : decode cX10_comes 65 = .ok (.aload 4, 2) := by decide +kernel
theorem dX10_comes_67 : decode cX10_comes 67 = .ok (.getfield 257, 3) := by decide +kernel
theorem dX10_comes_70 : decode cX10_comes 70 = .ok (.iload_n 3, 1) := by decide +kernel
theorem dX10_comes_71 : decode cX10_comes 71 = .ok (.iaload, 1) := by decide +kernel
theorem dX10_comes_72 : decode cX10_comes 72 = .ok (.ireturn, 1) := by decide +kernel
theorem dX10_comes_73 : decode cX10_comes 73 = .ok (.iconst (-1), 1) := by decide +kernel
theorem dX10_comes_74 : decode cX10_comes 74 = .ok (.ireturn, 1) := by decide +kernel
set_option maxRecDepth 20000 in
theorem ggX10_settle_X10_isWithin : GoodIn wsX10_settle wsX10_isWithin := goodIn_r _ [16] (by decide +kernel) (by decide +kernel)
set_option maxRecDepth 20000 in
theorem gX10_settle_X10_isWithin : GoodIn wsX10_settle (va_wsS RX10 90 yX10_isWithin wsX10_isWithin) := goodIn_app (goodIn_of _ (by decide +kernel)) ggX10_settle_X10_isWithin
set_option maxRecDepth 20000 in
theorem ggX10_settle_X4_open : GoodIn wsX10_settle wsX4_open := goodIn_r _ [21, 22, 23, 24, 25, 26, 27, 28, 29, 30, 31, 32, 163, 164, 165, 166, 167, 168, 169, 170, 171, 172] (by decide +kernel) (by decide +kernel)
set_option maxRecDepth 20000 in
theorem gX10_settle_X4_open : GoodIn wsX10_settle (wsV RX10 260 RX4 yX4_open wsX4_open) := goodIn_app (goodIn_of _ (by decide +kernel)) ggX10_settle_X4_open
set_option maxRecDepth 20000 in
theorem ggX10_settle_X10_hasCome : GoodIn wsX10_settle wsX10_hasCome := goodIn_r _ [35] (by decide +kernel) (by decide +kernel)
set_option maxRecDepth 20000 in
theorem gX10_settle_X10_hasCome : GoodIn wsX10_settle (va_wsS RX10 134 yX10_hasCome wsX10_hasCome) := goodIn_app (goodIn_of _ (by decide +kernel)) ggX10_settle_X10_hasCome
set_option maxRecDepth 20000 in
theorem ggX10_settle_X10_kindOf : GoodIn wsX10_settle wsX10_kindOf := goodIn_r _ [39, 40, 41, 42, 7, 43, 44, 45, 46, 47, 48, 15, 49, 50, 51, 52, 53, 54, 55, 56, 57, 58, 59, 60, 61, 62, 63, 64, 65, 66, 67, 68, 69, 34, 35, 70, 71, 72, 73, 74, 75, 76, 77, 78, 79, 80, 81, 82, 83, 84, 85, 86, 3, 1, 87, 88, 89, 90, 20, 91, 22, 92, 93, 94, 95, 153, 154, 155, 156, 157, 158, 159, 160, 161, 162, 177, 178, 179, 180, 181, 182, 183, 136, 137, 138, 139, 140, 141, 142, 143, 144, 145, 146, 147, 148, 149, 150, 151, 152, 184, 185, 186, 187, 188, 189, 163, 164, 165, 166, 167, 168, 169, 170, 171, 172] (by decide +kernel) (by decide +kernel)
set_option maxRecDepth 20000 in
theorem gX10_settle_X10_kindOf : GoodIn wsX10_settle (wsV RX10 263 RX10 yX10_kindOf wsX10_kindOf) := goodIn_app (goodIn_of _ (by decide +kernel)) ggX10_settle_X10_kindOf
set_option maxRecDepth 20000 in
theorem ggX10_settle_X2_houseShare : GoodIn wsX10_settle wsX2_houseShare := goodIn_r _ [100, 101, 184, 185, 186] (by decide +kernel) (by decide +kernel)
set_option maxRecDepth 20000 in
theorem gX10_settle_X2_houseShare : GoodIn wsX10_settle (wsV RX10 267 RX2 yX2_houseShare wsX2_houseShare) := goodIn_app (goodIn_of _ (by decide +kernel)) ggX10_settle_X2_houseShare
set_option maxRecDepth 20000 in
theorem ggX10_settle_X4_enter : GoodIn wsX10_settle wsX4_enter := goodIn_r _ [105, 22, 106, 23, 25, 163, 164, 165, 166, 167, 168, 169, 170, 171, 172] (by decide +kernel) (by decide +kernel)
set_option maxRecDepth 20000 in
theorem gX10_settle_X4_enter : GoodIn wsX10_settle (wsV RX10 270 RX4 yX4_enter wsX4_enter) := goodIn_app (goodIn_of _ (by decide +kernel)) ggX10_settle_X4_enter
set_option maxRecDepth 20000 in
theorem ggX10_settle_X4_netAll : GoodIn wsX10_settle wsX4_netAll := goodIn_r _ [110, 23, 111, 112, 113, 114, 115, 116, 117, 118, 20, 119, 120, 121, 122, 75, 123, 124, 125, 126, 127, 24, 128, 129, 130, 131, 132, 133, 134, 135, 163, 164, 165, 166, 167, 168, 169, 170, 171, 172, 173, 174, 175, 176] (by decide +kernel) (by decide +kernel)
set_option maxRecDepth 20000 in
theorem gX10_settle_X4_netAll : GoodIn wsX10_settle (wsV RX10 278 RX4 yX4_netAll wsX4_netAll) := goodIn_app (goodIn_of _ (by decide +kernel)) ggX10_settle_X4_netAll
theorem dX10_settle_0 : decode cX10_settle 0 = .ok (.iload_n 1, 1) := by decide +kernel
theorem dX10_settle_1 : decode cX10_settle 1 = .ok (.iconst 0, 1) := by decide +kernel
theorem dX10_settle_2 : decode cX10_settle 2 = .ok (.sipush 3000, 3) := by decide +kernel
theorem dX10_settle_5 : decode cX10_settle 5 = .ok (.invokestatic 90, 3) := by decide +kernel
theorem dX10_settle_8 : decode cX10_settle 8 = .ok (.ifCond .ne 5, 3) := by decide +kernel
theorem dX10_settle_11 : decode cX10_settle 11 = .ok (.iconst (-1), 1) := by decide +kernel
theorem dX10_settle_12 : decode cX10_settle 12 = .ok (.ireturn, 1) := by decide +kernel
theorem dX10_settle_13 : decode cX10_settle 13 = .ok (.aload_n 0, 1) := by decide +kernel
theorem dX10_settle_14 : decode cX10_settle 14 = .ok (.getfield 57, 3) := by decide +kernel
theorem dX10_settle_17 : decode cX10_settle 17 = .ok (.invokevirtual 260, 3) := by decide +kernel
theorem dX10_settle_20 : decode cX10_settle 20 = .ok (.iconst 0, 1) := by decide +kernel
theorem dX10_settle_21 : decode cX10_settle 21 = .ok (.istore_n 2, 1) := by decide +kernel
theorem dX10_settle_22 : decode cX10_settle 22 = .ok (.iload_n 2, 1) := by decide +kernel
theorem dX10_settle_23 : decode cX10_settle 23 = .ok (.aload_n 0, 1) := by decide +kernel
theorem dX10_settle_24 : decode cX10_settle 24 = .ok (.getfield 172, 3) := by decide +kernel
theorem dX10_settle_27 : decode cX10_settle 27 = .ok (.if_icmp .ge 69, 3) := by decide +kernel
theorem dX10_settle_30 : decode cX10_settle 30 = .ok (.aload_n 0, 1) := by decide +kernel
theorem dX10_settle_31 : decode cX10_settle 31 = .ok (.getfield 43, 3) := by decide +kernel
theorem dX10_settle_34 : decode cX10_settle 34 = .ok (.iload_n 2, 1) := by decide +kernel
theorem dX10_settle_35 : decode cX10_settle 35 = .ok (.aaload, 1) := by decide +kernel
theorem dX10_settle_36 : decode cX10_settle 36 = .ok (.astore_n 3, 1) := by decide +kernel
theorem dX10_settle_37 : decode cX10_settle 37 = .ok (.aload_n 3, 1) := by decide +kernel
theorem dX10_settle_38 : decode cX10_settle 38 = .ok (.getfield 206, 3) := by decide +kernel
theorem dX10_settle_41 : decode cX10_settle 41 = .ok (.ifCond .ne 49, 3) := by decide +kernel
theorem dX10_settle_44 : decode cX10_settle 44 = .ok (.aload_n 3, 1) := by decide +kernel
theorem dX10_settle_45 : decode cX10_settle 45 = .ok (.getfield 240, 3) := by decide +kernel
theorem dX10_settle_48 : decode cX10_settle 48 = .ok (.iload_n 1, 1) := by decide +kernel
theorem dX10_settle_49 : decode cX10_settle 49 = .ok (.invokestatic 134, 3) := by decide +kernel
theorem dX10_settle_52 : decode cX10_settle 52 = .ok (.ifCond .eq 38, 3) := by decide +kernel
theorem dX10_settle_55 : decode cX10_settle 55 = .ok (.aload_n 0, 1) := by decide +kernel
theorem dX10_settle_56 : decode cX10_settle 56 = .ok (.iload_n 2, 1) := by decide +kernel
theorem dX10_settle_57 : decode cX10_settle 57 = .ok (.aload_n 3, 1) := by decide +kernel
theorem dX10_settle_58 : decode cX10_settle 58 = .ok (.invokevirtual 263, 3) := by decide +kernel
theorem dX10_settle_61 : decode cX10_settle 61 = .ok (.istore 4, 2) := by decide +kernel
theorem dX10_settle_63 : decode cX10_settle 63 = .ok (.aload_n 0, 1) := by decide +kernel
theorem dX10_settle_64 : decode cX10_settle 64 = .ok (.getfield 57, 3) := by decide +kernel
theorem dX10_settle_67 : decode cX10_settle 67 = .ok (.iload_n 2, 1) := by decide +kernel
theorem dX10_settle_68 : decode cX10_settle 68 = .ok (.aload_n 3, 1) := by decide +kernel
theorem dX10_settle_69 : decode cX10_settle 69 = .ok (.getfield 222, 3) := by decide +kernel
theorem dX10_settle_72 : decode cX10_settle 72 = .ok (.iload 4, 2) := by decide +kernel
theorem dX10_settle_74 : decode cX10_settle 74 = .ok (.aload_n 0, 1) := by decide +kernel
theorem dX10_settle_75 : decode cX10_settle 75 = .ok (.getfield 75, 3) := by decide +kernel
theorem dX10_settle_78 : decode cX10_settle 78 = .ok (.iload 4, 2) := by decide +kernel
theorem dX10_settle_80 : decode cX10_settle 80 = .ok (.aload_n 3, 1) := by decide +kernel
theorem dX10_settle_81 : decode cX10_settle 81 = .ok (.getfield 234, 3) := by decide +kernel
theorem dX10_settle_84 : decode cX10_settle 84 = .ok (.invokevirtual 267, 3) := by decide +kernel
theorem dX10_settle_87 : decode cX10_settle 87 = .ok (.invokevirtual 270, 3) := by decide +kernel
theorem dX10_settle_90 : decode cX10_settle 90 = .ok (.iinc 2 1, 3) := by decide +kernel
theorem dX10_settle_93 : decode cX10_settle 93 = .ok (.goto (-71), 3) := by decide +kernel
theorem dX10_settle_96 : decode cX10_settle 96 = .ok (.iconst 0, 1) := by decide +kernel
theorem dX10_settle_97 : decode cX10_settle 97 = .ok (.istore_n 2, 1) := by decide +kernel
theorem dX10_settle_98 : decode cX10_settle 98 = .ok (.iload_n 2, 1) := by decide +kernel
theorem dX10_settle_99 : decode cX10_settle 99 = .ok (.bipush 12, 2) := by decide +kernel
theorem dX10_settle_101 : decode cX10_settle 101 = .ok (.if_icmp .ge 31, 3) := by decide +kernel
theorem dX10_settle_104 : decode cX10_settle 104 = .ok (.aload_n 0, 1) := by decide +kernel
theorem dX10_settle_105 : decode cX10_settle 105 = .ok (.getfield 57, 3) := by decide +kernel
theorem dX10_settle_108 : decode cX10_settle 108 = .ok (.getfield 274, 3) := by decide +kernel
theorem dX10_settle_111 : decode cX10_settle 111 = .ok (.iload_n 2, 1) := by decide +kernel
theorem dX10_settle_112 : decode cX10_settle 112 = .ok (.dup2, 1) := by decide +kernel
theorem dX10_settle_113 : decode cX10_settle 113 = .ok (.laload, 1) := by decide +kernel
theorem dX10_settle_114 : decode cX10_settle 114 = .ok (.aload_n 0, 1) := by decide +kernel
theorem dX10_settle_115 : decode cX10_settle 115 = .ok (.getfield 18, 3) := by decide +kernel
theorem dX10_settle_118 : decode cX10_settle 118 = .ok (.iload_n 2, 1) := by decide +kernel
theorem dX10_settle_119 : decode cX10_settle 119 = .ok (.aaload, 1) := by decide +kernel
theorem dX10_settle_120 : decode cX10_settle 120 = .ok (.getfield 214, 3) := by decide +kernel
theorem dX10_settle_123 : decode cX10_settle 123 = .ok (.i2l, 1) := by decide +kernel
theorem dX10_settle_124 : decode cX10_settle 124 = .ok (.lsub, 1) := by decide +kernel
theorem dX10_settle_125 : decode cX10_settle 125 = .ok (.lastore, 1) := by decide +kernel
theorem dX10_settle_126 : decode cX10_settle 126 = .ok (.iinc 2 1, 3) := by decide +kernel
theorem dX10_settle_129 : decode cX10_settle 129 = .ok (.goto (-31), 3) := by decide +kernel
theorem dX10_settle_132 : decode cX10_settle 132 = .ok (.aload_n 0, 1) := by decide +kernel
theorem dX10_settle_133 : decode cX10_settle 133 = .ok (.getfield 57, 3) := by decide +kernel
theorem dX10_settle_136 : decode cX10_settle 136 = .ok (.aload_n 0, 1) := by decide +kernel
theorem dX10_settle_137 : decode cX10_settle 137 = .ok (.getfield 18, 3) := by decide +kernel
theorem dX10_settle_140 : decode cX10_settle 140 = .ok (.invokevirtual 278, 3) := by decide +kernel
theorem dX10_settle_143 : decode cX10_settle 143 = .ok (.aload_n 0, 1) := by decide +kernel
theorem dX10_settle_144 : decode cX10_settle 144 = .ok (.getfield 57, 3) := by decide +kernel
theorem dX10_settle_147 : decode cX10_settle 147 = .ok (.getfield 282, 3) := by decide +kernel
theorem dX10_settle_150 : decode cX10_settle 150 = .ok (.ireturn, 1) := by decide +kernel
set_option maxRecDepth 20000 in
theorem ggX10_settled_X4_holds : GoodIn wsX10_settled wsX4_holds := goodIn_r _ [8, 9, 27, 28, 29, 30, 31, 32, 33, 34, 35, 36] (by decide +kernel) (by decide +kernel)
set_option maxRecDepth 20000 in
theorem gX10_settled_X4_holds : GoodIn wsX10_settled (wsV RX10 285 RX4 yX4_holds wsX4_holds) := goodIn_app (goodIn_of _ (by decide +kernel)) ggX10_settled_X4_holds
theorem dX10_settled_0 : decode cX10_settled 0 = .ok (.aload_n 0, 1) := by decide +kernel
theorem dX10_settled_1 : decode cX10_settled 1 = .ok (.getfield 57, 3) := by decide +kernel
theorem dX10_settled_4 : decode cX10_settled 4 = .ok (.iload_n 1, 1) := by decide +kernel
theorem dX10_settled_5 : decode cX10_settled 5 = .ok (.invokevirtual 285, 3) := by decide +kernel
theorem dX10_settled_8 : decode cX10_settled 8 = .ok (.ifCond .ne 5, 3) := by decide +kernel
theorem dX10_settled_11 : decode cX10_settled 11 = .ok (.iconst (-1), 1) := by decide +kernel
theorem dX10_settled_12 : decode cX10_settled 12 = .ok (.ireturn, 1) := by decide +kernel
theorem dX10_settled_13 : decode cX10_settled 13 = .ok (.iload_n 2, 1) := by decide +kernel
theorem dX10_settled_14 : decode cX10_settled 14 = .ok (.ifCond .ne 13, 3) := by decide +kernel
theorem dX10_settled_17 : decode cX10_settled 17 = .ok (.aload_n 0, 1) := by decide +kernel
theorem dX10_settled_18 : decode cX10_settled 18 = .ok (.getfield 57, 3) := by decide +kernel
theorem dX10_settled_21 : decode cX10_settled 21 = .ok (.getfield 288, 3) := by decide +kernel
theorem dX10_settled_24 : decode cX10_settled 24 = .ok (.iload_n 1, 1) := by decide +kernel
theorem dX10_settled_25 : decode cX10_settled 25 = .ok (.iaload, 1) := by decide +kernel
theorem dX10_settled_26 : decode cX10_settled 26 = .ok (.ireturn, 1) := by decide +kernel
