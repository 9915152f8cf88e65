theorem dX11_word_0 : decode cX11_word 0 = .ok (.aload_n 0, 1) := by decide +kernel
theorem dX11_word_1 : decode cX11_word 1 = .ok (.invokevirtual 213, 3) := by decide +kernel
theorem dX11_word_4 : decode cX11_word 4 = .ok (.pop, 1) := by decide +kernel
theorem dX11_word_5 : decode cX11_word 5 = .ok (.aload_n 0, 1) := by decide +kernel
theorem dX11_word_6 : decode cX11_word 6 = .ok (.invokevirtual 217, 3) := by decide +kernel
theorem dX11_word_9 : decode cX11_word 9 = .ok (.ifCond .eq 16, 3) := by decide +kernel
theorem dX11_word_12 : decode cX11_word 12 = .ok (.aload_n 0, 1) := by decide +kernel
theorem dX11_word_13 : decode cX11_word 13 = .ok (.dup, 1) := by decide +kernel
theorem dX11_word_14 : decode cX11_word 14 = .ok (.getfield 207, 3) := by decide +kernel
theorem dX11_word_17 : decode cX11_word 17 = .ok (.iconst 1, 1) := by decide +kernel
theorem dX11_word_18 : decode cX11_word 18 = .ok (.iadd, 1) := by decide +kernel
theorem dX11_word_19 : decode cX11_word 19 = .ok (.putfield 207, 3) := by decide +kernel
theorem dX11_word_22 : decode cX11_word 22 = .ok (.goto (-17), 3) := by decide +kernel
theorem dX11_word_25 : decode cX11_word 25 = .ok (.aload_n 0, 1) := by decide +kernel
theorem dX11_word_26 : decode cX11_word 26 = .ok (.getfield 207, 3) := by decide +kernel
theorem dX11_word_29 : decode cX11_word 29 = .ok (.aload_n 0, 1) := by decide +kernel
theorem dX11_word_30 : decode cX11_word 30 = .ok (.getfield 210, 3) := by decide +kernel
theorem dX11_word_33 : decode cX11_word 33 = .ok (.if_icmp .ne 12, 3) := by decide +kernel
theorem dX11_word_36 : decode cX11_word 36 = .ok (.aload_n 0, 1) := by decide +kernel
theorem dX11_word_37 : decode cX11_word 37 = .ok (.iconst 0, 1) := by decide +kernel
theorem dX11_word_38 : decode cX11_word 38 = .ok (.aload_n 0, 1) := by decide +kernel
theorem dX11_word_39 : decode cX11_word 39 = .ok (.getfield 210, 3) := by decide +kernel
theorem dX11_word_42 : decode cX11_word 42 = .ok (.invokevirtual 220, 3) := by decide +kernel
theorem dX11_word_45 : decode cX11_word 45 = .ok (.return_, 1) := by decide +kernel
set_option maxRecDepth 20000 in
theorem ggX11_is_J0_length_8abf5 : GoodIn wsX11_is wsJ0_length_8abf5 := goodIn_r _ [8, 9, 10, 11, 12, 7, 13, 14, 15] (by decide +kernel) (by decide +kernel)
set_option maxRecDepth 20000 in
theorem gX11_is_J0_length_8abf5 : GoodIn wsX11_is (wsV RX11 224 RJ0 yJ0_length_8abf5 wsJ0_length_8abf5) := goodIn_app (goodIn_of _ (by decide +kernel)) ggX11_is_J0_length_8abf5
set_option maxRecDepth 20000 in
theorem ggX11_is_J0_charAt_5068e : GoodIn wsX11_is wsJ0_charAt_5068e := goodIn_r _ [19, 9, 20, 21, 22, 7, 23, 14, 15, 24, 25, 26, 27, 28, 29, 30, 31, 32, 33, 34, 35, 36, 37, 38, 39, 40, 41, 42, 43, 44, 45, 46, 47, 48, 49, 50, 51, 52] (by decide +kernel) (by decide +kernel)
set_option maxRecDepth 20000 in
theorem gX11_is_J0_charAt_5068e : GoodIn wsX11_is (wsV RX11 230 RJ0 yJ0_charAt_5068e wsJ0_charAt_5068e) := goodIn_app (goodIn_of _ (by decide +kernel)) ggX11_is_J0_charAt_5068e
theorem dX11_is_0 : decode cX11_is 0 = .ok (.aload_n 0, 1) := by decide +kernel
theorem dX11_is_1 : decode cX11_is 1 = .ok (.getfield 207, 3) := by decide +kernel
theorem dX11_is_4 : decode cX11_is 4 = .ok (.aload_n 0, 1) := by decide +kernel
theorem dX11_is_5 : decode cX11_is 5 = .ok (.getfield 210, 3) := by decide +kernel
theorem dX11_is_8 : decode cX11_is 8 = .ok (.isub, 1) := by decide +kernel
theorem dX11_is_9 : decode cX11_is 9 = .ok (.aload_n 1, 1) := by decide +kernel
theorem dX11_is_10 : decode cX11_is 10 = .ok (.invokevirtual 224, 3) := by decide +kernel
theorem dX11_is_13 : decode cX11_is 13 = .ok (.if_icmp .ne 7, 3) := by decide +kernel
theorem dX11_is_16 : decode cX11_is 16 = .ok (.iconst 1, 1) := by decide +kernel
theorem dX11_is_17 : decode cX11_is 17 = .ok (.goto 4, 3) := by decide +kernel
theorem dX11_is_20 : decode cX11_is 20 = .ok (.iconst 0, 1) := by decide +kernel
theorem dX11_is_21 : decode cX11_is 21 = .ok (.istore_n 2, 1) := by decide +kernel
theorem dX11_is_22 : decode cX11_is 22 = .ok (.iconst 0, 1) := by decide +kernel
theorem dX11_is_23 : decode cX11_is 23 = .ok (.istore_n 3, 1) := by decide +kernel
theorem dX11_is_24 : decode cX11_is 24 = .ok (.iload_n 3, 1) := by decide +kernel
theorem dX11_is_25 : decode cX11_is 25 = .ok (.aload_n 1, 1) := by decide +kernel
theorem dX11_is_26 : decode cX11_is 26 = .ok (.invokevirtual 224, 3) := by decide +kernel
theorem dX11_is_29 : decode cX11_is 29 = .ok (.if_icmp .ge 38, 3) := by decide +kernel
theorem dX11_is_32 : decode cX11_is 32 = .ok (.iload_n 2, 1) := by decide +kernel
theorem dX11_is_33 : decode cX11_is 33 = .ok (.ifCond .eq 34, 3) := by decide +kernel
theorem dX11_is_36 : decode cX11_is 36 = .ok (.aload_n 0, 1) := by decide +kernel
theorem dX11_is_37 : decode cX11_is 37 = .ok (.getfield 70, 3) := by decide +kernel
theorem dX11_is_40 : decode cX11_is 40 = .ok (.aload_n 0, 1) := by decide +kernel
theorem dX11_is_41 : decode cX11_is 41 = .ok (.getfield 210, 3) := by decide +kernel
theorem dX11_is_44 : decode cX11_is 44 = .ok (.iload_n 3, 1) := by decide +kernel
theorem dX11_is_45 : decode cX11_is 45 = .ok (.iadd, 1) := by decide +kernel
theorem dX11_is_46 : decode cX11_is 46 = .ok (.baload, 1) := by decide +kernel
theorem dX11_is_47 : decode cX11_is 47 = .ok (.aload_n 1, 1) := by decide +kernel
theorem dX11_is_48 : decode cX11_is 48 = .ok (.iload_n 3, 1) := by decide +kernel
theorem dX11_is_49 : decode cX11_is 49 = .ok (.invokevirtual 230, 3) := by decide +kernel
theorem dX11_is_52 : decode cX11_is 52 = .ok (.if_icmp .ne 7, 3) := by decide +kernel
theorem dX11_is_55 : decode cX11_is 55 = .ok (.iconst 1, 1) := by decide +kernel
theorem dX11_is_56 : decode cX11_is 56 = .ok (.goto 4, 3) := by decide +kernel
theorem dX11_is_59 : decode cX11_is 59 = .ok (.iconst 0, 1) := by decide +kernel
theorem dX11_is_60 : decode cX11_is 60 = .ok (.istore_n 2, 1) := by decide +kernel
theorem dX11_is_61 : decode cX11_is 61 = .ok (.iinc 3 1, 3) := by decide +kernel
theorem dX11_is_64 : decode cX11_is 64 = .ok (.goto (-40), 3) := by decide +kernel
theorem dX11_is_67 : decode cX11_is 67 = .ok (.iload_n 2, 1) := by decide +kernel
theorem dX11_is_68 : decode cX11_is 68 = .ok (.ireturn, 1) := by decide +kernel
set_option maxRecDepth 20000 in
theorem ggX11_number_X11_isEnd : GoodIn wsX11_number wsX11_isEnd := goodIn_r _ [9, 1, 2, 3, 4, 15, 16, 17, 18, 19, 20, 21, 22, 23, 24, 25, 26, 27, 28, 29, 30, 31, 32, 33, 34, 35, 36, 37, 38, 39, 40, 41, 42, 43, 44, 45, 46, 47, 48, 49, 50, 51, 52, 53, 54, 55, 56, 57, 58, 59, 60, 61, 62, 63, 64, 65, 66, 67, 68, 69, 70, 71, 72, 73, 74] (by decide +kernel) (by decide +kernel)
set_option maxRecDepth 20000 in
theorem gX11_number_X11_isEnd : GoodIn wsX11_number (wsV RX11 213 RX11 yX11_isEnd wsX11_isEnd) := goodIn_app (goodIn_of _ (by decide +kernel)) ggX11_number_X11_isEnd
set_option maxRecDepth 20000 in
theorem ggX11_number_X11_fails : GoodIn wsX11_number wsX11_fails := goodIn_r _ [13, 14, 15, 16, 17, 18, 19, 20, 21, 22, 23, 24, 25, 26, 27, 28, 29, 30, 31, 32, 33, 34, 35, 36, 37, 38, 39, 40, 41, 42, 43, 44, 45, 46, 47, 48, 49, 50, 51, 52, 53, 54, 55, 56, 57, 58, 59, 60, 61, 62, 63, 64, 65, 66, 67, 68, 69, 70, 71, 72, 73, 74] (by decide +kernel) (by decide +kernel)
set_option maxRecDepth 20000 in
theorem gX11_number_X11_fails : GoodIn wsX11_number (wsV RX11 220 RX11 yX11_fails wsX11_fails) := goodIn_app (goodIn_of _ (by decide +kernel)) ggX11_number_X11_fails
theorem dX11_number_0 : decode cX11_number 0 = .ok (.aload_n 0, 1) := by decide +kernel
theorem dX11_number_1 : decode cX11_number 1 = .ok (.invokevirtual 213, 3) := by decide +kernel
theorem dX11_number_4 : decode cX11_number 4 = .ok (.pop, 1) := by decide +kernel
theorem dX11_number_5 : decode cX11_number 5 = .ok (.iconst 0, 1) := by decide +kernel
theorem dX11_number_6 : decode cX11_number 6 = .ok (.istore_n 2, 1) := by decide +kernel
theorem dX11_number_7 : decode cX11_number 7 = .ok (.aload_n 0, 1) := by decide +kernel
theorem dX11_number_8 : decode cX11_number 8 = .ok (.getfield 207, 3) := by decide +kernel
theorem dX11_number_11 : decode cX11_number 11 = .ok (.aload_n 0, 1) := by decide +kernel
theorem dX11_number_12 : decode cX11_number 12 = .ok (.getfield 197, 3) := by decide +kernel
theorem dX11_number_15 : decode cX11_number 15 = .ok (.if_icmp .ge 79, 3) := by decide +kernel
theorem dX11_number_18 : decode cX11_number 18 = .ok (.aload_n 0, 1) := by decide +kernel
theorem dX11_number_19 : decode cX11_number 19 = .ok (.getfield 70, 3) := by decide +kernel
theorem dX11_number_22 : decode cX11_number 22 = .ok (.aload_n 0, 1) := by decide +kernel
theorem dX11_number_23 : decode cX11_number 23 = .ok (.getfield 207, 3) := by decide +kernel
theorem dX11_number_26 : decode cX11_number 26 = .ok (.baload, 1) := by decide +kernel
theorem dX11_number_27 : decode cX11_number 27 = .ok (.bipush 48, 2) := by decide +kernel
theorem dX11_number_29 : decode cX11_number 29 = .ok (.if_icmp .lt 65, 3) := by decide +kernel
theorem dX11_number_32 : decode cX11_number 32 = .ok (.aload_n 0, 1) := by decide +kernel
theorem dX11_number_33 : decode cX11_number 33 = .ok (.getfield 70, 3) := by decide +kernel
theorem dX11_number_36 : decode cX11_number 36 = .ok (.aload_n 0, 1) := by decide +kernel
theorem dX11_number_37 : decode cX11_number 37 = .ok (.getfield 207, 3) := by decide +kernel
theorem dX11_number_40 : decode cX11_number 40 = .ok (.baload, 1) := by decide +kernel
theorem dX11_number_41 : decode cX11_number 41 = .ok (.bipush 57, 2) := by decide +kernel
theorem dX11_number_43 : decode cX11_number 43 = .ok (.if_icmp .gt 51, 3) := by decide +kernel
theorem dX11_number_46 : decode cX11_number 46 = .ok (.aload_n 0, 1) := by decide +kernel
theorem dX11_number_47 : decode cX11_number 47 = .ok (.getfield 207, 3) := by decide +kernel
theorem dX11_number_50 : decode cX11_number 50 = .ok (.aload_n 0, 1) := by decide +kernel
theorem dX11_number_51 : decode cX11_number 51 = .ok (.getfield 210, 3) := by decide +kernel
theorem dX11_number_54 : decode cX11_number 54 = .ok (.isub, 1) := by decide +kernel
theorem dX11_number_55 : decode cX11_number 55 = .ok (.iload_n 1, 1) := by decide +kernel
theorem dX11_number_56 : decode cX11_number 56 = .ok (.if_icmp .ge 23, 3) := by decide +kernel
theorem dX11_number_59 : decode cX11_number 59 = .ok (.bipush 10, 2) := by decide +kernel
theorem dX11_number_61 : decode cX11_number 61 = .ok (.iload_n 2, 1) := by decide +kernel
theorem dX11_number_62 : decode cX11_number 62 = .ok (.imul, 1) := by decide +kernel
theorem dX11_number_63 : decode cX11_number 63 = .ok (.aload_n 0, 1) := by decide +kernel
theorem dX11_number_64 : decode cX11_number 64 = .ok (.getfield 70, 3) := by decide +kernel
theorem dX11_number_67 : decode cX11_number 67 = .ok (.aload_n 0, 1) := by decide +kernel
theorem dX11_number_68 : decode cX11_number 68 = .ok (.getfield 207, 3) := by decide +kernel
theorem dX11_number_71 : decode cX11_number 71 = .ok (.baload, 1) := by decide +kernel
theorem dX11_number_72 : decode cX11_number 72 = .ok (.iadd, 1) := by decide +kernel
theorem dX11_number_73 : decode cX11_number 73 = .ok (.bipush 48, 2) := by decide +kernel
theorem dX11_number_75 : decode cX11_number 75 = .ok (.isub, 1) := by decide +kernel
theorem dX11_number_76 : decode cX11_number 76 = .ok (.goto 4, 3) := by decide +kernel
theorem dX11_number_79 : decode cX11_number 79 = .ok (.iload_n 2, 1) := by decide +kernel
theorem dX11_number_80 : decode cX11_number 80 = .ok (.istore_n 2, 1) := by decide +kernel
theorem dX11_number_81 : decode cX11_number 81 = .ok (.aload_n 0, 1) := by decide +kernel
theorem dX11_number_82 : decode cX11_number 82 = .ok (.dup, 1) := by decide +kernel
theorem dX11_number_83 : decode cX11_number 83 = .ok (.getfield 207, 3) := by decide +kernel
theorem dX11_number_86 : decode cX11_number 86 = .ok (.iconst 1, 1) := by decide +kernel
theorem dX11_number_87 : decode cX11_number 87 = .ok (.iadd, 1) := by decide +kernel
theorem dX11_number_88 : decode cX11_number 88 = .ok (.putfield 207, 3) := by decide +kernel
theorem dX11_number_91 : decode cX11_number 91 = .ok (.goto (-84), 3) := by decide +kernel
theorem dX11_number_94 : decode cX11_number 94 = .ok (.aload_n 0, 1) := by decide +kernel
theorem dX11_number_95 : decode cX11_number 95 = .ok (.getfield 207, 3) := by decide +kernel
theorem dX11_number_98 : decode cX11_number 98 = .ok (.aload_n 0, 1) := by decide +kernel
theorem dX11_number_99 : decode cX11_number 99 = .ok (.getfield 210, 3) := by decide +kernel
theorem dX11_number_102 : decode cX11_number 102 = .ok (.if_icmp .ne 15, 3) := by decide +kernel
theorem dX11_number_105 : decode cX11_number 105 = .ok (.aload_n 0, 1) := by decide +kernel
theorem dX11_number_106 : decode cX11_number 106 = .ok (.iconst 0, 1) := by decide +kernel
theorem dX11_number_107 : decode cX11_number 107 = .ok (.aload_n 0, 1) := by decide +kernel
theorem dX11_number_108 : decode cX11_number 108 = .ok (.getfield 210, 3) := by decide +kernel
theorem dX11_number_111 : decode cX11_number 111 = .ok (.invokevirtual 220, 3) := by decide +kernel
theorem dX11_number_114 : decode cX11_number 114 = .ok (.goto 25, 3) := by decide +kernel
theorem dX11_number_117 : decode cX11_number 117 = .ok (.aload_n 0, 1) := by decide +kernel
theorem dX11_number_118 : decode cX11_number 118 = .ok (.getfield 207, 3) := by decide +kernel
theorem dX11_number_121 : decode cX11_number 121 = .ok (.aload_n 0, 1) := by decide +kernel
theorem dX11_number_122 : decode cX11_number 122 = .ok (.getfield 210, 3) := by decide +kernel
theorem dX11_number_125 : decode cX11_number 125 = .ok (.isub, 1) := by decide +kernel
theorem dX11_number_126 : decode cX11_number 126 = .ok (.iload_n 1, 1) := by decide +kernel
theorem dX11_number_127 : decode cX11_number 127 = .ok (.if_icmp .le 12, 3) := by decide +kernel
theorem dX11_number_130 : decode cX11_number 130 = .ok (.aload_n 0, 1) := by decide +kernel
theorem dX11_number_131 : decode cX11_number 131 = .ok (.iconst 1, 1) := by decide +kernel
theorem dX11_number_132 : decode cX11_number 132 = .ok (.aload_n 0, 1) := by decide +kernel
theorem dX11_number_133 : decode cX11_number 133 = .ok (.getfield 210, 3) := by decide +kernel
theorem dX11_number_136 : decode cX11_number 136 = .ok (.invokevirtual 220, 3) := by decide +kernel
theorem dX11_number_139 : decode cX11_number 139 = .ok (.iload_n 2, 1) := by decide +kernel
theorem dX11_number_140 : decode cX11_number 140 = .ok (.ireturn, 1) := by decide +kernel
theorem dX11_nameOf_0 : decode cX11_nameOf 0 = .ok (.iload_n 1, 1) := by decide +kernel
theorem dX11_nameOf_1 : decode cX11_nameOf 1 = .ok (.tableswitch 64 0 6 #[43, 46, 49, 52, 55, 58, 61], 43) := by decide +kernel
theorem dX11_nameOf_44 : decode cX11_nameOf 44 = .ok (.ldc 234, 2) := by decide +kernel
theorem dX11_nameOf_46 : decode cX11_nameOf 46 = .ok (.areturn, 1) := by decide +kernel
theorem dX11_nameOf_47 : decode cX11_nameOf 47 = .ok (.ldc 235, 2) := by decide +kernel
theorem dX11_nameOf_49 : decode cX11_nameOf 49 = .ok (.areturn, 1) := by decide +kernel
theorem dX11_nameOf_50 : decode cX11_nameOf 50 = .ok (.ldc 237, 2) := by decide +kernel
theorem dX11_nameOf_52 : decode cX11_nameOf 52 = .ok (.areturn, 1) := by decide +kernel
theorem dX11_nameOf_53 : decode cX11_nameOf 53 = .ok (.ldc 239, 2) := by decide +kernel
theorem dX11_nameOf_55 : decode cX11_nameOf 55 = .ok (.areturn, 1) := by decide +kernel
theorem dX11_nameOf_56 : decode cX11_nameOf 56 = .ok (.ldc 241, 2) := by decide +kernel
theorem dX11_nameOf_58 : decode cX11_nameOf 58 = .ok (.areturn, 1) := by decide +kernel
theorem dX11_nameOf_59 : decode cX11_nameOf 59 = .ok (.ldc 243, 2) := by decide +kernel
theorem dX11_nameOf_61 : decode cX11_nameOf 61 = .ok (.areturn, 1) := by decide +kernel
theorem dX11_nameOf_62 : decode cX11_nameOf 62 = .ok (.ldc 244, 2) := by decide +kernel
theorem dX11_nameOf_64 : decode cX11_nameOf 64 = .ok (.areturn, 1) := by decide +kernel
theorem dX11_nameOf_65 : decode cX11_nameOf 65 = .ok (.ldc 246, 2) := by decide +kernel
theorem dX11_nameOf_67 : decode cX11_nameOf 67 = .ok (.areturn, 1) := by decide +kernel
theorem dX11_doingOf_0 : decode cX11_doingOf 0 = .ok (.iload_n 1, 1) := by decide +kernel
theorem dX11_doingOf_1 : decode cX11_doingOf 1 = .ok (.ifCond .ne 8, 3) := by decide +kernel
theorem dX11_doingOf_4 : decode cX11_doingOf 4 = .ok (.ldc 247, 2) := by decide +kernel
theorem dX11_doingOf_6 : decode cX11_doingOf 6 = .ok (.goto 15, 3) := by decide +kernel
theorem dX11_doingOf_9 : decode cX11_doingOf 9 = .ok (.iload_n 1, 1) := by decide +kernel
theorem dX11_doingOf_10 : decode cX11_doingOf 10 = .ok (.iconst 1, 1) := by decide +kernel
theorem dX11_doingOf_11 : decode cX11_doingOf 11 = .ok (.if_icmp .ne 8, 3) := by decide +kernel
theorem dX11_doingOf_14 : decode cX11_doingOf 14 = .ok (.ldc 249, 2) := by decide +kernel
theorem dX11_doingOf_16 : decode cX11_doingOf 16 = .ok (.goto 5, 3) := by decide +kernel
theorem dX11_doingOf_19 : decode cX11_doingOf 19 = .ok (.ldc 251, 2) := by decide +kernel
theorem dX11_doingOf_21 : decode cX11_doingOf 21 = .ok (.areturn, 1) := by decide +kernel
set_option maxRecDepth 20000 in
theorem ggX11_rule_X11_word : GoodIn wsX11_rule wsX11_word := goodIn_r _ [9, 10, 1, 11, 12, 13, 8, 14, 15, 16, 17, 18, 19, 20, 21, 22, 23, 24, 2, 97, 98, 99, 100, 101, 102, 103, 104, 105, 106, 107, 108, 109, 110, 111, 112, 113, 114, 115, 116, 117, 118, 119, 120, 121, 122, 123, 124, 125, 126, 127, 128, 129, 130, 131, 132, 133, 134, 135, 136, 137, 138, 139, 140, 141, 142, 143, 144, 145, 146, 147, 148, 149, 150, 151, 152, 153, 154, 155, 156] (by decide +kernel) (by decide +kernel)
set_option maxRecDepth 20000 in
theorem gX11_rule_X11_word : GoodIn wsX11_rule (wsV RX11 253 RX11 yX11_word wsX11_word) := goodIn_app (goodIn_of _ (by decide +kernel)) ggX11_rule_X11_word
set_option maxRecDepth 20000 in
theorem ggX11_rule_X11_fails : GoodIn wsX11_rule wsX11_fails := goodIn_r _ [24, 2, 97, 98, 99, 100, 101, 102, 103, 104, 105, 106, 107, 108, 109, 110, 111, 112, 113, 114, 115, 116, 117, 118, 119, 120, 121, 122, 123, 124, 125, 126, 127, 128, 129, 130, 131, 132, 133, 134, 135, 136, 137, 138, 139, 140, 141, 142, 143, 144, 145, 146, 147, 148, 149, 150, 151, 152, 153, 154, 155, 156] (by decide +kernel) (by decide +kernel)
set_option maxRecDepth 20000 in
theorem gX11_rule_X11_fails : GoodIn wsX11_rule (wsV RX11 220 RX11 yX11_fails wsX11_fails) := goodIn_app (goodIn_of _ (by decide +kernel)) ggX11_rule_X11_fails
set_option maxRecDepth 20000 in
theorem ggX11_rule_X11_doingOf : GoodIn wsX11_rule wsX11_doingOf := goodIn_r _ [28] (by decide +kernel) (by decide +kernel)
set_option maxRecDepth 20000 in
theorem gX11_rule_X11_doingOf : GoodIn wsX11_rule (wsV RX11 256 RX11 yX11_doingOf wsX11_doingOf) := goodIn_app (goodIn_of _ (by decide +kernel)) ggX11_rule_X11_doingOf
set_option maxRecDepth 20000 in
theorem ggX11_rule_X11_is : GoodIn wsX11_rule wsX11_is := goodIn_r _ [32, 10, 1, 16, 33, 34, 35, 36, 37, 38, 39, 40, 41, 42, 43, 44, 45, 46, 47, 48, 49, 50, 51, 52, 53, 54, 55, 56, 57, 58, 59, 60, 61, 62, 63, 64, 65, 66, 67, 68, 69, 70, 71, 72, 73, 74, 75, 76, 77, 78, 79, 80, 81, 97, 98, 99, 100, 101, 102, 103, 104, 105, 106, 107, 108, 109, 110, 111, 112, 113, 114, 115, 116, 117, 118, 119, 120, 121, 122, 123, 124, 125, 126, 127, 128, 129, 130, 131, 132, 133, 134, 135, 136, 137, 138, 139, 140, 141, 142, 143, 144, 145, 146, 147, 148, 149, 150, 151, 152, 153, 154, 155, 156] (by decide +kernel) (by decide +kernel)
set_option maxRecDepth 20000 in
theorem gX11_rule_X11_is : GoodIn wsX11_rule (wsV RX11 260 RX11 yX11_is wsX11_is) := goodIn_app (goodIn_of _ (by decide +kernel)) ggX11_rule_X11_is
set_option maxRecDepth 20000 in
theorem ggX11_rule_X11_isEnd : GoodIn wsX11_rule wsX11_isEnd := goodIn_r _ [14, 10, 15, 16, 1, 97, 98, 99, 100, 101, 102, 103, 104, 105, 106, 107, 108, 109, 110, 111, 112, 113, 114, 115, 116, 117, 118, 119, 120, 121, 122, 123, 124, 125, 126, 127, 128, 129, 130, 131, 132, 133, 134, 135, 136, 137, 138, 139, 140, 141, 142, 143, 144, 145, 146, 147, 148, 149, 150, 151, 152, 153, 154, 155, 156] (by decide +kernel) (by decide +kernel)
set_option maxRecDepth 20000 in
theorem gX11_rule_X11_isEnd : GoodIn wsX11_rule (wsV RX11 213 RX11 yX11_isEnd wsX11_isEnd) := goodIn_app (goodIn_of _ (by decide +kernel)) ggX11_rule_X11_isEnd
set_option maxRecDepth 20000 in
theorem ggX11_rule_X11_isLetter : GoodIn wsX11_rule wsX11_isLetter := goodIn_r _ [20, 10, 15, 16, 97, 98, 99, 100, 101, 102, 103, 104, 105, 106, 107, 108, 109, 110, 111, 112, 113, 114, 115, 116, 117, 118, 119, 120, 121, 122, 123, 124, 125, 126, 127, 128, 129, 130, 131, 132, 133, 134, 135, 136, 137, 138, 139, 140, 141, 142, 143, 144, 145, 146, 147, 148, 149, 150, 151, 152, 153, 154, 155, 156] (by decide +kernel) (by decide +kernel)
set_option maxRecDepth 20000 in
theorem gX11_rule_X11_isLetter : GoodIn wsX11_rule (wsV RX11 217 RX11 yX11_isLetter wsX11_isLetter) := goodIn_app (goodIn_of _ (by decide +kernel)) ggX11_rule_X11_isLetter
set_option maxRecDepth 20000 in
theorem ggX11_rule_X11_cond : GoodIn wsX11_rule wsX11_cond := goodIn_r _ [85, 4, 1, 2, 86, 87, 16, 10, 88, 5, 6, 7, 8, 9, 11, 12, 13, 14, 15, 17, 18, 19, 20, 21, 22, 23, 24, 89, 90, 91, 92, 29, 30, 31, 32, 33, 34, 35, 36, 37, 38, 39, 40, 41, 42, 43, 44, 45, 46, 47, 48, 49, 50, 51, 52, 53, 54, 55, 56, 57, 58, 59, 60, 61, 62, 63, 64, 65, 66, 67, 68, 69, 70, 71, 72, 73, 74, 75, 76, 77, 78, 79, 80, 81, 93, 94, 95, 96, 97, 98, 99, 100, 101, 102, 103, 104, 105, 106, 107, 108, 109, 110, 111, 112, 113, 114, 115, 116, 117, 118, 119, 120, 121, 122, 123, 124, 125, 126, 127, 128, 129, 130, 131, 132, 133, 134, 135, 136, 137, 138, 139, 140, 141, 142, 143, 144, 145, 146, 147, 148, 149, 150, 151, 152, 153, 154, 155, 156] (by decide +kernel) (by decide +kernel)
set_option maxRecDepth 20000 in
theorem gX11_rule_X11_cond : GoodIn wsX11_rule (wsV RX11 266 RX11 yX11_cond wsX11_cond) := goodIn_app (goodIn_of _ (by decide +kernel)) ggX11_rule_X11_cond
theorem dX11_rule_0 : decode cX11_rule 0 = .ok (.aload_n 0, 1) := by decide +kernel
theorem dX11_rule_1 : decode cX11_rule 1 = .ok (.invokevirtual 253, 3) := by decide +kernel
theorem dX11_rule_4 : decode cX11_rule 4 = .ok (.iload_n 2, 1) := by decide +kernel
theorem dX11_rule_5 : decode cX11_rule 5 = .ok (.bipush 12, 2) := by decide +kernel
theorem dX11_rule_7 : decode cX11_rule 7 = .ok (.if_icmp .ne 12, 3) := by decide +kernel
theorem dX11_rule_10 : decode cX11_rule 10 = .ok (.aload_n 0, 1) := by decide +kernel
theorem dX11_rule_11 : decode cX11_rule 11 = .ok (.iconst 2, 1) := by decide +kernel
theorem dX11_rule_12 : decode cX11_rule 12 = .ok (.aload_n 0, 1) := by decide +kernel
theorem dX11_rule_13 : decode cX11_rule 13 = .ok (.getfield 210, 3) := by decide +kernel
theorem dX11_rule_16 : decode cX11_rule 16 = .ok (.invokevirtual 220, 3) := by decide +kernel
theorem dX11_rule_19 : decode cX11_rule 19 = .ok (.aload_n 0, 1) := by decide +kernel
theorem dX11_rule_20 : decode cX11_rule 20 = .ok (.getfield 204, 3) := by decide +kernel
theorem dX11_rule_23 : decode cX11_rule 23 = .ok (.ifCond .le 4, 3) := by decide +kernel
theorem dX11_rule_26 : decode cX11_rule 26 = .ok (.return_, 1) := by decide +kernel
theorem dX11_rule_27 : decode cX11_rule 27 = .ok (.iconst 0, 1) := by decide +kernel
theorem dX11_rule_28 : decode cX11_rule 28 = .ok (.istore_n 3, 1) := by decide +kernel
theorem dX11_rule_29 : decode cX11_rule 29 = .ok (.iload_n 3, 1) := by decide +kernel
theorem dX11_rule_30 : decode cX11_rule 30 = .ok (.iconst 3, 1) := by decide +kernel
theorem dX11_rule_31 : decode cX11_rule 31 = .ok (.if_icmp .ge 21, 3) := by decide +kernel
theorem dX11_rule_34 : decode cX11_rule 34 = .ok (.aload_n 0, 1) := by decide +kernel
theorem dX11_rule_35 : decode cX11_rule 35 = .ok (.aload_n 0, 1) := by decide +kernel
theorem dX11_rule_36 : decode cX11_rule 36 = .ok (.iload_n 3, 1) := by decide +kernel
theorem dX11_rule_37 : decode cX11_rule 37 = .ok (.invokevirtual 256, 3) := by decide +kernel
theorem dX11_rule_40 : decode cX11_rule 40 = .ok (.invokevirtual 260, 3) := by decide +kernel
theorem dX11_rule_43 : decode cX11_rule 43 = .ok (.ifCond .ne 9, 3) := by decide +kernel
theorem dX11_rule_46 : decode cX11_rule 46 = .ok (.iinc 3 1, 3) := by decide +kernel
theorem dX11_rule_49 : decode cX11_rule 49 = .ok (.goto (-20), 3) := by decide +kernel
theorem dX11_rule_52 : decode cX11_rule 52 = .ok (.iload_n 3, 1) := by decide +kernel
theorem dX11_rule_53 : decode cX11_rule 53 = .ok (.iconst 3, 1) := by decide +kernel
theorem dX11_rule_54 : decode cX11_rule 54 = .ok (.if_icmp .ne 13, 3) := by decide +kernel
theorem dX11_rule_57 : decode cX11_rule 57 = .ok (.aload_n 0, 1) := by decide +kernel
theorem dX11_rule_58 : decode cX11_rule 58 = .ok (.iconst 0, 1) := by decide +kernel
theorem dX11_rule_59 : decode cX11_rule 59 = .ok (.aload_n 0, 1) := by decide +kernel
theorem dX11_rule_60 : decode cX11_rule 60 = .ok (.getfield 210, 3) := by decide +kernel
theorem dX11_rule_63 : decode cX11_rule 63 = .ok (.invokevirtual 220, 3) := by decide +kernel
theorem dX11_rule_66 : decode cX11_rule 66 = .ok (.return_, 1) := by decide +kernel
theorem dX11_rule_67 : decode cX11_rule 67 = .ok (.aload_n 0, 1) := by decide +kernel
theorem dX11_rule_68 : decode cX11_rule 68 = .ok (.getfield 77, 3) := by decide +kernel
theorem dX11_rule_71 : decode cX11_rule 71 = .ok (.iload_n 1, 1) := by decide +kernel
theorem dX11_rule_72 : decode cX11_rule 72 = .ok (.iload_n 3, 1) := by decide +kernel
theorem dX11_rule_73 : decode cX11_rule 73 = .ok (.iastore, 1) := by decide +kernel
theorem dX11_rule_74 : decode cX11_rule 74 = .ok (.aload_n 0, 1) := by decide +kernel
theorem dX11_rule_75 : decode cX11_rule 75 = .ok (.getfield 80, 3) := by decide +kernel
theorem dX11_rule_78 : decode cX11_rule 78 = .ok (.iload_n 1, 1) := by decide +kernel
theorem dX11_rule_79 : decode cX11_rule 79 = .ok (.iconst 0, 1) := by decide +kernel
theorem dX11_rule_80 : decode cX11_rule 80 = .ok (.iastore, 1) := by decide +kernel
theorem dX11_rule_81 : decode cX11_rule 81 = .ok (.aload_n 0, 1) := by decide +kernel
theorem dX11_rule_82 : decode cX11_rule 82 = .ok (.invokevirtual 213, 3) := by decide +kernel
theorem dX11_rule_85 : decode cX11_rule 85 = .ok (.ifCond .ne 10, 3) := by decide +kernel
theorem dX11_rule_88 : decode cX11_rule 88 = .ok (.aload_n 0, 1) := by decide +kernel
theorem dX11_rule_89 : decode cX11_rule 89 = .ok (.invokevirtual 217, 3) := by decide +kernel
theorem dX11_rule_92 : decode cX11_rule 92 = .ok (.ifCond .ne 4, 3) := by decide +kernel
theorem dX11_rule_95 : decode cX11_rule 95 = .ok (.return_, 1) := by decide +kernel
theorem dX11_rule_96 : decode cX11_rule 96 = .ok (.aload_n 0, 1) := by decide +kernel
theorem dX11_rule_97 : decode cX11_rule 97 = .ok (.invokevirtual 253, 3) := by decide +kernel
theorem dX11_rule_100 : decode cX11_rule 100 = .ok (.aload_n 0, 1) := by decide +kernel
theorem dX11_rule_101 : decode cX11_rule 101 = .ok (.ldc_w 264, 3) := by decide +kernel
theorem dX11_rule_104 : decode cX11_rule 104 = .ok (.invokevirtual 260, 3) := by decide +kernel
theorem dX11_rule_107 : decode cX11_rule 107 = .ok (.ifCond .ne 12, 3) := by decide +kernel
theorem dX11_rule_110 : decode cX11_rule 110 = .ok (.aload_n 0, 1) := by decide +kernel
theorem dX11_rule_111 : decode cX11_rule 111 = .ok (.iconst 0, 1) := by decide +kernel
theorem dX11_rule_112 : decode cX11_rule 112 = .ok (.aload_n 0, 1) := by decide +kernel
theorem dX11_rule_113 : decode cX11_rule 113 = .ok (.getfield 210, 3) := by decide +kernel
theorem dX11_rule_116 : decode cX11_rule 116 = .ok (.invokevirtual 220, 3) := by decide +kernel
theorem dX11_rule_119 : decode cX11_rule 119 = .ok (.aload_n 0, 1) := by decide +kernel
theorem dX11_rule_120 : decode cX11_rule 120 = .ok (.getfield 204, 3) := by decide +kernel
theorem dX11_rule_123 : decode cX11_rule 123 = .ok (.ifCond .ne 7, 3) := by decide +kernel
theorem dX11_rule_126 : decode cX11_rule 126 = .ok (.iconst 1, 1) := by decide +kernel
theorem dX11_rule_127 : decode cX11_rule 127 = .ok (.goto 4, 3) := by decide +kernel
theorem dX11_rule_130 : decode cX11_rule 130 = .ok (.iconst 0, 1) := by decide +kernel
theorem dX11_rule_131 : decode cX11_rule 131 = .ok (.istore 4, 2) := by decide +kernel
theorem dX11_rule_133 : decode cX11_rule 133 = .ok (.iload 4, 2) := by decide +kernel
theorem dX11_rule_135 : decode cX11_rule 135 = .ok (.ifCond .eq 66, 3) := by decide +kernel
theorem dX11_rule_138 : decode cX11_rule 138 = .ok (.aload_n 0, 1) := by decide +kernel
theorem dX11_rule_139 : decode cX11_rule 139 = .ok (.iload_n 1, 1) := by decide +kernel
theorem dX11_rule_140 : decode cX11_rule 140 = .ok (.invokevirtual 266, 3) := by decide +kernel
theorem dX11_rule_143 : decode cX11_rule 143 = .ok (.aload_n 0, 1) := by decide +kernel
theorem dX11_rule_144 : decode cX11_rule 144 = .ok (.getfield 204, 3) := by decide +kernel
theorem dX11_rule_147 : decode cX11_rule 147 = .ok (.ifCond .le 4, 3) := by decide +kernel
theorem dX11_rule_150 : decode cX11_rule 150 = .ok (.return_, 1) := by decide +kernel
theorem dX11_rule_151 : decode cX11_rule 151 = .ok (.aload_n 0, 1) := by decide +kernel
theorem dX11_rule_152 : decode cX11_rule 152 = .ok (.invokevirtual 213, 3) := by decide +kernel
theorem dX11_rule_155 : decode cX11_rule 155 = .ok (.ifCond .ne 14, 3) := by decide +kernel
theorem dX11_rule_158 : decode cX11_rule 158 = .ok (.aload_n 0, 1) := by decide +kernel
theorem dX11_rule_159 : decode cX11_rule 159 = .ok (.invokevirtual 217, 3) := by decide +kernel
theorem dX11_rule_162 : decode cX11_rule 162 = .ok (.ifCond .eq 7, 3) := by decide +kernel
theorem dX11_rule_165 : decode cX11_rule 165 = .ok (.iconst 1, 1) := by decide +kernel
theorem dX11_rule_166 : decode cX11_rule 166 = .ok (.goto 4, 3) := by decide +kernel
theorem dX11_rule_169 : decode cX11_rule 169 = .ok (.iconst 0, 1) := by decide +kernel
theorem dX11_rule_170 : decode cX11_rule 170 = .ok (.istore 4, 2) := by decide +kernel
theorem dX11_rule_172 : decode cX11_rule 172 = .ok (.iload 4, 2) := by decide +kernel
theorem dX11_rule_174 : decode cX11_rule 174 = .ok (.ifCond .eq (-41), 3) := by decide +kernel
theorem dX11_rule_177 : decode cX11_rule 177 = .ok (.aload_n 0, 1) := by decide +kernel
theorem dX11_rule_178 : decode cX11_rule 178 = .ok (.invokevirtual 253, 3) := by decide +kernel
theorem dX11_rule_181 : decode cX11_rule 181 = .ok (.aload_n 0, 1) := by decide +kernel
theorem dX11_rule_182 : decode cX11_rule 182 = .ok (.ldc_w 269, 3) := by decide +kernel
theorem dX11_rule_185 : decode cX11_rule 185 = .ok (.invokevirtual 260, 3) := by decide +kernel
theorem dX11_rule_188 : decode cX11_rule 188 = .ok (.ifCond .ne (-55), 3) := by decide +kernel
theorem dX11_rule_191 : decode cX11_rule 191 = .ok (.aload_n 0, 1) := by decide +kernel
theorem dX11_rule_192 : decode cX11_rule 192 = .ok (.iconst 0, 1) := by decide +kernel
theorem dX11_rule_193 : decode cX11_rule 193 = .ok (.aload_n 0, 1) := by decide +kernel
theorem dX11_rule_194 : decode cX11_rule 194 = .ok (.getfield 210, 3) := by decide +kernel
theorem dX11_rule_197 : decode cX11_rule 197 = .ok (.invokevirtual 220, 3) := by decide +kernel
theorem dX11_rule_200 : decode cX11_rule 200 = .ok (.return_, 1) := by decide +kernel
theorem dX11_rule_201 : decode cX11_rule 201 = .ok (.return_, 1) := by decide +kernel
set_option maxRecDepth 20000 in
theorem ggX11_cond_X11_word : GoodIn wsX11_cond wsX11_word := goodIn_r _ [13, 7, 2, 14, 15, 16, 12, 17, 18, 6, 19, 20, 21, 22, 23, 24, 25, 26, 3, 88, 89, 90, 91, 92, 93, 94, 95, 96, 97, 98, 99, 100, 101, 102, 103, 104, 105, 106, 107, 108, 109, 110, 111, 112, 113, 114, 115, 116, 117, 118, 119, 120, 121, 122, 123, 124, 125, 126, 127, 128, 129, 130, 131, 132, 133, 134, 135, 136, 137, 138, 139, 140, 141, 142, 143, 144, 145, 146, 147] (by decide +kernel) (by decide +kernel)
set_option maxRecDepth 20000 in
theorem gX11_cond_X11_word : GoodIn wsX11_cond (wsV RX11 253 RX11 yX11_word wsX11_word) := goodIn_app (goodIn_of _ (by decide +kernel)) ggX11_cond_X11_word
set_option maxRecDepth 20000 in
theorem ggX11_cond_X11_fails : GoodIn wsX11_cond wsX11_fails := goodIn_r _ [26, 3, 88, 89, 90, 91, 92, 93, 94, 95, 96, 97, 98, 99, 100, 101, 102, 103, 104, 105, 106, 107, 108, 109, 110, 111, 112, 113, 114, 115, 116, 117, 118, 119, 120, 121, 122, 123, 124, 125, 126, 127, 128, 129, 130, 131, 132, 133, 134, 135, 136, 137, 138, 139, 140, 141, 142, 143, 144, 145, 146, 147] (by decide +kernel) (by decide +kernel)
set_option maxRecDepth 20000 in
theorem gX11_cond_X11_fails : GoodIn wsX11_cond (wsV RX11 220 RX11 yX11_fails wsX11_fails) := goodIn_app (goodIn_of _ (by decide +kernel)) ggX11_cond_X11_fails
set_option maxRecDepth 20000 in
theorem ggX11_cond_X11_nameOf : GoodIn wsX11_cond wsX11_nameOf := goodIn_r _ [30] (by decide +kernel) (by decide +kernel)
set_option maxRecDepth 20000 in
theorem gX11_cond_X11_nameOf : GoodIn wsX11_cond (wsV RX11 271 RX11 yX11_nameOf wsX11_nameOf) := goodIn_app (goodIn_of _ (by decide +kernel)) ggX11_cond_X11_nameOf
set_option maxRecDepth 20000 in
theorem ggX11_cond_X11_is : GoodIn wsX11_cond wsX11_is := goodIn_r _ [34, 7, 2, 6, 35, 36, 37, 38, 39, 40, 41, 42, 43, 44, 45, 46, 47, 48, 49, 50, 51, 52, 53, 54, 55, 56, 57, 58, 59, 60, 61, 62, 63, 64, 65, 66, 67, 68, 69, 70, 71, 72, 73, 74, 75, 76, 77, 78, 79, 80, 81, 82, 83, 88, 89, 90, 91, 92, 93, 94, 95, 96, 97, 98, 99, 100, 101, 102, 103, 104, 105, 106, 107, 108, 109, 110, 111, 112, 113, 114, 115, 116, 117, 118, 119, 120, 121, 122, 123, 124, 125, 126, 127, 128, 129, 130, 131, 132, 133, 134, 135, 136, 137, 138, 139, 140, 141, 142, 143, 144, 145, 146, 147] (by decide +kernel) (by decide +kernel)
set_option maxRecDepth 20000 in
theorem gX11_cond_X11_is : GoodIn wsX11_cond (wsV RX11 260 RX11 yX11_is wsX11_is) := goodIn_app (goodIn_of _ (by decide +kernel)) ggX11_cond_X11_is
set_option maxRecDepth 20000 in
theorem ggX11_cond_X11_isEnd : GoodIn wsX11_cond wsX11_isEnd := goodIn_r _ [17, 7, 18, 6, 2, 88, 89, 90, 91, 92, 93, 94, 95, 96, 97, 98, 99, 100, 101, 102, 103, 104, 105, 106, 107, 108, 109, 110, 111, 112, 113, 114, 115, 116, 117, 118, 119, 120, 121, 122, 123, 124, 125, 126, 127, 128, 129, 130, 131, 132, 133, 134, 135, 136, 137, 138, 139, 140, 141, 142, 143, 144, 145, 146, 147] (by decide +kernel) (by decide +kernel)
set_option maxRecDepth 20000 in
theorem gX11_cond_X11_isEnd : GoodIn wsX11_cond (wsV RX11 213 RX11 yX11_isEnd wsX11_isEnd) := goodIn_app (goodIn_of _ (by decide +kernel)) ggX11_cond_X11_isEnd
set_option maxRecDepth 20000 in
theorem ggX11_cond_X11_number : GoodIn wsX11_cond wsX11_number := goodIn_r _ [87, 7, 18, 6, 2, 14, 15, 16, 12, 17, 23, 24, 25, 26, 3, 88, 89, 90, 91, 92, 93, 94, 95, 96, 97, 98, 99, 100, 101, 102, 103, 104, 105, 106, 107, 108, 109, 110, 111, 112, 113, 114, 115, 116, 117, 118, 119, 120, 121, 122, 123, 124, 125, 126, 127, 128, 129, 130, 131, 132, 133, 134, 135, 136, 137, 138, 139, 140, 141, 142, 143, 144, 145, 146, 147] (by decide +kernel) (by decide +kernel)
set_option maxRecDepth 20000 in
theorem gX11_cond_X11_number : GoodIn wsX11_cond (wsV RX11 274 RX11 yX11_number wsX11_number) := goodIn_app (goodIn_of _ (by decide +kernel)) ggX11_cond_X11_number
theorem dX11_cond_0 : decode cX11_cond 0 = .ok (.aload_n 0, 1) := by decide +kernel
theorem dX11_cond_1 : decode cX11_cond 1 = .ok (.invokevirtual 253, 3) := by decide +kernel
theorem dX11_cond_4 : decode cX11_cond 4 = .ok (.aload_n 0, 1) := by decide +kernel
theorem dX11_cond_5 : decode cX11_cond 5 = .ok (.getfield 80, 3) := by decide +kernel
theorem dX11_cond_8 : decode cX11_cond 8 = .ok (.iload_n 1, 1) := by decide +kernel
theorem dX11_cond_9 : decode cX11_cond 9 = .ok (.iaload, 1) := by decide +kernel
theorem dX11_cond_10 : decode cX11_cond 10 = .ok (.bipush 6, 2) := by decide +kernel
theorem dX11_cond_12 : decode cX11_cond 12 = .ok (.if_icmp .ne 12, 3) := by decide +kernel
theorem dX11_cond_15 : decode cX11_cond 15 = .ok (.aload_n 0, 1) := by decide +kernel
theorem dX11_cond_16 : decode cX11_cond 16 = .ok (.iconst 2, 1) := by decide +kernel
theorem dX11_cond_17 : decode cX11_cond 17 = .ok (.aload_n 0, 1) := by decide +kernel
theorem dX11_cond_18 : decode cX11_cond 18 = .ok (.getfield 210, 3) := by decide +kernel
theorem dX11_cond_21 : decode cX11_cond 21 = .ok (.invokevirtual 220, 3) := by decide +kernel
theorem dX11_cond_24 : decode cX11_cond 24 = .ok (.aload_n 0, 1) := by decide +kernel
theorem dX11_cond_25 : decode cX11_cond 25 = .ok (.getfield 204, 3) := by decide +kernel
theorem dX11_cond_28 : decode cX11_cond 28 = .ok (.ifCond .le 4, 3) := by decide +kernel
theorem dX11_cond_31 : decode cX11_cond 31 = .ok (.return_, 1) := by decide +kernel
theorem dX11_cond_32 : decode cX11_cond 32 = .ok (.iconst 0, 1) := by decide +kernel
theorem dX11_cond_33 : decode cX11_cond 33 = .ok (.istore_n 2, 1) := by decide +kernel
theorem dX11_cond_34 : decode cX11_cond 34 = .ok (.iload_n 2, 1) := by decide +kernel
theorem dX11_cond_35 : decode cX11_cond 35 = .ok (.bipush 8, 2) := by decide +kernel
theorem dX11_cond_37 : decode cX11_cond 37 = .ok (.if_icmp .ge 21, 3) := by decide +kernel
theorem dX11_cond_40 : decode cX11_cond 40 = .ok (.aload_n 0, 1) := by decide +kernel
theorem dX11_cond_41 : decode cX11_cond 41 = .ok (.aload_n 0, 1) := by decide +kernel
theorem dX11_cond_42 : decode cX11_cond 42 = .ok (.iload_n 2, 1) := by decide +kernel
theorem dX11_cond_43 : decode cX11_cond 43 = .ok (.invokevirtual 271, 3) := by decide +kernel
theorem dX11_cond_46 : decode cX11_cond 46 = .ok (.invokevirtual 260, 3) := by decide +kernel
theorem dX11_cond_49 : decode cX11_cond 49 = .ok (.ifCond .ne 9, 3) := by decide +kernel
theorem dX11_cond_52 : decode cX11_cond 52 = .ok (.iinc 2 1, 3) := by decide +kernel
theorem dX11_cond_55 : decode cX11_cond 55 = .ok (.goto (-21), 3) := by decide +kernel
theorem dX11_cond_58 : decode cX11_cond 58 = .ok (.iload_n 2, 1) := by decide +kernel
theorem dX11_cond_59 : decode cX11_cond 59 = .ok (.bipush 8, 2) := by decide +kernel
theorem dX11_cond_61 : decode cX11_cond 61 = .ok (.if_icmp .ne 13, 3) := by decide +kernel
theorem dX11_cond_64 : decode cX11_cond 64 = .ok (.aload_n 0, 1) := by decide +kernel
theorem dX11_cond_65 : decode cX11_cond 65 = .ok (.iconst 0, 1) := by decide +kernel
theorem dX11_cond_66 : decode cX11_cond 66 = .ok (.aload_n 0, 1) := by decide +kernel
theorem dX11_cond_67 : decode cX11_cond 67 = .ok (.getfield 210, 3) := by decide +kernel
theorem dX11_cond_70 : decode cX11_cond 70 = .ok (.invokevirtual 220, 3) := by decide +kernel
theorem dX11_cond_73 : decode cX11_cond 73 = .ok (.return_, 1) := by decide +kernel
theorem dX11_cond_74 : decode cX11_cond 74 = .ok (.bipush 6, 2) := by decide +kernel
theorem dX11_cond_76 : decode cX11_cond 76 = .ok (.iload_n 1, 1) := by decide +kernel
theorem dX11_cond_77 : decode cX11_cond 77 = .ok (.imul, 1) := by decide +kernel
theorem dX11_cond_78 : decode cX11_cond 78 = .ok (.aload_n 0, 1) := by decide +kernel
theorem dX11_cond_79 : decode cX11_cond 79 = .ok (.getfield 80, 3) := by decide +kernel
theorem dX11_cond_82 : decode cX11_cond 82 = .ok (.iload_n 1, 1) := by decide +kernel
theorem dX11_cond_83 : decode cX11_cond 83 = .ok (.iaload, 1) := by decide +kernel
theorem dX11_cond_84 : decode cX11_cond 84 = .ok (.iadd, 1) := by decide +kernel
theorem dX11_cond_85 : decode cX11_cond 85 = .ok (.istore_n 3, 1) := by decide +kernel
theorem dX11_cond_86 : decode cX11_cond 86 = .ok (.aload_n 0, 1) := by decide +kernel
theorem dX11_cond_87 : decode cX11_cond 87 = .ok (.getfield 83, 3) := by decide +kernel
theorem dX11_cond_90 : decode cX11_cond 90 = .ok (.iload_n 3, 1) := by decide +kernel
theorem dX11_cond_91 : decode cX11_cond 91 = .ok (.iload_n 2, 1) := by decide +kernel
theorem dX11_cond_92 : decode cX11_cond 92 = .ok (.iastore, 1) := by decide +kernel
theorem dX11_cond_93 : decode cX11_cond 93 = .ok (.aload_n 0, 1) := by decide +kernel
theorem dX11_cond_94 : decode cX11_cond 94 = .ok (.getfield 86, 3) := by decide +kernel
theorem dX11_cond_97 : decode cX11_cond 97 = .ok (.iload_n 3, 1) := by decide +kernel
theorem dX11_cond_98 : decode cX11_cond 98 = .ok (.aload_n 0, 1) := by decide +kernel
theorem dX11_cond_99 : decode cX11_cond 99 = .ok (.invokevirtual 213, 3) := by decide +kernel
theorem dX11_cond_102 : decode cX11_cond 102 = .ok (.ifCond .eq 7, 3) := by decide +kernel
theorem dX11_cond_105 : decode cX11_cond 105 = .ok (.iconst 0, 1) := by decide +kernel
theorem dX11_cond_106 : decode cX11_cond 106 = .ok (.goto 12, 3) := by decide +kernel
theorem dX11_cond_109 : decode cX11_cond 109 = .ok (.aload_n 0, 1) := by decide +kernel
theorem dX11_cond_110 : decode cX11_cond 110 = .ok (.getfield 70, 3) := by decide +kernel
theorem dX11_cond_113 : decode cX11_cond 113 = .ok (.aload_n 0, 1) := by decide +kernel
theorem dX11_cond_114 : decode cX11_cond 114 = .ok (.getfield 207, 3) := by decide +kernel
theorem dX11_cond_117 : decode cX11_cond 117 = .ok (.baload, 1) := by decide +kernel
theorem dX11_cond_118 : decode cX11_cond 118 = .ok (.iastore, 1) := by decide +kernel
theorem dX11_cond_119 : decode cX11_cond 119 = .ok (.aload_n 0, 1) := by decide +kernel
theorem dX11_cond_120 : decode cX11_cond 120 = .ok (.getfield 86, 3) := by decide +kernel
theorem dX11_cond_123 : decode cX11_cond 123 = .ok (.iload_n 3, 1) := by decide +kernel
theorem dX11_cond_124 : decode cX11_cond 124 = .ok (.iaload, 1) := by decide +kernel
theorem dX11_cond_125 : decode cX11_cond 125 = .ok (.bipush 60, 2) := by decide +kernel
theorem dX11_cond_127 : decode cX11_cond 127 = .ok (.if_icmp .eq 35, 3) := by decide +kernel
theorem dX11_cond_130 : decode cX11_cond 130 = .ok (.aload_n 0, 1) := by decide +kernel
theorem dX11_cond_131 : decode cX11_cond 131 = .ok (.getfield 86, 3) := by decide +kernel
theorem dX11_cond_134 : decode cX11_cond 134 = .ok (.iload_n 3, 1) := by decide +kernel
theorem dX11_cond_135 : decode cX11_cond 135 = .ok (.iaload, 1) := by decide +kernel
theorem dX11_cond_136 : decode cX11_cond 136 = .ok (.bipush 62, 2) := by decide +kernel
theorem dX11_cond_138 : decode cX11_cond 138 = .ok (.if_icmp .eq 24, 3) := by decide +kernel
theorem dX11_cond_141 : decode cX11_cond 141 = .ok (.aload_n 0, 1) := by decide +kernel
theorem dX11_cond_142 : decode cX11_cond 142 = .ok (.getfield 86, 3) := by decide +kernel
theorem dX11_cond_145 : decode cX11_cond 145 = .ok (.iload_n 3, 1) := by decide +kernel
theorem dX11_cond_146 : decode cX11_cond 146 = .ok (.iaload, 1) := by decide +kernel
theorem dX11_cond_147 : decode cX11_cond 147 = .ok (.bipush 61, 2) := by decide +kernel
theorem dX11_cond_149 : decode cX11_cond 149 = .ok (.if_icmp .eq 13, 3) := by decide +kernel
theorem dX11_cond_152 : decode cX11_cond 152 = .ok (.aload_n 0, 1) := by decide +kernel
theorem dX11_cond_153 : decode cX11_cond 153 = .ok (.iconst 0, 1) := by decide +kernel
theorem dX11_cond_154 : decode cX11_cond 154 = .ok (.aload_n 0, 1) := by decide +kernel
theorem dX11_cond_155 : decode cX11_cond 155 = .ok (.getfield 207, 3) := by decide +kernel
theorem dX11_cond_158 : decode cX11_cond 158 = .ok (.invokevirtual 220, 3) := by decide +kernel
theorem dX11_cond_161 : decode cX11_cond 161 = .ok (.return_, 1) := by decide +kernel
theorem dX11_cond_162 : decode cX11_cond 162 = .ok (.aload_n 0, 1) := by decide +kernel
theorem dX11_cond_163 : decode cX11_cond 163 = .ok (.dup, 1) := by decide +kernel
theorem dX11_cond_164 : decode cX11_cond 164 = .ok (.getfield 207, 3) := by decide +kernel
theorem dX11_cond_167 : decode cX11_cond 167 = .ok (.iconst 1, 1) := by decide +kernel
theorem dX11_cond_168 : decode cX11_cond 168 = .ok (.iadd, 1) := by decide +kernel
theorem dX11_cond_169 : decode cX11_cond 169 = .ok (.putfield 207, 3) := by decide +kernel
theorem dX11_cond_172 : decode cX11_cond 172 = .ok (.aload_n 0, 1) := by decide +kernel
theorem dX11_cond_173 : decode cX11_cond 173 = .ok (.getfield 89, 3) := by decide +kernel
theorem dX11_cond_176 : decode cX11_cond 176 = .ok (.iload_n 3, 1) := by decide +kernel
theorem dX11_cond_177 : decode cX11_cond 177 = .ok (.aload_n 0, 1) := by decide +kernel
theorem dX11_cond_178 : decode cX11_cond 178 = .ok (.bipush 6, 2) := by decide +kernel
theorem dX11_cond_180 : decode cX11_cond 180 = .ok (.invokevirtual 274, 3) := by decide +kernel
theorem dX11_cond_183 : decode cX11_cond 183 = .ok (.iastore, 1) := by decide +kernel
theorem dX11_cond_184 : decode cX11_cond 184 = .ok (.aload_n 0, 1) := by decide +kernel
theorem dX11_cond_185 : decode cX11_cond 185 = .ok (.getfield 80, 3) := by decide +kernel
theorem dX11_cond_188 : decode cX11_cond 188 = .ok (.iload_n 1, 1) := by decide +kernel
theorem dX11_cond_189 : decode cX11_cond 189 = .ok (.dup2, 1) := by decide +kernel
theorem dX11_cond_190 : decode cX11_cond 190 = .ok (.iaload, 1) := by decide +kernel
theorem dX11_cond_191 : decode cX11_cond 191 = .ok (.iconst 1, 1) := by decide +kernel
theorem dX11_cond_192 : decode cX11_cond 192 = .ok (.iadd, 1) := by decide +kernel
theorem dX11_cond_193 : decode cX11_cond 193 = .ok (.iastore, 1) := by decide +kernel
theorem dX11_cond_194 : decode cX11_cond 194 = .ok (.return_, 1) := by decide +kernel
set_option maxRecDepth 20000 in
theorem ggX11_text_X11_isTown : GoodIn wsX11_text wsX11_isTown := goodIn_r _ [14] (by decide +kernel) (by decide +kernel)
set_option maxRecDepth 20000 in
theorem gX11_text_X11_isTown : GoodIn wsX11_text (va_wsS RX11 174 yX11_isTown wsX11_isTown) := goodIn_app (goodIn_of _ (by decide +kernel)) ggX11_text_X11_isTown
set_option maxRecDepth 20000 in
theorem ggX11_text_X11_isEnd : GoodIn wsX11_text wsX11_isEnd := goodIn_r _ [18, 1, 4, 3, 19, 105, 106, 107, 108, 109, 110, 111, 112, 113, 114, 115, 116, 117, 118, 119, 120, 121, 122, 123, 124, 125, 126, 127, 128, 129, 130, 131, 132, 133, 134, 135, 136, 137, 138, 139, 140, 141, 142, 143, 144, 145, 146, 147, 148, 149, 150, 151, 152, 153, 154, 155, 156, 157, 158, 159, 160, 161, 162, 163, 164] (by decide +kernel) (by decide +kernel)
set_option maxRecDepth 20000 in
theorem gX11_text_X11_isEnd : GoodIn wsX11_text (wsV RX11 213 RX11 yX11_isEnd wsX11_isEnd) := goodIn_app (goodIn_of _ (by decide +kernel)) ggX11_text_X11_isEnd
set_option maxRecDepth 20000 in
theorem ggX11_text_X11_rule : GoodIn wsX11_text wsX11_rule := goodIn_r _ [23, 19, 2, 6, 7, 24, 25, 26, 13, 27, 1, 15, 16, 17, 18, 4, 3, 28, 29, 30, 31, 32, 33, 34, 35, 36, 37, 38, 39, 40, 41, 42, 43, 44, 45, 46, 47, 48, 49, 50, 51, 52, 53, 54, 55, 56, 57, 58, 59, 60, 61, 62, 63, 64, 65, 66, 67, 68, 69, 70, 71, 72, 73, 74, 75, 76, 77, 78, 79, 80, 81, 82, 83, 84, 85, 86, 87, 88, 89, 90, 91, 92, 93, 94, 95, 96, 8, 9, 10, 97, 98, 99, 100, 101, 102, 103, 104, 105, 106, 107, 108, 109, 110, 111, 112, 113, 114, 115, 116, 117, 118, 119, 120, 121, 122, 123, 124, 125, 126, 127, 128, 129, 130, 131, 132, 133, 134, 135, 136, 137, 138, 139, 140, 141, 142, 143, 144, 145, 146, 147, 148, 149, 150, 151, 152, 153, 154, 155, 156, 157, 158, 159, 160, 161, 162, 163, 164] (by decide +kernel) (by decide +kernel)
set_option maxRecDepth 20000 in
theorem gX11_text_X11_rule : GoodIn wsX11_text (wsV RX11 277 RX11 yX11_rule wsX11_rule) := goodIn_app (goodIn_of _ (by decide +kernel)) ggX11_text_X11_rule
set_option maxRecDepth 20000 in
theorem ggX11_text_X11_fails : GoodIn wsX11_text wsX11_fails := goodIn_r _ [35, 2, 105, 106, 107, 108, 109, 110, 111, 112, 113, 114, 115, 116, 117, 118, 119, 120, 121, 122, 123, 124, 125, 126, 127, 128, 129, 130, 131, 132, 133, 134, 135, 136, 137, 138, 139, 140, 141, 142, 143, 144, 145, 146, 147, 148, 149, 150, 151, 152, 153, 154, 155, 156, 157, 158, 159, 160, 161, 162, 163, 164] (by decide +kernel) (by decide +kernel)
set_option maxRecDepth 20000 in
theorem gX11_text_X11_fails : GoodIn wsX11_text (wsV RX11 220 RX11 yX11_fails wsX11_fails) := goodIn_app (goodIn_of _ (by decide +kernel)) ggX11_text_X11_fails
theorem dX11_text_0 : decode cX11_text 0 = .ok (.iload_n 1, 1) := by decide +kernel
theorem dX11_text_1 : decode cX11_text 1 = .ok (.invokestatic 174, 3) := by decide +kernel
theorem dX11_text_4 : decode cX11_text 4 = .ok (.ifCond .ne 5, 3) := by decide +kernel
theorem dX11_text_7 : decode cX11_text 7 = .ok (.iconst (-1), 1) := by decide +kernel
theorem dX11_text_8 : decode cX11_text 8 = .ok (.ireturn, 1) := by decide +kernel
theorem dX11_text_9 : decode cX11_text 9 = .ok (.aload_n 0, 1) := by decide +kernel
theorem dX11_text_10 : decode cX11_text 10 = .ok (.iconst 0, 1) := by decide +kernel
theorem dX11_text_11 : decode cX11_text 11 = .ok (.putfield 207, 3) := by decide +kernel
theorem dX11_text_14 : decode cX11_text 14 = .ok (.aload_n 0, 1) := by decide +kernel
theorem dX11_text_15 : decode cX11_text 15 = .ok (.iconst 0, 1) := by decide +kernel
theorem dX11_text_16 : decode cX11_text 16 = .ok (.putfield 204, 3) := by decide +kernel
theorem dX11_text_19 : decode cX11_text 19 = .ok (.iconst 0, 1) := by decide +kernel
theorem dX11_text_20 : decode cX11_text 20 = .ok (.istore_n 2, 1) := by decide +kernel
theorem dX11_text_21 : decode cX11_text 21 = .ok (.aload_n 0, 1) := by decide +kernel
theorem dX11_text_22 : decode cX11_text 22 = .ok (.invokevirtual 213, 3) := by decide +kernel
theorem dX11_text_25 : decode cX11_text 25 = .ok (.ifCond .ne 7, 3) := by decide +kernel
theorem dX11_text_28 : decode cX11_text 28 = .ok (.iconst 1, 1) := by decide +kernel
theorem dX11_text_29 : decode cX11_text 29 = .ok (.goto 4, 3) := by decide +kernel
theorem dX11_text_32 : decode cX11_text 32 = .ok (.iconst 0, 1) := by decide +kernel
theorem dX11_text_33 : decode cX11_text 33 = .ok (.istore_n 3, 1) := by decide +kernel
theorem dX11_text_34 : decode cX11_text 34 = .ok (.iload_n 3, 1) := by decide +kernel
theorem dX11_text_35 : decode cX11_text 35 = .ok (.ifCond .eq 93, 3) := by decide +kernel
theorem dX11_text_38 : decode cX11_text 38 = .ok (.aload_n 0, 1) := by decide +kernel
theorem dX11_text_39 : decode cX11_text 39 = .ok (.getfield 204, 3) := by decide +kernel
theorem dX11_text_42 : decode cX11_text 42 = .ok (.ifCond .ne 86, 3) := by decide +kernel
theorem dX11_text_45 : decode cX11_text 45 = .ok (.aload_n 0, 1) := by decide +kernel
theorem dX11_text_46 : decode cX11_text 46 = .ok (.sipush 144, 3) := by decide +kernel
theorem dX11_text_49 : decode cX11_text 49 = .ok (.iload_n 2, 1) := by decide +kernel
theorem dX11_text_50 : decode cX11_text 50 = .ok (.bipush 12, 2) := by decide +kernel
theorem dX11_text_52 : decode cX11_text 52 = .ok (.if_icmp .ge 7, 3) := by decide +kernel
theorem dX11_text_55 : decode cX11_text 55 = .ok (.iload_n 2, 1) := by decide +kernel
theorem dX11_text_56 : decode cX11_text 56 = .ok (.goto 4, 3) := by decide +kernel
theorem dX11_text_59 : decode cX11_text 59 = .ok (.iconst 0, 1) := by decide +kernel
theorem dX11_text_60 : decode cX11_text 60 = .ok (.iadd, 1) := by decide +kernel
theorem dX11_text_61 : decode cX11_text 61 = .ok (.iload_n 2, 1) := by decide +kernel
theorem dX11_text_62 : decode cX11_text 62 = .ok (.invokevirtual 277, 3) := by decide +kernel
theorem dX11_text_65 : decode cX11_text 65 = .ok (.iinc 2 1, 3) := by decide +kernel
theorem dX11_text_68 : decode cX11_text 68 = .ok (.aload_n 0, 1) := by decide +kernel
theorem dX11_text_69 : decode cX11_text 69 = .ok (.getfield 204, 3) := by decide +kernel
theorem dX11_text_72 : decode cX11_text 72 = .ok (.ifCond .ne 14, 3) := by decide +kernel
theorem dX11_text_75 : decode cX11_text 75 = .ok (.aload_n 0, 1) := by decide +kernel
theorem dX11_text_76 : decode cX11_text 76 = .ok (.invokevirtual 213, 3) := by decide +kernel
theorem dX11_text_79 : decode cX11_text 79 = .ok (.ifCond .ne 7, 3) := by decide +kernel
theorem dX11_text_82 : decode cX11_text 82 = .ok (.iconst 1, 1) := by decide +kernel
theorem dX11_text_83 : decode cX11_text 83 = .ok (.goto 4, 3) := by decide +kernel
theorem dX11_text_86 : decode cX11_text 86 = .ok (.iconst 0, 1) := by decide +kernel
theorem dX11_text_87 : decode cX11_text 87 = .ok (.istore_n 3, 1) := by decide +kernel
theorem dX11_text_88 : decode cX11_text 88 = .ok (.iload_n 3, 1) := by decide +kernel
theorem dX11_text_89 : decode cX11_text 89 = .ok (.ifCond .eq (-55), 3) := by decide +kernel
theorem dX11_text_92 : decode cX11_text 92 = .ok (.aload_n 0, 1) := by decide +kernel
theorem dX11_text_93 : decode cX11_text 93 = .ok (.getfield 70, 3) := by decide +kernel
theorem dX11_text_96 : decode cX11_text 96 = .ok (.aload_n 0, 1) := by decide +kernel
theorem dX11_text_97 : decode cX11_text 97 = .ok (.getfield 207, 3) := by decide +kernel
theorem dX11_text_100 : decode cX11_text 100 = .ok (.baload, 1) := by decide +kernel
theorem dX11_text_101 : decode cX11_text 101 = .ok (.bipush 59, 2) := by decide +kernel
theorem dX11_text_103 : decode cX11_text 103 = .ok (.if_icmp .eq 12, 3) := by decide +kernel
theorem dX11_text_106 : decode cX11_text 106 = .ok (.aload_n 0, 1) := by decide +kernel
theorem dX11_text_107 : decode cX11_text 107 = .ok (.iconst 0, 1) := by decide +kernel
theorem dX11_text_108 : decode cX11_text 108 = .ok (.aload_n 0, 1) := by decide +kernel
theorem dX11_text_109 : decode cX11_text 109 = .ok (.getfield 207, 3) := by decide +kernel
theorem dX11_text_112 : decode cX11_text 112 = .ok (.invokevirtual 220, 3) := by decide +kernel
theorem dX11_text_115 : decode cX11_text 115 = .ok (.aload_n 0, 1) := by decide +kernel
theorem dX11_text_116 : decode cX11_text 116 = .ok (.dup, 1) := by decide +kernel
theorem dX11_text_117 : decode cX11_text 117 = .ok (.getfield 207, 3) := by decide +kernel
theorem dX11_text_120 : decode cX11_text 120 = .ok (.iconst 1, 1) := by decide +kernel
theorem dX11_text_121 : decode cX11_text 121 = .ok (.iadd, 1) := by decide +kernel
theorem dX11_text_122 : decode cX11_text 122 = .ok (.putfield 207, 3) := by decide +kernel
theorem dX11_text_125 : decode cX11_text 125 = .ok (.goto (-91), 3) := by decide +kernel
theorem dX11_text_128 : decode cX11_text 128 = .ok (.aload_n 0, 1) := by decide +kernel
theorem dX11_text_129 : decode cX11_text 129 = .ok (.iconst 0, 1) := by decide +kernel
theorem dX11_text_130 : decode cX11_text 130 = .ok (.putfield 197, 3) := by decide +kernel
theorem dX11_text_133 : decode cX11_text 133 = .ok (.aload_n 0, 1) := by decide +kernel
theorem dX11_text_134 : decode cX11_text 134 = .ok (.getfield 204, 3) := by decide +kernel
theorem dX11_text_137 : decode cX11_text 137 = .ok (.ifCond .le 11, 3) := by decide +kernel
theorem dX11_text_140 : decode cX11_text 140 = .ok (.bipush (-2), 2) := by decide +kernel
theorem dX11_text_142 : decode cX11_text 142 = .ok (.aload_n 0, 1) := by decide +kernel
theorem dX11_text_143 : decode cX11_text 143 = .ok (.getfield 204, 3) := by decide +kernel
theorem dX11_text_146 : decode cX11_text 146 = .ok (.isub, 1) := by decide +kernel
theorem dX11_text_147 : decode cX11_text 147 = .ok (.ireturn, 1) := by decide +kernel
theorem dX11_text_148 : decode cX11_text 148 = .ok (.aload_n 0, 1) := by decide +kernel
theorem dX11_text_149 : decode cX11_text 149 = .ok (.getfield 74, 3) := by decide +kernel
theorem dX11_text_152 : decode cX11_text 152 = .ok (.iload_n 1, 1) := by decide +kernel
theorem dX11_text_153 : decode cX11_text 153 = .ok (.iload_n 2, 1) := by decide +kernel
theorem dX11_text_154 : decode cX11_text 154 = .ok (.iastore, 1) := by decide +kernel
theorem dX11_text_155 : decode cX11_text 155 = .ok (.iconst 0, 1) := by decide +kernel
theorem dX11_text_156 : decode cX11_text 156 = .ok (.istore 4, 2) := by decide +kernel
theorem dX11_text_158 : decode cX11_text 158 = .ok (.iload 4, 2) := by decide +kernel
theorem dX11_text_160 : decode cX11_text 160 = .ok (.iload_n 2, 1) := by decide +kernel
theorem dX11_text_161 : decode cX11_text 161 = .ok (.if_icmp .ge 176, 3) := by decide +kernel
theorem dX11_text_164 : decode cX11_text 164 = .ok (.aload_n 0, 1) := by decide +kernel
theorem dX11_text_165 : decode cX11_text 165 = .ok (.getfield 77, 3) := by decide +kernel
theorem dX11_text_168 : decode cX11_text 168 = .ok (.bipush 12, 2) := by decide +kernel
theorem dX11_text_170 : decode cX11_text 170 = .ok (.iload_n 1, 1) := by decide +kernel
theorem dX11_text_171 : decode cX11_text 171 = .ok (.imul, 1) := by decide +kernel
theorem dX11_text_172 : decode cX11_text 172 = .ok (.iload 4, 2) := by decide +kernel
theorem dX11_text_174 : decode cX11_text 174 = .ok (.iadd, 1) := by decide +kernel
theorem dX11_text_175 : decode cX11_text 175 = .ok (.aload_n 0, 1) := by decide +kernel
theorem dX11_text_176 : decode cX11_text 176 = .ok (.getfield 77, 3) := by decide +kernel
theorem dX11_text_179 : decode cX11_text 179 = .ok (.sipush 144, 3) := by decide +kernel
theorem dX11_text_182 : decode cX11_text 182 = .ok (.iload 4, 2) := by decide +kernel
theorem dX11_text_184 : decode cX11_text 184 = .ok (.iadd, 1) := by decide +kernel
theorem dX11_text_185 : decode cX11_text 185 = .ok (.iaload, 1) := by decide +kernel
theorem dX11_text_186 : decode cX11_text 186 = .ok (.iastore, 1) := by decide +kernel
theorem dX11_text_187 : decode cX11_text 187 = .ok (.aload_n 0, 1) := by decide +kernel
theorem dX11_text_188 : decode cX11_text 188 = .ok (.getfield 80, 3) := by decide +kernel
theorem dX11_text_191 : decode cX11_text 191 = .ok (.bipush 12, 2) := by decide +kernel
theorem dX11_text_193 : decode cX11_text 193 = .ok (.iload_n 1, 1) := by decide +kernel
theorem dX11_text_194 : decode cX11_text 194 = .ok (.imul, 1) := by decide +kernel
theorem dX11_text_195 : decode cX11_text 195 = .ok (.iload 4, 2) := by decide +kernel
theorem dX11_text_197 : decode cX11_text 197 = .ok (.iadd, 1) := by decide +kernel
theorem dX11_text_198 : decode cX11_text 198 = .ok (.aload_n 0, 1) := by decide +kernel
theorem dX11_text_199 : decode cX11_text 199 = .ok (.getfield 80, 3) := by decide +kernel
theorem dX11_text_202 : decode cX11_text 202 = .ok (.sipush 144, 3) := by decide +kernel
theorem dX11_text_205 : decode cX11_text 205 = .ok (.iload 4, 2) := by decide +kernel
theorem dX11_text_207 : decode cX11_text 207 = .ok (.iadd, 1) := by decide +kernel
theorem dX11_text_208 : decode cX11_text 208 = .ok (.iaload, 1) := by decide +kernel
theorem dX11_text_209 : decode cX11_text 209 = .ok (.iastore, 1) := by decide +kernel
theorem dX11_text_210 : decode cX11_text 210 = .ok (.iconst 0, 1) := by decide +kernel
theorem dX11_text_211 : decode cX11_text 211 = .ok (.istore 5, 2) := by decide +kernel
theorem dX11_text_213 : decode cX11_text 213 = .ok (.iload 5, 2) := by decide +kernel
theorem dX11_text_215 : decode cX11_text 215 = .ok (.bipush 6, 2) := by decide +kernel
theorem dX11_text_217 : decode cX11_text 217 = .ok (.if_icmp .ge 114, 3) := by decide +kernel
theorem dX11_text_220 : decode cX11_text 220 = .ok (.aload_n 0, 1) := by decide +kernel
theorem dX11_text_221 : decode cX11_text 221 = .ok (.getfield 83, 3) := by decide +kernel
theorem dX11_text_224 : decode cX11_text 224 = .ok (.bipush 6, 2) := by decide +kernel
theorem dX11_text_226 : decode cX11_text 226 = .ok (.bipush 12, 2) := by decide +kernel
theorem dX11_text_228 : decode cX11_text 228 = .ok (.iload_n 1, 1) := by decide +kernel
theorem dX11_text_229 : decode cX11_text 229 = .ok (.imul, 1) := by decide +kernel
theorem dX11_text_230 : decode cX11_text 230 = .ok (.iload 4, 2) := by decide +kernel
theorem dX11_text_232 : decode cX11_text 232 = .ok (.iadd, 1) := by decide +kernel
theorem dX11_text_233 : decode cX11_text 233 = .ok (.imul, 1) := by decide +kernel
theorem dX11_text_234 : decode cX11_text 234 = .ok (.iload 5, 2) := by decide +kernel
theorem dX11_text_236 : decode cX11_text 236 = .ok (.iadd, 1) := by decide +kernel
theorem dX11_text_237 : decode cX11_text 237 = .ok (.aload_n 0, 1) := by decide +kernel
theorem dX11_text_238 : decode cX11_text 238 = .ok (.getfield 83, 3) := by decide +kernel
theorem dX11_text_241 : decode cX11_text 241 = .ok (.bipush 6, 2) := by decide +kernel
theorem dX11_text_243 : decode cX11_text 243 = .ok (.sipush 144, 3) := by decide +kernel
theorem dX11_text_246 : decode cX11_text 246 = .ok (.iload 4, 2) := by decide +kernel
theorem dX11_text_248 : decode cX11_text 248 = .ok (.iadd, 1) := by decide +kernel
theorem dX11_text_249 : decode cX11_text 249 = .ok (.imul, 1) := by decide +kernel
theorem dX11_text_250 : decode cX11_text 250 = .ok (.iload 5, 2) := by decide +kernel
theorem dX11_text_252 : decode cX11_text 252 = .ok (.iadd, 1) := by decide +kernel
theorem dX11_text_253 : decode cX11_text 253 = .ok (.iaload, 1) := by decide +kernel
theorem dX11_text_254 : decode cX11_text 254 = .ok (.iastore, 1) := by decide +kernel
theorem dX11_text_255 : decode cX11_text 255 = .ok (.aload_n 0, 1) := by decide +kernel
theorem dX11_text_256 : decode cX11_text 256 = .ok (.getfield 86, 3) := by decide +kernel
theorem dX11_text_259 : decode cX11_text 259 = .ok (.bipush 6, 2) := by decide +kernel
theorem dX11_text_261 : decode cX11_text 261 = .ok (.bipush 12, 2) := by decide +kernel
theorem dX11_text_263 : decode cX11_text 263 = .ok (.iload_n 1, 1) := by decide +kernel
theorem dX11_text_264 : decode cX11_text 264 = .ok (.imul, 1) := by decide +kernel
theorem dX11_text_265 : decode cX11_text 265 = .ok (.iload 4, 2) := by decide +kernel
theorem dX11_text_267 : decode cX11_text 267 = .ok (.iadd, 1) := by decide +kernel
theorem dX11_text_268 : decode cX11_text 268 = .ok (.imul, 1) := by decide +kernel
theorem dX11_text_269 : decode cX11_text 269 = .ok (.iload 5, 2) := by decide +kernel
theorem dX11_text_271 : decode cX11_text 271 = .ok (.iadd, 1) := by decide +kernel
theorem dX11_text_272 : decode cX11_text 272 = .ok (.aload_n 0, 1) := by decide +kernel
theorem dX11_text_273 : decode cX11_text 273 = .ok (.getfield 86, 3) := by decide +kernel
theorem dX11_text_276 : decode cX11_text 276 = .ok (.bipush 6, 2) := by decide +kernel
theorem dX11_text_278 : decode cX11_text 278 = .ok (.sipush 144, 3) := by decide +kernel
theorem dX11_text_281 : decode cX11_text 281 = .ok (.iload 4, 2) := by decide +kernel
theorem dX11_text_283 : decode cX11_text 283 = .ok (.iadd, 1) := by decide +kernel
theorem dX11_text_284 : decode cX11_text 284 = .ok (.imul, 1) := by decide +kernel
theorem dX11_text_285 : decode cX11_text 285 = .ok (.iload 5, 2) := by decide +kernel
theorem dX11_text_287 : decode cX11_text 287 = .ok (.iadd, 1) := by decide +kernel
theorem dX11_text_288 : decode cX11_text 288 = .ok (.iaload, 1) := by decide +kernel
theorem dX11_text_289 : decode cX11_text 289 = .ok (.iastore, 1) := by decide +kernel
theorem dX11_text_290 : decode cX11_text 290 = .ok (.aload_n 0, 1) := by decide +kernel
theorem dX11_text_291 : decode cX11_text 291 = .ok (.getfield 89, 3) := by decide +kernel
theorem dX11_text_294 : decode cX11_text 294 = .ok (.bipush 6, 2) := by decide +kernel
theorem dX11_text_296 : decode cX11_text 296 = .ok (.bipush 12, 2) := by decide +kernel
theorem dX11_text_298 : decode cX11_text 298 = .ok (.iload_n 1, 1) := by decide +kernel
theorem dX11_text_299 : decode cX11_text 299 = .ok (.imul, 1) := by decide +kernel
theorem dX11_text_300 : decode cX11_text 300 = .ok (.iload 4, 2) := by decide +kernel
theorem dX11_text_302 : decode cX11_text 302 = .ok (.iadd, 1) := by decide +kernel
theorem dX11_text_303 : decode cX11_text 303 = .ok (.imul, 1) := by decide +kernel
theorem dX11_text_304 : decode cX11_text 304 = .ok (.iload 5, 2) := by decide +kernel
theorem dX11_text_306 : decode cX11_text 306 = .ok (.iadd, 1) := by decide +kernel
theorem dX11_text_307 : decode cX11_text 307 = .ok (.aload_n 0, 1) := by decide +kernel
theorem dX11_text_308 : decode cX11_text 308 = .ok (.getfield 89, 3) := by decide +kernel
theorem dX11_text_311 : decode cX11_text 311 = .ok (.bipush 6, 2) := by decide +kernel
theorem dX11_text_313 : decode cX11_text 313 = .ok (.sipush 144, 3) := by decide +kernel
theorem dX11_text_316 : decode cX11_text 316 = .ok (.iload 4, 2) := by decide +kernel
theorem dX11_text_318 : decode cX11_text 318 = .ok (.iadd, 1) := by decide +kernel
theorem dX11_text_319 : decode cX11_text 319 = .ok (.imul, 1) := by decide +kernel
theorem dX11_text_320 : decode cX11_text 320 = .ok (.iload 5, 2) := by decide +kernel
theorem dX11_text_322 : decode cX11_text 322 = .ok (.iadd, 1) := by decide +kernel
theorem dX11_text_323 : decode cX11_text 323 = .ok (.iaload, 1) := by decide +kernel
theorem dX11_text_324 : decode cX11_text 324 = .ok (.iastore, 1) := by decide +kernel
theorem dX11_text_325 : decode cX11_text 325 = .ok (.iinc 5 1, 3) := by decide +kernel
theorem dX11_text_328 : decode cX11_text 328 = .ok (.goto (-115), 3) := by decide +kernel
theorem dX11_text_331 : decode cX11_text 331 = .ok (.iinc 4 1, 3) := by decide +kernel
theorem dX11_text_334 : decode cX11_text 334 = .ok (.goto (-176), 3) := by decide +kernel
theorem dX11_text_337 : decode cX11_text 337 = .ok (.iload_n 2, 1) := by decide +kernel
theorem dX11_text_338 : decode cX11_text 338 = .ok (.ireturn, 1) := by decide +kernel
theorem dX11_without_0 : decode cX11_without 0 = .ok (.iload_n 0, 1) := by decide +kernel
theorem dX11_without_1 : decode cX11_without 1 = .ok (.iconst 2, 1) := by decide +kernel
theorem dX11_without_2 : decode cX11_without 2 = .ok (.if_icmp .ge 7, 3) := by decide +kernel
theorem dX11_without_5 : decode cX11_without 5 = .ok (.iconst 1, 1) := by decide +kernel
theorem dX11_without_6 : decode cX11_without 6 = .ok (.goto 23, 3) := by decide +kernel
theorem dX11_without_9 : decode cX11_without 9 = .ok (.iload_n 0, 1) := by decide +kernel
theorem dX11_without_10 : decode cX11_without 10 = .ok (.iconst 2, 1) := by decide +kernel
theorem dX11_without_11 : decode cX11_without 11 = .ok (.if_icmp .ne 7, 3) := by decide +kernel
theorem dX11_without_14 : decode cX11_without 14 = .ok (.iconst 0, 1) := by decide +kernel
theorem dX11_without_15 : decode cX11_without 15 = .ok (.goto 14, 3) := by decide +kernel
theorem dX11_without_18 : decode cX11_without 18 = .ok (.iload_n 0, 1) := by decide +kernel
theorem dX11_without_19 : decode cX11_without 19 = .ok (.iconst 3, 1) := by decide +kernel
theorem dX11_without_20 : decode cX11_without 20 = .ok (.if_icmp .ne 7, 3) := by decide +kernel
theorem dX11_without_23 : decode cX11_without 23 = .ok (.iconst 2, 1) := by decide +kernel
theorem dX11_without_24 : decode cX11_without 24 = .ok (.goto 5, 3) := by decide +kernel
theorem dX11_without_27 : decode cX11_without 27 = .ok (.bipush 10, 2) := by decide +kernel
theorem dX11_without_29 : decode cX11_without 29 = .ok (.ireturn, 1) := by decide +kernel
set_option maxRecDepth 20000 in
theorem ggX11_begins_X11_without : GoodIn wsX11_begins wsX11_without := goodIn_r _ [5] (by decide +kernel) (by decide +kernel)
set_option maxRecDepth 20000 in
theorem gX11_begins_X11_without : GoodIn wsX11_begins (va_wsS RX11 280 yX11_without wsX11_without) := goodIn_app (goodIn_of _ (by decide +kernel)) ggX11_begins_X11_without
theorem dX11_begins_0 : decode cX11_begins 0 = .ok (.iconst 0, 1) := by decide +kernel
theorem dX11_begins_1 : decode cX11_begins 1 = .ok (.istore_n 1, 1) := by decide +kernel
theorem dX11_begins_2 : decode cX11_begins 2 = .ok (.iload_n 1, 1) := by decide +kernel
theorem dX11_begins_3 : decode cX11_begins 3 = .ok (.iconst 5, 1) := by decide +kernel
theorem dX11_begins_4 : decode cX11_begins 4 = .ok (.if_icmp .ge 19, 3) := by decide +kernel
theorem dX11_begins_7 : decode cX11_begins 7 = .ok (.aload_n 0, 1) := by decide +kernel
theorem dX11_begins_8 : decode cX11_begins 8 = .ok (.getfield 92, 3) := by decide +kernel
theorem dX11_begins_11 : decode cX11_begins 11 = .ok (.iload_n 1, 1) := by decide +kernel
theorem dX11_begins_12 : decode cX11_begins 12 = .ok (.iload_n 1, 1) := by decide +kernel
theorem dX11_begins_13 : decode cX11_begins 13 = .ok (.invokestatic 280, 3) := by decide +kernel
theorem dX11_begins_16 : decode cX11_begins 16 = .ok (.iastore, 1) := by decide +kernel
theorem dX11_begins_17 : decode cX11_begins 17 = .ok (.iinc 1 1, 3) := by decide +kernel
theorem dX11_begins_20 : decode cX11_begins 20 = .ok (.goto (-18), 3) := by decide +kernel
theorem dX11_begins_23 : decode cX11_begins 23 = .ok (.return_, 1) := by decide +kernel
theorem dX11_kindOf_0 : decode cX11_kindOf 0 = .ok (.iload_n 1, 1) := by decide +kernel
theorem dX11_kindOf_1 : decode cX11_kindOf 1 = .ok (.ifCond .ne 8, 3) := by decide +kernel
theorem dX11_kindOf_4 : decode cX11_kindOf 4 = .ok (.ldc 237, 2) := by decide +kernel
theorem dX11_kindOf_6 : decode cX11_kindOf 6 = .ok (.goto 38, 3) := by decide +kernel
theorem dX11_kindOf_9 : decode cX11_kindOf 9 = .ok (.iload_n 1, 1) := by decide +kernel
theorem dX11_kindOf_10 : decode cX11_kindOf 10 = .ok (.iconst 1, 1) := by decide +kernel
theorem dX11_kindOf_11 : decode cX11_kindOf 11 = .ok (.if_icmp .ne 9, 3) := by decide +kernel
theorem dX11_kindOf_14 : decode cX11_kindOf 14 = .ok (.ldc_w 283, 3) := by decide +kernel
theorem dX11_kindOf_17 : decode cX11_kindOf 17 = .ok (.goto 27, 3) := by decide +kernel
theorem dX11_kindOf_20 : decode cX11_kindOf 20 = .ok (.iload_n 1, 1) := by decide +kernel
theorem dX11_kindOf_21 : decode cX11_kindOf 21 = .ok (.iconst 2, 1) := by decide +kernel
theorem dX11_kindOf_22 : decode cX11_kindOf 22 = .ok (.if_icmp .ne 9, 3) := by decide +kernel
theorem dX11_kindOf_25 : decode cX11_kindOf 25 = .ok (.ldc_w 285, 3) := by decide +kernel
theorem dX11_kindOf_28 : decode cX11_kindOf 28 = .ok (.goto 16, 3) := by decide +kernel
theorem dX11_kindOf_31 : decode cX11_kindOf 31 = .ok (.iload_n 1, 1) := by decide +kernel
theorem dX11_kindOf_32 : decode cX11_kindOf 32 = .ok (.iconst 3, 1) := by decide +kernel
theorem dX11_kindOf_33 : decode cX11_kindOf 33 = .ok (.if_icmp .ne 9, 3) := by decide +kernel
theorem dX11_kindOf_36 : decode cX11_kindOf 36 = .ok (.ldc_w 287, 3) := by decide +kernel
theorem dX11_kindOf_39 : decode cX11_kindOf 39 = .ok (.goto 5, 3) := by decide +kernel
theorem dX11_kindOf_42 : decode cX11_kindOf 42 = .ok (.ldc 234, 2) := by decide +kernel
theorem dX11_kindOf_44 : decode cX11_kindOf 44 = .ok (.areturn, 1) := by decide +kernel
theorem dX11_bearerOf_0 : decode cX11_bearerOf 0 = .ok (.iload_n 1, 1) := by decide +kernel
theorem dX11_bearerOf_1 : decode cX11_bearerOf 1 = .ok (.ifCond .ne 9, 3) := by decide +kernel
theorem dX11_bearerOf_4 : decode cX11_bearerOf 4 = .ok (.ldc_w 289, 3) := by decide +kernel
theorem dX11_bearerOf_7 : decode cX11_bearerOf 7 = .ok (.goto 17, 3) := by decide +kernel
theorem dX11_bearerOf_10 : decode cX11_bearerOf 10 = .ok (.iload_n 1, 1) := by decide +kernel
theorem dX11_bearerOf_11 : decode cX11_bearerOf 11 = .ok (.iconst 1, 1) := by decide +kernel
theorem dX11_bearerOf_12 : decode cX11_bearerOf 12 = .ok (.if_icmp .ne 9, 3) := by decide +kernel
theorem dX11_bearerOf_15 : decode cX11_bearerOf 15 = .ok (.ldc_w 291, 3) := by decide +kernel
theorem dX11_bearerOf_18 : decode cX11_bearerOf 18 = .ok (.goto 6, 3) := by decide +kernel
theorem dX11_bearerOf_21 : decode cX11_bearerOf 21 = .ok (.ldc_w 292, 3) := by decide +kernel
theorem dX11_bearerOf_24 : decode cX11_bearerOf 24 = .ok (.areturn, 1) := by decide +kernel
set_option maxRecDepth 20000 in
theorem ggX11_clause_X11_word : GoodIn wsX11_clause wsX11_word := goodIn_r _ [9, 10, 2, 11, 12, 13, 8, 14, 15, 16, 17, 18, 19, 20, 21, 22, 23, 24, 1, 90, 91, 92, 93, 94, 95, 96, 97, 98, 99, 100, 101, 102, 103, 104, 105, 106, 107, 108, 109, 110, 111, 112, 113, 114, 115, 116, 117, 118, 119, 120, 121, 122, 123, 124, 125, 126, 127, 128, 129, 130, 131, 132, 133, 134, 135, 136, 137, 138, 139, 140, 141, 142, 143, 144, 145, 146, 147, 148, 149] (by decide +kernel) (by decide +kernel)
set_option maxRecDepth 20000 in
theorem gX11_clause_X11_word : GoodIn wsX11_clause (wsV RX11 253 RX11 yX11_word wsX11_word) := goodIn_app (goodIn_of _ (by decide +kernel)) ggX11_clause_X11_word
set_option maxRecDepth 20000 in
theorem ggX11_clause_X11_kindOf : GoodIn wsX11_clause wsX11_kindOf := goodIn_r _ [28] (by decide +kernel) (by decide +kernel)
set_option maxRecDepth 20000 in
theorem gX11_clause_X11_kindOf : GoodIn wsX11_clause (wsV RX11 294 RX11 yX11_kindOf wsX11_kindOf) := goodIn_app (goodIn_of _ (by decide +kernel)) ggX11_clause_X11_kindOf
set_option maxRecDepth 20000 in
theorem ggX11_clause_X11_is : GoodIn wsX11_clause wsX11_is := goodIn_r _ [32, 10, 2, 16, 33, 34, 35, 36, 37, 38, 39, 40, 41, 42, 43, 44, 45, 46, 47, 48, 49, 50, 51, 52, 53, 54, 55, 56, 57, 58, 59, 60, 61, 62, 63, 64, 65, 66, 67, 68, 69, 70, 71, 72, 73, 74, 75, 76, 77, 78, 79, 80, 81, 90, 91, 92, 93, 94, 95, 96, 97, 98, 99, 100, 101, 102, 103, 104, 105, 106, 107, 108, 109, 110, 111, 112, 113, 114, 115, 116, 117, 118, 119, 120, 121, 122, 123, 124, 125, 126, 127, 128, 129, 130, 131, 132, 133, 134, 135, 136, 137, 138, 139, 140, 141, 142, 143, 144, 145, 146, 147, 148, 149] (by decide +kernel) (by decide +kernel)
set_option maxRecDepth 20000 in
theorem gX11_clause_X11_is : GoodIn wsX11_clause (wsV RX11 260 RX11 yX11_is wsX11_is) := goodIn_app (goodIn_of _ (by decide +kernel)) ggX11_clause_X11_is
set_option maxRecDepth 20000 in
theorem ggX11_clause_X11_fails : GoodIn wsX11_clause wsX11_fails := goodIn_r _ [24, 1, 90, 91, 92, 93, 94, 95, 96, 97, 98, 99, 100, 101, 102, 103, 104, 105, 106, 107, 108, 109, 110, 111, 112, 113, 114, 115, 116, 117, 118, 119, 120, 121, 122, 123, 124, 125, 126, 127, 128, 129, 130, 131, 132, 133, 134, 135, 136, 137, 138, 139, 140, 141, 142, 143, 144, 145, 146, 147, 148, 149] (by decide +kernel) (by decide +kernel)
set_option maxRecDepth 20000 in
theorem gX11_clause_X11_fails : GoodIn wsX11_clause (wsV RX11 220 RX11 yX11_fails wsX11_fails) := goodIn_app (goodIn_of _ (by decide +kernel)) ggX11_clause_X11_fails
set_option maxRecDepth 20000 in
theorem ggX11_clause_X11_number : GoodIn wsX11_clause wsX11_number := goodIn_r _ [85, 10, 15, 16, 2, 11, 12, 13, 8, 14, 21, 22, 23, 24, 1, 90, 91, 92, 93, 94, 95, 96, 97, 98, 99, 100, 101, 102, 103, 104, 105, 106, 107, 108, 109, 110, 111, 112, 113, 114, 115, 116, 117, 118, 119, 120, 121, 122, 123, 124, 125, 126, 127, 128, 129, 130, 131, 132, 133, 134, 135, 136, 137, 138, 139, 140, 141, 142, 143, 144, 145, 146, 147, 148, 149] (by decide +kernel) (by decide +kernel)
set_option maxRecDepth 20000 in
theorem gX11_clause_X11_number : GoodIn wsX11_clause (wsV RX11 274 RX11 yX11_number wsX11_number) := goodIn_app (goodIn_of _ (by decide +kernel)) ggX11_clause_X11_number
set_option maxRecDepth 20000 in
theorem ggX11_clause_X11_bearerOf : GoodIn wsX11_clause wsX11_bearerOf := goodIn_r _ [89] (by decide +kernel) (by decide +kernel)
set_option maxRecDepth 20000 in
theorem gX11_clause_X11_bearerOf : GoodIn wsX11_clause (wsV RX11 297 RX11 yX11_bearerOf wsX11_bearerOf) := goodIn_app (goodIn_of _ (by decide +kernel)) ggX11_clause_X11_bearerOf
theorem dX11_clause_0 : decode cX11_clause 0 = .ok (.aload_n 0, 1) := by decide +kernel
theorem dX11_clause_1 : decode cX11_clause 1 = .ok (.invokevirtual 253, 3) := by decide +kernel
theorem dX11_clause_4 : decode cX11_clause 4 = .ok (.iconst 0, 1) := by decide +kernel
theorem dX11_clause_5 : decode cX11_clause 5 = .ok (.istore_n 1, 1) := by decide +kernel
theorem dX11_clause_6 : decode cX11_clause 6 = .ok (.iload_n 1, 1) := by decide +kernel
theorem dX11_clause_7 : decode cX11_clause 7 = .ok (.iconst 5, 1) := by decide +kernel
theorem dX11_clause_8 : decode cX11_clause 8 = .ok (.if_icmp .ge 21, 3) := by decide +kernel
theorem dX11_clause_11 : decode cX11_clause 11 = .ok (.aload_n 0, 1) := by decide +kernel
theorem dX11_clause_12 : decode cX11_clause 12 = .ok (.aload_n 0, 1) := by decide +kernel
theorem dX11_clause_13 : decode cX11_clause 13 = .ok (.iload_n 1, 1) := by decide +kernel
theorem dX11_clause_14 : decode cX11_clause 14 = .ok (.invokevirtual 294, 3) := by decide +kernel
theorem dX11_clause_17 : decode cX11_clause 17 = .ok (.invokevirtual 260, 3) := by decide +kernel
theorem dX11_clause_20 : decode cX11_clause 20 = .ok (.ifCond .ne 9, 3) := by decide +kernel
theorem dX11_clause_23 : decode cX11_clause 23 = .ok (.iinc 1 1, 3) := by decide +kernel
theorem dX11_clause_26 : decode cX11_clause 26 = .ok (.goto (-20), 3) := by decide +kernel
theorem dX11_clause_29 : decode cX11_clause 29 = .ok (.aload_n 0, 1) := by decide +kernel
theorem dX11_clause_30 : decode cX11_clause 30 = .ok (.getfield 204, 3) := by decide +kernel
theorem dX11_clause_33 : decode cX11_clause 33 = .ok (.ifCond .le 4, 3) := by decide +kernel
theorem dX11_clause_36 : decode cX11_clause 36 = .ok (.return_, 1) := by decide +kernel
theorem dX11_clause_37 : decode cX11_clause 37 = .ok (.iload_n 1, 1) := by decide +kernel
theorem dX11_clause_38 : decode cX11_clause 38 = .ok (.iconst 5, 1) := by decide +kernel
theorem dX11_clause_39 : decode cX11_clause 39 = .ok (.if_icmp .ne 13, 3) := by decide +kernel
theorem dX11_clause_42 : decode cX11_clause 42 = .ok (.aload_n 0, 1) := by decide +kernel
theorem dX11_clause_43 : decode cX11_clause 43 = .ok (.iconst 0, 1) := by decide +kernel
theorem dX11_clause_44 : decode cX11_clause 44 = .ok (.aload_n 0, 1) := by decide +kernel
theorem dX11_clause_45 : decode cX11_clause 45 = .ok (.getfield 210, 3) := by decide +kernel
theorem dX11_clause_48 : decode cX11_clause 48 = .ok (.invokevirtual 220, 3) := by decide +kernel
theorem dX11_clause_51 : decode cX11_clause 51 = .ok (.return_, 1) := by decide +kernel
theorem dX11_clause_52 : decode cX11_clause 52 = .ok (.aload_n 0, 1) := by decide +kernel
theorem dX11_clause_53 : decode cX11_clause 53 = .ok (.getfield 95, 3) := by decide +kernel
theorem dX11_clause_56 : decode cX11_clause 56 = .ok (.iload_n 1, 1) := by decide +kernel
theorem dX11_clause_57 : decode cX11_clause 57 = .ok (.baload, 1) := by decide +kernel
theorem dX11_clause_58 : decode cX11_clause 58 = .ok (.ifCond .eq 13, 3) := by decide +kernel
theorem dX11_clause_61 : decode cX11_clause 61 = .ok (.aload_n 0, 1) := by decide +kernel
theorem dX11_clause_62 : decode cX11_clause 62 = .ok (.iconst 2, 1) := by decide +kernel
theorem dX11_clause_63 : decode cX11_clause 63 = .ok (.aload_n 0, 1) := by decide +kernel
theorem dX11_clause_64 : decode cX11_clause 64 = .ok (.getfield 210, 3) := by decide +kernel
theorem dX11_clause_67 : decode cX11_clause 67 = .ok (.invokevirtual 220, 3) := by decide +kernel
theorem dX11_clause_70 : decode cX11_clause 70 = .ok (.return_, 1) := by decide +kernel
theorem dX11_clause_71 : decode cX11_clause 71 = .ok (.aload_n 0, 1) := by decide +kernel
theorem dX11_clause_72 : decode cX11_clause 72 = .ok (.getfield 95, 3) := by decide +kernel
theorem dX11_clause_75 : decode cX11_clause 75 = .ok (.iload_n 1, 1) := by decide +kernel
theorem dX11_clause_76 : decode cX11_clause 76 = .ok (.iconst 1, 1) := by decide +kernel
theorem dX11_clause_77 : decode cX11_clause 77 = .ok (.bastore, 1) := by decide +kernel
theorem dX11_clause_78 : decode cX11_clause 78 = .ok (.iload_n 1, 1) := by decide +kernel
theorem dX11_clause_79 : decode cX11_clause 79 = .ok (.iconst 4, 1) := by decide +kernel
theorem dX11_clause_80 : decode cX11_clause 80 = .ok (.if_icmp .ne 15, 3) := by decide +kernel
theorem dX11_clause_83 : decode cX11_clause 83 = .ok (.aload_n 0, 1) := by decide +kernel
theorem dX11_clause_84 : decode cX11_clause 84 = .ok (.getfield 98, 3) := by decide +kernel
theorem dX11_clause_87 : decode cX11_clause 87 = .ok (.iconst 4, 1) := by decide +kernel
theorem dX11_clause_88 : decode cX11_clause 88 = .ok (.aload_n 0, 1) := by decide +kernel
theorem dX11_clause_89 : decode cX11_clause 89 = .ok (.iconst 2, 1) := by decide +kernel
theorem dX11_clause_90 : decode cX11_clause 90 = .ok (.invokevirtual 274, 3) := by decide +kernel
theorem dX11_clause_93 : decode cX11_clause 93 = .ok (.iastore, 1) := by decide +kernel
theorem dX11_clause_94 : decode cX11_clause 94 = .ok (.return_, 1) := by decide +kernel
theorem dX11_clause_95 : decode cX11_clause 95 = .ok (.aload_n 0, 1) := by decide +kernel
theorem dX11_clause_96 : decode cX11_clause 96 = .ok (.invokevirtual 253, 3) := by decide +kernel
theorem dX11_clause_99 : decode cX11_clause 99 = .ok (.iconst 0, 1) := by decide +kernel
theorem dX11_clause_100 : decode cX11_clause 100 = .ok (.istore_n 2, 1) := by decide +kernel
theorem dX11_clause_101 : decode cX11_clause 101 = .ok (.iload_n 2, 1) := by decide +kernel
theorem dX11_clause_102 : decode cX11_clause 102 = .ok (.iconst 3, 1) := by decide +kernel
theorem dX11_clause_103 : decode cX11_clause 103 = .ok (.if_icmp .ge 21, 3) := by decide +kernel
theorem dX11_clause_106 : decode cX11_clause 106 = .ok (.aload_n 0, 1) := by decide +kernel
theorem dX11_clause_107 : decode cX11_clause 107 = .ok (.aload_n 0, 1) := by decide +kernel
theorem dX11_clause_108 : decode cX11_clause 108 = .ok (.iload_n 2, 1) := by decide +kernel
theorem dX11_clause_109 : decode cX11_clause 109 = .ok (.invokevirtual 297, 3) := by decide +kernel
theorem dX11_clause_112 : decode cX11_clause 112 = .ok (.invokevirtual 260, 3) := by decide +kernel
theorem dX11_clause_115 : decode cX11_clause 115 = .ok (.ifCond .ne 9, 3) := by decide +kernel
theorem dX11_clause_118 : decode cX11_clause 118 = .ok (.iinc 2 1, 3) := by decide +kernel
theorem dX11_clause_121 : decode cX11_clause 121 = .ok (.goto (-20), 3) := by decide +kernel
theorem dX11_clause_124 : decode cX11_clause 124 = .ok (.aload_n 0, 1) := by decide +kernel
theorem dX11_clause_125 : decode cX11_clause 125 = .ok (.getfield 204, 3) := by decide +kernel
theorem dX11_clause_128 : decode cX11_clause 128 = .ok (.ifCond .ne 17, 3) := by decide +kernel
theorem dX11_clause_131 : decode cX11_clause 131 = .ok (.iload_n 2, 1) := by decide +kernel
theorem dX11_clause_132 : decode cX11_clause 132 = .ok (.iconst 3, 1) := by decide +kernel
theorem dX11_clause_133 : decode cX11_clause 133 = .ok (.if_icmp .ne 12, 3) := by decide +kernel
theorem dX11_clause_136 : decode cX11_clause 136 = .ok (.aload_n 0, 1) := by decide +kernel
theorem dX11_clause_137 : decode cX11_clause 137 = .ok (.iconst 0, 1) := by decide +kernel
theorem dX11_clause_138 : decode cX11_clause 138 = .ok (.aload_n 0, 1) := by decide +kernel
theorem dX11_clause_139 : decode cX11_clause 139 = .ok (.getfield 210, 3) := by decide +kernel
theorem dX11_clause_142 : decode cX11_clause 142 = .ok (.invokevirtual 220, 3) := by decide +kernel
theorem dX11_clause_145 : decode cX11_clause 145 = .ok (.aload_n 0, 1) := by decide +kernel
theorem dX11_clause_146 : decode cX11_clause 146 = .ok (.getfield 98, 3) := by decide +kernel
theorem dX11_clause_149 : decode cX11_clause 149 = .ok (.iload_n 1, 1) := by decide +kernel
theorem dX11_clause_150 : decode cX11_clause 150 = .ok (.iload_n 2, 1) := by decide +kernel
theorem dX11_clause_151 : decode cX11_clause 151 = .ok (.iastore, 1) := by decide +kernel
theorem dX11_clause_152 : decode cX11_clause 152 = .ok (.return_, 1) := by decide +kernel
set_option maxRecDepth 20000 in
theorem ggX11_law_X11_without : GoodIn wsX11_law wsX11_without := goodIn_r _ [11] (by decide +kernel) (by decide +kernel)
set_option maxRecDepth 20000 in
theorem gX11_law_X11_without : GoodIn wsX11_law (va_wsS RX11 280 yX11_without wsX11_without) := goodIn_app (goodIn_of _ (by decide +kernel)) ggX11_law_X11_without
set_option maxRecDepth 20000 in
theorem ggX11_law_X11_fails : GoodIn wsX11_law wsX11_fails := goodIn_r _ [15, 4, 98, 99, 100, 101, 102, 103, 104, 105, 106, 107, 108, 109, 110, 111, 112, 113, 114, 115, 116, 117, 118, 119, 120, 121, 122, 123, 124, 125, 126, 127, 128, 129, 130, 131, 132, 133, 134, 135, 136, 137, 138, 139, 140, 141, 142, 143, 144, 145, 146, 147, 148, 149, 150, 151, 152, 153, 154, 155, 156, 157] (by decide +kernel) (by decide +kernel)
set_option maxRecDepth 20000 in
theorem gX11_law_X11_fails : GoodIn wsX11_law (wsV RX11 220 RX11 yX11_fails wsX11_fails) := goodIn_app (goodIn_of _ (by decide +kernel)) ggX11_law_X11_fails
set_option maxRecDepth 20000 in
theorem ggX11_law_X11_isEnd : GoodIn wsX11_law wsX11_isEnd := goodIn_r _ [19, 3, 5, 6, 20, 98, 99, 100, 101, 102, 103, 104, 105, 106, 107, 108, 109, 110, 111, 112, 113, 114, 115, 116, 117, 118, 119, 120, 121, 122, 123, 124, 125, 126, 127, 128, 129, 130, 131, 132, 133, 134, 135, 136, 137, 138, 139, 140, 141, 142, 143, 144, 145, 146, 147, 148, 149, 150, 151, 152, 153, 154, 155, 156, 157] (by decide +kernel) (by decide +kernel)
set_option maxRecDepth 20000 in
theorem gX11_law_X11_isEnd : GoodIn wsX11_law (wsV RX11 213 RX11 yX11_isEnd wsX11_isEnd) := goodIn_app (goodIn_of _ (by decide +kernel)) ggX11_law_X11_isEnd
set_option maxRecDepth 20000 in
theorem ggX11_law_X11_clause : GoodIn wsX11_law wsX11_clause := goodIn_r _ [24, 4, 20, 1, 2, 25, 26, 27, 10, 28, 3, 16, 17, 18, 19, 5, 6, 29, 30, 31, 32, 12, 13, 14, 15, 33, 34, 35, 36, 37, 38, 39, 40, 41, 42, 43, 44, 45, 46, 47, 48, 49, 50, 51, 52, 53, 54, 55, 56, 57, 58, 59, 60, 61, 62, 63, 64, 65, 66, 67, 68, 69, 70, 71, 72, 73, 74, 75, 76, 77, 78, 79, 80, 81, 82, 83, 84, 85, 86, 87, 88, 89, 90, 91, 92, 93, 94, 95, 96, 97, 98, 99, 100, 101, 102, 103, 104, 105, 106, 107, 108, 109, 110, 111, 112, 113, 114, 115, 116, 117, 118, 119, 120, 121, 122, 123, 124, 125, 126, 127, 128, 129, 130, 131, 132, 133, 134, 135, 136, 137, 138, 139, 140, 141, 142, 143, 144, 145, 146, 147, 148, 149, 150, 151, 152, 153, 154, 155, 156, 157] (by decide +kernel) (by decide +kernel)
set_option maxRecDepth 20000 in
theorem gX11_law_X11_clause : GoodIn wsX11_law (wsV RX11 300 RX11 yX11_clause wsX11_clause) := goodIn_app (goodIn_of _ (by decide +kernel)) ggX11_law_X11_clause
theorem dX11_law_0 : decode cX11_law 0 = .ok (.iconst 0, 1) := by decide +kernel
theorem dX11_law_1 : decode cX11_law 1 = .ok (.istore_n 1, 1) := by decide +kernel
theorem dX11_law_2 : decode cX11_law 2 = .ok (.iload_n 1, 1) := by decide +kernel
theorem dX11_law_3 : decode cX11_law 3 = .ok (.iconst 5, 1) := by decide +kernel
theorem dX11_law_4 : decode cX11_law 4 = .ok (.if_icmp .ge 26, 3) := by decide +kernel
theorem dX11_law_7 : decode cX11_law 7 = .ok (.aload_n 0, 1) := by decide +kernel
theorem dX11_law_8 : decode cX11_law 8 = .ok (.getfield 95, 3) := by decide +kernel
theorem dX11_law_11 : decode cX11_law 11 = .ok (.iload_n 1, 1) := by decide +kernel
theorem dX11_law_12 : decode cX11_law 12 = .ok (.iconst 0, 1) := by decide +kernel
theorem dX11_law_13 : decode cX11_law 13 = .ok (.bastore, 1) := by decide +kernel
theorem dX11_law_14 : decode cX11_law 14 = .ok (.aload_n 0, 1) := by decide +kernel
theorem dX11_law_15 : decode cX11_law 15 = .ok (.getfield 98, 3) := by decide +kernel
theorem dX11_law_18 : decode cX11_law 18 = .ok (.iload_n 1, 1) := by decide +kernel
theorem dX11_law_19 : decode cX11_law 19 = .ok (.iload_n 1, 1) := by decide +kernel
theorem dX11_law_20 : decode cX11_law 20 = .ok (.invokestatic 280, 3) := by decide +kernel
theorem dX11_law_23 : decode cX11_law 23 = .ok (.iastore, 1) := by decide +kernel
theorem dX11_law_24 : decode cX11_law 24 = .ok (.iinc 1 1, 3) := by decide +kernel
theorem dX11_law_27 : decode cX11_law 27 = .ok (.goto (-25), 3) := by decide +kernel
theorem dX11_law_30 : decode cX11_law 30 = .ok (.aload_n 0, 1) := by decide +kernel
theorem dX11_law_31 : decode cX11_law 31 = .ok (.iconst 0, 1) := by decide +kernel
theorem dX11_law_32 : decode cX11_law 32 = .ok (.putfield 207, 3) := by decide +kernel
theorem dX11_law_35 : decode cX11_law 35 = .ok (.aload_n 0, 1) := by decide +kernel
theorem dX11_law_36 : decode cX11_law 36 = .ok (.iconst 0, 1) := by decide +kernel
theorem dX11_law_37 : decode cX11_law 37 = .ok (.putfield 204, 3) := by decide +kernel
theorem dX11_law_40 : decode cX11_law 40 = .ok (.aload_n 0, 1) := by decide +kernel
theorem dX11_law_41 : decode cX11_law 41 = .ok (.getfield 197, 3) := by decide +kernel
theorem dX11_law_44 : decode cX11_law 44 = .ok (.sipush 200, 3) := by decide +kernel
theorem dX11_law_47 : decode cX11_law 47 = .ok (.if_icmp .le 11, 3) := by decide +kernel
theorem dX11_law_50 : decode cX11_law 50 = .ok (.aload_n 0, 1) := by decide +kernel
theorem dX11_law_51 : decode cX11_law 51 = .ok (.iconst 0, 1) := by decide +kernel
theorem dX11_law_52 : decode cX11_law 52 = .ok (.sipush 200, 3) := by decide +kernel
theorem dX11_law_55 : decode cX11_law 55 = .ok (.invokevirtual 220, 3) := by decide +kernel
theorem dX11_law_58 : decode cX11_law 58 = .ok (.aload_n 0, 1) := by decide +kernel
theorem dX11_law_59 : decode cX11_law 59 = .ok (.invokevirtual 213, 3) := by decide +kernel
theorem dX11_law_62 : decode cX11_law 62 = .ok (.ifCond .ne 7, 3) := by decide +kernel
theorem dX11_law_65 : decode cX11_law 65 = .ok (.iconst 1, 1) := by decide +kernel
theorem dX11_law_66 : decode cX11_law 66 = .ok (.goto 4, 3) := by decide +kernel
theorem dX11_law_69 : decode cX11_law 69 = .ok (.iconst 0, 1) := by decide +kernel
theorem dX11_law_70 : decode cX11_law 70 = .ok (.istore_n 1, 1) := by decide +kernel
theorem dX11_law_71 : decode cX11_law 71 = .ok (.iload_n 1, 1) := by decide +kernel
theorem dX11_law_72 : decode cX11_law 72 = .ok (.ifCond .eq 74, 3) := by decide +kernel
