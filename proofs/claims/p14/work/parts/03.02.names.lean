set_option maxRecDepth 20000 in
theorem daX10_init_63 : ∀ x ∈ ([(63, .anewarray 29, 3), (66, .putfield 31, 3), (69, .aload_n 0, 1), (70, .bipush 60, 2), (72, .anewarray 35, 3), (75, .putfield 37, 3), (78, .aload_n 0, 1), (79, .sipush 200, 3), (82, .anewarray 41, 3), (85, .putfield 43, 3), (88, .aload_n 0, 1), (89, .new 47, 3), (92, .dup, 1), (93, .invokespecial 49, 3), (96, .putfield 50, 3), (99, .aload_n 0, 1), (100, .new 54, 3), (103, .dup, 1), (104, .invokespecial 56, 3), (107, .putfield 57, 3), (110, .aload_n 0, 1), (111, .bipush 8, 2), (113, .newarray .int, 2), (115, .putfield 61, 3), (118, .aload_n 0, 1), (119, .new 65, 3), (122, .dup, 1), (123, .invokespecial 67, 3), (126, .putfield 68, 3), (129, .aload_n 0, 1), (130, .new 72, 3), (133, .dup, 1), (134, .invokespecial 74, 3), (137, .putfield 75, 3), (140, .aload_n 0, 1), (141, .new 72, 3), (144, .dup, 1), (145, .invokespecial 74, 3), (148, .putfield 79, 3), (151, .return_, 1)] : List (Nat × Instr × Nat)), decode cX10_init x.1 = .ok x.2 := by decide +kernel
theorem dX10_init_63 : decode cX10_init 63 = .ok (.anewarray 29, 3) := daX10_init_63 (63, .anewarray 29, 3) (List.mem_of_getElem? (i := 0) rfl)
theorem dX10_init_66 : decode cX10_init 66 = .ok (.putfield 31, 3) := daX10_init_63 (66, .putfield 31, 3) (List.mem_of_getElem? (i := 1) rfl)
theorem dX10_init_69 : decode cX10_init 69 = .ok (.aload_n 0, 1) := daX10_init_63 (69, .aload_n 0, 1) (List.mem_of_getElem? (i := 2) rfl)
theorem dX10_init_70 : decode cX10_init 70 = .ok (.bipush 60, 2) := daX10_init_63 (70, .bipush 60, 2) (List.mem_of_getElem? (i := 3) rfl)
theorem dX10_init_72 : decode cX10_init 72 = .ok (.anewarray 35, 3) := daX10_init_63 (72, .anewarray 35, 3) (List.mem_of_getElem? (i := 4) rfl)
theorem dX10_init_75 : decode cX10_init 75 = .ok (.putfield 37, 3) := daX10_init_63 (75, .putfield 37, 3) (List.mem_of_getElem? (i := 5) rfl)
theorem dX10_init_78 : decode cX10_init 78 = .ok (.aload_n 0, 1) := daX10_init_63 (78, .aload_n 0, 1) (List.mem_of_getElem? (i := 6) rfl)
theorem dX10_init_79 : decode cX10_init 79 = .ok (.sipush 200, 3) := daX10_init_63 (79, .sipush 200, 3) (List.mem_of_getElem? (i := 7) rfl)
theorem dX10_init_82 : decode cX10_init 82 = .ok (.anewarray 41, 3) := daX10_init_63 (82, .anewarray 41, 3) (List.mem_of_getElem? (i := 8) rfl)
theorem dX10_init_85 : decode cX10_init 85 = .ok (.putfield 43, 3) := daX10_init_63 (85, .putfield 43, 3) (List.mem_of_getElem? (i := 9) rfl)
theorem dX10_init_88 : decode cX10_init 88 = .ok (.aload_n 0, 1) := daX10_init_63 (88, .aload_n 0, 1) (List.mem_of_getElem? (i := 10) rfl)
theorem dX10_init_89 : decode cX10_init 89 = .ok (.new 47, 3) := daX10_init_63 (89, .new 47, 3) (List.mem_of_getElem? (i := 11) rfl)
theorem dX10_init_92 : decode cX10_init 92 = .ok (.dup, 1) := daX10_init_63 (92, .dup, 1) (List.mem_of_getElem? (i := 12) rfl)
theorem dX10_init_93 : decode cX10_init 93 = .ok (.invokespecial 49, 3) := daX10_init_63 (93, .invokespecial 49, 3) (List.mem_of_getElem? (i := 13) rfl)
theorem dX10_init_96 : decode cX10_init 96 = .ok (.putfield 50, 3) := daX10_init_63 (96, .putfield 50, 3) (List.mem_of_getElem? (i := 14) rfl)
theorem dX10_init_99 : decode cX10_init 99 = .ok (.aload_n 0, 1) := daX10_init_63 (99, .aload_n 0, 1) (List.mem_of_getElem? (i := 15) rfl)
theorem dX10_init_100 : decode cX10_init 100 = .ok (.new 54, 3) := daX10_init_63 (100, .new 54, 3) (List.mem_of_getElem? (i := 16) rfl)
theorem dX10_init_103 : decode cX10_init 103 = .ok (.dup, 1) := daX10_init_63 (103, .dup, 1) (List.mem_of_getElem? (i := 17) rfl)
theorem dX10_init_104 : decode cX10_init 104 = .ok (.invokespecial 56, 3) := daX10_init_63 (104, .invokespecial 56, 3) (List.mem_of_getElem? (i := 18) rfl)
theorem dX10_init_107 : decode cX10_init 107 = .ok (.putfield 57, 3) := daX10_init_63 (107, .putfield 57, 3) (List.mem_of_getElem? (i := 19) rfl)
theorem dX10_init_110 : decode cX10_init 110 = .ok (.aload_n 0, 1) := daX10_init_63 (110, .aload_n 0, 1) (List.mem_of_getElem? (i := 20) rfl)
theorem dX10_init_111 : decode cX10_init 111 = .ok (.bipush 8, 2) := daX10_init_63 (111, .bipush 8, 2) (List.mem_of_getElem? (i := 21) rfl)
theorem dX10_init_113 : decode cX10_init 113 = .ok (.newarray .int, 2) := daX10_init_63 (113, .newarray .int, 2) (List.mem_of_getElem? (i := 22) rfl)
theorem dX10_init_115 : decode cX10_init 115 = .ok (.putfield 61, 3) := daX10_init_63 (115, .putfield 61, 3) (List.mem_of_getElem? (i := 23) rfl)
theorem dX10_init_118 : decode cX10_init 118 = .ok (.aload_n 0, 1) := daX10_init_63 (118, .aload_n 0, 1) (List.mem_of_getElem? (i := 24) rfl)
theorem dX10_init_119 : decode cX10_init 119 = .ok (.new 65, 3) := daX10_init_63 (119, .new 65, 3) (List.mem_of_getElem? (i := 25) rfl)
theorem dX10_init_122 : decode cX10_init 122 = .ok (.dup, 1) := daX10_init_63 (122, .dup, 1) (List.mem_of_getElem? (i := 26) rfl)
theorem dX10_init_123 : decode cX10_init 123 = .ok (.invokespecial 67, 3) := daX10_init_63 (123, .invokespecial 67, 3) (List.mem_of_getElem? (i := 27) rfl)
theorem dX10_init_126 : decode cX10_init 126 = .ok (.putfield 68, 3) := daX10_init_63 (126, .putfield 68, 3) (List.mem_of_getElem? (i := 28) rfl)
theorem dX10_init_129 : decode cX10_init 129 = .ok (.aload_n 0, 1) := daX10_init_63 (129, .aload_n 0, 1) (List.mem_of_getElem? (i := 29) rfl)
theorem dX10_init_130 : decode cX10_init 130 = .ok (.new 72, 3) := daX10_init_63 (130, .new 72, 3) (List.mem_of_getElem? (i := 30) rfl)
theorem dX10_init_133 : decode cX10_init 133 = .ok (.dup, 1) := daX10_init_63 (133, .dup, 1) (List.mem_of_getElem? (i := 31) rfl)
theorem dX10_init_134 : decode cX10_init 134 = .ok (.invokespecial 74, 3) := daX10_init_63 (134, .invokespecial 74, 3) (List.mem_of_getElem? (i := 32) rfl)
theorem dX10_init_137 : decode cX10_init 137 = .ok (.putfield 75, 3) := daX10_init_63 (137, .putfield 75, 3) (List.mem_of_getElem? (i := 33) rfl)
theorem dX10_init_140 : decode cX10_init 140 = .ok (.aload_n 0, 1) := daX10_init_63 (140, .aload_n 0, 1) (List.mem_of_getElem? (i := 34) rfl)
theorem dX10_init_141 : decode cX10_init 141 = .ok (.new 72, 3) := daX10_init_63 (141, .new 72, 3) (List.mem_of_getElem? (i := 35) rfl)
theorem dX10_init_144 : decode cX10_init 144 = .ok (.dup, 1) := daX10_init_63 (144, .dup, 1) (List.mem_of_getElem? (i := 36) rfl)
theorem dX10_init_145 : decode cX10_init 145 = .ok (.invokespecial 74, 3) := daX10_init_63 (145, .invokespecial 74, 3) (List.mem_of_getElem? (i := 37) rfl)
theorem dX10_init_148 : decode cX10_init 148 = .ok (.putfield 79, 3) := daX10_init_63 (148, .putfield 79, 3) (List.mem_of_getElem? (i := 38) rfl)
theorem dX10_init_151 : decode cX10_init 151 = .ok (.return_, 1) := daX10_init_63 (151, .return_, 1) (List.mem_of_getElem? (i := 39) rfl)
set_option maxRecDepth 20000 in
theorem daX10_clock_0 : ∀ x ∈ ([(0, .iload_n 1, 1), (1, .aload_n 0, 1), (2, .getfield 82, 3), (5, .if_icmp .lt 10, 3), (8, .iload_n 1, 1), (9, .sipush 3000, 3), (12, .if_icmp .le 5, 3), (15, .iconst 0, 1), (16, .ireturn, 1), (17, .aload_n 0, 1), (18, .iload_n 1, 1), (19, .putfield 82, 3), (22, .iconst 1, 1), (23, .ireturn, 1)] : List (Nat × Instr × Nat)), decode cX10_clock x.1 = .ok x.2 := by decide +kernel
theorem dX10_clock_0 : decode cX10_clock 0 = .ok (.iload_n 1, 1) := daX10_clock_0 (0, .iload_n 1, 1) (List.mem_of_getElem? (i := 0) rfl)
theorem dX10_clock_1 : decode cX10_clock 1 = .ok (.aload_n 0, 1) := daX10_clock_0 (1, .aload_n 0, 1) (List.mem_of_getElem? (i := 1) rfl)
theorem dX10_clock_2 : decode cX10_clock 2 = .ok (.getfield 82, 3) := daX10_clock_0 (2, .getfield 82, 3) (List.mem_of_getElem? (i := 2) rfl)
theorem dX10_clock_5 : decode cX10_clock 5 = .ok (.if_icmp .lt 10, 3) := daX10_clock_0 (5, .if_icmp .lt 10, 3) (List.mem_of_getElem? (i := 3) rfl)
theorem dX10_clock_8 : decode cX10_clock 8 = .ok (.iload_n 1, 1) := daX10_clock_0 (8, .iload_n 1, 1) (List.mem_of_getElem? (i := 4) rfl)
theorem dX10_clock_9 : decode cX10_clock 9 = .ok (.sipush 3000, 3) := daX10_clock_0 (9, .sipush 3000, 3) (List.mem_of_getElem? (i := 5) rfl)
theorem dX10_clock_12 : decode cX10_clock 12 = .ok (.if_icmp .le 5, 3) := daX10_clock_0 (12, .if_icmp .le 5, 3) (List.mem_of_getElem? (i := 6) rfl)
theorem dX10_clock_15 : decode cX10_clock 15 = .ok (.iconst 0, 1) := daX10_clock_0 (15, .iconst 0, 1) (List.mem_of_getElem? (i := 7) rfl)
theorem dX10_clock_16 : decode cX10_clock 16 = .ok (.ireturn, 1) := daX10_clock_0 (16, .ireturn, 1) (List.mem_of_getElem? (i := 8) rfl)
theorem dX10_clock_17 : decode cX10_clock 17 = .ok (.aload_n 0, 1) := daX10_clock_0 (17, .aload_n 0, 1) (List.mem_of_getElem? (i := 9) rfl)
theorem dX10_clock_18 : decode cX10_clock 18 = .ok (.iload_n 1, 1) := daX10_clock_0 (18, .iload_n 1, 1) (List.mem_of_getElem? (i := 10) rfl)
theorem dX10_clock_19 : decode cX10_clock 19 = .ok (.putfield 82, 3) := daX10_clock_0 (19, .putfield 82, 3) (List.mem_of_getElem? (i := 11) rfl)
theorem dX10_clock_22 : decode cX10_clock 22 = .ok (.iconst 1, 1) := daX10_clock_0 (22, .iconst 1, 1) (List.mem_of_getElem? (i := 12) rfl)
theorem dX10_clock_23 : decode cX10_clock 23 = .ok (.ireturn, 1) := daX10_clock_0 (23, .ireturn, 1) (List.mem_of_getElem? (i := 13) rfl)
set_option maxRecDepth 20000 in
theorem ggX10_way_X10_isTown : GoodIn wsX10_way wsX10_isTown := goodIn_r _ [5, 6, 7, 4, 8] (by decide +kernel) (by decide +kernel)
set_option maxRecDepth 20000 in
theorem gX10_way_X10_isTown : GoodIn wsX10_way (va_wsS RX10 86 yX10_isTown wsX10_isTown) := goodIn_app (goodIn_of _ (by decide +kernel)) ggX10_way_X10_isTown
set_option maxRecDepth 20000 in
theorem ggX10_way_X10_isWithin : GoodIn wsX10_way wsX10_isWithin := goodIn_r _ [8] (by decide +kernel) (by decide +kernel)
set_option maxRecDepth 20000 in
theorem gX10_way_X10_isWithin : GoodIn wsX10_way (va_wsS RX10 90 yX10_isWithin wsX10_isWithin) := goodIn_app (goodIn_of _ (by decide +kernel)) ggX10_way_X10_isWithin
set_option maxRecDepth 20000 in
theorem ggX10_way_X9_join : GoodIn wsX10_way wsX9_join := goodIn_r _ [13, 14, 15, 33, 34, 35, 36] (by decide +kernel) (by decide +kernel)
set_option maxRecDepth 20000 in
theorem gX10_way_X9_join : GoodIn wsX10_way (wsV RX10 94 RX9 yX9_join wsX9_join) := goodIn_app (goodIn_of _ (by decide +kernel)) ggX10_way_X9_join
set_option maxRecDepth 20000 in
theorem daX10_way_0 : ∀ x ∈ ([(0, .iload_n 1, 1), (1, .invokestatic 86, 3), (4, .ifCond .eq 26, 3), (7, .iload_n 2, 1), (8, .invokestatic 86, 3), (11, .ifCond .eq 19, 3), (14, .iload_n 1, 1), (15, .iload_n 2, 1), (16, .if_icmp .eq 14, 3), (19, .iload 4, 2), (21, .iconst 0, 1), (22, .bipush 99, 2), (24, .invokestatic 90, 3), (27, .ifCond .ne 5, 3), (30, .iconst 0, 1), (31, .ireturn, 1), (32, .aload_n 0, 1), (33, .getfield 10, 3), (36, .iload_n 1, 1), (37, .iload_n 2, 1), (38, .iload_n 3, 1), (39, .iload 4, 2), (41, .invokevirtual 94, 3), (44, .iconst 1, 1), (45, .ireturn, 1)] : List (Nat × Instr × Nat)), decode cX10_way x.1 = .ok x.2 := by decide +kernel
theorem dX10_way_0 : decode cX10_way 0 = .ok (.iload_n 1, 1) := daX10_way_0 (0, .iload_n 1, 1) (List.mem_of_getElem? (i := 0) rfl)
theorem dX10_way_1 : decode cX10_way 1 = .ok (.invokestatic 86, 3) := daX10_way_0 (1, .invokestatic 86, 3) (List.mem_of_getElem? (i := 1) rfl)
theorem dX10_way_4 : decode cX10_way 4 = .ok (.ifCond .eq 26, 3) := daX10_way_0 (4, .ifCond .eq 26, 3) (List.mem_of_getElem? (i := 2) rfl)
theorem dX10_way_7 : decode cX10_way 7 = .ok (.iload_n 2, 1) := daX10_way_0 (7, .iload_n 2, 1) (List.mem_of_getElem? (i := 3) rfl)
theorem dX10_way_8 : decode cX10_way 8 = .ok (.invokestatic 86, 3) := daX10_way_0 (8, .invokestatic 86, 3) (List.mem_of_getElem? (i := 4) rfl)
theorem dX10_way_11 : decode cX10_way 11 = .ok (.ifCond .eq 19, 3) := daX10_way_0 (11, .ifCond .eq 19, 3) (List.mem_of_getElem? (i := 5) rfl)
theorem dX10_way_14 : decode cX10_way 14 = .ok (.iload_n 1, 1) := daX10_way_0 (14, .iload_n 1, 1) (List.mem_of_getElem? (i := 6) rfl)
theorem dX10_way_15 : decode cX10_way 15 = .ok (.iload_n 2, 1) := daX10_way_0 (15, .iload_n 2, 1) (List.mem_of_getElem? (i := 7) rfl)
theorem dX10_way_16 : decode cX10_way 16 = .ok (.if_icmp .eq 14, 3) := daX10_way_0 (16, .if_icmp .eq 14, 3) (List.mem_of_getElem? (i := 8) rfl)
theorem dX10_way_19 : decode cX10_way 19 = .ok (.iload 4, 2) := daX10_way_0 (19, .iload 4, 2) (List.mem_of_getElem? (i := 9) rfl)
theorem dX10_way_21 : decode cX10_way 21 = .ok (.iconst 0, 1) := daX10_way_0 (21, .iconst 0, 1) (List.mem_of_getElem? (i := 10) rfl)
theorem dX10_way_22 : decode cX10_way 22 = .ok (.bipush 99, 2) := daX10_way_0 (22, .bipush 99, 2) (List.mem_of_getElem? (i := 11) rfl)
theorem dX10_way_24 : decode cX10_way 24 = .ok (.invokestatic 90, 3) := daX10_way_0 (24, .invokestatic 90, 3) (List.mem_of_getElem? (i := 12) rfl)
theorem dX10_way_27 : decode cX10_way 27 = .ok (.ifCond .ne 5, 3) := daX10_way_0 (27, .ifCond .ne 5, 3) (List.mem_of_getElem? (i := 13) rfl)
theorem dX10_way_30 : decode cX10_way 30 = .ok (.iconst 0, 1) := daX10_way_0 (30, .iconst 0, 1) (List.mem_of_getElem? (i := 14) rfl)
theorem dX10_way_31 : decode cX10_way 31 = .ok (.ireturn, 1) := daX10_way_0 (31, .ireturn, 1) (List.mem_of_getElem? (i := 15) rfl)
theorem dX10_way_32 : decode cX10_way 32 = .ok (.aload_n 0, 1) := daX10_way_0 (32, .aload_n 0, 1) (List.mem_of_getElem? (i := 16) rfl)
theorem dX10_way_33 : decode cX10_way 33 = .ok (.getfield 10, 3) := daX10_way_0 (33, .getfield 10, 3) (List.mem_of_getElem? (i := 17) rfl)
theorem dX10_way_36 : decode cX10_way 36 = .ok (.iload_n 1, 1) := daX10_way_0 (36, .iload_n 1, 1) (List.mem_of_getElem? (i := 18) rfl)
theorem dX10_way_37 : decode cX10_way 37 = .ok (.iload_n 2, 1) := daX10_way_0 (37, .iload_n 2, 1) (List.mem_of_getElem? (i := 19) rfl)
theorem dX10_way_38 : decode cX10_way 38 = .ok (.iload_n 3, 1) := daX10_way_0 (38, .iload_n 3, 1) (List.mem_of_getElem? (i := 20) rfl)
theorem dX10_way_39 : decode cX10_way 39 = .ok (.iload 4, 2) := daX10_way_0 (39, .iload 4, 2) (List.mem_of_getElem? (i := 21) rfl)
theorem dX10_way_41 : decode cX10_way 41 = .ok (.invokevirtual 94, 3) := daX10_way_0 (41, .invokevirtual 94, 3) (List.mem_of_getElem? (i := 22) rfl)
theorem dX10_way_44 : decode cX10_way 44 = .ok (.iconst 1, 1) := daX10_way_0 (44, .iconst 1, 1) (List.mem_of_getElem? (i := 23) rfl)
theorem dX10_way_45 : decode cX10_way 45 = .ok (.ireturn, 1) := daX10_way_0 (45, .ireturn, 1) (List.mem_of_getElem? (i := 24) rfl)
set_option maxRecDepth 20000 in
theorem ggX10_rate_X10_isTown : GoodIn wsX10_rate wsX10_isTown := goodIn_r _ [8, 9, 10, 7, 11] (by decide +kernel) (by decide +kernel)
set_option maxRecDepth 20000 in
theorem gX10_rate_X10_isTown : GoodIn wsX10_rate (va_wsS RX10 86 yX10_isTown wsX10_isTown) := goodIn_app (goodIn_of _ (by decide +kernel)) ggX10_rate_X10_isTown
set_option maxRecDepth 20000 in
theorem ggX10_rate_X10_isWithin : GoodIn wsX10_rate wsX10_isWithin := goodIn_r _ [11] (by decide +kernel) (by decide +kernel)
set_option maxRecDepth 20000 in
theorem gX10_rate_X10_isWithin : GoodIn wsX10_rate (va_wsS RX10 90 yX10_isWithin wsX10_isWithin) := goodIn_app (goodIn_of _ (by decide +kernel)) ggX10_rate_X10_isWithin
set_option maxRecDepth 20000 in
theorem daX10_rate_0 : ∀ x ∈ ([(0, .iload_n 1, 1), (1, .invokestatic 86, 3), (4, .ifCond .eq 22, 3), (7, .iload_n 2, 1), (8, .iconst 0, 1), (9, .iconst 3, 1), (10, .invokestatic 90, 3), (13, .ifCond .eq 13, 3), (16, .iload_n 3, 1), (17, .iconst 1, 1), (18, .ldc 98, 2), (20, .invokestatic 90, 3), (23, .ifCond .ne 5, 3), (26, .iconst 0, 1), (27, .ireturn, 1), (28, .aload_n 0, 1), (29, .getfield 18, 3), (32, .iload_n 1, 1), (33, .aaload, 1), (34, .iload_n 2, 1), (35, .putfield 99, 3), (38, .aload_n 0, 1), (39, .getfield 18, 3), (42, .iload_n 1, 1), (43, .aaload, 1), (44, .iload_n 3, 1), (45, .putfield 102, 3), (48, .iconst 1, 1), (49, .ireturn, 1)] : List (Nat × Instr × Nat)), decode cX10_rate x.1 = .ok x.2 := by decide +kernel
theorem dX10_rate_0 : decode cX10_rate 0 = .ok (.iload_n 1, 1) := daX10_rate_0 (0, .iload_n 1, 1) (List.mem_of_getElem? (i := 0) rfl)
theorem dX10_rate_1 : decode cX10_rate 1 = .ok (.invokestatic 86, 3) := daX10_rate_0 (1, .invokestatic 86, 3) (List.mem_of_getElem? (i := 1) rfl)
theorem dX10_rate_4 : decode cX10_rate 4 = .ok (.ifCond .eq 22, 3) := daX10_rate_0 (4, .ifCond .eq 22, 3) (List.mem_of_getElem? (i := 2) rfl)
theorem dX10_rate_7 : decode cX10_rate 7 = .ok (.iload_n 2, 1) := daX10_rate_0 (7, .iload_n 2, 1) (List.mem_of_getElem? (i := 3) rfl)
theorem dX10_rate_8 : decode cX10_rate 8 = .ok (.iconst 0, 1) := daX10_rate_0 (8, .iconst 0, 1) (List.mem_of_getElem? (i := 4) rfl)
theorem dX10_rate_9 : decode cX10_rate 9 = .ok (.iconst 3, 1) := daX10_rate_0 (9, .iconst 3, 1) (List.mem_of_getElem? (i := 5) rfl)
theorem dX10_rate_10 : decode cX10_rate 10 = .ok (.invokestatic 90, 3) := daX10_rate_0 (10, .invokestatic 90, 3) (List.mem_of_getElem? (i := 6) rfl)
theorem dX10_rate_13 : decode cX10_rate 13 = .ok (.ifCond .eq 13, 3) := daX10_rate_0 (13, .ifCond .eq 13, 3) (List.mem_of_getElem? (i := 7) rfl)
theorem dX10_rate_16 : decode cX10_rate 16 = .ok (.iload_n 3, 1) := daX10_rate_0 (16, .iload_n 3, 1) (List.mem_of_getElem? (i := 8) rfl)
theorem dX10_rate_17 : decode cX10_rate 17 = .ok (.iconst 1, 1) := daX10_rate_0 (17, .iconst 1, 1) (List.mem_of_getElem? (i := 9) rfl)
theorem dX10_rate_18 : decode cX10_rate 18 = .ok (.ldc 98, 2) := daX10_rate_0 (18, .ldc 98, 2) (List.mem_of_getElem? (i := 10) rfl)
theorem dX10_rate_20 : decode cX10_rate 20 = .ok (.invokestatic 90, 3) := daX10_rate_0 (20, .invokestatic 90, 3) (List.mem_of_getElem? (i := 11) rfl)
theorem dX10_rate_23 : decode cX10_rate 23 = .ok (.ifCond .ne 5, 3) := daX10_rate_0 (23, .ifCond .ne 5, 3) (List.mem_of_getElem? (i := 12) rfl)
theorem dX10_rate_26 : decode cX10_rate 26 = .ok (.iconst 0, 1) := daX10_rate_0 (26, .iconst 0, 1) (List.mem_of_getElem? (i := 13) rfl)
theorem dX10_rate_27 : decode cX10_rate 27 = .ok (.ireturn, 1) := daX10_rate_0 (27, .ireturn, 1) (List.mem_of_getElem? (i := 14) rfl)
theorem dX10_rate_28 : decode cX10_rate 28 = .ok (.aload_n 0, 1) := daX10_rate_0 (28, .aload_n 0, 1) (List.mem_of_getElem? (i := 15) rfl)
theorem dX10_rate_29 : decode cX10_rate 29 = .ok (.getfield 18, 3) := daX10_rate_0 (29, .getfield 18, 3) (List.mem_of_getElem? (i := 16) rfl)
theorem dX10_rate_32 : decode cX10_rate 32 = .ok (.iload_n 1, 1) := daX10_rate_0 (32, .iload_n 1, 1) (List.mem_of_getElem? (i := 17) rfl)
theorem dX10_rate_33 : decode cX10_rate 33 = .ok (.aaload, 1) := daX10_rate_0 (33, .aaload, 1) (List.mem_of_getElem? (i := 18) rfl)
theorem dX10_rate_34 : decode cX10_rate 34 = .ok (.iload_n 2, 1) := daX10_rate_0 (34, .iload_n 2, 1) (List.mem_of_getElem? (i := 19) rfl)
theorem dX10_rate_35 : decode cX10_rate 35 = .ok (.putfield 99, 3) := daX10_rate_0 (35, .putfield 99, 3) (List.mem_of_getElem? (i := 20) rfl)
theorem dX10_rate_38 : decode cX10_rate 38 = .ok (.aload_n 0, 1) := daX10_rate_0 (38, .aload_n 0, 1) (List.mem_of_getElem? (i := 21) rfl)
theorem dX10_rate_39 : decode cX10_rate 39 = .ok (.getfield 18, 3) := daX10_rate_0 (39, .getfield 18, 3) (List.mem_of_getElem? (i := 22) rfl)
theorem dX10_rate_42 : decode cX10_rate 42 = .ok (.iload_n 1, 1) := daX10_rate_0 (42, .iload_n 1, 1) (List.mem_of_getElem? (i := 23) rfl)
theorem dX10_rate_43 : decode cX10_rate 43 = .ok (.aaload, 1) := daX10_rate_0 (43, .aaload, 1) (List.mem_of_getElem? (i := 24) rfl)
theorem dX10_rate_44 : decode cX10_rate 44 = .ok (.iload_n 3, 1) := daX10_rate_0 (44, .iload_n 3, 1) (List.mem_of_getElem? (i := 25) rfl)
theorem dX10_rate_45 : decode cX10_rate 45 = .ok (.putfield 102, 3) := daX10_rate_0 (45, .putfield 102, 3) (List.mem_of_getElem? (i := 26) rfl)
theorem dX10_rate_48 : decode cX10_rate 48 = .ok (.iconst 1, 1) := daX10_rate_0 (48, .iconst 1, 1) (List.mem_of_getElem? (i := 27) rfl)
theorem dX10_rate_49 : decode cX10_rate 49 = .ok (.ireturn, 1) := daX10_rate_0 (49, .ireturn, 1) (List.mem_of_getElem? (i := 28) rfl)
set_option maxRecDepth 20000 in
theorem ggX10_book_X10_isWithin : GoodIn wsX10_book wsX10_isWithin := goodIn_r _ [4] (by decide +kernel) (by decide +kernel)
set_option maxRecDepth 20000 in
theorem gX10_book_X10_isWithin : GoodIn wsX10_book (va_wsS RX10 90 yX10_isWithin wsX10_isWithin) := goodIn_app (goodIn_of _ (by decide +kernel)) ggX10_book_X10_isWithin
set_option maxRecDepth 20000 in
theorem ggX10_book_X10_addPaper : GoodIn wsX10_book wsX10_addPaper := goodIn_r _ [8, 9, 10, 11, 12, 13, 14, 15, 16, 3, 17, 18, 1, 2, 4, 19, 20, 21, 22, 23, 24, 25, 26, 27, 28, 29, 30, 31, 32, 33, 34, 35, 36, 37, 38, 39, 40, 41, 42, 43, 44, 45, 46, 47, 48, 49, 50, 51, 52, 53, 54, 55] (by decide +kernel) (by decide +kernel)
set_option maxRecDepth 20000 in
theorem gX10_book_X10_addPaper : GoodIn wsX10_book (wsV RX10 105 RX10 yX10_addPaper wsX10_addPaper) := goodIn_app (goodIn_of _ (by decide +kernel)) ggX10_book_X10_addPaper
set_option maxRecDepth 20000 in
theorem daX10_book_0 : ∀ x ∈ ([(0, .iload_n 1, 1), (1, .iconst 1, 1), (2, .bipush 20, 2), (4, .invokestatic 90, 3), (7, .ifCond .eq 14, 3), (10, .iload_n 2, 1), (11, .iconst 1, 1), (12, .sipush 10000, 3), (15, .invokestatic 90, 3), (18, .ifCond .ne 5, 3), (21, .iconst (-1), 1), (22, .ireturn, 1), (23, .aload_n 0, 1), (24, .iload_n 1, 1), (25, .iload_n 2, 1), (26, .iload_n 3, 1), (27, .iload 4, 2), (29, .invokevirtual 105, 3), (32, .ireturn, 1)] : List (Nat × Instr × Nat)), decode cX10_book x.1 = .ok x.2 := by decide +kernel
theorem dX10_book_0 : decode cX10_book 0 = .ok (.iload_n 1, 1) := daX10_book_0 (0, .iload_n 1, 1) (List.mem_of_getElem? (i := 0) rfl)
theorem dX10_book_1 : decode cX10_book 1 = .ok (.iconst 1, 1) := daX10_book_0 (1, .iconst 1, 1) (List.mem_of_getElem? (i := 1) rfl)
theorem dX10_book_2 : decode cX10_book 2 = .ok (.bipush 20, 2) := daX10_book_0 (2, .bipush 20, 2) (List.mem_of_getElem? (i := 2) rfl)
theorem dX10_book_4 : decode cX10_book 4 = .ok (.invokestatic 90, 3) := daX10_book_0 (4, .invokestatic 90, 3) (List.mem_of_getElem? (i := 3) rfl)
theorem dX10_book_7 : decode cX10_book 7 = .ok (.ifCond .eq 14, 3) := daX10_book_0 (7, .ifCond .eq 14, 3) (List.mem_of_getElem? (i := 4) rfl)
theorem dX10_book_10 : decode cX10_book 10 = .ok (.iload_n 2, 1) := daX10_book_0 (10, .iload_n 2, 1) (List.mem_of_getElem? (i := 5) rfl)
theorem dX10_book_11 : decode cX10_book 11 = .ok (.iconst 1, 1) := daX10_book_0 (11, .iconst 1, 1) (List.mem_of_getElem? (i := 6) rfl)
theorem dX10_book_12 : decode cX10_book 12 = .ok (.sipush 10000, 3) := daX10_book_0 (12, .sipush 10000, 3) (List.mem_of_getElem? (i := 7) rfl)
theorem dX10_book_15 : decode cX10_book 15 = .ok (.invokestatic 90, 3) := daX10_book_0 (15, .invokestatic 90, 3) (List.mem_of_getElem? (i := 8) rfl)
theorem dX10_book_18 : decode cX10_book 18 = .ok (.ifCond .ne 5, 3) := daX10_book_0 (18, .ifCond .ne 5, 3) (List.mem_of_getElem? (i := 9) rfl)
theorem dX10_book_21 : decode cX10_book 21 = .ok (.iconst (-1), 1) := daX10_book_0 (21, .iconst (-1), 1) (List.mem_of_getElem? (i := 10) rfl)
theorem dX10_book_22 : decode cX10_book 22 = .ok (.ireturn, 1) := daX10_book_0 (22, .ireturn, 1) (List.mem_of_getElem? (i := 11) rfl)
theorem dX10_book_23 : decode cX10_book 23 = .ok (.aload_n 0, 1) := daX10_book_0 (23, .aload_n 0, 1) (List.mem_of_getElem? (i := 12) rfl)
theorem dX10_book_24 : decode cX10_book 24 = .ok (.iload_n 1, 1) := daX10_book_0 (24, .iload_n 1, 1) (List.mem_of_getElem? (i := 13) rfl)
theorem dX10_book_25 : decode cX10_book 25 = .ok (.iload_n 2, 1) := daX10_book_0 (25, .iload_n 2, 1) (List.mem_of_getElem? (i := 14) rfl)
theorem dX10_book_26 : decode cX10_book 26 = .ok (.iload_n 3, 1) := daX10_book_0 (26, .iload_n 3, 1) (List.mem_of_getElem? (i := 15) rfl)
theorem dX10_book_27 : decode cX10_book 27 = .ok (.iload 4, 2) := daX10_book_0 (27, .iload 4, 2) (List.mem_of_getElem? (i := 16) rfl)
theorem dX10_book_29 : decode cX10_book 29 = .ok (.invokevirtual 105, 3) := daX10_book_0 (29, .invokevirtual 105, 3) (List.mem_of_getElem? (i := 17) rfl)
theorem dX10_book_32 : decode cX10_book 32 = .ok (.ireturn, 1) := daX10_book_0 (32, .ireturn, 1) (List.mem_of_getElem? (i := 18) rfl)
set_option maxRecDepth 20000 in
theorem ggX10_credit_X10_isWithin : GoodIn wsX10_credit wsX10_isWithin := goodIn_r _ [5] (by decide +kernel) (by decide +kernel)
set_option maxRecDepth 20000 in
theorem gX10_credit_X10_isWithin : GoodIn wsX10_credit (va_wsS RX10 90 yX10_isWithin wsX10_isWithin) := goodIn_app (goodIn_of _ (by decide +kernel)) ggX10_credit_X10_isWithin
set_option maxRecDepth 20000 in
theorem ggX10_credit_X10_addPaper : GoodIn wsX10_credit wsX10_addPaper := goodIn_r _ [9, 10, 11, 12, 13, 14, 15, 16, 17, 4, 18, 19, 2, 3, 5, 20, 21, 22, 23, 24, 25, 26, 27, 28, 29, 30, 31, 32, 33, 34, 35, 36, 37, 38, 39, 40, 41, 42, 43, 44, 45, 46, 47, 48, 49, 50, 51, 52, 53, 54, 55, 56] (by decide +kernel) (by decide +kernel)
set_option maxRecDepth 20000 in
theorem gX10_credit_X10_addPaper : GoodIn wsX10_credit (wsV RX10 105 RX10 yX10_addPaper wsX10_addPaper) := goodIn_app (goodIn_of _ (by decide +kernel)) ggX10_credit_X10_addPaper
set_option maxRecDepth 20000 in
theorem daX10_credit_0 : ∀ x ∈ ([(0, .iload_n 1, 1), (1, .iconst 1, 1), (2, .ldc 98, 2), (4, .invokestatic 90, 3), (7, .ifCond .ne 5, 3), (10, .iconst (-1), 1), (11, .ireturn, 1), (12, .aload_n 0, 1), (13, .iconst 0, 1), (14, .iload_n 1, 1), (15, .iload_n 2, 1), (16, .iload_n 3, 1), (17, .invokevirtual 105, 3), (20, .ireturn, 1)] : List (Nat × Instr × Nat)), decode cX10_credit x.1 = .ok x.2 := by decide +kernel
theorem dX10_credit_0 : decode cX10_credit 0 = .ok (.iload_n 1, 1) := daX10_credit_0 (0, .iload_n 1, 1) (List.mem_of_getElem? (i := 0) rfl)
theorem dX10_credit_1 : decode cX10_credit 1 = .ok (.iconst 1, 1) := daX10_credit_0 (1, .iconst 1, 1) (List.mem_of_getElem? (i := 1) rfl)
theorem dX10_credit_2 : decode cX10_credit 2 = .ok (.ldc 98, 2) := daX10_credit_0 (2, .ldc 98, 2) (List.mem_of_getElem? (i := 2) rfl)
theorem dX10_credit_4 : decode cX10_credit 4 = .ok (.invokestatic 90, 3) := daX10_credit_0 (4, .invokestatic 90, 3) (List.mem_of_getElem? (i := 3) rfl)
theorem dX10_credit_7 : decode cX10_credit 7 = .ok (.ifCond .ne 5, 3) := daX10_credit_0 (7, .ifCond .ne 5, 3) (List.mem_of_getElem? (i := 4) rfl)
theorem dX10_credit_10 : decode cX10_credit 10 = .ok (.iconst (-1), 1) := daX10_credit_0 (10, .iconst (-1), 1) (List.mem_of_getElem? (i := 5) rfl)
theorem dX10_credit_11 : decode cX10_credit 11 = .ok (.ireturn, 1) := daX10_credit_0 (11, .ireturn, 1) (List.mem_of_getElem? (i := 6) rfl)
theorem dX10_credit_12 : decode cX10_credit 12 = .ok (.aload_n 0, 1) := daX10_credit_0 (12, .aload_n 0, 1) (List.mem_of_getElem? (i := 7) rfl)
theorem dX10_credit_13 : decode cX10_credit 13 = .ok (.iconst 0, 1) := daX10_credit_0 (13, .iconst 0, 1) (List.mem_of_getElem? (i := 8) rfl)
theorem dX10_credit_14 : decode cX10_credit 14 = .ok (.iload_n 1, 1) := daX10_credit_0 (14, .iload_n 1, 1) (List.mem_of_getElem? (i := 9) rfl)
theorem dX10_credit_15 : decode cX10_credit 15 = .ok (.iload_n 2, 1) := daX10_credit_0 (15, .iload_n 2, 1) (List.mem_of_getElem? (i := 10) rfl)
theorem dX10_credit_16 : decode cX10_credit 16 = .ok (.iload_n 3, 1) := daX10_credit_0 (16, .iload_n 3, 1) (List.mem_of_getElem? (i := 11) rfl)
theorem dX10_credit_17 : decode cX10_credit 17 = .ok (.invokevirtual 105, 3) := daX10_credit_0 (17, .invokevirtual 105, 3) (List.mem_of_getElem? (i := 12) rfl)
theorem dX10_credit_20 : decode cX10_credit 20 = .ok (.ireturn, 1) := daX10_credit_0 (20, .ireturn, 1) (List.mem_of_getElem? (i := 13) rfl)
set_option maxRecDepth 20000 in
theorem ggX10_advise_X10_paperAt : GoodIn wsX10_advise wsX10_paperAt := goodIn_r _ [10, 11, 12, 62, 63, 64, 65, 66, 67, 68, 69, 70, 71, 72, 73, 74, 75, 76, 77, 78] (by decide +kernel) (by decide +kernel)
set_option maxRecDepth 20000 in
theorem gX10_advise_X10_paperAt : GoodIn wsX10_advise (wsV RX10 112 RX10 yX10_paperAt wsX10_paperAt) := goodIn_app (goodIn_of _ (by decide +kernel)) ggX10_advise_X10_paperAt
set_option maxRecDepth 20000 in
theorem ggX10_advise_X10_isTown : GoodIn wsX10_advise wsX10_isTown := goodIn_r _ [15, 16, 17, 9, 18] (by decide +kernel) (by decide +kernel)
set_option maxRecDepth 20000 in
theorem gX10_advise_X10_isTown : GoodIn wsX10_advise (va_wsS RX10 86 yX10_isTown wsX10_isTown) := goodIn_app (goodIn_of _ (by decide +kernel)) ggX10_advise_X10_isTown
set_option maxRecDepth 20000 in
theorem ggX10_advise_X10_letterDay : GoodIn wsX10_advise wsX10_letterDay := goodIn_r _ [22, 23, 24, 25, 26, 27, 28, 29, 30, 31, 32, 33, 34, 35, 36, 37, 38, 39, 40, 41, 42, 43, 44, 45, 46, 47, 48, 49, 50, 51, 62, 63, 64, 65, 66, 67, 68, 69, 70, 71, 72, 73, 74, 75, 76, 77, 78, 83, 84, 85, 86] (by decide +kernel) (by decide +kernel)
set_option maxRecDepth 20000 in
theorem gX10_advise_X10_letterDay : GoodIn wsX10_advise (wsV RX10 116 RX10 yX10_letterDay wsX10_letterDay) := goodIn_app (goodIn_of _ (by decide +kernel)) ggX10_advise_X10_letterDay
set_option maxRecDepth 20000 in
theorem ggX10_advise_X0_init : GoodIn wsX10_advise wsX0_init := goodIn_r _ [54, 55, 56, 57, 58, 59, 60, 61, 79, 80, 81, 82] (by decide +kernel) (by decide +kernel)
set_option maxRecDepth 20000 in
theorem gX10_advise_X0_init : GoodIn wsX10_advise (wsX0_init) := ggX10_advise_X0_init
set_option maxRecDepth 20000 in
theorem daX10_advise_0 : ∀ x ∈ ([(0, .aload_n 0, 1), (1, .getfield 109, 3), (4, .bipush 60, 2), (6, .if_icmp .ge 18, 3), (9, .aload_n 0, 1), (10, .iload_n 1, 1), (11, .invokevirtual 112, 3), (14, .ifnull 10, 3), (17, .iload_n 2, 1), (18, .invokestatic 86, 3), (21, .ifCond .ne 5, 3), (24, .iconst (-1), 1), (25, .ireturn, 1), (26, .aload_n 0, 1), (27, .getfield 31, 3), (30, .aload_n 0, 1), (31, .getfield 109, 3), (34, .new 29, 3), (37, .dup, 1), (38, .iload_n 1, 1), (39, .iload_n 2, 1), (40, .aload_n 0, 1), (41, .iconst 0, 1), (42, .iload_n 2, 1), (43, .invokevirtual 116, 3), (46, .invokespecial 120, 3), (49, .aastore, 1), (50, .aload_n 0, 1), (51, .dup, 1), (52, .getfield 109, 3), (55, .iconst 1, 1), (56, .iadd, 1), (57, .putfield 109, 3), (60, .aload_n 0, 1), (61, .getfield 109, 3), (64, .iconst 1, 1), (65, .isub, 1), (66, .ireturn, 1)] : List (Nat × Instr × Nat)), decode cX10_advise x.1 = .ok x.2 := by decide +kernel
theorem dX10_advise_0 : decode cX10_advise 0 = .ok (.aload_n 0, 1) := daX10_advise_0 (0, .aload_n 0, 1) (List.mem_of_getElem? (i := 0) rfl)
theorem dX10_advise_1 : decode cX10_advise 1 = .ok (.getfield 109, 3) := daX10_advise_0 (1, .getfield 109, 3) (List.mem_of_getElem? (i := 1) rfl)
theorem dX10_advise_4 : decode cX10_advise 4 = .ok (.bipush 60, 2) := daX10_advise_0 (4, .bipush 60, 2) (List.mem_of_getElem? (i := 2) rfl)
theorem dX10_advise_6 : decode cX10_advise 6 = .ok (.if_icmp .ge 18, 3) := daX10_advise_0 (6, .if_icmp .ge 18, 3) (List.mem_of_getElem? (i := 3) rfl)
theorem dX10_advise_9 : decode cX10_advise 9 = .ok (.aload_n 0, 1) := daX10_advise_0 (9, .aload_n 0, 1) (List.mem_of_getElem? (i := 4) rfl)
theorem dX10_advise_10 : decode cX10_advise 10 = .ok (.iload_n 1, 1) := daX10_advise_0 (10, .iload_n 1, 1) (List.mem_of_getElem? (i := 5) rfl)
theorem dX10_advise_11 : decode cX10_advise 11 = .ok (.invokevirtual 112, 3) := daX10_advise_0 (11, .invokevirtual 112, 3) (List.mem_of_getElem? (i := 6) rfl)
theorem dX10_advise_14 : decode cX10_advise 14 = .ok (.ifnull 10, 3) := daX10_advise_0 (14, .ifnull 10, 3) (List.mem_of_getElem? (i := 7) rfl)
theorem dX10_advise_17 : decode cX10_advise 17 = .ok (.iload_n 2, 1) := daX10_advise_0 (17, .iload_n 2, 1) (List.mem_of_getElem? (i := 8) rfl)
theorem dX10_advise_18 : decode cX10_advise 18 = .ok (.invokestatic 86, 3) := daX10_advise_0 (18, .invokestatic 86, 3) (List.mem_of_getElem? (i := 9) rfl)
theorem dX10_advise_21 : decode cX10_advise 21 = .ok (.ifCond .ne 5, 3) := daX10_advise_0 (21, .ifCond .ne 5, 3) (List.mem_of_getElem? (i := 10) rfl)
theorem dX10_advise_24 : decode cX10_advise 24 = .ok (.iconst (-1), 1) := daX10_advise_0 (24, .iconst (-1), 1) (List.mem_of_getElem? (i := 11) rfl)
theorem dX10_advise_25 : decode cX10_advise 25 = .ok (.ireturn, 1) := daX10_advise_0 (25, .ireturn, 1) (List.mem_of_getElem? (i := 12) rfl)
theorem dX10_advise_26 : decode cX10_advise 26 = .ok (.aload_n 0, 1) := daX10_advise_0 (26, .aload_n 0, 1) (List.mem_of_getElem? (i := 13) rfl)
theorem dX10_advise_27 : decode cX10_advise 27 = .ok (.getfield 31, 3) := daX10_advise_0 (27, .getfield 31, 3) (List.mem_of_getElem? (i := 14) rfl)
theorem dX10_advise_30 : decode cX10_advise 30 = .ok (.aload_n 0, 1) := daX10_advise_0 (30, .aload_n 0, 1) (List.mem_of_getElem? (i := 15) rfl)
theorem dX10_advise_31 : decode cX10_advise 31 = .ok (.getfield 109, 3) := daX10_advise_0 (31, .getfield 109, 3) (List.mem_of_getElem? (i := 16) rfl)
theorem dX10_advise_34 : decode cX10_advise 34 = .ok (.new 29, 3) := daX10_advise_0 (34, .new 29, 3) (List.mem_of_getElem? (i := 17) rfl)
theorem dX10_advise_37 : decode cX10_advise 37 = .ok (.dup, 1) := daX10_advise_0 (37, .dup, 1) (List.mem_of_getElem? (i := 18) rfl)
theorem dX10_advise_38 : decode cX10_advise 38 = .ok (.iload_n 1, 1) := daX10_advise_0 (38, .iload_n 1, 1) (List.mem_of_getElem? (i := 19) rfl)
theorem dX10_advise_39 : decode cX10_advise 39 = .ok (.iload_n 2, 1) := daX10_advise_0 (39, .iload_n 2, 1) (List.mem_of_getElem? (i := 20) rfl)
theorem dX10_advise_40 : decode cX10_advise 40 = .ok (.aload_n 0, 1) := daX10_advise_0 (40, .aload_n 0, 1) (List.mem_of_getElem? (i := 21) rfl)
theorem dX10_advise_41 : decode cX10_advise 41 = .ok (.iconst 0, 1) := daX10_advise_0 (41, .iconst 0, 1) (List.mem_of_getElem? (i := 22) rfl)
theorem dX10_advise_42 : decode cX10_advise 42 = .ok (.iload_n 2, 1) := daX10_advise_0 (42, .iload_n 2, 1) (List.mem_of_getElem? (i := 23) rfl)
theorem dX10_advise_43 : decode cX10_advise 43 = .ok (.invokevirtual 116, 3) := daX10_advise_0 (43, .invokevirtual 116, 3) (List.mem_of_getElem? (i := 24) rfl)
theorem dX10_advise_46 : decode cX10_advise 46 = .ok (.invokespecial 120, 3) := daX10_advise_0 (46, .invokespecial 120, 3) (List.mem_of_getElem? (i := 25) rfl)
theorem dX10_advise_49 : decode cX10_advise 49 = .ok (.aastore, 1) := daX10_advise_0 (49, .aastore, 1) (List.mem_of_getElem? (i := 26) rfl)
theorem dX10_advise_50 : decode cX10_advise 50 = .ok (.aload_n 0, 1) := daX10_advise_0 (50, .aload_n 0, 1) (List.mem_of_getElem? (i := 27) rfl)
theorem dX10_advise_51 : decode cX10_advise 51 = .ok (.dup, 1) := daX10_advise_0 (51, .dup, 1) (List.mem_of_getElem? (i := 28) rfl)
theorem dX10_advise_52 : decode cX10_advise 52 = .ok (.getfield 109, 3) := daX10_advise_0 (52, .getfield 109, 3) (List.mem_of_getElem? (i := 29) rfl)
theorem dX10_advise_55 : decode cX10_advise 55 = .ok (.iconst 1, 1) := daX10_advise_0 (55, .iconst 1, 1) (List.mem_of_getElem? (i := 30) rfl)
theorem dX10_advise_56 : decode cX10_advise 56 = .ok (.iadd, 1) := daX10_advise_0 (56, .iadd, 1) (List.mem_of_getElem? (i := 31) rfl)
theorem dX10_advise_57 : decode cX10_advise 57 = .ok (.putfield 109, 3) := daX10_advise_0 (57, .putfield 109, 3) (List.mem_of_getElem? (i := 32) rfl)
theorem dX10_advise_60 : decode cX10_advise 60 = .ok (.aload_n 0, 1) := daX10_advise_0 (60, .aload_n 0, 1) (List.mem_of_getElem? (i := 33) rfl)
theorem dX10_advise_61 : decode cX10_advise 61 = .ok (.getfield 109, 3) := daX10_advise_0 (61, .getfield 109, 3) (List.mem_of_getElem? (i := 34) rfl)
theorem dX10_advise_64 : decode cX10_advise 64 = .ok (.iconst 1, 1) := daX10_advise_0 (64, .iconst 1, 1) (List.mem_of_getElem? (i := 35) rfl)
theorem dX10_advise_65 : decode cX10_advise 65 = .ok (.isub, 1) := daX10_advise_0 (65, .isub, 1) (List.mem_of_getElem? (i := 36) rfl)
theorem dX10_advise_66 : decode cX10_advise 66 = .ok (.ireturn, 1) := daX10_advise_0 (66, .ireturn, 1) (List.mem_of_getElem? (i := 37) rfl)
set_option maxRecDepth 20000 in
theorem ggX10_lose_X10_adviceAt : GoodIn wsX10_lose wsX10_adviceAt := goodIn_r _ [8, 9, 10, 18, 19, 20, 21, 22, 23, 24, 25, 26, 27, 28, 29, 30, 31, 32, 33, 34] (by decide +kernel) (by decide +kernel)
set_option maxRecDepth 20000 in
theorem gX10_lose_X10_adviceAt : GoodIn wsX10_lose (wsV RX10 123 RX10 yX10_adviceAt wsX10_adviceAt) := goodIn_app (goodIn_of _ (by decide +kernel)) ggX10_lose_X10_adviceAt
set_option maxRecDepth 20000 in
theorem ggX10_lose_X10_hasCome : GoodIn wsX10_lose wsX10_hasCome := goodIn_r _ [13] (by decide +kernel) (by decide +kernel)
set_option maxRecDepth 20000 in
theorem gX10_lose_X10_hasCome : GoodIn wsX10_lose (va_wsS RX10 134 yX10_hasCome wsX10_hasCome) := goodIn_app (goodIn_of _ (by decide +kernel)) ggX10_lose_X10_hasCome
set_option maxRecDepth 20000 in
theorem daX10_lose_0 : ∀ x ∈ ([(0, .aload_n 0, 1), (1, .iload_n 1, 1), (2, .invokevirtual 123, 3), (5, .astore_n 2, 1), (6, .aload_n 2, 1), (7, .ifnull 24, 3), (10, .aload_n 2, 1), (11, .getfield 127, 3), (14, .ifCond .ne 17, 3), (17, .aload_n 2, 1), (18, .getfield 131, 3), (21, .aload_n 0, 1), (22, .getfield 82, 3), (25, .invokestatic 134, 3), (28, .ifCond .eq 5, 3), (31, .iconst 0, 1), (32, .ireturn, 1), (33, .aload_n 2, 1), (34, .iconst 1, 1), (35, .putfield 127, 3), (38, .aload_n 2, 1), (39, .iconst (-1), 1), (40, .putfield 131, 3), (43, .iconst 1, 1), (44, .ireturn, 1)] : List (Nat × Instr × Nat)), decode cX10_lose x.1 = .ok x.2 := by decide +kernel
theorem dX10_lose_0 : decode cX10_lose 0 = .ok (.aload_n 0, 1) := daX10_lose_0 (0, .aload_n 0, 1) (List.mem_of_getElem? (i := 0) rfl)
theorem dX10_lose_1 : decode cX10_lose 1 = .ok (.iload_n 1, 1) := daX10_lose_0 (1, .iload_n 1, 1) (List.mem_of_getElem? (i := 1) rfl)
theorem dX10_lose_2 : decode cX10_lose 2 = .ok (.invokevirtual 123, 3) := daX10_lose_0 (2, .invokevirtual 123, 3) (List.mem_of_getElem? (i := 2) rfl)
theorem dX10_lose_5 : decode cX10_lose 5 = .ok (.astore_n 2, 1) := daX10_lose_0 (5, .astore_n 2, 1) (List.mem_of_getElem? (i := 3) rfl)
theorem dX10_lose_6 : decode cX10_lose 6 = .ok (.aload_n 2, 1) := daX10_lose_0 (6, .aload_n 2, 1) (List.mem_of_getElem? (i := 4) rfl)
theorem dX10_lose_7 : decode cX10_lose 7 = .ok (.ifnull 24, 3) := daX10_lose_0 (7, .ifnull 24, 3) (List.mem_of_getElem? (i := 5) rfl)
theorem dX10_lose_10 : decode cX10_lose 10 = .ok (.aload_n 2, 1) := daX10_lose_0 (10, .aload_n 2, 1) (List.mem_of_getElem? (i := 6) rfl)
theorem dX10_lose_11 : decode cX10_lose 11 = .ok (.getfield 127, 3) := daX10_lose_0 (11, .getfield 127, 3) (List.mem_of_getElem? (i := 7) rfl)
theorem dX10_lose_14 : decode cX10_lose 14 = .ok (.ifCond .ne 17, 3) := daX10_lose_0 (14, .ifCond .ne 17, 3) (List.mem_of_getElem? (i := 8) rfl)
theorem dX10_lose_17 : decode cX10_lose 17 = .ok (.aload_n 2, 1) := daX10_lose_0 (17, .aload_n 2, 1) (List.mem_of_getElem? (i := 9) rfl)
theorem dX10_lose_18 : decode cX10_lose 18 = .ok (.getfield 131, 3) := daX10_lose_0 (18, .getfield 131, 3) (List.mem_of_getElem? (i := 10) rfl)
theorem dX10_lose_21 : decode cX10_lose 21 = .ok (.aload_n 0, 1) := daX10_lose_0 (21, .aload_n 0, 1) (List.mem_of_getElem? (i := 11) rfl)
theorem dX10_lose_22 : decode cX10_lose 22 = .ok (.getfield 82, 3) := daX10_lose_0 (22, .getfield 82, 3) (List.mem_of_getElem? (i := 12) rfl)
theorem dX10_lose_25 : decode cX10_lose 25 = .ok (.invokestatic 134, 3) := daX10_lose_0 (25, .invokestatic 134, 3) (List.mem_of_getElem? (i := 13) rfl)
theorem dX10_lose_28 : decode cX10_lose 28 = .ok (.ifCond .eq 5, 3) := daX10_lose_0 (28, .ifCond .eq 5, 3) (List.mem_of_getElem? (i := 14) rfl)
theorem dX10_lose_31 : decode cX10_lose 31 = .ok (.iconst 0, 1) := daX10_lose_0 (31, .iconst 0, 1) (List.mem_of_getElem? (i := 15) rfl)
theorem dX10_lose_32 : decode cX10_lose 32 = .ok (.ireturn, 1) := daX10_lose_0 (32, .ireturn, 1) (List.mem_of_getElem? (i := 16) rfl)
theorem dX10_lose_33 : decode cX10_lose 33 = .ok (.aload_n 2, 1) := daX10_lose_0 (33, .aload_n 2, 1) (List.mem_of_getElem? (i := 17) rfl)
theorem dX10_lose_34 : decode cX10_lose 34 = .ok (.iconst 1, 1) := daX10_lose_0 (34, .iconst 1, 1) (List.mem_of_getElem? (i := 18) rfl)
theorem dX10_lose_35 : decode cX10_lose 35 = .ok (.putfield 127, 3) := daX10_lose_0 (35, .putfield 127, 3) (List.mem_of_getElem? (i := 19) rfl)
theorem dX10_lose_38 : decode cX10_lose 38 = .ok (.aload_n 2, 1) := daX10_lose_0 (38, .aload_n 2, 1) (List.mem_of_getElem? (i := 20) rfl)
theorem dX10_lose_39 : decode cX10_lose 39 = .ok (.iconst (-1), 1) := daX10_lose_0 (39, .iconst (-1), 1) (List.mem_of_getElem? (i := 21) rfl)
theorem dX10_lose_40 : decode cX10_lose 40 = .ok (.putfield 131, 3) := daX10_lose_0 (40, .putfield 131, 3) (List.mem_of_getElem? (i := 22) rfl)
theorem dX10_lose_43 : decode cX10_lose 43 = .ok (.iconst 1, 1) := daX10_lose_0 (43, .iconst 1, 1) (List.mem_of_getElem? (i := 23) rfl)
theorem dX10_lose_44 : decode cX10_lose 44 = .ok (.ireturn, 1) := daX10_lose_0 (44, .ireturn, 1) (List.mem_of_getElem? (i := 24) rfl)
set_option maxRecDepth 20000 in
theorem ggX10_stop_X10_paperAt : GoodIn wsX10_stop wsX10_paperAt := goodIn_r _ [12, 13, 14, 64, 65, 66, 67, 68, 69, 70, 71, 72, 73, 74, 75, 76, 77, 78, 79, 80] (by decide +kernel) (by decide +kernel)
set_option maxRecDepth 20000 in
theorem gX10_stop_X10_paperAt : GoodIn wsX10_stop (wsV RX10 112 RX10 yX10_paperAt wsX10_paperAt) := goodIn_app (goodIn_of _ (by decide +kernel)) ggX10_stop_X10_paperAt
set_option maxRecDepth 20000 in
theorem ggX10_stop_X10_isTown : GoodIn wsX10_stop wsX10_isTown := goodIn_r _ [17, 18, 19, 11, 20] (by decide +kernel) (by decide +kernel)
set_option maxRecDepth 20000 in
theorem gX10_stop_X10_isTown : GoodIn wsX10_stop (va_wsS RX10 86 yX10_isTown wsX10_isTown) := goodIn_app (goodIn_of _ (by decide +kernel)) ggX10_stop_X10_isTown
set_option maxRecDepth 20000 in
theorem ggX10_stop_X3_hasLeaf : GoodIn wsX10_stop wsX3_hasLeaf := goodIn_r _ [25, 26, 84, 85, 86, 87, 88, 89, 90] (by decide +kernel) (by decide +kernel)
set_option maxRecDepth 20000 in
theorem gX10_stop_X3_hasLeaf : GoodIn wsX10_stop (wsV RX10 141 RX3 yX3_hasLeaf wsX3_hasLeaf) := goodIn_app (goodIn_of _ (by decide +kernel)) ggX10_stop_X3_hasLeaf
set_option maxRecDepth 20000 in
theorem ggX10_stop_X9_newsDays : GoodIn wsX10_stop wsX9_newsDays := goodIn_r _ [31, 32, 33, 34, 30, 35, 36, 37, 38, 39, 40, 41, 42, 43, 44, 45, 46, 47, 48, 49, 50, 51, 52, 91, 92, 93, 94] (by decide +kernel) (by decide +kernel)
set_option maxRecDepth 20000 in
theorem gX10_stop_X9_newsDays : GoodIn wsX10_stop (wsV RX10 144 RX9 yX9_newsDays wsX9_newsDays) := goodIn_app (goodIn_of _ (by decide +kernel)) ggX10_stop_X9_newsDays
set_option maxRecDepth 20000 in
theorem ggX10_stop_X6_init : GoodIn wsX10_stop wsX6_init := goodIn_r _ [55, 56, 57, 58, 59, 60, 61, 62, 63, 81, 82, 83] (by decide +kernel) (by decide +kernel)
set_option maxRecDepth 20000 in
theorem gX10_stop_X6_init : GoodIn wsX10_stop (wsX6_init) := ggX10_stop_X6_init
set_option maxRecDepth 20000 in
theorem daX10_stop_0 : ∀ x ∈ ([(0, .aload_n 0, 1), (1, .iload_n 1, 1), (2, .invokevirtual 112, 3), (5, .astore 4, 2), (7, .aload_n 0, 1), (8, .getfield 138, 3), (11, .bipush 60, 2), (13, .if_icmp .ge 15, 3), (16, .aload 4, 2), (18, .ifnull 10, 3), (21, .iload_n 3, 1), (22, .invokestatic 86, 3), (25, .ifCond .ne 5, 3), (28, .iconst (-1), 1), (29, .ireturn, 1), (30, .iload_n 2, 1), (31, .iconst (-1), 1), (32, .if_icmp .eq 14, 3), (35, .aload 4, 2), (37, .iload_n 2, 1), (38, .invokevirtual 141, 3), (41, .ifCond .ne 5, 3), (44, .iconst (-1), 1), (45, .ireturn, 1), (46, .aload_n 0, 1), (47, .getfield 37, 3), (50, .aload_n 0, 1), (51, .getfield 138, 3), (54, .new 35, 3), (57, .dup, 1), (58, .iload_n 1, 1), (59, .iload_n 2, 1), (60, .aload_n 0, 1), (61, .getfield 10, 3), (64, .iload_n 3, 1), (65, .invokevirtual 144, 3), (68, .aload_n 0, 1), (69, .getfield 82, 3), (72, .invokespecial 148, 3), (75, .aastore, 1)] : List (Nat × Instr × Nat)), decode cX10_stop x.1 = .ok x.2 := by decide +kernel
theorem dX10_stop_0 : decode cX10_stop 0 = .ok (.aload_n 0, 1) := daX10_stop_0 (0, .aload_n 0, 1) (List.mem_of_getElem? (i := 0) rfl)
theorem dX10_stop_1 : decode cX10_stop 1 = .ok (.iload_n 1, 1) := daX10_stop_0 (1, .iload_n 1, 1) (List.mem_of_getElem? (i := 1) rfl)
theorem dX10_stop_2 : decode cX10_stop 2 = .ok (.invokevirtual 112, 3) := daX10_stop_0 (2, .invokevirtual 112, 3) (List.mem_of_getElem? (i := 2) rfl)
theorem dX10_stop_5 : decode cX10_stop 5 = .ok (.astore 4, 2) := daX10_stop_0 (5, .astore 4, 2) (List.mem_of_getElem? (i := 3) rfl)
theorem dX10_stop_7 : decode cX10_stop 7 = .ok (.aload_n 0, 1) := daX10_stop_0 (7, .aload_n 0, 1) (List.mem_of_getElem? (i := 4) rfl)
theorem dX10_stop_8 : decode cX10_stop 8 = .ok (.getfield 138, 3) := daX10_stop_0 (8, .getfield 138, 3) (List.mem_of_getElem? (i := 5) rfl)
theorem dX10_stop_11 : decode cX10_stop 11 = .ok (.bipush 60, 2) := daX10_stop_0 (11, .bipush 60, 2) (List.mem_of_getElem? (i := 6) rfl)
theorem dX10_stop_13 : decode cX10_stop 13 = .ok (.if_icmp .ge 15, 3) := daX10_stop_0 (13, .if_icmp .ge 15, 3) (List.mem_of_getElem? (i := 7) rfl)
theorem dX10_stop_16 : decode cX10_stop 16 = .ok (.aload 4, 2) := daX10_stop_0 (16, .aload 4, 2) (List.mem_of_getElem? (i := 8) rfl)
theorem dX10_stop_18 : decode cX10_stop 18 = .ok (.ifnull 10, 3) := daX10_stop_0 (18, .ifnull 10, 3) (List.mem_of_getElem? (i := 9) rfl)
theorem dX10_stop_21 : decode cX10_stop 21 = .ok (.iload_n 3, 1) := daX10_stop_0 (21, .iload_n 3, 1) (List.mem_of_getElem? (i := 10) rfl)
theorem dX10_stop_22 : decode cX10_stop 22 = .ok (.invokestatic 86, 3) := daX10_stop_0 (22, .invokestatic 86, 3) (List.mem_of_getElem? (i := 11) rfl)
theorem dX10_stop_25 : decode cX10_stop 25 = .ok (.ifCond .ne 5, 3) := daX10_stop_0 (25, .ifCond .ne 5, 3) (List.mem_of_getElem? (i := 12) rfl)
theorem dX10_stop_28 : decode cX10_stop 28 = .ok (.iconst (-1), 1) := daX10_stop_0 (28, .iconst (-1), 1) (List.mem_of_getElem? (i := 13) rfl)
theorem dX10_stop_29 : decode cX10_stop 29 = .ok (.ireturn, 1) := daX10_stop_0 (29, .ireturn, 1) (List.mem_of_getElem? (i := 14) rfl)
theorem dX10_stop_30 : decode cX10_stop 30 = .ok (.iload_n 2, 1) := daX10_stop_0 (30, .iload_n 2, 1) (List.mem_of_getElem? (i := 15) rfl)
theorem dX10_stop_31 : decode cX10_stop 31 = .ok (.iconst (-1), 1) := daX10_stop_0 (31, .iconst (-1), 1) (List.mem_of_getElem? (i := 16) rfl)
theorem dX10_stop_32 : decode cX10_stop 32 = .ok (.if_icmp .eq 14, 3) := daX10_stop_0 (32, .if_icmp .eq 14, 3) (List.mem_of_getElem? (i := 17) rfl)
theorem dX10_stop_35 : decode cX10_stop 35 = .ok (.aload 4, 2) := daX10_stop_0 (35, .aload 4, 2) (List.mem_of_getElem? (i := 18) rfl)
theorem dX10_stop_37 : decode cX10_stop 37 = .ok (.iload_n 2, 1) := daX10_stop_0 (37, .iload_n 2, 1) (List.mem_of_getElem? (i := 19) rfl)
theorem dX10_stop_38 : decode cX10_stop 38 = .ok (.invokevirtual 141, 3) := daX10_stop_0 (38, .invokevirtual 141, 3) (List.mem_of_getElem? (i := 20) rfl)
theorem dX10_stop_41 : decode cX10_stop 41 = .ok (.ifCond .ne 5, 3) := daX10_stop_0 (41, .ifCond .ne 5, 3) (List.mem_of_getElem? (i := 21) rfl)
theorem dX10_stop_44 : decode cX10_stop 44 = .ok (.iconst (-1), 1) := daX10_stop_0 (44, .iconst (-1), 1) (List.mem_of_getElem? (i := 22) rfl)
theorem dX10_stop_45 : decode cX10_stop 45 = .ok (.ireturn, 1) := daX10_stop_0 (45, .ireturn, 1) (List.mem_of_getElem? (i := 23) rfl)
theorem dX10_stop_46 : decode cX10_stop 46 = .ok (.aload_n 0, 1) := daX10_stop_0 (46, .aload_n 0, 1) (List.mem_of_getElem? (i := 24) rfl)
theorem dX10_stop_47 : decode cX10_stop 47 = .ok (.getfield 37, 3) := daX10_stop_0 (47, .getfield 37, 3) (List.mem_of_getElem? (i := 25) rfl)
theorem dX10_stop_50 : decode cX10_stop 50 = .ok (.aload_n 0, 1) := daX10_stop_0 (50, .aload_n 0, 1) (List.mem_of_getElem? (i := 26) rfl)
theorem dX10_stop_51 : decode cX10_stop 51 = .ok (.getfield 138, 3) := daX10_stop_0 (51, .getfield 138, 3) (List.mem_of_getElem? (i := 27) rfl)
theorem dX10_stop_54 : decode cX10_stop 54 = .ok (.new 35, 3) := daX10_stop_0 (54, .new 35, 3) (List.mem_of_getElem? (i := 28) rfl)
theorem dX10_stop_57 : decode cX10_stop 57 = .ok (.dup, 1) := daX10_stop_0 (57, .dup, 1) (List.mem_of_getElem? (i := 29) rfl)
theorem dX10_stop_58 : decode cX10_stop 58 = .ok (.iload_n 1, 1) := daX10_stop_0 (58, .iload_n 1, 1) (List.mem_of_getElem? (i := 30) rfl)
theorem dX10_stop_59 : decode cX10_stop 59 = .ok (.iload_n 2, 1) := daX10_stop_0 (59, .iload_n 2, 1) (List.mem_of_getElem? (i := 31) rfl)
theorem dX10_stop_60 : decode cX10_stop 60 = .ok (.aload_n 0, 1) := daX10_stop_0 (60, .aload_n 0, 1) (List.mem_of_getElem? (i := 32) rfl)
theorem dX10_stop_61 : decode cX10_stop 61 = .ok (.getfield 10, 3) := daX10_stop_0 (61, .getfield 10, 3) (List.mem_of_getElem? (i := 33) rfl)
theorem dX10_stop_64 : decode cX10_stop 64 = .ok (.iload_n 3, 1) := daX10_stop_0 (64, .iload_n 3, 1) (List.mem_of_getElem? (i := 34) rfl)
theorem dX10_stop_65 : decode cX10_stop 65 = .ok (.invokevirtual 144, 3) := daX10_stop_0 (65, .invokevirtual 144, 3) (List.mem_of_getElem? (i := 35) rfl)
theorem dX10_stop_68 : decode cX10_stop 68 = .ok (.aload_n 0, 1) := daX10_stop_0 (68, .aload_n 0, 1) (List.mem_of_getElem? (i := 36) rfl)
theorem dX10_stop_69 : decode cX10_stop 69 = .ok (.getfield 82, 3) := daX10_stop_0 (69, .getfield 82, 3) (List.mem_of_getElem? (i := 37) rfl)
theorem dX10_stop_72 : decode cX10_stop 72 = .ok (.invokespecial 148, 3) := daX10_stop_0 (72, .invokespecial 148, 3) (List.mem_of_getElem? (i := 38) rfl)
theorem dX10_stop_75 : decode cX10_stop 75 = .ok (.aastore, 1) := daX10_stop_0 (75, .aastore, 1) (List.mem_of_getElem? (i := 39) rfl)
set_option maxRecDepth 20000 in
theorem daX10_stop_76 : ∀ x ∈ ([(76, .aload_n 0, 1), (77, .dup, 1), (78, .getfield 138, 3), (81, .iconst 1, 1), (82, .iadd, 1), (83, .putfield 138, 3), (86, .aload_n 0, 1), (87, .getfield 138, 3), (90, .iconst 1, 1), (91, .isub, 1), (92, .ireturn, 1)] : List (Nat × Instr × Nat)), decode cX10_stop x.1 = .ok x.2 := by decide +kernel
theorem dX10_stop_76 : decode cX10_stop 76 = .ok (.aload_n 0, 1) := daX10_stop_76 (76, .aload_n 0, 1) (List.mem_of_getElem? (i := 0) rfl)
theorem dX10_stop_77 : decode cX10_stop 77 = .ok (.dup, 1) := daX10_stop_76 (77, .dup, 1) (List.mem_of_getElem? (i := 1) rfl)
theorem dX10_stop_78 : decode cX10_stop 78 = .ok (.getfield 138, 3) := daX10_stop_76 (78, .getfield 138, 3) (List.mem_of_getElem? (i := 2) rfl)
theorem dX10_stop_81 : decode cX10_stop 81 = .ok (.iconst 1, 1) := daX10_stop_76 (81, .iconst 1, 1) (List.mem_of_getElem? (i := 3) rfl)
theorem dX10_stop_82 : decode cX10_stop 82 = .ok (.iadd, 1) := daX10_stop_76 (82, .iadd, 1) (List.mem_of_getElem? (i := 4) rfl)
theorem dX10_stop_83 : decode cX10_stop 83 = .ok (.putfield 138, 3) := daX10_stop_76 (83, .putfield 138, 3) (List.mem_of_getElem? (i := 5) rfl)
theorem dX10_stop_86 : decode cX10_stop 86 = .ok (.aload_n 0, 1) := daX10_stop_76 (86, .aload_n 0, 1) (List.mem_of_getElem? (i := 6) rfl)
theorem dX10_stop_87 : decode cX10_stop 87 = .ok (.getfield 138, 3) := daX10_stop_76 (87, .getfield 138, 3) (List.mem_of_getElem? (i := 7) rfl)
theorem dX10_stop_90 : decode cX10_stop 90 = .ok (.iconst 1, 1) := daX10_stop_76 (90, .iconst 1, 1) (List.mem_of_getElem? (i := 8) rfl)
theorem dX10_stop_91 : decode cX10_stop 91 = .ok (.isub, 1) := daX10_stop_76 (91, .isub, 1) (List.mem_of_getElem? (i := 9) rfl)
theorem dX10_stop_92 : decode cX10_stop 92 = .ok (.ireturn, 1) := daX10_stop_76 (92, .ireturn, 1) (List.mem_of_getElem? (i := 10) rfl)
set_option maxRecDepth 20000 in
theorem ggX10_feed_X7_hasRoom : GoodIn wsX10_feed wsX7_hasRoom := goodIn_r _ [7, 8, 31, 32, 33] (by decide +kernel) (by decide +kernel)
set_option maxRecDepth 20000 in
theorem gX10_feed_X7_hasRoom : GoodIn wsX10_feed (wsV RX10 151 RX7 yX7_hasRoom wsX7_hasRoom) := goodIn_app (goodIn_of _ (by decide +kernel)) ggX10_feed_X7_hasRoom
set_option maxRecDepth 20000 in
theorem ggX10_feed_X7_append : GoodIn wsX10_feed wsX7_append := goodIn_r _ [12, 8, 13, 31, 32, 33] (by decide +kernel) (by decide +kernel)
set_option maxRecDepth 20000 in
theorem gX10_feed_X7_append : GoodIn wsX10_feed (wsV RX10 154 RX7 yX7_append wsX7_append) := goodIn_app (goodIn_of _ (by decide +kernel)) ggX10_feed_X7_append
set_option maxRecDepth 20000 in
theorem daX10_feed_0 : ∀ x ∈ ([(0, .aload_n 0, 1), (1, .getfield 50, 3), (4, .bipush 20, 2), (6, .invokevirtual 151, 3), (9, .ifCond .ne 5, 3), (12, .iconst (-1), 1), (13, .ireturn, 1), (14, .aload_n 0, 1), (15, .getfield 50, 3), (18, .iload_n 1, 1), (19, .invokevirtual 154, 3), (22, .aload_n 0, 1), (23, .getfield 50, 3), (26, .iload_n 2, 1), (27, .invokevirtual 154, 3), (30, .aload_n 0, 1), (31, .getfield 50, 3), (34, .iload_n 3, 1), (35, .invokevirtual 154, 3), (38, .aload_n 0, 1), (39, .getfield 50, 3), (42, .iload 4, 2), (44, .invokevirtual 154, 3), (47, .aload_n 0, 1), (48, .getfield 50, 3), (51, .iload 5, 2), (53, .invokevirtual 154, 3), (56, .aload_n 0, 1), (57, .getfield 50, 3), (60, .getfield 158, 3), (63, .ireturn, 1)] : List (Nat × Instr × Nat)), decode cX10_feed x.1 = .ok x.2 := by decide +kernel
theorem dX10_feed_0 : decode cX10_feed 0 = .ok (.aload_n 0, 1) := daX10_feed_0 (0, .aload_n 0, 1) (List.mem_of_getElem? (i := 0) rfl)
theorem dX10_feed_1 : decode cX10_feed 1 = .ok (.getfield 50, 3) := daX10_feed_0 (1, .getfield 50, 3) (List.mem_of_getElem? (i := 1) rfl)
theorem dX10_feed_4 : decode cX10_feed 4 = .ok (.bipush 20, 2) := daX10_feed_0 (4, .bipush 20, 2) (List.mem_of_getElem? (i := 2) rfl)
theorem dX10_feed_6 : decode cX10_feed 6 = .ok (.invokevirtual 151, 3) := daX10_feed_0 (6, .invokevirtual 151, 3) (List.mem_of_getElem? (i := 3) rfl)
theorem dX10_feed_9 : decode cX10_feed 9 = .ok (.ifCond .ne 5, 3) := daX10_feed_0 (9, .ifCond .ne 5, 3) (List.mem_of_getElem? (i := 4) rfl)
theorem dX10_feed_12 : decode cX10_feed 12 = .ok (.iconst (-1), 1) := daX10_feed_0 (12, .iconst (-1), 1) (List.mem_of_getElem? (i := 5) rfl)
theorem dX10_feed_13 : decode cX10_feed 13 = .ok (.ireturn, 1) := daX10_feed_0 (13, .ireturn, 1) (List.mem_of_getElem? (i := 6) rfl)
theorem dX10_feed_14 : decode cX10_feed 14 = .ok (.aload_n 0, 1) := daX10_feed_0 (14, .aload_n 0, 1) (List.mem_of_getElem? (i := 7) rfl)
theorem dX10_feed_15 : decode cX10_feed 15 = .ok (.getfield 50, 3) := daX10_feed_0 (15, .getfield 50, 3) (List.mem_of_getElem? (i := 8) rfl)
theorem dX10_feed_18 : decode cX10_feed 18 = .ok (.iload_n 1, 1) := daX10_feed_0 (18, .iload_n 1, 1) (List.mem_of_getElem? (i := 9) rfl)
theorem dX10_feed_19 : decode cX10_feed 19 = .ok (.invokevirtual 154, 3) := daX10_feed_0 (19, .invokevirtual 154, 3) (List.mem_of_getElem? (i := 10) rfl)
theorem dX10_feed_22 : decode cX10_feed 22 = .ok (.aload_n 0, 1) := daX10_feed_0 (22, .aload_n 0, 1) (List.mem_of_getElem? (i := 11) rfl)
theorem dX10_feed_23 : decode cX10_feed 23 = .ok (.getfield 50, 3) := daX10_feed_0 (23, .getfield 50, 3) (List.mem_of_getElem? (i := 12) rfl)
theorem dX10_feed_26 : decode cX10_feed 26 = .ok (.iload_n 2, 1) := daX10_feed_0 (26, .iload_n 2, 1) (List.mem_of_getElem? (i := 13) rfl)
theorem dX10_feed_27 : decode cX10_feed 27 = .ok (.invokevirtual 154, 3) := daX10_feed_0 (27, .invokevirtual 154, 3) (List.mem_of_getElem? (i := 14) rfl)
theorem dX10_feed_30 : decode cX10_feed 30 = .ok (.aload_n 0, 1) := daX10_feed_0 (30, .aload_n 0, 1) (List.mem_of_getElem? (i := 15) rfl)
theorem dX10_feed_31 : decode cX10_feed 31 = .ok (.getfield 50, 3) := daX10_feed_0 (31, .getfield 50, 3) (List.mem_of_getElem? (i := 16) rfl)
theorem dX10_feed_34 : decode cX10_feed 34 = .ok (.iload_n 3, 1) := daX10_feed_0 (34, .iload_n 3, 1) (List.mem_of_getElem? (i := 17) rfl)
theorem dX10_feed_35 : decode cX10_feed 35 = .ok (.invokevirtual 154, 3) := daX10_feed_0 (35, .invokevirtual 154, 3) (List.mem_of_getElem? (i := 18) rfl)
theorem dX10_feed_38 : decode cX10_feed 38 = .ok (.aload_n 0, 1) := daX10_feed_0 (38, .aload_n 0, 1) (List.mem_of_getElem? (i := 19) rfl)
theorem dX10_feed_39 : decode cX10_feed 39 = .ok (.getfield 50, 3) := daX10_feed_0 (39, .getfield 50, 3) (List.mem_of_getElem? (i := 20) rfl)
theorem dX10_feed_42 : decode cX10_feed 42 = .ok (.iload 4, 2) := daX10_feed_0 (42, .iload 4, 2) (List.mem_of_getElem? (i := 21) rfl)
theorem dX10_feed_44 : decode cX10_feed 44 = .ok (.invokevirtual 154, 3) := daX10_feed_0 (44, .invokevirtual 154, 3) (List.mem_of_getElem? (i := 22) rfl)
theorem dX10_feed_47 : decode cX10_feed 47 = .ok (.aload_n 0, 1) := daX10_feed_0 (47, .aload_n 0, 1) (List.mem_of_getElem? (i := 23) rfl)
theorem dX10_feed_48 : decode cX10_feed 48 = .ok (.getfield 50, 3) := daX10_feed_0 (48, .getfield 50, 3) (List.mem_of_getElem? (i := 24) rfl)
theorem dX10_feed_51 : decode cX10_feed 51 = .ok (.iload 5, 2) := daX10_feed_0 (51, .iload 5, 2) (List.mem_of_getElem? (i := 25) rfl)
theorem dX10_feed_53 : decode cX10_feed 53 = .ok (.invokevirtual 154, 3) := daX10_feed_0 (53, .invokevirtual 154, 3) (List.mem_of_getElem? (i := 26) rfl)
theorem dX10_feed_56 : decode cX10_feed 56 = .ok (.aload_n 0, 1) := daX10_feed_0 (56, .aload_n 0, 1) (List.mem_of_getElem? (i := 27) rfl)
theorem dX10_feed_57 : decode cX10_feed 57 = .ok (.getfield 50, 3) := daX10_feed_0 (57, .getfield 50, 3) (List.mem_of_getElem? (i := 28) rfl)
theorem dX10_feed_60 : decode cX10_feed 60 = .ok (.getfield 158, 3) := daX10_feed_0 (60, .getfield 158, 3) (List.mem_of_getElem? (i := 29) rfl)
theorem dX10_feed_63 : decode cX10_feed 63 = .ok (.ireturn, 1) := daX10_feed_0 (63, .ireturn, 1) (List.mem_of_getElem? (i := 30) rfl)
set_option maxRecDepth 20000 in
theorem daX10_end_0 : ∀ x ∈ ([(0, .iload_n 1, 1), (1, .ifCond .lt 14, 3), (4, .iload_n 1, 1), (5, .aload_n 0, 1), (6, .getfield 50, 3), (9, .getfield 158, 3), (12, .if_icmp .le 5, 3), (15, .iconst (-1), 1), (16, .ireturn, 1), (17, .aload_n 0, 1), (18, .getfield 50, 3), (21, .iload_n 1, 1), (22, .putfield 158, 3), (25, .iload_n 1, 1), (26, .ireturn, 1)] : List (Nat × Instr × Nat)), decode cX10_end x.1 = .ok x.2 := by decide +kernel
theorem dX10_end_0 : decode cX10_end 0 = .ok (.iload_n 1, 1) := daX10_end_0 (0, .iload_n 1, 1) (List.mem_of_getElem? (i := 0) rfl)
theorem dX10_end_1 : decode cX10_end 1 = .ok (.ifCond .lt 14, 3) := daX10_end_0 (1, .ifCond .lt 14, 3) (List.mem_of_getElem? (i := 1) rfl)
theorem dX10_end_4 : decode cX10_end 4 = .ok (.iload_n 1, 1) := daX10_end_0 (4, .iload_n 1, 1) (List.mem_of_getElem? (i := 2) rfl)
theorem dX10_end_5 : decode cX10_end 5 = .ok (.aload_n 0, 1) := daX10_end_0 (5, .aload_n 0, 1) (List.mem_of_getElem? (i := 3) rfl)
theorem dX10_end_6 : decode cX10_end 6 = .ok (.getfield 50, 3) := daX10_end_0 (6, .getfield 50, 3) (List.mem_of_getElem? (i := 4) rfl)
theorem dX10_end_9 : decode cX10_end 9 = .ok (.getfield 158, 3) := daX10_end_0 (9, .getfield 158, 3) (List.mem_of_getElem? (i := 5) rfl)
theorem dX10_end_12 : decode cX10_end 12 = .ok (.if_icmp .le 5, 3) := daX10_end_0 (12, .if_icmp .le 5, 3) (List.mem_of_getElem? (i := 6) rfl)
theorem dX10_end_15 : decode cX10_end 15 = .ok (.iconst (-1), 1) := daX10_end_0 (15, .iconst (-1), 1) (List.mem_of_getElem? (i := 7) rfl)
theorem dX10_end_16 : decode cX10_end 16 = .ok (.ireturn, 1) := daX10_end_0 (16, .ireturn, 1) (List.mem_of_getElem? (i := 8) rfl)
theorem dX10_end_17 : decode cX10_end 17 = .ok (.aload_n 0, 1) := daX10_end_0 (17, .aload_n 0, 1) (List.mem_of_getElem? (i := 9) rfl)
theorem dX10_end_18 : decode cX10_end 18 = .ok (.getfield 50, 3) := daX10_end_0 (18, .getfield 50, 3) (List.mem_of_getElem? (i := 10) rfl)
theorem dX10_end_21 : decode cX10_end 21 = .ok (.iload_n 1, 1) := daX10_end_0 (21, .iload_n 1, 1) (List.mem_of_getElem? (i := 11) rfl)
theorem dX10_end_22 : decode cX10_end 22 = .ok (.putfield 158, 3) := daX10_end_0 (22, .putfield 158, 3) (List.mem_of_getElem? (i := 12) rfl)
theorem dX10_end_25 : decode cX10_end 25 = .ok (.iload_n 1, 1) := daX10_end_0 (25, .iload_n 1, 1) (List.mem_of_getElem? (i := 13) rfl)
theorem dX10_end_26 : decode cX10_end 26 = .ok (.ireturn, 1) := daX10_end_0 (26, .ireturn, 1) (List.mem_of_getElem? (i := 14) rfl)
set_option maxRecDepth 20000 in
theorem ggX10_text_X10_isTown : GoodIn wsX10_text wsX10_isTown := goodIn_r _ [10, 11, 12, 9, 13] (by decide +kernel) (by decide +kernel)
set_option maxRecDepth 20000 in
theorem gX10_text_X10_isTown : GoodIn wsX10_text (va_wsS RX10 86 yX10_isTown wsX10_isTown) := goodIn_app (goodIn_of _ (by decide +kernel)) ggX10_text_X10_isTown
set_option maxRecDepth 20000 in
theorem ggX10_text_X1_learn : GoodIn wsX10_text wsX1_learn := goodIn_r _ [18, 19, 20, 21, 22, 23, 24, 25, 26, 27, 28, 29, 30, 31, 32, 33, 34, 35, 36, 37, 38, 17, 39, 40, 41, 42, 43, 44, 45, 46, 47, 48, 49, 50, 12, 9, 13, 51, 52, 53, 54, 55, 56, 57, 58, 59, 60, 61, 62, 63, 64, 65, 66, 67, 68, 69, 70, 71, 72, 73, 74, 75, 76, 77, 78, 79, 80, 81, 82, 83, 84, 85, 86, 87, 88, 89, 90, 91, 92, 93, 94, 95, 96, 97, 98, 99, 100, 101, 102, 103, 104, 105, 106, 107, 108, 109, 110, 111, 112, 113, 114, 115, 116, 117, 118, 119, 120, 121, 122, 123, 124, 125, 126, 127, 128, 129, 130, 131, 156, 157, 158, 159, 160, 161, 149, 150, 151] (by decide +kernel) (by decide +kernel)
set_option maxRecDepth 20000 in
theorem gX10_text_X1_learn : GoodIn wsX10_text (wsV RX10 161 RX1 yX1_learn wsX1_learn) := goodIn_app (goodIn_of _ (by decide +kernel)) ggX10_text_X1_learn
set_option maxRecDepth 20000 in
theorem daX10_text_0 : ∀ x ∈ ([(0, .iload_n 1, 1), (1, .invokestatic 86, 3), (4, .ifCond .ne 5, 3), (7, .iconst (-1), 1), (8, .ireturn, 1), (9, .aload_n 0, 1), (10, .getfield 68, 3), (13, .aload_n 0, 1), (14, .getfield 50, 3), (17, .invokevirtual 161, 3), (20, .istore_n 2, 1), (21, .aload_n 0, 1), (22, .getfield 50, 3), (25, .iconst 0, 1), (26, .putfield 158, 3), (29, .iload_n 2, 1), (30, .ifCond .eq 8, 3), (33, .bipush (-2), 2), (35, .iload_n 2, 1), (36, .isub, 1), (37, .ireturn, 1), (38, .aload_n 0, 1), (39, .getfield 18, 3), (42, .iload_n 1, 1), (43, .aaload, 1), (44, .getfield 165, 3), (47, .astore_n 3, 1), (48, .aload_n 0, 1), (49, .getfield 18, 3), (52, .iload_n 1, 1), (53, .aaload, 1), (54, .aload_n 0, 1), (55, .getfield 68, 3), (58, .putfield 165, 3), (61, .aload_n 0, 1), (62, .aload_n 3, 1), (63, .putfield 68, 3), (66, .aload_n 0, 1), (67, .getfield 18, 3), (70, .iload_n 1, 1)] : List (Nat × Instr × Nat)), decode cX10_text x.1 = .ok x.2 := by decide +kernel
theorem dX10_text_0 : decode cX10_text 0 = .ok (.iload_n 1, 1) := daX10_text_0 (0, .iload_n 1, 1) (List.mem_of_getElem? (i := 0) rfl)
theorem dX10_text_1 : decode cX10_text 1 = .ok (.invokestatic 86, 3) := daX10_text_0 (1, .invokestatic 86, 3) (List.mem_of_getElem? (i := 1) rfl)
theorem dX10_text_4 : decode cX10_text 4 = .ok (.ifCond .ne 5, 3) := daX10_text_0 (4, .ifCond .ne 5, 3) (List.mem_of_getElem? (i := 2) rfl)
theorem dX10_text_7 : decode cX10_text 7 = .ok (.iconst (-1), 1) := daX10_text_0 (7, .iconst (-1), 1) (List.mem_of_getElem? (i := 3) rfl)
theorem dX10_text_8 : decode cX10_text 8 = .ok (.ireturn, 1) := daX10_text_0 (8, .ireturn, 1) (List.mem_of_getElem? (i := 4) rfl)
theorem dX10_text_9 : decode cX10_text 9 = .ok (.aload_n 0, 1) := daX10_text_0 (9, .aload_n 0, 1) (List.mem_of_getElem? (i := 5) rfl)
theorem dX10_text_10 : decode cX10_text 10 = .ok (.getfield 68, 3) := daX10_text_0 (10, .getfield 68, 3) (List.mem_of_getElem? (i := 6) rfl)
theorem dX10_text_13 : decode cX10_text 13 = .ok (.aload_n 0, 1) := daX10_text_0 (13, .aload_n 0, 1) (List.mem_of_getElem? (i := 7) rfl)
theorem dX10_text_14 : decode cX10_text 14 = .ok (.getfield 50, 3) := daX10_text_0 (14, .getfield 50, 3) (List.mem_of_getElem? (i := 8) rfl)
theorem dX10_text_17 : decode cX10_text 17 = .ok (.invokevirtual 161, 3) := daX10_text_0 (17, .invokevirtual 161, 3) (List.mem_of_getElem? (i := 9) rfl)
theorem dX10_text_20 : decode cX10_text 20 = .ok (.istore_n 2, 1) := daX10_text_0 (20, .istore_n 2, 1) (List.mem_of_getElem? (i := 10) rfl)
theorem dX10_text_21 : decode cX10_text 21 = .ok (.aload_n 0, 1) := daX10_text_0 (21, .aload_n 0, 1) (List.mem_of_getElem? (i := 11) rfl)
theorem dX10_text_22 : decode cX10_text 22 = .ok (.getfield 50, 3) := daX10_text_0 (22, .getfield 50, 3) (List.mem_of_getElem? (i := 12) rfl)
theorem dX10_text_25 : decode cX10_text 25 = .ok (.iconst 0, 1) := daX10_text_0 (25, .iconst 0, 1) (List.mem_of_getElem? (i := 13) rfl)
theorem dX10_text_26 : decode cX10_text 26 = .ok (.putfield 158, 3) := daX10_text_0 (26, .putfield 158, 3) (List.mem_of_getElem? (i := 14) rfl)
theorem dX10_text_29 : decode cX10_text 29 = .ok (.iload_n 2, 1) := daX10_text_0 (29, .iload_n 2, 1) (List.mem_of_getElem? (i := 15) rfl)
theorem dX10_text_30 : decode cX10_text 30 = .ok (.ifCond .eq 8, 3) := daX10_text_0 (30, .ifCond .eq 8, 3) (List.mem_of_getElem? (i := 16) rfl)
theorem dX10_text_33 : decode cX10_text 33 = .ok (.bipush (-2), 2) := daX10_text_0 (33, .bipush (-2), 2) (List.mem_of_getElem? (i := 17) rfl)
theorem dX10_text_35 : decode cX10_text 35 = .ok (.iload_n 2, 1) := daX10_text_0 (35, .iload_n 2, 1) (List.mem_of_getElem? (i := 18) rfl)
theorem dX10_text_36 : decode cX10_text 36 = .ok (.isub, 1) := daX10_text_0 (36, .isub, 1) (List.mem_of_getElem? (i := 19) rfl)
theorem dX10_text_37 : decode cX10_text 37 = .ok (.ireturn, 1) := daX10_text_0 (37, .ireturn, 1) (List.mem_of_getElem? (i := 20) rfl)
theorem dX10_text_38 : decode cX10_text 38 = .ok (.aload_n 0, 1) := daX10_text_0 (38, .aload_n 0, 1) (List.mem_of_getElem? (i := 21) rfl)
theorem dX10_text_39 : decode cX10_text 39 = .ok (.getfield 18, 3) := daX10_text_0 (39, .getfield 18, 3) (List.mem_of_getElem? (i := 22) rfl)
theorem dX10_text_42 : decode cX10_text 42 = .ok (.iload_n 1, 1) := daX10_text_0 (42, .iload_n 1, 1) (List.mem_of_getElem? (i := 23) rfl)
theorem dX10_text_43 : decode cX10_text 43 = .ok (.aaload, 1) := daX10_text_0 (43, .aaload, 1) (List.mem_of_getElem? (i := 24) rfl)
theorem dX10_text_44 : decode cX10_text 44 = .ok (.getfield 165, 3) := daX10_text_0 (44, .getfield 165, 3) (List.mem_of_getElem? (i := 25) rfl)
theorem dX10_text_47 : decode cX10_text 47 = .ok (.astore_n 3, 1) := daX10_text_0 (47, .astore_n 3, 1) (List.mem_of_getElem? (i := 26) rfl)
theorem dX10_text_48 : decode cX10_text 48 = .ok (.aload_n 0, 1) := daX10_text_0 (48, .aload_n 0, 1) (List.mem_of_getElem? (i := 27) rfl)
theorem dX10_text_49 : decode cX10_text 49 = .ok (.getfield 18, 3) := daX10_text_0 (49, .getfield 18, 3) (List.mem_of_getElem? (i := 28) rfl)
theorem dX10_text_52 : decode cX10_text 52 = .ok (.iload_n 1, 1) := daX10_text_0 (52, .iload_n 1, 1) (List.mem_of_getElem? (i := 29) rfl)
theorem dX10_text_53 : decode cX10_text 53 = .ok (.aaload, 1) := daX10_text_0 (53, .aaload, 1) (List.mem_of_getElem? (i := 30) rfl)
theorem dX10_text_54 : decode cX10_text 54 = .ok (.aload_n 0, 1) := daX10_text_0 (54, .aload_n 0, 1) (List.mem_of_getElem? (i := 31) rfl)
theorem dX10_text_55 : decode cX10_text 55 = .ok (.getfield 68, 3) := daX10_text_0 (55, .getfield 68, 3) (List.mem_of_getElem? (i := 32) rfl)
theorem dX10_text_58 : decode cX10_text 58 = .ok (.putfield 165, 3) := daX10_text_0 (58, .putfield 165, 3) (List.mem_of_getElem? (i := 33) rfl)
theorem dX10_text_61 : decode cX10_text 61 = .ok (.aload_n 0, 1) := daX10_text_0 (61, .aload_n 0, 1) (List.mem_of_getElem? (i := 34) rfl)
theorem dX10_text_62 : decode cX10_text 62 = .ok (.aload_n 3, 1) := daX10_text_0 (62, .aload_n 3, 1) (List.mem_of_getElem? (i := 35) rfl)
theorem dX10_text_63 : decode cX10_text 63 = .ok (.putfield 68, 3) := daX10_text_0 (63, .putfield 68, 3) (List.mem_of_getElem? (i := 36) rfl)
theorem dX10_text_66 : decode cX10_text 66 = .ok (.aload_n 0, 1) := daX10_text_0 (66, .aload_n 0, 1) (List.mem_of_getElem? (i := 37) rfl)
theorem dX10_text_67 : decode cX10_text 67 = .ok (.getfield 18, 3) := daX10_text_0 (67, .getfield 18, 3) (List.mem_of_getElem? (i := 38) rfl)
theorem dX10_text_70 : decode cX10_text 70 = .ok (.iload_n 1, 1) := daX10_text_0 (70, .iload_n 1, 1) (List.mem_of_getElem? (i := 39) rfl)
set_option maxRecDepth 20000 in
theorem daX10_text_71 : ∀ x ∈ ([(71, .aaload, 1), (72, .getfield 165, 3), (75, .getfield 168, 3), (78, .ireturn, 1)] : List (Nat × Instr × Nat)), decode cX10_text x.1 = .ok x.2 := by decide +kernel
theorem dX10_text_71 : decode cX10_text 71 = .ok (.aaload, 1) := daX10_text_71 (71, .aaload, 1) (List.mem_of_getElem? (i := 0) rfl)
theorem dX10_text_72 : decode cX10_text 72 = .ok (.getfield 165, 3) := daX10_text_71 (72, .getfield 165, 3) (List.mem_of_getElem? (i := 1) rfl)
theorem dX10_text_75 : decode cX10_text 75 = .ok (.getfield 168, 3) := daX10_text_71 (75, .getfield 168, 3) (List.mem_of_getElem? (i := 2) rfl)
theorem dX10_text_78 : decode cX10_text 78 = .ok (.ireturn, 1) := daX10_text_71 (78, .ireturn, 1) (List.mem_of_getElem? (i := 3) rfl)
set_option maxRecDepth 20000 in
theorem ggX10_law_X2_learn : GoodIn wsX10_law wsX2_learn := goodIn_r _ [9, 10, 11, 12, 13, 8, 14, 15, 16, 17, 18, 19, 20, 21, 22, 23, 24, 25, 26, 27, 28, 29, 30, 31, 32, 33, 34, 35, 36, 37, 38, 39, 40, 41, 42, 43, 44, 45, 46, 47, 48, 49, 50, 51, 52, 53, 54, 55, 56, 57, 58, 59, 60, 61, 62, 63, 64, 65, 66, 67, 68, 69, 70, 71, 72, 73, 74, 75, 76, 77, 78, 79, 80, 81, 82, 83, 84, 85, 86, 87, 88, 89, 90, 91, 92, 93, 94, 95, 96, 97, 98, 99, 100, 101, 102, 103, 104, 105, 106, 107, 108, 109, 110, 111, 112, 113, 114, 115, 116, 117, 118, 119, 120, 121, 122, 123, 124, 125, 126, 127, 128, 146, 147, 148, 149, 150, 151] (by decide +kernel) (by decide +kernel)
set_option maxRecDepth 20000 in
theorem gX10_law_X2_learn : GoodIn wsX10_law (wsV RX10 171 RX2 yX2_learn wsX2_learn) := goodIn_app (goodIn_of _ (by decide +kernel)) ggX10_law_X2_learn
set_option maxRecDepth 20000 in
theorem daX10_law_0 : ∀ x ∈ ([(0, .aload_n 0, 1), (1, .getfield 79, 3), (4, .aload_n 0, 1), (5, .getfield 50, 3), (8, .invokevirtual 171, 3), (11, .istore_n 1, 1), (12, .aload_n 0, 1), (13, .getfield 50, 3), (16, .iconst 0, 1), (17, .putfield 158, 3), (20, .iload_n 1, 1), (21, .ifCond .eq 5, 3), (24, .iload_n 1, 1), (25, .ireturn, 1), (26, .aload_n 0, 1), (27, .getfield 75, 3), (30, .astore_n 2, 1), (31, .aload_n 0, 1), (32, .aload_n 0, 1), (33, .getfield 79, 3), (36, .putfield 75, 3), (39, .aload_n 0, 1), (40, .aload_n 2, 1), (41, .putfield 79, 3), (44, .iconst 0, 1), (45, .ireturn, 1)] : List (Nat × Instr × Nat)), decode cX10_law x.1 = .ok x.2 := by decide +kernel
theorem dX10_law_0 : decode cX10_law 0 = .ok (.aload_n 0, 1) := daX10_law_0 (0, .aload_n 0, 1) (List.mem_of_getElem? (i := 0) rfl)
theorem dX10_law_1 : decode cX10_law 1 = .ok (.getfield 79, 3) := daX10_law_0 (1, .getfield 79, 3) (List.mem_of_getElem? (i := 1) rfl)
theorem dX10_law_4 : decode cX10_law 4 = .ok (.aload_n 0, 1) := daX10_law_0 (4, .aload_n 0, 1) (List.mem_of_getElem? (i := 2) rfl)
theorem dX10_law_5 : decode cX10_law 5 = .ok (.getfield 50, 3) := daX10_law_0 (5, .getfield 50, 3) (List.mem_of_getElem? (i := 3) rfl)
theorem dX10_law_8 : decode cX10_law 8 = .ok (.invokevirtual 171, 3) := daX10_law_0 (8, .invokevirtual 171, 3) (List.mem_of_getElem? (i := 4) rfl)
theorem dX10_law_11 : decode cX10_law 11 = .ok (.istore_n 1, 1) := daX10_law_0 (11, .istore_n 1, 1) (List.mem_of_getElem? (i := 5) rfl)
theorem dX10_law_12 : decode cX10_law 12 = .ok (.aload_n 0, 1) := daX10_law_0 (12, .aload_n 0, 1) (List.mem_of_getElem? (i := 6) rfl)
theorem dX10_law_13 : decode cX10_law 13 = .ok (.getfield 50, 3) := daX10_law_0 (13, .getfield 50, 3) (List.mem_of_getElem? (i := 7) rfl)
theorem dX10_law_16 : decode cX10_law 16 = .ok (.iconst 0, 1) := daX10_law_0 (16, .iconst 0, 1) (List.mem_of_getElem? (i := 8) rfl)
theorem dX10_law_17 : decode cX10_law 17 = .ok (.putfield 158, 3) := daX10_law_0 (17, .putfield 158, 3) (List.mem_of_getElem? (i := 9) rfl)
theorem dX10_law_20 : decode cX10_law 20 = .ok (.iload_n 1, 1) := daX10_law_0 (20, .iload_n 1, 1) (List.mem_of_getElem? (i := 10) rfl)
theorem dX10_law_21 : decode cX10_law 21 = .ok (.ifCond .eq 5, 3) := daX10_law_0 (21, .ifCond .eq 5, 3) (List.mem_of_getElem? (i := 11) rfl)
theorem dX10_law_24 : decode cX10_law 24 = .ok (.iload_n 1, 1) := daX10_law_0 (24, .iload_n 1, 1) (List.mem_of_getElem? (i := 12) rfl)
theorem dX10_law_25 : decode cX10_law 25 = .ok (.ireturn, 1) := daX10_law_0 (25, .ireturn, 1) (List.mem_of_getElem? (i := 13) rfl)
theorem dX10_law_26 : decode cX10_law 26 = .ok (.aload_n 0, 1) := daX10_law_0 (26, .aload_n 0, 1) (List.mem_of_getElem? (i := 14) rfl)
theorem dX10_law_27 : decode cX10_law 27 = .ok (.getfield 75, 3) := daX10_law_0 (27, .getfield 75, 3) (List.mem_of_getElem? (i := 15) rfl)
theorem dX10_law_30 : decode cX10_law 30 = .ok (.astore_n 2, 1) := daX10_law_0 (30, .astore_n 2, 1) (List.mem_of_getElem? (i := 16) rfl)
theorem dX10_law_31 : decode cX10_law 31 = .ok (.aload_n 0, 1) := daX10_law_0 (31, .aload_n 0, 1) (List.mem_of_getElem? (i := 17) rfl)
theorem dX10_law_32 : decode cX10_law 32 = .ok (.aload_n 0, 1) := daX10_law_0 (32, .aload_n 0, 1) (List.mem_of_getElem? (i := 18) rfl)
theorem dX10_law_33 : decode cX10_law 33 = .ok (.getfield 79, 3) := daX10_law_0 (33, .getfield 79, 3) (List.mem_of_getElem? (i := 19) rfl)
theorem dX10_law_36 : decode cX10_law 36 = .ok (.putfield 75, 3) := daX10_law_0 (36, .putfield 75, 3) (List.mem_of_getElem? (i := 20) rfl)
theorem dX10_law_39 : decode cX10_law 39 = .ok (.aload_n 0, 1) := daX10_law_0 (39, .aload_n 0, 1) (List.mem_of_getElem? (i := 21) rfl)
theorem dX10_law_40 : decode cX10_law 40 = .ok (.aload_n 2, 1) := daX10_law_0 (40, .aload_n 2, 1) (List.mem_of_getElem? (i := 22) rfl)
theorem dX10_law_41 : decode cX10_law 41 = .ok (.putfield 79, 3) := daX10_law_0 (41, .putfield 79, 3) (List.mem_of_getElem? (i := 23) rfl)
theorem dX10_law_44 : decode cX10_law 44 = .ok (.iconst 0, 1) := daX10_law_0 (44, .iconst 0, 1) (List.mem_of_getElem? (i := 24) rfl)
theorem dX10_law_45 : decode cX10_law 45 = .ok (.ireturn, 1) := daX10_law_0 (45, .ireturn, 1) (List.mem_of_getElem? (i := 25) rfl)
set_option maxRecDepth 20000 in
theorem ggX10_show_X10_paperAt : GoodIn wsX10_show wsX10_paperAt := goodIn_r _ [17, 18, 19, 174, 175, 176, 177, 178, 179, 180, 181, 182, 183, 184, 185, 186, 187, 188, 189, 190] (by decide +kernel) (by decide +kernel)
set_option maxRecDepth 20000 in
theorem gX10_show_X10_paperAt : GoodIn wsX10_show (wsV RX10 112 RX10 yX10_paperAt wsX10_paperAt) := goodIn_app (goodIn_of _ (by decide +kernel)) ggX10_show_X10_paperAt
set_option maxRecDepth 20000 in
theorem ggX10_show_X10_isTown : GoodIn wsX10_show wsX10_isTown := goodIn_r _ [22, 23, 24, 16, 25] (by decide +kernel) (by decide +kernel)
set_option maxRecDepth 20000 in
theorem gX10_show_X10_isTown : GoodIn wsX10_show (va_wsS RX10 86 yX10_isTown wsX10_isTown) := goodIn_app (goodIn_of _ (by decide +kernel)) ggX10_show_X10_isTown
set_option maxRecDepth 20000 in
theorem ggX10_show_X10_isHand : GoodIn wsX10_show wsX10_isHand := goodIn_r _ [28, 29, 23, 24, 16, 25] (by decide +kernel) (by decide +kernel)
set_option maxRecDepth 20000 in
theorem gX10_show_X10_isHand : GoodIn wsX10_show (va_wsS RX10 175 yX10_isHand wsX10_isHand) := goodIn_app (goodIn_of _ (by decide +kernel)) ggX10_show_X10_isHand
set_option maxRecDepth 20000 in
theorem ggX10_show_X3_canBeShown : GoodIn wsX10_show wsX3_canBeShown := goodIn_r _ [34, 35, 36, 37, 38, 33, 39, 40, 41, 42, 43, 44, 24, 16, 25, 191, 192, 193, 194, 195, 196, 197] (by decide +kernel) (by decide +kernel)
set_option maxRecDepth 20000 in
theorem gX10_show_X3_canBeShown : GoodIn wsX10_show (wsV RX10 178 RX3 yX3_canBeShown wsX3_canBeShown) := goodIn_app (goodIn_of _ (by decide +kernel)) ggX10_show_X3_canBeShown
set_option maxRecDepth 20000 in
theorem ggX10_show_X3_isBook : GoodIn wsX10_show wsX3_isBook := goodIn_r _ [39, 40, 191, 192, 193, 194, 195, 196, 197] (by decide +kernel) (by decide +kernel)
set_option maxRecDepth 20000 in
theorem gX10_show_X3_isBook : GoodIn wsX10_show (wsV RX10 181 RX3 yX3_isBook wsX3_isBook) := goodIn_app (goodIn_of _ (by decide +kernel)) ggX10_show_X3_isBook
set_option maxRecDepth 20000 in
theorem ggX10_show_X5_init : GoodIn wsX10_show wsX5_init := goodIn_r _ [48, 49, 50, 51, 52, 53, 54, 55, 56, 57, 58, 59, 60, 61, 198, 199, 200, 201, 202, 203, 204, 205, 206, 207] (by decide +kernel) (by decide +kernel)
set_option maxRecDepth 20000 in
theorem gX10_show_X5_init : GoodIn wsX10_show (wsX5_init) := ggX10_show_X5_init
set_option maxRecDepth 20000 in
theorem ggX10_show_X10_gatherFacts : GoodIn wsX10_show wsX10_gatherFacts := goodIn_r _ [65, 66, 67, 9, 68, 69, 70, 71, 2, 72, 73, 74, 75, 16, 76, 77, 78, 79, 80, 81, 82, 83, 84, 85, 86, 87, 88, 89, 90, 91, 92, 93, 94, 95, 96, 97, 98, 99, 100, 101, 102, 103, 104, 105, 106, 107, 108, 109, 110, 111, 198, 199, 200, 201, 202, 203, 204, 205, 206, 207, 191, 192, 193, 194, 195, 196, 197, 174, 175, 176, 177, 178, 179, 180, 181, 182, 183, 184, 185, 186, 187, 188, 189, 190, 212, 213, 214, 215, 216, 217, 218] (by decide +kernel) (by decide +kernel)
set_option maxRecDepth 20000 in
theorem gX10_show_X10_gatherFacts : GoodIn wsX10_show (wsV RX10 191 RX10 yX10_gatherFacts wsX10_gatherFacts) := goodIn_app (goodIn_of _ (by decide +kernel)) ggX10_show_X10_gatherFacts
set_option maxRecDepth 20000 in
theorem ggX10_show_X1_firstRuleFor : GoodIn wsX10_show wsX1_firstRuleFor := goodIn_r _ [116, 117, 118, 119, 120, 115, 121, 122, 123, 124, 125, 126, 127, 128, 219, 220, 221, 222, 223, 224] (by decide +kernel) (by decide +kernel)
set_option maxRecDepth 20000 in
theorem gX10_show_X1_firstRuleFor : GoodIn wsX10_show (wsV RX10 195 RX1 yX1_firstRuleFor wsX1_firstRuleFor) := goodIn_app (goodIn_of _ (by decide +kernel)) ggX10_show_X1_firstRuleFor
set_option maxRecDepth 20000 in
theorem ggX10_show_X1_deedOf : GoodIn wsX10_show wsX1_deedOf := goodIn_r _ [132, 117, 133, 219, 220, 221, 222, 223, 224] (by decide +kernel) (by decide +kernel)
set_option maxRecDepth 20000 in
theorem gX10_show_X1_deedOf : GoodIn wsX10_show (wsV RX10 202 RX1 yX1_deedOf wsX1_deedOf) := goodIn_app (goodIn_of _ (by decide +kernel)) ggX10_show_X1_deedOf
set_option maxRecDepth 20000 in
theorem ggX10_show_X10_payOut : GoodIn wsX10_show wsX10_payOut := goodIn_r _ [137, 71, 7, 82, 138, 139, 140, 141, 142, 72, 143, 144, 145, 16, 146, 147, 148, 6, 149, 150, 151, 152, 153, 154, 155, 156, 157, 158, 159, 160, 161, 162, 92, 163, 164, 165, 166, 167, 168, 169, 170, 171, 172, 173, 45, 37, 38, 33, 39, 40, 198, 199, 200, 201, 202, 203, 204, 205, 206, 207, 174, 175, 176, 177, 178, 179, 180, 181, 182, 183, 184, 185, 186, 187, 188, 189, 190, 208, 209, 210, 211, 191, 192, 193, 194, 195, 196, 197, 225, 226, 227, 228] (by decide +kernel) (by decide +kernel)
set_option maxRecDepth 20000 in
theorem gX10_show_X10_payOut : GoodIn wsX10_show (wsV RX10 209 RX10 yX10_payOut wsX10_payOut) := goodIn_app (goodIn_of _ (by decide +kernel)) ggX10_show_X10_payOut
set_option maxRecDepth 20000 in
theorem daX10_show_0 : ∀ x ∈ ([(0, .aload_n 0, 1), (1, .iload_n 2, 1), (2, .invokevirtual 112, 3), (5, .astore 7, 2), (7, .aload_n 0, 1), (8, .getfield 172, 3), (11, .sipush 200, 3), (14, .if_icmp .ge 23, 3), (17, .iload_n 1, 1), (18, .invokestatic 86, 3), (21, .ifCond .eq 16, 3), (24, .aload 7, 2), (26, .ifnull 11, 3), (29, .iload 5, 2), (31, .invokestatic 175, 3), (34, .ifCond .ne 5, 3), (37, .iconst (-1), 1), (38, .ireturn, 1), (39, .aload 7, 2), (41, .iload_n 3, 1), (42, .iload 4, 2), (44, .invokevirtual 178, 3), (47, .ifCond .ne 5, 3), (50, .iconst (-1), 1), (51, .ireturn, 1), (52, .aload 7, 2), (54, .invokevirtual 181, 3), (57, .ifCond .eq 11, 3), (60, .aload 7, 2), (62, .getfield 185, 3), (65, .goto 5, 3), (68, .iload 4, 2), (70, .istore 8, 2), (72, .new 41, 3), (75, .dup, 1), (76, .iload_n 1, 1), (77, .iload_n 2, 1), (78, .iload_n 3, 1), (79, .iload 8, 2), (81, .iload 5, 2)] : List (Nat × Instr × Nat)), decode cX10_show x.1 = .ok x.2 := by decide +kernel
theorem dX10_show_0 : decode cX10_show 0 = .ok (.aload_n 0, 1) := daX10_show_0 (0, .aload_n 0, 1) (List.mem_of_getElem? (i := 0) rfl)
theorem dX10_show_1 : decode cX10_show 1 = .ok (.iload_n 2, 1) := daX10_show_0 (1, .iload_n 2, 1) (List.mem_of_getElem? (i := 1) rfl)
theorem dX10_show_2 : decode cX10_show 2 = .ok (.invokevirtual 112, 3) := daX10_show_0 (2, .invokevirtual 112, 3) (List.mem_of_getElem? (i := 2) rfl)
theorem dX10_show_5 : decode cX10_show 5 = .ok (.astore 7, 2) := daX10_show_0 (5, .astore 7, 2) (List.mem_of_getElem? (i := 3) rfl)
theorem dX10_show_7 : decode cX10_show 7 = .ok (.aload_n 0, 1) := daX10_show_0 (7, .aload_n 0, 1) (List.mem_of_getElem? (i := 4) rfl)
theorem dX10_show_8 : decode cX10_show 8 = .ok (.getfield 172, 3) := daX10_show_0 (8, .getfield 172, 3) (List.mem_of_getElem? (i := 5) rfl)
theorem dX10_show_11 : decode cX10_show 11 = .ok (.sipush 200, 3) := daX10_show_0 (11, .sipush 200, 3) (List.mem_of_getElem? (i := 6) rfl)
theorem dX10_show_14 : decode cX10_show 14 = .ok (.if_icmp .ge 23, 3) := daX10_show_0 (14, .if_icmp .ge 23, 3) (List.mem_of_getElem? (i := 7) rfl)
theorem dX10_show_17 : decode cX10_show 17 = .ok (.iload_n 1, 1) := daX10_show_0 (17, .iload_n 1, 1) (List.mem_of_getElem? (i := 8) rfl)
theorem dX10_show_18 : decode cX10_show 18 = .ok (.invokestatic 86, 3) := daX10_show_0 (18, .invokestatic 86, 3) (List.mem_of_getElem? (i := 9) rfl)
theorem dX10_show_21 : decode cX10_show 21 = .ok (.ifCond .eq 16, 3) := daX10_show_0 (21, .ifCond .eq 16, 3) (List.mem_of_getElem? (i := 10) rfl)
theorem dX10_show_24 : decode cX10_show 24 = .ok (.aload 7, 2) := daX10_show_0 (24, .aload 7, 2) (List.mem_of_getElem? (i := 11) rfl)
theorem dX10_show_26 : decode cX10_show 26 = .ok (.ifnull 11, 3) := daX10_show_0 (26, .ifnull 11, 3) (List.mem_of_getElem? (i := 12) rfl)
theorem dX10_show_29 : decode cX10_show 29 = .ok (.iload 5, 2) := daX10_show_0 (29, .iload 5, 2) (List.mem_of_getElem? (i := 13) rfl)
theorem dX10_show_31 : decode cX10_show 31 = .ok (.invokestatic 175, 3) := daX10_show_0 (31, .invokestatic 175, 3) (List.mem_of_getElem? (i := 14) rfl)
theorem dX10_show_34 : decode cX10_show 34 = .ok (.ifCond .ne 5, 3) := daX10_show_0 (34, .ifCond .ne 5, 3) (List.mem_of_getElem? (i := 15) rfl)
theorem dX10_show_37 : decode cX10_show 37 = .ok (.iconst (-1), 1) := daX10_show_0 (37, .iconst (-1), 1) (List.mem_of_getElem? (i := 16) rfl)
theorem dX10_show_38 : decode cX10_show 38 = .ok (.ireturn, 1) := daX10_show_0 (38, .ireturn, 1) (List.mem_of_getElem? (i := 17) rfl)
theorem dX10_show_39 : decode cX10_show 39 = .ok (.aload 7, 2) := daX10_show_0 (39, .aload 7, 2) (List.mem_of_getElem? (i := 18) rfl)
theorem dX10_show_41 : decode cX10_show 41 = .ok (.iload_n 3, 1) := daX10_show_0 (41, .iload_n 3, 1) (List.mem_of_getElem? (i := 19) rfl)
theorem dX10_show_42 : decode cX10_show 42 = .ok (.iload 4, 2) := daX10_show_0 (42, .iload 4, 2) (List.mem_of_getElem? (i := 20) rfl)
theorem dX10_show_44 : decode cX10_show 44 = .ok (.invokevirtual 178, 3) := daX10_show_0 (44, .invokevirtual 178, 3) (List.mem_of_getElem? (i := 21) rfl)
theorem dX10_show_47 : decode cX10_show 47 = .ok (.ifCond .ne 5, 3) := daX10_show_0 (47, .ifCond .ne 5, 3) (List.mem_of_getElem? (i := 22) rfl)
theorem dX10_show_50 : decode cX10_show 50 = .ok (.iconst (-1), 1) := daX10_show_0 (50, .iconst (-1), 1) (List.mem_of_getElem? (i := 23) rfl)
theorem dX10_show_51 : decode cX10_show 51 = .ok (.ireturn, 1) := daX10_show_0 (51, .ireturn, 1) (List.mem_of_getElem? (i := 24) rfl)
theorem dX10_show_52 : decode cX10_show 52 = .ok (.aload 7, 2) := daX10_show_0 (52, .aload 7, 2) (List.mem_of_getElem? (i := 25) rfl)
theorem dX10_show_54 : decode cX10_show 54 = .ok (.invokevirtual 181, 3) := daX10_show_0 (54, .invokevirtual 181, 3) (List.mem_of_getElem? (i := 26) rfl)
theorem dX10_show_57 : decode cX10_show 57 = .ok (.ifCond .eq 11, 3) := daX10_show_0 (57, .ifCond .eq 11, 3) (List.mem_of_getElem? (i := 27) rfl)
theorem dX10_show_60 : decode cX10_show 60 = .ok (.aload 7, 2) := daX10_show_0 (60, .aload 7, 2) (List.mem_of_getElem? (i := 28) rfl)
theorem dX10_show_62 : decode cX10_show 62 = .ok (.getfield 185, 3) := daX10_show_0 (62, .getfield 185, 3) (List.mem_of_getElem? (i := 29) rfl)
theorem dX10_show_65 : decode cX10_show 65 = .ok (.goto 5, 3) := daX10_show_0 (65, .goto 5, 3) (List.mem_of_getElem? (i := 30) rfl)
theorem dX10_show_68 : decode cX10_show 68 = .ok (.iload 4, 2) := daX10_show_0 (68, .iload 4, 2) (List.mem_of_getElem? (i := 31) rfl)
theorem dX10_show_70 : decode cX10_show 70 = .ok (.istore 8, 2) := daX10_show_0 (70, .istore 8, 2) (List.mem_of_getElem? (i := 32) rfl)
theorem dX10_show_72 : decode cX10_show 72 = .ok (.new 41, 3) := daX10_show_0 (72, .new 41, 3) (List.mem_of_getElem? (i := 33) rfl)
theorem dX10_show_75 : decode cX10_show 75 = .ok (.dup, 1) := daX10_show_0 (75, .dup, 1) (List.mem_of_getElem? (i := 34) rfl)
theorem dX10_show_76 : decode cX10_show 76 = .ok (.iload_n 1, 1) := daX10_show_0 (76, .iload_n 1, 1) (List.mem_of_getElem? (i := 35) rfl)
theorem dX10_show_77 : decode cX10_show 77 = .ok (.iload_n 2, 1) := daX10_show_0 (77, .iload_n 2, 1) (List.mem_of_getElem? (i := 36) rfl)
theorem dX10_show_78 : decode cX10_show 78 = .ok (.iload_n 3, 1) := daX10_show_0 (78, .iload_n 3, 1) (List.mem_of_getElem? (i := 37) rfl)
theorem dX10_show_79 : decode cX10_show 79 = .ok (.iload 8, 2) := daX10_show_0 (79, .iload 8, 2) (List.mem_of_getElem? (i := 38) rfl)
theorem dX10_show_81 : decode cX10_show 81 = .ok (.iload 5, 2) := daX10_show_0 (81, .iload 5, 2) (List.mem_of_getElem? (i := 39) rfl)
set_option maxRecDepth 20000 in
theorem daX10_show_83 : ∀ x ∈ ([(83, .aload_n 0, 1), (84, .getfield 82, 3), (87, .invokespecial 188, 3), (90, .astore 9, 2), (92, .aload_n 0, 1), (93, .aload 9, 2), (95, .aload 7, 2), (97, .invokevirtual 191, 3), (100, .aload 9, 2), (102, .aload_n 0, 1), (103, .getfield 18, 3), (106, .iload_n 1, 1), (107, .aaload, 1), (108, .getfield 165, 3), (111, .aload_n 0, 1), (112, .getfield 61, 3), (115, .invokevirtual 195, 3), (118, .putfield 199, 3), (121, .aload 9, 2), (123, .aload_n 0, 1), (124, .getfield 18, 3), (127, .iload_n 1, 1), (128, .aaload, 1), (129, .getfield 165, 3), (132, .aload 9, 2), (134, .getfield 199, 3), (137, .invokevirtual 202, 3), (140, .putfield 206, 3), (143, .aload 9, 2), (145, .getfield 206, 3), (148, .ifCond .ne 13, 3), (151, .aload_n 0, 1), (152, .aload 9, 2), (154, .aload 7, 2), (156, .iload 6, 2), (158, .invokevirtual 209, 3), (161, .aload_n 0, 1), (162, .getfield 43, 3), (165, .aload_n 0, 1), (166, .getfield 172, 3)] : List (Nat × Instr × Nat)), decode cX10_show x.1 = .ok x.2 := by decide +kernel
theorem dX10_show_83 : decode cX10_show 83 = .ok (.aload_n 0, 1) := daX10_show_83 (83, .aload_n 0, 1) (List.mem_of_getElem? (i := 0) rfl)
theorem dX10_show_84 : decode cX10_show 84 = .ok (.getfield 82, 3) := daX10_show_83 (84, .getfield 82, 3) (List.mem_of_getElem? (i := 1) rfl)
theorem dX10_show_87 : decode cX10_show 87 = .ok (.invokespecial 188, 3) := daX10_show_83 (87, .invokespecial 188, 3) (List.mem_of_getElem? (i := 2) rfl)
theorem dX10_show_90 : decode cX10_show 90 = .ok (.astore 9, 2) := daX10_show_83 (90, .astore 9, 2) (List.mem_of_getElem? (i := 3) rfl)
theorem dX10_show_92 : decode cX10_show 92 = .ok (.aload_n 0, 1) := daX10_show_83 (92, .aload_n 0, 1) (List.mem_of_getElem? (i := 4) rfl)
theorem dX10_show_93 : decode cX10_show 93 = .ok (.aload 9, 2) := daX10_show_83 (93, .aload 9, 2) (List.mem_of_getElem? (i := 5) rfl)
theorem dX10_show_95 : decode cX10_show 95 = .ok (.aload 7, 2) := daX10_show_83 (95, .aload 7, 2) (List.mem_of_getElem? (i := 6) rfl)
theorem dX10_show_97 : decode cX10_show 97 = .ok (.invokevirtual 191, 3) := daX10_show_83 (97, .invokevirtual 191, 3) (List.mem_of_getElem? (i := 7) rfl)
theorem dX10_show_100 : decode cX10_show 100 = .ok (.aload 9, 2) := daX10_show_83 (100, .aload 9, 2) (List.mem_of_getElem? (i := 8) rfl)
theorem dX10_show_102 : decode cX10_show 102 = .ok (.aload_n 0, 1) := daX10_show_83 (102, .aload_n 0, 1) (List.mem_of_getElem? (i := 9) rfl)
theorem dX10_show_103 : decode cX10_show 103 = .ok (.getfield 18, 3) := daX10_show_83 (103, .getfield 18, 3) (List.mem_of_getElem? (i := 10) rfl)
theorem dX10_show_106 : decode cX10_show 106 = .ok (.iload_n 1, 1) := daX10_show_83 (106, .iload_n 1, 1) (List.mem_of_getElem? (i := 11) rfl)
theorem dX10_show_107 : decode cX10_show 107 = .ok (.aaload, 1) := daX10_show_83 (107, .aaload, 1) (List.mem_of_getElem? (i := 12) rfl)
theorem dX10_show_108 : decode cX10_show 108 = .ok (.getfield 165, 3) := daX10_show_83 (108, .getfield 165, 3) (List.mem_of_getElem? (i := 13) rfl)
theorem dX10_show_111 : decode cX10_show 111 = .ok (.aload_n 0, 1) := daX10_show_83 (111, .aload_n 0, 1) (List.mem_of_getElem? (i := 14) rfl)
theorem dX10_show_112 : decode cX10_show 112 = .ok (.getfield 61, 3) := daX10_show_83 (112, .getfield 61, 3) (List.mem_of_getElem? (i := 15) rfl)
theorem dX10_show_115 : decode cX10_show 115 = .ok (.invokevirtual 195, 3) := daX10_show_83 (115, .invokevirtual 195, 3) (List.mem_of_getElem? (i := 16) rfl)
theorem dX10_show_118 : decode cX10_show 118 = .ok (.putfield 199, 3) := daX10_show_83 (118, .putfield 199, 3) (List.mem_of_getElem? (i := 17) rfl)
theorem dX10_show_121 : decode cX10_show 121 = .ok (.aload 9, 2) := daX10_show_83 (121, .aload 9, 2) (List.mem_of_getElem? (i := 18) rfl)
theorem dX10_show_123 : decode cX10_show 123 = .ok (.aload_n 0, 1) := daX10_show_83 (123, .aload_n 0, 1) (List.mem_of_getElem? (i := 19) rfl)
theorem dX10_show_124 : decode cX10_show 124 = .ok (.getfield 18, 3) := daX10_show_83 (124, .getfield 18, 3) (List.mem_of_getElem? (i := 20) rfl)
theorem dX10_show_127 : decode cX10_show 127 = .ok (.iload_n 1, 1) := daX10_show_83 (127, .iload_n 1, 1) (List.mem_of_getElem? (i := 21) rfl)
theorem dX10_show_128 : decode cX10_show 128 = .ok (.aaload, 1) := daX10_show_83 (128, .aaload, 1) (List.mem_of_getElem? (i := 22) rfl)
theorem dX10_show_129 : decode cX10_show 129 = .ok (.getfield 165, 3) := daX10_show_83 (129, .getfield 165, 3) (List.mem_of_getElem? (i := 23) rfl)
theorem dX10_show_132 : decode cX10_show 132 = .ok (.aload 9, 2) := daX10_show_83 (132, .aload 9, 2) (List.mem_of_getElem? (i := 24) rfl)
theorem dX10_show_134 : decode cX10_show 134 = .ok (.getfield 199, 3) := daX10_show_83 (134, .getfield 199, 3) (List.mem_of_getElem? (i := 25) rfl)
theorem dX10_show_137 : decode cX10_show 137 = .ok (.invokevirtual 202, 3) := daX10_show_83 (137, .invokevirtual 202, 3) (List.mem_of_getElem? (i := 26) rfl)
theorem dX10_show_140 : decode cX10_show 140 = .ok (.putfield 206, 3) := daX10_show_83 (140, .putfield 206, 3) (List.mem_of_getElem? (i := 27) rfl)
theorem dX10_show_143 : decode cX10_show 143 = .ok (.aload 9, 2) := daX10_show_83 (143, .aload 9, 2) (List.mem_of_getElem? (i := 28) rfl)
theorem dX10_show_145 : decode cX10_show 145 = .ok (.getfield 206, 3) := daX10_show_83 (145, .getfield 206, 3) (List.mem_of_getElem? (i := 29) rfl)
theorem dX10_show_148 : decode cX10_show 148 = .ok (.ifCond .ne 13, 3) := daX10_show_83 (148, .ifCond .ne 13, 3) (List.mem_of_getElem? (i := 30) rfl)
theorem dX10_show_151 : decode cX10_show 151 = .ok (.aload_n 0, 1) := daX10_show_83 (151, .aload_n 0, 1) (List.mem_of_getElem? (i := 31) rfl)
theorem dX10_show_152 : decode cX10_show 152 = .ok (.aload 9, 2) := daX10_show_83 (152, .aload 9, 2) (List.mem_of_getElem? (i := 32) rfl)
theorem dX10_show_154 : decode cX10_show 154 = .ok (.aload 7, 2) := daX10_show_83 (154, .aload 7, 2) (List.mem_of_getElem? (i := 33) rfl)
theorem dX10_show_156 : decode cX10_show 156 = .ok (.iload 6, 2) := daX10_show_83 (156, .iload 6, 2) (List.mem_of_getElem? (i := 34) rfl)
theorem dX10_show_158 : decode cX10_show 158 = .ok (.invokevirtual 209, 3) := daX10_show_83 (158, .invokevirtual 209, 3) (List.mem_of_getElem? (i := 35) rfl)
theorem dX10_show_161 : decode cX10_show 161 = .ok (.aload_n 0, 1) := daX10_show_83 (161, .aload_n 0, 1) (List.mem_of_getElem? (i := 36) rfl)
theorem dX10_show_162 : decode cX10_show 162 = .ok (.getfield 43, 3) := daX10_show_83 (162, .getfield 43, 3) (List.mem_of_getElem? (i := 37) rfl)
theorem dX10_show_165 : decode cX10_show 165 = .ok (.aload_n 0, 1) := daX10_show_83 (165, .aload_n 0, 1) (List.mem_of_getElem? (i := 38) rfl)
theorem dX10_show_166 : decode cX10_show 166 = .ok (.getfield 172, 3) := daX10_show_83 (166, .getfield 172, 3) (List.mem_of_getElem? (i := 39) rfl)
set_option maxRecDepth 20000 in
theorem daX10_show_169 : ∀ x ∈ ([(169, .aload 9, 2), (171, .aastore, 1), (172, .aload_n 0, 1), (173, .dup, 1), (174, .getfield 172, 3), (177, .iconst 1, 1), (178, .iadd, 1), (179, .putfield 172, 3), (182, .aload 9, 2), (184, .getfield 206, 3), (187, .ireturn, 1)] : List (Nat × Instr × Nat)), decode cX10_show x.1 = .ok x.2 := by decide +kernel
theorem dX10_show_169 : decode cX10_show 169 = .ok (.aload 9, 2) := daX10_show_169 (169, .aload 9, 2) (List.mem_of_getElem? (i := 0) rfl)
theorem dX10_show_171 : decode cX10_show 171 = .ok (.aastore, 1) := daX10_show_169 (171, .aastore, 1) (List.mem_of_getElem? (i := 1) rfl)
theorem dX10_show_172 : decode cX10_show 172 = .ok (.aload_n 0, 1) := daX10_show_169 (172, .aload_n 0, 1) (List.mem_of_getElem? (i := 2) rfl)
theorem dX10_show_173 : decode cX10_show 173 = .ok (.dup, 1) := daX10_show_169 (173, .dup, 1) (List.mem_of_getElem? (i := 3) rfl)
theorem dX10_show_174 : decode cX10_show 174 = .ok (.getfield 172, 3) := daX10_show_169 (174, .getfield 172, 3) (List.mem_of_getElem? (i := 4) rfl)
theorem dX10_show_177 : decode cX10_show 177 = .ok (.iconst 1, 1) := daX10_show_169 (177, .iconst 1, 1) (List.mem_of_getElem? (i := 5) rfl)
theorem dX10_show_178 : decode cX10_show 178 = .ok (.iadd, 1) := daX10_show_169 (178, .iadd, 1) (List.mem_of_getElem? (i := 6) rfl)
theorem dX10_show_179 : decode cX10_show 179 = .ok (.putfield 172, 3) := daX10_show_169 (179, .putfield 172, 3) (List.mem_of_getElem? (i := 7) rfl)
theorem dX10_show_182 : decode cX10_show 182 = .ok (.aload 9, 2) := daX10_show_169 (182, .aload 9, 2) (List.mem_of_getElem? (i := 8) rfl)
theorem dX10_show_184 : decode cX10_show 184 = .ok (.getfield 206, 3) := daX10_show_169 (184, .getfield 206, 3) (List.mem_of_getElem? (i := 9) rfl)
theorem dX10_show_187 : decode cX10_show 187 = .ok (.ireturn, 1) := daX10_show_169 (187, .ireturn, 1) (List.mem_of_getElem? (i := 10) rfl)
set_option maxRecDepth 20000 in
theorem ggX10_send_X10_isTown : GoodIn wsX10_send wsX10_isTown := goodIn_r _ [8, 9, 10, 7, 11] (by decide +kernel) (by decide +kernel)
set_option maxRecDepth 20000 in
theorem gX10_send_X10_isTown : GoodIn wsX10_send (va_wsS RX10 86 yX10_isTown wsX10_isTown) := goodIn_app (goodIn_of _ (by decide +kernel)) ggX10_send_X10_isTown
set_option maxRecDepth 20000 in
theorem ggX10_send_X10_isWithin : GoodIn wsX10_send wsX10_isWithin := goodIn_r _ [11] (by decide +kernel) (by decide +kernel)
set_option maxRecDepth 20000 in
theorem gX10_send_X10_isWithin : GoodIn wsX10_send (va_wsS RX10 90 yX10_isWithin wsX10_isWithin) := goodIn_app (goodIn_of _ (by decide +kernel)) ggX10_send_X10_isWithin
set_option maxRecDepth 20000 in
theorem daX10_send_0 : ∀ x ∈ ([(0, .iload_n 1, 1), (1, .invokestatic 86, 3), (4, .ifCond .eq 17, 3), (7, .iload_n 1, 1), (8, .ifCond .eq 13, 3), (11, .iload_n 2, 1), (12, .iconst 1, 1), (13, .ldc 213, 2), (15, .invokestatic 90, 3), (18, .ifCond .ne 5, 3), (21, .iconst (-1), 1), (22, .ireturn, 1), (23, .aload_n 0, 1), (24, .getfield 18, 3), (27, .iload_n 1, 1), (28, .aaload, 1), (29, .getfield 214, 3), (32, .ldc 217, 2), (34, .iload_n 2, 1), (35, .isub, 1), (36, .if_icmp .le 5, 3), (39, .iconst (-1), 1), (40, .ireturn, 1), (41, .aload_n 0, 1), (42, .getfield 18, 3), (45, .iload_n 1, 1), (46, .aaload, 1), (47, .dup, 1), (48, .getfield 214, 3), (51, .iload_n 2, 1), (52, .iadd, 1), (53, .putfield 214, 3), (56, .aload_n 0, 1), (57, .getfield 18, 3), (60, .iload_n 1, 1), (61, .aaload, 1), (62, .getfield 214, 3), (65, .ireturn, 1)] : List (Nat × Instr × Nat)), decode cX10_send x.1 = .ok x.2 := by decide +kernel
theorem dX10_send_0 : decode cX10_send 0 = .ok (.iload_n 1, 1) := daX10_send_0 (0, .iload_n 1, 1) (List.mem_of_getElem? (i := 0) rfl)
theorem dX10_send_1 : decode cX10_send 1 = .ok (.invokestatic 86, 3) := daX10_send_0 (1, .invokestatic 86, 3) (List.mem_of_getElem? (i := 1) rfl)
theorem dX10_send_4 : decode cX10_send 4 = .ok (.ifCond .eq 17, 3) := daX10_send_0 (4, .ifCond .eq 17, 3) (List.mem_of_getElem? (i := 2) rfl)
theorem dX10_send_7 : decode cX10_send 7 = .ok (.iload_n 1, 1) := daX10_send_0 (7, .iload_n 1, 1) (List.mem_of_getElem? (i := 3) rfl)
theorem dX10_send_8 : decode cX10_send 8 = .ok (.ifCond .eq 13, 3) := daX10_send_0 (8, .ifCond .eq 13, 3) (List.mem_of_getElem? (i := 4) rfl)
theorem dX10_send_11 : decode cX10_send 11 = .ok (.iload_n 2, 1) := daX10_send_0 (11, .iload_n 2, 1) (List.mem_of_getElem? (i := 5) rfl)
theorem dX10_send_12 : decode cX10_send 12 = .ok (.iconst 1, 1) := daX10_send_0 (12, .iconst 1, 1) (List.mem_of_getElem? (i := 6) rfl)
theorem dX10_send_13 : decode cX10_send 13 = .ok (.ldc 213, 2) := daX10_send_0 (13, .ldc 213, 2) (List.mem_of_getElem? (i := 7) rfl)
theorem dX10_send_15 : decode cX10_send 15 = .ok (.invokestatic 90, 3) := daX10_send_0 (15, .invokestatic 90, 3) (List.mem_of_getElem? (i := 8) rfl)
theorem dX10_send_18 : decode cX10_send 18 = .ok (.ifCond .ne 5, 3) := daX10_send_0 (18, .ifCond .ne 5, 3) (List.mem_of_getElem? (i := 9) rfl)
theorem dX10_send_21 : decode cX10_send 21 = .ok (.iconst (-1), 1) := daX10_send_0 (21, .iconst (-1), 1) (List.mem_of_getElem? (i := 10) rfl)
theorem dX10_send_22 : decode cX10_send 22 = .ok (.ireturn, 1) := daX10_send_0 (22, .ireturn, 1) (List.mem_of_getElem? (i := 11) rfl)
theorem dX10_send_23 : decode cX10_send 23 = .ok (.aload_n 0, 1) := daX10_send_0 (23, .aload_n 0, 1) (List.mem_of_getElem? (i := 12) rfl)
theorem dX10_send_24 : decode cX10_send 24 = .ok (.getfield 18, 3) := daX10_send_0 (24, .getfield 18, 3) (List.mem_of_getElem? (i := 13) rfl)
theorem dX10_send_27 : decode cX10_send 27 = .ok (.iload_n 1, 1) := daX10_send_0 (27, .iload_n 1, 1) (List.mem_of_getElem? (i := 14) rfl)
theorem dX10_send_28 : decode cX10_send 28 = .ok (.aaload, 1) := daX10_send_0 (28, .aaload, 1) (List.mem_of_getElem? (i := 15) rfl)
theorem dX10_send_29 : decode cX10_send 29 = .ok (.getfield 214, 3) := daX10_send_0 (29, .getfield 214, 3) (List.mem_of_getElem? (i := 16) rfl)
theorem dX10_send_32 : decode cX10_send 32 = .ok (.ldc 217, 2) := daX10_send_0 (32, .ldc 217, 2) (List.mem_of_getElem? (i := 17) rfl)
theorem dX10_send_34 : decode cX10_send 34 = .ok (.iload_n 2, 1) := daX10_send_0 (34, .iload_n 2, 1) (List.mem_of_getElem? (i := 18) rfl)
theorem dX10_send_35 : decode cX10_send 35 = .ok (.isub, 1) := daX10_send_0 (35, .isub, 1) (List.mem_of_getElem? (i := 19) rfl)
theorem dX10_send_36 : decode cX10_send 36 = .ok (.if_icmp .le 5, 3) := daX10_send_0 (36, .if_icmp .le 5, 3) (List.mem_of_getElem? (i := 20) rfl)
theorem dX10_send_39 : decode cX10_send 39 = .ok (.iconst (-1), 1) := daX10_send_0 (39, .iconst (-1), 1) (List.mem_of_getElem? (i := 21) rfl)
theorem dX10_send_40 : decode cX10_send 40 = .ok (.ireturn, 1) := daX10_send_0 (40, .ireturn, 1) (List.mem_of_getElem? (i := 22) rfl)
theorem dX10_send_41 : decode cX10_send 41 = .ok (.aload_n 0, 1) := daX10_send_0 (41, .aload_n 0, 1) (List.mem_of_getElem? (i := 23) rfl)
theorem dX10_send_42 : decode cX10_send 42 = .ok (.getfield 18, 3) := daX10_send_0 (42, .getfield 18, 3) (List.mem_of_getElem? (i := 24) rfl)
theorem dX10_send_45 : decode cX10_send 45 = .ok (.iload_n 1, 1) := daX10_send_0 (45, .iload_n 1, 1) (List.mem_of_getElem? (i := 25) rfl)
theorem dX10_send_46 : decode cX10_send 46 = .ok (.aaload, 1) := daX10_send_0 (46, .aaload, 1) (List.mem_of_getElem? (i := 26) rfl)
theorem dX10_send_47 : decode cX10_send 47 = .ok (.dup, 1) := daX10_send_0 (47, .dup, 1) (List.mem_of_getElem? (i := 27) rfl)
theorem dX10_send_48 : decode cX10_send 48 = .ok (.getfield 214, 3) := daX10_send_0 (48, .getfield 214, 3) (List.mem_of_getElem? (i := 28) rfl)
theorem dX10_send_51 : decode cX10_send 51 = .ok (.iload_n 2, 1) := daX10_send_0 (51, .iload_n 2, 1) (List.mem_of_getElem? (i := 29) rfl)
theorem dX10_send_52 : decode cX10_send 52 = .ok (.iadd, 1) := daX10_send_0 (52, .iadd, 1) (List.mem_of_getElem? (i := 30) rfl)
theorem dX10_send_53 : decode cX10_send 53 = .ok (.putfield 214, 3) := daX10_send_0 (53, .putfield 214, 3) (List.mem_of_getElem? (i := 31) rfl)
theorem dX10_send_56 : decode cX10_send 56 = .ok (.aload_n 0, 1) := daX10_send_0 (56, .aload_n 0, 1) (List.mem_of_getElem? (i := 32) rfl)
theorem dX10_send_57 : decode cX10_send 57 = .ok (.getfield 18, 3) := daX10_send_0 (57, .getfield 18, 3) (List.mem_of_getElem? (i := 33) rfl)
theorem dX10_send_60 : decode cX10_send 60 = .ok (.iload_n 1, 1) := daX10_send_0 (60, .iload_n 1, 1) (List.mem_of_getElem? (i := 34) rfl)
theorem dX10_send_61 : decode cX10_send 61 = .ok (.aaload, 1) := daX10_send_0 (61, .aaload, 1) (List.mem_of_getElem? (i := 35) rfl)
theorem dX10_send_62 : decode cX10_send 62 = .ok (.getfield 214, 3) := daX10_send_0 (62, .getfield 214, 3) (List.mem_of_getElem? (i := 36) rfl)
theorem dX10_send_65 : decode cX10_send 65 = .ok (.ireturn, 1) := daX10_send_0 (65, .ireturn, 1) (List.mem_of_getElem? (i := 37) rfl)
set_option maxRecDepth 20000 in
theorem ggX10_shown_X10_shownAt : GoodIn wsX10_shown wsX10_shownAt := goodIn_r _ [14, 15, 16, 27, 28, 29, 30, 31, 32, 33, 34, 35, 36, 37, 38, 39, 40, 41, 42, 43] (by decide +kernel) (by decide +kernel)
set_option maxRecDepth 20000 in
theorem gX10_shown_X10_shownAt : GoodIn wsX10_shown (wsV RX10 218 RX10 yX10_shownAt wsX10_shownAt) := goodIn_app (goodIn_of _ (by decide +kernel)) ggX10_shown_X10_shownAt
set_option maxRecDepth 20000 in
theorem daX10_shown_0 : ∀ x ∈ ([(0, .aload_n 0, 1), (1, .iload_n 1, 1), (2, .invokevirtual 218, 3), (5, .astore_n 3, 1), (6, .aload_n 3, 1), (7, .ifnonnull 5, 3), (10, .iconst (-1), 1), (11, .ireturn, 1), (12, .iload_n 2, 1), (13, .tableswitch 96 0 8 #[51, 56, 61, 66, 71, 76, 81, 86, 91], 51), (64, .aload_n 3, 1), (65, .getfield 222, 3), (68, .ireturn, 1), (69, .aload_n 3, 1), (70, .getfield 225, 3), (73, .ireturn, 1), (74, .aload_n 3, 1), (75, .getfield 228, 3), (78, .ireturn, 1), (79, .aload_n 3, 1), (80, .getfield 231, 3), (83, .ireturn, 1), (84, .aload_n 3, 1), (85, .getfield 206, 3), (88, .ireturn, 1), (89, .aload_n 3, 1), (90, .getfield 199, 3), (93, .ireturn, 1), (94, .aload_n 3, 1), (95, .getfield 234, 3), (98, .ireturn, 1), (99, .aload_n 3, 1), (100, .getfield 237, 3), (103, .ireturn, 1), (104, .aload_n 3, 1), (105, .getfield 240, 3), (108, .ireturn, 1), (109, .iconst (-1), 1), (110, .ireturn, 1)] : List (Nat × Instr × Nat)), decode cX10_shown x.1 = .ok x.2 := by decide +kernel
theorem dX10_shown_0 : decode cX10_shown 0 = .ok (.aload_n 0, 1) := daX10_shown_0 (0, .aload_n 0, 1) (List.mem_of_getElem? (i := 0) rfl)
theorem dX10_shown_1 : decode cX10_shown 1 = .ok (.iload_n 1, 1) := daX10_shown_0 (1, .iload_n 1, 1) (List.mem_of_getElem? (i := 1) rfl)
theorem dX10_shown_2 : decode cX10_shown 2 = .ok (.invokevirtual 218, 3) := daX10_shown_0 (2, .invokevirtual 218, 3) (List.mem_of_getElem? (i := 2) rfl)
theorem dX10_shown_5 : decode cX10_shown 5 = .ok (.astore_n 3, 1) := daX10_shown_0 (5, .astore_n 3, 1) (List.mem_of_getElem? (i := 3) rfl)
theorem dX10_shown_6 : decode cX10_shown 6 = .ok (.aload_n 3, 1) := daX10_shown_0 (6, .aload_n 3, 1) (List.mem_of_getElem? (i := 4) rfl)
theorem dX10_shown_7 : decode cX10_shown 7 = .ok (.ifnonnull 5, 3) := daX10_shown_0 (7, .ifnonnull 5, 3) (List.mem_of_getElem? (i := 5) rfl)
theorem dX10_shown_10 : decode cX10_shown 10 = .ok (.iconst (-1), 1) := daX10_shown_0 (10, .iconst (-1), 1) (List.mem_of_getElem? (i := 6) rfl)
theorem dX10_shown_11 : decode cX10_shown 11 = .ok (.ireturn, 1) := daX10_shown_0 (11, .ireturn, 1) (List.mem_of_getElem? (i := 7) rfl)
theorem dX10_shown_12 : decode cX10_shown 12 = .ok (.iload_n 2, 1) := daX10_shown_0 (12, .iload_n 2, 1) (List.mem_of_getElem? (i := 8) rfl)
theorem dX10_shown_13 : decode cX10_shown 13 = .ok (.tableswitch 96 0 8 #[51, 56, 61, 66, 71, 76, 81, 86, 91], 51) := daX10_shown_0 (13, .tableswitch 96 0 8 #[51, 56, 61, 66, 71, 76, 81, 86, 91], 51) (List.mem_of_getElem? (i := 9) rfl)
theorem dX10_shown_64 : decode cX10_shown 64 = .ok (.aload_n 3, 1) := daX10_shown_0 (64, .aload_n 3, 1) (List.mem_of_getElem? (i := 10) rfl)
theorem dX10_shown_65 : decode cX10_shown 65 = .ok (.getfield 222, 3) := daX10_shown_0 (65, .getfield 222, 3) (List.mem_of_getElem? (i := 11) rfl)
theorem dX10_shown_68 : decode cX10_shown 68 = .ok (.ireturn, 1) := daX10_shown_0 (68, .ireturn, 1) (List.mem_of_getElem? (i := 12) rfl)
theorem dX10_shown_69 : decode cX10_shown 69 = .ok (.aload_n 3, 1) := daX10_shown_0 (69, .aload_n 3, 1) (List.mem_of_getElem? (i := 13) rfl)
theorem dX10_shown_70 : decode cX10_shown 70 = .ok (.getfield 225, 3) := daX10_shown_0 (70, .getfield 225, 3) (List.mem_of_getElem? (i := 14) rfl)
theorem dX10_shown_73 : decode cX10_shown 73 = .ok (.ireturn, 1) := daX10_shown_0 (73, .ireturn, 1) (List.mem_of_getElem? (i := 15) rfl)
theorem dX10_shown_74 : decode cX10_shown 74 = .ok (.aload_n 3, 1) := daX10_shown_0 (74, .aload_n 3, 1) (List.mem_of_getElem? (i := 16) rfl)
theorem dX10_shown_75 : decode cX10_shown 75 = .ok (.getfield 228, 3) := daX10_shown_0 (75, .getfield 228, 3) (List.mem_of_getElem? (i := 17) rfl)
theorem dX10_shown_78 : decode cX10_shown 78 = .ok (.ireturn, 1) := daX10_shown_0 (78, .ireturn, 1) (List.mem_of_getElem? (i := 18) rfl)
theorem dX10_shown_79 : decode cX10_shown 79 = .ok (.aload_n 3, 1) := daX10_shown_0 (79, .aload_n 3, 1) (List.mem_of_getElem? (i := 19) rfl)
theorem dX10_shown_80 : decode cX10_shown 80 = .ok (.getfield 231, 3) := daX10_shown_0 (80, .getfield 231, 3) (List.mem_of_getElem? (i := 20) rfl)
theorem dX10_shown_83 : decode cX10_shown 83 = .ok (.ireturn, 1) := daX10_shown_0 (83, .ireturn, 1) (List.mem_of_getElem? (i := 21) rfl)
theorem dX10_shown_84 : decode cX10_shown 84 = .ok (.aload_n 3, 1) := daX10_shown_0 (84, .aload_n 3, 1) (List.mem_of_getElem? (i := 22) rfl)
theorem dX10_shown_85 : decode cX10_shown 85 = .ok (.getfield 206, 3) := daX10_shown_0 (85, .getfield 206, 3) (List.mem_of_getElem? (i := 23) rfl)
theorem dX10_shown_88 : decode cX10_shown 88 = .ok (.ireturn, 1) := daX10_shown_0 (88, .ireturn, 1) (List.mem_of_getElem? (i := 24) rfl)
theorem dX10_shown_89 : decode cX10_shown 89 = .ok (.aload_n 3, 1) := daX10_shown_0 (89, .aload_n 3, 1) (List.mem_of_getElem? (i := 25) rfl)
theorem dX10_shown_90 : decode cX10_shown 90 = .ok (.getfield 199, 3) := daX10_shown_0 (90, .getfield 199, 3) (List.mem_of_getElem? (i := 26) rfl)
theorem dX10_shown_93 : decode cX10_shown 93 = .ok (.ireturn, 1) := daX10_shown_0 (93, .ireturn, 1) (List.mem_of_getElem? (i := 27) rfl)
theorem dX10_shown_94 : decode cX10_shown 94 = .ok (.aload_n 3, 1) := daX10_shown_0 (94, .aload_n 3, 1) (List.mem_of_getElem? (i := 28) rfl)
theorem dX10_shown_95 : decode cX10_shown 95 = .ok (.getfield 234, 3) := daX10_shown_0 (95, .getfield 234, 3) (List.mem_of_getElem? (i := 29) rfl)
theorem dX10_shown_98 : decode cX10_shown 98 = .ok (.ireturn, 1) := daX10_shown_0 (98, .ireturn, 1) (List.mem_of_getElem? (i := 30) rfl)
theorem dX10_shown_99 : decode cX10_shown 99 = .ok (.aload_n 3, 1) := daX10_shown_0 (99, .aload_n 3, 1) (List.mem_of_getElem? (i := 31) rfl)
theorem dX10_shown_100 : decode cX10_shown 100 = .ok (.getfield 237, 3) := daX10_shown_0 (100, .getfield 237, 3) (List.mem_of_getElem? (i := 32) rfl)
theorem dX10_shown_103 : decode cX10_shown 103 = .ok (.ireturn, 1) := daX10_shown_0 (103, .ireturn, 1) (List.mem_of_getElem? (i := 33) rfl)
theorem dX10_shown_104 : decode cX10_shown 104 = .ok (.aload_n 3, 1) := daX10_shown_0 (104, .aload_n 3, 1) (List.mem_of_getElem? (i := 34) rfl)
theorem dX10_shown_105 : decode cX10_shown 105 = .ok (.getfield 240, 3) := daX10_shown_0 (105, .getfield 240, 3) (List.mem_of_getElem? (i := 35) rfl)
theorem dX10_shown_108 : decode cX10_shown 108 = .ok (.ireturn, 1) := daX10_shown_0 (108, .ireturn, 1) (List.mem_of_getElem? (i := 36) rfl)
theorem dX10_shown_109 : decode cX10_shown 109 = .ok (.iconst (-1), 1) := daX10_shown_0 (109, .iconst (-1), 1) (List.mem_of_getElem? (i := 37) rfl)
theorem dX10_shown_110 : decode cX10_shown 110 = .ok (.ireturn, 1) := daX10_shown_0 (110, .ireturn, 1) (List.mem_of_getElem? (i := 38) rfl)
set_option maxRecDepth 20000 in
theorem ggX10_paper_X10_paperAt : GoodIn wsX10_paper wsX10_paperAt := goodIn_r _ [10, 11, 12, 20, 21, 22, 23, 24, 25, 26, 27, 28, 29, 30, 31, 32, 33, 34, 35, 36] (by decide +kernel) (by decide +kernel)
set_option maxRecDepth 20000 in
theorem gX10_paper_X10_paperAt : GoodIn wsX10_paper (wsV RX10 112 RX10 yX10_paperAt wsX10_paperAt) := goodIn_app (goodIn_of _ (by decide +kernel)) ggX10_paper_X10_paperAt
set_option maxRecDepth 20000 in
theorem daX10_paper_0 : ∀ x ∈ ([(0, .aload_n 0, 1), (1, .iload_n 1, 1), (2, .invokevirtual 112, 3), (5, .astore_n 3, 1), (6, .aload_n 3, 1), (7, .ifnonnull 5, 3), (10, .iconst (-1), 1), (11, .ireturn, 1), (12, .iload_n 2, 1), (13, .tableswitch 60 0 4 #[35, 40, 45, 50, 55], 35), (48, .aload_n 3, 1), (49, .getfield 242, 3), (52, .ireturn, 1), (53, .aload_n 3, 1), (54, .getfield 185, 3), (57, .ireturn, 1), (58, .aload_n 3, 1), (59, .getfield 245, 3), (62, .ireturn, 1), (63, .aload_n 3, 1), (64, .getfield 246, 3), (67, .ireturn, 1), (68, .aload_n 3, 1), (69, .getfield 249, 3), (72, .ireturn, 1), (73, .iconst (-1), 1), (74, .ireturn, 1)] : List (Nat × Instr × Nat)), decode cX10_paper x.1 = .ok x.2 := by decide +kernel
theorem dX10_paper_0 : decode cX10_paper 0 = .ok (.aload_n 0, 1) := daX10_paper_0 (0, .aload_n 0, 1) (List.mem_of_getElem? (i := 0) rfl)
theorem dX10_paper_1 : decode cX10_paper 1 = .ok (.iload_n 1, 1) := daX10_paper_0 (1, .iload_n 1, 1) (List.mem_of_getElem? (i := 1) rfl)
theorem dX10_paper_2 : decode cX10_paper 2 = .ok (.invokevirtual 112, 3) := daX10_paper_0 (2, .invokevirtual 112, 3) (List.mem_of_getElem? (i := 2) rfl)
theorem dX10_paper_5 : decode cX10_paper 5 = .ok (.astore_n 3, 1) := daX10_paper_0 (5, .astore_n 3, 1) (List.mem_of_getElem? (i := 3) rfl)
theorem dX10_paper_6 : decode cX10_paper 6 = .ok (.aload_n 3, 1) := daX10_paper_0 (6, .aload_n 3, 1) (List.mem_of_getElem? (i := 4) rfl)
theorem dX10_paper_7 : decode cX10_paper 7 = .ok (.ifnonnull 5, 3) := daX10_paper_0 (7, .ifnonnull 5, 3) (List.mem_of_getElem? (i := 5) rfl)
theorem dX10_paper_10 : decode cX10_paper 10 = .ok (.iconst (-1), 1) := daX10_paper_0 (10, .iconst (-1), 1) (List.mem_of_getElem? (i := 6) rfl)
theorem dX10_paper_11 : decode cX10_paper 11 = .ok (.ireturn, 1) := daX10_paper_0 (11, .ireturn, 1) (List.mem_of_getElem? (i := 7) rfl)
theorem dX10_paper_12 : decode cX10_paper 12 = .ok (.iload_n 2, 1) := daX10_paper_0 (12, .iload_n 2, 1) (List.mem_of_getElem? (i := 8) rfl)
theorem dX10_paper_13 : decode cX10_paper 13 = .ok (.tableswitch 60 0 4 #[35, 40, 45, 50, 55], 35) := daX10_paper_0 (13, .tableswitch 60 0 4 #[35, 40, 45, 50, 55], 35) (List.mem_of_getElem? (i := 9) rfl)
theorem dX10_paper_48 : decode cX10_paper 48 = .ok (.aload_n 3, 1) := daX10_paper_0 (48, .aload_n 3, 1) (List.mem_of_getElem? (i := 10) rfl)
theorem dX10_paper_49 : decode cX10_paper 49 = .ok (.getfield 242, 3) := daX10_paper_0 (49, .getfield 242, 3) (List.mem_of_getElem? (i := 11) rfl)
theorem dX10_paper_52 : decode cX10_paper 52 = .ok (.ireturn, 1) := daX10_paper_0 (52, .ireturn, 1) (List.mem_of_getElem? (i := 12) rfl)
theorem dX10_paper_53 : decode cX10_paper 53 = .ok (.aload_n 3, 1) := daX10_paper_0 (53, .aload_n 3, 1) (List.mem_of_getElem? (i := 13) rfl)
theorem dX10_paper_54 : decode cX10_paper 54 = .ok (.getfield 185, 3) := daX10_paper_0 (54, .getfield 185, 3) (List.mem_of_getElem? (i := 14) rfl)
theorem dX10_paper_57 : decode cX10_paper 57 = .ok (.ireturn, 1) := daX10_paper_0 (57, .ireturn, 1) (List.mem_of_getElem? (i := 15) rfl)
theorem dX10_paper_58 : decode cX10_paper 58 = .ok (.aload_n 3, 1) := daX10_paper_0 (58, .aload_n 3, 1) (List.mem_of_getElem? (i := 16) rfl)
theorem dX10_paper_59 : decode cX10_paper 59 = .ok (.getfield 245, 3) := daX10_paper_0 (59, .getfield 245, 3) (List.mem_of_getElem? (i := 17) rfl)
theorem dX10_paper_62 : decode cX10_paper 62 = .ok (.ireturn, 1) := daX10_paper_0 (62, .ireturn, 1) (List.mem_of_getElem? (i := 18) rfl)
theorem dX10_paper_63 : decode cX10_paper 63 = .ok (.aload_n 3, 1) := daX10_paper_0 (63, .aload_n 3, 1) (List.mem_of_getElem? (i := 19) rfl)
theorem dX10_paper_64 : decode cX10_paper 64 = .ok (.getfield 246, 3) := daX10_paper_0 (64, .getfield 246, 3) (List.mem_of_getElem? (i := 20) rfl)
theorem dX10_paper_67 : decode cX10_paper 67 = .ok (.ireturn, 1) := daX10_paper_0 (67, .ireturn, 1) (List.mem_of_getElem? (i := 21) rfl)
theorem dX10_paper_68 : decode cX10_paper 68 = .ok (.aload_n 3, 1) := daX10_paper_0 (68, .aload_n 3, 1) (List.mem_of_getElem? (i := 22) rfl)
theorem dX10_paper_69 : decode cX10_paper 69 = .ok (.getfield 249, 3) := daX10_paper_0 (69, .getfield 249, 3) (List.mem_of_getElem? (i := 23) rfl)
theorem dX10_paper_72 : decode cX10_paper 72 = .ok (.ireturn, 1) := daX10_paper_0 (72, .ireturn, 1) (List.mem_of_getElem? (i := 24) rfl)
theorem dX10_paper_73 : decode cX10_paper 73 = .ok (.iconst (-1), 1) := daX10_paper_0 (73, .iconst (-1), 1) (List.mem_of_getElem? (i := 25) rfl)
theorem dX10_paper_74 : decode cX10_paper 74 = .ok (.ireturn, 1) := daX10_paper_0 (74, .ireturn, 1) (List.mem_of_getElem? (i := 26) rfl)
set_option maxRecDepth 20000 in
theorem ggX10_comes_X10_isTown : GoodIn wsX10_comes wsX10_isTown := goodIn_r _ [7, 8, 9, 6, 10] (by decide +kernel) (by decide +kernel)
set_option maxRecDepth 20000 in
theorem gX10_comes_X10_isTown : GoodIn wsX10_comes (va_wsS RX10 86 yX10_isTown wsX10_isTown) := goodIn_app (goodIn_of _ (by decide +kernel)) ggX10_comes_X10_isTown
set_option maxRecDepth 20000 in
theorem ggX10_comes_X10_adviceAt : GoodIn wsX10_comes wsX10_adviceAt := goodIn_r _ [14, 15, 16, 30, 31, 32, 33, 34, 35, 36, 37, 38, 39, 40, 41, 42, 43, 44, 45, 46] (by decide +kernel) (by decide +kernel)
set_option maxRecDepth 20000 in
theorem gX10_comes_X10_adviceAt : GoodIn wsX10_comes (wsV RX10 123 RX10 yX10_adviceAt wsX10_adviceAt) := goodIn_app (goodIn_of _ (by decide +kernel)) ggX10_comes_X10_adviceAt
set_option maxRecDepth 20000 in
theorem ggX10_comes_X10_stopAt : GoodIn wsX10_comes wsX10_stopAt := goodIn_r _ [20, 21, 22, 30, 31, 32, 33, 34, 35, 36, 37, 38, 39, 40, 41, 42, 43, 44, 45, 46] (by decide +kernel) (by decide +kernel)
set_option maxRecDepth 20000 in
theorem gX10_comes_X10_stopAt : GoodIn wsX10_comes (wsV RX10 253 RX10 yX10_stopAt wsX10_stopAt) := goodIn_app (goodIn_of _ (by decide +kernel)) ggX10_comes_X10_stopAt
set_option maxRecDepth 20000 in
theorem daX10_comes_0 : ∀ x ∈ ([(0, .iload_n 3, 1), (1, .invokestatic 86, 3), (4, .ifCond .ne 5, 3), (7, .iconst (-1), 1), (8, .ireturn, 1), (9, .iload_n 1, 1), (10, .ifCond .ne 34, 3), (13, .aload_n 0, 1), (14, .iload_n 2, 1), (15, .invokevirtual 123, 3), (18, .astore 4, 2), (20, .aload 4, 2), (22, .ifnull 12, 3), (25, .aload 4, 2), (27, .getfield 252, 3), (30, .iload_n 3, 1), (31, .if_icmp .eq 7, 3), (34, .iconst (-1), 1), (35, .goto 8, 3), (38, .aload 4, 2), (40, .getfield 131, 3), (43, .ireturn, 1), (44, .iload_n 1, 1), (45, .iconst 1, 1), (46, .if_icmp .ne 27, 3), (49, .aload_n 0, 1), (50, .iload_n 2, 1), (51, .invokevirtual 253, 3), (54, .astore 4, 2), (56, .aload 4, 2), (58, .ifnonnull 7, 3), (61, .iconst (-1), 1), (62, .goto 10, 3), (65, .aload 4, 2), (67, .getfield 257, 3), (70, .iload_n 3, 1), (71, .iaload, 1), (72, .ireturn, 1), (73, .iconst (-1), 1), (74, .ireturn, 1)] : List (Nat × Instr × Nat)), decode cX10_comes x.1 = .ok x.2 := by decide +kernel
theorem dX10_comes_0 : decode cX10_comes 0 = .ok (.iload_n 3, 1) := daX10_comes_0 (0, .iload_n 3, 1) (List.mem_of_getElem? (i := 0) rfl)
theorem dX10_comes_1 : decode cX10_comes 1 = .ok (.invokestatic 86, 3) := daX10_comes_0 (1, .invokestatic 86, 3) (List.mem_of_getElem? (i := 1) rfl)
theorem dX10_comes_4 : decode cX10_comes 4 = .ok (.ifCond .ne 5, 3) := daX10_comes_0 (4, .ifCond .ne 5, 3) (List.mem_of_getElem? (i := 2) rfl)
theorem dX10_comes_7 : decode cX10_comes 7 = .ok (.iconst (-1), 1) := daX10_comes_0 (7, .iconst (-1), 1) (List.mem_of_getElem? (i := 3) rfl)
theorem dX10_comes_8 : decode cX10_comes 8 = .ok (.ireturn, 1) := daX10_comes_0 (8, .ireturn, 1) (List.mem_of_getElem? (i := 4) rfl)
theorem dX10_comes_9 : decode cX10_comes 9 = .ok (.iload_n 1, 1) := daX10_comes_0 (9, .iload_n 1, 1) (List.mem_of_getElem? (i := 5) rfl)
theorem dX10_comes_10 : decode cX10_comes 10 = .ok (.ifCond .ne 34, 3) := daX10_comes_0 (10, .ifCond .ne 34, 3) (List.mem_of_getElem? (i := 6) rfl)
theorem dX10_comes_13 : decode cX10_comes 13 = .ok (.aload_n 0, 1) := daX10_comes_0 (13, .aload_n 0, 1) (List.mem_of_getElem? (i := 7) rfl)
theorem dX10_comes_14 : decode cX10_comes 14 = .ok (.iload_n 2, 1) := daX10_comes_0 (14, .iload_n 2, 1) (List.mem_of_getElem? (i := 8) rfl)
theorem dX10_comes_15 : decode cX10_comes 15 = .ok (.invokevirtual 123, 3) := daX10_comes_0 (15, .invokevirtual 123, 3) (List.mem_of_getElem? (i := 9) rfl)
theorem dX10_comes_18 : decode cX10_comes 18 = .ok (.astore 4, 2) := daX10_comes_0 (18, .astore 4, 2) (List.mem_of_getElem? (i := 10) rfl)
theorem dX10_comes_20 : decode cX10_comes 20 = .ok (.aload 4, 2) := daX10_comes_0 (20, .aload 4, 2) (List.mem_of_getElem? (i := 11) rfl)
theorem dX10_comes_22 : decode cX10_comes 22 = .ok (.ifnull 12, 3) := daX10_comes_0 (22, .ifnull 12, 3) (List.mem_of_getElem? (i := 12) rfl)
theorem dX10_comes_25 : decode cX10_comes 25 = .ok (.aload 4, 2) := daX10_comes_0 (25, .aload 4, 2) (List.mem_of_getElem? (i := 13) rfl)
theorem dX10_comes_27 : decode cX10_comes 27 = .ok (.getfield 252, 3) := daX10_comes_0 (27, .getfield 252, 3) (List.mem_of_getElem? (i := 14) rfl)
theorem dX10_comes_30 : decode cX10_comes 30 = .ok (.iload_n 3, 1) := daX10_comes_0 (30, .iload_n 3, 1) (List.mem_of_getElem? (i := 15) rfl)
theorem dX10_comes_31 : decode cX10_comes 31 = .ok (.if_icmp .eq 7, 3) := daX10_comes_0 (31, .if_icmp .eq 7, 3) (List.mem_of_getElem? (i := 16) rfl)
theorem dX10_comes_34 : decode cX10_comes 34 = .ok (.iconst (-1), 1) := daX10_comes_0 (34, .iconst (-1), 1) (List.mem_of_getElem? (i := 17) rfl)
theorem dX10_comes_35 : decode cX10_comes 35 = .ok (.goto 8, 3) := daX10_comes_0 (35, .goto 8, 3) (List.mem_of_getElem? (i := 18) rfl)
theorem dX10_comes_38 : decode cX10_comes 38 = .ok (.aload 4, 2) := daX10_comes_0 (38, .aload 4, 2) (List.mem_of_getElem? (i := 19) rfl)
theorem dX10_comes_40 : decode cX10_comes 40 = .ok (.getfield 131, 3) := daX10_comes_0 (40, .getfield 131, 3) (List.mem_of_getElem? (i := 20) rfl)
theorem dX10_comes_43 : decode cX10_comes 43 = .ok (.ireturn, 1) := daX10_comes_0 (43, .ireturn, 1) (List.mem_of_getElem? (i := 21) rfl)
theorem dX10_comes_44 : decode cX10_comes 44 = .ok (.iload_n 1, 1) := daX10_comes_0 (44, .iload_n 1, 1) (List.mem_of_getElem? (i := 22) rfl)
theorem dX10_comes_45 : decode cX10_comes 45 = .ok (.iconst 1, 1) := daX10_comes_0 (45, .iconst 1, 1) (List.mem_of_getElem? (i := 23) rfl)
theorem dX10_comes_46 : decode cX10_comes 46 = .ok (.if_icmp .ne 27, 3) := daX10_comes_0 (46, .if_icmp .ne 27, 3) (List.mem_of_getElem? (i := 24) rfl)
theorem dX10_comes_49 : decode cX10_comes 49 = .ok (.aload_n 0, 1) := daX10_comes_0 (49, .aload_n 0, 1) (List.mem_of_getElem? (i := 25) rfl)
theorem dX10_comes_50 : decode cX10_comes 50 = .ok (.iload_n 2, 1) := daX10_comes_0 (50, .iload_n 2, 1) (List.mem_of_getElem? (i := 26) rfl)
theorem dX10_comes_51 : decode cX10_comes 51 = .ok (.invokevirtual 253, 3) := daX10_comes_0 (51, .invokevirtual 253, 3) (List.mem_of_getElem? (i := 27) rfl)
theorem dX10_comes_54 : decode cX10_comes 54 = .ok (.astore 4, 2) := daX10_comes_0 (54, .astore 4, 2) (List.mem_of_getElem? (i := 28) rfl)
theorem dX10_comes_56 : decode cX10_comes 56 = .ok (.aload 4, 2) := daX10_comes_0 (56, .aload 4, 2) (List.mem_of_getElem? (i := 29) rfl)
theorem dX10_comes_58 : decode cX10_comes 58 = .ok (.ifnonnull 7, 3) := daX10_comes_0 (58, .ifnonnull 7, 3) (List.mem_of_getElem? (i := 30) rfl)
theorem dX10_comes_61 : decode cX10_comes 61 = .ok (.iconst (-1), 1) := daX10_comes_0 (61, .iconst (-1), 1) (List.mem_of_getElem? (i := 31) rfl)
theorem dX10_comes_62 : decode cX10_comes 62 = .ok (.goto 10, 3) := daX10_comes_0 (62, .goto 10, 3) (List.mem_of_getElem? (i := 32) rfl)
theorem dX10_comes_65 : decode cX10_comes 65 = .ok (.aload 4, 2) := daX10_comes_0 (65, .aload 4, 2) (List.mem_of_getElem? (i := 33) rfl)
theorem dX10_comes_67 : decode cX10_comes 67 = .ok (.getfield 257, 3) := daX10_comes_0 (67, .getfield 257, 3) (List.mem_of_getElem? (i := 34) rfl)
theorem dX10_comes_70 : decode cX10_comes 70 = .ok (.iload_n 3, 1) := daX10_comes_0 (70, .iload_n 3, 1) (List.mem_of_getElem? (i := 35) rfl)
theorem dX10_comes_71 : decode cX10_comes 71 = .ok (.iaload, 1) := daX10_comes_0 (71, .iaload, 1) (List.mem_of_getElem? (i := 36) rfl)
theorem dX10_comes_72 : decode cX10_comes 72 = .ok (.ireturn, 1) := daX10_comes_0 (72, .ireturn, 1) (List.mem_of_getElem? (i := 37) rfl)
theorem dX10_comes_73 : decode cX10_comes 73 = .ok (.iconst (-1), 1) := daX10_comes_0 (73, .iconst (-1), 1) (List.mem_of_getElem? (i := 38) rfl)
theorem dX10_comes_74 : decode cX10_comes 74 = .ok (.ireturn, 1) := daX10_comes_0 (74, .ireturn, 1) (List.mem_of_getElem? (i := 39) rfl)
set_option maxRecDepth 20000 in
theorem ggX10_settle_X10_isWithin : GoodIn wsX10_settle wsX10_isWithin := goodIn_r _ [16] (by decide +kernel) (by decide +kernel)
set_option maxRecDepth 20000 in
theorem gX10_settle_X10_isWithin : GoodIn wsX10_settle (va_wsS RX10 90 yX10_isWithin wsX10_isWithin) := goodIn_app (goodIn_of _ (by decide +kernel)) ggX10_settle_X10_isWithin
set_option maxRecDepth 20000 in
theorem ggX10_settle_X4_open : GoodIn wsX10_settle wsX4_open := goodIn_r _ [21, 22, 23, 24, 25, 26, 27, 28, 29, 30, 31, 32, 163, 164, 165, 166, 167, 168, 169, 170, 171, 172] (by decide +kernel) (by decide +kernel)
set_option maxRecDepth 20000 in
theorem gX10_settle_X4_open : GoodIn wsX10_settle (wsV RX10 260 RX4 yX4_open wsX4_open) := goodIn_app (goodIn_of _ (by decide +kernel)) ggX10_settle_X4_open
set_option maxRecDepth 20000 in
theorem ggX10_settle_X10_hasCome : GoodIn wsX10_settle wsX10_hasCome := goodIn_r _ [35] (by decide +kernel) (by decide +kernel)
set_option maxRecDepth 20000 in
theorem gX10_settle_X10_hasCome : GoodIn wsX10_settle (va_wsS RX10 134 yX10_hasCome wsX10_hasCome) := goodIn_app (goodIn_of _ (by decide +kernel)) ggX10_settle_X10_hasCome
set_option maxRecDepth 20000 in
theorem ggX10_settle_X10_kindOf : GoodIn wsX10_settle wsX10_kindOf := goodIn_r _ [39, 40, 41, 42, 7, 43, 44, 45, 46, 47, 48, 15, 49, 50, 51, 52, 53, 54, 55, 56, 57, 58, 59, 60, 61, 62, 63, 64, 65, 66, 67, 68, 69, 34, 35, 70, 71, 72, 73, 74, 75, 76, 77, 78, 79, 80, 81, 82, 83, 84, 85, 86, 3, 1, 87, 88, 89, 90, 20, 91, 22, 92, 93, 94, 95, 153, 154, 155, 156, 157, 158, 159, 160, 161, 162, 177, 178, 179, 180, 181, 182, 183, 136, 137, 138, 139, 140, 141, 142, 143, 144, 145, 146, 147, 148, 149, 150, 151, 152, 184, 185, 186, 187, 188, 189, 163, 164, 165, 166, 167, 168, 169, 170, 171, 172] (by decide +kernel) (by decide +kernel)
set_option maxRecDepth 20000 in
theorem gX10_settle_X10_kindOf : GoodIn wsX10_settle (wsV RX10 263 RX10 yX10_kindOf wsX10_kindOf) := goodIn_app (goodIn_of _ (by decide +kernel)) ggX10_settle_X10_kindOf
set_option maxRecDepth 20000 in
theorem ggX10_settle_X2_houseShare : GoodIn wsX10_settle wsX2_houseShare := goodIn_r _ [100, 101, 184, 185, 186] (by decide +kernel) (by decide +kernel)
set_option maxRecDepth 20000 in
theorem gX10_settle_X2_houseShare : GoodIn wsX10_settle (wsV RX10 267 RX2 yX2_houseShare wsX2_houseShare) := goodIn_app (goodIn_of _ (by decide +kernel)) ggX10_settle_X2_houseShare
set_option maxRecDepth 20000 in
theorem ggX10_settle_X4_enter : GoodIn wsX10_settle wsX4_enter := goodIn_r _ [105, 22, 106, 23, 25, 163, 164, 165, 166, 167, 168, 169, 170, 171, 172] (by decide +kernel) (by decide +kernel)
set_option maxRecDepth 20000 in
theorem gX10_settle_X4_enter : GoodIn wsX10_settle (wsV RX10 270 RX4 yX4_enter wsX4_enter) := goodIn_app (goodIn_of _ (by decide +kernel)) ggX10_settle_X4_enter
set_option maxRecDepth 20000 in
theorem ggX10_settle_X4_netAll : GoodIn wsX10_settle wsX4_netAll := goodIn_r _ [110, 23, 111, 112, 113, 114, 115, 116, 117, 118, 20, 119, 120, 121, 122, 75, 123, 124, 125, 126, 127, 24, 128, 129, 130, 131, 132, 133, 134, 135, 163, 164, 165, 166, 167, 168, 169, 170, 171, 172, 173, 174, 175, 176] (by decide +kernel) (by decide +kernel)
set_option maxRecDepth 20000 in
theorem gX10_settle_X4_netAll : GoodIn wsX10_settle (wsV RX10 278 RX4 yX4_netAll wsX4_netAll) := goodIn_app (goodIn_of _ (by decide +kernel)) ggX10_settle_X4_netAll
set_option maxRecDepth 20000 in
theorem daX10_settle_0 : ∀ x ∈ ([(0, .iload_n 1, 1), (1, .iconst 0, 1), (2, .sipush 3000, 3), (5, .invokestatic 90, 3), (8, .ifCond .ne 5, 3), (11, .iconst (-1), 1), (12, .ireturn, 1), (13, .aload_n 0, 1), (14, .getfield 57, 3), (17, .invokevirtual 260, 3), (20, .iconst 0, 1), (21, .istore_n 2, 1), (22, .iload_n 2, 1), (23, .aload_n 0, 1), (24, .getfield 172, 3), (27, .if_icmp .ge 69, 3), (30, .aload_n 0, 1), (31, .getfield 43, 3), (34, .iload_n 2, 1), (35, .aaload, 1), (36, .astore_n 3, 1), (37, .aload_n 3, 1), (38, .getfield 206, 3), (41, .ifCond .ne 49, 3), (44, .aload_n 3, 1), (45, .getfield 240, 3), (48, .iload_n 1, 1), (49, .invokestatic 134, 3), (52, .ifCond .eq 38, 3), (55, .aload_n 0, 1), (56, .iload_n 2, 1), (57, .aload_n 3, 1), (58, .invokevirtual 263, 3), (61, .istore 4, 2), (63, .aload_n 0, 1), (64, .getfield 57, 3), (67, .iload_n 2, 1), (68, .aload_n 3, 1), (69, .getfield 222, 3), (72, .iload 4, 2)] : List (Nat × Instr × Nat)), decode cX10_settle x.1 = .ok x.2 := by decide +kernel
theorem dX10_settle_0 : decode cX10_settle 0 = .ok (.iload_n 1, 1) := daX10_settle_0 (0, .iload_n 1, 1) (List.mem_of_getElem? (i := 0) rfl)
theorem dX10_settle_1 : decode cX10_settle 1 = .ok (.iconst 0, 1) := daX10_settle_0 (1, .iconst 0, 1) (List.mem_of_getElem? (i := 1) rfl)
theorem dX10_settle_2 : decode cX10_settle 2 = .ok (.sipush 3000, 3) := daX10_settle_0 (2, .sipush 3000, 3) (List.mem_of_getElem? (i := 2) rfl)
theorem dX10_settle_5 : decode cX10_settle 5 = .ok (.invokestatic 90, 3) := daX10_settle_0 (5, .invokestatic 90, 3) (List.mem_of_getElem? (i := 3) rfl)
theorem dX10_settle_8 : decode cX10_settle 8 = .ok (.ifCond .ne 5, 3) := daX10_settle_0 (8, .ifCond .ne 5, 3) (List.mem_of_getElem? (i := 4) rfl)
theorem dX10_settle_11 : decode cX10_settle 11 = .ok (.iconst (-1), 1) := daX10_settle_0 (11, .iconst (-1), 1) (List.mem_of_getElem? (i := 5) rfl)
theorem dX10_settle_12 : decode cX10_settle 12 = .ok (.ireturn, 1) := daX10_settle_0 (12, .ireturn, 1) (List.mem_of_getElem? (i := 6) rfl)
theorem dX10_settle_13 : decode cX10_settle 13 = .ok (.aload_n 0, 1) := daX10_settle_0 (13, .aload_n 0, 1) (List.mem_of_getElem? (i := 7) rfl)
theorem dX10_settle_14 : decode cX10_settle 14 = .ok (.getfield 57, 3) := daX10_settle_0 (14, .getfield 57, 3) (List.mem_of_getElem? (i := 8) rfl)
theorem dX10_settle_17 : decode cX10_settle 17 = .ok (.invokevirtual 260, 3) := daX10_settle_0 (17, .invokevirtual 260, 3) (List.mem_of_getElem? (i := 9) rfl)
theorem dX10_settle_20 : decode cX10_settle 20 = .ok (.iconst 0, 1) := daX10_settle_0 (20, .iconst 0, 1) (List.mem_of_getElem? (i := 10) rfl)
theorem dX10_settle_21 : decode cX10_settle 21 = .ok (.istore_n 2, 1) := daX10_settle_0 (21, .istore_n 2, 1) (List.mem_of_getElem? (i := 11) rfl)
theorem dX10_settle_22 : decode cX10_settle 22 = .ok (.iload_n 2, 1) := daX10_settle_0 (22, .iload_n 2, 1) (List.mem_of_getElem? (i := 12) rfl)
theorem dX10_settle_23 : decode cX10_settle 23 = .ok (.aload_n 0, 1) := daX10_settle_0 (23, .aload_n 0, 1) (List.mem_of_getElem? (i := 13) rfl)
theorem dX10_settle_24 : decode cX10_settle 24 = .ok (.getfield 172, 3) := daX10_settle_0 (24, .getfield 172, 3) (List.mem_of_getElem? (i := 14) rfl)
theorem dX10_settle_27 : decode cX10_settle 27 = .ok (.if_icmp .ge 69, 3) := daX10_settle_0 (27, .if_icmp .ge 69, 3) (List.mem_of_getElem? (i := 15) rfl)
theorem dX10_settle_30 : decode cX10_settle 30 = .ok (.aload_n 0, 1) := daX10_settle_0 (30, .aload_n 0, 1) (List.mem_of_getElem? (i := 16) rfl)
theorem dX10_settle_31 : decode cX10_settle 31 = .ok (.getfield 43, 3) := daX10_settle_0 (31, .getfield 43, 3) (List.mem_of_getElem? (i := 17) rfl)
theorem dX10_settle_34 : decode cX10_settle 34 = .ok (.iload_n 2, 1) := daX10_settle_0 (34, .iload_n 2, 1) (List.mem_of_getElem? (i := 18) rfl)
theorem dX10_settle_35 : decode cX10_settle 35 = .ok (.aaload, 1) := daX10_settle_0 (35, .aaload, 1) (List.mem_of_getElem? (i := 19) rfl)
theorem dX10_settle_36 : decode cX10_settle 36 = .ok (.astore_n 3, 1) := daX10_settle_0 (36, .astore_n 3, 1) (List.mem_of_getElem? (i := 20) rfl)
theorem dX10_settle_37 : decode cX10_settle 37 = .ok (.aload_n 3, 1) := daX10_settle_0 (37, .aload_n 3, 1) (List.mem_of_getElem? (i := 21) rfl)
theorem dX10_settle_38 : decode cX10_settle 38 = .ok (.getfield 206, 3) := daX10_settle_0 (38, .getfield 206, 3) (List.mem_of_getElem? (i := 22) rfl)
theorem dX10_settle_41 : decode cX10_settle 41 = .ok (.ifCond .ne 49, 3) := daX10_settle_0 (41, .ifCond .ne 49, 3) (List.mem_of_getElem? (i := 23) rfl)
theorem dX10_settle_44 : decode cX10_settle 44 = .ok (.aload_n 3, 1) := daX10_settle_0 (44, .aload_n 3, 1) (List.mem_of_getElem? (i := 24) rfl)
theorem dX10_settle_45 : decode cX10_settle 45 = .ok (.getfield 240, 3) := daX10_settle_0 (45, .getfield 240, 3) (List.mem_of_getElem? (i := 25) rfl)
theorem dX10_settle_48 : decode cX10_settle 48 = .ok (.iload_n 1, 1) := daX10_settle_0 (48, .iload_n 1, 1) (List.mem_of_getElem? (i := 26) rfl)
theorem dX10_settle_49 : decode cX10_settle 49 = .ok (.invokestatic 134, 3) := daX10_settle_0 (49, .invokestatic 134, 3) (List.mem_of_getElem? (i := 27) rfl)
theorem dX10_settle_52 : decode cX10_settle 52 = .ok (.ifCond .eq 38, 3) := daX10_settle_0 (52, .ifCond .eq 38, 3) (List.mem_of_getElem? (i := 28) rfl)
theorem dX10_settle_55 : decode cX10_settle 55 = .ok (.aload_n 0, 1) := daX10_settle_0 (55, .aload_n 0, 1) (List.mem_of_getElem? (i := 29) rfl)
theorem dX10_settle_56 : decode cX10_settle 56 = .ok (.iload_n 2, 1) := daX10_settle_0 (56, .iload_n 2, 1) (List.mem_of_getElem? (i := 30) rfl)
theorem dX10_settle_57 : decode cX10_settle 57 = .ok (.aload_n 3, 1) := daX10_settle_0 (57, .aload_n 3, 1) (List.mem_of_getElem? (i := 31) rfl)
theorem dX10_settle_58 : decode cX10_settle 58 = .ok (.invokevirtual 263, 3) := daX10_settle_0 (58, .invokevirtual 263, 3) (List.mem_of_getElem? (i := 32) rfl)
theorem dX10_settle_61 : decode cX10_settle 61 = .ok (.istore 4, 2) := daX10_settle_0 (61, .istore 4, 2) (List.mem_of_getElem? (i := 33) rfl)
theorem dX10_settle_63 : decode cX10_settle 63 = .ok (.aload_n 0, 1) := daX10_settle_0 (63, .aload_n 0, 1) (List.mem_of_getElem? (i := 34) rfl)
theorem dX10_settle_64 : decode cX10_settle 64 = .ok (.getfield 57, 3) := daX10_settle_0 (64, .getfield 57, 3) (List.mem_of_getElem? (i := 35) rfl)
theorem dX10_settle_67 : decode cX10_settle 67 = .ok (.iload_n 2, 1) := daX10_settle_0 (67, .iload_n 2, 1) (List.mem_of_getElem? (i := 36) rfl)
theorem dX10_settle_68 : decode cX10_settle 68 = .ok (.aload_n 3, 1) := daX10_settle_0 (68, .aload_n 3, 1) (List.mem_of_getElem? (i := 37) rfl)
theorem dX10_settle_69 : decode cX10_settle 69 = .ok (.getfield 222, 3) := daX10_settle_0 (69, .getfield 222, 3) (List.mem_of_getElem? (i := 38) rfl)
theorem dX10_settle_72 : decode cX10_settle 72 = .ok (.iload 4, 2) := daX10_settle_0 (72, .iload 4, 2) (List.mem_of_getElem? (i := 39) rfl)
set_option maxRecDepth 20000 in
theorem daX10_settle_74 : ∀ x ∈ ([(74, .aload_n 0, 1), (75, .getfield 75, 3), (78, .iload 4, 2), (80, .aload_n 3, 1), (81, .getfield 234, 3), (84, .invokevirtual 267, 3), (87, .invokevirtual 270, 3), (90, .iinc 2 1, 3), (93, .goto (-71), 3), (96, .iconst 0, 1), (97, .istore_n 2, 1), (98, .iload_n 2, 1), (99, .bipush 12, 2), (101, .if_icmp .ge 31, 3), (104, .aload_n 0, 1), (105, .getfield 57, 3), (108, .getfield 274, 3), (111, .iload_n 2, 1), (112, .dup2, 1), (113, .laload, 1), (114, .aload_n 0, 1), (115, .getfield 18, 3), (118, .iload_n 2, 1), (119, .aaload, 1), (120, .getfield 214, 3), (123, .i2l, 1), (124, .lsub, 1), (125, .lastore, 1), (126, .iinc 2 1, 3), (129, .goto (-31), 3), (132, .aload_n 0, 1), (133, .getfield 57, 3), (136, .aload_n 0, 1), (137, .getfield 18, 3), (140, .invokevirtual 278, 3), (143, .aload_n 0, 1), (144, .getfield 57, 3), (147, .getfield 282, 3), (150, .ireturn, 1)] : List (Nat × Instr × Nat)), decode cX10_settle x.1 = .ok x.2 := by decide +kernel
theorem dX10_settle_74 : decode cX10_settle 74 = .ok (.aload_n 0, 1) := daX10_settle_74 (74, .aload_n 0, 1) (List.mem_of_getElem? (i := 0) rfl)
theorem dX10_settle_75 : decode cX10_settle 75 = .ok (.getfield 75, 3) := daX10_settle_74 (75, .getfield 75, 3) (List.mem_of_getElem? (i := 1) rfl)
theorem dX10_settle_78 : decode cX10_settle 78 = .ok (.iload 4, 2) := daX10_settle_74 (78, .iload 4, 2) (List.mem_of_getElem? (i := 2) rfl)
theorem dX10_settle_80 : decode cX10_settle 80 = .ok (.aload_n 3, 1) := daX10_settle_74 (80, .aload_n 3, 1) (List.mem_of_getElem? (i := 3) rfl)
theorem dX10_settle_81 : decode cX10_settle 81 = .ok (.getfield 234, 3) := daX10_settle_74 (81, .getfield 234, 3) (List.mem_of_getElem? (i := 4) rfl)
theorem dX10_settle_84 : decode cX10_settle 84 = .ok (.invokevirtual 267, 3) := daX10_settle_74 (84, .invokevirtual 267, 3) (List.mem_of_getElem? (i := 5) rfl)
theorem dX10_settle_87 : decode cX10_settle 87 = .ok (.invokevirtual 270, 3) := daX10_settle_74 (87, .invokevirtual 270, 3) (List.mem_of_getElem? (i := 6) rfl)
theorem dX10_settle_90 : decode cX10_settle 90 = .ok (.iinc 2 1, 3) := daX10_settle_74 (90, .iinc 2 1, 3) (List.mem_of_getElem? (i := 7) rfl)
theorem dX10_settle_93 : decode cX10_settle 93 = .ok (.goto (-71), 3) := daX10_settle_74 (93, .goto (-71), 3) (List.mem_of_getElem? (i := 8) rfl)
theorem dX10_settle_96 : decode cX10_settle 96 = .ok (.iconst 0, 1) := daX10_settle_74 (96, .iconst 0, 1) (List.mem_of_getElem? (i := 9) rfl)
theorem dX10_settle_97 : decode cX10_settle 97 = .ok (.istore_n 2, 1) := daX10_settle_74 (97, .istore_n 2, 1) (List.mem_of_getElem? (i := 10) rfl)
theorem dX10_settle_98 : decode cX10_settle 98 = .ok (.iload_n 2, 1) := daX10_settle_74 (98, .iload_n 2, 1) (List.mem_of_getElem? (i := 11) rfl)
theorem dX10_settle_99 : decode cX10_settle 99 = .ok (.bipush 12, 2) := daX10_settle_74 (99, .bipush 12, 2) (List.mem_of_getElem? (i := 12) rfl)
theorem dX10_settle_101 : decode cX10_settle 101 = .ok (.if_icmp .ge 31, 3) := daX10_settle_74 (101, .if_icmp .ge 31, 3) (List.mem_of_getElem? (i := 13) rfl)
theorem dX10_settle_104 : decode cX10_settle 104 = .ok (.aload_n 0, 1) := daX10_settle_74 (104, .aload_n 0, 1) (List.mem_of_getElem? (i := 14) rfl)
theorem dX10_settle_105 : decode cX10_settle 105 = .ok (.getfield 57, 3) := daX10_settle_74 (105, .getfield 57, 3) (List.mem_of_getElem? (i := 15) rfl)
theorem dX10_settle_108 : decode cX10_settle 108 = .ok (.getfield 274, 3) := daX10_settle_74 (108, .getfield 274, 3) (List.mem_of_getElem? (i := 16) rfl)
theorem dX10_settle_111 : decode cX10_settle 111 = .ok (.iload_n 2, 1) := daX10_settle_74 (111, .iload_n 2, 1) (List.mem_of_getElem? (i := 17) rfl)
theorem dX10_settle_112 : decode cX10_settle 112 = .ok (.dup2, 1) := daX10_settle_74 (112, .dup2, 1) (List.mem_of_getElem? (i := 18) rfl)
theorem dX10_settle_113 : decode cX10_settle 113 = .ok (.laload, 1) := daX10_settle_74 (113, .laload, 1) (List.mem_of_getElem? (i := 19) rfl)
theorem dX10_settle_114 : decode cX10_settle 114 = .ok (.aload_n 0, 1) := daX10_settle_74 (114, .aload_n 0, 1) (List.mem_of_getElem? (i := 20) rfl)
theorem dX10_settle_115 : decode cX10_settle 115 = .ok (.getfield 18, 3) := daX10_settle_74 (115, .getfield 18, 3) (List.mem_of_getElem? (i := 21) rfl)
theorem dX10_settle_118 : decode cX10_settle 118 = .ok (.iload_n 2, 1) := daX10_settle_74 (118, .iload_n 2, 1) (List.mem_of_getElem? (i := 22) rfl)
theorem dX10_settle_119 : decode cX10_settle 119 = .ok (.aaload, 1) := daX10_settle_74 (119, .aaload, 1) (List.mem_of_getElem? (i := 23) rfl)
theorem dX10_settle_120 : decode cX10_settle 120 = .ok (.getfield 214, 3) := daX10_settle_74 (120, .getfield 214, 3) (List.mem_of_getElem? (i := 24) rfl)
theorem dX10_settle_123 : decode cX10_settle 123 = .ok (.i2l, 1) := daX10_settle_74 (123, .i2l, 1) (List.mem_of_getElem? (i := 25) rfl)
theorem dX10_settle_124 : decode cX10_settle 124 = .ok (.lsub, 1) := daX10_settle_74 (124, .lsub, 1) (List.mem_of_getElem? (i := 26) rfl)
theorem dX10_settle_125 : decode cX10_settle 125 = .ok (.lastore, 1) := daX10_settle_74 (125, .lastore, 1) (List.mem_of_getElem? (i := 27) rfl)
theorem dX10_settle_126 : decode cX10_settle 126 = .ok (.iinc 2 1, 3) := daX10_settle_74 (126, .iinc 2 1, 3) (List.mem_of_getElem? (i := 28) rfl)
theorem dX10_settle_129 : decode cX10_settle 129 = .ok (.goto (-31), 3) := daX10_settle_74 (129, .goto (-31), 3) (List.mem_of_getElem? (i := 29) rfl)
theorem dX10_settle_132 : decode cX10_settle 132 = .ok (.aload_n 0, 1) := daX10_settle_74 (132, .aload_n 0, 1) (List.mem_of_getElem? (i := 30) rfl)
theorem dX10_settle_133 : decode cX10_settle 133 = .ok (.getfield 57, 3) := daX10_settle_74 (133, .getfield 57, 3) (List.mem_of_getElem? (i := 31) rfl)
theorem dX10_settle_136 : decode cX10_settle 136 = .ok (.aload_n 0, 1) := daX10_settle_74 (136, .aload_n 0, 1) (List.mem_of_getElem? (i := 32) rfl)
theorem dX10_settle_137 : decode cX10_settle 137 = .ok (.getfield 18, 3) := daX10_settle_74 (137, .getfield 18, 3) (List.mem_of_getElem? (i := 33) rfl)
theorem dX10_settle_140 : decode cX10_settle 140 = .ok (.invokevirtual 278, 3) := daX10_settle_74 (140, .invokevirtual 278, 3) (List.mem_of_getElem? (i := 34) rfl)
theorem dX10_settle_143 : decode cX10_settle 143 = .ok (.aload_n 0, 1) := daX10_settle_74 (143, .aload_n 0, 1) (List.mem_of_getElem? (i := 35) rfl)
theorem dX10_settle_144 : decode cX10_settle 144 = .ok (.getfield 57, 3) := daX10_settle_74 (144, .getfield 57, 3) (List.mem_of_getElem? (i := 36) rfl)
theorem dX10_settle_147 : decode cX10_settle 147 = .ok (.getfield 282, 3) := daX10_settle_74 (147, .getfield 282, 3) (List.mem_of_getElem? (i := 37) rfl)
theorem dX10_settle_150 : decode cX10_settle 150 = .ok (.ireturn, 1) := daX10_settle_74 (150, .ireturn, 1) (List.mem_of_getElem? (i := 38) rfl)
set_option maxRecDepth 20000 in
theorem ggX10_settled_X4_holds : GoodIn wsX10_settled wsX4_holds := goodIn_r _ [8, 9, 27, 28, 29, 30, 31, 32, 33, 34, 35, 36] (by decide +kernel) (by decide +kernel)
set_option maxRecDepth 20000 in
theorem gX10_settled_X4_holds : GoodIn wsX10_settled (wsV RX10 285 RX4 yX4_holds wsX4_holds) := goodIn_app (goodIn_of _ (by decide +kernel)) ggX10_settled_X4_holds
set_option maxRecDepth 20000 in
theorem daX10_settled_0 : ∀ x ∈ ([(0, .aload_n 0, 1), (1, .getfield 57, 3), (4, .iload_n 1, 1), (5, .invokevirtual 285, 3), (8, .ifCond .ne 5, 3), (11, .iconst (-1), 1), (12, .ireturn, 1), (13, .iload_n 2, 1), (14, .ifCond .ne 13, 3), (17, .aload_n 0, 1), (18, .getfield 57, 3), (21, .getfield 288, 3), (24, .iload_n 1, 1), (25, .iaload, 1), (26, .ireturn, 1)] : List (Nat × Instr × Nat)), decode cX10_settled x.1 = .ok x.2 := by decide +kernel
theorem dX10_settled_0 : decode cX10_settled 0 = .ok (.aload_n 0, 1) := daX10_settled_0 (0, .aload_n 0, 1) (List.mem_of_getElem? (i := 0) rfl)
theorem dX10_settled_1 : decode cX10_settled 1 = .ok (.getfield 57, 3) := daX10_settled_0 (1, .getfield 57, 3) (List.mem_of_getElem? (i := 1) rfl)
theorem dX10_settled_4 : decode cX10_settled 4 = .ok (.iload_n 1, 1) := daX10_settled_0 (4, .iload_n 1, 1) (List.mem_of_getElem? (i := 2) rfl)
theorem dX10_settled_5 : decode cX10_settled 5 = .ok (.invokevirtual 285, 3) := daX10_settled_0 (5, .invokevirtual 285, 3) (List.mem_of_getElem? (i := 3) rfl)
theorem dX10_settled_8 : decode cX10_settled 8 = .ok (.ifCond .ne 5, 3) := daX10_settled_0 (8, .ifCond .ne 5, 3) (List.mem_of_getElem? (i := 4) rfl)
theorem dX10_settled_11 : decode cX10_settled 11 = .ok (.iconst (-1), 1) := daX10_settled_0 (11, .iconst (-1), 1) (List.mem_of_getElem? (i := 5) rfl)
theorem dX10_settled_12 : decode cX10_settled 12 = .ok (.ireturn, 1) := daX10_settled_0 (12, .ireturn, 1) (List.mem_of_getElem? (i := 6) rfl)
theorem dX10_settled_13 : decode cX10_settled 13 = .ok (.iload_n 2, 1) := daX10_settled_0 (13, .iload_n 2, 1) (List.mem_of_getElem? (i := 7) rfl)
theorem dX10_settled_14 : decode cX10_settled 14 = .ok (.ifCond .ne 13, 3) := daX10_settled_0 (14, .ifCond .ne 13, 3) (List.mem_of_getElem? (i := 8) rfl)
theorem dX10_settled_17 : decode cX10_settled 17 = .ok (.aload_n 0, 1) := daX10_settled_0 (17, .aload_n 0, 1) (List.mem_of_getElem? (i := 9) rfl)
theorem dX10_settled_18 : decode cX10_settled 18 = .ok (.getfield 57, 3) := daX10_settled_0 (18, .getfield 57, 3) (List.mem_of_getElem? (i := 10) rfl)
theorem dX10_settled_21 : decode cX10_settled 21 = .ok (.getfield 288, 3) := daX10_settled_0 (21, .getfield 288, 3) (List.mem_of_getElem? (i := 11) rfl)
theorem dX10_settled_24 : decode cX10_settled 24 = .ok (.iload_n 1, 1) := daX10_settled_0 (24, .iload_n 1, 1) (List.mem_of_getElem? (i := 12) rfl)
theorem dX10_settled_25 : decode cX10_settled 25 = .ok (.iaload, 1) := daX10_settled_0 (25, .iaload, 1) (List.mem_of_getElem? (i := 13) rfl)
theorem dX10_settled_26 : decode cX10_settled 26 = .ok (.ireturn, 1) := daX10_settled_0 (26, .ireturn, 1) (List.mem_of_getElem? (i := 14) rfl)
