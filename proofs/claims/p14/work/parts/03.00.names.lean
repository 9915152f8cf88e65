set_option maxRecDepth 20000 in
theorem daX0_init_0 : ∀ x ∈ ([(0, .aload_n 0, 1), (1, .invokespecial 1, 3), (4, .aload_n 0, 1), (5, .iconst 0, 1), (6, .putfield 7, 3), (9, .aload_n 0, 1), (10, .iload_n 1, 1), (11, .putfield 13, 3), (14, .aload_n 0, 1), (15, .iload_n 2, 1), (16, .putfield 17, 3), (19, .aload_n 0, 1), (20, .iload_n 3, 1), (21, .putfield 20, 3), (24, .return_, 1)] : List (Nat × Instr × Nat)), decode cX0_init x.1 = .ok x.2 := by decide +kernel
theorem dX0_init_0 : decode cX0_init 0 = .ok (.aload_n 0, 1) := daX0_init_0 (0, .aload_n 0, 1) (List.mem_of_getElem? (i := 0) rfl)
theorem dX0_init_1 : decode cX0_init 1 = .ok (.invokespecial 1, 3) := daX0_init_0 (1, .invokespecial 1, 3) (List.mem_of_getElem? (i := 1) rfl)
theorem dX0_init_4 : decode cX0_init 4 = .ok (.aload_n 0, 1) := daX0_init_0 (4, .aload_n 0, 1) (List.mem_of_getElem? (i := 2) rfl)
theorem dX0_init_5 : decode cX0_init 5 = .ok (.iconst 0, 1) := daX0_init_0 (5, .iconst 0, 1) (List.mem_of_getElem? (i := 3) rfl)
theorem dX0_init_6 : decode cX0_init 6 = .ok (.putfield 7, 3) := daX0_init_0 (6, .putfield 7, 3) (List.mem_of_getElem? (i := 4) rfl)
theorem dX0_init_9 : decode cX0_init 9 = .ok (.aload_n 0, 1) := daX0_init_0 (9, .aload_n 0, 1) (List.mem_of_getElem? (i := 5) rfl)
theorem dX0_init_10 : decode cX0_init 10 = .ok (.iload_n 1, 1) := daX0_init_0 (10, .iload_n 1, 1) (List.mem_of_getElem? (i := 6) rfl)
theorem dX0_init_11 : decode cX0_init 11 = .ok (.putfield 13, 3) := daX0_init_0 (11, .putfield 13, 3) (List.mem_of_getElem? (i := 7) rfl)
theorem dX0_init_14 : decode cX0_init 14 = .ok (.aload_n 0, 1) := daX0_init_0 (14, .aload_n 0, 1) (List.mem_of_getElem? (i := 8) rfl)
theorem dX0_init_15 : decode cX0_init 15 = .ok (.iload_n 2, 1) := daX0_init_0 (15, .iload_n 2, 1) (List.mem_of_getElem? (i := 9) rfl)
theorem dX0_init_16 : decode cX0_init 16 = .ok (.putfield 17, 3) := daX0_init_0 (16, .putfield 17, 3) (List.mem_of_getElem? (i := 10) rfl)
theorem dX0_init_19 : decode cX0_init 19 = .ok (.aload_n 0, 1) := daX0_init_0 (19, .aload_n 0, 1) (List.mem_of_getElem? (i := 11) rfl)
theorem dX0_init_20 : decode cX0_init 20 = .ok (.iload_n 3, 1) := daX0_init_0 (20, .iload_n 3, 1) (List.mem_of_getElem? (i := 12) rfl)
theorem dX0_init_21 : decode cX0_init 21 = .ok (.putfield 20, 3) := daX0_init_0 (21, .putfield 20, 3) (List.mem_of_getElem? (i := 13) rfl)
theorem dX0_init_24 : decode cX0_init 24 = .ok (.return_, 1) := daX0_init_0 (24, .return_, 1) (List.mem_of_getElem? (i := 14) rfl)
set_option maxRecDepth 20000 in
theorem daX1_init_0 : ∀ x ∈ ([(0, .aload_n 0, 1), (1, .invokespecial 3, 3), (4, .aload_n 0, 1), (5, .bipush 12, 2), (7, .newarray .int, 2), (9, .putfield 9, 3), (12, .aload_n 0, 1), (13, .bipush 12, 2), (15, .newarray .int, 2), (17, .putfield 15, 3), (20, .aload_n 0, 1), (21, .bipush 72, 2), (23, .newarray .int, 2), (25, .putfield 18, 3), (28, .aload_n 0, 1), (29, .bipush 72, 2), (31, .newarray .char, 2), (33, .putfield 21, 3), (36, .aload_n 0, 1), (37, .bipush 72, 2), (39, .newarray .int, 2), (41, .putfield 25, 3), (44, .aload_n 0, 1), (45, .iconst 0, 1), (46, .putfield 28, 3), (49, .return_, 1)] : List (Nat × Instr × Nat)), decode cX1_init x.1 = .ok x.2 := by decide +kernel
theorem dX1_init_0 : decode cX1_init 0 = .ok (.aload_n 0, 1) := daX1_init_0 (0, .aload_n 0, 1) (List.mem_of_getElem? (i := 0) rfl)
theorem dX1_init_1 : decode cX1_init 1 = .ok (.invokespecial 3, 3) := daX1_init_0 (1, .invokespecial 3, 3) (List.mem_of_getElem? (i := 1) rfl)
theorem dX1_init_4 : decode cX1_init 4 = .ok (.aload_n 0, 1) := daX1_init_0 (4, .aload_n 0, 1) (List.mem_of_getElem? (i := 2) rfl)
theorem dX1_init_5 : decode cX1_init 5 = .ok (.bipush 12, 2) := daX1_init_0 (5, .bipush 12, 2) (List.mem_of_getElem? (i := 3) rfl)
theorem dX1_init_7 : decode cX1_init 7 = .ok (.newarray .int, 2) := daX1_init_0 (7, .newarray .int, 2) (List.mem_of_getElem? (i := 4) rfl)
theorem dX1_init_9 : decode cX1_init 9 = .ok (.putfield 9, 3) := daX1_init_0 (9, .putfield 9, 3) (List.mem_of_getElem? (i := 5) rfl)
theorem dX1_init_12 : decode cX1_init 12 = .ok (.aload_n 0, 1) := daX1_init_0 (12, .aload_n 0, 1) (List.mem_of_getElem? (i := 6) rfl)
theorem dX1_init_13 : decode cX1_init 13 = .ok (.bipush 12, 2) := daX1_init_0 (13, .bipush 12, 2) (List.mem_of_getElem? (i := 7) rfl)
theorem dX1_init_15 : decode cX1_init 15 = .ok (.newarray .int, 2) := daX1_init_0 (15, .newarray .int, 2) (List.mem_of_getElem? (i := 8) rfl)
theorem dX1_init_17 : decode cX1_init 17 = .ok (.putfield 15, 3) := daX1_init_0 (17, .putfield 15, 3) (List.mem_of_getElem? (i := 9) rfl)
theorem dX1_init_20 : decode cX1_init 20 = .ok (.aload_n 0, 1) := daX1_init_0 (20, .aload_n 0, 1) (List.mem_of_getElem? (i := 10) rfl)
theorem dX1_init_21 : decode cX1_init 21 = .ok (.bipush 72, 2) := daX1_init_0 (21, .bipush 72, 2) (List.mem_of_getElem? (i := 11) rfl)
theorem dX1_init_23 : decode cX1_init 23 = .ok (.newarray .int, 2) := daX1_init_0 (23, .newarray .int, 2) (List.mem_of_getElem? (i := 12) rfl)
theorem dX1_init_25 : decode cX1_init 25 = .ok (.putfield 18, 3) := daX1_init_0 (25, .putfield 18, 3) (List.mem_of_getElem? (i := 13) rfl)
theorem dX1_init_28 : decode cX1_init 28 = .ok (.aload_n 0, 1) := daX1_init_0 (28, .aload_n 0, 1) (List.mem_of_getElem? (i := 14) rfl)
theorem dX1_init_29 : decode cX1_init 29 = .ok (.bipush 72, 2) := daX1_init_0 (29, .bipush 72, 2) (List.mem_of_getElem? (i := 15) rfl)
theorem dX1_init_31 : decode cX1_init 31 = .ok (.newarray .char, 2) := daX1_init_0 (31, .newarray .char, 2) (List.mem_of_getElem? (i := 16) rfl)
theorem dX1_init_33 : decode cX1_init 33 = .ok (.putfield 21, 3) := daX1_init_0 (33, .putfield 21, 3) (List.mem_of_getElem? (i := 17) rfl)
theorem dX1_init_36 : decode cX1_init 36 = .ok (.aload_n 0, 1) := daX1_init_0 (36, .aload_n 0, 1) (List.mem_of_getElem? (i := 18) rfl)
theorem dX1_init_37 : decode cX1_init 37 = .ok (.bipush 72, 2) := daX1_init_0 (37, .bipush 72, 2) (List.mem_of_getElem? (i := 19) rfl)
theorem dX1_init_39 : decode cX1_init 39 = .ok (.newarray .int, 2) := daX1_init_0 (39, .newarray .int, 2) (List.mem_of_getElem? (i := 20) rfl)
theorem dX1_init_41 : decode cX1_init 41 = .ok (.putfield 25, 3) := daX1_init_0 (41, .putfield 25, 3) (List.mem_of_getElem? (i := 21) rfl)
theorem dX1_init_44 : decode cX1_init 44 = .ok (.aload_n 0, 1) := daX1_init_0 (44, .aload_n 0, 1) (List.mem_of_getElem? (i := 22) rfl)
theorem dX1_init_45 : decode cX1_init 45 = .ok (.iconst 0, 1) := daX1_init_0 (45, .iconst 0, 1) (List.mem_of_getElem? (i := 23) rfl)
theorem dX1_init_46 : decode cX1_init 46 = .ok (.putfield 28, 3) := daX1_init_0 (46, .putfield 28, 3) (List.mem_of_getElem? (i := 24) rfl)
theorem dX1_init_49 : decode cX1_init 49 = .ok (.return_, 1) := daX1_init_0 (49, .return_, 1) (List.mem_of_getElem? (i := 25) rfl)
set_option maxRecDepth 20000 in
theorem ggX1_learn_X7_rewind : GoodIn wsX1_learn wsX7_rewind := goodIn_r _ [6, 7, 124, 125, 126] (by decide +kernel) (by decide +kernel)
set_option maxRecDepth 20000 in
theorem gX1_learn_X7_rewind : GoodIn wsX1_learn (wsV RX1 32 RX7 yX7_rewind wsX7_rewind) := goodIn_app (goodIn_of _ (by decide +kernel)) ggX1_learn_X7_rewind
set_option maxRecDepth 20000 in
theorem ggX1_learn_X7_isOver : GoodIn wsX1_learn wsX7_isOver := goodIn_r _ [11, 12, 13, 14, 15, 5, 16, 7, 17, 124, 125, 126] (by decide +kernel) (by decide +kernel)
set_option maxRecDepth 20000 in
theorem gX1_learn_X7_isOver : GoodIn wsX1_learn (wsV RX1 37 RX7 yX7_isOver wsX7_isOver) := goodIn_app (goodIn_of _ (by decide +kernel)) ggX1_learn_X7_isOver
set_option maxRecDepth 20000 in
theorem ggX1_learn_X1_learnRule : GoodIn wsX1_learn wsX1_learnRule := goodIn_r _ [22, 23, 24, 25, 14, 15, 5, 16, 7, 12, 17, 26, 27, 28, 29, 13, 30, 31, 32, 33, 34, 35, 36, 37, 38, 39, 40, 41, 42, 43, 44, 45, 46, 47, 48, 49, 50, 51, 52, 53, 54, 55, 56, 57, 58, 59, 60, 61, 62, 63, 64, 65, 66, 67, 68, 69, 70, 71, 72, 73, 74, 75, 76, 77, 78, 79, 80, 81, 82, 83, 84, 85, 86, 87, 88, 89, 90, 91, 92, 93, 94, 95, 96, 97, 98, 21, 99, 100, 101, 102, 103, 104, 105, 106, 107, 108, 109, 110, 111, 112, 113, 114, 115, 116, 117, 118, 119, 120, 121, 122, 123, 124, 125, 126] (by decide +kernel) (by decide +kernel)
set_option maxRecDepth 20000 in
theorem gX1_learn_X1_learnRule : GoodIn wsX1_learn (wsV RX1 41 RX1 yX1_learnRule wsX1_learnRule) := goodIn_app (goodIn_of _ (by decide +kernel)) ggX1_learn_X1_learnRule
set_option maxRecDepth 20000 in
theorem ggX1_learn_X7_takes : GoodIn wsX1_learn wsX7_takes := goodIn_r _ [109, 12, 17, 7, 13, 14, 15, 5, 16, 124, 125, 126] (by decide +kernel) (by decide +kernel)
set_option maxRecDepth 20000 in
theorem gX1_learn_X7_takes : GoodIn wsX1_learn (wsV RX1 45 RX7 yX7_takes wsX7_takes) := goodIn_app (goodIn_of _ (by decide +kernel)) ggX1_learn_X7_takes
set_option maxRecDepth 20000 in
theorem ggX1_learn_X7_faultHere : GoodIn wsX1_learn wsX7_faultHere := goodIn_r _ [113, 13, 14, 15, 5, 16, 7, 12, 17, 94, 35, 95, 124, 125, 126] (by decide +kernel) (by decide +kernel)
set_option maxRecDepth 20000 in
theorem gX1_learn_X7_faultHere : GoodIn wsX1_learn (wsV RX1 49 RX7 yX7_faultHere wsX7_faultHere) := goodIn_app (goodIn_of _ (by decide +kernel)) ggX1_learn_X7_faultHere
set_option maxRecDepth 20000 in
theorem daX1_learn_0 : ∀ x ∈ ([(0, .aload_n 0, 1), (1, .iconst 0, 1), (2, .putfield 28, 3), (5, .aload_n 1, 1), (6, .invokevirtual 32, 3), (9, .aload_n 1, 1), (10, .invokevirtual 37, 3), (13, .ifCond .eq 5, 3), (16, .iconst 0, 1), (17, .ireturn, 1), (18, .iconst 0, 1), (19, .istore_n 2, 1), (20, .iload_n 2, 1), (21, .bipush 12, 2), (23, .if_icmp .gt 56, 3), (26, .aload_n 0, 1), (27, .aload_n 1, 1), (28, .iload_n 2, 1), (29, .invokevirtual 41, 3), (32, .istore_n 3, 1), (33, .iload_n 3, 1), (34, .ifCond .eq 5, 3), (37, .iload_n 3, 1), (38, .ireturn, 1), (39, .aload_n 0, 1), (40, .dup, 1), (41, .getfield 28, 3), (44, .iconst 1, 1), (45, .iadd, 1), (46, .putfield 28, 3), (49, .aload_n 1, 1), (50, .invokevirtual 37, 3), (53, .ifCond .eq 5, 3), (56, .iconst 0, 1), (57, .ireturn, 1), (58, .aload_n 1, 1), (59, .bipush 59, 2), (61, .invokevirtual 45, 3), (64, .ifCond .ne 9, 3), (67, .aload_n 1, 1)] : List (Nat × Instr × Nat)), decode cX1_learn x.1 = .ok x.2 := by decide +kernel
theorem dX1_learn_0 : decode cX1_learn 0 = .ok (.aload_n 0, 1) := daX1_learn_0 (0, .aload_n 0, 1) (List.mem_of_getElem? (i := 0) rfl)
theorem dX1_learn_1 : decode cX1_learn 1 = .ok (.iconst 0, 1) := daX1_learn_0 (1, .iconst 0, 1) (List.mem_of_getElem? (i := 1) rfl)
theorem dX1_learn_2 : decode cX1_learn 2 = .ok (.putfield 28, 3) := daX1_learn_0 (2, .putfield 28, 3) (List.mem_of_getElem? (i := 2) rfl)
theorem dX1_learn_5 : decode cX1_learn 5 = .ok (.aload_n 1, 1) := daX1_learn_0 (5, .aload_n 1, 1) (List.mem_of_getElem? (i := 3) rfl)
theorem dX1_learn_6 : decode cX1_learn 6 = .ok (.invokevirtual 32, 3) := daX1_learn_0 (6, .invokevirtual 32, 3) (List.mem_of_getElem? (i := 4) rfl)
theorem dX1_learn_9 : decode cX1_learn 9 = .ok (.aload_n 1, 1) := daX1_learn_0 (9, .aload_n 1, 1) (List.mem_of_getElem? (i := 5) rfl)
theorem dX1_learn_10 : decode cX1_learn 10 = .ok (.invokevirtual 37, 3) := daX1_learn_0 (10, .invokevirtual 37, 3) (List.mem_of_getElem? (i := 6) rfl)
theorem dX1_learn_13 : decode cX1_learn 13 = .ok (.ifCond .eq 5, 3) := daX1_learn_0 (13, .ifCond .eq 5, 3) (List.mem_of_getElem? (i := 7) rfl)
theorem dX1_learn_16 : decode cX1_learn 16 = .ok (.iconst 0, 1) := daX1_learn_0 (16, .iconst 0, 1) (List.mem_of_getElem? (i := 8) rfl)
theorem dX1_learn_17 : decode cX1_learn 17 = .ok (.ireturn, 1) := daX1_learn_0 (17, .ireturn, 1) (List.mem_of_getElem? (i := 9) rfl)
theorem dX1_learn_18 : decode cX1_learn 18 = .ok (.iconst 0, 1) := daX1_learn_0 (18, .iconst 0, 1) (List.mem_of_getElem? (i := 10) rfl)
theorem dX1_learn_19 : decode cX1_learn 19 = .ok (.istore_n 2, 1) := daX1_learn_0 (19, .istore_n 2, 1) (List.mem_of_getElem? (i := 11) rfl)
theorem dX1_learn_20 : decode cX1_learn 20 = .ok (.iload_n 2, 1) := daX1_learn_0 (20, .iload_n 2, 1) (List.mem_of_getElem? (i := 12) rfl)
theorem dX1_learn_21 : decode cX1_learn 21 = .ok (.bipush 12, 2) := daX1_learn_0 (21, .bipush 12, 2) (List.mem_of_getElem? (i := 13) rfl)
theorem dX1_learn_23 : decode cX1_learn 23 = .ok (.if_icmp .gt 56, 3) := daX1_learn_0 (23, .if_icmp .gt 56, 3) (List.mem_of_getElem? (i := 14) rfl)
theorem dX1_learn_26 : decode cX1_learn 26 = .ok (.aload_n 0, 1) := daX1_learn_0 (26, .aload_n 0, 1) (List.mem_of_getElem? (i := 15) rfl)
theorem dX1_learn_27 : decode cX1_learn 27 = .ok (.aload_n 1, 1) := daX1_learn_0 (27, .aload_n 1, 1) (List.mem_of_getElem? (i := 16) rfl)
theorem dX1_learn_28 : decode cX1_learn 28 = .ok (.iload_n 2, 1) := daX1_learn_0 (28, .iload_n 2, 1) (List.mem_of_getElem? (i := 17) rfl)
theorem dX1_learn_29 : decode cX1_learn 29 = .ok (.invokevirtual 41, 3) := daX1_learn_0 (29, .invokevirtual 41, 3) (List.mem_of_getElem? (i := 18) rfl)
theorem dX1_learn_32 : decode cX1_learn 32 = .ok (.istore_n 3, 1) := daX1_learn_0 (32, .istore_n 3, 1) (List.mem_of_getElem? (i := 19) rfl)
theorem dX1_learn_33 : decode cX1_learn 33 = .ok (.iload_n 3, 1) := daX1_learn_0 (33, .iload_n 3, 1) (List.mem_of_getElem? (i := 20) rfl)
theorem dX1_learn_34 : decode cX1_learn 34 = .ok (.ifCond .eq 5, 3) := daX1_learn_0 (34, .ifCond .eq 5, 3) (List.mem_of_getElem? (i := 21) rfl)
theorem dX1_learn_37 : decode cX1_learn 37 = .ok (.iload_n 3, 1) := daX1_learn_0 (37, .iload_n 3, 1) (List.mem_of_getElem? (i := 22) rfl)
theorem dX1_learn_38 : decode cX1_learn 38 = .ok (.ireturn, 1) := daX1_learn_0 (38, .ireturn, 1) (List.mem_of_getElem? (i := 23) rfl)
theorem dX1_learn_39 : decode cX1_learn 39 = .ok (.aload_n 0, 1) := daX1_learn_0 (39, .aload_n 0, 1) (List.mem_of_getElem? (i := 24) rfl)
theorem dX1_learn_40 : decode cX1_learn 40 = .ok (.dup, 1) := daX1_learn_0 (40, .dup, 1) (List.mem_of_getElem? (i := 25) rfl)
theorem dX1_learn_41 : decode cX1_learn 41 = .ok (.getfield 28, 3) := daX1_learn_0 (41, .getfield 28, 3) (List.mem_of_getElem? (i := 26) rfl)
theorem dX1_learn_44 : decode cX1_learn 44 = .ok (.iconst 1, 1) := daX1_learn_0 (44, .iconst 1, 1) (List.mem_of_getElem? (i := 27) rfl)
theorem dX1_learn_45 : decode cX1_learn 45 = .ok (.iadd, 1) := daX1_learn_0 (45, .iadd, 1) (List.mem_of_getElem? (i := 28) rfl)
theorem dX1_learn_46 : decode cX1_learn 46 = .ok (.putfield 28, 3) := daX1_learn_0 (46, .putfield 28, 3) (List.mem_of_getElem? (i := 29) rfl)
theorem dX1_learn_49 : decode cX1_learn 49 = .ok (.aload_n 1, 1) := daX1_learn_0 (49, .aload_n 1, 1) (List.mem_of_getElem? (i := 30) rfl)
theorem dX1_learn_50 : decode cX1_learn 50 = .ok (.invokevirtual 37, 3) := daX1_learn_0 (50, .invokevirtual 37, 3) (List.mem_of_getElem? (i := 31) rfl)
theorem dX1_learn_53 : decode cX1_learn 53 = .ok (.ifCond .eq 5, 3) := daX1_learn_0 (53, .ifCond .eq 5, 3) (List.mem_of_getElem? (i := 32) rfl)
theorem dX1_learn_56 : decode cX1_learn 56 = .ok (.iconst 0, 1) := daX1_learn_0 (56, .iconst 0, 1) (List.mem_of_getElem? (i := 33) rfl)
theorem dX1_learn_57 : decode cX1_learn 57 = .ok (.ireturn, 1) := daX1_learn_0 (57, .ireturn, 1) (List.mem_of_getElem? (i := 34) rfl)
theorem dX1_learn_58 : decode cX1_learn 58 = .ok (.aload_n 1, 1) := daX1_learn_0 (58, .aload_n 1, 1) (List.mem_of_getElem? (i := 35) rfl)
theorem dX1_learn_59 : decode cX1_learn 59 = .ok (.bipush 59, 2) := daX1_learn_0 (59, .bipush 59, 2) (List.mem_of_getElem? (i := 36) rfl)
theorem dX1_learn_61 : decode cX1_learn 61 = .ok (.invokevirtual 45, 3) := daX1_learn_0 (61, .invokevirtual 45, 3) (List.mem_of_getElem? (i := 37) rfl)
theorem dX1_learn_64 : decode cX1_learn 64 = .ok (.ifCond .ne 9, 3) := daX1_learn_0 (64, .ifCond .ne 9, 3) (List.mem_of_getElem? (i := 38) rfl)
theorem dX1_learn_67 : decode cX1_learn 67 = .ok (.aload_n 1, 1) := daX1_learn_0 (67, .aload_n 1, 1) (List.mem_of_getElem? (i := 39) rfl)
set_option maxRecDepth 20000 in
theorem daX1_learn_68 : ∀ x ∈ ([(68, .iconst 0, 1), (69, .invokevirtual 49, 3), (72, .ireturn, 1), (73, .iinc 2 1, 3), (76, .goto (-56), 3), (79, .aload_n 1, 1), (80, .iconst 2, 1), (81, .invokevirtual 49, 3), (84, .ireturn, 1)] : List (Nat × Instr × Nat)), decode cX1_learn x.1 = .ok x.2 := by decide +kernel
theorem dX1_learn_68 : decode cX1_learn 68 = .ok (.iconst 0, 1) := daX1_learn_68 (68, .iconst 0, 1) (List.mem_of_getElem? (i := 0) rfl)
theorem dX1_learn_69 : decode cX1_learn 69 = .ok (.invokevirtual 49, 3) := daX1_learn_68 (69, .invokevirtual 49, 3) (List.mem_of_getElem? (i := 1) rfl)
theorem dX1_learn_72 : decode cX1_learn 72 = .ok (.ireturn, 1) := daX1_learn_68 (72, .ireturn, 1) (List.mem_of_getElem? (i := 2) rfl)
theorem dX1_learn_73 : decode cX1_learn 73 = .ok (.iinc 2 1, 3) := daX1_learn_68 (73, .iinc 2 1, 3) (List.mem_of_getElem? (i := 3) rfl)
theorem dX1_learn_76 : decode cX1_learn 76 = .ok (.goto (-56), 3) := daX1_learn_68 (76, .goto (-56), 3) (List.mem_of_getElem? (i := 4) rfl)
theorem dX1_learn_79 : decode cX1_learn 79 = .ok (.aload_n 1, 1) := daX1_learn_68 (79, .aload_n 1, 1) (List.mem_of_getElem? (i := 5) rfl)
theorem dX1_learn_80 : decode cX1_learn 80 = .ok (.iconst 2, 1) := daX1_learn_68 (80, .iconst 2, 1) (List.mem_of_getElem? (i := 6) rfl)
theorem dX1_learn_81 : decode cX1_learn 81 = .ok (.invokevirtual 49, 3) := daX1_learn_68 (81, .invokevirtual 49, 3) (List.mem_of_getElem? (i := 7) rfl)
theorem dX1_learn_84 : decode cX1_learn 84 = .ok (.ireturn, 1) := daX1_learn_68 (84, .ireturn, 1) (List.mem_of_getElem? (i := 8) rfl)
set_option maxRecDepth 20000 in
theorem ggX1_learnRule_X7_nextPlace : GoodIn wsX1_learnRule wsX7_nextPlace := goodIn_r _ [7, 8, 9, 10, 111, 112, 113] (by decide +kernel) (by decide +kernel)
set_option maxRecDepth 20000 in
theorem gX1_learnRule_X7_nextPlace : GoodIn wsX1_learnRule (wsV RX1 53 RX7 yX7_nextPlace wsX7_nextPlace) := goodIn_app (goodIn_of _ (by decide +kernel)) ggX1_learnRule_X7_nextPlace
set_option maxRecDepth 20000 in
theorem ggX1_learnRule_X7_takeWord : GoodIn wsX1_learnRule wsX7_takeWord := goodIn_r _ [14, 8, 15, 4, 5, 6, 7, 9, 10, 16, 17, 18, 19, 20, 21, 22, 23, 24, 25, 26, 27, 28, 29, 30, 31, 32, 33, 34, 35, 36, 37, 38, 39, 40, 41, 42, 43, 44, 45, 46, 47, 48, 49, 50, 51, 52, 53, 54, 55, 56, 57, 58, 59, 60, 61, 62, 63, 64, 65, 66, 67, 68, 69, 70, 71, 72, 73, 74, 75, 76, 77, 78, 79, 111, 112, 113] (by decide +kernel) (by decide +kernel)
set_option maxRecDepth 20000 in
theorem gX1_learnRule_X7_takeWord : GoodIn wsX1_learnRule (wsV RX1 59 RX7 yX7_takeWord wsX7_takeWord) := goodIn_app (goodIn_of _ (by decide +kernel)) ggX1_learnRule_X7_takeWord
set_option maxRecDepth 20000 in
theorem ggX1_learnRule_X10_faultAt : GoodIn wsX1_learnRule wsX10_faultAt := goodIn_r _ [81] (by decide +kernel) (by decide +kernel)
set_option maxRecDepth 20000 in
theorem gX1_learnRule_X10_faultAt_n63 : GoodIn wsX1_learnRule (wsX10_faultAt) := ggX1_learnRule_X10_faultAt
set_option maxRecDepth 20000 in
theorem ggX1_learnRule_X1_learnCond : GoodIn wsX1_learnRule wsX1_learnCond := goodIn_r _ [86, 87, 88, 89, 3, 4, 5, 6, 7, 8, 9, 10, 11, 12, 13, 14, 15, 16, 17, 18, 19, 20, 21, 22, 23, 24, 25, 26, 27, 28, 29, 30, 31, 32, 33, 34, 35, 36, 37, 38, 39, 40, 41, 42, 43, 44, 45, 46, 47, 48, 49, 50, 51, 52, 53, 54, 55, 56, 57, 58, 59, 60, 61, 62, 63, 64, 65, 66, 67, 68, 69, 70, 71, 72, 73, 74, 75, 76, 77, 78, 79, 80, 81, 90, 91, 85, 92, 93, 94, 95, 96, 97, 98, 99, 100, 101, 102, 103, 104, 105, 106, 107, 108, 109, 110, 111, 112, 113] (by decide +kernel) (by decide +kernel)
set_option maxRecDepth 20000 in
theorem gX1_learnRule_X1_learnCond : GoodIn wsX1_learnRule (wsV RX1 69 RX1 yX1_learnCond wsX1_learnCond) := goodIn_app (goodIn_of _ (by decide +kernel)) ggX1_learnRule_X1_learnCond
set_option maxRecDepth 20000 in
theorem daX1_learnRule_0 : ∀ x ∈ ([(0, .aload_n 1, 1), (1, .invokevirtual 53, 3), (4, .istore_n 3, 1), (5, .aload_n 1, 1), (6, .ldc 57, 2), (8, .invokevirtual 59, 3), (11, .istore 4, 2), (13, .iload 4, 2), (15, .iconst (-1), 1), (16, .if_icmp .ne 9, 3), (19, .iload_n 3, 1), (20, .iconst 0, 1), (21, .invokestatic 63, 3), (24, .ireturn, 1), (25, .iload_n 2, 1), (26, .bipush 12, 2), (28, .if_icmp .lt 9, 3), (31, .iload_n 3, 1), (32, .iconst 2, 1), (33, .invokestatic 63, 3), (36, .ireturn, 1), (37, .aload_n 0, 1), (38, .getfield 9, 3), (41, .iload_n 2, 1), (42, .iload 4, 2), (44, .iastore, 1), (45, .aload_n 0, 1), (46, .getfield 15, 3), (49, .iload_n 2, 1), (50, .iconst 0, 1), (51, .iastore, 1), (52, .aload_n 1, 1), (53, .ldc 67, 2), (55, .invokevirtual 59, 3), (58, .iconst (-1), 1), (59, .if_icmp .eq 7, 3), (62, .iconst 1, 1), (63, .goto 4, 3), (66, .iconst 0, 1), (67, .istore 5, 2)] : List (Nat × Instr × Nat)), decode cX1_learnRule x.1 = .ok x.2 := by decide +kernel
theorem dX1_learnRule_0 : decode cX1_learnRule 0 = .ok (.aload_n 1, 1) := daX1_learnRule_0 (0, .aload_n 1, 1) (List.mem_of_getElem? (i := 0) rfl)
theorem dX1_learnRule_1 : decode cX1_learnRule 1 = .ok (.invokevirtual 53, 3) := daX1_learnRule_0 (1, .invokevirtual 53, 3) (List.mem_of_getElem? (i := 1) rfl)
theorem dX1_learnRule_4 : decode cX1_learnRule 4 = .ok (.istore_n 3, 1) := daX1_learnRule_0 (4, .istore_n 3, 1) (List.mem_of_getElem? (i := 2) rfl)
theorem dX1_learnRule_5 : decode cX1_learnRule 5 = .ok (.aload_n 1, 1) := daX1_learnRule_0 (5, .aload_n 1, 1) (List.mem_of_getElem? (i := 3) rfl)
theorem dX1_learnRule_6 : decode cX1_learnRule 6 = .ok (.ldc 57, 2) := daX1_learnRule_0 (6, .ldc 57, 2) (List.mem_of_getElem? (i := 4) rfl)
theorem dX1_learnRule_8 : decode cX1_learnRule 8 = .ok (.invokevirtual 59, 3) := daX1_learnRule_0 (8, .invokevirtual 59, 3) (List.mem_of_getElem? (i := 5) rfl)
theorem dX1_learnRule_11 : decode cX1_learnRule 11 = .ok (.istore 4, 2) := daX1_learnRule_0 (11, .istore 4, 2) (List.mem_of_getElem? (i := 6) rfl)
theorem dX1_learnRule_13 : decode cX1_learnRule 13 = .ok (.iload 4, 2) := daX1_learnRule_0 (13, .iload 4, 2) (List.mem_of_getElem? (i := 7) rfl)
theorem dX1_learnRule_15 : decode cX1_learnRule 15 = .ok (.iconst (-1), 1) := daX1_learnRule_0 (15, .iconst (-1), 1) (List.mem_of_getElem? (i := 8) rfl)
theorem dX1_learnRule_16 : decode cX1_learnRule 16 = .ok (.if_icmp .ne 9, 3) := daX1_learnRule_0 (16, .if_icmp .ne 9, 3) (List.mem_of_getElem? (i := 9) rfl)
theorem dX1_learnRule_19 : decode cX1_learnRule 19 = .ok (.iload_n 3, 1) := daX1_learnRule_0 (19, .iload_n 3, 1) (List.mem_of_getElem? (i := 10) rfl)
theorem dX1_learnRule_20 : decode cX1_learnRule 20 = .ok (.iconst 0, 1) := daX1_learnRule_0 (20, .iconst 0, 1) (List.mem_of_getElem? (i := 11) rfl)
theorem dX1_learnRule_21 : decode cX1_learnRule 21 = .ok (.invokestatic 63, 3) := daX1_learnRule_0 (21, .invokestatic 63, 3) (List.mem_of_getElem? (i := 12) rfl)
theorem dX1_learnRule_24 : decode cX1_learnRule 24 = .ok (.ireturn, 1) := daX1_learnRule_0 (24, .ireturn, 1) (List.mem_of_getElem? (i := 13) rfl)
theorem dX1_learnRule_25 : decode cX1_learnRule 25 = .ok (.iload_n 2, 1) := daX1_learnRule_0 (25, .iload_n 2, 1) (List.mem_of_getElem? (i := 14) rfl)
theorem dX1_learnRule_26 : decode cX1_learnRule 26 = .ok (.bipush 12, 2) := daX1_learnRule_0 (26, .bipush 12, 2) (List.mem_of_getElem? (i := 15) rfl)
theorem dX1_learnRule_28 : decode cX1_learnRule 28 = .ok (.if_icmp .lt 9, 3) := daX1_learnRule_0 (28, .if_icmp .lt 9, 3) (List.mem_of_getElem? (i := 16) rfl)
theorem dX1_learnRule_31 : decode cX1_learnRule 31 = .ok (.iload_n 3, 1) := daX1_learnRule_0 (31, .iload_n 3, 1) (List.mem_of_getElem? (i := 17) rfl)
theorem dX1_learnRule_32 : decode cX1_learnRule 32 = .ok (.iconst 2, 1) := daX1_learnRule_0 (32, .iconst 2, 1) (List.mem_of_getElem? (i := 18) rfl)
theorem dX1_learnRule_33 : decode cX1_learnRule 33 = .ok (.invokestatic 63, 3) := daX1_learnRule_0 (33, .invokestatic 63, 3) (List.mem_of_getElem? (i := 19) rfl)
theorem dX1_learnRule_36 : decode cX1_learnRule 36 = .ok (.ireturn, 1) := daX1_learnRule_0 (36, .ireturn, 1) (List.mem_of_getElem? (i := 20) rfl)
theorem dX1_learnRule_37 : decode cX1_learnRule 37 = .ok (.aload_n 0, 1) := daX1_learnRule_0 (37, .aload_n 0, 1) (List.mem_of_getElem? (i := 21) rfl)
theorem dX1_learnRule_38 : decode cX1_learnRule 38 = .ok (.getfield 9, 3) := daX1_learnRule_0 (38, .getfield 9, 3) (List.mem_of_getElem? (i := 22) rfl)
theorem dX1_learnRule_41 : decode cX1_learnRule 41 = .ok (.iload_n 2, 1) := daX1_learnRule_0 (41, .iload_n 2, 1) (List.mem_of_getElem? (i := 23) rfl)
theorem dX1_learnRule_42 : decode cX1_learnRule 42 = .ok (.iload 4, 2) := daX1_learnRule_0 (42, .iload 4, 2) (List.mem_of_getElem? (i := 24) rfl)
theorem dX1_learnRule_44 : decode cX1_learnRule 44 = .ok (.iastore, 1) := daX1_learnRule_0 (44, .iastore, 1) (List.mem_of_getElem? (i := 25) rfl)
theorem dX1_learnRule_45 : decode cX1_learnRule 45 = .ok (.aload_n 0, 1) := daX1_learnRule_0 (45, .aload_n 0, 1) (List.mem_of_getElem? (i := 26) rfl)
theorem dX1_learnRule_46 : decode cX1_learnRule 46 = .ok (.getfield 15, 3) := daX1_learnRule_0 (46, .getfield 15, 3) (List.mem_of_getElem? (i := 27) rfl)
theorem dX1_learnRule_49 : decode cX1_learnRule 49 = .ok (.iload_n 2, 1) := daX1_learnRule_0 (49, .iload_n 2, 1) (List.mem_of_getElem? (i := 28) rfl)
theorem dX1_learnRule_50 : decode cX1_learnRule 50 = .ok (.iconst 0, 1) := daX1_learnRule_0 (50, .iconst 0, 1) (List.mem_of_getElem? (i := 29) rfl)
theorem dX1_learnRule_51 : decode cX1_learnRule 51 = .ok (.iastore, 1) := daX1_learnRule_0 (51, .iastore, 1) (List.mem_of_getElem? (i := 30) rfl)
theorem dX1_learnRule_52 : decode cX1_learnRule 52 = .ok (.aload_n 1, 1) := daX1_learnRule_0 (52, .aload_n 1, 1) (List.mem_of_getElem? (i := 31) rfl)
theorem dX1_learnRule_53 : decode cX1_learnRule 53 = .ok (.ldc 67, 2) := daX1_learnRule_0 (53, .ldc 67, 2) (List.mem_of_getElem? (i := 32) rfl)
theorem dX1_learnRule_55 : decode cX1_learnRule 55 = .ok (.invokevirtual 59, 3) := daX1_learnRule_0 (55, .invokevirtual 59, 3) (List.mem_of_getElem? (i := 33) rfl)
theorem dX1_learnRule_58 : decode cX1_learnRule 58 = .ok (.iconst (-1), 1) := daX1_learnRule_0 (58, .iconst (-1), 1) (List.mem_of_getElem? (i := 34) rfl)
theorem dX1_learnRule_59 : decode cX1_learnRule 59 = .ok (.if_icmp .eq 7, 3) := daX1_learnRule_0 (59, .if_icmp .eq 7, 3) (List.mem_of_getElem? (i := 35) rfl)
theorem dX1_learnRule_62 : decode cX1_learnRule 62 = .ok (.iconst 1, 1) := daX1_learnRule_0 (62, .iconst 1, 1) (List.mem_of_getElem? (i := 36) rfl)
theorem dX1_learnRule_63 : decode cX1_learnRule 63 = .ok (.goto 4, 3) := daX1_learnRule_0 (63, .goto 4, 3) (List.mem_of_getElem? (i := 37) rfl)
theorem dX1_learnRule_66 : decode cX1_learnRule 66 = .ok (.iconst 0, 1) := daX1_learnRule_0 (66, .iconst 0, 1) (List.mem_of_getElem? (i := 38) rfl)
theorem dX1_learnRule_67 : decode cX1_learnRule 67 = .ok (.istore 5, 2) := daX1_learnRule_0 (67, .istore 5, 2) (List.mem_of_getElem? (i := 39) rfl)
set_option maxRecDepth 20000 in
theorem daX1_learnRule_69 : ∀ x ∈ ([(69, .iconst 0, 1), (70, .istore 6, 2), (72, .iload 5, 2), (74, .ifCond .eq 61, 3), (77, .iload 6, 2), (79, .bipush 6, 2), (81, .if_icmp .gt 54, 3), (84, .aload_n 0, 1), (85, .aload_n 1, 1), (86, .iload_n 2, 1), (87, .iload 6, 2), (89, .invokevirtual 69, 3), (92, .istore 7, 2), (94, .iload 7, 2), (96, .ifCond .eq 6, 3), (99, .iload 7, 2), (101, .ireturn, 1), (102, .aload_n 0, 1), (103, .getfield 15, 3), (106, .iload_n 2, 1), (107, .dup2, 1), (108, .iaload, 1), (109, .iconst 1, 1), (110, .iadd, 1), (111, .iastore, 1), (112, .aload_n 1, 1), (113, .ldc 73, 2), (115, .invokevirtual 59, 3), (118, .iconst (-1), 1), (119, .if_icmp .eq 7, 3), (122, .iconst 1, 1), (123, .goto 4, 3), (126, .iconst 0, 1), (127, .istore 5, 2), (129, .iinc 6 1, 3), (132, .goto (-60), 3), (135, .iconst 0, 1), (136, .ireturn, 1)] : List (Nat × Instr × Nat)), decode cX1_learnRule x.1 = .ok x.2 := by decide +kernel
theorem dX1_learnRule_69 : decode cX1_learnRule 69 = .ok (.iconst 0, 1) := daX1_learnRule_69 (69, .iconst 0, 1) (List.mem_of_getElem? (i := 0) rfl)
theorem dX1_learnRule_70 : decode cX1_learnRule 70 = .ok (.istore 6, 2) := daX1_learnRule_69 (70, .istore 6, 2) (List.mem_of_getElem? (i := 1) rfl)
theorem dX1_learnRule_72 : decode cX1_learnRule 72 = .ok (.iload 5, 2) := daX1_learnRule_69 (72, .iload 5, 2) (List.mem_of_getElem? (i := 2) rfl)
theorem dX1_learnRule_74 : decode cX1_learnRule 74 = .ok (.ifCond .eq 61, 3) := daX1_learnRule_69 (74, .ifCond .eq 61, 3) (List.mem_of_getElem? (i := 3) rfl)
theorem dX1_learnRule_77 : decode cX1_learnRule 77 = .ok (.iload 6, 2) := daX1_learnRule_69 (77, .iload 6, 2) (List.mem_of_getElem? (i := 4) rfl)
theorem dX1_learnRule_79 : decode cX1_learnRule 79 = .ok (.bipush 6, 2) := daX1_learnRule_69 (79, .bipush 6, 2) (List.mem_of_getElem? (i := 5) rfl)
theorem dX1_learnRule_81 : decode cX1_learnRule 81 = .ok (.if_icmp .gt 54, 3) := daX1_learnRule_69 (81, .if_icmp .gt 54, 3) (List.mem_of_getElem? (i := 6) rfl)
theorem dX1_learnRule_84 : decode cX1_learnRule 84 = .ok (.aload_n 0, 1) := daX1_learnRule_69 (84, .aload_n 0, 1) (List.mem_of_getElem? (i := 7) rfl)
theorem dX1_learnRule_85 : decode cX1_learnRule 85 = .ok (.aload_n 1, 1) := daX1_learnRule_69 (85, .aload_n 1, 1) (List.mem_of_getElem? (i := 8) rfl)
theorem dX1_learnRule_86 : decode cX1_learnRule 86 = .ok (.iload_n 2, 1) := daX1_learnRule_69 (86, .iload_n 2, 1) (List.mem_of_getElem? (i := 9) rfl)
theorem dX1_learnRule_87 : decode cX1_learnRule 87 = .ok (.iload 6, 2) := daX1_learnRule_69 (87, .iload 6, 2) (List.mem_of_getElem? (i := 10) rfl)
theorem dX1_learnRule_89 : decode cX1_learnRule 89 = .ok (.invokevirtual 69, 3) := daX1_learnRule_69 (89, .invokevirtual 69, 3) (List.mem_of_getElem? (i := 11) rfl)
theorem dX1_learnRule_92 : decode cX1_learnRule 92 = .ok (.istore 7, 2) := daX1_learnRule_69 (92, .istore 7, 2) (List.mem_of_getElem? (i := 12) rfl)
theorem dX1_learnRule_94 : decode cX1_learnRule 94 = .ok (.iload 7, 2) := daX1_learnRule_69 (94, .iload 7, 2) (List.mem_of_getElem? (i := 13) rfl)
theorem dX1_learnRule_96 : decode cX1_learnRule 96 = .ok (.ifCond .eq 6, 3) := daX1_learnRule_69 (96, .ifCond .eq 6, 3) (List.mem_of_getElem? (i := 14) rfl)
theorem dX1_learnRule_99 : decode cX1_learnRule 99 = .ok (.iload 7, 2) := daX1_learnRule_69 (99, .iload 7, 2) (List.mem_of_getElem? (i := 15) rfl)
theorem dX1_learnRule_101 : decode cX1_learnRule 101 = .ok (.ireturn, 1) := daX1_learnRule_69 (101, .ireturn, 1) (List.mem_of_getElem? (i := 16) rfl)
theorem dX1_learnRule_102 : decode cX1_learnRule 102 = .ok (.aload_n 0, 1) := daX1_learnRule_69 (102, .aload_n 0, 1) (List.mem_of_getElem? (i := 17) rfl)
theorem dX1_learnRule_103 : decode cX1_learnRule 103 = .ok (.getfield 15, 3) := daX1_learnRule_69 (103, .getfield 15, 3) (List.mem_of_getElem? (i := 18) rfl)
theorem dX1_learnRule_106 : decode cX1_learnRule 106 = .ok (.iload_n 2, 1) := daX1_learnRule_69 (106, .iload_n 2, 1) (List.mem_of_getElem? (i := 19) rfl)
theorem dX1_learnRule_107 : decode cX1_learnRule 107 = .ok (.dup2, 1) := daX1_learnRule_69 (107, .dup2, 1) (List.mem_of_getElem? (i := 20) rfl)
theorem dX1_learnRule_108 : decode cX1_learnRule 108 = .ok (.iaload, 1) := daX1_learnRule_69 (108, .iaload, 1) (List.mem_of_getElem? (i := 21) rfl)
theorem dX1_learnRule_109 : decode cX1_learnRule 109 = .ok (.iconst 1, 1) := daX1_learnRule_69 (109, .iconst 1, 1) (List.mem_of_getElem? (i := 22) rfl)
theorem dX1_learnRule_110 : decode cX1_learnRule 110 = .ok (.iadd, 1) := daX1_learnRule_69 (110, .iadd, 1) (List.mem_of_getElem? (i := 23) rfl)
theorem dX1_learnRule_111 : decode cX1_learnRule 111 = .ok (.iastore, 1) := daX1_learnRule_69 (111, .iastore, 1) (List.mem_of_getElem? (i := 24) rfl)
theorem dX1_learnRule_112 : decode cX1_learnRule 112 = .ok (.aload_n 1, 1) := daX1_learnRule_69 (112, .aload_n 1, 1) (List.mem_of_getElem? (i := 25) rfl)
theorem dX1_learnRule_113 : decode cX1_learnRule 113 = .ok (.ldc 73, 2) := daX1_learnRule_69 (113, .ldc 73, 2) (List.mem_of_getElem? (i := 26) rfl)
theorem dX1_learnRule_115 : decode cX1_learnRule 115 = .ok (.invokevirtual 59, 3) := daX1_learnRule_69 (115, .invokevirtual 59, 3) (List.mem_of_getElem? (i := 27) rfl)
theorem dX1_learnRule_118 : decode cX1_learnRule 118 = .ok (.iconst (-1), 1) := daX1_learnRule_69 (118, .iconst (-1), 1) (List.mem_of_getElem? (i := 28) rfl)
theorem dX1_learnRule_119 : decode cX1_learnRule 119 = .ok (.if_icmp .eq 7, 3) := daX1_learnRule_69 (119, .if_icmp .eq 7, 3) (List.mem_of_getElem? (i := 29) rfl)
theorem dX1_learnRule_122 : decode cX1_learnRule 122 = .ok (.iconst 1, 1) := daX1_learnRule_69 (122, .iconst 1, 1) (List.mem_of_getElem? (i := 30) rfl)
theorem dX1_learnRule_123 : decode cX1_learnRule 123 = .ok (.goto 4, 3) := daX1_learnRule_69 (123, .goto 4, 3) (List.mem_of_getElem? (i := 31) rfl)
theorem dX1_learnRule_126 : decode cX1_learnRule 126 = .ok (.iconst 0, 1) := daX1_learnRule_69 (126, .iconst 0, 1) (List.mem_of_getElem? (i := 32) rfl)
theorem dX1_learnRule_127 : decode cX1_learnRule 127 = .ok (.istore 5, 2) := daX1_learnRule_69 (127, .istore 5, 2) (List.mem_of_getElem? (i := 33) rfl)
theorem dX1_learnRule_129 : decode cX1_learnRule 129 = .ok (.iinc 6 1, 3) := daX1_learnRule_69 (129, .iinc 6 1, 3) (List.mem_of_getElem? (i := 34) rfl)
theorem dX1_learnRule_132 : decode cX1_learnRule 132 = .ok (.goto (-60), 3) := daX1_learnRule_69 (132, .goto (-60), 3) (List.mem_of_getElem? (i := 35) rfl)
theorem dX1_learnRule_135 : decode cX1_learnRule 135 = .ok (.iconst 0, 1) := daX1_learnRule_69 (135, .iconst 0, 1) (List.mem_of_getElem? (i := 36) rfl)
theorem dX1_learnRule_136 : decode cX1_learnRule 136 = .ok (.ireturn, 1) := daX1_learnRule_69 (136, .ireturn, 1) (List.mem_of_getElem? (i := 37) rfl)
set_option maxRecDepth 20000 in
theorem ggX1_learnCond_X7_nextPlace : GoodIn wsX1_learnCond wsX7_nextPlace := goodIn_r _ [8, 9, 10, 11, 105, 106, 107] (by decide +kernel) (by decide +kernel)
set_option maxRecDepth 20000 in
theorem gX1_learnCond_X7_nextPlace : GoodIn wsX1_learnCond (wsV RX1 53 RX7 yX7_nextPlace wsX7_nextPlace) := goodIn_app (goodIn_of _ (by decide +kernel)) ggX1_learnCond_X7_nextPlace
set_option maxRecDepth 20000 in
theorem ggX1_learnCond_X7_takeWord : GoodIn wsX1_learnCond wsX7_takeWord := goodIn_r _ [15, 9, 16, 5, 6, 7, 8, 10, 11, 17, 18, 19, 20, 21, 22, 23, 24, 25, 26, 27, 28, 29, 30, 31, 32, 33, 34, 35, 36, 37, 38, 39, 40, 41, 42, 43, 44, 45, 46, 47, 48, 49, 50, 51, 52, 53, 54, 55, 56, 57, 58, 59, 60, 61, 62, 63, 64, 65, 66, 67, 68, 69, 70, 71, 72, 73, 74, 75, 76, 77, 78, 79, 80, 105, 106, 107] (by decide +kernel) (by decide +kernel)
set_option maxRecDepth 20000 in
theorem gX1_learnCond_X7_takeWord : GoodIn wsX1_learnCond (wsV RX1 59 RX7 yX7_takeWord wsX7_takeWord) := goodIn_app (goodIn_of _ (by decide +kernel)) ggX1_learnCond_X7_takeWord
set_option maxRecDepth 20000 in
theorem ggX1_learnCond_X10_faultAt : GoodIn wsX1_learnCond wsX10_faultAt := goodIn_r _ [82] (by decide +kernel) (by decide +kernel)
set_option maxRecDepth 20000 in
theorem gX1_learnCond_X10_faultAt_n63 : GoodIn wsX1_learnCond (wsX10_faultAt) := ggX1_learnCond_X10_faultAt
set_option maxRecDepth 20000 in
theorem ggX1_learnCond_X1_takeSign : GoodIn wsX1_learnCond wsX1_takeSign := goodIn_r _ [86, 87, 88, 89, 7, 90, 10, 11, 9, 16, 5, 6, 8, 105, 106, 107] (by decide +kernel) (by decide +kernel)
set_option maxRecDepth 20000 in
theorem gX1_learnCond_X1_takeSign : GoodIn wsX1_learnCond (va_wsS RX1 77 yX1_takeSign wsX1_takeSign) := goodIn_app (goodIn_of _ (by decide +kernel)) ggX1_learnCond_X1_takeSign
set_option maxRecDepth 20000 in
theorem ggX1_learnCond_X7_faultHere : GoodIn wsX1_learnCond wsX7_faultHere := goodIn_r _ [94, 16, 5, 6, 7, 8, 9, 10, 11, 81, 22, 82, 105, 106, 107] (by decide +kernel) (by decide +kernel)
set_option maxRecDepth 20000 in
theorem gX1_learnCond_X7_faultHere : GoodIn wsX1_learnCond (wsV RX1 49 RX7 yX7_faultHere wsX7_faultHere) := goodIn_app (goodIn_of _ (by decide +kernel)) ggX1_learnCond_X7_faultHere
set_option maxRecDepth 20000 in
theorem ggX1_learnCond_X7_takeNumber : GoodIn wsX1_learnCond wsX7_takeNumber := goodIn_r _ [98, 10, 11, 9, 16, 5, 6, 7, 8, 21, 22, 23, 105, 106, 107] (by decide +kernel) (by decide +kernel)
set_option maxRecDepth 20000 in
theorem gX1_learnCond_X7_takeNumber : GoodIn wsX1_learnCond (wsV RX1 81 RX7 yX7_takeNumber wsX7_takeNumber) := goodIn_app (goodIn_of _ (by decide +kernel)) ggX1_learnCond_X7_takeNumber
set_option maxRecDepth 20000 in
theorem daX1_learnCond_0 : ∀ x ∈ ([(0, .aload_n 1, 1), (1, .invokevirtual 53, 3), (4, .istore 4, 2), (6, .aload_n 1, 1), (7, .ldc 75, 2), (9, .invokevirtual 59, 3), (12, .istore 5, 2), (14, .iload 5, 2), (16, .iconst (-1), 1), (17, .if_icmp .ne 10, 3), (20, .iload 4, 2), (22, .iconst 0, 1), (23, .invokestatic 63, 3), (26, .ireturn, 1), (27, .iload_n 3, 1), (28, .bipush 6, 2), (30, .if_icmp .lt 10, 3), (33, .iload 4, 2), (35, .iconst 2, 1), (36, .invokestatic 63, 3), (39, .ireturn, 1), (40, .aload_n 1, 1), (41, .invokestatic 77, 3), (44, .istore 6, 2), (46, .iload 6, 2), (48, .bipush 32, 2), (50, .if_icmp .ne 9, 3), (53, .aload_n 1, 1), (54, .iconst 0, 1), (55, .invokevirtual 49, 3), (58, .ireturn, 1), (59, .aload_n 1, 1), (60, .bipush 6, 2), (62, .invokevirtual 81, 3), (65, .istore 7, 2), (67, .iload 7, 2), (69, .ifCond .ge 20, 3), (72, .aload_n 1, 1), (73, .iload 7, 2), (75, .bipush (-2), 2)] : List (Nat × Instr × Nat)), decode cX1_learnCond x.1 = .ok x.2 := by decide +kernel
theorem dX1_learnCond_0 : decode cX1_learnCond 0 = .ok (.aload_n 1, 1) := daX1_learnCond_0 (0, .aload_n 1, 1) (List.mem_of_getElem? (i := 0) rfl)
theorem dX1_learnCond_1 : decode cX1_learnCond 1 = .ok (.invokevirtual 53, 3) := daX1_learnCond_0 (1, .invokevirtual 53, 3) (List.mem_of_getElem? (i := 1) rfl)
theorem dX1_learnCond_4 : decode cX1_learnCond 4 = .ok (.istore 4, 2) := daX1_learnCond_0 (4, .istore 4, 2) (List.mem_of_getElem? (i := 2) rfl)
theorem dX1_learnCond_6 : decode cX1_learnCond 6 = .ok (.aload_n 1, 1) := daX1_learnCond_0 (6, .aload_n 1, 1) (List.mem_of_getElem? (i := 3) rfl)
theorem dX1_learnCond_7 : decode cX1_learnCond 7 = .ok (.ldc 75, 2) := daX1_learnCond_0 (7, .ldc 75, 2) (List.mem_of_getElem? (i := 4) rfl)
theorem dX1_learnCond_9 : decode cX1_learnCond 9 = .ok (.invokevirtual 59, 3) := daX1_learnCond_0 (9, .invokevirtual 59, 3) (List.mem_of_getElem? (i := 5) rfl)
theorem dX1_learnCond_12 : decode cX1_learnCond 12 = .ok (.istore 5, 2) := daX1_learnCond_0 (12, .istore 5, 2) (List.mem_of_getElem? (i := 6) rfl)
theorem dX1_learnCond_14 : decode cX1_learnCond 14 = .ok (.iload 5, 2) := daX1_learnCond_0 (14, .iload 5, 2) (List.mem_of_getElem? (i := 7) rfl)
theorem dX1_learnCond_16 : decode cX1_learnCond 16 = .ok (.iconst (-1), 1) := daX1_learnCond_0 (16, .iconst (-1), 1) (List.mem_of_getElem? (i := 8) rfl)
theorem dX1_learnCond_17 : decode cX1_learnCond 17 = .ok (.if_icmp .ne 10, 3) := daX1_learnCond_0 (17, .if_icmp .ne 10, 3) (List.mem_of_getElem? (i := 9) rfl)
theorem dX1_learnCond_20 : decode cX1_learnCond 20 = .ok (.iload 4, 2) := daX1_learnCond_0 (20, .iload 4, 2) (List.mem_of_getElem? (i := 10) rfl)
theorem dX1_learnCond_22 : decode cX1_learnCond 22 = .ok (.iconst 0, 1) := daX1_learnCond_0 (22, .iconst 0, 1) (List.mem_of_getElem? (i := 11) rfl)
theorem dX1_learnCond_23 : decode cX1_learnCond 23 = .ok (.invokestatic 63, 3) := daX1_learnCond_0 (23, .invokestatic 63, 3) (List.mem_of_getElem? (i := 12) rfl)
theorem dX1_learnCond_26 : decode cX1_learnCond 26 = .ok (.ireturn, 1) := daX1_learnCond_0 (26, .ireturn, 1) (List.mem_of_getElem? (i := 13) rfl)
theorem dX1_learnCond_27 : decode cX1_learnCond 27 = .ok (.iload_n 3, 1) := daX1_learnCond_0 (27, .iload_n 3, 1) (List.mem_of_getElem? (i := 14) rfl)
theorem dX1_learnCond_28 : decode cX1_learnCond 28 = .ok (.bipush 6, 2) := daX1_learnCond_0 (28, .bipush 6, 2) (List.mem_of_getElem? (i := 15) rfl)
theorem dX1_learnCond_30 : decode cX1_learnCond 30 = .ok (.if_icmp .lt 10, 3) := daX1_learnCond_0 (30, .if_icmp .lt 10, 3) (List.mem_of_getElem? (i := 16) rfl)
theorem dX1_learnCond_33 : decode cX1_learnCond 33 = .ok (.iload 4, 2) := daX1_learnCond_0 (33, .iload 4, 2) (List.mem_of_getElem? (i := 17) rfl)
theorem dX1_learnCond_35 : decode cX1_learnCond 35 = .ok (.iconst 2, 1) := daX1_learnCond_0 (35, .iconst 2, 1) (List.mem_of_getElem? (i := 18) rfl)
theorem dX1_learnCond_36 : decode cX1_learnCond 36 = .ok (.invokestatic 63, 3) := daX1_learnCond_0 (36, .invokestatic 63, 3) (List.mem_of_getElem? (i := 19) rfl)
theorem dX1_learnCond_39 : decode cX1_learnCond 39 = .ok (.ireturn, 1) := daX1_learnCond_0 (39, .ireturn, 1) (List.mem_of_getElem? (i := 20) rfl)
theorem dX1_learnCond_40 : decode cX1_learnCond 40 = .ok (.aload_n 1, 1) := daX1_learnCond_0 (40, .aload_n 1, 1) (List.mem_of_getElem? (i := 21) rfl)
theorem dX1_learnCond_41 : decode cX1_learnCond 41 = .ok (.invokestatic 77, 3) := daX1_learnCond_0 (41, .invokestatic 77, 3) (List.mem_of_getElem? (i := 22) rfl)
theorem dX1_learnCond_44 : decode cX1_learnCond 44 = .ok (.istore 6, 2) := daX1_learnCond_0 (44, .istore 6, 2) (List.mem_of_getElem? (i := 23) rfl)
theorem dX1_learnCond_46 : decode cX1_learnCond 46 = .ok (.iload 6, 2) := daX1_learnCond_0 (46, .iload 6, 2) (List.mem_of_getElem? (i := 24) rfl)
theorem dX1_learnCond_48 : decode cX1_learnCond 48 = .ok (.bipush 32, 2) := daX1_learnCond_0 (48, .bipush 32, 2) (List.mem_of_getElem? (i := 25) rfl)
theorem dX1_learnCond_50 : decode cX1_learnCond 50 = .ok (.if_icmp .ne 9, 3) := daX1_learnCond_0 (50, .if_icmp .ne 9, 3) (List.mem_of_getElem? (i := 26) rfl)
theorem dX1_learnCond_53 : decode cX1_learnCond 53 = .ok (.aload_n 1, 1) := daX1_learnCond_0 (53, .aload_n 1, 1) (List.mem_of_getElem? (i := 27) rfl)
theorem dX1_learnCond_54 : decode cX1_learnCond 54 = .ok (.iconst 0, 1) := daX1_learnCond_0 (54, .iconst 0, 1) (List.mem_of_getElem? (i := 28) rfl)
theorem dX1_learnCond_55 : decode cX1_learnCond 55 = .ok (.invokevirtual 49, 3) := daX1_learnCond_0 (55, .invokevirtual 49, 3) (List.mem_of_getElem? (i := 29) rfl)
theorem dX1_learnCond_58 : decode cX1_learnCond 58 = .ok (.ireturn, 1) := daX1_learnCond_0 (58, .ireturn, 1) (List.mem_of_getElem? (i := 30) rfl)
theorem dX1_learnCond_59 : decode cX1_learnCond 59 = .ok (.aload_n 1, 1) := daX1_learnCond_0 (59, .aload_n 1, 1) (List.mem_of_getElem? (i := 31) rfl)
theorem dX1_learnCond_60 : decode cX1_learnCond 60 = .ok (.bipush 6, 2) := daX1_learnCond_0 (60, .bipush 6, 2) (List.mem_of_getElem? (i := 32) rfl)
theorem dX1_learnCond_62 : decode cX1_learnCond 62 = .ok (.invokevirtual 81, 3) := daX1_learnCond_0 (62, .invokevirtual 81, 3) (List.mem_of_getElem? (i := 33) rfl)
theorem dX1_learnCond_65 : decode cX1_learnCond 65 = .ok (.istore 7, 2) := daX1_learnCond_0 (65, .istore 7, 2) (List.mem_of_getElem? (i := 34) rfl)
theorem dX1_learnCond_67 : decode cX1_learnCond 67 = .ok (.iload 7, 2) := daX1_learnCond_0 (67, .iload 7, 2) (List.mem_of_getElem? (i := 35) rfl)
theorem dX1_learnCond_69 : decode cX1_learnCond 69 = .ok (.ifCond .ge 20, 3) := daX1_learnCond_0 (69, .ifCond .ge 20, 3) (List.mem_of_getElem? (i := 36) rfl)
theorem dX1_learnCond_72 : decode cX1_learnCond 72 = .ok (.aload_n 1, 1) := daX1_learnCond_0 (72, .aload_n 1, 1) (List.mem_of_getElem? (i := 37) rfl)
theorem dX1_learnCond_73 : decode cX1_learnCond 73 = .ok (.iload 7, 2) := daX1_learnCond_0 (73, .iload 7, 2) (List.mem_of_getElem? (i := 38) rfl)
theorem dX1_learnCond_75 : decode cX1_learnCond 75 = .ok (.bipush (-2), 2) := daX1_learnCond_0 (75, .bipush (-2), 2) (List.mem_of_getElem? (i := 39) rfl)
set_option maxRecDepth 20000 in
theorem daX1_learnCond_77 : ∀ x ∈ ([(77, .if_icmp .ne 7, 3), (80, .iconst 1, 1), (81, .goto 4, 3), (84, .iconst 0, 1), (85, .invokevirtual 49, 3), (88, .ireturn, 1), (89, .aload_n 0, 1), (90, .getfield 18, 3), (93, .iload_n 2, 1), (94, .bipush 6, 2), (96, .imul, 1), (97, .iload_n 3, 1), (98, .iadd, 1), (99, .iload 5, 2), (101, .iastore, 1), (102, .aload_n 0, 1), (103, .getfield 21, 3), (106, .iload_n 2, 1), (107, .bipush 6, 2), (109, .imul, 1), (110, .iload_n 3, 1), (111, .iadd, 1), (112, .iload 6, 2), (114, .castore, 1), (115, .aload_n 0, 1), (116, .getfield 25, 3), (119, .iload_n 2, 1), (120, .bipush 6, 2), (122, .imul, 1), (123, .iload_n 3, 1), (124, .iadd, 1), (125, .iload 7, 2), (127, .iastore, 1), (128, .iconst 0, 1), (129, .ireturn, 1)] : List (Nat × Instr × Nat)), decode cX1_learnCond x.1 = .ok x.2 := by decide +kernel
theorem dX1_learnCond_77 : decode cX1_learnCond 77 = .ok (.if_icmp .ne 7, 3) := daX1_learnCond_77 (77, .if_icmp .ne 7, 3) (List.mem_of_getElem? (i := 0) rfl)
theorem dX1_learnCond_80 : decode cX1_learnCond 80 = .ok (.iconst 1, 1) := daX1_learnCond_77 (80, .iconst 1, 1) (List.mem_of_getElem? (i := 1) rfl)
theorem dX1_learnCond_81 : decode cX1_learnCond 81 = .ok (.goto 4, 3) := daX1_learnCond_77 (81, .goto 4, 3) (List.mem_of_getElem? (i := 2) rfl)
theorem dX1_learnCond_84 : decode cX1_learnCond 84 = .ok (.iconst 0, 1) := daX1_learnCond_77 (84, .iconst 0, 1) (List.mem_of_getElem? (i := 3) rfl)
theorem dX1_learnCond_85 : decode cX1_learnCond 85 = .ok (.invokevirtual 49, 3) := daX1_learnCond_77 (85, .invokevirtual 49, 3) (List.mem_of_getElem? (i := 4) rfl)
theorem dX1_learnCond_88 : decode cX1_learnCond 88 = .ok (.ireturn, 1) := daX1_learnCond_77 (88, .ireturn, 1) (List.mem_of_getElem? (i := 5) rfl)
theorem dX1_learnCond_89 : decode cX1_learnCond 89 = .ok (.aload_n 0, 1) := daX1_learnCond_77 (89, .aload_n 0, 1) (List.mem_of_getElem? (i := 6) rfl)
theorem dX1_learnCond_90 : decode cX1_learnCond 90 = .ok (.getfield 18, 3) := daX1_learnCond_77 (90, .getfield 18, 3) (List.mem_of_getElem? (i := 7) rfl)
theorem dX1_learnCond_93 : decode cX1_learnCond 93 = .ok (.iload_n 2, 1) := daX1_learnCond_77 (93, .iload_n 2, 1) (List.mem_of_getElem? (i := 8) rfl)
theorem dX1_learnCond_94 : decode cX1_learnCond 94 = .ok (.bipush 6, 2) := daX1_learnCond_77 (94, .bipush 6, 2) (List.mem_of_getElem? (i := 9) rfl)
theorem dX1_learnCond_96 : decode cX1_learnCond 96 = .ok (.imul, 1) := daX1_learnCond_77 (96, .imul, 1) (List.mem_of_getElem? (i := 10) rfl)
theorem dX1_learnCond_97 : decode cX1_learnCond 97 = .ok (.iload_n 3, 1) := daX1_learnCond_77 (97, .iload_n 3, 1) (List.mem_of_getElem? (i := 11) rfl)
theorem dX1_learnCond_98 : decode cX1_learnCond 98 = .ok (.iadd, 1) := daX1_learnCond_77 (98, .iadd, 1) (List.mem_of_getElem? (i := 12) rfl)
theorem dX1_learnCond_99 : decode cX1_learnCond 99 = .ok (.iload 5, 2) := daX1_learnCond_77 (99, .iload 5, 2) (List.mem_of_getElem? (i := 13) rfl)
theorem dX1_learnCond_101 : decode cX1_learnCond 101 = .ok (.iastore, 1) := daX1_learnCond_77 (101, .iastore, 1) (List.mem_of_getElem? (i := 14) rfl)
theorem dX1_learnCond_102 : decode cX1_learnCond 102 = .ok (.aload_n 0, 1) := daX1_learnCond_77 (102, .aload_n 0, 1) (List.mem_of_getElem? (i := 15) rfl)
theorem dX1_learnCond_103 : decode cX1_learnCond 103 = .ok (.getfield 21, 3) := daX1_learnCond_77 (103, .getfield 21, 3) (List.mem_of_getElem? (i := 16) rfl)
theorem dX1_learnCond_106 : decode cX1_learnCond 106 = .ok (.iload_n 2, 1) := daX1_learnCond_77 (106, .iload_n 2, 1) (List.mem_of_getElem? (i := 17) rfl)
theorem dX1_learnCond_107 : decode cX1_learnCond 107 = .ok (.bipush 6, 2) := daX1_learnCond_77 (107, .bipush 6, 2) (List.mem_of_getElem? (i := 18) rfl)
theorem dX1_learnCond_109 : decode cX1_learnCond 109 = .ok (.imul, 1) := daX1_learnCond_77 (109, .imul, 1) (List.mem_of_getElem? (i := 19) rfl)
theorem dX1_learnCond_110 : decode cX1_learnCond 110 = .ok (.iload_n 3, 1) := daX1_learnCond_77 (110, .iload_n 3, 1) (List.mem_of_getElem? (i := 20) rfl)
theorem dX1_learnCond_111 : decode cX1_learnCond 111 = .ok (.iadd, 1) := daX1_learnCond_77 (111, .iadd, 1) (List.mem_of_getElem? (i := 21) rfl)
theorem dX1_learnCond_112 : decode cX1_learnCond 112 = .ok (.iload 6, 2) := daX1_learnCond_77 (112, .iload 6, 2) (List.mem_of_getElem? (i := 22) rfl)
theorem dX1_learnCond_114 : decode cX1_learnCond 114 = .ok (.castore, 1) := daX1_learnCond_77 (114, .castore, 1) (List.mem_of_getElem? (i := 23) rfl)
theorem dX1_learnCond_115 : decode cX1_learnCond 115 = .ok (.aload_n 0, 1) := daX1_learnCond_77 (115, .aload_n 0, 1) (List.mem_of_getElem? (i := 24) rfl)
theorem dX1_learnCond_116 : decode cX1_learnCond 116 = .ok (.getfield 25, 3) := daX1_learnCond_77 (116, .getfield 25, 3) (List.mem_of_getElem? (i := 25) rfl)
theorem dX1_learnCond_119 : decode cX1_learnCond 119 = .ok (.iload_n 2, 1) := daX1_learnCond_77 (119, .iload_n 2, 1) (List.mem_of_getElem? (i := 26) rfl)
theorem dX1_learnCond_120 : decode cX1_learnCond 120 = .ok (.bipush 6, 2) := daX1_learnCond_77 (120, .bipush 6, 2) (List.mem_of_getElem? (i := 27) rfl)
theorem dX1_learnCond_122 : decode cX1_learnCond 122 = .ok (.imul, 1) := daX1_learnCond_77 (122, .imul, 1) (List.mem_of_getElem? (i := 28) rfl)
theorem dX1_learnCond_123 : decode cX1_learnCond 123 = .ok (.iload_n 3, 1) := daX1_learnCond_77 (123, .iload_n 3, 1) (List.mem_of_getElem? (i := 29) rfl)
theorem dX1_learnCond_124 : decode cX1_learnCond 124 = .ok (.iadd, 1) := daX1_learnCond_77 (124, .iadd, 1) (List.mem_of_getElem? (i := 30) rfl)
theorem dX1_learnCond_125 : decode cX1_learnCond 125 = .ok (.iload 7, 2) := daX1_learnCond_77 (125, .iload 7, 2) (List.mem_of_getElem? (i := 31) rfl)
theorem dX1_learnCond_127 : decode cX1_learnCond 127 = .ok (.iastore, 1) := daX1_learnCond_77 (127, .iastore, 1) (List.mem_of_getElem? (i := 32) rfl)
theorem dX1_learnCond_128 : decode cX1_learnCond 128 = .ok (.iconst 0, 1) := daX1_learnCond_77 (128, .iconst 0, 1) (List.mem_of_getElem? (i := 33) rfl)
theorem dX1_learnCond_129 : decode cX1_learnCond 129 = .ok (.ireturn, 1) := daX1_learnCond_77 (129, .ireturn, 1) (List.mem_of_getElem? (i := 34) rfl)
set_option maxRecDepth 20000 in
theorem ggX1_takeSign_X7_takes : GoodIn wsX1_takeSign wsX7_takes := goodIn_r _ [5, 6, 7, 8, 9, 10, 11, 4, 12, 13, 14, 15] (by decide +kernel) (by decide +kernel)
set_option maxRecDepth 20000 in
theorem gX1_takeSign_X7_takes : GoodIn wsX1_takeSign (wsV RX1 45 RX7 yX7_takes wsX7_takes) := goodIn_app (goodIn_of _ (by decide +kernel)) ggX1_takeSign_X7_takes
set_option maxRecDepth 20000 in
theorem daX1_takeSign_0 : ∀ x ∈ ([(0, .aload_n 0, 1), (1, .bipush 60, 2), (3, .invokevirtual 45, 3), (6, .ifCond .eq 6, 3), (9, .bipush 60, 2), (11, .ireturn, 1), (12, .aload_n 0, 1), (13, .bipush 62, 2), (15, .invokevirtual 45, 3), (18, .ifCond .eq 6, 3), (21, .bipush 62, 2), (23, .ireturn, 1), (24, .aload_n 0, 1), (25, .bipush 61, 2), (27, .invokevirtual 45, 3), (30, .ifCond .eq 8, 3), (33, .bipush 61, 2), (35, .goto 5, 3), (38, .bipush 32, 2), (40, .ireturn, 1)] : List (Nat × Instr × Nat)), decode cX1_takeSign x.1 = .ok x.2 := by decide +kernel
theorem dX1_takeSign_0 : decode cX1_takeSign 0 = .ok (.aload_n 0, 1) := daX1_takeSign_0 (0, .aload_n 0, 1) (List.mem_of_getElem? (i := 0) rfl)
theorem dX1_takeSign_1 : decode cX1_takeSign 1 = .ok (.bipush 60, 2) := daX1_takeSign_0 (1, .bipush 60, 2) (List.mem_of_getElem? (i := 1) rfl)
theorem dX1_takeSign_3 : decode cX1_takeSign 3 = .ok (.invokevirtual 45, 3) := daX1_takeSign_0 (3, .invokevirtual 45, 3) (List.mem_of_getElem? (i := 2) rfl)
theorem dX1_takeSign_6 : decode cX1_takeSign 6 = .ok (.ifCond .eq 6, 3) := daX1_takeSign_0 (6, .ifCond .eq 6, 3) (List.mem_of_getElem? (i := 3) rfl)
theorem dX1_takeSign_9 : decode cX1_takeSign 9 = .ok (.bipush 60, 2) := daX1_takeSign_0 (9, .bipush 60, 2) (List.mem_of_getElem? (i := 4) rfl)
theorem dX1_takeSign_11 : decode cX1_takeSign 11 = .ok (.ireturn, 1) := daX1_takeSign_0 (11, .ireturn, 1) (List.mem_of_getElem? (i := 5) rfl)
theorem dX1_takeSign_12 : decode cX1_takeSign 12 = .ok (.aload_n 0, 1) := daX1_takeSign_0 (12, .aload_n 0, 1) (List.mem_of_getElem? (i := 6) rfl)
theorem dX1_takeSign_13 : decode cX1_takeSign 13 = .ok (.bipush 62, 2) := daX1_takeSign_0 (13, .bipush 62, 2) (List.mem_of_getElem? (i := 7) rfl)
theorem dX1_takeSign_15 : decode cX1_takeSign 15 = .ok (.invokevirtual 45, 3) := daX1_takeSign_0 (15, .invokevirtual 45, 3) (List.mem_of_getElem? (i := 8) rfl)
theorem dX1_takeSign_18 : decode cX1_takeSign 18 = .ok (.ifCond .eq 6, 3) := daX1_takeSign_0 (18, .ifCond .eq 6, 3) (List.mem_of_getElem? (i := 9) rfl)
theorem dX1_takeSign_21 : decode cX1_takeSign 21 = .ok (.bipush 62, 2) := daX1_takeSign_0 (21, .bipush 62, 2) (List.mem_of_getElem? (i := 10) rfl)
theorem dX1_takeSign_23 : decode cX1_takeSign 23 = .ok (.ireturn, 1) := daX1_takeSign_0 (23, .ireturn, 1) (List.mem_of_getElem? (i := 11) rfl)
theorem dX1_takeSign_24 : decode cX1_takeSign 24 = .ok (.aload_n 0, 1) := daX1_takeSign_0 (24, .aload_n 0, 1) (List.mem_of_getElem? (i := 12) rfl)
theorem dX1_takeSign_25 : decode cX1_takeSign 25 = .ok (.bipush 61, 2) := daX1_takeSign_0 (25, .bipush 61, 2) (List.mem_of_getElem? (i := 13) rfl)
theorem dX1_takeSign_27 : decode cX1_takeSign 27 = .ok (.invokevirtual 45, 3) := daX1_takeSign_0 (27, .invokevirtual 45, 3) (List.mem_of_getElem? (i := 14) rfl)
theorem dX1_takeSign_30 : decode cX1_takeSign 30 = .ok (.ifCond .eq 8, 3) := daX1_takeSign_0 (30, .ifCond .eq 8, 3) (List.mem_of_getElem? (i := 15) rfl)
theorem dX1_takeSign_33 : decode cX1_takeSign 33 = .ok (.bipush 61, 2) := daX1_takeSign_0 (33, .bipush 61, 2) (List.mem_of_getElem? (i := 16) rfl)
theorem dX1_takeSign_35 : decode cX1_takeSign 35 = .ok (.goto 5, 3) := daX1_takeSign_0 (35, .goto 5, 3) (List.mem_of_getElem? (i := 17) rfl)
theorem dX1_takeSign_38 : decode cX1_takeSign 38 = .ok (.bipush 32, 2) := daX1_takeSign_0 (38, .bipush 32, 2) (List.mem_of_getElem? (i := 18) rfl)
theorem dX1_takeSign_40 : decode cX1_takeSign 40 = .ok (.ireturn, 1) := daX1_takeSign_0 (40, .ireturn, 1) (List.mem_of_getElem? (i := 19) rfl)
set_option maxRecDepth 20000 in
theorem ggX1_firstRuleFor_X1_isMet : GoodIn wsX1_firstRuleFor wsX1_isMet := goodIn_r _ [6, 7, 8, 9, 10, 11, 12, 5, 13, 14, 15, 16, 17, 18, 19] (by decide +kernel) (by decide +kernel)
set_option maxRecDepth 20000 in
theorem gX1_firstRuleFor_X1_isMet : GoodIn wsX1_firstRuleFor (wsV RX1 84 RX1 yX1_isMet wsX1_isMet) := goodIn_app (goodIn_of _ (by decide +kernel)) ggX1_firstRuleFor_X1_isMet
set_option maxRecDepth 20000 in
theorem daX1_firstRuleFor_0 : ∀ x ∈ ([(0, .iconst 0, 1), (1, .istore_n 2, 1), (2, .iload_n 2, 1), (3, .aload_n 0, 1), (4, .getfield 28, 3), (7, .if_icmp .ge 20, 3), (10, .aload_n 0, 1), (11, .iload_n 2, 1), (12, .aload_n 1, 1), (13, .invokevirtual 84, 3), (16, .ifCond .eq 5, 3), (19, .iload_n 2, 1), (20, .ireturn, 1), (21, .iinc 2 1, 3), (24, .goto (-22), 3), (27, .iconst (-1), 1), (28, .ireturn, 1)] : List (Nat × Instr × Nat)), decode cX1_firstRuleFor x.1 = .ok x.2 := by decide +kernel
theorem dX1_firstRuleFor_0 : decode cX1_firstRuleFor 0 = .ok (.iconst 0, 1) := daX1_firstRuleFor_0 (0, .iconst 0, 1) (List.mem_of_getElem? (i := 0) rfl)
theorem dX1_firstRuleFor_1 : decode cX1_firstRuleFor 1 = .ok (.istore_n 2, 1) := daX1_firstRuleFor_0 (1, .istore_n 2, 1) (List.mem_of_getElem? (i := 1) rfl)
theorem dX1_firstRuleFor_2 : decode cX1_firstRuleFor 2 = .ok (.iload_n 2, 1) := daX1_firstRuleFor_0 (2, .iload_n 2, 1) (List.mem_of_getElem? (i := 2) rfl)
theorem dX1_firstRuleFor_3 : decode cX1_firstRuleFor 3 = .ok (.aload_n 0, 1) := daX1_firstRuleFor_0 (3, .aload_n 0, 1) (List.mem_of_getElem? (i := 3) rfl)
theorem dX1_firstRuleFor_4 : decode cX1_firstRuleFor 4 = .ok (.getfield 28, 3) := daX1_firstRuleFor_0 (4, .getfield 28, 3) (List.mem_of_getElem? (i := 4) rfl)
theorem dX1_firstRuleFor_7 : decode cX1_firstRuleFor 7 = .ok (.if_icmp .ge 20, 3) := daX1_firstRuleFor_0 (7, .if_icmp .ge 20, 3) (List.mem_of_getElem? (i := 5) rfl)
theorem dX1_firstRuleFor_10 : decode cX1_firstRuleFor 10 = .ok (.aload_n 0, 1) := daX1_firstRuleFor_0 (10, .aload_n 0, 1) (List.mem_of_getElem? (i := 6) rfl)
theorem dX1_firstRuleFor_11 : decode cX1_firstRuleFor 11 = .ok (.iload_n 2, 1) := daX1_firstRuleFor_0 (11, .iload_n 2, 1) (List.mem_of_getElem? (i := 7) rfl)
theorem dX1_firstRuleFor_12 : decode cX1_firstRuleFor 12 = .ok (.aload_n 1, 1) := daX1_firstRuleFor_0 (12, .aload_n 1, 1) (List.mem_of_getElem? (i := 8) rfl)
theorem dX1_firstRuleFor_13 : decode cX1_firstRuleFor 13 = .ok (.invokevirtual 84, 3) := daX1_firstRuleFor_0 (13, .invokevirtual 84, 3) (List.mem_of_getElem? (i := 9) rfl)
theorem dX1_firstRuleFor_16 : decode cX1_firstRuleFor 16 = .ok (.ifCond .eq 5, 3) := daX1_firstRuleFor_0 (16, .ifCond .eq 5, 3) (List.mem_of_getElem? (i := 10) rfl)
theorem dX1_firstRuleFor_19 : decode cX1_firstRuleFor 19 = .ok (.iload_n 2, 1) := daX1_firstRuleFor_0 (19, .iload_n 2, 1) (List.mem_of_getElem? (i := 11) rfl)
theorem dX1_firstRuleFor_20 : decode cX1_firstRuleFor 20 = .ok (.ireturn, 1) := daX1_firstRuleFor_0 (20, .ireturn, 1) (List.mem_of_getElem? (i := 12) rfl)
theorem dX1_firstRuleFor_21 : decode cX1_firstRuleFor 21 = .ok (.iinc 2 1, 3) := daX1_firstRuleFor_0 (21, .iinc 2 1, 3) (List.mem_of_getElem? (i := 13) rfl)
theorem dX1_firstRuleFor_24 : decode cX1_firstRuleFor 24 = .ok (.goto (-22), 3) := daX1_firstRuleFor_0 (24, .goto (-22), 3) (List.mem_of_getElem? (i := 14) rfl)
theorem dX1_firstRuleFor_27 : decode cX1_firstRuleFor 27 = .ok (.iconst (-1), 1) := daX1_firstRuleFor_0 (27, .iconst (-1), 1) (List.mem_of_getElem? (i := 15) rfl)
theorem dX1_firstRuleFor_28 : decode cX1_firstRuleFor 28 = .ok (.ireturn, 1) := daX1_firstRuleFor_0 (28, .ireturn, 1) (List.mem_of_getElem? (i := 16) rfl)
set_option maxRecDepth 20000 in
theorem daX1_deedOf_0 : ∀ x ∈ ([(0, .iload_n 1, 1), (1, .ifCond .lt 20, 3), (4, .iload_n 1, 1), (5, .aload_n 0, 1), (6, .getfield 28, 3), (9, .if_icmp .ge 12, 3), (12, .aload_n 0, 1), (13, .getfield 9, 3), (16, .iload_n 1, 1), (17, .iaload, 1), (18, .goto 4, 3), (21, .iconst 1, 1), (22, .ireturn, 1)] : List (Nat × Instr × Nat)), decode cX1_deedOf x.1 = .ok x.2 := by decide +kernel
theorem dX1_deedOf_0 : decode cX1_deedOf 0 = .ok (.iload_n 1, 1) := daX1_deedOf_0 (0, .iload_n 1, 1) (List.mem_of_getElem? (i := 0) rfl)
theorem dX1_deedOf_1 : decode cX1_deedOf 1 = .ok (.ifCond .lt 20, 3) := daX1_deedOf_0 (1, .ifCond .lt 20, 3) (List.mem_of_getElem? (i := 1) rfl)
theorem dX1_deedOf_4 : decode cX1_deedOf 4 = .ok (.iload_n 1, 1) := daX1_deedOf_0 (4, .iload_n 1, 1) (List.mem_of_getElem? (i := 2) rfl)
theorem dX1_deedOf_5 : decode cX1_deedOf 5 = .ok (.aload_n 0, 1) := daX1_deedOf_0 (5, .aload_n 0, 1) (List.mem_of_getElem? (i := 3) rfl)
theorem dX1_deedOf_6 : decode cX1_deedOf 6 = .ok (.getfield 28, 3) := daX1_deedOf_0 (6, .getfield 28, 3) (List.mem_of_getElem? (i := 4) rfl)
theorem dX1_deedOf_9 : decode cX1_deedOf 9 = .ok (.if_icmp .ge 12, 3) := daX1_deedOf_0 (9, .if_icmp .ge 12, 3) (List.mem_of_getElem? (i := 5) rfl)
theorem dX1_deedOf_12 : decode cX1_deedOf 12 = .ok (.aload_n 0, 1) := daX1_deedOf_0 (12, .aload_n 0, 1) (List.mem_of_getElem? (i := 6) rfl)
theorem dX1_deedOf_13 : decode cX1_deedOf 13 = .ok (.getfield 9, 3) := daX1_deedOf_0 (13, .getfield 9, 3) (List.mem_of_getElem? (i := 7) rfl)
theorem dX1_deedOf_16 : decode cX1_deedOf 16 = .ok (.iload_n 1, 1) := daX1_deedOf_0 (16, .iload_n 1, 1) (List.mem_of_getElem? (i := 8) rfl)
theorem dX1_deedOf_17 : decode cX1_deedOf 17 = .ok (.iaload, 1) := daX1_deedOf_0 (17, .iaload, 1) (List.mem_of_getElem? (i := 9) rfl)
theorem dX1_deedOf_18 : decode cX1_deedOf 18 = .ok (.goto 4, 3) := daX1_deedOf_0 (18, .goto 4, 3) (List.mem_of_getElem? (i := 10) rfl)
theorem dX1_deedOf_21 : decode cX1_deedOf 21 = .ok (.iconst 1, 1) := daX1_deedOf_0 (21, .iconst 1, 1) (List.mem_of_getElem? (i := 11) rfl)
theorem dX1_deedOf_22 : decode cX1_deedOf 22 = .ok (.ireturn, 1) := daX1_deedOf_0 (22, .ireturn, 1) (List.mem_of_getElem? (i := 12) rfl)
set_option maxRecDepth 20000 in
theorem ggX1_isMet_X1_isSo : GoodIn wsX1_isMet wsX1_isSo := goodIn_r _ [8] (by decide +kernel) (by decide +kernel)
set_option maxRecDepth 20000 in
theorem gX1_isMet_X1_isSo : GoodIn wsX1_isMet (va_wsS RX1 88 yX1_isSo wsX1_isSo) := goodIn_app (goodIn_of _ (by decide +kernel)) ggX1_isMet_X1_isSo
set_option maxRecDepth 20000 in
theorem daX1_isMet_0 : ∀ x ∈ ([(0, .iload_n 1, 1), (1, .bipush 6, 2), (3, .imul, 1), (4, .istore_n 3, 1), (5, .iload_n 3, 1), (6, .istore 4, 2), (8, .iload 4, 2), (10, .iload_n 3, 1), (11, .aload_n 0, 1), (12, .getfield 15, 3), (15, .iload_n 1, 1), (16, .iaload, 1), (17, .iadd, 1), (18, .if_icmp .ge 40, 3), (21, .aload_n 2, 1), (22, .aload_n 0, 1), (23, .getfield 18, 3), (26, .iload 4, 2), (28, .iaload, 1), (29, .iaload, 1), (30, .aload_n 0, 1), (31, .getfield 21, 3), (34, .iload 4, 2), (36, .caload, 1), (37, .aload_n 0, 1), (38, .getfield 25, 3), (41, .iload 4, 2), (43, .iaload, 1), (44, .invokestatic 88, 3), (47, .ifCond .ne 5, 3), (50, .iconst 0, 1), (51, .ireturn, 1), (52, .iinc 4 1, 3), (55, .goto (-47), 3), (58, .iconst 1, 1), (59, .ireturn, 1)] : List (Nat × Instr × Nat)), decode cX1_isMet x.1 = .ok x.2 := by decide +kernel
theorem dX1_isMet_0 : decode cX1_isMet 0 = .ok (.iload_n 1, 1) := daX1_isMet_0 (0, .iload_n 1, 1) (List.mem_of_getElem? (i := 0) rfl)
theorem dX1_isMet_1 : decode cX1_isMet 1 = .ok (.bipush 6, 2) := daX1_isMet_0 (1, .bipush 6, 2) (List.mem_of_getElem? (i := 1) rfl)
theorem dX1_isMet_3 : decode cX1_isMet 3 = .ok (.imul, 1) := daX1_isMet_0 (3, .imul, 1) (List.mem_of_getElem? (i := 2) rfl)
theorem dX1_isMet_4 : decode cX1_isMet 4 = .ok (.istore_n 3, 1) := daX1_isMet_0 (4, .istore_n 3, 1) (List.mem_of_getElem? (i := 3) rfl)
theorem dX1_isMet_5 : decode cX1_isMet 5 = .ok (.iload_n 3, 1) := daX1_isMet_0 (5, .iload_n 3, 1) (List.mem_of_getElem? (i := 4) rfl)
theorem dX1_isMet_6 : decode cX1_isMet 6 = .ok (.istore 4, 2) := daX1_isMet_0 (6, .istore 4, 2) (List.mem_of_getElem? (i := 5) rfl)
theorem dX1_isMet_8 : decode cX1_isMet 8 = .ok (.iload 4, 2) := daX1_isMet_0 (8, .iload 4, 2) (List.mem_of_getElem? (i := 6) rfl)
theorem dX1_isMet_10 : decode cX1_isMet 10 = .ok (.iload_n 3, 1) := daX1_isMet_0 (10, .iload_n 3, 1) (List.mem_of_getElem? (i := 7) rfl)
theorem dX1_isMet_11 : decode cX1_isMet 11 = .ok (.aload_n 0, 1) := daX1_isMet_0 (11, .aload_n 0, 1) (List.mem_of_getElem? (i := 8) rfl)
theorem dX1_isMet_12 : decode cX1_isMet 12 = .ok (.getfield 15, 3) := daX1_isMet_0 (12, .getfield 15, 3) (List.mem_of_getElem? (i := 9) rfl)
theorem dX1_isMet_15 : decode cX1_isMet 15 = .ok (.iload_n 1, 1) := daX1_isMet_0 (15, .iload_n 1, 1) (List.mem_of_getElem? (i := 10) rfl)
theorem dX1_isMet_16 : decode cX1_isMet 16 = .ok (.iaload, 1) := daX1_isMet_0 (16, .iaload, 1) (List.mem_of_getElem? (i := 11) rfl)
theorem dX1_isMet_17 : decode cX1_isMet 17 = .ok (.iadd, 1) := daX1_isMet_0 (17, .iadd, 1) (List.mem_of_getElem? (i := 12) rfl)
theorem dX1_isMet_18 : decode cX1_isMet 18 = .ok (.if_icmp .ge 40, 3) := daX1_isMet_0 (18, .if_icmp .ge 40, 3) (List.mem_of_getElem? (i := 13) rfl)
theorem dX1_isMet_21 : decode cX1_isMet 21 = .ok (.aload_n 2, 1) := daX1_isMet_0 (21, .aload_n 2, 1) (List.mem_of_getElem? (i := 14) rfl)
theorem dX1_isMet_22 : decode cX1_isMet 22 = .ok (.aload_n 0, 1) := daX1_isMet_0 (22, .aload_n 0, 1) (List.mem_of_getElem? (i := 15) rfl)
theorem dX1_isMet_23 : decode cX1_isMet 23 = .ok (.getfield 18, 3) := daX1_isMet_0 (23, .getfield 18, 3) (List.mem_of_getElem? (i := 16) rfl)
theorem dX1_isMet_26 : decode cX1_isMet 26 = .ok (.iload 4, 2) := daX1_isMet_0 (26, .iload 4, 2) (List.mem_of_getElem? (i := 17) rfl)
theorem dX1_isMet_28 : decode cX1_isMet 28 = .ok (.iaload, 1) := daX1_isMet_0 (28, .iaload, 1) (List.mem_of_getElem? (i := 18) rfl)
theorem dX1_isMet_29 : decode cX1_isMet 29 = .ok (.iaload, 1) := daX1_isMet_0 (29, .iaload, 1) (List.mem_of_getElem? (i := 19) rfl)
theorem dX1_isMet_30 : decode cX1_isMet 30 = .ok (.aload_n 0, 1) := daX1_isMet_0 (30, .aload_n 0, 1) (List.mem_of_getElem? (i := 20) rfl)
theorem dX1_isMet_31 : decode cX1_isMet 31 = .ok (.getfield 21, 3) := daX1_isMet_0 (31, .getfield 21, 3) (List.mem_of_getElem? (i := 21) rfl)
theorem dX1_isMet_34 : decode cX1_isMet 34 = .ok (.iload 4, 2) := daX1_isMet_0 (34, .iload 4, 2) (List.mem_of_getElem? (i := 22) rfl)
theorem dX1_isMet_36 : decode cX1_isMet 36 = .ok (.caload, 1) := daX1_isMet_0 (36, .caload, 1) (List.mem_of_getElem? (i := 23) rfl)
theorem dX1_isMet_37 : decode cX1_isMet 37 = .ok (.aload_n 0, 1) := daX1_isMet_0 (37, .aload_n 0, 1) (List.mem_of_getElem? (i := 24) rfl)
theorem dX1_isMet_38 : decode cX1_isMet 38 = .ok (.getfield 25, 3) := daX1_isMet_0 (38, .getfield 25, 3) (List.mem_of_getElem? (i := 25) rfl)
theorem dX1_isMet_41 : decode cX1_isMet 41 = .ok (.iload 4, 2) := daX1_isMet_0 (41, .iload 4, 2) (List.mem_of_getElem? (i := 26) rfl)
theorem dX1_isMet_43 : decode cX1_isMet 43 = .ok (.iaload, 1) := daX1_isMet_0 (43, .iaload, 1) (List.mem_of_getElem? (i := 27) rfl)
theorem dX1_isMet_44 : decode cX1_isMet 44 = .ok (.invokestatic 88, 3) := daX1_isMet_0 (44, .invokestatic 88, 3) (List.mem_of_getElem? (i := 28) rfl)
theorem dX1_isMet_47 : decode cX1_isMet 47 = .ok (.ifCond .ne 5, 3) := daX1_isMet_0 (47, .ifCond .ne 5, 3) (List.mem_of_getElem? (i := 29) rfl)
theorem dX1_isMet_50 : decode cX1_isMet 50 = .ok (.iconst 0, 1) := daX1_isMet_0 (50, .iconst 0, 1) (List.mem_of_getElem? (i := 30) rfl)
theorem dX1_isMet_51 : decode cX1_isMet 51 = .ok (.ireturn, 1) := daX1_isMet_0 (51, .ireturn, 1) (List.mem_of_getElem? (i := 31) rfl)
theorem dX1_isMet_52 : decode cX1_isMet 52 = .ok (.iinc 4 1, 3) := daX1_isMet_0 (52, .iinc 4 1, 3) (List.mem_of_getElem? (i := 32) rfl)
theorem dX1_isMet_55 : decode cX1_isMet 55 = .ok (.goto (-47), 3) := daX1_isMet_0 (55, .goto (-47), 3) (List.mem_of_getElem? (i := 33) rfl)
theorem dX1_isMet_58 : decode cX1_isMet 58 = .ok (.iconst 1, 1) := daX1_isMet_0 (58, .iconst 1, 1) (List.mem_of_getElem? (i := 34) rfl)
theorem dX1_isMet_59 : decode cX1_isMet 59 = .ok (.ireturn, 1) := daX1_isMet_0 (59, .ireturn, 1) (List.mem_of_getElem? (i := 35) rfl)
set_option maxRecDepth 20000 in
theorem daX1_isSo_0 : ∀ x ∈ ([(0, .iload_n 1, 1), (1, .bipush 60, 2), (3, .if_icmp .ne 14, 3), (6, .iload_n 0, 1), (7, .iload_n 2, 1), (8, .if_icmp .ge 7, 3), (11, .iconst 1, 1), (12, .goto 4, 3), (15, .iconst 0, 1), (16, .ireturn, 1), (17, .iload_n 1, 1), (18, .bipush 62, 2), (20, .if_icmp .ne 16, 3), (23, .iload_n 0, 1), (24, .iload_n 2, 1), (25, .if_icmp .le 7, 3), (28, .iconst 1, 1), (29, .goto 17, 3), (32, .iconst 0, 1), (33, .goto 13, 3), (36, .iload_n 0, 1), (37, .iload_n 2, 1), (38, .if_icmp .ne 7, 3), (41, .iconst 1, 1), (42, .goto 4, 3), (45, .iconst 0, 1), (46, .ireturn, 1)] : List (Nat × Instr × Nat)), decode cX1_isSo x.1 = .ok x.2 := by decide +kernel
theorem dX1_isSo_0 : decode cX1_isSo 0 = .ok (.iload_n 1, 1) := daX1_isSo_0 (0, .iload_n 1, 1) (List.mem_of_getElem? (i := 0) rfl)
theorem dX1_isSo_1 : decode cX1_isSo 1 = .ok (.bipush 60, 2) := daX1_isSo_0 (1, .bipush 60, 2) (List.mem_of_getElem? (i := 1) rfl)
theorem dX1_isSo_3 : decode cX1_isSo 3 = .ok (.if_icmp .ne 14, 3) := daX1_isSo_0 (3, .if_icmp .ne 14, 3) (List.mem_of_getElem? (i := 2) rfl)
theorem dX1_isSo_6 : decode cX1_isSo 6 = .ok (.iload_n 0, 1) := daX1_isSo_0 (6, .iload_n 0, 1) (List.mem_of_getElem? (i := 3) rfl)
theorem dX1_isSo_7 : decode cX1_isSo 7 = .ok (.iload_n 2, 1) := daX1_isSo_0 (7, .iload_n 2, 1) (List.mem_of_getElem? (i := 4) rfl)
theorem dX1_isSo_8 : decode cX1_isSo 8 = .ok (.if_icmp .ge 7, 3) := daX1_isSo_0 (8, .if_icmp .ge 7, 3) (List.mem_of_getElem? (i := 5) rfl)
theorem dX1_isSo_11 : decode cX1_isSo 11 = .ok (.iconst 1, 1) := daX1_isSo_0 (11, .iconst 1, 1) (List.mem_of_getElem? (i := 6) rfl)
theorem dX1_isSo_12 : decode cX1_isSo 12 = .ok (.goto 4, 3) := daX1_isSo_0 (12, .goto 4, 3) (List.mem_of_getElem? (i := 7) rfl)
theorem dX1_isSo_15 : decode cX1_isSo 15 = .ok (.iconst 0, 1) := daX1_isSo_0 (15, .iconst 0, 1) (List.mem_of_getElem? (i := 8) rfl)
theorem dX1_isSo_16 : decode cX1_isSo 16 = .ok (.ireturn, 1) := daX1_isSo_0 (16, .ireturn, 1) (List.mem_of_getElem? (i := 9) rfl)
theorem dX1_isSo_17 : decode cX1_isSo 17 = .ok (.iload_n 1, 1) := daX1_isSo_0 (17, .iload_n 1, 1) (List.mem_of_getElem? (i := 10) rfl)
theorem dX1_isSo_18 : decode cX1_isSo 18 = .ok (.bipush 62, 2) := daX1_isSo_0 (18, .bipush 62, 2) (List.mem_of_getElem? (i := 11) rfl)
theorem dX1_isSo_20 : decode cX1_isSo 20 = .ok (.if_icmp .ne 16, 3) := daX1_isSo_0 (20, .if_icmp .ne 16, 3) (List.mem_of_getElem? (i := 12) rfl)
theorem dX1_isSo_23 : decode cX1_isSo 23 = .ok (.iload_n 0, 1) := daX1_isSo_0 (23, .iload_n 0, 1) (List.mem_of_getElem? (i := 13) rfl)
theorem dX1_isSo_24 : decode cX1_isSo 24 = .ok (.iload_n 2, 1) := daX1_isSo_0 (24, .iload_n 2, 1) (List.mem_of_getElem? (i := 14) rfl)
theorem dX1_isSo_25 : decode cX1_isSo 25 = .ok (.if_icmp .le 7, 3) := daX1_isSo_0 (25, .if_icmp .le 7, 3) (List.mem_of_getElem? (i := 15) rfl)
theorem dX1_isSo_28 : decode cX1_isSo 28 = .ok (.iconst 1, 1) := daX1_isSo_0 (28, .iconst 1, 1) (List.mem_of_getElem? (i := 16) rfl)
theorem dX1_isSo_29 : decode cX1_isSo 29 = .ok (.goto 17, 3) := daX1_isSo_0 (29, .goto 17, 3) (List.mem_of_getElem? (i := 17) rfl)
theorem dX1_isSo_32 : decode cX1_isSo 32 = .ok (.iconst 0, 1) := daX1_isSo_0 (32, .iconst 0, 1) (List.mem_of_getElem? (i := 18) rfl)
theorem dX1_isSo_33 : decode cX1_isSo 33 = .ok (.goto 13, 3) := daX1_isSo_0 (33, .goto 13, 3) (List.mem_of_getElem? (i := 19) rfl)
theorem dX1_isSo_36 : decode cX1_isSo 36 = .ok (.iload_n 0, 1) := daX1_isSo_0 (36, .iload_n 0, 1) (List.mem_of_getElem? (i := 20) rfl)
theorem dX1_isSo_37 : decode cX1_isSo 37 = .ok (.iload_n 2, 1) := daX1_isSo_0 (37, .iload_n 2, 1) (List.mem_of_getElem? (i := 21) rfl)
theorem dX1_isSo_38 : decode cX1_isSo 38 = .ok (.if_icmp .ne 7, 3) := daX1_isSo_0 (38, .if_icmp .ne 7, 3) (List.mem_of_getElem? (i := 22) rfl)
theorem dX1_isSo_41 : decode cX1_isSo 41 = .ok (.iconst 1, 1) := daX1_isSo_0 (41, .iconst 1, 1) (List.mem_of_getElem? (i := 23) rfl)
theorem dX1_isSo_42 : decode cX1_isSo 42 = .ok (.goto 4, 3) := daX1_isSo_0 (42, .goto 4, 3) (List.mem_of_getElem? (i := 24) rfl)
theorem dX1_isSo_45 : decode cX1_isSo 45 = .ok (.iconst 0, 1) := daX1_isSo_0 (45, .iconst 0, 1) (List.mem_of_getElem? (i := 25) rfl)
theorem dX1_isSo_46 : decode cX1_isSo 46 = .ok (.ireturn, 1) := daX1_isSo_0 (46, .ireturn, 1) (List.mem_of_getElem? (i := 26) rfl)
set_option maxRecDepth 20000 in
theorem ggX2_init_X2_forget : GoodIn wsX2_init wsX2_forget := goodIn_r _ [10, 5, 11, 12, 13, 14, 15] (by decide +kernel) (by decide +kernel)
set_option maxRecDepth 20000 in
theorem gX2_init_X2_forget : GoodIn wsX2_init (wsV RX2 15 RX2 yX2_forget wsX2_forget) := goodIn_app (goodIn_of _ (by decide +kernel)) ggX2_init_X2_forget
set_option maxRecDepth 20000 in
theorem daX2_init_0 : ∀ x ∈ ([(0, .aload_n 0, 1), (1, .invokespecial 3, 3), (4, .aload_n 0, 1), (5, .iconst 4, 1), (6, .newarray .int, 2), (8, .putfield 9, 3), (11, .aload_n 0, 1), (12, .invokevirtual 15, 3), (15, .return_, 1)] : List (Nat × Instr × Nat)), decode cX2_init x.1 = .ok x.2 := by decide +kernel
theorem dX2_init_0 : decode cX2_init 0 = .ok (.aload_n 0, 1) := daX2_init_0 (0, .aload_n 0, 1) (List.mem_of_getElem? (i := 0) rfl)
theorem dX2_init_1 : decode cX2_init 1 = .ok (.invokespecial 3, 3) := daX2_init_0 (1, .invokespecial 3, 3) (List.mem_of_getElem? (i := 1) rfl)
theorem dX2_init_4 : decode cX2_init 4 = .ok (.aload_n 0, 1) := daX2_init_0 (4, .aload_n 0, 1) (List.mem_of_getElem? (i := 2) rfl)
theorem dX2_init_5 : decode cX2_init 5 = .ok (.iconst 4, 1) := daX2_init_0 (5, .iconst 4, 1) (List.mem_of_getElem? (i := 3) rfl)
theorem dX2_init_6 : decode cX2_init 6 = .ok (.newarray .int, 2) := daX2_init_0 (6, .newarray .int, 2) (List.mem_of_getElem? (i := 4) rfl)
theorem dX2_init_8 : decode cX2_init 8 = .ok (.putfield 9, 3) := daX2_init_0 (8, .putfield 9, 3) (List.mem_of_getElem? (i := 5) rfl)
theorem dX2_init_11 : decode cX2_init 11 = .ok (.aload_n 0, 1) := daX2_init_0 (11, .aload_n 0, 1) (List.mem_of_getElem? (i := 6) rfl)
theorem dX2_init_12 : decode cX2_init 12 = .ok (.invokevirtual 15, 3) := daX2_init_0 (12, .invokevirtual 15, 3) (List.mem_of_getElem? (i := 7) rfl)
theorem dX2_init_15 : decode cX2_init 15 = .ok (.return_, 1) := daX2_init_0 (15, .return_, 1) (List.mem_of_getElem? (i := 8) rfl)
set_option maxRecDepth 20000 in
theorem daX2_forget_0 : ∀ x ∈ ([(0, .aload_n 0, 1), (1, .getfield 9, 3), (4, .iconst 0, 1), (5, .iconst 1, 1), (6, .iastore, 1), (7, .aload_n 0, 1), (8, .getfield 9, 3), (11, .iconst 1, 1), (12, .iconst 1, 1), (13, .iastore, 1), (14, .aload_n 0, 1), (15, .getfield 9, 3), (18, .iconst 2, 1), (19, .iconst 0, 1), (20, .iastore, 1), (21, .aload_n 0, 1), (22, .getfield 9, 3), (25, .iconst 3, 1), (26, .iconst 2, 1), (27, .iastore, 1), (28, .aload_n 0, 1), (29, .bipush 10, 2), (31, .putfield 18, 3), (34, .aload_n 0, 1), (35, .iconst 0, 1), (36, .putfield 22, 3), (39, .return_, 1)] : List (Nat × Instr × Nat)), decode cX2_forget x.1 = .ok x.2 := by decide +kernel
theorem dX2_forget_0 : decode cX2_forget 0 = .ok (.aload_n 0, 1) := daX2_forget_0 (0, .aload_n 0, 1) (List.mem_of_getElem? (i := 0) rfl)
theorem dX2_forget_1 : decode cX2_forget 1 = .ok (.getfield 9, 3) := daX2_forget_0 (1, .getfield 9, 3) (List.mem_of_getElem? (i := 1) rfl)
theorem dX2_forget_4 : decode cX2_forget 4 = .ok (.iconst 0, 1) := daX2_forget_0 (4, .iconst 0, 1) (List.mem_of_getElem? (i := 2) rfl)
theorem dX2_forget_5 : decode cX2_forget 5 = .ok (.iconst 1, 1) := daX2_forget_0 (5, .iconst 1, 1) (List.mem_of_getElem? (i := 3) rfl)
theorem dX2_forget_6 : decode cX2_forget 6 = .ok (.iastore, 1) := daX2_forget_0 (6, .iastore, 1) (List.mem_of_getElem? (i := 4) rfl)
theorem dX2_forget_7 : decode cX2_forget 7 = .ok (.aload_n 0, 1) := daX2_forget_0 (7, .aload_n 0, 1) (List.mem_of_getElem? (i := 5) rfl)
theorem dX2_forget_8 : decode cX2_forget 8 = .ok (.getfield 9, 3) := daX2_forget_0 (8, .getfield 9, 3) (List.mem_of_getElem? (i := 6) rfl)
theorem dX2_forget_11 : decode cX2_forget 11 = .ok (.iconst 1, 1) := daX2_forget_0 (11, .iconst 1, 1) (List.mem_of_getElem? (i := 7) rfl)
theorem dX2_forget_12 : decode cX2_forget 12 = .ok (.iconst 1, 1) := daX2_forget_0 (12, .iconst 1, 1) (List.mem_of_getElem? (i := 8) rfl)
theorem dX2_forget_13 : decode cX2_forget 13 = .ok (.iastore, 1) := daX2_forget_0 (13, .iastore, 1) (List.mem_of_getElem? (i := 9) rfl)
theorem dX2_forget_14 : decode cX2_forget 14 = .ok (.aload_n 0, 1) := daX2_forget_0 (14, .aload_n 0, 1) (List.mem_of_getElem? (i := 10) rfl)
theorem dX2_forget_15 : decode cX2_forget 15 = .ok (.getfield 9, 3) := daX2_forget_0 (15, .getfield 9, 3) (List.mem_of_getElem? (i := 11) rfl)
theorem dX2_forget_18 : decode cX2_forget 18 = .ok (.iconst 2, 1) := daX2_forget_0 (18, .iconst 2, 1) (List.mem_of_getElem? (i := 12) rfl)
theorem dX2_forget_19 : decode cX2_forget 19 = .ok (.iconst 0, 1) := daX2_forget_0 (19, .iconst 0, 1) (List.mem_of_getElem? (i := 13) rfl)
theorem dX2_forget_20 : decode cX2_forget 20 = .ok (.iastore, 1) := daX2_forget_0 (20, .iastore, 1) (List.mem_of_getElem? (i := 14) rfl)
theorem dX2_forget_21 : decode cX2_forget 21 = .ok (.aload_n 0, 1) := daX2_forget_0 (21, .aload_n 0, 1) (List.mem_of_getElem? (i := 15) rfl)
theorem dX2_forget_22 : decode cX2_forget 22 = .ok (.getfield 9, 3) := daX2_forget_0 (22, .getfield 9, 3) (List.mem_of_getElem? (i := 16) rfl)
theorem dX2_forget_25 : decode cX2_forget 25 = .ok (.iconst 3, 1) := daX2_forget_0 (25, .iconst 3, 1) (List.mem_of_getElem? (i := 17) rfl)
theorem dX2_forget_26 : decode cX2_forget 26 = .ok (.iconst 2, 1) := daX2_forget_0 (26, .iconst 2, 1) (List.mem_of_getElem? (i := 18) rfl)
theorem dX2_forget_27 : decode cX2_forget 27 = .ok (.iastore, 1) := daX2_forget_0 (27, .iastore, 1) (List.mem_of_getElem? (i := 19) rfl)
theorem dX2_forget_28 : decode cX2_forget 28 = .ok (.aload_n 0, 1) := daX2_forget_0 (28, .aload_n 0, 1) (List.mem_of_getElem? (i := 20) rfl)
theorem dX2_forget_29 : decode cX2_forget 29 = .ok (.bipush 10, 2) := daX2_forget_0 (29, .bipush 10, 2) (List.mem_of_getElem? (i := 21) rfl)
theorem dX2_forget_31 : decode cX2_forget 31 = .ok (.putfield 18, 3) := daX2_forget_0 (31, .putfield 18, 3) (List.mem_of_getElem? (i := 22) rfl)
theorem dX2_forget_34 : decode cX2_forget 34 = .ok (.aload_n 0, 1) := daX2_forget_0 (34, .aload_n 0, 1) (List.mem_of_getElem? (i := 23) rfl)
theorem dX2_forget_35 : decode cX2_forget 35 = .ok (.iconst 0, 1) := daX2_forget_0 (35, .iconst 0, 1) (List.mem_of_getElem? (i := 24) rfl)
theorem dX2_forget_36 : decode cX2_forget 36 = .ok (.putfield 22, 3) := daX2_forget_0 (36, .putfield 22, 3) (List.mem_of_getElem? (i := 25) rfl)
theorem dX2_forget_39 : decode cX2_forget 39 = .ok (.return_, 1) := daX2_forget_0 (39, .return_, 1) (List.mem_of_getElem? (i := 26) rfl)
set_option maxRecDepth 20000 in
theorem ggX2_learn_X2_forget : GoodIn wsX2_learn wsX2_forget := goodIn_r _ [6, 7, 8, 9, 124, 125, 126] (by decide +kernel) (by decide +kernel)
set_option maxRecDepth 20000 in
theorem gX2_learn_X2_forget : GoodIn wsX2_learn (wsV RX2 15 RX2 yX2_forget wsX2_forget) := goodIn_app (goodIn_of _ (by decide +kernel)) ggX2_learn_X2_forget
set_option maxRecDepth 20000 in
theorem ggX2_learn_X10_faultAt : GoodIn wsX2_learn wsX10_faultAt := goodIn_r _ [12] (by decide +kernel) (by decide +kernel)
set_option maxRecDepth 20000 in
theorem gX2_learn_X10_faultAt_n30 : GoodIn wsX2_learn (wsX10_faultAt) := ggX2_learn_X10_faultAt
set_option maxRecDepth 20000 in
theorem ggX2_learn_X7_rewind : GoodIn wsX2_learn wsX7_rewind := goodIn_r _ [17, 18, 121, 122, 123] (by decide +kernel) (by decide +kernel)
set_option maxRecDepth 20000 in
theorem gX2_learn_X7_rewind : GoodIn wsX2_learn (wsV RX2 34 RX7 yX7_rewind wsX7_rewind) := goodIn_app (goodIn_of _ (by decide +kernel)) ggX2_learn_X7_rewind
set_option maxRecDepth 20000 in
theorem ggX2_learn_X7_isOver : GoodIn wsX2_learn wsX7_isOver := goodIn_r _ [22, 23, 24, 25, 26, 16, 27, 18, 28, 121, 122, 123] (by decide +kernel) (by decide +kernel)
set_option maxRecDepth 20000 in
theorem gX2_learn_X7_isOver : GoodIn wsX2_learn (wsV RX2 37 RX7 yX7_isOver wsX7_isOver) := goodIn_app (goodIn_of _ (by decide +kernel)) ggX2_learn_X7_isOver
set_option maxRecDepth 20000 in
theorem ggX2_learn_X2_learnClause : GoodIn wsX2_learn wsX2_learnClause := goodIn_r _ [32, 9, 33, 25, 26, 16, 27, 18, 23, 28, 34, 35, 36, 37, 24, 38, 39, 40, 41, 42, 11, 43, 44, 45, 46, 47, 48, 49, 50, 51, 52, 53, 54, 55, 56, 57, 58, 59, 60, 61, 62, 63, 64, 65, 66, 67, 68, 69, 70, 71, 72, 73, 74, 75, 76, 77, 78, 79, 80, 81, 82, 83, 84, 85, 86, 87, 88, 89, 90, 91, 92, 93, 94, 95, 96, 97, 98, 99, 100, 10, 12, 101, 102, 103, 5, 104, 8, 105, 106, 107, 108, 109, 110, 111, 112, 113, 114, 115, 116, 7, 124, 125, 126, 121, 122, 123] (by decide +kernel) (by decide +kernel)
set_option maxRecDepth 20000 in
theorem gX2_learn_X2_learnClause : GoodIn wsX2_learn (wsV RX2 41 RX2 yX2_learnClause wsX2_learnClause) := goodIn_app (goodIn_of _ (by decide +kernel)) ggX2_learn_X2_learnClause
set_option maxRecDepth 20000 in
theorem ggX2_learn_X7_takes : GoodIn wsX2_learn wsX7_takes := goodIn_r _ [120, 23, 28, 18, 24, 25, 26, 16, 27, 121, 122, 123] (by decide +kernel) (by decide +kernel)
set_option maxRecDepth 20000 in
theorem gX2_learn_X7_takes : GoodIn wsX2_learn (wsV RX2 45 RX7 yX7_takes wsX7_takes) := goodIn_app (goodIn_of _ (by decide +kernel)) ggX2_learn_X7_takes
set_option maxRecDepth 20000 in
theorem ggX2_learn_X7_faultHere : GoodIn wsX2_learn wsX7_faultHere := goodIn_r _ [112, 24, 25, 26, 16, 27, 18, 23, 28, 10, 11, 12, 121, 122, 123] (by decide +kernel) (by decide +kernel)
set_option maxRecDepth 20000 in
theorem gX2_learn_X7_faultHere : GoodIn wsX2_learn (wsV RX2 49 RX7 yX7_faultHere wsX7_faultHere) := goodIn_app (goodIn_of _ (by decide +kernel)) ggX2_learn_X7_faultHere
set_option maxRecDepth 20000 in
theorem daX2_learn_0 : ∀ x ∈ ([(0, .aload_n 0, 1), (1, .invokevirtual 15, 3), (4, .aload_n 1, 1), (5, .getfield 25, 3), (8, .sipush 200, 3), (11, .if_icmp .le 11, 3), (14, .sipush 200, 3), (17, .iconst 0, 1), (18, .invokestatic 30, 3), (21, .ireturn, 1), (22, .aload_n 1, 1), (23, .invokevirtual 34, 3), (26, .aload_n 1, 1), (27, .invokevirtual 37, 3), (30, .ifCond .eq 5, 3), (33, .iconst 0, 1), (34, .ireturn, 1), (35, .iconst 0, 1), (36, .istore_n 2, 1), (37, .iload_n 2, 1), (38, .iconst 5, 1), (39, .if_icmp .gt 45, 3), (42, .aload_n 0, 1), (43, .aload_n 1, 1), (44, .invokevirtual 41, 3), (47, .istore_n 3, 1), (48, .iload_n 3, 1), (49, .ifCond .eq 5, 3), (52, .iload_n 3, 1), (53, .ireturn, 1), (54, .aload_n 1, 1), (55, .invokevirtual 37, 3), (58, .ifCond .eq 5, 3), (61, .iconst 0, 1), (62, .ireturn, 1), (63, .aload_n 1, 1), (64, .bipush 59, 2), (66, .invokevirtual 45, 3), (69, .ifCond .ne 9, 3), (72, .aload_n 1, 1)] : List (Nat × Instr × Nat)), decode cX2_learn x.1 = .ok x.2 := by decide +kernel
theorem dX2_learn_0 : decode cX2_learn 0 = .ok (.aload_n 0, 1) := daX2_learn_0 (0, .aload_n 0, 1) (List.mem_of_getElem? (i := 0) rfl)
theorem dX2_learn_1 : decode cX2_learn 1 = .ok (.invokevirtual 15, 3) := daX2_learn_0 (1, .invokevirtual 15, 3) (List.mem_of_getElem? (i := 1) rfl)
theorem dX2_learn_4 : decode cX2_learn 4 = .ok (.aload_n 1, 1) := daX2_learn_0 (4, .aload_n 1, 1) (List.mem_of_getElem? (i := 2) rfl)
theorem dX2_learn_5 : decode cX2_learn 5 = .ok (.getfield 25, 3) := daX2_learn_0 (5, .getfield 25, 3) (List.mem_of_getElem? (i := 3) rfl)
theorem dX2_learn_8 : decode cX2_learn 8 = .ok (.sipush 200, 3) := daX2_learn_0 (8, .sipush 200, 3) (List.mem_of_getElem? (i := 4) rfl)
theorem dX2_learn_11 : decode cX2_learn 11 = .ok (.if_icmp .le 11, 3) := daX2_learn_0 (11, .if_icmp .le 11, 3) (List.mem_of_getElem? (i := 5) rfl)
theorem dX2_learn_14 : decode cX2_learn 14 = .ok (.sipush 200, 3) := daX2_learn_0 (14, .sipush 200, 3) (List.mem_of_getElem? (i := 6) rfl)
theorem dX2_learn_17 : decode cX2_learn 17 = .ok (.iconst 0, 1) := daX2_learn_0 (17, .iconst 0, 1) (List.mem_of_getElem? (i := 7) rfl)
theorem dX2_learn_18 : decode cX2_learn 18 = .ok (.invokestatic 30, 3) := daX2_learn_0 (18, .invokestatic 30, 3) (List.mem_of_getElem? (i := 8) rfl)
theorem dX2_learn_21 : decode cX2_learn 21 = .ok (.ireturn, 1) := daX2_learn_0 (21, .ireturn, 1) (List.mem_of_getElem? (i := 9) rfl)
theorem dX2_learn_22 : decode cX2_learn 22 = .ok (.aload_n 1, 1) := daX2_learn_0 (22, .aload_n 1, 1) (List.mem_of_getElem? (i := 10) rfl)
theorem dX2_learn_23 : decode cX2_learn 23 = .ok (.invokevirtual 34, 3) := daX2_learn_0 (23, .invokevirtual 34, 3) (List.mem_of_getElem? (i := 11) rfl)
theorem dX2_learn_26 : decode cX2_learn 26 = .ok (.aload_n 1, 1) := daX2_learn_0 (26, .aload_n 1, 1) (List.mem_of_getElem? (i := 12) rfl)
theorem dX2_learn_27 : decode cX2_learn 27 = .ok (.invokevirtual 37, 3) := daX2_learn_0 (27, .invokevirtual 37, 3) (List.mem_of_getElem? (i := 13) rfl)
theorem dX2_learn_30 : decode cX2_learn 30 = .ok (.ifCond .eq 5, 3) := daX2_learn_0 (30, .ifCond .eq 5, 3) (List.mem_of_getElem? (i := 14) rfl)
theorem dX2_learn_33 : decode cX2_learn 33 = .ok (.iconst 0, 1) := daX2_learn_0 (33, .iconst 0, 1) (List.mem_of_getElem? (i := 15) rfl)
theorem dX2_learn_34 : decode cX2_learn 34 = .ok (.ireturn, 1) := daX2_learn_0 (34, .ireturn, 1) (List.mem_of_getElem? (i := 16) rfl)
theorem dX2_learn_35 : decode cX2_learn 35 = .ok (.iconst 0, 1) := daX2_learn_0 (35, .iconst 0, 1) (List.mem_of_getElem? (i := 17) rfl)
theorem dX2_learn_36 : decode cX2_learn 36 = .ok (.istore_n 2, 1) := daX2_learn_0 (36, .istore_n 2, 1) (List.mem_of_getElem? (i := 18) rfl)
theorem dX2_learn_37 : decode cX2_learn 37 = .ok (.iload_n 2, 1) := daX2_learn_0 (37, .iload_n 2, 1) (List.mem_of_getElem? (i := 19) rfl)
theorem dX2_learn_38 : decode cX2_learn 38 = .ok (.iconst 5, 1) := daX2_learn_0 (38, .iconst 5, 1) (List.mem_of_getElem? (i := 20) rfl)
theorem dX2_learn_39 : decode cX2_learn 39 = .ok (.if_icmp .gt 45, 3) := daX2_learn_0 (39, .if_icmp .gt 45, 3) (List.mem_of_getElem? (i := 21) rfl)
theorem dX2_learn_42 : decode cX2_learn 42 = .ok (.aload_n 0, 1) := daX2_learn_0 (42, .aload_n 0, 1) (List.mem_of_getElem? (i := 22) rfl)
theorem dX2_learn_43 : decode cX2_learn 43 = .ok (.aload_n 1, 1) := daX2_learn_0 (43, .aload_n 1, 1) (List.mem_of_getElem? (i := 23) rfl)
theorem dX2_learn_44 : decode cX2_learn 44 = .ok (.invokevirtual 41, 3) := daX2_learn_0 (44, .invokevirtual 41, 3) (List.mem_of_getElem? (i := 24) rfl)
theorem dX2_learn_47 : decode cX2_learn 47 = .ok (.istore_n 3, 1) := daX2_learn_0 (47, .istore_n 3, 1) (List.mem_of_getElem? (i := 25) rfl)
theorem dX2_learn_48 : decode cX2_learn 48 = .ok (.iload_n 3, 1) := daX2_learn_0 (48, .iload_n 3, 1) (List.mem_of_getElem? (i := 26) rfl)
theorem dX2_learn_49 : decode cX2_learn 49 = .ok (.ifCond .eq 5, 3) := daX2_learn_0 (49, .ifCond .eq 5, 3) (List.mem_of_getElem? (i := 27) rfl)
theorem dX2_learn_52 : decode cX2_learn 52 = .ok (.iload_n 3, 1) := daX2_learn_0 (52, .iload_n 3, 1) (List.mem_of_getElem? (i := 28) rfl)
theorem dX2_learn_53 : decode cX2_learn 53 = .ok (.ireturn, 1) := daX2_learn_0 (53, .ireturn, 1) (List.mem_of_getElem? (i := 29) rfl)
theorem dX2_learn_54 : decode cX2_learn 54 = .ok (.aload_n 1, 1) := daX2_learn_0 (54, .aload_n 1, 1) (List.mem_of_getElem? (i := 30) rfl)
theorem dX2_learn_55 : decode cX2_learn 55 = .ok (.invokevirtual 37, 3) := daX2_learn_0 (55, .invokevirtual 37, 3) (List.mem_of_getElem? (i := 31) rfl)
theorem dX2_learn_58 : decode cX2_learn 58 = .ok (.ifCond .eq 5, 3) := daX2_learn_0 (58, .ifCond .eq 5, 3) (List.mem_of_getElem? (i := 32) rfl)
theorem dX2_learn_61 : decode cX2_learn 61 = .ok (.iconst 0, 1) := daX2_learn_0 (61, .iconst 0, 1) (List.mem_of_getElem? (i := 33) rfl)
theorem dX2_learn_62 : decode cX2_learn 62 = .ok (.ireturn, 1) := daX2_learn_0 (62, .ireturn, 1) (List.mem_of_getElem? (i := 34) rfl)
theorem dX2_learn_63 : decode cX2_learn 63 = .ok (.aload_n 1, 1) := daX2_learn_0 (63, .aload_n 1, 1) (List.mem_of_getElem? (i := 35) rfl)
theorem dX2_learn_64 : decode cX2_learn 64 = .ok (.bipush 59, 2) := daX2_learn_0 (64, .bipush 59, 2) (List.mem_of_getElem? (i := 36) rfl)
theorem dX2_learn_66 : decode cX2_learn 66 = .ok (.invokevirtual 45, 3) := daX2_learn_0 (66, .invokevirtual 45, 3) (List.mem_of_getElem? (i := 37) rfl)
theorem dX2_learn_69 : decode cX2_learn 69 = .ok (.ifCond .ne 9, 3) := daX2_learn_0 (69, .ifCond .ne 9, 3) (List.mem_of_getElem? (i := 38) rfl)
theorem dX2_learn_72 : decode cX2_learn 72 = .ok (.aload_n 1, 1) := daX2_learn_0 (72, .aload_n 1, 1) (List.mem_of_getElem? (i := 39) rfl)
set_option maxRecDepth 20000 in
theorem daX2_learn_73 : ∀ x ∈ ([(73, .iconst 0, 1), (74, .invokevirtual 49, 3), (77, .ireturn, 1), (78, .iinc 2 1, 3), (81, .goto (-44), 3), (84, .aload_n 1, 1), (85, .iconst 2, 1), (86, .invokevirtual 49, 3), (89, .ireturn, 1)] : List (Nat × Instr × Nat)), decode cX2_learn x.1 = .ok x.2 := by decide +kernel
theorem dX2_learn_73 : decode cX2_learn 73 = .ok (.iconst 0, 1) := daX2_learn_73 (73, .iconst 0, 1) (List.mem_of_getElem? (i := 0) rfl)
theorem dX2_learn_74 : decode cX2_learn 74 = .ok (.invokevirtual 49, 3) := daX2_learn_73 (74, .invokevirtual 49, 3) (List.mem_of_getElem? (i := 1) rfl)
theorem dX2_learn_77 : decode cX2_learn 77 = .ok (.ireturn, 1) := daX2_learn_73 (77, .ireturn, 1) (List.mem_of_getElem? (i := 2) rfl)
theorem dX2_learn_78 : decode cX2_learn 78 = .ok (.iinc 2 1, 3) := daX2_learn_73 (78, .iinc 2 1, 3) (List.mem_of_getElem? (i := 3) rfl)
theorem dX2_learn_81 : decode cX2_learn 81 = .ok (.goto (-44), 3) := daX2_learn_73 (81, .goto (-44), 3) (List.mem_of_getElem? (i := 4) rfl)
theorem dX2_learn_84 : decode cX2_learn 84 = .ok (.aload_n 1, 1) := daX2_learn_73 (84, .aload_n 1, 1) (List.mem_of_getElem? (i := 5) rfl)
theorem dX2_learn_85 : decode cX2_learn 85 = .ok (.iconst 2, 1) := daX2_learn_73 (85, .iconst 2, 1) (List.mem_of_getElem? (i := 6) rfl)
theorem dX2_learn_86 : decode cX2_learn 86 = .ok (.invokevirtual 49, 3) := daX2_learn_73 (86, .invokevirtual 49, 3) (List.mem_of_getElem? (i := 7) rfl)
theorem dX2_learn_89 : decode cX2_learn 89 = .ok (.ireturn, 1) := daX2_learn_73 (89, .ireturn, 1) (List.mem_of_getElem? (i := 8) rfl)
set_option maxRecDepth 20000 in
theorem ggX2_learnClause_X7_nextPlace : GoodIn wsX2_learnClause wsX7_nextPlace := goodIn_r _ [6, 7, 8, 9, 103, 104, 105] (by decide +kernel) (by decide +kernel)
set_option maxRecDepth 20000 in
theorem gX2_learnClause_X7_nextPlace : GoodIn wsX2_learnClause (wsV RX2 53 RX7 yX7_nextPlace wsX7_nextPlace) := goodIn_app (goodIn_of _ (by decide +kernel)) ggX2_learnClause_X7_nextPlace
set_option maxRecDepth 20000 in
theorem ggX2_learnClause_X7_takeWord : GoodIn wsX2_learnClause wsX7_takeWord := goodIn_r _ [13, 7, 14, 3, 4, 5, 6, 8, 9, 15, 16, 17, 18, 19, 20, 21, 22, 23, 24, 25, 26, 27, 28, 29, 30, 31, 32, 33, 34, 35, 36, 37, 38, 39, 40, 41, 42, 43, 44, 45, 46, 47, 48, 49, 50, 51, 52, 53, 54, 55, 56, 57, 58, 59, 60, 61, 62, 63, 64, 65, 66, 67, 68, 69, 70, 71, 72, 73, 74, 75, 76, 77, 78, 103, 104, 105] (by decide +kernel) (by decide +kernel)
set_option maxRecDepth 20000 in
theorem gX2_learnClause_X7_takeWord : GoodIn wsX2_learnClause (wsV RX2 59 RX7 yX7_takeWord wsX7_takeWord) := goodIn_app (goodIn_of _ (by decide +kernel)) ggX2_learnClause_X7_takeWord
set_option maxRecDepth 20000 in
theorem ggX2_learnClause_X10_faultAt : GoodIn wsX2_learnClause wsX10_faultAt := goodIn_r _ [80] (by decide +kernel) (by decide +kernel)
set_option maxRecDepth 20000 in
theorem gX2_learnClause_X10_faultAt_n30 : GoodIn wsX2_learnClause (wsX10_faultAt) := ggX2_learnClause_X10_faultAt
set_option maxRecDepth 20000 in
theorem ggX2_learnClause_X2_learnHand : GoodIn wsX2_learnClause wsX2_learnHand := goodIn_r _ [85, 86, 87, 88, 89, 5, 90, 8, 9, 7, 14, 3, 4, 6, 19, 20, 21, 91, 92, 93, 94, 79, 80, 100, 101, 102, 103, 104, 105] (by decide +kernel) (by decide +kernel)
set_option maxRecDepth 20000 in
theorem gX2_learnClause_X2_learnHand : GoodIn wsX2_learnClause (wsV RX2 63 RX2 yX2_learnHand wsX2_learnHand) := goodIn_app (goodIn_of _ (by decide +kernel)) ggX2_learnClause_X2_learnHand
set_option maxRecDepth 20000 in
theorem ggX2_learnClause_X2_learnBearer : GoodIn wsX2_learnClause wsX2_learnBearer := goodIn_r _ [98, 99, 10, 11, 12, 5, 13, 7, 14, 3, 4, 6, 8, 9, 15, 16, 17, 18, 19, 20, 21, 22, 23, 24, 25, 26, 27, 28, 29, 30, 31, 32, 33, 34, 35, 36, 37, 38, 39, 40, 41, 42, 43, 44, 45, 46, 47, 48, 49, 50, 51, 52, 53, 54, 55, 56, 57, 58, 59, 60, 61, 62, 63, 64, 65, 66, 67, 68, 69, 70, 71, 72, 73, 74, 75, 76, 77, 78, 91, 92, 93, 94, 79, 80, 100, 101, 102, 103, 104, 105] (by decide +kernel) (by decide +kernel)
set_option maxRecDepth 20000 in
theorem gX2_learnClause_X2_learnBearer : GoodIn wsX2_learnClause (wsV RX2 66 RX2 yX2_learnBearer wsX2_learnBearer) := goodIn_app (goodIn_of _ (by decide +kernel)) ggX2_learnClause_X2_learnBearer
set_option maxRecDepth 20000 in
theorem daX2_learnClause_0 : ∀ x ∈ ([(0, .aload_n 1, 1), (1, .invokevirtual 53, 3), (4, .istore_n 2, 1), (5, .aload_n 1, 1), (6, .ldc 57, 2), (8, .invokevirtual 59, 3), (11, .istore_n 3, 1), (12, .iload_n 3, 1), (13, .iconst (-1), 1), (14, .if_icmp .ne 9, 3), (17, .iload_n 2, 1), (18, .iconst 0, 1), (19, .invokestatic 30, 3), (22, .ireturn, 1), (23, .aload_n 0, 1), (24, .getfield 22, 3), (27, .iconst 1, 1), (28, .iload_n 3, 1), (29, .ishl, 1), (30, .iand, 1), (31, .ifCond .eq 9, 3), (34, .iload_n 2, 1), (35, .iconst 2, 1), (36, .invokestatic 30, 3), (39, .ireturn, 1), (40, .aload_n 0, 1), (41, .dup, 1), (42, .getfield 22, 3), (45, .iconst 1, 1), (46, .iload_n 3, 1), (47, .ishl, 1), (48, .ior, 1), (49, .putfield 22, 3), (52, .iload_n 3, 1), (53, .iconst 4, 1), (54, .if_icmp .ne 11, 3), (57, .aload_n 0, 1), (58, .aload_n 1, 1), (59, .invokevirtual 63, 3), (62, .goto 9, 3)] : List (Nat × Instr × Nat)), decode cX2_learnClause x.1 = .ok x.2 := by decide +kernel
theorem dX2_learnClause_0 : decode cX2_learnClause 0 = .ok (.aload_n 1, 1) := daX2_learnClause_0 (0, .aload_n 1, 1) (List.mem_of_getElem? (i := 0) rfl)
theorem dX2_learnClause_1 : decode cX2_learnClause 1 = .ok (.invokevirtual 53, 3) := daX2_learnClause_0 (1, .invokevirtual 53, 3) (List.mem_of_getElem? (i := 1) rfl)
theorem dX2_learnClause_4 : decode cX2_learnClause 4 = .ok (.istore_n 2, 1) := daX2_learnClause_0 (4, .istore_n 2, 1) (List.mem_of_getElem? (i := 2) rfl)
theorem dX2_learnClause_5 : decode cX2_learnClause 5 = .ok (.aload_n 1, 1) := daX2_learnClause_0 (5, .aload_n 1, 1) (List.mem_of_getElem? (i := 3) rfl)
theorem dX2_learnClause_6 : decode cX2_learnClause 6 = .ok (.ldc 57, 2) := daX2_learnClause_0 (6, .ldc 57, 2) (List.mem_of_getElem? (i := 4) rfl)
theorem dX2_learnClause_8 : decode cX2_learnClause 8 = .ok (.invokevirtual 59, 3) := daX2_learnClause_0 (8, .invokevirtual 59, 3) (List.mem_of_getElem? (i := 5) rfl)
theorem dX2_learnClause_11 : decode cX2_learnClause 11 = .ok (.istore_n 3, 1) := daX2_learnClause_0 (11, .istore_n 3, 1) (List.mem_of_getElem? (i := 6) rfl)
theorem dX2_learnClause_12 : decode cX2_learnClause 12 = .ok (.iload_n 3, 1) := daX2_learnClause_0 (12, .iload_n 3, 1) (List.mem_of_getElem? (i := 7) rfl)
theorem dX2_learnClause_13 : decode cX2_learnClause 13 = .ok (.iconst (-1), 1) := daX2_learnClause_0 (13, .iconst (-1), 1) (List.mem_of_getElem? (i := 8) rfl)
theorem dX2_learnClause_14 : decode cX2_learnClause 14 = .ok (.if_icmp .ne 9, 3) := daX2_learnClause_0 (14, .if_icmp .ne 9, 3) (List.mem_of_getElem? (i := 9) rfl)
theorem dX2_learnClause_17 : decode cX2_learnClause 17 = .ok (.iload_n 2, 1) := daX2_learnClause_0 (17, .iload_n 2, 1) (List.mem_of_getElem? (i := 10) rfl)
theorem dX2_learnClause_18 : decode cX2_learnClause 18 = .ok (.iconst 0, 1) := daX2_learnClause_0 (18, .iconst 0, 1) (List.mem_of_getElem? (i := 11) rfl)
theorem dX2_learnClause_19 : decode cX2_learnClause 19 = .ok (.invokestatic 30, 3) := daX2_learnClause_0 (19, .invokestatic 30, 3) (List.mem_of_getElem? (i := 12) rfl)
theorem dX2_learnClause_22 : decode cX2_learnClause 22 = .ok (.ireturn, 1) := daX2_learnClause_0 (22, .ireturn, 1) (List.mem_of_getElem? (i := 13) rfl)
theorem dX2_learnClause_23 : decode cX2_learnClause 23 = .ok (.aload_n 0, 1) := daX2_learnClause_0 (23, .aload_n 0, 1) (List.mem_of_getElem? (i := 14) rfl)
theorem dX2_learnClause_24 : decode cX2_learnClause 24 = .ok (.getfield 22, 3) := daX2_learnClause_0 (24, .getfield 22, 3) (List.mem_of_getElem? (i := 15) rfl)
theorem dX2_learnClause_27 : decode cX2_learnClause 27 = .ok (.iconst 1, 1) := daX2_learnClause_0 (27, .iconst 1, 1) (List.mem_of_getElem? (i := 16) rfl)
theorem dX2_learnClause_28 : decode cX2_learnClause 28 = .ok (.iload_n 3, 1) := daX2_learnClause_0 (28, .iload_n 3, 1) (List.mem_of_getElem? (i := 17) rfl)
theorem dX2_learnClause_29 : decode cX2_learnClause 29 = .ok (.ishl, 1) := daX2_learnClause_0 (29, .ishl, 1) (List.mem_of_getElem? (i := 18) rfl)
theorem dX2_learnClause_30 : decode cX2_learnClause 30 = .ok (.iand, 1) := daX2_learnClause_0 (30, .iand, 1) (List.mem_of_getElem? (i := 19) rfl)
theorem dX2_learnClause_31 : decode cX2_learnClause 31 = .ok (.ifCond .eq 9, 3) := daX2_learnClause_0 (31, .ifCond .eq 9, 3) (List.mem_of_getElem? (i := 20) rfl)
theorem dX2_learnClause_34 : decode cX2_learnClause 34 = .ok (.iload_n 2, 1) := daX2_learnClause_0 (34, .iload_n 2, 1) (List.mem_of_getElem? (i := 21) rfl)
theorem dX2_learnClause_35 : decode cX2_learnClause 35 = .ok (.iconst 2, 1) := daX2_learnClause_0 (35, .iconst 2, 1) (List.mem_of_getElem? (i := 22) rfl)
theorem dX2_learnClause_36 : decode cX2_learnClause 36 = .ok (.invokestatic 30, 3) := daX2_learnClause_0 (36, .invokestatic 30, 3) (List.mem_of_getElem? (i := 23) rfl)
theorem dX2_learnClause_39 : decode cX2_learnClause 39 = .ok (.ireturn, 1) := daX2_learnClause_0 (39, .ireturn, 1) (List.mem_of_getElem? (i := 24) rfl)
theorem dX2_learnClause_40 : decode cX2_learnClause 40 = .ok (.aload_n 0, 1) := daX2_learnClause_0 (40, .aload_n 0, 1) (List.mem_of_getElem? (i := 25) rfl)
theorem dX2_learnClause_41 : decode cX2_learnClause 41 = .ok (.dup, 1) := daX2_learnClause_0 (41, .dup, 1) (List.mem_of_getElem? (i := 26) rfl)
theorem dX2_learnClause_42 : decode cX2_learnClause 42 = .ok (.getfield 22, 3) := daX2_learnClause_0 (42, .getfield 22, 3) (List.mem_of_getElem? (i := 27) rfl)
theorem dX2_learnClause_45 : decode cX2_learnClause 45 = .ok (.iconst 1, 1) := daX2_learnClause_0 (45, .iconst 1, 1) (List.mem_of_getElem? (i := 28) rfl)
theorem dX2_learnClause_46 : decode cX2_learnClause 46 = .ok (.iload_n 3, 1) := daX2_learnClause_0 (46, .iload_n 3, 1) (List.mem_of_getElem? (i := 29) rfl)
theorem dX2_learnClause_47 : decode cX2_learnClause 47 = .ok (.ishl, 1) := daX2_learnClause_0 (47, .ishl, 1) (List.mem_of_getElem? (i := 30) rfl)
theorem dX2_learnClause_48 : decode cX2_learnClause 48 = .ok (.ior, 1) := daX2_learnClause_0 (48, .ior, 1) (List.mem_of_getElem? (i := 31) rfl)
theorem dX2_learnClause_49 : decode cX2_learnClause 49 = .ok (.putfield 22, 3) := daX2_learnClause_0 (49, .putfield 22, 3) (List.mem_of_getElem? (i := 32) rfl)
theorem dX2_learnClause_52 : decode cX2_learnClause 52 = .ok (.iload_n 3, 1) := daX2_learnClause_0 (52, .iload_n 3, 1) (List.mem_of_getElem? (i := 33) rfl)
theorem dX2_learnClause_53 : decode cX2_learnClause 53 = .ok (.iconst 4, 1) := daX2_learnClause_0 (53, .iconst 4, 1) (List.mem_of_getElem? (i := 34) rfl)
theorem dX2_learnClause_54 : decode cX2_learnClause 54 = .ok (.if_icmp .ne 11, 3) := daX2_learnClause_0 (54, .if_icmp .ne 11, 3) (List.mem_of_getElem? (i := 35) rfl)
theorem dX2_learnClause_57 : decode cX2_learnClause 57 = .ok (.aload_n 0, 1) := daX2_learnClause_0 (57, .aload_n 0, 1) (List.mem_of_getElem? (i := 36) rfl)
theorem dX2_learnClause_58 : decode cX2_learnClause 58 = .ok (.aload_n 1, 1) := daX2_learnClause_0 (58, .aload_n 1, 1) (List.mem_of_getElem? (i := 37) rfl)
theorem dX2_learnClause_59 : decode cX2_learnClause 59 = .ok (.invokevirtual 63, 3) := daX2_learnClause_0 (59, .invokevirtual 63, 3) (List.mem_of_getElem? (i := 38) rfl)
theorem dX2_learnClause_62 : decode cX2_learnClause 62 = .ok (.goto 9, 3) := daX2_learnClause_0 (62, .goto 9, 3) (List.mem_of_getElem? (i := 39) rfl)
set_option maxRecDepth 20000 in
theorem daX2_learnClause_65 : ∀ x ∈ ([(65, .aload_n 0, 1), (66, .aload_n 1, 1), (67, .iload_n 3, 1), (68, .invokevirtual 66, 3), (71, .ireturn, 1)] : List (Nat × Instr × Nat)), decode cX2_learnClause x.1 = .ok x.2 := by decide +kernel
theorem dX2_learnClause_65 : decode cX2_learnClause 65 = .ok (.aload_n 0, 1) := daX2_learnClause_65 (65, .aload_n 0, 1) (List.mem_of_getElem? (i := 0) rfl)
theorem dX2_learnClause_66 : decode cX2_learnClause 66 = .ok (.aload_n 1, 1) := daX2_learnClause_65 (66, .aload_n 1, 1) (List.mem_of_getElem? (i := 1) rfl)
theorem dX2_learnClause_67 : decode cX2_learnClause 67 = .ok (.iload_n 3, 1) := daX2_learnClause_65 (67, .iload_n 3, 1) (List.mem_of_getElem? (i := 2) rfl)
theorem dX2_learnClause_68 : decode cX2_learnClause 68 = .ok (.invokevirtual 66, 3) := daX2_learnClause_65 (68, .invokevirtual 66, 3) (List.mem_of_getElem? (i := 3) rfl)
theorem dX2_learnClause_71 : decode cX2_learnClause 71 = .ok (.ireturn, 1) := daX2_learnClause_65 (71, .ireturn, 1) (List.mem_of_getElem? (i := 4) rfl)
set_option maxRecDepth 20000 in
theorem ggX2_learnHand_X7_takeNumber : GoodIn wsX2_learnHand wsX7_takeNumber := goodIn_r _ [6, 7, 8, 9, 10, 11, 12, 5, 13, 14, 15, 16, 26, 27, 28] (by decide +kernel) (by decide +kernel)
set_option maxRecDepth 20000 in
theorem gX2_learnHand_X7_takeNumber : GoodIn wsX2_learnHand (wsV RX2 70 RX7 yX7_takeNumber wsX7_takeNumber) := goodIn_app (goodIn_of _ (by decide +kernel)) ggX2_learnHand_X7_takeNumber
set_option maxRecDepth 20000 in
theorem ggX2_learnHand_X7_faultHere : GoodIn wsX2_learnHand wsX7_faultHere := goodIn_r _ [20, 10, 11, 12, 5, 13, 9, 7, 8, 21, 15, 22, 26, 27, 28] (by decide +kernel) (by decide +kernel)
set_option maxRecDepth 20000 in
theorem gX2_learnHand_X7_faultHere : GoodIn wsX2_learnHand (wsV RX2 49 RX7 yX7_faultHere wsX7_faultHere) := goodIn_app (goodIn_of _ (by decide +kernel)) ggX2_learnHand_X7_faultHere
set_option maxRecDepth 20000 in
theorem daX2_learnHand_0 : ∀ x ∈ ([(0, .aload_n 1, 1), (1, .iconst 2, 1), (2, .invokevirtual 70, 3), (5, .istore_n 2, 1), (6, .iload_n 2, 1), (7, .ifCond .ge 19, 3), (10, .aload_n 1, 1), (11, .iload_n 2, 1), (12, .bipush (-2), 2), (14, .if_icmp .ne 7, 3), (17, .iconst 1, 1), (18, .goto 4, 3), (21, .iconst 0, 1), (22, .invokevirtual 49, 3), (25, .ireturn, 1), (26, .aload_n 0, 1), (27, .iload_n 2, 1), (28, .putfield 18, 3), (31, .iconst 0, 1), (32, .ireturn, 1)] : List (Nat × Instr × Nat)), decode cX2_learnHand x.1 = .ok x.2 := by decide +kernel
theorem dX2_learnHand_0 : decode cX2_learnHand 0 = .ok (.aload_n 1, 1) := daX2_learnHand_0 (0, .aload_n 1, 1) (List.mem_of_getElem? (i := 0) rfl)
theorem dX2_learnHand_1 : decode cX2_learnHand 1 = .ok (.iconst 2, 1) := daX2_learnHand_0 (1, .iconst 2, 1) (List.mem_of_getElem? (i := 1) rfl)
theorem dX2_learnHand_2 : decode cX2_learnHand 2 = .ok (.invokevirtual 70, 3) := daX2_learnHand_0 (2, .invokevirtual 70, 3) (List.mem_of_getElem? (i := 2) rfl)
theorem dX2_learnHand_5 : decode cX2_learnHand 5 = .ok (.istore_n 2, 1) := daX2_learnHand_0 (5, .istore_n 2, 1) (List.mem_of_getElem? (i := 3) rfl)
theorem dX2_learnHand_6 : decode cX2_learnHand 6 = .ok (.iload_n 2, 1) := daX2_learnHand_0 (6, .iload_n 2, 1) (List.mem_of_getElem? (i := 4) rfl)
theorem dX2_learnHand_7 : decode cX2_learnHand 7 = .ok (.ifCond .ge 19, 3) := daX2_learnHand_0 (7, .ifCond .ge 19, 3) (List.mem_of_getElem? (i := 5) rfl)
theorem dX2_learnHand_10 : decode cX2_learnHand 10 = .ok (.aload_n 1, 1) := daX2_learnHand_0 (10, .aload_n 1, 1) (List.mem_of_getElem? (i := 6) rfl)
theorem dX2_learnHand_11 : decode cX2_learnHand 11 = .ok (.iload_n 2, 1) := daX2_learnHand_0 (11, .iload_n 2, 1) (List.mem_of_getElem? (i := 7) rfl)
theorem dX2_learnHand_12 : decode cX2_learnHand 12 = .ok (.bipush (-2), 2) := daX2_learnHand_0 (12, .bipush (-2), 2) (List.mem_of_getElem? (i := 8) rfl)
theorem dX2_learnHand_14 : decode cX2_learnHand 14 = .ok (.if_icmp .ne 7, 3) := daX2_learnHand_0 (14, .if_icmp .ne 7, 3) (List.mem_of_getElem? (i := 9) rfl)
theorem dX2_learnHand_17 : decode cX2_learnHand 17 = .ok (.iconst 1, 1) := daX2_learnHand_0 (17, .iconst 1, 1) (List.mem_of_getElem? (i := 10) rfl)
theorem dX2_learnHand_18 : decode cX2_learnHand 18 = .ok (.goto 4, 3) := daX2_learnHand_0 (18, .goto 4, 3) (List.mem_of_getElem? (i := 11) rfl)
theorem dX2_learnHand_21 : decode cX2_learnHand 21 = .ok (.iconst 0, 1) := daX2_learnHand_0 (21, .iconst 0, 1) (List.mem_of_getElem? (i := 12) rfl)
theorem dX2_learnHand_22 : decode cX2_learnHand 22 = .ok (.invokevirtual 49, 3) := daX2_learnHand_0 (22, .invokevirtual 49, 3) (List.mem_of_getElem? (i := 13) rfl)
theorem dX2_learnHand_25 : decode cX2_learnHand 25 = .ok (.ireturn, 1) := daX2_learnHand_0 (25, .ireturn, 1) (List.mem_of_getElem? (i := 14) rfl)
theorem dX2_learnHand_26 : decode cX2_learnHand 26 = .ok (.aload_n 0, 1) := daX2_learnHand_0 (26, .aload_n 0, 1) (List.mem_of_getElem? (i := 15) rfl)
theorem dX2_learnHand_27 : decode cX2_learnHand 27 = .ok (.iload_n 2, 1) := daX2_learnHand_0 (27, .iload_n 2, 1) (List.mem_of_getElem? (i := 16) rfl)
theorem dX2_learnHand_28 : decode cX2_learnHand 28 = .ok (.putfield 18, 3) := daX2_learnHand_0 (28, .putfield 18, 3) (List.mem_of_getElem? (i := 17) rfl)
theorem dX2_learnHand_31 : decode cX2_learnHand 31 = .ok (.iconst 0, 1) := daX2_learnHand_0 (31, .iconst 0, 1) (List.mem_of_getElem? (i := 18) rfl)
theorem dX2_learnHand_32 : decode cX2_learnHand 32 = .ok (.ireturn, 1) := daX2_learnHand_0 (32, .ireturn, 1) (List.mem_of_getElem? (i := 19) rfl)
set_option maxRecDepth 20000 in
theorem ggX2_learnBearer_X7_takeWord : GoodIn wsX2_learnBearer wsX7_takeWord := goodIn_r _ [6, 7, 8, 9, 10, 5, 11, 12, 13, 14, 15, 16, 17, 18, 19, 20, 21, 22, 23, 24, 25, 26, 27, 28, 29, 30, 31, 32, 33, 34, 35, 36, 37, 38, 39, 40, 41, 42, 43, 44, 45, 46, 47, 48, 49, 50, 51, 52, 53, 54, 55, 56, 57, 58, 59, 60, 61, 62, 63, 64, 65, 66, 67, 68, 69, 70, 71, 72, 73, 74, 75, 76, 77, 87, 88, 89] (by decide +kernel) (by decide +kernel)
set_option maxRecDepth 20000 in
theorem gX2_learnBearer_X7_takeWord : GoodIn wsX2_learnBearer (wsV RX2 59 RX7 yX7_takeWord wsX7_takeWord) := goodIn_app (goodIn_of _ (by decide +kernel)) ggX2_learnBearer_X7_takeWord
set_option maxRecDepth 20000 in
theorem ggX2_learnBearer_X7_faultHere : GoodIn wsX2_learnBearer wsX7_faultHere := goodIn_r _ [81, 8, 9, 10, 5, 11, 7, 12, 13, 82, 19, 83, 87, 88, 89] (by decide +kernel) (by decide +kernel)
set_option maxRecDepth 20000 in
theorem gX2_learnBearer_X7_faultHere : GoodIn wsX2_learnBearer (wsV RX2 49 RX7 yX7_faultHere wsX7_faultHere) := goodIn_app (goodIn_of _ (by decide +kernel)) ggX2_learnBearer_X7_faultHere
set_option maxRecDepth 20000 in
theorem daX2_learnBearer_0 : ∀ x ∈ ([(0, .aload_n 1, 1), (1, .ldc 73, 2), (3, .invokevirtual 59, 3), (6, .istore_n 3, 1), (7, .iload_n 3, 1), (8, .iconst (-1), 1), (9, .if_icmp .ne 9, 3), (12, .aload_n 1, 1), (13, .iconst 0, 1), (14, .invokevirtual 49, 3), (17, .ireturn, 1), (18, .aload_n 0, 1), (19, .getfield 9, 3), (22, .iload_n 2, 1), (23, .iload_n 3, 1), (24, .iastore, 1), (25, .iconst 0, 1), (26, .ireturn, 1)] : List (Nat × Instr × Nat)), decode cX2_learnBearer x.1 = .ok x.2 := by decide +kernel
theorem dX2_learnBearer_0 : decode cX2_learnBearer 0 = .ok (.aload_n 1, 1) := daX2_learnBearer_0 (0, .aload_n 1, 1) (List.mem_of_getElem? (i := 0) rfl)
theorem dX2_learnBearer_1 : decode cX2_learnBearer 1 = .ok (.ldc 73, 2) := daX2_learnBearer_0 (1, .ldc 73, 2) (List.mem_of_getElem? (i := 1) rfl)
theorem dX2_learnBearer_3 : decode cX2_learnBearer 3 = .ok (.invokevirtual 59, 3) := daX2_learnBearer_0 (3, .invokevirtual 59, 3) (List.mem_of_getElem? (i := 2) rfl)
theorem dX2_learnBearer_6 : decode cX2_learnBearer 6 = .ok (.istore_n 3, 1) := daX2_learnBearer_0 (6, .istore_n 3, 1) (List.mem_of_getElem? (i := 3) rfl)
theorem dX2_learnBearer_7 : decode cX2_learnBearer 7 = .ok (.iload_n 3, 1) := daX2_learnBearer_0 (7, .iload_n 3, 1) (List.mem_of_getElem? (i := 4) rfl)
theorem dX2_learnBearer_8 : decode cX2_learnBearer 8 = .ok (.iconst (-1), 1) := daX2_learnBearer_0 (8, .iconst (-1), 1) (List.mem_of_getElem? (i := 5) rfl)
theorem dX2_learnBearer_9 : decode cX2_learnBearer 9 = .ok (.if_icmp .ne 9, 3) := daX2_learnBearer_0 (9, .if_icmp .ne 9, 3) (List.mem_of_getElem? (i := 6) rfl)
theorem dX2_learnBearer_12 : decode cX2_learnBearer 12 = .ok (.aload_n 1, 1) := daX2_learnBearer_0 (12, .aload_n 1, 1) (List.mem_of_getElem? (i := 7) rfl)
theorem dX2_learnBearer_13 : decode cX2_learnBearer 13 = .ok (.iconst 0, 1) := daX2_learnBearer_0 (13, .iconst 0, 1) (List.mem_of_getElem? (i := 8) rfl)
theorem dX2_learnBearer_14 : decode cX2_learnBearer 14 = .ok (.invokevirtual 49, 3) := daX2_learnBearer_0 (14, .invokevirtual 49, 3) (List.mem_of_getElem? (i := 9) rfl)
theorem dX2_learnBearer_17 : decode cX2_learnBearer 17 = .ok (.ireturn, 1) := daX2_learnBearer_0 (17, .ireturn, 1) (List.mem_of_getElem? (i := 10) rfl)
theorem dX2_learnBearer_18 : decode cX2_learnBearer 18 = .ok (.aload_n 0, 1) := daX2_learnBearer_0 (18, .aload_n 0, 1) (List.mem_of_getElem? (i := 11) rfl)
theorem dX2_learnBearer_19 : decode cX2_learnBearer 19 = .ok (.getfield 9, 3) := daX2_learnBearer_0 (19, .getfield 9, 3) (List.mem_of_getElem? (i := 12) rfl)
theorem dX2_learnBearer_22 : decode cX2_learnBearer 22 = .ok (.iload_n 2, 1) := daX2_learnBearer_0 (22, .iload_n 2, 1) (List.mem_of_getElem? (i := 13) rfl)
theorem dX2_learnBearer_23 : decode cX2_learnBearer 23 = .ok (.iload_n 3, 1) := daX2_learnBearer_0 (23, .iload_n 3, 1) (List.mem_of_getElem? (i := 14) rfl)
theorem dX2_learnBearer_24 : decode cX2_learnBearer 24 = .ok (.iastore, 1) := daX2_learnBearer_0 (24, .iastore, 1) (List.mem_of_getElem? (i := 15) rfl)
theorem dX2_learnBearer_25 : decode cX2_learnBearer 25 = .ok (.iconst 0, 1) := daX2_learnBearer_0 (25, .iconst 0, 1) (List.mem_of_getElem? (i := 16) rfl)
theorem dX2_learnBearer_26 : decode cX2_learnBearer 26 = .ok (.ireturn, 1) := daX2_learnBearer_0 (26, .ireturn, 1) (List.mem_of_getElem? (i := 17) rfl)
set_option maxRecDepth 20000 in
theorem daX2_houseShare_0 : ∀ x ∈ ([(0, .iload_n 1, 1), (1, .ifCond .ne 7, 3), (4, .iconst 0, 1), (5, .goto 11, 3), (8, .aload_n 0, 1), (9, .getfield 9, 3), (12, .iload_n 1, 1), (13, .iconst 1, 1), (14, .isub, 1), (15, .iaload, 1), (16, .istore_n 3, 1), (17, .iload_n 3, 1), (18, .iconst 2, 1), (19, .if_icmp .ne 7, 3), (22, .iload_n 2, 1), (23, .iconst 2, 1), (24, .idiv, 1), (25, .ireturn, 1), (26, .iload_n 3, 1), (27, .ifCond .ne 7, 3), (30, .iload_n 2, 1), (31, .goto 4, 3), (34, .iconst 0, 1), (35, .ireturn, 1)] : List (Nat × Instr × Nat)), decode cX2_houseShare x.1 = .ok x.2 := by decide +kernel
theorem dX2_houseShare_0 : decode cX2_houseShare 0 = .ok (.iload_n 1, 1) := daX2_houseShare_0 (0, .iload_n 1, 1) (List.mem_of_getElem? (i := 0) rfl)
theorem dX2_houseShare_1 : decode cX2_houseShare 1 = .ok (.ifCond .ne 7, 3) := daX2_houseShare_0 (1, .ifCond .ne 7, 3) (List.mem_of_getElem? (i := 1) rfl)
theorem dX2_houseShare_4 : decode cX2_houseShare 4 = .ok (.iconst 0, 1) := daX2_houseShare_0 (4, .iconst 0, 1) (List.mem_of_getElem? (i := 2) rfl)
theorem dX2_houseShare_5 : decode cX2_houseShare 5 = .ok (.goto 11, 3) := daX2_houseShare_0 (5, .goto 11, 3) (List.mem_of_getElem? (i := 3) rfl)
theorem dX2_houseShare_8 : decode cX2_houseShare 8 = .ok (.aload_n 0, 1) := daX2_houseShare_0 (8, .aload_n 0, 1) (List.mem_of_getElem? (i := 4) rfl)
theorem dX2_houseShare_9 : decode cX2_houseShare 9 = .ok (.getfield 9, 3) := daX2_houseShare_0 (9, .getfield 9, 3) (List.mem_of_getElem? (i := 5) rfl)
theorem dX2_houseShare_12 : decode cX2_houseShare 12 = .ok (.iload_n 1, 1) := daX2_houseShare_0 (12, .iload_n 1, 1) (List.mem_of_getElem? (i := 6) rfl)
theorem dX2_houseShare_13 : decode cX2_houseShare 13 = .ok (.iconst 1, 1) := daX2_houseShare_0 (13, .iconst 1, 1) (List.mem_of_getElem? (i := 7) rfl)
theorem dX2_houseShare_14 : decode cX2_houseShare 14 = .ok (.isub, 1) := daX2_houseShare_0 (14, .isub, 1) (List.mem_of_getElem? (i := 8) rfl)
theorem dX2_houseShare_15 : decode cX2_houseShare 15 = .ok (.iaload, 1) := daX2_houseShare_0 (15, .iaload, 1) (List.mem_of_getElem? (i := 9) rfl)
theorem dX2_houseShare_16 : decode cX2_houseShare 16 = .ok (.istore_n 3, 1) := daX2_houseShare_0 (16, .istore_n 3, 1) (List.mem_of_getElem? (i := 10) rfl)
theorem dX2_houseShare_17 : decode cX2_houseShare 17 = .ok (.iload_n 3, 1) := daX2_houseShare_0 (17, .iload_n 3, 1) (List.mem_of_getElem? (i := 11) rfl)
theorem dX2_houseShare_18 : decode cX2_houseShare 18 = .ok (.iconst 2, 1) := daX2_houseShare_0 (18, .iconst 2, 1) (List.mem_of_getElem? (i := 12) rfl)
theorem dX2_houseShare_19 : decode cX2_houseShare 19 = .ok (.if_icmp .ne 7, 3) := daX2_houseShare_0 (19, .if_icmp .ne 7, 3) (List.mem_of_getElem? (i := 13) rfl)
theorem dX2_houseShare_22 : decode cX2_houseShare 22 = .ok (.iload_n 2, 1) := daX2_houseShare_0 (22, .iload_n 2, 1) (List.mem_of_getElem? (i := 14) rfl)
theorem dX2_houseShare_23 : decode cX2_houseShare 23 = .ok (.iconst 2, 1) := daX2_houseShare_0 (23, .iconst 2, 1) (List.mem_of_getElem? (i := 15) rfl)
theorem dX2_houseShare_24 : decode cX2_houseShare 24 = .ok (.idiv, 1) := daX2_houseShare_0 (24, .idiv, 1) (List.mem_of_getElem? (i := 16) rfl)
theorem dX2_houseShare_25 : decode cX2_houseShare 25 = .ok (.ireturn, 1) := daX2_houseShare_0 (25, .ireturn, 1) (List.mem_of_getElem? (i := 17) rfl)
theorem dX2_houseShare_26 : decode cX2_houseShare 26 = .ok (.iload_n 3, 1) := daX2_houseShare_0 (26, .iload_n 3, 1) (List.mem_of_getElem? (i := 18) rfl)
theorem dX2_houseShare_27 : decode cX2_houseShare 27 = .ok (.ifCond .ne 7, 3) := daX2_houseShare_0 (27, .ifCond .ne 7, 3) (List.mem_of_getElem? (i := 19) rfl)
theorem dX2_houseShare_30 : decode cX2_houseShare 30 = .ok (.iload_n 2, 1) := daX2_houseShare_0 (30, .iload_n 2, 1) (List.mem_of_getElem? (i := 20) rfl)
theorem dX2_houseShare_31 : decode cX2_houseShare 31 = .ok (.goto 4, 3) := daX2_houseShare_0 (31, .goto 4, 3) (List.mem_of_getElem? (i := 21) rfl)
theorem dX2_houseShare_34 : decode cX2_houseShare 34 = .ok (.iconst 0, 1) := daX2_houseShare_0 (34, .iconst 0, 1) (List.mem_of_getElem? (i := 22) rfl)
theorem dX2_houseShare_35 : decode cX2_houseShare 35 = .ok (.ireturn, 1) := daX2_houseShare_0 (35, .ireturn, 1) (List.mem_of_getElem? (i := 23) rfl)
set_option maxRecDepth 20000 in
theorem daX3_init_0 : ∀ x ∈ ([(0, .aload_n 0, 1), (1, .invokespecial 3, 3), (4, .aload_n 0, 1), (5, .iconst 0, 1), (6, .putfield 9, 3), (9, .aload_n 0, 1), (10, .iconst 0, 1), (11, .putfield 15, 3), (14, .aload_n 0, 1), (15, .iload_n 1, 1), (16, .putfield 18, 3), (19, .aload_n 0, 1), (20, .iload_n 2, 1), (21, .putfield 21, 3), (24, .aload_n 0, 1), (25, .iload_n 3, 1), (26, .putfield 24, 3), (29, .aload_n 0, 1), (30, .iload 4, 2), (32, .putfield 27, 3), (35, .aload_n 0, 1), (36, .iload 5, 2), (38, .putfield 30, 3), (41, .return_, 1)] : List (Nat × Instr × Nat)), decode cX3_init x.1 = .ok x.2 := by decide +kernel
theorem dX3_init_0 : decode cX3_init 0 = .ok (.aload_n 0, 1) := daX3_init_0 (0, .aload_n 0, 1) (List.mem_of_getElem? (i := 0) rfl)
theorem dX3_init_1 : decode cX3_init 1 = .ok (.invokespecial 3, 3) := daX3_init_0 (1, .invokespecial 3, 3) (List.mem_of_getElem? (i := 1) rfl)
theorem dX3_init_4 : decode cX3_init 4 = .ok (.aload_n 0, 1) := daX3_init_0 (4, .aload_n 0, 1) (List.mem_of_getElem? (i := 2) rfl)
theorem dX3_init_5 : decode cX3_init 5 = .ok (.iconst 0, 1) := daX3_init_0 (5, .iconst 0, 1) (List.mem_of_getElem? (i := 3) rfl)
theorem dX3_init_6 : decode cX3_init 6 = .ok (.putfield 9, 3) := daX3_init_0 (6, .putfield 9, 3) (List.mem_of_getElem? (i := 4) rfl)
theorem dX3_init_9 : decode cX3_init 9 = .ok (.aload_n 0, 1) := daX3_init_0 (9, .aload_n 0, 1) (List.mem_of_getElem? (i := 5) rfl)
theorem dX3_init_10 : decode cX3_init 10 = .ok (.iconst 0, 1) := daX3_init_0 (10, .iconst 0, 1) (List.mem_of_getElem? (i := 6) rfl)
theorem dX3_init_11 : decode cX3_init 11 = .ok (.putfield 15, 3) := daX3_init_0 (11, .putfield 15, 3) (List.mem_of_getElem? (i := 7) rfl)
theorem dX3_init_14 : decode cX3_init 14 = .ok (.aload_n 0, 1) := daX3_init_0 (14, .aload_n 0, 1) (List.mem_of_getElem? (i := 8) rfl)
theorem dX3_init_15 : decode cX3_init 15 = .ok (.iload_n 1, 1) := daX3_init_0 (15, .iload_n 1, 1) (List.mem_of_getElem? (i := 9) rfl)
theorem dX3_init_16 : decode cX3_init 16 = .ok (.putfield 18, 3) := daX3_init_0 (16, .putfield 18, 3) (List.mem_of_getElem? (i := 10) rfl)
theorem dX3_init_19 : decode cX3_init 19 = .ok (.aload_n 0, 1) := daX3_init_0 (19, .aload_n 0, 1) (List.mem_of_getElem? (i := 11) rfl)
theorem dX3_init_20 : decode cX3_init 20 = .ok (.iload_n 2, 1) := daX3_init_0 (20, .iload_n 2, 1) (List.mem_of_getElem? (i := 12) rfl)
theorem dX3_init_21 : decode cX3_init 21 = .ok (.putfield 21, 3) := daX3_init_0 (21, .putfield 21, 3) (List.mem_of_getElem? (i := 13) rfl)
theorem dX3_init_24 : decode cX3_init 24 = .ok (.aload_n 0, 1) := daX3_init_0 (24, .aload_n 0, 1) (List.mem_of_getElem? (i := 14) rfl)
theorem dX3_init_25 : decode cX3_init 25 = .ok (.iload_n 3, 1) := daX3_init_0 (25, .iload_n 3, 1) (List.mem_of_getElem? (i := 15) rfl)
theorem dX3_init_26 : decode cX3_init 26 = .ok (.putfield 24, 3) := daX3_init_0 (26, .putfield 24, 3) (List.mem_of_getElem? (i := 16) rfl)
theorem dX3_init_29 : decode cX3_init 29 = .ok (.aload_n 0, 1) := daX3_init_0 (29, .aload_n 0, 1) (List.mem_of_getElem? (i := 17) rfl)
theorem dX3_init_30 : decode cX3_init 30 = .ok (.iload 4, 2) := daX3_init_0 (30, .iload 4, 2) (List.mem_of_getElem? (i := 18) rfl)
theorem dX3_init_32 : decode cX3_init 32 = .ok (.putfield 27, 3) := daX3_init_0 (32, .putfield 27, 3) (List.mem_of_getElem? (i := 19) rfl)
theorem dX3_init_35 : decode cX3_init 35 = .ok (.aload_n 0, 1) := daX3_init_0 (35, .aload_n 0, 1) (List.mem_of_getElem? (i := 20) rfl)
theorem dX3_init_36 : decode cX3_init 36 = .ok (.iload 5, 2) := daX3_init_0 (36, .iload 5, 2) (List.mem_of_getElem? (i := 21) rfl)
theorem dX3_init_38 : decode cX3_init 38 = .ok (.putfield 30, 3) := daX3_init_0 (38, .putfield 30, 3) (List.mem_of_getElem? (i := 22) rfl)
theorem dX3_init_41 : decode cX3_init 41 = .ok (.return_, 1) := daX3_init_0 (41, .return_, 1) (List.mem_of_getElem? (i := 23) rfl)
set_option maxRecDepth 20000 in
theorem daX3_isBook_0 : ∀ x ∈ ([(0, .aload_n 0, 1), (1, .getfield 18, 3), (4, .ifCond .le 7, 3), (7, .iconst 1, 1), (8, .goto 4, 3), (11, .iconst 0, 1), (12, .ireturn, 1)] : List (Nat × Instr × Nat)), decode cX3_isBook x.1 = .ok x.2 := by decide +kernel
theorem dX3_isBook_0 : decode cX3_isBook 0 = .ok (.aload_n 0, 1) := daX3_isBook_0 (0, .aload_n 0, 1) (List.mem_of_getElem? (i := 0) rfl)
theorem dX3_isBook_1 : decode cX3_isBook 1 = .ok (.getfield 18, 3) := daX3_isBook_0 (1, .getfield 18, 3) (List.mem_of_getElem? (i := 1) rfl)
theorem dX3_isBook_4 : decode cX3_isBook 4 = .ok (.ifCond .le 7, 3) := daX3_isBook_0 (4, .ifCond .le 7, 3) (List.mem_of_getElem? (i := 2) rfl)
theorem dX3_isBook_7 : decode cX3_isBook 7 = .ok (.iconst 1, 1) := daX3_isBook_0 (7, .iconst 1, 1) (List.mem_of_getElem? (i := 3) rfl)
theorem dX3_isBook_8 : decode cX3_isBook 8 = .ok (.goto 4, 3) := daX3_isBook_0 (8, .goto 4, 3) (List.mem_of_getElem? (i := 4) rfl)
theorem dX3_isBook_11 : decode cX3_isBook 11 = .ok (.iconst 0, 1) := daX3_isBook_0 (11, .iconst 0, 1) (List.mem_of_getElem? (i := 5) rfl)
theorem dX3_isBook_12 : decode cX3_isBook 12 = .ok (.ireturn, 1) := daX3_isBook_0 (12, .ireturn, 1) (List.mem_of_getElem? (i := 6) rfl)
set_option maxRecDepth 20000 in
theorem daX3_hasLeaf_0 : ∀ x ∈ ([(0, .iload_n 1, 1), (1, .ifCond .lt 15, 3), (4, .iload_n 1, 1), (5, .aload_n 0, 1), (6, .getfield 18, 3), (9, .if_icmp .ge 7, 3), (12, .iconst 1, 1), (13, .goto 4, 3), (16, .iconst 0, 1), (17, .ireturn, 1)] : List (Nat × Instr × Nat)), decode cX3_hasLeaf x.1 = .ok x.2 := by decide +kernel
theorem dX3_hasLeaf_0 : decode cX3_hasLeaf 0 = .ok (.iload_n 1, 1) := daX3_hasLeaf_0 (0, .iload_n 1, 1) (List.mem_of_getElem? (i := 0) rfl)
theorem dX3_hasLeaf_1 : decode cX3_hasLeaf 1 = .ok (.ifCond .lt 15, 3) := daX3_hasLeaf_0 (1, .ifCond .lt 15, 3) (List.mem_of_getElem? (i := 1) rfl)
theorem dX3_hasLeaf_4 : decode cX3_hasLeaf 4 = .ok (.iload_n 1, 1) := daX3_hasLeaf_0 (4, .iload_n 1, 1) (List.mem_of_getElem? (i := 2) rfl)
theorem dX3_hasLeaf_5 : decode cX3_hasLeaf 5 = .ok (.aload_n 0, 1) := daX3_hasLeaf_0 (5, .aload_n 0, 1) (List.mem_of_getElem? (i := 3) rfl)
theorem dX3_hasLeaf_6 : decode cX3_hasLeaf 6 = .ok (.getfield 18, 3) := daX3_hasLeaf_0 (6, .getfield 18, 3) (List.mem_of_getElem? (i := 4) rfl)
theorem dX3_hasLeaf_9 : decode cX3_hasLeaf 9 = .ok (.if_icmp .ge 7, 3) := daX3_hasLeaf_0 (9, .if_icmp .ge 7, 3) (List.mem_of_getElem? (i := 5) rfl)
theorem dX3_hasLeaf_12 : decode cX3_hasLeaf 12 = .ok (.iconst 1, 1) := daX3_hasLeaf_0 (12, .iconst 1, 1) (List.mem_of_getElem? (i := 6) rfl)
theorem dX3_hasLeaf_13 : decode cX3_hasLeaf 13 = .ok (.goto 4, 3) := daX3_hasLeaf_0 (13, .goto 4, 3) (List.mem_of_getElem? (i := 7) rfl)
theorem dX3_hasLeaf_16 : decode cX3_hasLeaf 16 = .ok (.iconst 0, 1) := daX3_hasLeaf_0 (16, .iconst 0, 1) (List.mem_of_getElem? (i := 8) rfl)
theorem dX3_hasLeaf_17 : decode cX3_hasLeaf 17 = .ok (.ireturn, 1) := daX3_hasLeaf_0 (17, .ireturn, 1) (List.mem_of_getElem? (i := 9) rfl)
set_option maxRecDepth 20000 in
theorem ggX3_canBeShown_X3_isBook : GoodIn wsX3_canBeShown wsX3_isBook := goodIn_r _ [6, 7, 15, 16, 17, 18, 19, 20, 21] (by decide +kernel) (by decide +kernel)
set_option maxRecDepth 20000 in
theorem gX3_canBeShown_X3_isBook : GoodIn wsX3_canBeShown (wsV RX3 33 RX3 yX3_isBook wsX3_isBook) := goodIn_app (goodIn_of _ (by decide +kernel)) ggX3_canBeShown_X3_isBook
set_option maxRecDepth 20000 in
theorem ggX3_canBeShown_X3_hasLeaf : GoodIn wsX3_canBeShown wsX3_hasLeaf := goodIn_r _ [11, 7, 15, 16, 17, 18, 19, 20, 21] (by decide +kernel) (by decide +kernel)
set_option maxRecDepth 20000 in
theorem gX3_canBeShown_X3_hasLeaf : GoodIn wsX3_canBeShown (wsV RX3 37 RX3 yX3_hasLeaf wsX3_hasLeaf) := goodIn_app (goodIn_of _ (by decide +kernel)) ggX3_canBeShown_X3_hasLeaf
set_option maxRecDepth 20000 in
theorem ggX3_canBeShown_X10_isWithin : GoodIn wsX3_canBeShown wsX10_isWithin := goodIn_r _ [14] (by decide +kernel) (by decide +kernel)
set_option maxRecDepth 20000 in
theorem gX3_canBeShown_X10_isWithin_n42 : GoodIn wsX3_canBeShown (wsX10_isWithin) := ggX3_canBeShown_X10_isWithin
set_option maxRecDepth 20000 in
theorem daX3_canBeShown_0 : ∀ x ∈ ([(0, .aload_n 0, 1), (1, .invokevirtual 33, 3), (4, .ifCond .eq 11, 3), (7, .aload_n 0, 1), (8, .iload_n 1, 1), (9, .invokevirtual 37, 3), (12, .goto 23, 3), (15, .iload_n 1, 1), (16, .iconst (-1), 1), (17, .if_icmp .ne 17, 3), (20, .iload_n 2, 1), (21, .iconst 1, 1), (22, .ldc 41, 2), (24, .invokestatic 42, 3), (27, .ifCond .eq 7, 3), (30, .iconst 1, 1), (31, .goto 4, 3), (34, .iconst 0, 1), (35, .ireturn, 1)] : List (Nat × Instr × Nat)), decode cX3_canBeShown x.1 = .ok x.2 := by decide +kernel
theorem dX3_canBeShown_0 : decode cX3_canBeShown 0 = .ok (.aload_n 0, 1) := daX3_canBeShown_0 (0, .aload_n 0, 1) (List.mem_of_getElem? (i := 0) rfl)
theorem dX3_canBeShown_1 : decode cX3_canBeShown 1 = .ok (.invokevirtual 33, 3) := daX3_canBeShown_0 (1, .invokevirtual 33, 3) (List.mem_of_getElem? (i := 1) rfl)
theorem dX3_canBeShown_4 : decode cX3_canBeShown 4 = .ok (.ifCond .eq 11, 3) := daX3_canBeShown_0 (4, .ifCond .eq 11, 3) (List.mem_of_getElem? (i := 2) rfl)
theorem dX3_canBeShown_7 : decode cX3_canBeShown 7 = .ok (.aload_n 0, 1) := daX3_canBeShown_0 (7, .aload_n 0, 1) (List.mem_of_getElem? (i := 3) rfl)
theorem dX3_canBeShown_8 : decode cX3_canBeShown 8 = .ok (.iload_n 1, 1) := daX3_canBeShown_0 (8, .iload_n 1, 1) (List.mem_of_getElem? (i := 4) rfl)
theorem dX3_canBeShown_9 : decode cX3_canBeShown 9 = .ok (.invokevirtual 37, 3) := daX3_canBeShown_0 (9, .invokevirtual 37, 3) (List.mem_of_getElem? (i := 5) rfl)
theorem dX3_canBeShown_12 : decode cX3_canBeShown 12 = .ok (.goto 23, 3) := daX3_canBeShown_0 (12, .goto 23, 3) (List.mem_of_getElem? (i := 6) rfl)
theorem dX3_canBeShown_15 : decode cX3_canBeShown 15 = .ok (.iload_n 1, 1) := daX3_canBeShown_0 (15, .iload_n 1, 1) (List.mem_of_getElem? (i := 7) rfl)
theorem dX3_canBeShown_16 : decode cX3_canBeShown 16 = .ok (.iconst (-1), 1) := daX3_canBeShown_0 (16, .iconst (-1), 1) (List.mem_of_getElem? (i := 8) rfl)
theorem dX3_canBeShown_17 : decode cX3_canBeShown 17 = .ok (.if_icmp .ne 17, 3) := daX3_canBeShown_0 (17, .if_icmp .ne 17, 3) (List.mem_of_getElem? (i := 9) rfl)
theorem dX3_canBeShown_20 : decode cX3_canBeShown 20 = .ok (.iload_n 2, 1) := daX3_canBeShown_0 (20, .iload_n 2, 1) (List.mem_of_getElem? (i := 10) rfl)
theorem dX3_canBeShown_21 : decode cX3_canBeShown 21 = .ok (.iconst 1, 1) := daX3_canBeShown_0 (21, .iconst 1, 1) (List.mem_of_getElem? (i := 11) rfl)
theorem dX3_canBeShown_22 : decode cX3_canBeShown 22 = .ok (.ldc 41, 2) := daX3_canBeShown_0 (22, .ldc 41, 2) (List.mem_of_getElem? (i := 12) rfl)
theorem dX3_canBeShown_24 : decode cX3_canBeShown 24 = .ok (.invokestatic 42, 3) := daX3_canBeShown_0 (24, .invokestatic 42, 3) (List.mem_of_getElem? (i := 13) rfl)
theorem dX3_canBeShown_27 : decode cX3_canBeShown 27 = .ok (.ifCond .eq 7, 3) := daX3_canBeShown_0 (27, .ifCond .eq 7, 3) (List.mem_of_getElem? (i := 14) rfl)
theorem dX3_canBeShown_30 : decode cX3_canBeShown 30 = .ok (.iconst 1, 1) := daX3_canBeShown_0 (30, .iconst 1, 1) (List.mem_of_getElem? (i := 15) rfl)
theorem dX3_canBeShown_31 : decode cX3_canBeShown 31 = .ok (.goto 4, 3) := daX3_canBeShown_0 (31, .goto 4, 3) (List.mem_of_getElem? (i := 16) rfl)
theorem dX3_canBeShown_34 : decode cX3_canBeShown 34 = .ok (.iconst 0, 1) := daX3_canBeShown_0 (34, .iconst 0, 1) (List.mem_of_getElem? (i := 17) rfl)
theorem dX3_canBeShown_35 : decode cX3_canBeShown 35 = .ok (.ireturn, 1) := daX3_canBeShown_0 (35, .ireturn, 1) (List.mem_of_getElem? (i := 18) rfl)
set_option maxRecDepth 20000 in
theorem ggX4_init_J7_fill_53178 : GoodIn wsX4_init wsJ7_fill_53178 := goodIn_r _ [19] (by decide +kernel) (by decide +kernel)
set_option maxRecDepth 20000 in
theorem gX4_init_J7_fill_53178 : GoodIn wsX4_init (va_wsS RX4 44 yJ7_fill_53178 wsJ7_fill_53178) := goodIn_app (goodIn_of _ (by decide +kernel)) ggX4_init_J7_fill_53178
set_option maxRecDepth 20000 in
theorem daX4_init_0 : ∀ x ∈ ([(0, .aload_n 0, 1), (1, .invokespecial 3, 3), (4, .aload_n 0, 1), (5, .sipush 200, 3), (8, .newarray .int, 2), (10, .putfield 9, 3), (13, .aload_n 0, 1), (14, .sipush 200, 3), (17, .newarray .int, 2), (19, .putfield 15, 3), (22, .aload_n 0, 1), (23, .bipush 12, 2), (25, .newarray .long, 2), (27, .putfield 18, 3), (30, .aload_n 0, 1), (31, .bipush 12, 2), (33, .newarray .long, 2), (35, .putfield 22, 3), (38, .aload_n 0, 1), (39, .bipush 12, 2), (41, .newarray .int, 2), (43, .putfield 25, 3), (46, .aload_n 0, 1), (47, .bipush 12, 2), (49, .newarray .int, 2), (51, .putfield 28, 3), (54, .aload_n 0, 1), (55, .bipush 12, 2), (57, .newarray .long, 2), (59, .putfield 31, 3), (62, .aload_n 0, 1), (63, .bipush 12, 2), (65, .newarray .int, 2), (67, .putfield 34, 3), (70, .aload_n 0, 1), (71, .iconst 0, 1), (72, .putfield 37, 3), (75, .aload_n 0, 1), (76, .iconst 0, 1), (77, .putfield 41, 3)] : List (Nat × Instr × Nat)), decode cX4_init x.1 = .ok x.2 := by decide +kernel
theorem dX4_init_0 : decode cX4_init 0 = .ok (.aload_n 0, 1) := daX4_init_0 (0, .aload_n 0, 1) (List.mem_of_getElem? (i := 0) rfl)
theorem dX4_init_1 : decode cX4_init 1 = .ok (.invokespecial 3, 3) := daX4_init_0 (1, .invokespecial 3, 3) (List.mem_of_getElem? (i := 1) rfl)
theorem dX4_init_4 : decode cX4_init 4 = .ok (.aload_n 0, 1) := daX4_init_0 (4, .aload_n 0, 1) (List.mem_of_getElem? (i := 2) rfl)
theorem dX4_init_5 : decode cX4_init 5 = .ok (.sipush 200, 3) := daX4_init_0 (5, .sipush 200, 3) (List.mem_of_getElem? (i := 3) rfl)
theorem dX4_init_8 : decode cX4_init 8 = .ok (.newarray .int, 2) := daX4_init_0 (8, .newarray .int, 2) (List.mem_of_getElem? (i := 4) rfl)
theorem dX4_init_10 : decode cX4_init 10 = .ok (.putfield 9, 3) := daX4_init_0 (10, .putfield 9, 3) (List.mem_of_getElem? (i := 5) rfl)
theorem dX4_init_13 : decode cX4_init 13 = .ok (.aload_n 0, 1) := daX4_init_0 (13, .aload_n 0, 1) (List.mem_of_getElem? (i := 6) rfl)
theorem dX4_init_14 : decode cX4_init 14 = .ok (.sipush 200, 3) := daX4_init_0 (14, .sipush 200, 3) (List.mem_of_getElem? (i := 7) rfl)
theorem dX4_init_17 : decode cX4_init 17 = .ok (.newarray .int, 2) := daX4_init_0 (17, .newarray .int, 2) (List.mem_of_getElem? (i := 8) rfl)
theorem dX4_init_19 : decode cX4_init 19 = .ok (.putfield 15, 3) := daX4_init_0 (19, .putfield 15, 3) (List.mem_of_getElem? (i := 9) rfl)
theorem dX4_init_22 : decode cX4_init 22 = .ok (.aload_n 0, 1) := daX4_init_0 (22, .aload_n 0, 1) (List.mem_of_getElem? (i := 10) rfl)
theorem dX4_init_23 : decode cX4_init 23 = .ok (.bipush 12, 2) := daX4_init_0 (23, .bipush 12, 2) (List.mem_of_getElem? (i := 11) rfl)
theorem dX4_init_25 : decode cX4_init 25 = .ok (.newarray .long, 2) := daX4_init_0 (25, .newarray .long, 2) (List.mem_of_getElem? (i := 12) rfl)
theorem dX4_init_27 : decode cX4_init 27 = .ok (.putfield 18, 3) := daX4_init_0 (27, .putfield 18, 3) (List.mem_of_getElem? (i := 13) rfl)
theorem dX4_init_30 : decode cX4_init 30 = .ok (.aload_n 0, 1) := daX4_init_0 (30, .aload_n 0, 1) (List.mem_of_getElem? (i := 14) rfl)
theorem dX4_init_31 : decode cX4_init 31 = .ok (.bipush 12, 2) := daX4_init_0 (31, .bipush 12, 2) (List.mem_of_getElem? (i := 15) rfl)
theorem dX4_init_33 : decode cX4_init 33 = .ok (.newarray .long, 2) := daX4_init_0 (33, .newarray .long, 2) (List.mem_of_getElem? (i := 16) rfl)
theorem dX4_init_35 : decode cX4_init 35 = .ok (.putfield 22, 3) := daX4_init_0 (35, .putfield 22, 3) (List.mem_of_getElem? (i := 17) rfl)
theorem dX4_init_38 : decode cX4_init 38 = .ok (.aload_n 0, 1) := daX4_init_0 (38, .aload_n 0, 1) (List.mem_of_getElem? (i := 18) rfl)
theorem dX4_init_39 : decode cX4_init 39 = .ok (.bipush 12, 2) := daX4_init_0 (39, .bipush 12, 2) (List.mem_of_getElem? (i := 19) rfl)
theorem dX4_init_41 : decode cX4_init 41 = .ok (.newarray .int, 2) := daX4_init_0 (41, .newarray .int, 2) (List.mem_of_getElem? (i := 20) rfl)
theorem dX4_init_43 : decode cX4_init 43 = .ok (.putfield 25, 3) := daX4_init_0 (43, .putfield 25, 3) (List.mem_of_getElem? (i := 21) rfl)
theorem dX4_init_46 : decode cX4_init 46 = .ok (.aload_n 0, 1) := daX4_init_0 (46, .aload_n 0, 1) (List.mem_of_getElem? (i := 22) rfl)
theorem dX4_init_47 : decode cX4_init 47 = .ok (.bipush 12, 2) := daX4_init_0 (47, .bipush 12, 2) (List.mem_of_getElem? (i := 23) rfl)
theorem dX4_init_49 : decode cX4_init 49 = .ok (.newarray .int, 2) := daX4_init_0 (49, .newarray .int, 2) (List.mem_of_getElem? (i := 24) rfl)
theorem dX4_init_51 : decode cX4_init 51 = .ok (.putfield 28, 3) := daX4_init_0 (51, .putfield 28, 3) (List.mem_of_getElem? (i := 25) rfl)
theorem dX4_init_54 : decode cX4_init 54 = .ok (.aload_n 0, 1) := daX4_init_0 (54, .aload_n 0, 1) (List.mem_of_getElem? (i := 26) rfl)
theorem dX4_init_55 : decode cX4_init 55 = .ok (.bipush 12, 2) := daX4_init_0 (55, .bipush 12, 2) (List.mem_of_getElem? (i := 27) rfl)
theorem dX4_init_57 : decode cX4_init 57 = .ok (.newarray .long, 2) := daX4_init_0 (57, .newarray .long, 2) (List.mem_of_getElem? (i := 28) rfl)
theorem dX4_init_59 : decode cX4_init 59 = .ok (.putfield 31, 3) := daX4_init_0 (59, .putfield 31, 3) (List.mem_of_getElem? (i := 29) rfl)
theorem dX4_init_62 : decode cX4_init 62 = .ok (.aload_n 0, 1) := daX4_init_0 (62, .aload_n 0, 1) (List.mem_of_getElem? (i := 30) rfl)
theorem dX4_init_63 : decode cX4_init 63 = .ok (.bipush 12, 2) := daX4_init_0 (63, .bipush 12, 2) (List.mem_of_getElem? (i := 31) rfl)
theorem dX4_init_65 : decode cX4_init 65 = .ok (.newarray .int, 2) := daX4_init_0 (65, .newarray .int, 2) (List.mem_of_getElem? (i := 32) rfl)
theorem dX4_init_67 : decode cX4_init 67 = .ok (.putfield 34, 3) := daX4_init_0 (67, .putfield 34, 3) (List.mem_of_getElem? (i := 33) rfl)
theorem dX4_init_70 : decode cX4_init 70 = .ok (.aload_n 0, 1) := daX4_init_0 (70, .aload_n 0, 1) (List.mem_of_getElem? (i := 34) rfl)
theorem dX4_init_71 : decode cX4_init 71 = .ok (.iconst 0, 1) := daX4_init_0 (71, .iconst 0, 1) (List.mem_of_getElem? (i := 35) rfl)
theorem dX4_init_72 : decode cX4_init 72 = .ok (.putfield 37, 3) := daX4_init_0 (72, .putfield 37, 3) (List.mem_of_getElem? (i := 36) rfl)
theorem dX4_init_75 : decode cX4_init 75 = .ok (.aload_n 0, 1) := daX4_init_0 (75, .aload_n 0, 1) (List.mem_of_getElem? (i := 37) rfl)
theorem dX4_init_76 : decode cX4_init 76 = .ok (.iconst 0, 1) := daX4_init_0 (76, .iconst 0, 1) (List.mem_of_getElem? (i := 38) rfl)
theorem dX4_init_77 : decode cX4_init 77 = .ok (.putfield 41, 3) := daX4_init_0 (77, .putfield 41, 3) (List.mem_of_getElem? (i := 39) rfl)
set_option maxRecDepth 20000 in
theorem daX4_init_80 : ∀ x ∈ ([(80, .aload_n 0, 1), (81, .getfield 9, 3), (84, .iconst (-1), 1), (85, .invokestatic 44, 3), (88, .return_, 1)] : List (Nat × Instr × Nat)), decode cX4_init x.1 = .ok x.2 := by decide +kernel
theorem dX4_init_80 : decode cX4_init 80 = .ok (.aload_n 0, 1) := daX4_init_80 (80, .aload_n 0, 1) (List.mem_of_getElem? (i := 0) rfl)
theorem dX4_init_81 : decode cX4_init 81 = .ok (.getfield 9, 3) := daX4_init_80 (81, .getfield 9, 3) (List.mem_of_getElem? (i := 1) rfl)
theorem dX4_init_84 : decode cX4_init 84 = .ok (.iconst (-1), 1) := daX4_init_80 (84, .iconst (-1), 1) (List.mem_of_getElem? (i := 2) rfl)
theorem dX4_init_85 : decode cX4_init 85 = .ok (.invokestatic 44, 3) := daX4_init_80 (85, .invokestatic 44, 3) (List.mem_of_getElem? (i := 3) rfl)
theorem dX4_init_88 : decode cX4_init 88 = .ok (.return_, 1) := daX4_init_80 (88, .return_, 1) (List.mem_of_getElem? (i := 4) rfl)
set_option maxRecDepth 20000 in
theorem ggX4_open_J7_fill_53178 : GoodIn wsX4_open wsJ7_fill_53178 := goodIn_r _ [8] (by decide +kernel) (by decide +kernel)
set_option maxRecDepth 20000 in
theorem gX4_open_J7_fill_53178 : GoodIn wsX4_open (va_wsS RX4 44 yJ7_fill_53178 wsJ7_fill_53178) := goodIn_app (goodIn_of _ (by decide +kernel)) ggX4_open_J7_fill_53178
set_option maxRecDepth 20000 in
theorem ggX4_open_J7_fill_d0a16 : GoodIn wsX4_open wsJ7_fill_d0a16 := goodIn_r _ [11] (by decide +kernel) (by decide +kernel)
set_option maxRecDepth 20000 in
theorem gX4_open_J7_fill_d0a16 : GoodIn wsX4_open (va_wsS RX4 50 yJ7_fill_d0a16 wsJ7_fill_d0a16) := goodIn_app (goodIn_of _ (by decide +kernel)) ggX4_open_J7_fill_d0a16
set_option maxRecDepth 20000 in
theorem daX4_open_0 : ∀ x ∈ ([(0, .aload_n 0, 1), (1, .getfield 9, 3), (4, .iconst (-1), 1), (5, .invokestatic 44, 3), (8, .aload_n 0, 1), (9, .getfield 18, 3), (12, .lconst 0, 1), (13, .invokestatic 50, 3), (16, .aload_n 0, 1), (17, .iconst 0, 1), (18, .putfield 37, 3), (21, .aload_n 0, 1), (22, .iconst 0, 1), (23, .putfield 41, 3), (26, .return_, 1)] : List (Nat × Instr × Nat)), decode cX4_open x.1 = .ok x.2 := by decide +kernel
theorem dX4_open_0 : decode cX4_open 0 = .ok (.aload_n 0, 1) := daX4_open_0 (0, .aload_n 0, 1) (List.mem_of_getElem? (i := 0) rfl)
theorem dX4_open_1 : decode cX4_open 1 = .ok (.getfield 9, 3) := daX4_open_0 (1, .getfield 9, 3) (List.mem_of_getElem? (i := 1) rfl)
theorem dX4_open_4 : decode cX4_open 4 = .ok (.iconst (-1), 1) := daX4_open_0 (4, .iconst (-1), 1) (List.mem_of_getElem? (i := 2) rfl)
theorem dX4_open_5 : decode cX4_open 5 = .ok (.invokestatic 44, 3) := daX4_open_0 (5, .invokestatic 44, 3) (List.mem_of_getElem? (i := 3) rfl)
theorem dX4_open_8 : decode cX4_open 8 = .ok (.aload_n 0, 1) := daX4_open_0 (8, .aload_n 0, 1) (List.mem_of_getElem? (i := 4) rfl)
theorem dX4_open_9 : decode cX4_open 9 = .ok (.getfield 18, 3) := daX4_open_0 (9, .getfield 18, 3) (List.mem_of_getElem? (i := 5) rfl)
theorem dX4_open_12 : decode cX4_open 12 = .ok (.lconst 0, 1) := daX4_open_0 (12, .lconst 0, 1) (List.mem_of_getElem? (i := 6) rfl)
theorem dX4_open_13 : decode cX4_open 13 = .ok (.invokestatic 50, 3) := daX4_open_0 (13, .invokestatic 50, 3) (List.mem_of_getElem? (i := 7) rfl)
theorem dX4_open_16 : decode cX4_open 16 = .ok (.aload_n 0, 1) := daX4_open_0 (16, .aload_n 0, 1) (List.mem_of_getElem? (i := 8) rfl)
theorem dX4_open_17 : decode cX4_open 17 = .ok (.iconst 0, 1) := daX4_open_0 (17, .iconst 0, 1) (List.mem_of_getElem? (i := 9) rfl)
theorem dX4_open_18 : decode cX4_open 18 = .ok (.putfield 37, 3) := daX4_open_0 (18, .putfield 37, 3) (List.mem_of_getElem? (i := 10) rfl)
theorem dX4_open_21 : decode cX4_open 21 = .ok (.aload_n 0, 1) := daX4_open_0 (21, .aload_n 0, 1) (List.mem_of_getElem? (i := 11) rfl)
theorem dX4_open_22 : decode cX4_open 22 = .ok (.iconst 0, 1) := daX4_open_0 (22, .iconst 0, 1) (List.mem_of_getElem? (i := 12) rfl)
theorem dX4_open_23 : decode cX4_open 23 = .ok (.putfield 41, 3) := daX4_open_0 (23, .putfield 41, 3) (List.mem_of_getElem? (i := 13) rfl)
theorem dX4_open_26 : decode cX4_open 26 = .ok (.return_, 1) := daX4_open_0 (26, .return_, 1) (List.mem_of_getElem? (i := 14) rfl)
set_option maxRecDepth 20000 in
theorem daX4_holds_0 : ∀ x ∈ ([(0, .iload_n 1, 1), (1, .ifCond .lt 24, 3), (4, .iload_n 1, 1), (5, .sipush 200, 3), (8, .if_icmp .ge 17, 3), (11, .aload_n 0, 1), (12, .getfield 9, 3), (15, .iload_n 1, 1), (16, .iaload, 1), (17, .iconst (-1), 1), (18, .if_icmp .eq 7, 3), (21, .iconst 1, 1), (22, .goto 4, 3), (25, .iconst 0, 1), (26, .ireturn, 1)] : List (Nat × Instr × Nat)), decode cX4_holds x.1 = .ok x.2 := by decide +kernel
theorem dX4_holds_0 : decode cX4_holds 0 = .ok (.iload_n 1, 1) := daX4_holds_0 (0, .iload_n 1, 1) (List.mem_of_getElem? (i := 0) rfl)
theorem dX4_holds_1 : decode cX4_holds 1 = .ok (.ifCond .lt 24, 3) := daX4_holds_0 (1, .ifCond .lt 24, 3) (List.mem_of_getElem? (i := 1) rfl)
theorem dX4_holds_4 : decode cX4_holds 4 = .ok (.iload_n 1, 1) := daX4_holds_0 (4, .iload_n 1, 1) (List.mem_of_getElem? (i := 2) rfl)
theorem dX4_holds_5 : decode cX4_holds 5 = .ok (.sipush 200, 3) := daX4_holds_0 (5, .sipush 200, 3) (List.mem_of_getElem? (i := 3) rfl)
theorem dX4_holds_8 : decode cX4_holds 8 = .ok (.if_icmp .ge 17, 3) := daX4_holds_0 (8, .if_icmp .ge 17, 3) (List.mem_of_getElem? (i := 4) rfl)
theorem dX4_holds_11 : decode cX4_holds 11 = .ok (.aload_n 0, 1) := daX4_holds_0 (11, .aload_n 0, 1) (List.mem_of_getElem? (i := 5) rfl)
theorem dX4_holds_12 : decode cX4_holds 12 = .ok (.getfield 9, 3) := daX4_holds_0 (12, .getfield 9, 3) (List.mem_of_getElem? (i := 6) rfl)
theorem dX4_holds_15 : decode cX4_holds 15 = .ok (.iload_n 1, 1) := daX4_holds_0 (15, .iload_n 1, 1) (List.mem_of_getElem? (i := 7) rfl)
theorem dX4_holds_16 : decode cX4_holds 16 = .ok (.iaload, 1) := daX4_holds_0 (16, .iaload, 1) (List.mem_of_getElem? (i := 8) rfl)
theorem dX4_holds_17 : decode cX4_holds 17 = .ok (.iconst (-1), 1) := daX4_holds_0 (17, .iconst (-1), 1) (List.mem_of_getElem? (i := 9) rfl)
theorem dX4_holds_18 : decode cX4_holds 18 = .ok (.if_icmp .eq 7, 3) := daX4_holds_0 (18, .if_icmp .eq 7, 3) (List.mem_of_getElem? (i := 10) rfl)
theorem dX4_holds_21 : decode cX4_holds 21 = .ok (.iconst 1, 1) := daX4_holds_0 (21, .iconst 1, 1) (List.mem_of_getElem? (i := 11) rfl)
theorem dX4_holds_22 : decode cX4_holds 22 = .ok (.goto 4, 3) := daX4_holds_0 (22, .goto 4, 3) (List.mem_of_getElem? (i := 12) rfl)
theorem dX4_holds_25 : decode cX4_holds 25 = .ok (.iconst 0, 1) := daX4_holds_0 (25, .iconst 0, 1) (List.mem_of_getElem? (i := 13) rfl)
theorem dX4_holds_26 : decode cX4_holds 26 = .ok (.ireturn, 1) := daX4_holds_0 (26, .ireturn, 1) (List.mem_of_getElem? (i := 14) rfl)
set_option maxRecDepth 20000 in
theorem daX4_enter_0 : ∀ x ∈ ([(0, .aload_n 0, 1), (1, .getfield 9, 3), (4, .iload_n 1, 1), (5, .iload_n 3, 1), (6, .iastore, 1), (7, .aload_n 0, 1), (8, .getfield 15, 3), (11, .iload_n 1, 1), (12, .iload 4, 2), (14, .iastore, 1), (15, .aload_n 0, 1), (16, .getfield 18, 3), (19, .iload_n 2, 1), (20, .dup2, 1), (21, .laload, 1), (22, .iload 4, 2), (24, .i2l, 1), (25, .ladd, 1), (26, .lastore, 1), (27, .aload_n 0, 1), (28, .dup, 1), (29, .getfield 41, 3), (32, .iconst 1, 1), (33, .iadd, 1), (34, .putfield 41, 3), (37, .return_, 1)] : List (Nat × Instr × Nat)), decode cX4_enter x.1 = .ok x.2 := by decide +kernel
theorem dX4_enter_0 : decode cX4_enter 0 = .ok (.aload_n 0, 1) := daX4_enter_0 (0, .aload_n 0, 1) (List.mem_of_getElem? (i := 0) rfl)
theorem dX4_enter_1 : decode cX4_enter 1 = .ok (.getfield 9, 3) := daX4_enter_0 (1, .getfield 9, 3) (List.mem_of_getElem? (i := 1) rfl)
theorem dX4_enter_4 : decode cX4_enter 4 = .ok (.iload_n 1, 1) := daX4_enter_0 (4, .iload_n 1, 1) (List.mem_of_getElem? (i := 2) rfl)
theorem dX4_enter_5 : decode cX4_enter 5 = .ok (.iload_n 3, 1) := daX4_enter_0 (5, .iload_n 3, 1) (List.mem_of_getElem? (i := 3) rfl)
theorem dX4_enter_6 : decode cX4_enter 6 = .ok (.iastore, 1) := daX4_enter_0 (6, .iastore, 1) (List.mem_of_getElem? (i := 4) rfl)
theorem dX4_enter_7 : decode cX4_enter 7 = .ok (.aload_n 0, 1) := daX4_enter_0 (7, .aload_n 0, 1) (List.mem_of_getElem? (i := 5) rfl)
theorem dX4_enter_8 : decode cX4_enter 8 = .ok (.getfield 15, 3) := daX4_enter_0 (8, .getfield 15, 3) (List.mem_of_getElem? (i := 6) rfl)
theorem dX4_enter_11 : decode cX4_enter 11 = .ok (.iload_n 1, 1) := daX4_enter_0 (11, .iload_n 1, 1) (List.mem_of_getElem? (i := 7) rfl)
theorem dX4_enter_12 : decode cX4_enter 12 = .ok (.iload 4, 2) := daX4_enter_0 (12, .iload 4, 2) (List.mem_of_getElem? (i := 8) rfl)
theorem dX4_enter_14 : decode cX4_enter 14 = .ok (.iastore, 1) := daX4_enter_0 (14, .iastore, 1) (List.mem_of_getElem? (i := 9) rfl)
theorem dX4_enter_15 : decode cX4_enter 15 = .ok (.aload_n 0, 1) := daX4_enter_0 (15, .aload_n 0, 1) (List.mem_of_getElem? (i := 10) rfl)
theorem dX4_enter_16 : decode cX4_enter 16 = .ok (.getfield 18, 3) := daX4_enter_0 (16, .getfield 18, 3) (List.mem_of_getElem? (i := 11) rfl)
theorem dX4_enter_19 : decode cX4_enter 19 = .ok (.iload_n 2, 1) := daX4_enter_0 (19, .iload_n 2, 1) (List.mem_of_getElem? (i := 12) rfl)
theorem dX4_enter_20 : decode cX4_enter 20 = .ok (.dup2, 1) := daX4_enter_0 (20, .dup2, 1) (List.mem_of_getElem? (i := 13) rfl)
theorem dX4_enter_21 : decode cX4_enter 21 = .ok (.laload, 1) := daX4_enter_0 (21, .laload, 1) (List.mem_of_getElem? (i := 14) rfl)
theorem dX4_enter_22 : decode cX4_enter 22 = .ok (.iload 4, 2) := daX4_enter_0 (22, .iload 4, 2) (List.mem_of_getElem? (i := 15) rfl)
theorem dX4_enter_24 : decode cX4_enter 24 = .ok (.i2l, 1) := daX4_enter_0 (24, .i2l, 1) (List.mem_of_getElem? (i := 16) rfl)
theorem dX4_enter_25 : decode cX4_enter 25 = .ok (.ladd, 1) := daX4_enter_0 (25, .ladd, 1) (List.mem_of_getElem? (i := 17) rfl)
theorem dX4_enter_26 : decode cX4_enter 26 = .ok (.lastore, 1) := daX4_enter_0 (26, .lastore, 1) (List.mem_of_getElem? (i := 18) rfl)
theorem dX4_enter_27 : decode cX4_enter 27 = .ok (.aload_n 0, 1) := daX4_enter_0 (27, .aload_n 0, 1) (List.mem_of_getElem? (i := 19) rfl)
theorem dX4_enter_28 : decode cX4_enter 28 = .ok (.dup, 1) := daX4_enter_0 (28, .dup, 1) (List.mem_of_getElem? (i := 20) rfl)
theorem dX4_enter_29 : decode cX4_enter 29 = .ok (.getfield 41, 3) := daX4_enter_0 (29, .getfield 41, 3) (List.mem_of_getElem? (i := 21) rfl)
theorem dX4_enter_32 : decode cX4_enter 32 = .ok (.iconst 1, 1) := daX4_enter_0 (32, .iconst 1, 1) (List.mem_of_getElem? (i := 22) rfl)
theorem dX4_enter_33 : decode cX4_enter 33 = .ok (.iadd, 1) := daX4_enter_0 (33, .iadd, 1) (List.mem_of_getElem? (i := 23) rfl)
theorem dX4_enter_34 : decode cX4_enter 34 = .ok (.putfield 41, 3) := daX4_enter_0 (34, .putfield 41, 3) (List.mem_of_getElem? (i := 24) rfl)
theorem dX4_enter_37 : decode cX4_enter 37 = .ok (.return_, 1) := daX4_enter_0 (37, .return_, 1) (List.mem_of_getElem? (i := 25) rfl)
set_option maxRecDepth 20000 in
theorem ggX4_netAll_X4_netAmongTowns : GoodIn wsX4_netAll wsX4_netAmongTowns := goodIn_r _ [11, 12, 2, 13, 14, 15, 16, 17, 18, 19, 10, 20, 21, 22, 23, 24, 25, 40, 41, 42, 43, 30, 31, 32, 33, 34, 35, 36, 37, 38, 39] (by decide +kernel) (by decide +kernel)
set_option maxRecDepth 20000 in
theorem gX4_netAll_X4_netAmongTowns : GoodIn wsX4_netAll (wsV RX4 59 RX4 yX4_netAmongTowns wsX4_netAmongTowns) := goodIn_app (goodIn_of _ (by decide +kernel)) ggX4_netAll_X4_netAmongTowns
set_option maxRecDepth 20000 in
theorem ggX4_netAll_X4_netWithHouse : GoodIn wsX4_netAll wsX4_netWithHouse := goodIn_r _ [29, 12, 2, 17, 18, 19, 10, 20, 21, 22, 23, 24, 25, 40, 41, 42, 43, 30, 31, 32, 33, 34, 35, 36, 37, 38, 39] (by decide +kernel) (by decide +kernel)
set_option maxRecDepth 20000 in
theorem gX4_netAll_X4_netWithHouse : GoodIn wsX4_netAll (wsV RX4 63 RX4 yX4_netWithHouse wsX4_netWithHouse) := goodIn_app (goodIn_of _ (by decide +kernel)) ggX4_netAll_X4_netWithHouse
set_option maxRecDepth 20000 in
theorem daX4_netAll_0 : ∀ x ∈ ([(0, .aload_n 0, 1), (1, .getfield 18, 3), (4, .iconst 0, 1), (5, .aload_n 0, 1), (6, .getfield 22, 3), (9, .iconst 0, 1), (10, .bipush 12, 2), (12, .invokestatic 53, 3), (15, .iconst 0, 1), (16, .istore_n 2, 1), (17, .iload_n 2, 1), (18, .iconst 4, 1), (19, .if_icmp .ge 21, 3), (22, .aload_n 0, 1), (23, .aload_n 1, 1), (24, .iload_n 2, 1), (25, .invokevirtual 59, 3), (28, .aload_n 0, 1), (29, .aload_n 1, 1)] : List (Nat × Instr × Nat)), decode cX4_netAll x.1 = .ok x.2 := by decide +kernel
theorem dX4_netAll_0 : decode cX4_netAll 0 = .ok (.aload_n 0, 1) := daX4_netAll_0 (0, .aload_n 0, 1) (List.mem_of_getElem? (i := 0) rfl)
theorem dX4_netAll_1 : decode cX4_netAll 1 = .ok (.getfield 18, 3) := daX4_netAll_0 (1, .getfield 18, 3) (List.mem_of_getElem? (i := 1) rfl)
theorem dX4_netAll_4 : decode cX4_netAll 4 = .ok (.iconst 0, 1) := daX4_netAll_0 (4, .iconst 0, 1) (List.mem_of_getElem? (i := 2) rfl)
theorem dX4_netAll_5 : decode cX4_netAll 5 = .ok (.aload_n 0, 1) := daX4_netAll_0 (5, .aload_n 0, 1) (List.mem_of_getElem? (i := 3) rfl)
theorem dX4_netAll_6 : decode cX4_netAll 6 = .ok (.getfield 22, 3) := daX4_netAll_0 (6, .getfield 22, 3) (List.mem_of_getElem? (i := 4) rfl)
theorem dX4_netAll_9 : decode cX4_netAll 9 = .ok (.iconst 0, 1) := daX4_netAll_0 (9, .iconst 0, 1) (List.mem_of_getElem? (i := 5) rfl)
theorem dX4_netAll_10 : decode cX4_netAll 10 = .ok (.bipush 12, 2) := daX4_netAll_0 (10, .bipush 12, 2) (List.mem_of_getElem? (i := 6) rfl)
theorem dX4_netAll_12 : decode cX4_netAll 12 = .ok (.invokestatic 53, 3) := daX4_netAll_0 (12, .invokestatic 53, 3) (List.mem_of_getElem? (i := 7) rfl)
theorem dX4_netAll_15 : decode cX4_netAll 15 = .ok (.iconst 0, 1) := daX4_netAll_0 (15, .iconst 0, 1) (List.mem_of_getElem? (i := 8) rfl)
theorem dX4_netAll_16 : decode cX4_netAll 16 = .ok (.istore_n 2, 1) := daX4_netAll_0 (16, .istore_n 2, 1) (List.mem_of_getElem? (i := 9) rfl)
theorem dX4_netAll_17 : decode cX4_netAll 17 = .ok (.iload_n 2, 1) := daX4_netAll_0 (17, .iload_n 2, 1) (List.mem_of_getElem? (i := 10) rfl)
theorem dX4_netAll_18 : decode cX4_netAll 18 = .ok (.iconst 4, 1) := daX4_netAll_0 (18, .iconst 4, 1) (List.mem_of_getElem? (i := 11) rfl)
theorem dX4_netAll_19 : decode cX4_netAll 19 = .ok (.if_icmp .ge 21, 3) := daX4_netAll_0 (19, .if_icmp .ge 21, 3) (List.mem_of_getElem? (i := 12) rfl)
theorem dX4_netAll_22 : decode cX4_netAll 22 = .ok (.aload_n 0, 1) := daX4_netAll_0 (22, .aload_n 0, 1) (List.mem_of_getElem? (i := 13) rfl)
theorem dX4_netAll_23 : decode cX4_netAll 23 = .ok (.aload_n 1, 1) := daX4_netAll_0 (23, .aload_n 1, 1) (List.mem_of_getElem? (i := 14) rfl)
theorem dX4_netAll_24 : decode cX4_netAll 24 = .ok (.iload_n 2, 1) := daX4_netAll_0 (24, .iload_n 2, 1) (List.mem_of_getElem? (i := 15) rfl)
theorem dX4_netAll_25 : decode cX4_netAll 25 = .ok (.invokevirtual 59, 3) := daX4_netAll_0 (25, .invokevirtual 59, 3) (List.mem_of_getElem? (i := 16) rfl)
theorem dX4_netAll_28 : decode cX4_netAll 28 = .ok (.aload_n 0, 1) := daX4_netAll_0 (28, .aload_n 0, 1) (List.mem_of_getElem? (i := 17) rfl)
theorem dX4_netAll_29 : decode cX4_netAll 29 = .ok (.aload_n 1, 1) := daX4_netAll_0 (29, .aload_n 1, 1) (List.mem_of_getElem? (i := 18) rfl)
