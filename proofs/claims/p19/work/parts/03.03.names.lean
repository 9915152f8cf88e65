theorem dX10_settled_27 : decode cX10_settled 27 = .ok (.iload_n 2, 1) := by decide +kernel
theorem dX10_settled_28 : decode cX10_settled 28 = .ok (.iconst 1, 1) := by decide +kernel
theorem dX10_settled_29 : decode cX10_settled 29 = .ok (.if_icmp .ne 15, 3) := by decide +kernel
theorem dX10_settled_32 : decode cX10_settled 32 = .ok (.aload_n 0, 1) := by decide +kernel
theorem dX10_settled_33 : decode cX10_settled 33 = .ok (.getfield 57, 3) := by decide +kernel
theorem dX10_settled_36 : decode cX10_settled 36 = .ok (.getfield 291, 3) := by decide +kernel
theorem dX10_settled_39 : decode cX10_settled 39 = .ok (.iload_n 1, 1) := by decide +kernel
theorem dX10_settled_40 : decode cX10_settled 40 = .ok (.iaload, 1) := by decide +kernel
theorem dX10_settled_41 : decode cX10_settled 41 = .ok (.goto 4, 3) := by decide +kernel
theorem dX10_settled_44 : decode cX10_settled 44 = .ok (.iconst (-1), 1) := by decide +kernel
theorem dX10_settled_45 : decode cX10_settled 45 = .ok (.ireturn, 1) := by decide +kernel
set_option maxRecDepth 20000 in
theorem ggX10_due_X10_isTown : GoodIn wsX10_due wsX10_isTown := goodIn_sub (show ∀ w ∈ wsX10_isTown, w ∈ wsX10_due from (List.forall_mem_cons.mpr ⟨List.mem_cons_of_mem _ (List.mem_append_left _ (List.mem_append_left _ (List.mem_of_getElem? (i := 5) rfl))), (List.forall_mem_cons.mpr ⟨List.mem_cons_of_mem _ (List.mem_append_left _ (List.mem_append_left _ (List.mem_of_getElem? (i := 6) rfl))), (List.forall_mem_cons.mpr ⟨List.mem_cons_of_mem _ (List.mem_append_left _ (List.mem_append_left _ (List.mem_of_getElem? (i := 7) rfl))), (List.forall_mem_cons.mpr ⟨List.mem_cons_of_mem _ (List.mem_append_left _ (List.mem_append_left _ (List.mem_of_getElem? (i := 4) rfl))), (List.forall_mem_cons.mpr ⟨List.mem_cons_of_mem _ (List.mem_append_left _ (List.mem_append_left _ (List.mem_of_getElem? (i := 8) rfl))), (fun _ h => absurd h List.not_mem_nil)⟩)⟩)⟩)⟩)⟩)) (by decide +kernel)
set_option maxRecDepth 20000 in
theorem gX10_due_X10_isTown : GoodIn wsX10_due (va_wsS RX10 86 yX10_isTown wsX10_isTown) := goodIn_app (goodIn_sub (List.forall_mem_cons.mpr ⟨List.mem_cons_of_mem _ (List.mem_append_left _ (List.mem_append_left _ (List.mem_of_getElem? (i := 2) rfl))), (List.forall_mem_cons.mpr ⟨List.mem_cons_of_mem _ (List.mem_append_left _ (List.mem_append_left _ (List.mem_of_getElem? (i := 3) rfl))), (List.forall_mem_cons.mpr ⟨List.mem_cons_of_mem _ (List.mem_append_left _ (List.mem_append_left _ (List.mem_of_getElem? (i := 4) rfl))), (fun _ h => absurd h List.not_mem_nil)⟩)⟩)⟩) (by decide +kernel)) ggX10_due_X10_isTown
theorem dX10_due_0 : decode cX10_due 0 = .ok (.iload_n 1, 1) := by decide +kernel
theorem dX10_due_1 : decode cX10_due 1 = .ok (.invokestatic 86, 3) := by decide +kernel
theorem dX10_due_4 : decode cX10_due 4 = .ok (.ifCond .eq 15, 3) := by decide +kernel
theorem dX10_due_7 : decode cX10_due 7 = .ok (.aload_n 0, 1) := by decide +kernel
theorem dX10_due_8 : decode cX10_due 8 = .ok (.getfield 57, 3) := by decide +kernel
theorem dX10_due_11 : decode cX10_due 11 = .ok (.getfield 274, 3) := by decide +kernel
theorem dX10_due_14 : decode cX10_due 14 = .ok (.iload_n 1, 1) := by decide +kernel
theorem dX10_due_15 : decode cX10_due 15 = .ok (.laload, 1) := by decide +kernel
theorem dX10_due_16 : decode cX10_due 16 = .ok (.goto 4, 3) := by decide +kernel
theorem dX10_due_19 : decode cX10_due 19 = .ok (.lconst 0, 1) := by decide +kernel
theorem dX10_due_20 : decode cX10_due 20 = .ok (.lreturn, 1) := by decide +kernel
theorem dX10_netted_0 : decode cX10_netted 0 = .ok (.iload_n 1, 1) := by decide +kernel
theorem dX10_netted_1 : decode cX10_netted 1 = .ok (.ifCond .lt 14, 3) := by decide +kernel
theorem dX10_netted_4 : decode cX10_netted 4 = .ok (.iload_n 1, 1) := by decide +kernel
theorem dX10_netted_5 : decode cX10_netted 5 = .ok (.aload_n 0, 1) := by decide +kernel
theorem dX10_netted_6 : decode cX10_netted 6 = .ok (.getfield 57, 3) := by decide +kernel
theorem dX10_netted_9 : decode cX10_netted 9 = .ok (.getfield 294, 3) := by decide +kernel
theorem dX10_netted_12 : decode cX10_netted 12 = .ok (.if_icmp .lt 7, 3) := by decide +kernel
theorem dX10_netted_15 : decode cX10_netted 15 = .ok (.ldc2_w 297, 3) := by decide +kernel
theorem dX10_netted_18 : decode cX10_netted 18 = .ok (.lreturn, 1) := by decide +kernel
theorem dX10_netted_19 : decode cX10_netted 19 = .ok (.iload_n 2, 1) := by decide +kernel
theorem dX10_netted_20 : decode cX10_netted 20 = .ok (.tableswitch 75 0 3 #[32, 43, 54, 64], 32) := by decide +kernel
theorem dX10_netted_52 : decode cX10_netted 52 = .ok (.aload_n 0, 1) := by decide +kernel
theorem dX10_netted_53 : decode cX10_netted 53 = .ok (.getfield 57, 3) := by decide +kernel
theorem dX10_netted_56 : decode cX10_netted 56 = .ok (.getfield 299, 3) := by decide +kernel
theorem dX10_netted_59 : decode cX10_netted 59 = .ok (.iload_n 1, 1) := by decide +kernel
theorem dX10_netted_60 : decode cX10_netted 60 = .ok (.iaload, 1) := by decide +kernel
theorem dX10_netted_61 : decode cX10_netted 61 = .ok (.i2l, 1) := by decide +kernel
theorem dX10_netted_62 : decode cX10_netted 62 = .ok (.lreturn, 1) := by decide +kernel
theorem dX10_netted_63 : decode cX10_netted 63 = .ok (.aload_n 0, 1) := by decide +kernel
theorem dX10_netted_64 : decode cX10_netted 64 = .ok (.getfield 57, 3) := by decide +kernel
theorem dX10_netted_67 : decode cX10_netted 67 = .ok (.getfield 302, 3) := by decide +kernel
theorem dX10_netted_70 : decode cX10_netted 70 = .ok (.iload_n 1, 1) := by decide +kernel
theorem dX10_netted_71 : decode cX10_netted 71 = .ok (.iaload, 1) := by decide +kernel
theorem dX10_netted_72 : decode cX10_netted 72 = .ok (.i2l, 1) := by decide +kernel
theorem dX10_netted_73 : decode cX10_netted 73 = .ok (.lreturn, 1) := by decide +kernel
theorem dX10_netted_74 : decode cX10_netted 74 = .ok (.aload_n 0, 1) := by decide +kernel
theorem dX10_netted_75 : decode cX10_netted 75 = .ok (.getfield 57, 3) := by decide +kernel
theorem dX10_netted_78 : decode cX10_netted 78 = .ok (.getfield 305, 3) := by decide +kernel
theorem dX10_netted_81 : decode cX10_netted 81 = .ok (.iload_n 1, 1) := by decide +kernel
theorem dX10_netted_82 : decode cX10_netted 82 = .ok (.laload, 1) := by decide +kernel
theorem dX10_netted_83 : decode cX10_netted 83 = .ok (.lreturn, 1) := by decide +kernel
theorem dX10_netted_84 : decode cX10_netted 84 = .ok (.aload_n 0, 1) := by decide +kernel
theorem dX10_netted_85 : decode cX10_netted 85 = .ok (.getfield 57, 3) := by decide +kernel
theorem dX10_netted_88 : decode cX10_netted 88 = .ok (.getfield 308, 3) := by decide +kernel
theorem dX10_netted_91 : decode cX10_netted 91 = .ok (.iload_n 1, 1) := by decide +kernel
theorem dX10_netted_92 : decode cX10_netted 92 = .ok (.iaload, 1) := by decide +kernel
theorem dX10_netted_93 : decode cX10_netted 93 = .ok (.i2l, 1) := by decide +kernel
theorem dX10_netted_94 : decode cX10_netted 94 = .ok (.lreturn, 1) := by decide +kernel
theorem dX10_netted_95 : decode cX10_netted 95 = .ok (.ldc2_w 297, 3) := by decide +kernel
theorem dX10_netted_98 : decode cX10_netted 98 = .ok (.lreturn, 1) := by decide +kernel
set_option maxRecDepth 20000 in
theorem ggX10_count_X10_isWithin : GoodIn wsX10_count wsX10_isWithin := goodIn_sub (show ∀ w ∈ wsX10_isWithin, w ∈ wsX10_count from (List.forall_mem_cons.mpr ⟨List.mem_cons_of_mem _ (List.mem_append_left _ (List.mem_append_left _ (List.mem_append_left _ (List.mem_append_left _ (List.mem_append_left _ (List.mem_append_left _ (List.mem_of_getElem? (i := 18) rfl))))))), (fun _ h => absurd h List.not_mem_nil)⟩)) (by decide +kernel)
set_option maxRecDepth 20000 in
theorem gX10_count_X10_isWithin : GoodIn wsX10_count (va_wsS RX10 90 yX10_isWithin wsX10_isWithin) := goodIn_app (goodIn_sub (List.forall_mem_cons.mpr ⟨List.mem_cons_of_mem _ (List.mem_append_left _ (List.mem_append_left _ (List.mem_append_left _ (List.mem_append_left _ (List.mem_append_left _ (List.mem_append_left _ (List.mem_of_getElem? (i := 15) rfl))))))), (List.forall_mem_cons.mpr ⟨List.mem_cons_of_mem _ (List.mem_append_left _ (List.mem_append_left _ (List.mem_append_left _ (List.mem_append_left _ (List.mem_append_left _ (List.mem_append_left _ (List.mem_of_getElem? (i := 16) rfl))))))), (List.forall_mem_cons.mpr ⟨List.mem_cons_of_mem _ (List.mem_append_left _ (List.mem_append_left _ (List.mem_append_left _ (List.mem_append_left _ (List.mem_append_left _ (List.mem_append_left _ (List.mem_of_getElem? (i := 17) rfl))))))), (fun _ h => absurd h List.not_mem_nil)⟩)⟩)⟩) (by decide +kernel)) ggX10_count_X10_isWithin
theorem dX10_count_0 : decode cX10_count 0 = .ok (.iload_n 1, 1) := by decide +kernel
theorem dX10_count_1 : decode cX10_count 1 = .ok (.bipush 10, 2) := by decide +kernel
theorem dX10_count_3 : decode cX10_count 3 = .ok (.bipush 21, 2) := by decide +kernel
theorem dX10_count_5 : decode cX10_count 5 = .ok (.invokestatic 90, 3) := by decide +kernel
theorem dX10_count_8 : decode cX10_count 8 = .ok (.ifCond .eq 19, 3) := by decide +kernel
theorem dX10_count_11 : decode cX10_count 11 = .ok (.aload_n 0, 1) := by decide +kernel
theorem dX10_count_12 : decode cX10_count 12 = .ok (.getfield 18, 3) := by decide +kernel
theorem dX10_count_15 : decode cX10_count 15 = .ok (.iload_n 1, 1) := by decide +kernel
theorem dX10_count_16 : decode cX10_count 16 = .ok (.bipush 10, 2) := by decide +kernel
theorem dX10_count_18 : decode cX10_count 18 = .ok (.isub, 1) := by decide +kernel
theorem dX10_count_19 : decode cX10_count 19 = .ok (.aaload, 1) := by decide +kernel
theorem dX10_count_20 : decode cX10_count 20 = .ok (.getfield 165, 3) := by decide +kernel
theorem dX10_count_23 : decode cX10_count 23 = .ok (.getfield 168, 3) := by decide +kernel
theorem dX10_count_26 : decode cX10_count 26 = .ok (.ireturn, 1) := by decide +kernel
theorem dX10_count_27 : decode cX10_count 27 = .ok (.iload_n 1, 1) := by decide +kernel
theorem dX10_count_28 : decode cX10_count 28 = .ok (.bipush 30, 2) := by decide +kernel
theorem dX10_count_30 : decode cX10_count 30 = .ok (.bipush 33, 2) := by decide +kernel
theorem dX10_count_32 : decode cX10_count 32 = .ok (.invokestatic 90, 3) := by decide +kernel
theorem dX10_count_35 : decode cX10_count 35 = .ok (.ifCond .eq 16, 3) := by decide +kernel
theorem dX10_count_38 : decode cX10_count 38 = .ok (.aload_n 0, 1) := by decide +kernel
theorem dX10_count_39 : decode cX10_count 39 = .ok (.getfield 75, 3) := by decide +kernel
theorem dX10_count_42 : decode cX10_count 42 = .ok (.getfield 311, 3) := by decide +kernel
theorem dX10_count_45 : decode cX10_count 45 = .ok (.iload_n 1, 1) := by decide +kernel
theorem dX10_count_46 : decode cX10_count 46 = .ok (.bipush 30, 2) := by decide +kernel
theorem dX10_count_48 : decode cX10_count 48 = .ok (.isub, 1) := by decide +kernel
theorem dX10_count_49 : decode cX10_count 49 = .ok (.iaload, 1) := by decide +kernel
theorem dX10_count_50 : decode cX10_count 50 = .ok (.ireturn, 1) := by decide +kernel
theorem dX10_count_51 : decode cX10_count 51 = .ok (.iload_n 1, 1) := by decide +kernel
theorem dX10_count_52 : decode cX10_count 52 = .ok (.lookupswitch 125 #[(0, 76), (1, 81), (2, 86), (3, 91), (4, 96), (5, 101), (6, 109), (34, 117)], 76) := by decide +kernel
theorem dX10_count_128 : decode cX10_count 128 = .ok (.aload_n 0, 1) := by decide +kernel
theorem dX10_count_129 : decode cX10_count 129 = .ok (.getfield 82, 3) := by decide +kernel
theorem dX10_count_132 : decode cX10_count 132 = .ok (.ireturn, 1) := by decide +kernel
theorem dX10_count_133 : decode cX10_count 133 = .ok (.aload_n 0, 1) := by decide +kernel
theorem dX10_count_134 : decode cX10_count 134 = .ok (.getfield 314, 3) := by decide +kernel
theorem dX10_count_137 : decode cX10_count 137 = .ok (.ireturn, 1) := by decide +kernel
theorem dX10_count_138 : decode cX10_count 138 = .ok (.aload_n 0, 1) := by decide +kernel
theorem dX10_count_139 : decode cX10_count 139 = .ok (.getfield 109, 3) := by decide +kernel
theorem dX10_count_142 : decode cX10_count 142 = .ok (.ireturn, 1) := by decide +kernel
theorem dX10_count_143 : decode cX10_count 143 = .ok (.aload_n 0, 1) := by decide +kernel
theorem dX10_count_144 : decode cX10_count 144 = .ok (.getfield 138, 3) := by decide +kernel
theorem dX10_count_147 : decode cX10_count 147 = .ok (.ireturn, 1) := by decide +kernel
theorem dX10_count_148 : decode cX10_count 148 = .ok (.aload_n 0, 1) := by decide +kernel
theorem dX10_count_149 : decode cX10_count 149 = .ok (.getfield 172, 3) := by decide +kernel
theorem dX10_count_152 : decode cX10_count 152 = .ok (.ireturn, 1) := by decide +kernel
theorem dX10_count_153 : decode cX10_count 153 = .ok (.aload_n 0, 1) := by decide +kernel
theorem dX10_count_154 : decode cX10_count 154 = .ok (.getfield 50, 3) := by decide +kernel
theorem dX10_count_157 : decode cX10_count 157 = .ok (.getfield 158, 3) := by decide +kernel
theorem dX10_count_160 : decode cX10_count 160 = .ok (.ireturn, 1) := by decide +kernel
theorem dX10_count_161 : decode cX10_count 161 = .ok (.aload_n 0, 1) := by decide +kernel
theorem dX10_count_162 : decode cX10_count 162 = .ok (.getfield 57, 3) := by decide +kernel
theorem dX10_count_165 : decode cX10_count 165 = .ok (.getfield 294, 3) := by decide +kernel
theorem dX10_count_168 : decode cX10_count 168 = .ok (.ireturn, 1) := by decide +kernel
theorem dX10_count_169 : decode cX10_count 169 = .ok (.aload_n 0, 1) := by decide +kernel
theorem dX10_count_170 : decode cX10_count 170 = .ok (.getfield 75, 3) := by decide +kernel
theorem dX10_count_173 : decode cX10_count 173 = .ok (.getfield 317, 3) := by decide +kernel
theorem dX10_count_176 : decode cX10_count 176 = .ok (.ireturn, 1) := by decide +kernel
theorem dX10_count_177 : decode cX10_count 177 = .ok (.iconst (-1), 1) := by decide +kernel
theorem dX10_count_178 : decode cX10_count 178 = .ok (.ireturn, 1) := by decide +kernel
set_option maxRecDepth 20000 in
theorem ggX10_addPaper_X10_isHand : GoodIn wsX10_addPaper wsX10_isHand := goodIn_sub (show ∀ w ∈ wsX10_isHand, w ∈ wsX10_addPaper from (List.forall_mem_cons.mpr ⟨List.mem_cons_of_mem _ (List.mem_append_left _ (List.mem_append_left _ (List.mem_append_left _ (List.mem_of_getElem? (i := 9) rfl)))), (List.forall_mem_cons.mpr ⟨List.mem_cons_of_mem _ (List.mem_append_left _ (List.mem_append_left _ (List.mem_append_left _ (List.mem_of_getElem? (i := 10) rfl)))), (List.forall_mem_cons.mpr ⟨List.mem_cons_of_mem _ (List.mem_append_left _ (List.mem_append_left _ (List.mem_append_left _ (List.mem_of_getElem? (i := 11) rfl)))), (List.forall_mem_cons.mpr ⟨List.mem_cons_of_mem _ (List.mem_append_left _ (List.mem_append_left _ (List.mem_append_left _ (List.mem_of_getElem? (i := 12) rfl)))), (List.forall_mem_cons.mpr ⟨List.mem_cons_of_mem _ (List.mem_append_left _ (List.mem_append_left _ (List.mem_append_left _ (List.mem_of_getElem? (i := 8) rfl)))), (List.forall_mem_cons.mpr ⟨List.mem_cons_of_mem _ (List.mem_append_left _ (List.mem_append_left _ (List.mem_append_left _ (List.mem_of_getElem? (i := 13) rfl)))), (fun _ h => absurd h List.not_mem_nil)⟩)⟩)⟩)⟩)⟩)⟩)) (by decide +kernel)
set_option maxRecDepth 20000 in
theorem gX10_addPaper_X10_isHand : GoodIn wsX10_addPaper (va_wsS RX10 175 yX10_isHand wsX10_isHand) := goodIn_app (goodIn_sub (List.forall_mem_cons.mpr ⟨List.mem_cons_of_mem _ (List.mem_append_left _ (List.mem_append_left _ (List.mem_append_left _ (List.mem_of_getElem? (i := 6) rfl)))), (List.forall_mem_cons.mpr ⟨List.mem_cons_of_mem _ (List.mem_append_left _ (List.mem_append_left _ (List.mem_append_left _ (List.mem_of_getElem? (i := 7) rfl)))), (List.forall_mem_cons.mpr ⟨List.mem_cons_of_mem _ (List.mem_append_left _ (List.mem_append_left _ (List.mem_append_left _ (List.mem_of_getElem? (i := 8) rfl)))), (fun _ h => absurd h List.not_mem_nil)⟩)⟩)⟩) (by decide +kernel)) ggX10_addPaper_X10_isHand
set_option maxRecDepth 20000 in
theorem ggX10_addPaper_X10_isWithin : GoodIn wsX10_addPaper wsX10_isWithin := goodIn_sub (show ∀ w ∈ wsX10_isWithin, w ∈ wsX10_addPaper from (List.forall_mem_cons.mpr ⟨List.mem_cons_of_mem _ (List.mem_append_left _ (List.mem_append_left _ (List.mem_append_left _ (List.mem_of_getElem? (i := 13) rfl)))), (fun _ h => absurd h List.not_mem_nil)⟩)) (by decide +kernel)
set_option maxRecDepth 20000 in
theorem gX10_addPaper_X10_isWithin : GoodIn wsX10_addPaper (va_wsS RX10 90 yX10_isWithin wsX10_isWithin) := goodIn_app (goodIn_sub (List.forall_mem_cons.mpr ⟨List.mem_cons_of_mem _ (List.mem_append_left _ (List.mem_append_left _ (List.mem_append_left _ (List.mem_of_getElem? (i := 11) rfl)))), (List.forall_mem_cons.mpr ⟨List.mem_cons_of_mem _ (List.mem_append_left _ (List.mem_append_left _ (List.mem_append_left _ (List.mem_of_getElem? (i := 12) rfl)))), (List.forall_mem_cons.mpr ⟨List.mem_cons_of_mem _ (List.mem_append_left _ (List.mem_append_left _ (List.mem_append_left _ (List.mem_of_getElem? (i := 8) rfl)))), (fun _ h => absurd h List.not_mem_nil)⟩)⟩)⟩) (by decide +kernel)) ggX10_addPaper_X10_isWithin
set_option maxRecDepth 20000 in
theorem ggX10_addPaper_X3_init : GoodIn wsX10_addPaper wsX3_init := goodIn_sub (show ∀ w ∈ wsX3_init, w ∈ wsX10_addPaper from (List.forall_mem_cons.mpr ⟨List.mem_cons_of_mem _ (List.mem_append_left _ (List.mem_append_left _ (List.mem_append_left _ (List.mem_of_getElem? (i := 16) rfl)))), (gw_a (List.forall_mem_cons.mpr ⟨List.mem_cons_of_mem _ (List.mem_append_left _ (List.mem_append_left _ (List.mem_append_left _ (List.mem_of_getElem? (i := 17) rfl)))), (List.forall_mem_cons.mpr ⟨List.mem_cons_of_mem _ (List.mem_append_left _ (List.mem_append_left _ (List.mem_append_left _ (List.mem_of_getElem? (i := 18) rfl)))), (List.forall_mem_cons.mpr ⟨List.mem_cons_of_mem _ (List.mem_append_left _ (List.mem_append_left _ (List.mem_append_left _ (List.mem_of_getElem? (i := 19) rfl)))), (List.forall_mem_cons.mpr ⟨List.mem_cons_of_mem _ (List.mem_append_left _ (List.mem_append_left _ (List.mem_append_left _ (List.mem_of_getElem? (i := 20) rfl)))), (List.forall_mem_cons.mpr ⟨List.mem_cons_of_mem _ (List.mem_append_left _ (List.mem_append_left _ (List.mem_append_left _ (List.mem_of_getElem? (i := 21) rfl)))), (List.forall_mem_cons.mpr ⟨List.mem_cons_of_mem _ (List.mem_append_left _ (List.mem_append_left _ (List.mem_append_left _ (List.mem_of_getElem? (i := 22) rfl)))), (List.forall_mem_cons.mpr ⟨List.mem_cons_of_mem _ (List.mem_append_left _ (List.mem_append_left _ (List.mem_append_left _ (List.mem_of_getElem? (i := 23) rfl)))), (List.forall_mem_cons.mpr ⟨List.mem_cons_of_mem _ (List.mem_append_left _ (List.mem_append_left _ (List.mem_append_right _ (List.mem_of_getElem? (i := 0) rfl)))), (List.forall_mem_cons.mpr ⟨List.mem_cons_of_mem _ (List.mem_append_left _ (List.mem_append_left _ (List.mem_append_right _ (List.mem_of_getElem? (i := 1) rfl)))), (List.forall_mem_cons.mpr ⟨List.mem_cons_of_mem _ (List.mem_append_left _ (List.mem_append_left _ (List.mem_append_right _ (List.mem_of_getElem? (i := 2) rfl)))), (fun _ h => absurd h List.not_mem_nil)⟩)⟩)⟩)⟩)⟩)⟩)⟩)⟩)⟩)⟩) (fun _ h => List.mem_cons_of_mem _ (List.mem_append_right _ (h))))⟩)) (by decide +kernel)
set_option maxRecDepth 20000 in
theorem gX10_addPaper_X3_init : GoodIn wsX10_addPaper (wsX3_init) := ggX10_addPaper_X3_init
theorem dX10_addPaper_0 : decode cX10_addPaper 0 = .ok (.aload_n 0, 1) := by decide +kernel
theorem dX10_addPaper_1 : decode cX10_addPaper 1 = .ok (.getfield 314, 3) := by decide +kernel
theorem dX10_addPaper_4 : decode cX10_addPaper 4 = .ok (.bipush 30, 2) := by decide +kernel
theorem dX10_addPaper_6 : decode cX10_addPaper 6 = .ok (.if_icmp .ge 22, 3) := by decide +kernel
theorem dX10_addPaper_9 : decode cX10_addPaper 9 = .ok (.iload_n 3, 1) := by decide +kernel
theorem dX10_addPaper_10 : decode cX10_addPaper 10 = .ok (.invokestatic 175, 3) := by decide +kernel
theorem dX10_addPaper_13 : decode cX10_addPaper 13 = .ok (.ifCond .eq 15, 3) := by decide +kernel
theorem dX10_addPaper_16 : decode cX10_addPaper 16 = .ok (.iload 4, 2) := by decide +kernel
theorem dX10_addPaper_18 : decode cX10_addPaper 18 = .ok (.iconst 1, 1) := by decide +kernel
theorem dX10_addPaper_19 : decode cX10_addPaper 19 = .ok (.sipush 2000, 3) := by decide +kernel
theorem dX10_addPaper_22 : decode cX10_addPaper 22 = .ok (.invokestatic 90, 3) := by decide +kernel
theorem dX10_addPaper_25 : decode cX10_addPaper 25 = .ok (.ifCond .ne 5, 3) := by decide +kernel
theorem dX10_addPaper_28 : decode cX10_addPaper 28 = .ok (.iconst (-1), 1) := by decide +kernel
theorem dX10_addPaper_29 : decode cX10_addPaper 29 = .ok (.ireturn, 1) := by decide +kernel
theorem dX10_addPaper_30 : decode cX10_addPaper 30 = .ok (.aload_n 0, 1) := by decide +kernel
theorem dX10_addPaper_31 : decode cX10_addPaper 31 = .ok (.getfield 25, 3) := by decide +kernel
theorem dX10_addPaper_34 : decode cX10_addPaper 34 = .ok (.aload_n 0, 1) := by decide +kernel
theorem dX10_addPaper_35 : decode cX10_addPaper 35 = .ok (.getfield 314, 3) := by decide +kernel
theorem dX10_addPaper_38 : decode cX10_addPaper 38 = .ok (.new 23, 3) := by decide +kernel
theorem dX10_addPaper_41 : decode cX10_addPaper 41 = .ok (.dup, 1) := by decide +kernel
theorem dX10_addPaper_42 : decode cX10_addPaper 42 = .ok (.iload_n 1, 1) := by decide +kernel
theorem dX10_addPaper_43 : decode cX10_addPaper 43 = .ok (.iload_n 2, 1) := by decide +kernel
theorem dX10_addPaper_44 : decode cX10_addPaper 44 = .ok (.iload_n 3, 1) := by decide +kernel
theorem dX10_addPaper_45 : decode cX10_addPaper 45 = .ok (.iload 4, 2) := by decide +kernel
theorem dX10_addPaper_47 : decode cX10_addPaper 47 = .ok (.aload_n 0, 1) := by decide +kernel
theorem dX10_addPaper_48 : decode cX10_addPaper 48 = .ok (.getfield 82, 3) := by decide +kernel
theorem dX10_addPaper_51 : decode cX10_addPaper 51 = .ok (.invokespecial 320, 3) := by decide +kernel
theorem dX10_addPaper_54 : decode cX10_addPaper 54 = .ok (.aastore, 1) := by decide +kernel
theorem dX10_addPaper_55 : decode cX10_addPaper 55 = .ok (.aload_n 0, 1) := by decide +kernel
theorem dX10_addPaper_56 : decode cX10_addPaper 56 = .ok (.dup, 1) := by decide +kernel
theorem dX10_addPaper_57 : decode cX10_addPaper 57 = .ok (.getfield 314, 3) := by decide +kernel
theorem dX10_addPaper_60 : decode cX10_addPaper 60 = .ok (.iconst 1, 1) := by decide +kernel
theorem dX10_addPaper_61 : decode cX10_addPaper 61 = .ok (.iadd, 1) := by decide +kernel
theorem dX10_addPaper_62 : decode cX10_addPaper 62 = .ok (.putfield 314, 3) := by decide +kernel
theorem dX10_addPaper_65 : decode cX10_addPaper 65 = .ok (.aload_n 0, 1) := by decide +kernel
theorem dX10_addPaper_66 : decode cX10_addPaper 66 = .ok (.getfield 314, 3) := by decide +kernel
theorem dX10_addPaper_69 : decode cX10_addPaper 69 = .ok (.iconst 1, 1) := by decide +kernel
theorem dX10_addPaper_70 : decode cX10_addPaper 70 = .ok (.isub, 1) := by decide +kernel
theorem dX10_addPaper_71 : decode cX10_addPaper 71 = .ok (.ireturn, 1) := by decide +kernel
theorem dX10_paperAt_0 : decode cX10_paperAt 0 = .ok (.iload_n 1, 1) := by decide +kernel
theorem dX10_paperAt_1 : decode cX10_paperAt 1 = .ok (.ifCond .lt 20, 3) := by decide +kernel
theorem dX10_paperAt_4 : decode cX10_paperAt 4 = .ok (.iload_n 1, 1) := by decide +kernel
theorem dX10_paperAt_5 : decode cX10_paperAt 5 = .ok (.aload_n 0, 1) := by decide +kernel
theorem dX10_paperAt_6 : decode cX10_paperAt 6 = .ok (.getfield 314, 3) := by decide +kernel
theorem dX10_paperAt_9 : decode cX10_paperAt 9 = .ok (.if_icmp .ge 12, 3) := by decide +kernel
theorem dX10_paperAt_12 : decode cX10_paperAt 12 = .ok (.aload_n 0, 1) := by decide +kernel
theorem dX10_paperAt_13 : decode cX10_paperAt 13 = .ok (.getfield 25, 3) := by decide +kernel
theorem dX10_paperAt_16 : decode cX10_paperAt 16 = .ok (.iload_n 1, 1) := by decide +kernel
theorem dX10_paperAt_17 : decode cX10_paperAt 17 = .ok (.aaload, 1) := by decide +kernel
theorem dX10_paperAt_18 : decode cX10_paperAt 18 = .ok (.goto 4, 3) := by decide +kernel
theorem dX10_paperAt_21 : decode cX10_paperAt 21 = .ok (.aconst_null, 1) := by decide +kernel
theorem dX10_paperAt_22 : decode cX10_paperAt 22 = .ok (.areturn, 1) := by decide +kernel
theorem dX10_adviceAt_0 : decode cX10_adviceAt 0 = .ok (.iload_n 1, 1) := by decide +kernel
theorem dX10_adviceAt_1 : decode cX10_adviceAt 1 = .ok (.ifCond .lt 20, 3) := by decide +kernel
theorem dX10_adviceAt_4 : decode cX10_adviceAt 4 = .ok (.iload_n 1, 1) := by decide +kernel
theorem dX10_adviceAt_5 : decode cX10_adviceAt 5 = .ok (.aload_n 0, 1) := by decide +kernel
theorem dX10_adviceAt_6 : decode cX10_adviceAt 6 = .ok (.getfield 109, 3) := by decide +kernel
theorem dX10_adviceAt_9 : decode cX10_adviceAt 9 = .ok (.if_icmp .ge 12, 3) := by decide +kernel
theorem dX10_adviceAt_12 : decode cX10_adviceAt 12 = .ok (.aload_n 0, 1) := by decide +kernel
theorem dX10_adviceAt_13 : decode cX10_adviceAt 13 = .ok (.getfield 31, 3) := by decide +kernel
theorem dX10_adviceAt_16 : decode cX10_adviceAt 16 = .ok (.iload_n 1, 1) := by decide +kernel
theorem dX10_adviceAt_17 : decode cX10_adviceAt 17 = .ok (.aaload, 1) := by decide +kernel
theorem dX10_adviceAt_18 : decode cX10_adviceAt 18 = .ok (.goto 4, 3) := by decide +kernel
theorem dX10_adviceAt_21 : decode cX10_adviceAt 21 = .ok (.aconst_null, 1) := by decide +kernel
theorem dX10_adviceAt_22 : decode cX10_adviceAt 22 = .ok (.areturn, 1) := by decide +kernel
theorem dX10_stopAt_0 : decode cX10_stopAt 0 = .ok (.iload_n 1, 1) := by decide +kernel
theorem dX10_stopAt_1 : decode cX10_stopAt 1 = .ok (.ifCond .lt 20, 3) := by decide +kernel
theorem dX10_stopAt_4 : decode cX10_stopAt 4 = .ok (.iload_n 1, 1) := by decide +kernel
theorem dX10_stopAt_5 : decode cX10_stopAt 5 = .ok (.aload_n 0, 1) := by decide +kernel
theorem dX10_stopAt_6 : decode cX10_stopAt 6 = .ok (.getfield 138, 3) := by decide +kernel
theorem dX10_stopAt_9 : decode cX10_stopAt 9 = .ok (.if_icmp .ge 12, 3) := by decide +kernel
theorem dX10_stopAt_12 : decode cX10_stopAt 12 = .ok (.aload_n 0, 1) := by decide +kernel
theorem dX10_stopAt_13 : decode cX10_stopAt 13 = .ok (.getfield 37, 3) := by decide +kernel
theorem dX10_stopAt_16 : decode cX10_stopAt 16 = .ok (.iload_n 1, 1) := by decide +kernel
theorem dX10_stopAt_17 : decode cX10_stopAt 17 = .ok (.aaload, 1) := by decide +kernel
theorem dX10_stopAt_18 : decode cX10_stopAt 18 = .ok (.goto 4, 3) := by decide +kernel
theorem dX10_stopAt_21 : decode cX10_stopAt 21 = .ok (.aconst_null, 1) := by decide +kernel
theorem dX10_stopAt_22 : decode cX10_stopAt 22 = .ok (.areturn, 1) := by decide +kernel
theorem dX10_shownAt_0 : decode cX10_shownAt 0 = .ok (.iload_n 1, 1) := by decide +kernel
theorem dX10_shownAt_1 : decode cX10_shownAt 1 = .ok (.ifCond .lt 20, 3) := by decide +kernel
theorem dX10_shownAt_4 : decode cX10_shownAt 4 = .ok (.iload_n 1, 1) := by decide +kernel
theorem dX10_shownAt_5 : decode cX10_shownAt 5 = .ok (.aload_n 0, 1) := by decide +kernel
theorem dX10_shownAt_6 : decode cX10_shownAt 6 = .ok (.getfield 172, 3) := by decide +kernel
theorem dX10_shownAt_9 : decode cX10_shownAt 9 = .ok (.if_icmp .ge 12, 3) := by decide +kernel
theorem dX10_shownAt_12 : decode cX10_shownAt 12 = .ok (.aload_n 0, 1) := by decide +kernel
theorem dX10_shownAt_13 : decode cX10_shownAt 13 = .ok (.getfield 43, 3) := by decide +kernel
theorem dX10_shownAt_16 : decode cX10_shownAt 16 = .ok (.iload_n 1, 1) := by decide +kernel
theorem dX10_shownAt_17 : decode cX10_shownAt 17 = .ok (.aaload, 1) := by decide +kernel
theorem dX10_shownAt_18 : decode cX10_shownAt 18 = .ok (.goto 4, 3) := by decide +kernel
theorem dX10_shownAt_21 : decode cX10_shownAt 21 = .ok (.aconst_null, 1) := by decide +kernel
theorem dX10_shownAt_22 : decode cX10_shownAt 22 = .ok (.areturn, 1) := by decide +kernel
set_option maxRecDepth 20000 in
theorem ggX10_letterDay_X9_letterDays : GoodIn wsX10_letterDay wsX9_letterDays := goodIn_sub (show ∀ w ∈ wsX9_letterDays, w ∈ wsX10_letterDay from (List.forall_mem_cons.mpr ⟨List.mem_cons_of_mem _ (List.mem_append_left _ (List.mem_append_left _ (List.mem_append_left _ (List.mem_of_getElem? (i := 7) rfl)))), (gw_a (List.forall_mem_cons.mpr ⟨List.mem_cons_of_mem _ (List.mem_append_left _ (List.mem_append_left _ (List.mem_append_left _ (List.mem_of_getElem? (i := 8) rfl)))), (List.forall_mem_cons.mpr ⟨List.mem_cons_of_mem _ (List.mem_append_left _ (List.mem_append_left _ (List.mem_append_left _ (List.mem_of_getElem? (i := 9) rfl)))), (List.forall_mem_cons.mpr ⟨List.mem_cons_of_mem _ (List.mem_append_left _ (List.mem_append_left _ (List.mem_append_left _ (List.mem_of_getElem? (i := 10) rfl)))), (List.forall_mem_cons.mpr ⟨List.mem_cons_of_mem _ (List.mem_append_left _ (List.mem_append_left _ (List.mem_append_left _ (List.mem_of_getElem? (i := 6) rfl)))), (List.forall_mem_cons.mpr ⟨List.mem_cons_of_mem _ (List.mem_append_left _ (List.mem_append_left _ (List.mem_append_left _ (List.mem_of_getElem? (i := 11) rfl)))), (List.forall_mem_cons.mpr ⟨List.mem_cons_of_mem _ (List.mem_append_left _ (List.mem_append_left _ (List.mem_append_left _ (List.mem_of_getElem? (i := 12) rfl)))), (List.forall_mem_cons.mpr ⟨List.mem_cons_of_mem _ (List.mem_append_left _ (List.mem_append_left _ (List.mem_append_left _ (List.mem_of_getElem? (i := 13) rfl)))), (List.forall_mem_cons.mpr ⟨List.mem_cons_of_mem _ (List.mem_append_left _ (List.mem_append_left _ (List.mem_append_left _ (List.mem_of_getElem? (i := 14) rfl)))), (List.forall_mem_cons.mpr ⟨List.mem_cons_of_mem _ (List.mem_append_left _ (List.mem_append_left _ (List.mem_append_left _ (List.mem_of_getElem? (i := 15) rfl)))), (List.forall_mem_cons.mpr ⟨List.mem_cons_of_mem _ (List.mem_append_left _ (List.mem_append_left _ (List.mem_append_left _ (List.mem_of_getElem? (i := 16) rfl)))), (List.forall_mem_cons.mpr ⟨List.mem_cons_of_mem _ (List.mem_append_left _ (List.mem_append_left _ (List.mem_append_left _ (List.mem_of_getElem? (i := 17) rfl)))), (List.forall_mem_cons.mpr ⟨List.mem_cons_of_mem _ (List.mem_append_left _ (List.mem_append_left _ (List.mem_append_left _ (List.mem_of_getElem? (i := 18) rfl)))), (List.forall_mem_cons.mpr ⟨List.mem_cons_of_mem _ (List.mem_append_left _ (List.mem_append_left _ (List.mem_append_left _ (List.mem_of_getElem? (i := 19) rfl)))), (List.forall_mem_cons.mpr ⟨List.mem_cons_of_mem _ (List.mem_append_left _ (List.mem_append_left _ (List.mem_append_left _ (List.mem_of_getElem? (i := 20) rfl)))), (List.forall_mem_cons.mpr ⟨List.mem_cons_of_mem _ (List.mem_append_left _ (List.mem_append_left _ (List.mem_append_left _ (List.mem_of_getElem? (i := 21) rfl)))), (List.forall_mem_cons.mpr ⟨List.mem_cons_of_mem _ (List.mem_append_left _ (List.mem_append_left _ (List.mem_append_left _ (List.mem_of_getElem? (i := 22) rfl)))), (List.forall_mem_cons.mpr ⟨List.mem_cons_of_mem _ (List.mem_append_left _ (List.mem_append_left _ (List.mem_append_left _ (List.mem_of_getElem? (i := 23) rfl)))), (List.forall_mem_cons.mpr ⟨List.mem_cons_of_mem _ (List.mem_append_left _ (List.mem_append_left _ (List.mem_append_right _ (List.mem_of_getElem? (i := 0) rfl)))), (List.forall_mem_cons.mpr ⟨List.mem_cons_of_mem _ (List.mem_append_left _ (List.mem_append_left _ (List.mem_append_right _ (List.mem_of_getElem? (i := 1) rfl)))), (List.forall_mem_cons.mpr ⟨List.mem_cons_of_mem _ (List.mem_append_left _ (List.mem_append_left _ (List.mem_append_right _ (List.mem_of_getElem? (i := 2) rfl)))), (List.forall_mem_cons.mpr ⟨List.mem_cons_of_mem _ (List.mem_append_left _ (List.mem_append_left _ (List.mem_append_right _ (List.mem_of_getElem? (i := 3) rfl)))), (List.forall_mem_cons.mpr ⟨List.mem_cons_of_mem _ (List.mem_append_left _ (List.mem_append_left _ (List.mem_append_right _ (List.mem_of_getElem? (i := 4) rfl)))), (fun _ h => absurd h List.not_mem_nil)⟩)⟩)⟩)⟩)⟩)⟩)⟩)⟩)⟩)⟩)⟩)⟩)⟩)⟩)⟩)⟩)⟩)⟩)⟩)⟩)⟩)⟩) (fun _ h => List.mem_cons_of_mem _ (List.mem_append_right _ (h))))⟩)) (by decide +kernel)
set_option maxRecDepth 20000 in
theorem gX10_letterDay_X9_letterDays : GoodIn wsX10_letterDay (wsV RX10 323 RX9 yX9_letterDays wsX9_letterDays) := goodIn_app (goodIn_sub (List.forall_mem_cons.mpr ⟨List.mem_cons_of_mem _ (List.mem_append_left _ (List.mem_append_left _ (List.mem_append_left _ (List.mem_of_getElem? (i := 3) rfl)))), (List.forall_mem_cons.mpr ⟨List.mem_cons_of_mem _ (List.mem_append_left _ (List.mem_append_left _ (List.mem_append_left _ (List.mem_of_getElem? (i := 4) rfl)))), (List.forall_mem_cons.mpr ⟨List.mem_cons_of_mem _ (List.mem_append_left _ (List.mem_append_left _ (List.mem_append_left _ (List.mem_of_getElem? (i := 5) rfl)))), (List.forall_mem_cons.mpr ⟨List.mem_cons_of_mem _ (List.mem_append_left _ (List.mem_append_left _ (List.mem_append_left _ (List.mem_of_getElem? (i := 6) rfl)))), (fun _ h => absurd h List.not_mem_nil)⟩)⟩)⟩)⟩) (by decide +kernel)) ggX10_letterDay_X9_letterDays
theorem dX10_letterDay_0 : decode cX10_letterDay 0 = .ok (.aload_n 0, 1) := by decide +kernel
theorem dX10_letterDay_1 : decode cX10_letterDay 1 = .ok (.getfield 10, 3) := by decide +kernel
theorem dX10_letterDay_4 : decode cX10_letterDay 4 = .ok (.iload_n 1, 1) := by decide +kernel
theorem dX10_letterDay_5 : decode cX10_letterDay 5 = .ok (.invokevirtual 323, 3) := by decide +kernel
theorem dX10_letterDay_8 : decode cX10_letterDay 8 = .ok (.iload_n 2, 1) := by decide +kernel
theorem dX10_letterDay_9 : decode cX10_letterDay 9 = .ok (.iaload, 1) := by decide +kernel
theorem dX10_letterDay_10 : decode cX10_letterDay 10 = .ok (.istore_n 3, 1) := by decide +kernel
theorem dX10_letterDay_11 : decode cX10_letterDay 11 = .ok (.iload_n 3, 1) := by decide +kernel
theorem dX10_letterDay_12 : decode cX10_letterDay 12 = .ok (.ldc 213, 2) := by decide +kernel
theorem dX10_letterDay_14 : decode cX10_letterDay 14 = .ok (.if_icmp .ne 7, 3) := by decide +kernel
theorem dX10_letterDay_17 : decode cX10_letterDay 17 = .ok (.iconst (-1), 1) := by decide +kernel
theorem dX10_letterDay_18 : decode cX10_letterDay 18 = .ok (.goto 9, 3) := by decide +kernel
theorem dX10_letterDay_21 : decode cX10_letterDay 21 = .ok (.aload_n 0, 1) := by decide +kernel
theorem dX10_letterDay_22 : decode cX10_letterDay 22 = .ok (.getfield 82, 3) := by decide +kernel
theorem dX10_letterDay_25 : decode cX10_letterDay 25 = .ok (.iload_n 3, 1) := by decide +kernel
theorem dX10_letterDay_26 : decode cX10_letterDay 26 = .ok (.iadd, 1) := by decide +kernel
theorem dX10_letterDay_27 : decode cX10_letterDay 27 = .ok (.ireturn, 1) := by decide +kernel
set_option maxRecDepth 20000 in
theorem ggX10_gatherFacts_X10_isAdvised : GoodIn wsX10_gatherFacts wsX10_isAdvised := goodIn_sub (show ∀ w ∈ wsX10_isAdvised, w ∈ wsX10_gatherFacts from (List.forall_mem_cons.mpr ⟨List.mem_cons_of_mem _ (List.mem_append_left _ (List.mem_append_left _ (List.mem_append_left _ (List.mem_append_left _ (List.mem_append_left _ (List.mem_append_left _ (List.mem_of_getElem? (i := 13) rfl))))))), (gw_a (gw_a (gw_a (List.forall_mem_cons.mpr ⟨List.mem_cons_of_mem _ (List.mem_append_left _ (List.mem_append_left _ (List.mem_append_left _ (List.mem_append_left _ (List.mem_append_left _ (List.mem_append_left _ (List.mem_of_getElem? (i := 14) rfl))))))), (List.forall_mem_cons.mpr ⟨List.mem_cons_of_mem _ (List.mem_append_left _ (List.mem_append_left _ (List.mem_append_left _ (List.mem_append_left _ (List.mem_append_left _ (List.mem_append_left _ (List.mem_of_getElem? (i := 15) rfl))))))), (List.forall_mem_cons.mpr ⟨List.mem_cons_of_mem _ (List.mem_append_left _ (List.mem_append_left _ (List.mem_append_left _ (List.mem_append_left _ (List.mem_append_left _ (List.mem_append_left _ (List.mem_of_getElem? (i := 16) rfl))))))), (List.forall_mem_cons.mpr ⟨List.mem_cons_of_mem _ (List.mem_append_left _ (List.mem_append_left _ (List.mem_append_left _ (List.mem_append_left _ (List.mem_append_left _ (List.mem_append_left _ (List.mem_of_getElem? (i := 17) rfl))))))), (List.forall_mem_cons.mpr ⟨List.mem_cons_of_mem _ (List.mem_append_left _ (List.mem_append_left _ (List.mem_append_left _ (List.mem_append_left _ (List.mem_append_left _ (List.mem_append_left _ (List.mem_of_getElem? (i := 18) rfl))))))), (List.forall_mem_cons.mpr ⟨List.mem_cons_of_mem _ (List.mem_append_left _ (List.mem_append_left _ (List.mem_append_left _ (List.mem_append_left _ (List.mem_append_left _ (List.mem_append_left _ (List.mem_of_getElem? (i := 19) rfl))))))), (List.forall_mem_cons.mpr ⟨List.mem_cons_of_mem _ (List.mem_append_left _ (List.mem_append_left _ (List.mem_append_left _ (List.mem_append_left _ (List.mem_append_left _ (List.mem_append_left _ (List.mem_of_getElem? (i := 20) rfl))))))), (List.forall_mem_cons.mpr ⟨List.mem_cons_of_mem _ (List.mem_append_left _ (List.mem_append_left _ (List.mem_append_left _ (List.mem_append_left _ (List.mem_append_left _ (List.mem_append_left _ (List.mem_of_getElem? (i := 0) rfl))))))), (List.forall_mem_cons.mpr ⟨List.mem_cons_of_mem _ (List.mem_append_left _ (List.mem_append_left _ (List.mem_append_left _ (List.mem_append_left _ (List.mem_append_left _ (List.mem_append_left _ (List.mem_of_getElem? (i := 21) rfl))))))), (List.forall_mem_cons.mpr ⟨List.mem_cons_of_mem _ (List.mem_append_left _ (List.mem_append_left _ (List.mem_append_left _ (List.mem_append_left _ (List.mem_append_left _ (List.mem_append_left _ (List.mem_of_getElem? (i := 22) rfl))))))), (List.forall_mem_cons.mpr ⟨List.mem_cons_of_mem _ (List.mem_append_left _ (List.mem_append_left _ (List.mem_append_left _ (List.mem_append_left _ (List.mem_append_left _ (List.mem_append_left _ (List.mem_of_getElem? (i := 12) rfl))))))), (List.forall_mem_cons.mpr ⟨List.mem_cons_of_mem _ (List.mem_append_left _ (List.mem_append_left _ (List.mem_append_left _ (List.mem_append_left _ (List.mem_append_left _ (List.mem_append_left _ (List.mem_of_getElem? (i := 23) rfl))))))), (fun _ h => absurd h List.not_mem_nil)⟩)⟩)⟩)⟩)⟩)⟩)⟩)⟩)⟩)⟩)⟩)⟩) (fun _ h => List.mem_cons_of_mem _ (List.mem_append_left _ (List.mem_append_left _ (List.mem_append_right _ (h)))))) (fun _ h => List.mem_cons_of_mem _ (List.mem_append_left _ (List.mem_append_right _ (h))))) (fun _ h => List.mem_cons_of_mem _ (List.mem_append_left _ (List.mem_append_left _ (List.mem_append_left _ (List.mem_append_left _ (List.mem_append_right _ (h))))))))⟩)) (by decide +kernel)
set_option maxRecDepth 20000 in
theorem gX10_gatherFacts_X10_isAdvised : GoodIn wsX10_gatherFacts (wsV RX10 326 RX10 yX10_isAdvised wsX10_isAdvised) := goodIn_app (goodIn_sub (List.forall_mem_cons.mpr ⟨List.mem_cons_of_mem _ (List.mem_append_left _ (List.mem_append_left _ (List.mem_append_left _ (List.mem_append_left _ (List.mem_append_left _ (List.mem_append_left _ (List.mem_of_getElem? (i := 9) rfl))))))), (List.forall_mem_cons.mpr ⟨List.mem_cons_of_mem _ (List.mem_append_left _ (List.mem_append_left _ (List.mem_append_left _ (List.mem_append_left _ (List.mem_append_left _ (List.mem_append_left _ (List.mem_of_getElem? (i := 10) rfl))))))), (List.forall_mem_cons.mpr ⟨List.mem_cons_of_mem _ (List.mem_append_left _ (List.mem_append_left _ (List.mem_append_left _ (List.mem_append_left _ (List.mem_append_left _ (List.mem_append_left _ (List.mem_of_getElem? (i := 11) rfl))))))), (List.forall_mem_cons.mpr ⟨List.mem_cons_of_mem _ (List.mem_append_left _ (List.mem_append_left _ (List.mem_append_left _ (List.mem_append_left _ (List.mem_append_left _ (List.mem_append_left _ (List.mem_of_getElem? (i := 12) rfl))))))), (fun _ h => absurd h List.not_mem_nil)⟩)⟩)⟩)⟩) (by decide +kernel)) ggX10_gatherFacts_X10_isAdvised
set_option maxRecDepth 20000 in
theorem ggX10_gatherFacts_X10_unlikeness : GoodIn wsX10_gatherFacts wsX10_unlikeness := goodIn_sub (show ∀ w ∈ wsX10_unlikeness, w ∈ wsX10_gatherFacts from (List.forall_mem_cons.mpr ⟨List.mem_cons_of_mem _ (List.mem_append_left _ (List.mem_append_left _ (List.mem_append_left _ (List.mem_append_left _ (List.mem_append_left _ (List.mem_append_right _ (List.mem_append_left _ (List.mem_of_getElem? (i := 2) rfl)))))))), (List.forall_mem_cons.mpr ⟨List.mem_cons_of_mem _ (List.mem_append_left _ (List.mem_append_left _ (List.mem_append_left _ (List.mem_append_left _ (List.mem_append_left _ (List.mem_append_right _ (List.mem_append_left _ (List.mem_of_getElem? (i := 3) rfl)))))))), (List.forall_mem_cons.mpr ⟨List.mem_cons_of_mem _ (List.mem_append_left _ (List.mem_append_left _ (List.mem_append_left _ (List.mem_append_left _ (List.mem_append_left _ (List.mem_append_right _ (List.mem_append_left _ (List.mem_of_getElem? (i := 4) rfl)))))))), (List.forall_mem_cons.mpr ⟨List.mem_cons_of_mem _ (List.mem_append_left _ (List.mem_append_left _ (List.mem_append_left _ (List.mem_append_left _ (List.mem_append_left _ (List.mem_append_right _ (List.mem_append_left _ (List.mem_of_getElem? (i := 5) rfl)))))))), (List.forall_mem_cons.mpr ⟨List.mem_cons_of_mem _ (List.mem_append_left _ (List.mem_append_left _ (List.mem_append_left _ (List.mem_append_left _ (List.mem_append_left _ (List.mem_append_right _ (List.mem_append_left _ (List.mem_of_getElem? (i := 6) rfl)))))))), (fun _ h => absurd h List.not_mem_nil)⟩)⟩)⟩)⟩)⟩)) (by decide +kernel)
set_option maxRecDepth 20000 in
theorem gX10_gatherFacts_X10_unlikeness : GoodIn wsX10_gatherFacts (va_wsS RX10 334 yX10_unlikeness wsX10_unlikeness) := goodIn_app (goodIn_sub (List.forall_mem_cons.mpr ⟨List.mem_cons_of_mem _ (List.mem_append_left _ (List.mem_append_left _ (List.mem_append_left _ (List.mem_append_left _ (List.mem_append_left _ (List.mem_append_right _ (List.mem_append_left _ (List.mem_of_getElem? (i := 0) rfl)))))))), (List.forall_mem_cons.mpr ⟨List.mem_cons_of_mem _ (List.mem_append_left _ (List.mem_append_left _ (List.mem_append_left _ (List.mem_append_left _ (List.mem_append_left _ (List.mem_append_right _ (List.mem_append_left _ (List.mem_of_getElem? (i := 1) rfl)))))))), (List.forall_mem_cons.mpr ⟨List.mem_cons_of_mem _ (List.mem_append_left _ (List.mem_append_left _ (List.mem_append_left _ (List.mem_append_left _ (List.mem_append_left _ (List.mem_append_left _ (List.mem_of_getElem? (i := 12) rfl))))))), (fun _ h => absurd h List.not_mem_nil)⟩)⟩)⟩) (by decide +kernel)) ggX10_gatherFacts_X10_unlikeness
set_option maxRecDepth 20000 in
theorem ggX10_gatherFacts_X10_isStopped : GoodIn wsX10_gatherFacts wsX10_isStopped := goodIn_sub (show ∀ w ∈ wsX10_isStopped, w ∈ wsX10_gatherFacts from (List.forall_mem_cons.mpr ⟨List.mem_cons_of_mem _ (List.mem_append_left _ (List.mem_append_left _ (List.mem_append_left _ (List.mem_append_left _ (List.mem_append_left _ (List.mem_append_right _ (List.mem_append_left _ (List.mem_of_getElem? (i := 10) rfl)))))))), (gw_a (gw_a (gw_a (List.forall_mem_cons.mpr ⟨List.mem_cons_of_mem _ (List.mem_append_left _ (List.mem_append_left _ (List.mem_append_left _ (List.mem_append_left _ (List.mem_append_left _ (List.mem_append_right _ (List.mem_append_left _ (List.mem_of_getElem? (i := 11) rfl)))))))), (List.forall_mem_cons.mpr ⟨List.mem_cons_of_mem _ (List.mem_append_left _ (List.mem_append_left _ (List.mem_append_left _ (List.mem_append_left _ (List.mem_append_left _ (List.mem_append_right _ (List.mem_append_left _ (List.mem_of_getElem? (i := 12) rfl)))))))), (List.forall_mem_cons.mpr ⟨List.mem_cons_of_mem _ (List.mem_append_left _ (List.mem_append_left _ (List.mem_append_left _ (List.mem_append_left _ (List.mem_append_left _ (List.mem_append_right _ (List.mem_append_left _ (List.mem_of_getElem? (i := 13) rfl)))))))), (List.forall_mem_cons.mpr ⟨List.mem_cons_of_mem _ (List.mem_append_left _ (List.mem_append_left _ (List.mem_append_left _ (List.mem_append_left _ (List.mem_append_left _ (List.mem_append_right _ (List.mem_append_left _ (List.mem_of_getElem? (i := 14) rfl)))))))), (List.forall_mem_cons.mpr ⟨List.mem_cons_of_mem _ (List.mem_append_left _ (List.mem_append_left _ (List.mem_append_left _ (List.mem_append_left _ (List.mem_append_left _ (List.mem_append_right _ (List.mem_append_left _ (List.mem_of_getElem? (i := 15) rfl)))))))), (List.forall_mem_cons.mpr ⟨List.mem_cons_of_mem _ (List.mem_append_left _ (List.mem_append_left _ (List.mem_append_left _ (List.mem_append_left _ (List.mem_append_left _ (List.mem_append_right _ (List.mem_append_left _ (List.mem_of_getElem? (i := 16) rfl)))))))), (List.forall_mem_cons.mpr ⟨List.mem_cons_of_mem _ (List.mem_append_left _ (List.mem_append_left _ (List.mem_append_left _ (List.mem_append_left _ (List.mem_append_left _ (List.mem_append_right _ (List.mem_append_left _ (List.mem_of_getElem? (i := 17) rfl)))))))), (List.forall_mem_cons.mpr ⟨List.mem_cons_of_mem _ (List.mem_append_left _ (List.mem_append_left _ (List.mem_append_left _ (List.mem_append_left _ (List.mem_append_left _ (List.mem_append_right _ (List.mem_append_left _ (List.mem_of_getElem? (i := 18) rfl)))))))), (List.forall_mem_cons.mpr ⟨List.mem_cons_of_mem _ (List.mem_append_left _ (List.mem_append_left _ (List.mem_append_left _ (List.mem_append_left _ (List.mem_append_left _ (List.mem_append_right _ (List.mem_append_left _ (List.mem_of_getElem? (i := 19) rfl)))))))), (List.forall_mem_cons.mpr ⟨List.mem_cons_of_mem _ (List.mem_append_left _ (List.mem_append_left _ (List.mem_append_left _ (List.mem_append_left _ (List.mem_append_left _ (List.mem_append_right _ (List.mem_append_left _ (List.mem_of_getElem? (i := 20) rfl)))))))), (List.forall_mem_cons.mpr ⟨List.mem_cons_of_mem _ (List.mem_append_left _ (List.mem_append_left _ (List.mem_append_left _ (List.mem_append_left _ (List.mem_append_left _ (List.mem_append_right _ (List.mem_append_left _ (List.mem_of_getElem? (i := 21) rfl)))))))), (List.forall_mem_cons.mpr ⟨List.mem_cons_of_mem _ (List.mem_append_left _ (List.mem_append_left _ (List.mem_append_left _ (List.mem_append_left _ (List.mem_append_left _ (List.mem_append_right _ (List.mem_append_left _ (List.mem_of_getElem? (i := 22) rfl)))))))), (List.forall_mem_cons.mpr ⟨List.mem_cons_of_mem _ (List.mem_append_left _ (List.mem_append_left _ (List.mem_append_left _ (List.mem_append_left _ (List.mem_append_left _ (List.mem_append_right _ (List.mem_append_left _ (List.mem_of_getElem? (i := 23) rfl)))))))), (List.forall_mem_cons.mpr ⟨List.mem_cons_of_mem _ (List.mem_append_left _ (List.mem_append_left _ (List.mem_append_left _ (List.mem_append_left _ (List.mem_append_left _ (List.mem_append_right _ (List.mem_append_right _ (List.mem_of_getElem? (i := 0) rfl)))))))), (List.forall_mem_cons.mpr ⟨List.mem_cons_of_mem _ (List.mem_append_left _ (List.mem_append_left _ (List.mem_append_left _ (List.mem_append_left _ (List.mem_append_left _ (List.mem_append_left _ (List.mem_of_getElem? (i := 22) rfl))))))), (List.forall_mem_cons.mpr ⟨List.mem_cons_of_mem _ (List.mem_append_left _ (List.mem_append_left _ (List.mem_append_left _ (List.mem_append_left _ (List.mem_append_left _ (List.mem_append_left _ (List.mem_of_getElem? (i := 12) rfl))))))), (List.forall_mem_cons.mpr ⟨List.mem_cons_of_mem _ (List.mem_append_left _ (List.mem_append_left _ (List.mem_append_left _ (List.mem_append_left _ (List.mem_append_left _ (List.mem_append_left _ (List.mem_of_getElem? (i := 23) rfl))))))), (fun _ h => absurd h List.not_mem_nil)⟩)⟩)⟩)⟩)⟩)⟩)⟩)⟩)⟩)⟩)⟩)⟩)⟩)⟩)⟩)⟩)⟩) (fun _ h => List.mem_cons_of_mem _ (List.mem_append_left _ (List.mem_append_left _ (List.mem_append_right _ (h)))))) (fun _ h => List.mem_cons_of_mem _ (List.mem_append_right _ (h)))) (fun _ h => List.mem_cons_of_mem _ (List.mem_append_left _ (List.mem_append_left _ (List.mem_append_left _ (List.mem_append_left _ (List.mem_append_right _ (h))))))))⟩)) (by decide +kernel)
set_option maxRecDepth 20000 in
theorem gX10_gatherFacts_X10_isStopped : GoodIn wsX10_gatherFacts (wsV RX10 337 RX10 yX10_isStopped wsX10_isStopped) := goodIn_app (goodIn_sub (List.forall_mem_cons.mpr ⟨List.mem_cons_of_mem _ (List.mem_append_left _ (List.mem_append_left _ (List.mem_append_left _ (List.mem_append_left _ (List.mem_append_left _ (List.mem_append_right _ (List.mem_append_left _ (List.mem_of_getElem? (i := 7) rfl)))))))), (List.forall_mem_cons.mpr ⟨List.mem_cons_of_mem _ (List.mem_append_left _ (List.mem_append_left _ (List.mem_append_left _ (List.mem_append_left _ (List.mem_append_left _ (List.mem_append_right _ (List.mem_append_left _ (List.mem_of_getElem? (i := 8) rfl)))))))), (List.forall_mem_cons.mpr ⟨List.mem_cons_of_mem _ (List.mem_append_left _ (List.mem_append_left _ (List.mem_append_left _ (List.mem_append_left _ (List.mem_append_left _ (List.mem_append_right _ (List.mem_append_left _ (List.mem_of_getElem? (i := 9) rfl)))))))), (List.forall_mem_cons.mpr ⟨List.mem_cons_of_mem _ (List.mem_append_left _ (List.mem_append_left _ (List.mem_append_left _ (List.mem_append_left _ (List.mem_append_left _ (List.mem_append_left _ (List.mem_of_getElem? (i := 12) rfl))))))), (fun _ h => absurd h List.not_mem_nil)⟩)⟩)⟩)⟩) (by decide +kernel)) ggX10_gatherFacts_X10_isStopped
theorem dX10_gatherFacts_0 : decode cX10_gatherFacts 0 = .ok (.aload_n 0, 1) := by decide +kernel
theorem dX10_gatherFacts_1 : decode cX10_gatherFacts 1 = .ok (.aload_n 1, 1) := by decide +kernel
theorem dX10_gatherFacts_2 : decode cX10_gatherFacts 2 = .ok (.invokevirtual 326, 3) := by decide +kernel
theorem dX10_gatherFacts_5 : decode cX10_gatherFacts 5 = .ok (.istore_n 3, 1) := by decide +kernel
theorem dX10_gatherFacts_6 : decode cX10_gatherFacts 6 = .ok (.aload_n 1, 1) := by decide +kernel
theorem dX10_gatherFacts_7 : decode cX10_gatherFacts 7 = .ok (.getfield 237, 3) := by decide +kernel
theorem dX10_gatherFacts_10 : decode cX10_gatherFacts 10 = .ok (.aload_n 2, 1) := by decide +kernel
theorem dX10_gatherFacts_11 : decode cX10_gatherFacts 11 = .ok (.getfield 245, 3) := by decide +kernel
theorem dX10_gatherFacts_14 : decode cX10_gatherFacts 14 = .ok (.isub, 1) := by decide +kernel
theorem dX10_gatherFacts_15 : decode cX10_gatherFacts 15 = .ok (.istore 4, 2) := by decide +kernel
theorem dX10_gatherFacts_17 : decode cX10_gatherFacts 17 = .ok (.aload_n 0, 1) := by decide +kernel
theorem dX10_gatherFacts_18 : decode cX10_gatherFacts 18 = .ok (.getfield 61, 3) := by decide +kernel
theorem dX10_gatherFacts_21 : decode cX10_gatherFacts 21 = .ok (.iconst 0, 1) := by decide +kernel
theorem dX10_gatherFacts_22 : decode cX10_gatherFacts 22 = .ok (.iload_n 3, 1) := by decide +kernel
theorem dX10_gatherFacts_23 : decode cX10_gatherFacts 23 = .ok (.ifCond .eq 17, 3) := by decide +kernel
theorem dX10_gatherFacts_26 : decode cX10_gatherFacts 26 = .ok (.aload_n 1, 1) := by decide +kernel
theorem dX10_gatherFacts_27 : decode cX10_gatherFacts 27 = .ok (.getfield 330, 3) := by decide +kernel
theorem dX10_gatherFacts_30 : decode cX10_gatherFacts 30 = .ok (.aload_n 2, 1) := by decide +kernel
theorem dX10_gatherFacts_31 : decode cX10_gatherFacts 31 = .ok (.getfield 333, 3) := by decide +kernel
theorem dX10_gatherFacts_34 : decode cX10_gatherFacts 34 = .ok (.invokestatic 334, 3) := by decide +kernel
theorem dX10_gatherFacts_37 : decode cX10_gatherFacts 37 = .ok (.goto 5, 3) := by decide +kernel
theorem dX10_gatherFacts_40 : decode cX10_gatherFacts 40 = .ok (.bipush 99, 2) := by decide +kernel
theorem dX10_gatherFacts_42 : decode cX10_gatherFacts 42 = .ok (.iastore, 1) := by decide +kernel
theorem dX10_gatherFacts_43 : decode cX10_gatherFacts 43 = .ok (.aload_n 0, 1) := by decide +kernel
theorem dX10_gatherFacts_44 : decode cX10_gatherFacts 44 = .ok (.getfield 61, 3) := by decide +kernel
theorem dX10_gatherFacts_47 : decode cX10_gatherFacts 47 = .ok (.iconst 1, 1) := by decide +kernel
theorem dX10_gatherFacts_48 : decode cX10_gatherFacts 48 = .ok (.iload_n 3, 1) := by decide +kernel
theorem dX10_gatherFacts_49 : decode cX10_gatherFacts 49 = .ok (.ifCond .eq 7, 3) := by decide +kernel
theorem dX10_gatherFacts_52 : decode cX10_gatherFacts 52 = .ok (.iconst 1, 1) := by decide +kernel
theorem dX10_gatherFacts_53 : decode cX10_gatherFacts 53 = .ok (.goto 4, 3) := by decide +kernel
theorem dX10_gatherFacts_56 : decode cX10_gatherFacts 56 = .ok (.iconst 0, 1) := by decide +kernel
theorem dX10_gatherFacts_57 : decode cX10_gatherFacts 57 = .ok (.iastore, 1) := by decide +kernel
theorem dX10_gatherFacts_58 : decode cX10_gatherFacts 58 = .ok (.aload_n 0, 1) := by decide +kernel
theorem dX10_gatherFacts_59 : decode cX10_gatherFacts 59 = .ok (.getfield 61, 3) := by decide +kernel
theorem dX10_gatherFacts_62 : decode cX10_gatherFacts 62 = .ok (.iconst 2, 1) := by decide +kernel
theorem dX10_gatherFacts_63 : decode cX10_gatherFacts 63 = .ok (.aload_n 0, 1) := by decide +kernel
theorem dX10_gatherFacts_64 : decode cX10_gatherFacts 64 = .ok (.aload_n 1, 1) := by decide +kernel
theorem dX10_gatherFacts_65 : decode cX10_gatherFacts 65 = .ok (.invokevirtual 337, 3) := by decide +kernel
theorem dX10_gatherFacts_68 : decode cX10_gatherFacts 68 = .ok (.ifCond .eq 7, 3) := by decide +kernel
theorem dX10_gatherFacts_71 : decode cX10_gatherFacts 71 = .ok (.iconst 1, 1) := by decide +kernel
theorem dX10_gatherFacts_72 : decode cX10_gatherFacts 72 = .ok (.goto 4, 3) := by decide +kernel
theorem dX10_gatherFacts_75 : decode cX10_gatherFacts 75 = .ok (.iconst 0, 1) := by decide +kernel
theorem dX10_gatherFacts_76 : decode cX10_gatherFacts 76 = .ok (.iastore, 1) := by decide +kernel
theorem dX10_gatherFacts_77 : decode cX10_gatherFacts 77 = .ok (.aload_n 0, 1) := by decide +kernel
theorem dX10_gatherFacts_78 : decode cX10_gatherFacts 78 = .ok (.getfield 61, 3) := by decide +kernel
theorem dX10_gatherFacts_81 : decode cX10_gatherFacts 81 = .ok (.iconst 3, 1) := by decide +kernel
theorem dX10_gatherFacts_82 : decode cX10_gatherFacts 82 = .ok (.iload 4, 2) := by decide +kernel
theorem dX10_gatherFacts_84 : decode cX10_gatherFacts 84 = .ok (.iastore, 1) := by decide +kernel
theorem dX10_gatherFacts_85 : decode cX10_gatherFacts 85 = .ok (.aload_n 0, 1) := by decide +kernel
theorem dX10_gatherFacts_86 : decode cX10_gatherFacts 86 = .ok (.getfield 61, 3) := by decide +kernel
theorem dX10_gatherFacts_89 : decode cX10_gatherFacts 89 = .ok (.iconst 4, 1) := by decide +kernel
theorem dX10_gatherFacts_90 : decode cX10_gatherFacts 90 = .ok (.iload 4, 2) := by decide +kernel
theorem dX10_gatherFacts_92 : decode cX10_gatherFacts 92 = .ok (.aload_n 2, 1) := by decide +kernel
theorem dX10_gatherFacts_93 : decode cX10_gatherFacts 93 = .ok (.getfield 340, 3) := by decide +kernel
theorem dX10_gatherFacts_96 : decode cX10_gatherFacts 96 = .ok (.if_icmp .le 7, 3) := by decide +kernel
theorem dX10_gatherFacts_99 : decode cX10_gatherFacts 99 = .ok (.iconst 1, 1) := by decide +kernel
theorem dX10_gatherFacts_100 : decode cX10_gatherFacts 100 = .ok (.goto 4, 3) := by decide +kernel
theorem dX10_gatherFacts_103 : decode cX10_gatherFacts 103 = .ok (.iconst 0, 1) := by decide +kernel
theorem dX10_gatherFacts_104 : decode cX10_gatherFacts 104 = .ok (.iastore, 1) := by decide +kernel
theorem dX10_gatherFacts_105 : decode cX10_gatherFacts 105 = .ok (.aload_n 0, 1) := by decide +kernel
theorem dX10_gatherFacts_106 : decode cX10_gatherFacts 106 = .ok (.getfield 61, 3) := by decide +kernel
theorem dX10_gatherFacts_109 : decode cX10_gatherFacts 109 = .ok (.iconst 5, 1) := by decide +kernel
theorem dX10_gatherFacts_110 : decode cX10_gatherFacts 110 = .ok (.aload_n 1, 1) := by decide +kernel
theorem dX10_gatherFacts_111 : decode cX10_gatherFacts 111 = .ok (.getfield 231, 3) := by decide +kernel
theorem dX10_gatherFacts_114 : decode cX10_gatherFacts 114 = .ok (.iastore, 1) := by decide +kernel
theorem dX10_gatherFacts_115 : decode cX10_gatherFacts 115 = .ok (.aload_n 0, 1) := by decide +kernel
theorem dX10_gatherFacts_116 : decode cX10_gatherFacts 116 = .ok (.getfield 61, 3) := by decide +kernel
theorem dX10_gatherFacts_119 : decode cX10_gatherFacts 119 = .ok (.bipush 6, 2) := by decide +kernel
theorem dX10_gatherFacts_121 : decode cX10_gatherFacts 121 = .ok (.aload_n 2, 1) := by decide +kernel
theorem dX10_gatherFacts_122 : decode cX10_gatherFacts 122 = .ok (.getfield 185, 3) := by decide +kernel
theorem dX10_gatherFacts_125 : decode cX10_gatherFacts 125 = .ok (.aload_n 2, 1) := by decide +kernel
theorem dX10_gatherFacts_126 : decode cX10_gatherFacts 126 = .ok (.getfield 246, 3) := by decide +kernel
theorem dX10_gatherFacts_129 : decode cX10_gatherFacts 129 = .ok (.isub, 1) := by decide +kernel
theorem dX10_gatherFacts_130 : decode cX10_gatherFacts 130 = .ok (.iastore, 1) := by decide +kernel
theorem dX10_gatherFacts_131 : decode cX10_gatherFacts 131 = .ok (.aload_n 0, 1) := by decide +kernel
theorem dX10_gatherFacts_132 : decode cX10_gatherFacts 132 = .ok (.getfield 61, 3) := by decide +kernel
theorem dX10_gatherFacts_135 : decode cX10_gatherFacts 135 = .ok (.bipush 7, 2) := by decide +kernel
theorem dX10_gatherFacts_137 : decode cX10_gatherFacts 137 = .ok (.aload_n 1, 1) := by decide +kernel
theorem dX10_gatherFacts_138 : decode cX10_gatherFacts 138 = .ok (.getfield 237, 3) := by decide +kernel
theorem dX10_gatherFacts_141 : decode cX10_gatherFacts 141 = .ok (.iastore, 1) := by decide +kernel
theorem dX10_gatherFacts_142 : decode cX10_gatherFacts 142 = .ok (.return_, 1) := by decide +kernel
set_option maxRecDepth 20000 in
theorem ggX10_payOut_X10_letterDay : GoodIn wsX10_payOut wsX10_letterDay := goodIn_sub (show ∀ w ∈ wsX10_letterDay, w ∈ wsX10_payOut from (List.forall_mem_cons.mpr ⟨List.mem_cons_of_mem _ (List.mem_append_left _ (List.mem_append_left _ (List.mem_append_left _ (List.mem_append_left _ (List.mem_append_left _ (List.mem_append_left _ (List.mem_of_getElem? (i := 13) rfl))))))), (gw_a (gw_a (gw_a (List.forall_mem_cons.mpr ⟨List.mem_cons_of_mem _ (List.mem_append_left _ (List.mem_append_left _ (List.mem_append_left _ (List.mem_append_left _ (List.mem_append_left _ (List.mem_append_left _ (List.mem_of_getElem? (i := 14) rfl))))))), (List.forall_mem_cons.mpr ⟨List.mem_cons_of_mem _ (List.mem_append_left _ (List.mem_append_left _ (List.mem_append_left _ (List.mem_append_left _ (List.mem_append_left _ (List.mem_append_left _ (List.mem_of_getElem? (i := 15) rfl))))))), (List.forall_mem_cons.mpr ⟨List.mem_cons_of_mem _ (List.mem_append_left _ (List.mem_append_left _ (List.mem_append_left _ (List.mem_append_left _ (List.mem_append_left _ (List.mem_append_left _ (List.mem_of_getElem? (i := 16) rfl))))))), (List.forall_mem_cons.mpr ⟨List.mem_cons_of_mem _ (List.mem_append_left _ (List.mem_append_left _ (List.mem_append_left _ (List.mem_append_left _ (List.mem_append_left _ (List.mem_append_left _ (List.mem_of_getElem? (i := 17) rfl))))))), (List.forall_mem_cons.mpr ⟨List.mem_cons_of_mem _ (List.mem_append_left _ (List.mem_append_left _ (List.mem_append_left _ (List.mem_append_left _ (List.mem_append_left _ (List.mem_append_left _ (List.mem_of_getElem? (i := 18) rfl))))))), (List.forall_mem_cons.mpr ⟨List.mem_cons_of_mem _ (List.mem_append_left _ (List.mem_append_left _ (List.mem_append_left _ (List.mem_append_left _ (List.mem_append_left _ (List.mem_append_left _ (List.mem_of_getElem? (i := 19) rfl))))))), (List.forall_mem_cons.mpr ⟨List.mem_cons_of_mem _ (List.mem_append_left _ (List.mem_append_left _ (List.mem_append_left _ (List.mem_append_left _ (List.mem_append_left _ (List.mem_append_left _ (List.mem_of_getElem? (i := 20) rfl))))))), (List.forall_mem_cons.mpr ⟨List.mem_cons_of_mem _ (List.mem_append_left _ (List.mem_append_left _ (List.mem_append_left _ (List.mem_append_left _ (List.mem_append_left _ (List.mem_append_left _ (List.mem_of_getElem? (i := 21) rfl))))))), (List.forall_mem_cons.mpr ⟨List.mem_cons_of_mem _ (List.mem_append_left _ (List.mem_append_left _ (List.mem_append_left _ (List.mem_append_left _ (List.mem_append_left _ (List.mem_append_left _ (List.mem_of_getElem? (i := 22) rfl))))))), (List.forall_mem_cons.mpr ⟨List.mem_cons_of_mem _ (List.mem_append_left _ (List.mem_append_left _ (List.mem_append_left _ (List.mem_append_left _ (List.mem_append_left _ (List.mem_append_left _ (List.mem_of_getElem? (i := 23) rfl))))))), (List.forall_mem_cons.mpr ⟨List.mem_cons_of_mem _ (List.mem_append_left _ (List.mem_append_left _ (List.mem_append_left _ (List.mem_append_left _ (List.mem_append_left _ (List.mem_append_right _ (List.mem_append_left _ (List.mem_of_getElem? (i := 0) rfl)))))))), (List.forall_mem_cons.mpr ⟨List.mem_cons_of_mem _ (List.mem_append_left _ (List.mem_append_left _ (List.mem_append_left _ (List.mem_append_left _ (List.mem_append_left _ (List.mem_append_right _ (List.mem_append_left _ (List.mem_of_getElem? (i := 1) rfl)))))))), (List.forall_mem_cons.mpr ⟨List.mem_cons_of_mem _ (List.mem_append_left _ (List.mem_append_left _ (List.mem_append_left _ (List.mem_append_left _ (List.mem_append_left _ (List.mem_append_right _ (List.mem_append_left _ (List.mem_of_getElem? (i := 2) rfl)))))))), (List.forall_mem_cons.mpr ⟨List.mem_cons_of_mem _ (List.mem_append_left _ (List.mem_append_left _ (List.mem_append_left _ (List.mem_append_left _ (List.mem_append_left _ (List.mem_append_right _ (List.mem_append_left _ (List.mem_of_getElem? (i := 3) rfl)))))))), (List.forall_mem_cons.mpr ⟨List.mem_cons_of_mem _ (List.mem_append_left _ (List.mem_append_left _ (List.mem_append_left _ (List.mem_append_left _ (List.mem_append_left _ (List.mem_append_right _ (List.mem_append_left _ (List.mem_of_getElem? (i := 4) rfl)))))))), (List.forall_mem_cons.mpr ⟨List.mem_cons_of_mem _ (List.mem_append_left _ (List.mem_append_left _ (List.mem_append_left _ (List.mem_append_left _ (List.mem_append_left _ (List.mem_append_right _ (List.mem_append_left _ (List.mem_of_getElem? (i := 5) rfl)))))))), (List.forall_mem_cons.mpr ⟨List.mem_cons_of_mem _ (List.mem_append_left _ (List.mem_append_left _ (List.mem_append_left _ (List.mem_append_left _ (List.mem_append_left _ (List.mem_append_right _ (List.mem_append_left _ (List.mem_of_getElem? (i := 6) rfl)))))))), (List.forall_mem_cons.mpr ⟨List.mem_cons_of_mem _ (List.mem_append_left _ (List.mem_append_left _ (List.mem_append_left _ (List.mem_append_left _ (List.mem_append_left _ (List.mem_append_right _ (List.mem_append_left _ (List.mem_of_getElem? (i := 7) rfl)))))))), (List.forall_mem_cons.mpr ⟨List.mem_cons_of_mem _ (List.mem_append_left _ (List.mem_append_left _ (List.mem_append_left _ (List.mem_append_left _ (List.mem_append_left _ (List.mem_append_right _ (List.mem_append_left _ (List.mem_of_getElem? (i := 8) rfl)))))))), (List.forall_mem_cons.mpr ⟨List.mem_cons_of_mem _ (List.mem_append_left _ (List.mem_append_left _ (List.mem_append_left _ (List.mem_append_left _ (List.mem_append_left _ (List.mem_append_right _ (List.mem_append_left _ (List.mem_of_getElem? (i := 9) rfl)))))))), (List.forall_mem_cons.mpr ⟨List.mem_cons_of_mem _ (List.mem_append_left _ (List.mem_append_left _ (List.mem_append_left _ (List.mem_append_left _ (List.mem_append_left _ (List.mem_append_right _ (List.mem_append_left _ (List.mem_of_getElem? (i := 10) rfl)))))))), (List.forall_mem_cons.mpr ⟨List.mem_cons_of_mem _ (List.mem_append_left _ (List.mem_append_left _ (List.mem_append_left _ (List.mem_append_left _ (List.mem_append_left _ (List.mem_append_right _ (List.mem_append_left _ (List.mem_of_getElem? (i := 11) rfl)))))))), (List.forall_mem_cons.mpr ⟨List.mem_cons_of_mem _ (List.mem_append_left _ (List.mem_append_left _ (List.mem_append_left _ (List.mem_append_left _ (List.mem_append_left _ (List.mem_append_right _ (List.mem_append_left _ (List.mem_of_getElem? (i := 12) rfl)))))))), (List.forall_mem_cons.mpr ⟨List.mem_cons_of_mem _ (List.mem_append_left _ (List.mem_append_left _ (List.mem_append_left _ (List.mem_append_left _ (List.mem_append_left _ (List.mem_append_right _ (List.mem_append_left _ (List.mem_of_getElem? (i := 13) rfl)))))))), (fun _ h => absurd h List.not_mem_nil)⟩)⟩)⟩)⟩)⟩)⟩)⟩)⟩)⟩)⟩)⟩)⟩)⟩)⟩)⟩)⟩)⟩)⟩)⟩)⟩)⟩)⟩)⟩)⟩) (List.forall_mem_cons.mpr ⟨List.mem_cons_of_mem _ (List.mem_append_left _ (List.mem_append_left _ (List.mem_append_left _ (List.mem_append_left _ (List.mem_append_left _ (List.mem_append_right _ (List.mem_append_left _ (List.mem_of_getElem? (i := 14) rfl)))))))), (List.forall_mem_cons.mpr ⟨List.mem_cons_of_mem _ (List.mem_append_left _ (List.mem_append_left _ (List.mem_append_left _ (List.mem_append_left _ (List.mem_append_left _ (List.mem_append_right _ (List.mem_append_left _ (List.mem_of_getElem? (i := 15) rfl)))))))), (List.forall_mem_cons.mpr ⟨List.mem_cons_of_mem _ (List.mem_append_left _ (List.mem_append_left _ (List.mem_append_left _ (List.mem_append_left _ (List.mem_append_left _ (List.mem_append_right _ (List.mem_append_left _ (List.mem_of_getElem? (i := 16) rfl)))))))), (List.forall_mem_cons.mpr ⟨List.mem_cons_of_mem _ (List.mem_append_left _ (List.mem_append_left _ (List.mem_append_left _ (List.mem_append_left _ (List.mem_append_left _ (List.mem_append_right _ (List.mem_append_left _ (List.mem_of_getElem? (i := 17) rfl)))))))), (List.forall_mem_cons.mpr ⟨List.mem_cons_of_mem _ (List.mem_append_left _ (List.mem_append_left _ (List.mem_append_left _ (List.mem_append_left _ (List.mem_append_left _ (List.mem_append_right _ (List.mem_append_left _ (List.mem_of_getElem? (i := 18) rfl)))))))), (fun _ h => absurd h List.not_mem_nil)⟩)⟩)⟩)⟩)⟩)) (fun _ h => List.mem_cons_of_mem _ (List.mem_append_left _ (List.mem_append_left _ (List.mem_append_left _ (List.mem_append_right _ (h))))))) (fun _ h => List.mem_cons_of_mem _ (List.mem_append_right _ (h))))⟩)) (by decide +kernel)
set_option maxRecDepth 20000 in
theorem gX10_payOut_X10_letterDay : GoodIn wsX10_payOut (wsV RX10 116 RX10 yX10_letterDay wsX10_letterDay) := goodIn_app (goodIn_sub (List.forall_mem_cons.mpr ⟨List.mem_cons_of_mem _ (List.mem_append_left _ (List.mem_append_left _ (List.mem_append_left _ (List.mem_append_left _ (List.mem_append_left _ (List.mem_append_left _ (List.mem_of_getElem? (i := 9) rfl))))))), (List.forall_mem_cons.mpr ⟨List.mem_cons_of_mem _ (List.mem_append_left _ (List.mem_append_left _ (List.mem_append_left _ (List.mem_append_left _ (List.mem_append_left _ (List.mem_append_left _ (List.mem_of_getElem? (i := 10) rfl))))))), (List.forall_mem_cons.mpr ⟨List.mem_cons_of_mem _ (List.mem_append_left _ (List.mem_append_left _ (List.mem_append_left _ (List.mem_append_left _ (List.mem_append_left _ (List.mem_append_left _ (List.mem_of_getElem? (i := 11) rfl))))))), (List.forall_mem_cons.mpr ⟨List.mem_cons_of_mem _ (List.mem_append_left _ (List.mem_append_left _ (List.mem_append_left _ (List.mem_append_left _ (List.mem_append_left _ (List.mem_append_left _ (List.mem_of_getElem? (i := 12) rfl))))))), (fun _ h => absurd h List.not_mem_nil)⟩)⟩)⟩)⟩) (by decide +kernel)) ggX10_payOut_X10_letterDay
set_option maxRecDepth 20000 in
theorem ggX10_payOut_X3_isBook : GoodIn wsX10_payOut wsX3_isBook := goodIn_sub (show ∀ w ∈ wsX3_isBook, w ∈ wsX10_payOut from (List.forall_mem_cons.mpr ⟨List.mem_cons_of_mem _ (List.mem_append_left _ (List.mem_append_left _ (List.mem_append_left _ (List.mem_append_left _ (List.mem_append_left _ (List.mem_append_right _ (List.mem_append_left _ (List.mem_of_getElem? (i := 23) rfl)))))))), (gw_a (List.forall_mem_cons.mpr ⟨List.mem_cons_of_mem _ (List.mem_append_left _ (List.mem_append_left _ (List.mem_append_left _ (List.mem_append_left _ (List.mem_append_left _ (List.mem_append_right _ (List.mem_append_right _ (List.mem_of_getElem? (i := 0) rfl)))))))), (fun _ h => absurd h List.not_mem_nil)⟩) (fun _ h => List.mem_cons_of_mem _ (List.mem_append_left _ (List.mem_append_right _ (h)))))⟩)) (by decide +kernel)
set_option maxRecDepth 20000 in
theorem gX10_payOut_X3_isBook : GoodIn wsX10_payOut (wsV RX10 181 RX3 yX3_isBook wsX3_isBook) := goodIn_app (goodIn_sub (List.forall_mem_cons.mpr ⟨List.mem_cons_of_mem _ (List.mem_append_left _ (List.mem_append_left _ (List.mem_append_left _ (List.mem_append_left _ (List.mem_append_left _ (List.mem_append_right _ (List.mem_append_left _ (List.mem_of_getElem? (i := 19) rfl)))))))), (List.forall_mem_cons.mpr ⟨List.mem_cons_of_mem _ (List.mem_append_left _ (List.mem_append_left _ (List.mem_append_left _ (List.mem_append_left _ (List.mem_append_left _ (List.mem_append_right _ (List.mem_append_left _ (List.mem_of_getElem? (i := 20) rfl)))))))), (List.forall_mem_cons.mpr ⟨List.mem_cons_of_mem _ (List.mem_append_left _ (List.mem_append_left _ (List.mem_append_left _ (List.mem_append_left _ (List.mem_append_left _ (List.mem_append_right _ (List.mem_append_left _ (List.mem_of_getElem? (i := 21) rfl)))))))), (List.forall_mem_cons.mpr ⟨List.mem_cons_of_mem _ (List.mem_append_left _ (List.mem_append_left _ (List.mem_append_left _ (List.mem_append_left _ (List.mem_append_left _ (List.mem_append_right _ (List.mem_append_left _ (List.mem_of_getElem? (i := 22) rfl)))))))), (fun _ h => absurd h List.not_mem_nil)⟩)⟩)⟩)⟩) (by decide +kernel)) ggX10_payOut_X3_isBook
theorem dX10_payOut_0 : decode cX10_payOut 0 = .ok (.aload_n 1, 1) := by decide +kernel
theorem dX10_payOut_1 : decode cX10_payOut 1 = .ok (.aload_n 1, 1) := by decide +kernel
theorem dX10_payOut_2 : decode cX10_payOut 2 = .ok (.getfield 231, 3) := by decide +kernel
theorem dX10_payOut_5 : decode cX10_payOut 5 = .ok (.i2l, 1) := by decide +kernel
theorem dX10_payOut_6 : decode cX10_payOut 6 = .ok (.aload_n 0, 1) := by decide +kernel
theorem dX10_payOut_7 : decode cX10_payOut 7 = .ok (.getfield 18, 3) := by decide +kernel
theorem dX10_payOut_10 : decode cX10_payOut 10 = .ok (.aload_n 1, 1) := by decide +kernel
theorem dX10_payOut_11 : decode cX10_payOut 11 = .ok (.getfield 222, 3) := by decide +kernel
theorem dX10_payOut_14 : decode cX10_payOut 14 = .ok (.aaload, 1) := by decide +kernel
theorem dX10_payOut_15 : decode cX10_payOut 15 = .ok (.getfield 102, 3) := by decide +kernel
theorem dX10_payOut_18 : decode cX10_payOut 18 = .ok (.i2l, 1) := by decide +kernel
theorem dX10_payOut_19 : decode cX10_payOut 19 = .ok (.lmul, 1) := by decide +kernel
theorem dX10_payOut_20 : decode cX10_payOut 20 = .ok (.ldc2_w 343, 3) := by decide +kernel
theorem dX10_payOut_23 : decode cX10_payOut 23 = .ok (.ldiv, 1) := by decide +kernel
theorem dX10_payOut_24 : decode cX10_payOut 24 = .ok (.l2i, 1) := by decide +kernel
theorem dX10_payOut_25 : decode cX10_payOut 25 = .ok (.putfield 234, 3) := by decide +kernel
theorem dX10_payOut_28 : decode cX10_payOut 28 = .ok (.aload_n 1, 1) := by decide +kernel
theorem dX10_payOut_29 : decode cX10_payOut 29 = .ok (.aload_n 0, 1) := by decide +kernel
theorem dX10_payOut_30 : decode cX10_payOut 30 = .ok (.aload_n 1, 1) := by decide +kernel
theorem dX10_payOut_31 : decode cX10_payOut 31 = .ok (.getfield 222, 3) := by decide +kernel
theorem dX10_payOut_34 : decode cX10_payOut 34 = .ok (.iconst 0, 1) := by decide +kernel
theorem dX10_payOut_35 : decode cX10_payOut 35 = .ok (.invokevirtual 116, 3) := by decide +kernel
theorem dX10_payOut_38 : decode cX10_payOut 38 = .ok (.putfield 240, 3) := by decide +kernel
theorem dX10_payOut_41 : decode cX10_payOut 41 = .ok (.aload_n 2, 1) := by decide +kernel
theorem dX10_payOut_42 : decode cX10_payOut 42 = .ok (.dup, 1) := by decide +kernel
theorem dX10_payOut_43 : decode cX10_payOut 43 = .ok (.getfield 249, 3) := by decide +kernel
theorem dX10_payOut_46 : decode cX10_payOut 46 = .ok (.iconst 1, 1) := by decide +kernel
theorem dX10_payOut_47 : decode cX10_payOut 47 = .ok (.iadd, 1) := by decide +kernel
theorem dX10_payOut_48 : decode cX10_payOut 48 = .ok (.putfield 249, 3) := by decide +kernel
theorem dX10_payOut_51 : decode cX10_payOut 51 = .ok (.iload_n 3, 1) := by decide +kernel
theorem dX10_payOut_52 : decode cX10_payOut 52 = .ok (.ifCond .eq 23, 3) := by decide +kernel
theorem dX10_payOut_55 : decode cX10_payOut 55 = .ok (.aload_n 2, 1) := by decide +kernel
theorem dX10_payOut_56 : decode cX10_payOut 56 = .ok (.invokevirtual 181, 3) := by decide +kernel
theorem dX10_payOut_59 : decode cX10_payOut 59 = .ok (.ifCond .ne 16, 3) := by decide +kernel
theorem dX10_payOut_62 : decode cX10_payOut 62 = .ok (.aload_n 2, 1) := by decide +kernel
theorem dX10_payOut_63 : decode cX10_payOut 63 = .ok (.dup, 1) := by decide +kernel
theorem dX10_payOut_64 : decode cX10_payOut 64 = .ok (.getfield 246, 3) := by decide +kernel
theorem dX10_payOut_67 : decode cX10_payOut 67 = .ok (.aload_n 1, 1) := by decide +kernel
theorem dX10_payOut_68 : decode cX10_payOut 68 = .ok (.getfield 231, 3) := by decide +kernel
theorem dX10_payOut_71 : decode cX10_payOut 71 = .ok (.iadd, 1) := by decide +kernel
theorem dX10_payOut_72 : decode cX10_payOut 72 = .ok (.putfield 246, 3) := by decide +kernel
theorem dX10_payOut_75 : decode cX10_payOut 75 = .ok (.return_, 1) := by decide +kernel
set_option maxRecDepth 20000 in
theorem ggX10_isAdvised_X10_hasCome : GoodIn wsX10_isAdvised wsX10_hasCome := goodIn_sub (show ∀ w ∈ wsX10_hasCome, w ∈ wsX10_isAdvised from (List.forall_mem_cons.mpr ⟨List.mem_cons_of_mem _ (List.mem_append_left _ (List.mem_append_left _ (List.mem_append_left _ (List.mem_of_getElem? (i := 11) rfl)))), (fun _ h => absurd h List.not_mem_nil)⟩)) (by decide +kernel)
set_option maxRecDepth 20000 in
theorem gX10_isAdvised_X10_hasCome : GoodIn wsX10_isAdvised (va_wsS RX10 134 yX10_hasCome wsX10_hasCome) := goodIn_app (goodIn_sub (List.forall_mem_cons.mpr ⟨List.mem_cons_of_mem _ (List.mem_append_left _ (List.mem_append_left _ (List.mem_append_left _ (List.mem_of_getElem? (i := 8) rfl)))), (List.forall_mem_cons.mpr ⟨List.mem_cons_of_mem _ (List.mem_append_left _ (List.mem_append_left _ (List.mem_append_left _ (List.mem_of_getElem? (i := 9) rfl)))), (List.forall_mem_cons.mpr ⟨List.mem_cons_of_mem _ (List.mem_append_left _ (List.mem_append_left _ (List.mem_append_left _ (List.mem_of_getElem? (i := 10) rfl)))), (fun _ h => absurd h List.not_mem_nil)⟩)⟩)⟩) (by decide +kernel)) ggX10_isAdvised_X10_hasCome
theorem dX10_isAdvised_0 : decode cX10_isAdvised 0 = .ok (.iconst 0, 1) := by decide +kernel
theorem dX10_isAdvised_1 : decode cX10_isAdvised 1 = .ok (.istore_n 2, 1) := by decide +kernel
theorem dX10_isAdvised_2 : decode cX10_isAdvised 2 = .ok (.iload_n 2, 1) := by decide +kernel
theorem dX10_isAdvised_3 : decode cX10_isAdvised 3 = .ok (.aload_n 0, 1) := by decide +kernel
theorem dX10_isAdvised_4 : decode cX10_isAdvised 4 = .ok (.getfield 109, 3) := by decide +kernel
theorem dX10_isAdvised_7 : decode cX10_isAdvised 7 = .ok (.if_icmp .ge 54, 3) := by decide +kernel
theorem dX10_isAdvised_10 : decode cX10_isAdvised 10 = .ok (.aload_n 0, 1) := by decide +kernel
theorem dX10_isAdvised_11 : decode cX10_isAdvised 11 = .ok (.getfield 31, 3) := by decide +kernel
theorem dX10_isAdvised_14 : decode cX10_isAdvised 14 = .ok (.iload_n 2, 1) := by decide +kernel
theorem dX10_isAdvised_15 : decode cX10_isAdvised 15 = .ok (.aaload, 1) := by decide +kernel
theorem dX10_isAdvised_16 : decode cX10_isAdvised 16 = .ok (.astore_n 3, 1) := by decide +kernel
theorem dX10_isAdvised_17 : decode cX10_isAdvised 17 = .ok (.aload_n 3, 1) := by decide +kernel
theorem dX10_isAdvised_18 : decode cX10_isAdvised 18 = .ok (.getfield 345, 3) := by decide +kernel
theorem dX10_isAdvised_21 : decode cX10_isAdvised 21 = .ok (.aload_n 1, 1) := by decide +kernel
theorem dX10_isAdvised_22 : decode cX10_isAdvised 22 = .ok (.getfield 225, 3) := by decide +kernel
theorem dX10_isAdvised_25 : decode cX10_isAdvised 25 = .ok (.if_icmp .ne 30, 3) := by decide +kernel
theorem dX10_isAdvised_28 : decode cX10_isAdvised 28 = .ok (.aload_n 3, 1) := by decide +kernel
theorem dX10_isAdvised_29 : decode cX10_isAdvised 29 = .ok (.getfield 252, 3) := by decide +kernel
theorem dX10_isAdvised_32 : decode cX10_isAdvised 32 = .ok (.aload_n 1, 1) := by decide +kernel
theorem dX10_isAdvised_33 : decode cX10_isAdvised 33 = .ok (.getfield 222, 3) := by decide +kernel
theorem dX10_isAdvised_36 : decode cX10_isAdvised 36 = .ok (.if_icmp .ne 19, 3) := by decide +kernel
theorem dX10_isAdvised_39 : decode cX10_isAdvised 39 = .ok (.aload_n 3, 1) := by decide +kernel
theorem dX10_isAdvised_40 : decode cX10_isAdvised 40 = .ok (.getfield 131, 3) := by decide +kernel
theorem dX10_isAdvised_43 : decode cX10_isAdvised 43 = .ok (.aload_n 1, 1) := by decide +kernel
theorem dX10_isAdvised_44 : decode cX10_isAdvised 44 = .ok (.getfield 237, 3) := by decide +kernel
theorem dX10_isAdvised_47 : decode cX10_isAdvised 47 = .ok (.invokestatic 134, 3) := by decide +kernel
theorem dX10_isAdvised_50 : decode cX10_isAdvised 50 = .ok (.ifCond .eq 5, 3) := by decide +kernel
theorem dX10_isAdvised_53 : decode cX10_isAdvised 53 = .ok (.iconst 1, 1) := by decide +kernel
theorem dX10_isAdvised_54 : decode cX10_isAdvised 54 = .ok (.ireturn, 1) := by decide +kernel
theorem dX10_isAdvised_55 : decode cX10_isAdvised 55 = .ok (.iinc 2 1, 3) := by decide +kernel
theorem dX10_isAdvised_58 : decode cX10_isAdvised 58 = .ok (.goto (-56), 3) := by decide +kernel
theorem dX10_isAdvised_61 : decode cX10_isAdvised 61 = .ok (.iconst 0, 1) := by decide +kernel
theorem dX10_isAdvised_62 : decode cX10_isAdvised 62 = .ok (.ireturn, 1) := by decide +kernel
set_option maxRecDepth 20000 in
theorem ggX10_isStopped_X6_holdsAgainst : GoodIn wsX10_isStopped wsX6_holdsAgainst := goodIn_sub (show ∀ w ∈ wsX6_holdsAgainst, w ∈ wsX10_isStopped from (List.forall_mem_cons.mpr ⟨List.mem_cons_of_mem _ (List.mem_append_left _ (List.mem_append_left _ (List.mem_append_left _ (List.mem_of_getElem? (i := 6) rfl)))), (gw_a (gw_a (List.forall_mem_cons.mpr ⟨List.mem_cons_of_mem _ (List.mem_append_left _ (List.mem_append_left _ (List.mem_append_left _ (List.mem_of_getElem? (i := 7) rfl)))), (List.forall_mem_cons.mpr ⟨List.mem_cons_of_mem _ (List.mem_append_left _ (List.mem_append_left _ (List.mem_append_left _ (List.mem_of_getElem? (i := 8) rfl)))), (List.forall_mem_cons.mpr ⟨List.mem_cons_of_mem _ (List.mem_append_left _ (List.mem_append_left _ (List.mem_append_left _ (List.mem_of_getElem? (i := 9) rfl)))), (List.forall_mem_cons.mpr ⟨List.mem_cons_of_mem _ (List.mem_append_left _ (List.mem_append_left _ (List.mem_append_left _ (List.mem_of_getElem? (i := 10) rfl)))), (List.forall_mem_cons.mpr ⟨List.mem_cons_of_mem _ (List.mem_append_left _ (List.mem_append_left _ (List.mem_append_left _ (List.mem_of_getElem? (i := 11) rfl)))), (List.forall_mem_cons.mpr ⟨List.mem_cons_of_mem _ (List.mem_append_left _ (List.mem_append_left _ (List.mem_append_left _ (List.mem_of_getElem? (i := 12) rfl)))), (List.forall_mem_cons.mpr ⟨List.mem_cons_of_mem _ (List.mem_append_left _ (List.mem_append_left _ (List.mem_append_left _ (List.mem_of_getElem? (i := 13) rfl)))), (List.forall_mem_cons.mpr ⟨List.mem_cons_of_mem _ (List.mem_append_left _ (List.mem_append_left _ (List.mem_append_left _ (List.mem_of_getElem? (i := 14) rfl)))), (List.forall_mem_cons.mpr ⟨List.mem_cons_of_mem _ (List.mem_append_left _ (List.mem_append_left _ (List.mem_append_left _ (List.mem_of_getElem? (i := 15) rfl)))), (List.forall_mem_cons.mpr ⟨List.mem_cons_of_mem _ (List.mem_append_left _ (List.mem_append_left _ (List.mem_append_left _ (List.mem_of_getElem? (i := 16) rfl)))), (fun _ h => absurd h List.not_mem_nil)⟩)⟩)⟩)⟩)⟩)⟩)⟩)⟩)⟩)⟩) (fun _ h => List.mem_cons_of_mem _ (List.mem_append_left _ (List.mem_append_right _ (h))))) (fun _ h => List.mem_cons_of_mem _ (List.mem_append_right _ (h))))⟩)) (by decide +kernel)
set_option maxRecDepth 20000 in
theorem gX10_isStopped_X6_holdsAgainst : GoodIn wsX10_isStopped (wsV RX10 346 RX6 yX6_holdsAgainst wsX6_holdsAgainst) := goodIn_app (goodIn_sub (List.forall_mem_cons.mpr ⟨List.mem_cons_of_mem _ (List.mem_append_left _ (List.mem_append_left _ (List.mem_append_left _ (List.mem_of_getElem? (i := 2) rfl)))), (List.forall_mem_cons.mpr ⟨List.mem_cons_of_mem _ (List.mem_append_left _ (List.mem_append_left _ (List.mem_append_left _ (List.mem_of_getElem? (i := 3) rfl)))), (List.forall_mem_cons.mpr ⟨List.mem_cons_of_mem _ (List.mem_append_left _ (List.mem_append_left _ (List.mem_append_left _ (List.mem_of_getElem? (i := 4) rfl)))), (List.forall_mem_cons.mpr ⟨List.mem_cons_of_mem _ (List.mem_append_left _ (List.mem_append_left _ (List.mem_append_left _ (List.mem_of_getElem? (i := 5) rfl)))), (fun _ h => absurd h List.not_mem_nil)⟩)⟩)⟩)⟩) (by decide +kernel)) ggX10_isStopped_X6_holdsAgainst
theorem dX10_isStopped_0 : decode cX10_isStopped 0 = .ok (.iconst 0, 1) := by decide +kernel
theorem dX10_isStopped_1 : decode cX10_isStopped 1 = .ok (.istore_n 2, 1) := by decide +kernel
theorem dX10_isStopped_2 : decode cX10_isStopped 2 = .ok (.iload_n 2, 1) := by decide +kernel
theorem dX10_isStopped_3 : decode cX10_isStopped 3 = .ok (.aload_n 0, 1) := by decide +kernel
theorem dX10_isStopped_4 : decode cX10_isStopped 4 = .ok (.getfield 138, 3) := by decide +kernel
theorem dX10_isStopped_7 : decode cX10_isStopped 7 = .ok (.if_icmp .ge 24, 3) := by decide +kernel
theorem dX10_isStopped_10 : decode cX10_isStopped 10 = .ok (.aload_n 0, 1) := by decide +kernel
theorem dX10_isStopped_11 : decode cX10_isStopped 11 = .ok (.getfield 37, 3) := by decide +kernel
theorem dX10_isStopped_14 : decode cX10_isStopped 14 = .ok (.iload_n 2, 1) := by decide +kernel
theorem dX10_isStopped_15 : decode cX10_isStopped 15 = .ok (.aaload, 1) := by decide +kernel
theorem dX10_isStopped_16 : decode cX10_isStopped 16 = .ok (.aload_n 1, 1) := by decide +kernel
theorem dX10_isStopped_17 : decode cX10_isStopped 17 = .ok (.invokevirtual 346, 3) := by decide +kernel
theorem dX10_isStopped_20 : decode cX10_isStopped 20 = .ok (.ifCond .eq 5, 3) := by decide +kernel
theorem dX10_isStopped_23 : decode cX10_isStopped 23 = .ok (.iconst 1, 1) := by decide +kernel
theorem dX10_isStopped_24 : decode cX10_isStopped 24 = .ok (.ireturn, 1) := by decide +kernel
theorem dX10_isStopped_25 : decode cX10_isStopped 25 = .ok (.iinc 2 1, 3) := by decide +kernel
theorem dX10_isStopped_28 : decode cX10_isStopped 28 = .ok (.goto (-26), 3) := by decide +kernel
theorem dX10_isStopped_31 : decode cX10_isStopped 31 = .ok (.iconst 0, 1) := by decide +kernel
theorem dX10_isStopped_32 : decode cX10_isStopped 32 = .ok (.ireturn, 1) := by decide +kernel
set_option maxRecDepth 20000 in
theorem ggX10_kindOf_X10_paperAt : GoodIn wsX10_kindOf wsX10_paperAt := goodIn_sub (show ∀ w ∈ wsX10_paperAt, w ∈ wsX10_kindOf from (List.forall_mem_cons.mpr ⟨List.mem_cons_of_mem _ (List.mem_append_left _ (List.mem_append_left _ (List.mem_append_left _ (List.mem_append_left _ (List.mem_append_left _ (List.mem_append_left _ (List.mem_append_left _ (List.mem_of_getElem? (i := 11) rfl)))))))), (gw_a (List.forall_mem_cons.mpr ⟨List.mem_cons_of_mem _ (List.mem_append_left _ (List.mem_append_left _ (List.mem_append_left _ (List.mem_append_left _ (List.mem_append_left _ (List.mem_append_left _ (List.mem_append_left _ (List.mem_of_getElem? (i := 12) rfl)))))))), (List.forall_mem_cons.mpr ⟨List.mem_cons_of_mem _ (List.mem_append_left _ (List.mem_append_left _ (List.mem_append_left _ (List.mem_append_left _ (List.mem_append_left _ (List.mem_append_left _ (List.mem_append_left _ (List.mem_of_getElem? (i := 13) rfl)))))))), (fun _ h => absurd h List.not_mem_nil)⟩)⟩) (fun _ h => List.mem_cons_of_mem _ (List.mem_append_left _ (List.mem_append_left _ (List.mem_append_left _ (List.mem_append_right _ (h)))))))⟩)) (by decide +kernel)
set_option maxRecDepth 20000 in
theorem gX10_kindOf_X10_paperAt : GoodIn wsX10_kindOf (wsV RX10 112 RX10 yX10_paperAt wsX10_paperAt) := goodIn_app (goodIn_sub (List.forall_mem_cons.mpr ⟨List.mem_cons_of_mem _ (List.mem_append_left _ (List.mem_append_left _ (List.mem_append_left _ (List.mem_append_left _ (List.mem_append_left _ (List.mem_append_left _ (List.mem_append_left _ (List.mem_of_getElem? (i := 7) rfl)))))))), (List.forall_mem_cons.mpr ⟨List.mem_cons_of_mem _ (List.mem_append_left _ (List.mem_append_left _ (List.mem_append_left _ (List.mem_append_left _ (List.mem_append_left _ (List.mem_append_left _ (List.mem_append_left _ (List.mem_of_getElem? (i := 8) rfl)))))))), (List.forall_mem_cons.mpr ⟨List.mem_cons_of_mem _ (List.mem_append_left _ (List.mem_append_left _ (List.mem_append_left _ (List.mem_append_left _ (List.mem_append_left _ (List.mem_append_left _ (List.mem_append_left _ (List.mem_of_getElem? (i := 9) rfl)))))))), (List.forall_mem_cons.mpr ⟨List.mem_cons_of_mem _ (List.mem_append_left _ (List.mem_append_left _ (List.mem_append_left _ (List.mem_append_left _ (List.mem_append_left _ (List.mem_append_left _ (List.mem_append_left _ (List.mem_of_getElem? (i := 10) rfl)))))))), (fun _ h => absurd h List.not_mem_nil)⟩)⟩)⟩)⟩) (by decide +kernel)) ggX10_kindOf_X10_paperAt
set_option maxRecDepth 20000 in
theorem ggX10_kindOf_X10_isStopped : GoodIn wsX10_kindOf wsX10_isStopped := goodIn_sub (show ∀ w ∈ wsX10_isStopped, w ∈ wsX10_kindOf from (List.forall_mem_cons.mpr ⟨List.mem_cons_of_mem _ (List.mem_append_left _ (List.mem_append_left _ (List.mem_append_left _ (List.mem_append_left _ (List.mem_append_left _ (List.mem_append_left _ (List.mem_append_left _ (List.mem_of_getElem? (i := 17) rfl)))))))), (gw_a (gw_a (gw_a (List.forall_mem_cons.mpr ⟨List.mem_cons_of_mem _ (List.mem_append_left _ (List.mem_append_left _ (List.mem_append_left _ (List.mem_append_left _ (List.mem_append_left _ (List.mem_append_left _ (List.mem_append_left _ (List.mem_of_getElem? (i := 18) rfl)))))))), (List.forall_mem_cons.mpr ⟨List.mem_cons_of_mem _ (List.mem_append_left _ (List.mem_append_left _ (List.mem_append_left _ (List.mem_append_left _ (List.mem_append_left _ (List.mem_append_left _ (List.mem_append_left _ (List.mem_of_getElem? (i := 19) rfl)))))))), (List.forall_mem_cons.mpr ⟨List.mem_cons_of_mem _ (List.mem_append_left _ (List.mem_append_left _ (List.mem_append_left _ (List.mem_append_left _ (List.mem_append_left _ (List.mem_append_left _ (List.mem_append_left _ (List.mem_of_getElem? (i := 20) rfl)))))))), (List.forall_mem_cons.mpr ⟨List.mem_cons_of_mem _ (List.mem_append_left _ (List.mem_append_left _ (List.mem_append_left _ (List.mem_append_left _ (List.mem_append_left _ (List.mem_append_left _ (List.mem_append_left _ (List.mem_of_getElem? (i := 21) rfl)))))))), (List.forall_mem_cons.mpr ⟨List.mem_cons_of_mem _ (List.mem_append_left _ (List.mem_append_left _ (List.mem_append_left _ (List.mem_append_left _ (List.mem_append_left _ (List.mem_append_left _ (List.mem_append_left _ (List.mem_of_getElem? (i := 22) rfl)))))))), (List.forall_mem_cons.mpr ⟨List.mem_cons_of_mem _ (List.mem_append_left _ (List.mem_append_left _ (List.mem_append_left _ (List.mem_append_left _ (List.mem_append_left _ (List.mem_append_left _ (List.mem_append_left _ (List.mem_of_getElem? (i := 23) rfl)))))))), (List.forall_mem_cons.mpr ⟨List.mem_cons_of_mem _ (List.mem_append_left _ (List.mem_append_left _ (List.mem_append_left _ (List.mem_append_left _ (List.mem_append_left _ (List.mem_append_left _ (List.mem_append_right _ (List.mem_append_left _ (List.mem_of_getElem? (i := 0) rfl))))))))), (List.forall_mem_cons.mpr ⟨List.mem_cons_of_mem _ (List.mem_append_left _ (List.mem_append_left _ (List.mem_append_left _ (List.mem_append_left _ (List.mem_append_left _ (List.mem_append_left _ (List.mem_append_right _ (List.mem_append_left _ (List.mem_of_getElem? (i := 1) rfl))))))))), (List.forall_mem_cons.mpr ⟨List.mem_cons_of_mem _ (List.mem_append_left _ (List.mem_append_left _ (List.mem_append_left _ (List.mem_append_left _ (List.mem_append_left _ (List.mem_append_left _ (List.mem_append_right _ (List.mem_append_left _ (List.mem_of_getElem? (i := 2) rfl))))))))), (List.forall_mem_cons.mpr ⟨List.mem_cons_of_mem _ (List.mem_append_left _ (List.mem_append_left _ (List.mem_append_left _ (List.mem_append_left _ (List.mem_append_left _ (List.mem_append_left _ (List.mem_append_right _ (List.mem_append_left _ (List.mem_of_getElem? (i := 3) rfl))))))))), (List.forall_mem_cons.mpr ⟨List.mem_cons_of_mem _ (List.mem_append_left _ (List.mem_append_left _ (List.mem_append_left _ (List.mem_append_left _ (List.mem_append_left _ (List.mem_append_left _ (List.mem_append_right _ (List.mem_append_left _ (List.mem_of_getElem? (i := 4) rfl))))))))), (List.forall_mem_cons.mpr ⟨List.mem_cons_of_mem _ (List.mem_append_left _ (List.mem_append_left _ (List.mem_append_left _ (List.mem_append_left _ (List.mem_append_left _ (List.mem_append_left _ (List.mem_append_right _ (List.mem_append_left _ (List.mem_of_getElem? (i := 5) rfl))))))))), (List.forall_mem_cons.mpr ⟨List.mem_cons_of_mem _ (List.mem_append_left _ (List.mem_append_left _ (List.mem_append_left _ (List.mem_append_left _ (List.mem_append_left _ (List.mem_append_left _ (List.mem_append_right _ (List.mem_append_left _ (List.mem_of_getElem? (i := 6) rfl))))))))), (List.forall_mem_cons.mpr ⟨List.mem_cons_of_mem _ (List.mem_append_left _ (List.mem_append_left _ (List.mem_append_left _ (List.mem_append_left _ (List.mem_append_left _ (List.mem_append_left _ (List.mem_append_right _ (List.mem_append_left _ (List.mem_of_getElem? (i := 7) rfl))))))))), (List.forall_mem_cons.mpr ⟨List.mem_cons_of_mem _ (List.mem_append_left _ (List.mem_append_left _ (List.mem_append_left _ (List.mem_append_left _ (List.mem_append_left _ (List.mem_append_left _ (List.mem_append_right _ (List.mem_append_left _ (List.mem_of_getElem? (i := 8) rfl))))))))), (List.forall_mem_cons.mpr ⟨List.mem_cons_of_mem _ (List.mem_append_left _ (List.mem_append_left _ (List.mem_append_left _ (List.mem_append_left _ (List.mem_append_left _ (List.mem_append_left _ (List.mem_append_left _ (List.mem_of_getElem? (i := 10) rfl)))))))), (List.forall_mem_cons.mpr ⟨List.mem_cons_of_mem _ (List.mem_append_left _ (List.mem_append_left _ (List.mem_append_left _ (List.mem_append_left _ (List.mem_append_left _ (List.mem_append_left _ (List.mem_append_right _ (List.mem_append_left _ (List.mem_of_getElem? (i := 9) rfl))))))))), (fun _ h => absurd h List.not_mem_nil)⟩)⟩)⟩)⟩)⟩)⟩)⟩)⟩)⟩)⟩)⟩)⟩)⟩)⟩)⟩)⟩)⟩) (fun _ h => List.mem_cons_of_mem _ (List.mem_append_left _ (List.mem_append_left _ (List.mem_append_left _ (List.mem_append_right _ (h))))))) (fun _ h => List.mem_cons_of_mem _ (List.mem_append_left _ (List.mem_append_right _ (h))))) (fun _ h => List.mem_cons_of_mem _ (List.mem_append_left _ (List.mem_append_left _ (List.mem_append_left _ (List.mem_append_left _ (List.mem_append_left _ (List.mem_append_right _ (h)))))))))⟩)) (by decide +kernel)
set_option maxRecDepth 20000 in
theorem gX10_kindOf_X10_isStopped : GoodIn wsX10_kindOf (wsV RX10 337 RX10 yX10_isStopped wsX10_isStopped) := goodIn_app (goodIn_sub (List.forall_mem_cons.mpr ⟨List.mem_cons_of_mem _ (List.mem_append_left _ (List.mem_append_left _ (List.mem_append_left _ (List.mem_append_left _ (List.mem_append_left _ (List.mem_append_left _ (List.mem_append_left _ (List.mem_of_getElem? (i := 14) rfl)))))))), (List.forall_mem_cons.mpr ⟨List.mem_cons_of_mem _ (List.mem_append_left _ (List.mem_append_left _ (List.mem_append_left _ (List.mem_append_left _ (List.mem_append_left _ (List.mem_append_left _ (List.mem_append_left _ (List.mem_of_getElem? (i := 15) rfl)))))))), (List.forall_mem_cons.mpr ⟨List.mem_cons_of_mem _ (List.mem_append_left _ (List.mem_append_left _ (List.mem_append_left _ (List.mem_append_left _ (List.mem_append_left _ (List.mem_append_left _ (List.mem_append_left _ (List.mem_of_getElem? (i := 16) rfl)))))))), (List.forall_mem_cons.mpr ⟨List.mem_cons_of_mem _ (List.mem_append_left _ (List.mem_append_left _ (List.mem_append_left _ (List.mem_append_left _ (List.mem_append_left _ (List.mem_append_left _ (List.mem_append_left _ (List.mem_of_getElem? (i := 10) rfl)))))))), (fun _ h => absurd h List.not_mem_nil)⟩)⟩)⟩)⟩) (by decide +kernel)) ggX10_kindOf_X10_isStopped
set_option maxRecDepth 20000 in
theorem ggX10_kindOf_X10_unlikeness : GoodIn wsX10_kindOf wsX10_unlikeness := goodIn_sub (show ∀ w ∈ wsX10_unlikeness, w ∈ wsX10_kindOf from (List.forall_mem_cons.mpr ⟨List.mem_cons_of_mem _ (List.mem_append_left _ (List.mem_append_left _ (List.mem_append_left _ (List.mem_append_left _ (List.mem_append_left _ (List.mem_append_left _ (List.mem_append_right _ (List.mem_append_left _ (List.mem_of_getElem? (i := 12) rfl))))))))), (List.forall_mem_cons.mpr ⟨List.mem_cons_of_mem _ (List.mem_append_left _ (List.mem_append_left _ (List.mem_append_left _ (List.mem_append_left _ (List.mem_append_left _ (List.mem_append_left _ (List.mem_append_right _ (List.mem_append_left _ (List.mem_of_getElem? (i := 13) rfl))))))))), (List.forall_mem_cons.mpr ⟨List.mem_cons_of_mem _ (List.mem_append_left _ (List.mem_append_left _ (List.mem_append_left _ (List.mem_append_left _ (List.mem_append_left _ (List.mem_append_left _ (List.mem_append_right _ (List.mem_append_left _ (List.mem_of_getElem? (i := 14) rfl))))))))), (List.forall_mem_cons.mpr ⟨List.mem_cons_of_mem _ (List.mem_append_left _ (List.mem_append_left _ (List.mem_append_left _ (List.mem_append_left _ (List.mem_append_left _ (List.mem_append_left _ (List.mem_append_right _ (List.mem_append_left _ (List.mem_of_getElem? (i := 15) rfl))))))))), (List.forall_mem_cons.mpr ⟨List.mem_cons_of_mem _ (List.mem_append_left _ (List.mem_append_left _ (List.mem_append_left _ (List.mem_append_left _ (List.mem_append_left _ (List.mem_append_left _ (List.mem_append_right _ (List.mem_append_left _ (List.mem_of_getElem? (i := 16) rfl))))))))), (fun _ h => absurd h List.not_mem_nil)⟩)⟩)⟩)⟩)⟩)) (by decide +kernel)
set_option maxRecDepth 20000 in
theorem gX10_kindOf_X10_unlikeness : GoodIn wsX10_kindOf (va_wsS RX10 334 yX10_unlikeness wsX10_unlikeness) := goodIn_app (goodIn_sub (List.forall_mem_cons.mpr ⟨List.mem_cons_of_mem _ (List.mem_append_left _ (List.mem_append_left _ (List.mem_append_left _ (List.mem_append_left _ (List.mem_append_left _ (List.mem_append_left _ (List.mem_append_right _ (List.mem_append_left _ (List.mem_of_getElem? (i := 10) rfl))))))))), (List.forall_mem_cons.mpr ⟨List.mem_cons_of_mem _ (List.mem_append_left _ (List.mem_append_left _ (List.mem_append_left _ (List.mem_append_left _ (List.mem_append_left _ (List.mem_append_left _ (List.mem_append_right _ (List.mem_append_left _ (List.mem_of_getElem? (i := 11) rfl))))))))), (List.forall_mem_cons.mpr ⟨List.mem_cons_of_mem _ (List.mem_append_left _ (List.mem_append_left _ (List.mem_append_left _ (List.mem_append_left _ (List.mem_append_left _ (List.mem_append_left _ (List.mem_append_left _ (List.mem_of_getElem? (i := 10) rfl)))))))), (fun _ h => absurd h List.not_mem_nil)⟩)⟩)⟩) (by decide +kernel)) ggX10_kindOf_X10_unlikeness
set_option maxRecDepth 20000 in
theorem ggX10_kindOf_X3_isBook : GoodIn wsX10_kindOf wsX3_isBook := goodIn_sub (show ∀ w ∈ wsX3_isBook, w ∈ wsX10_kindOf from (List.forall_mem_cons.mpr ⟨List.mem_cons_of_mem _ (List.mem_append_left _ (List.mem_append_left _ (List.mem_append_left _ (List.mem_append_left _ (List.mem_append_left _ (List.mem_append_left _ (List.mem_append_right _ (List.mem_append_left _ (List.mem_of_getElem? (i := 21) rfl))))))))), (gw_a (List.forall_mem_cons.mpr ⟨List.mem_cons_of_mem _ (List.mem_append_left _ (List.mem_append_left _ (List.mem_append_left _ (List.mem_append_left _ (List.mem_append_left _ (List.mem_append_left _ (List.mem_append_right _ (List.mem_append_left _ (List.mem_of_getElem? (i := 22) rfl))))))))), (fun _ h => absurd h List.not_mem_nil)⟩) (fun _ h => List.mem_cons_of_mem _ (List.mem_append_left _ (List.mem_append_left _ (List.mem_append_left _ (List.mem_append_left _ (List.mem_append_right _ (h))))))))⟩)) (by decide +kernel)
set_option maxRecDepth 20000 in
theorem gX10_kindOf_X3_isBook : GoodIn wsX10_kindOf (wsV RX10 181 RX3 yX3_isBook wsX3_isBook) := goodIn_app (goodIn_sub (List.forall_mem_cons.mpr ⟨List.mem_cons_of_mem _ (List.mem_append_left _ (List.mem_append_left _ (List.mem_append_left _ (List.mem_append_left _ (List.mem_append_left _ (List.mem_append_left _ (List.mem_append_right _ (List.mem_append_left _ (List.mem_of_getElem? (i := 17) rfl))))))))), (List.forall_mem_cons.mpr ⟨List.mem_cons_of_mem _ (List.mem_append_left _ (List.mem_append_left _ (List.mem_append_left _ (List.mem_append_left _ (List.mem_append_left _ (List.mem_append_left _ (List.mem_append_right _ (List.mem_append_left _ (List.mem_of_getElem? (i := 18) rfl))))))))), (List.forall_mem_cons.mpr ⟨List.mem_cons_of_mem _ (List.mem_append_left _ (List.mem_append_left _ (List.mem_append_left _ (List.mem_append_left _ (List.mem_append_left _ (List.mem_append_left _ (List.mem_append_right _ (List.mem_append_left _ (List.mem_of_getElem? (i := 19) rfl))))))))), (List.forall_mem_cons.mpr ⟨List.mem_cons_of_mem _ (List.mem_append_left _ (List.mem_append_left _ (List.mem_append_left _ (List.mem_append_left _ (List.mem_append_left _ (List.mem_append_left _ (List.mem_append_right _ (List.mem_append_left _ (List.mem_of_getElem? (i := 20) rfl))))))))), (fun _ h => absurd h List.not_mem_nil)⟩)⟩)⟩)⟩) (by decide +kernel)) ggX10_kindOf_X3_isBook
set_option maxRecDepth 20000 in
theorem ggX10_kindOf_X10_isSettledAhead : GoodIn wsX10_kindOf wsX10_isSettledAhead := goodIn_sub (show ∀ w ∈ wsX10_isSettledAhead, w ∈ wsX10_kindOf from (List.forall_mem_cons.mpr ⟨List.mem_cons_of_mem _ (List.mem_append_left _ (List.mem_append_left _ (List.mem_append_left _ (List.mem_append_left _ (List.mem_append_left _ (List.mem_append_left _ (List.mem_append_right _ (List.mem_append_right _ (List.mem_of_getElem? (i := 2) rfl))))))))), (gw_a (gw_a (gw_a (List.forall_mem_cons.mpr ⟨List.mem_cons_of_mem _ (List.mem_append_left _ (List.mem_append_left _ (List.mem_append_left _ (List.mem_append_left _ (List.mem_append_left _ (List.mem_append_left _ (List.mem_append_right _ (List.mem_append_right _ (List.mem_of_getElem? (i := 3) rfl))))))))), (List.forall_mem_cons.mpr ⟨List.mem_cons_of_mem _ (List.mem_append_left _ (List.mem_append_left _ (List.mem_append_left _ (List.mem_append_left _ (List.mem_append_left _ (List.mem_append_left _ (List.mem_append_right _ (List.mem_append_right _ (List.mem_of_getElem? (i := 4) rfl))))))))), (List.forall_mem_cons.mpr ⟨List.mem_cons_of_mem _ (List.mem_append_left _ (List.mem_append_left _ (List.mem_append_left _ (List.mem_append_left _ (List.mem_append_left _ (List.mem_append_left _ (List.mem_append_left _ (List.mem_of_getElem? (i := 0) rfl)))))))), (List.forall_mem_cons.mpr ⟨List.mem_cons_of_mem _ (List.mem_append_left _ (List.mem_append_left _ (List.mem_append_left _ (List.mem_append_left _ (List.mem_append_left _ (List.mem_append_left _ (List.mem_append_right _ (List.mem_append_right _ (List.mem_of_getElem? (i := 5) rfl))))))))), (List.forall_mem_cons.mpr ⟨List.mem_cons_of_mem _ (List.mem_append_left _ (List.mem_append_left _ (List.mem_append_left _ (List.mem_append_left _ (List.mem_append_left _ (List.mem_append_left _ (List.mem_append_right _ (List.mem_append_right _ (List.mem_of_getElem? (i := 6) rfl))))))))), (List.forall_mem_cons.mpr ⟨List.mem_cons_of_mem _ (List.mem_append_left _ (List.mem_append_left _ (List.mem_append_left _ (List.mem_append_left _ (List.mem_append_left _ (List.mem_append_left _ (List.mem_append_right _ (List.mem_append_right _ (List.mem_of_getElem? (i := 7) rfl))))))))), (List.forall_mem_cons.mpr ⟨List.mem_cons_of_mem _ (List.mem_append_left _ (List.mem_append_left _ (List.mem_append_left _ (List.mem_append_left _ (List.mem_append_left _ (List.mem_append_left _ (List.mem_append_right _ (List.mem_append_right _ (List.mem_of_getElem? (i := 8) rfl))))))))), (List.forall_mem_cons.mpr ⟨List.mem_cons_of_mem _ (List.mem_append_left _ (List.mem_append_left _ (List.mem_append_left _ (List.mem_append_left _ (List.mem_append_left _ (List.mem_append_left _ (List.mem_append_right _ (List.mem_append_right _ (List.mem_of_getElem? (i := 9) rfl))))))))), (List.forall_mem_cons.mpr ⟨List.mem_cons_of_mem _ (List.mem_append_left _ (List.mem_append_left _ (List.mem_append_left _ (List.mem_append_left _ (List.mem_append_left _ (List.mem_append_left _ (List.mem_append_right _ (List.mem_append_right _ (List.mem_of_getElem? (i := 10) rfl))))))))), (List.forall_mem_cons.mpr ⟨List.mem_cons_of_mem _ (List.mem_append_left _ (List.mem_append_left _ (List.mem_append_left _ (List.mem_append_left _ (List.mem_append_left _ (List.mem_append_left _ (List.mem_append_right _ (List.mem_append_right _ (List.mem_of_getElem? (i := 11) rfl))))))))), (fun _ h => absurd h List.not_mem_nil)⟩)⟩)⟩)⟩)⟩)⟩)⟩)⟩)⟩)⟩) (fun _ h => List.mem_cons_of_mem _ (List.mem_append_left _ (List.mem_append_left _ (List.mem_append_left _ (List.mem_append_right _ (h))))))) (fun _ h => List.mem_cons_of_mem _ (List.mem_append_left _ (List.mem_append_left _ (List.mem_append_left _ (List.mem_append_left _ (List.mem_append_left _ (List.mem_append_right _ (h))))))))) (fun _ h => List.mem_cons_of_mem _ (List.mem_append_right _ (h))))⟩)) (by decide +kernel)
set_option maxRecDepth 20000 in
theorem gX10_kindOf_X10_isSettledAhead : GoodIn wsX10_kindOf (wsV RX10 349 RX10 yX10_isSettledAhead wsX10_isSettledAhead) := goodIn_app (goodIn_sub (List.forall_mem_cons.mpr ⟨List.mem_cons_of_mem _ (List.mem_append_left _ (List.mem_append_left _ (List.mem_append_left _ (List.mem_append_left _ (List.mem_append_left _ (List.mem_append_left _ (List.mem_append_right _ (List.mem_append_left _ (List.mem_of_getElem? (i := 23) rfl))))))))), (List.forall_mem_cons.mpr ⟨List.mem_cons_of_mem _ (List.mem_append_left _ (List.mem_append_left _ (List.mem_append_left _ (List.mem_append_left _ (List.mem_append_left _ (List.mem_append_left _ (List.mem_append_right _ (List.mem_append_right _ (List.mem_of_getElem? (i := 0) rfl))))))))), (List.forall_mem_cons.mpr ⟨List.mem_cons_of_mem _ (List.mem_append_left _ (List.mem_append_left _ (List.mem_append_left _ (List.mem_append_left _ (List.mem_append_left _ (List.mem_append_left _ (List.mem_append_right _ (List.mem_append_right _ (List.mem_of_getElem? (i := 1) rfl))))))))), (List.forall_mem_cons.mpr ⟨List.mem_cons_of_mem _ (List.mem_append_left _ (List.mem_append_left _ (List.mem_append_left _ (List.mem_append_left _ (List.mem_append_left _ (List.mem_append_left _ (List.mem_append_left _ (List.mem_of_getElem? (i := 10) rfl)))))))), (fun _ h => absurd h List.not_mem_nil)⟩)⟩)⟩)⟩) (by decide +kernel)) ggX10_kindOf_X10_isSettledAhead
set_option maxRecDepth 20000 in
theorem ggX10_kindOf_X10_settledAhead : GoodIn wsX10_kindOf wsX10_settledAhead := goodIn_sub (show ∀ w ∈ wsX10_settledAhead, w ∈ wsX10_kindOf from (List.forall_mem_cons.mpr ⟨List.mem_cons_of_mem _ (List.mem_append_left _ (List.mem_append_left _ (List.mem_append_left _ (List.mem_append_left _ (List.mem_append_left _ (List.mem_append_left _ (List.mem_append_right _ (List.mem_append_right _ (List.mem_of_getElem? (i := 15) rfl))))))))), (gw_a (gw_a (gw_a (List.forall_mem_cons.mpr ⟨List.mem_cons_of_mem _ (List.mem_append_left _ (List.mem_append_left _ (List.mem_append_left _ (List.mem_append_left _ (List.mem_append_left _ (List.mem_append_left _ (List.mem_append_right _ (List.mem_append_right _ (List.mem_of_getElem? (i := 4) rfl))))))))), (List.forall_mem_cons.mpr ⟨List.mem_cons_of_mem _ (List.mem_append_left _ (List.mem_append_left _ (List.mem_append_left _ (List.mem_append_left _ (List.mem_append_left _ (List.mem_append_left _ (List.mem_append_right _ (List.mem_append_right _ (List.mem_of_getElem? (i := 3) rfl))))))))), (List.forall_mem_cons.mpr ⟨List.mem_cons_of_mem _ (List.mem_append_left _ (List.mem_append_left _ (List.mem_append_left _ (List.mem_append_left _ (List.mem_append_left _ (List.mem_append_left _ (List.mem_append_left _ (List.mem_of_getElem? (i := 0) rfl)))))))), (List.forall_mem_cons.mpr ⟨List.mem_cons_of_mem _ (List.mem_append_left _ (List.mem_append_left _ (List.mem_append_left _ (List.mem_append_left _ (List.mem_append_left _ (List.mem_append_left _ (List.mem_append_left _ (List.mem_of_getElem? (i := 5) rfl)))))))), (List.forall_mem_cons.mpr ⟨List.mem_cons_of_mem _ (List.mem_append_left _ (List.mem_append_left _ (List.mem_append_left _ (List.mem_append_left _ (List.mem_append_left _ (List.mem_append_left _ (List.mem_append_right _ (List.mem_append_right _ (List.mem_of_getElem? (i := 6) rfl))))))))), (List.forall_mem_cons.mpr ⟨List.mem_cons_of_mem _ (List.mem_append_left _ (List.mem_append_left _ (List.mem_append_left _ (List.mem_append_left _ (List.mem_append_left _ (List.mem_append_left _ (List.mem_append_right _ (List.mem_append_right _ (List.mem_of_getElem? (i := 7) rfl))))))))), (List.forall_mem_cons.mpr ⟨List.mem_cons_of_mem _ (List.mem_append_left _ (List.mem_append_left _ (List.mem_append_left _ (List.mem_append_left _ (List.mem_append_left _ (List.mem_append_left _ (List.mem_append_right _ (List.mem_append_right _ (List.mem_of_getElem? (i := 8) rfl))))))))), (List.forall_mem_cons.mpr ⟨List.mem_cons_of_mem _ (List.mem_append_left _ (List.mem_append_left _ (List.mem_append_left _ (List.mem_append_left _ (List.mem_append_left _ (List.mem_append_left _ (List.mem_append_right _ (List.mem_append_right _ (List.mem_of_getElem? (i := 9) rfl))))))))), (List.forall_mem_cons.mpr ⟨List.mem_cons_of_mem _ (List.mem_append_left _ (List.mem_append_left _ (List.mem_append_left _ (List.mem_append_left _ (List.mem_append_left _ (List.mem_append_left _ (List.mem_append_right _ (List.mem_append_right _ (List.mem_of_getElem? (i := 10) rfl))))))))), (List.forall_mem_cons.mpr ⟨List.mem_cons_of_mem _ (List.mem_append_left _ (List.mem_append_left _ (List.mem_append_left _ (List.mem_append_left _ (List.mem_append_left _ (List.mem_append_left _ (List.mem_append_right _ (List.mem_append_right _ (List.mem_of_getElem? (i := 11) rfl))))))))), (fun _ h => absurd h List.not_mem_nil)⟩)⟩)⟩)⟩)⟩)⟩)⟩)⟩)⟩)⟩) (fun _ h => List.mem_cons_of_mem _ (List.mem_append_left _ (List.mem_append_left _ (List.mem_append_left _ (List.mem_append_right _ (h))))))) (fun _ h => List.mem_cons_of_mem _ (List.mem_append_left _ (List.mem_append_left _ (List.mem_append_left _ (List.mem_append_left _ (List.mem_append_left _ (List.mem_append_right _ (h))))))))) (fun _ h => List.mem_cons_of_mem _ (List.mem_append_right _ (h))))⟩)) (by decide +kernel)
set_option maxRecDepth 20000 in
theorem gX10_kindOf_X10_settledAhead : GoodIn wsX10_kindOf (wsV RX10 353 RX10 yX10_settledAhead wsX10_settledAhead) := goodIn_app (goodIn_sub (List.forall_mem_cons.mpr ⟨List.mem_cons_of_mem _ (List.mem_append_left _ (List.mem_append_left _ (List.mem_append_left _ (List.mem_append_left _ (List.mem_append_left _ (List.mem_append_left _ (List.mem_append_right _ (List.mem_append_right _ (List.mem_of_getElem? (i := 12) rfl))))))))), (List.forall_mem_cons.mpr ⟨List.mem_cons_of_mem _ (List.mem_append_left _ (List.mem_append_left _ (List.mem_append_left _ (List.mem_append_left _ (List.mem_append_left _ (List.mem_append_left _ (List.mem_append_right _ (List.mem_append_right _ (List.mem_of_getElem? (i := 13) rfl))))))))), (List.forall_mem_cons.mpr ⟨List.mem_cons_of_mem _ (List.mem_append_left _ (List.mem_append_left _ (List.mem_append_left _ (List.mem_append_left _ (List.mem_append_left _ (List.mem_append_left _ (List.mem_append_right _ (List.mem_append_right _ (List.mem_of_getElem? (i := 14) rfl))))))))), (List.forall_mem_cons.mpr ⟨List.mem_cons_of_mem _ (List.mem_append_left _ (List.mem_append_left _ (List.mem_append_left _ (List.mem_append_left _ (List.mem_append_left _ (List.mem_append_left _ (List.mem_append_left _ (List.mem_of_getElem? (i := 10) rfl)))))))), (fun _ h => absurd h List.not_mem_nil)⟩)⟩)⟩)⟩) (by decide +kernel)) ggX10_kindOf_X10_settledAhead
theorem dX10_kindOf_0 : decode cX10_kindOf 0 = .ok (.aload_n 0, 1) := by decide +kernel
theorem dX10_kindOf_1 : decode cX10_kindOf 1 = .ok (.aload_n 2, 1) := by decide +kernel
theorem dX10_kindOf_2 : decode cX10_kindOf 2 = .ok (.getfield 225, 3) := by decide +kernel
theorem dX10_kindOf_5 : decode cX10_kindOf 5 = .ok (.invokevirtual 112, 3) := by decide +kernel
theorem dX10_kindOf_8 : decode cX10_kindOf 8 = .ok (.astore_n 3, 1) := by decide +kernel
theorem dX10_kindOf_9 : decode cX10_kindOf 9 = .ok (.aload_n 3, 1) := by decide +kernel
theorem dX10_kindOf_10 : decode cX10_kindOf 10 = .ok (.ifnonnull 5, 3) := by decide +kernel
theorem dX10_kindOf_13 : decode cX10_kindOf 13 = .ok (.iconst 0, 1) := by decide +kernel
theorem dX10_kindOf_14 : decode cX10_kindOf 14 = .ok (.ireturn, 1) := by decide +kernel
theorem dX10_kindOf_15 : decode cX10_kindOf 15 = .ok (.aload_n 0, 1) := by decide +kernel
theorem dX10_kindOf_16 : decode cX10_kindOf 16 = .ok (.aload_n 2, 1) := by decide +kernel
theorem dX10_kindOf_17 : decode cX10_kindOf 17 = .ok (.invokevirtual 337, 3) := by decide +kernel
theorem dX10_kindOf_20 : decode cX10_kindOf 20 = .ok (.ifCond .eq 5, 3) := by decide +kernel
theorem dX10_kindOf_23 : decode cX10_kindOf 23 = .ok (.iconst 1, 1) := by decide +kernel
theorem dX10_kindOf_24 : decode cX10_kindOf 24 = .ok (.ireturn, 1) := by decide +kernel
theorem dX10_kindOf_25 : decode cX10_kindOf 25 = .ok (.aload_n 2, 1) := by decide +kernel
theorem dX10_kindOf_26 : decode cX10_kindOf 26 = .ok (.getfield 330, 3) := by decide +kernel
theorem dX10_kindOf_29 : decode cX10_kindOf 29 = .ok (.aload_n 3, 1) := by decide +kernel
theorem dX10_kindOf_30 : decode cX10_kindOf 30 = .ok (.getfield 333, 3) := by decide +kernel
theorem dX10_kindOf_33 : decode cX10_kindOf 33 = .ok (.invokestatic 334, 3) := by decide +kernel
theorem dX10_kindOf_36 : decode cX10_kindOf 36 = .ok (.aload_n 0, 1) := by decide +kernel
theorem dX10_kindOf_37 : decode cX10_kindOf 37 = .ok (.getfield 75, 3) := by decide +kernel
theorem dX10_kindOf_40 : decode cX10_kindOf 40 = .ok (.getfield 317, 3) := by decide +kernel
theorem dX10_kindOf_43 : decode cX10_kindOf 43 = .ok (.if_icmp .lt 5, 3) := by decide +kernel
theorem dX10_kindOf_46 : decode cX10_kindOf 46 = .ok (.iconst 2, 1) := by decide +kernel
theorem dX10_kindOf_47 : decode cX10_kindOf 47 = .ok (.ireturn, 1) := by decide +kernel
theorem dX10_kindOf_48 : decode cX10_kindOf 48 = .ok (.aload_n 3, 1) := by decide +kernel
theorem dX10_kindOf_49 : decode cX10_kindOf 49 = .ok (.invokevirtual 181, 3) := by decide +kernel
theorem dX10_kindOf_52 : decode cX10_kindOf 52 = .ok (.ifCond .eq 18, 3) := by decide +kernel
theorem dX10_kindOf_55 : decode cX10_kindOf 55 = .ok (.aload_n 0, 1) := by decide +kernel
theorem dX10_kindOf_56 : decode cX10_kindOf 56 = .ok (.iload_n 1, 1) := by decide +kernel
theorem dX10_kindOf_57 : decode cX10_kindOf 57 = .ok (.aload_n 2, 1) := by decide +kernel
theorem dX10_kindOf_58 : decode cX10_kindOf 58 = .ok (.invokevirtual 349, 3) := by decide +kernel
theorem dX10_kindOf_61 : decode cX10_kindOf 61 = .ok (.ifCond .eq 7, 3) := by decide +kernel
theorem dX10_kindOf_64 : decode cX10_kindOf 64 = .ok (.iconst 3, 1) := by decide +kernel
theorem dX10_kindOf_65 : decode cX10_kindOf 65 = .ok (.goto 4, 3) := by decide +kernel
theorem dX10_kindOf_68 : decode cX10_kindOf 68 = .ok (.iconst 0, 1) := by decide +kernel
theorem dX10_kindOf_69 : decode cX10_kindOf 69 = .ok (.ireturn, 1) := by decide +kernel
theorem dX10_kindOf_70 : decode cX10_kindOf 70 = .ok (.aload_n 0, 1) := by decide +kernel
theorem dX10_kindOf_71 : decode cX10_kindOf 71 = .ok (.iload_n 1, 1) := by decide +kernel
theorem dX10_kindOf_72 : decode cX10_kindOf 72 = .ok (.aload_n 2, 1) := by decide +kernel
theorem dX10_kindOf_73 : decode cX10_kindOf 73 = .ok (.invokevirtual 353, 3) := by decide +kernel
theorem dX10_kindOf_76 : decode cX10_kindOf 76 = .ok (.aload_n 2, 1) := by decide +kernel
theorem dX10_kindOf_77 : decode cX10_kindOf 77 = .ok (.getfield 231, 3) := by decide +kernel
theorem dX10_kindOf_80 : decode cX10_kindOf 80 = .ok (.iadd, 1) := by decide +kernel
theorem dX10_kindOf_81 : decode cX10_kindOf 81 = .ok (.aload_n 3, 1) := by decide +kernel
theorem dX10_kindOf_82 : decode cX10_kindOf 82 = .ok (.getfield 185, 3) := by decide +kernel
theorem dX10_kindOf_85 : decode cX10_kindOf 85 = .ok (.if_icmp .le 7, 3) := by decide +kernel
theorem dX10_kindOf_88 : decode cX10_kindOf 88 = .ok (.iconst 4, 1) := by decide +kernel
theorem dX10_kindOf_89 : decode cX10_kindOf 89 = .ok (.goto 4, 3) := by decide +kernel
theorem dX10_kindOf_92 : decode cX10_kindOf 92 = .ok (.iconst 0, 1) := by decide +kernel
theorem dX10_kindOf_93 : decode cX10_kindOf 93 = .ok (.ireturn, 1) := by decide +kernel
set_option maxRecDepth 20000 in
theorem ggX10_isSettledAhead_X4_holds : GoodIn wsX10_isSettledAhead wsX4_holds := goodIn_sub (show ∀ w ∈ wsX4_holds, w ∈ wsX10_isSettledAhead from (List.forall_mem_cons.mpr ⟨List.mem_cons_of_mem _ (List.mem_append_left _ (List.mem_append_left _ (List.mem_append_left _ (List.mem_of_getElem? (i := 8) rfl)))), (gw_a (List.forall_mem_cons.mpr ⟨List.mem_cons_of_mem _ (List.mem_append_left _ (List.mem_append_left _ (List.mem_append_left _ (List.mem_of_getElem? (i := 9) rfl)))), (fun _ h => absurd h List.not_mem_nil)⟩) (fun _ h => List.mem_cons_of_mem _ (List.mem_append_right _ (h))))⟩)) (by decide +kernel)
set_option maxRecDepth 20000 in
theorem gX10_isSettledAhead_X4_holds : GoodIn wsX10_isSettledAhead (wsV RX10 285 RX4 yX4_holds wsX4_holds) := goodIn_app (goodIn_sub (List.forall_mem_cons.mpr ⟨List.mem_cons_of_mem _ (List.mem_append_left _ (List.mem_append_left _ (List.mem_append_left _ (List.mem_of_getElem? (i := 4) rfl)))), (List.forall_mem_cons.mpr ⟨List.mem_cons_of_mem _ (List.mem_append_left _ (List.mem_append_left _ (List.mem_append_left _ (List.mem_of_getElem? (i := 5) rfl)))), (List.forall_mem_cons.mpr ⟨List.mem_cons_of_mem _ (List.mem_append_left _ (List.mem_append_left _ (List.mem_append_left _ (List.mem_of_getElem? (i := 6) rfl)))), (List.forall_mem_cons.mpr ⟨List.mem_cons_of_mem _ (List.mem_append_left _ (List.mem_append_left _ (List.mem_append_left _ (List.mem_of_getElem? (i := 7) rfl)))), (fun _ h => absurd h List.not_mem_nil)⟩)⟩)⟩)⟩) (by decide +kernel)) ggX10_isSettledAhead_X4_holds
theorem dX10_isSettledAhead_0 : decode cX10_isSettledAhead 0 = .ok (.iconst 0, 1) := by decide +kernel
theorem dX10_isSettledAhead_1 : decode cX10_isSettledAhead 1 = .ok (.istore_n 3, 1) := by decide +kernel
theorem dX10_isSettledAhead_2 : decode cX10_isSettledAhead 2 = .ok (.iload_n 3, 1) := by decide +kernel
theorem dX10_isSettledAhead_3 : decode cX10_isSettledAhead 3 = .ok (.iload_n 1, 1) := by decide +kernel
theorem dX10_isSettledAhead_4 : decode cX10_isSettledAhead 4 = .ok (.if_icmp .ge 54, 3) := by decide +kernel
theorem dX10_isSettledAhead_7 : decode cX10_isSettledAhead 7 = .ok (.aload_n 0, 1) := by decide +kernel
theorem dX10_isSettledAhead_8 : decode cX10_isSettledAhead 8 = .ok (.getfield 43, 3) := by decide +kernel
theorem dX10_isSettledAhead_11 : decode cX10_isSettledAhead 11 = .ok (.iload_n 3, 1) := by decide +kernel
theorem dX10_isSettledAhead_12 : decode cX10_isSettledAhead 12 = .ok (.aaload, 1) := by decide +kernel
theorem dX10_isSettledAhead_13 : decode cX10_isSettledAhead 13 = .ok (.astore 4, 2) := by decide +kernel
theorem dX10_isSettledAhead_15 : decode cX10_isSettledAhead 15 = .ok (.aload_n 0, 1) := by decide +kernel
theorem dX10_isSettledAhead_16 : decode cX10_isSettledAhead 16 = .ok (.getfield 57, 3) := by decide +kernel
theorem dX10_isSettledAhead_19 : decode cX10_isSettledAhead 19 = .ok (.iload_n 3, 1) := by decide +kernel
theorem dX10_isSettledAhead_20 : decode cX10_isSettledAhead 20 = .ok (.invokevirtual 285, 3) := by decide +kernel
theorem dX10_isSettledAhead_23 : decode cX10_isSettledAhead 23 = .ok (.ifCond .eq 29, 3) := by decide +kernel
theorem dX10_isSettledAhead_26 : decode cX10_isSettledAhead 26 = .ok (.aload 4, 2) := by decide +kernel
theorem dX10_isSettledAhead_28 : decode cX10_isSettledAhead 28 = .ok (.getfield 225, 3) := by decide +kernel
theorem dX10_isSettledAhead_31 : decode cX10_isSettledAhead 31 = .ok (.aload_n 2, 1) := by decide +kernel
theorem dX10_isSettledAhead_32 : decode cX10_isSettledAhead 32 = .ok (.getfield 225, 3) := by decide +kernel
theorem dX10_isSettledAhead_35 : decode cX10_isSettledAhead 35 = .ok (.if_icmp .ne 17, 3) := by decide +kernel
theorem dX10_isSettledAhead_38 : decode cX10_isSettledAhead 38 = .ok (.aload 4, 2) := by decide +kernel
theorem dX10_isSettledAhead_40 : decode cX10_isSettledAhead 40 = .ok (.getfield 228, 3) := by decide +kernel
theorem dX10_isSettledAhead_43 : decode cX10_isSettledAhead 43 = .ok (.aload_n 2, 1) := by decide +kernel
theorem dX10_isSettledAhead_44 : decode cX10_isSettledAhead 44 = .ok (.getfield 228, 3) := by decide +kernel
theorem dX10_isSettledAhead_47 : decode cX10_isSettledAhead 47 = .ok (.if_icmp .ne 5, 3) := by decide +kernel
theorem dX10_isSettledAhead_50 : decode cX10_isSettledAhead 50 = .ok (.iconst 1, 1) := by decide +kernel
theorem dX10_isSettledAhead_51 : decode cX10_isSettledAhead 51 = .ok (.ireturn, 1) := by decide +kernel
theorem dX10_isSettledAhead_52 : decode cX10_isSettledAhead 52 = .ok (.iinc 3 1, 3) := by decide +kernel
theorem dX10_isSettledAhead_55 : decode cX10_isSettledAhead 55 = .ok (.goto (-53), 3) := by decide +kernel
theorem dX10_isSettledAhead_58 : decode cX10_isSettledAhead 58 = .ok (.iconst 0, 1) := by decide +kernel
theorem dX10_isSettledAhead_59 : decode cX10_isSettledAhead 59 = .ok (.ireturn, 1) := by decide +kernel
set_option maxRecDepth 20000 in
theorem ggX10_settledAhead_X4_holds : GoodIn wsX10_settledAhead wsX4_holds := goodIn_sub (show ∀ w ∈ wsX4_holds, w ∈ wsX10_settledAhead from (List.forall_mem_cons.mpr ⟨List.mem_cons_of_mem _ (List.mem_append_left _ (List.mem_append_left _ (List.mem_append_left _ (List.mem_of_getElem? (i := 8) rfl)))), (gw_a (List.forall_mem_cons.mpr ⟨List.mem_cons_of_mem _ (List.mem_append_left _ (List.mem_append_left _ (List.mem_append_left _ (List.mem_of_getElem? (i := 9) rfl)))), (fun _ h => absurd h List.not_mem_nil)⟩) (fun _ h => List.mem_cons_of_mem _ (List.mem_append_right _ (h))))⟩)) (by decide +kernel)
set_option maxRecDepth 20000 in
theorem gX10_settledAhead_X4_holds : GoodIn wsX10_settledAhead (wsV RX10 285 RX4 yX4_holds wsX4_holds) := goodIn_app (goodIn_sub (List.forall_mem_cons.mpr ⟨List.mem_cons_of_mem _ (List.mem_append_left _ (List.mem_append_left _ (List.mem_append_left _ (List.mem_of_getElem? (i := 4) rfl)))), (List.forall_mem_cons.mpr ⟨List.mem_cons_of_mem _ (List.mem_append_left _ (List.mem_append_left _ (List.mem_append_left _ (List.mem_of_getElem? (i := 5) rfl)))), (List.forall_mem_cons.mpr ⟨List.mem_cons_of_mem _ (List.mem_append_left _ (List.mem_append_left _ (List.mem_append_left _ (List.mem_of_getElem? (i := 6) rfl)))), (List.forall_mem_cons.mpr ⟨List.mem_cons_of_mem _ (List.mem_append_left _ (List.mem_append_left _ (List.mem_append_left _ (List.mem_of_getElem? (i := 7) rfl)))), (fun _ h => absurd h List.not_mem_nil)⟩)⟩)⟩)⟩) (by decide +kernel)) ggX10_settledAhead_X4_holds
theorem dX10_settledAhead_0 : decode cX10_settledAhead 0 = .ok (.iconst 0, 1) := by decide +kernel
theorem dX10_settledAhead_1 : decode cX10_settledAhead 1 = .ok (.istore_n 3, 1) := by decide +kernel
theorem dX10_settledAhead_2 : decode cX10_settledAhead 2 = .ok (.iconst 0, 1) := by decide +kernel
theorem dX10_settledAhead_3 : decode cX10_settledAhead 3 = .ok (.istore 4, 2) := by decide +kernel
theorem dX10_settledAhead_5 : decode cX10_settledAhead 5 = .ok (.iload 4, 2) := by decide +kernel
theorem dX10_settledAhead_7 : decode cX10_settledAhead 7 = .ok (.iload_n 1, 1) := by decide +kernel
theorem dX10_settledAhead_8 : decode cX10_settledAhead 8 = .ok (.if_icmp .ge 51, 3) := by decide +kernel
theorem dX10_settledAhead_11 : decode cX10_settledAhead 11 = .ok (.aload_n 0, 1) := by decide +kernel
theorem dX10_settledAhead_12 : decode cX10_settledAhead 12 = .ok (.getfield 57, 3) := by decide +kernel
theorem dX10_settledAhead_15 : decode cX10_settledAhead 15 = .ok (.iload 4, 2) := by decide +kernel
theorem dX10_settledAhead_17 : decode cX10_settledAhead 17 = .ok (.invokevirtual 285, 3) := by decide +kernel
theorem dX10_settledAhead_20 : decode cX10_settledAhead 20 = .ok (.ifCond .eq 33, 3) := by decide +kernel
theorem dX10_settledAhead_23 : decode cX10_settledAhead 23 = .ok (.aload_n 0, 1) := by decide +kernel
theorem dX10_settledAhead_24 : decode cX10_settledAhead 24 = .ok (.getfield 43, 3) := by decide +kernel
theorem dX10_settledAhead_27 : decode cX10_settledAhead 27 = .ok (.iload 4, 2) := by decide +kernel
theorem dX10_settledAhead_29 : decode cX10_settledAhead 29 = .ok (.aaload, 1) := by decide +kernel
theorem dX10_settledAhead_30 : decode cX10_settledAhead 30 = .ok (.getfield 225, 3) := by decide +kernel
theorem dX10_settledAhead_33 : decode cX10_settledAhead 33 = .ok (.aload_n 2, 1) := by decide +kernel
theorem dX10_settledAhead_34 : decode cX10_settledAhead 34 = .ok (.getfield 225, 3) := by decide +kernel
theorem dX10_settledAhead_37 : decode cX10_settledAhead 37 = .ok (.if_icmp .ne 16, 3) := by decide +kernel
theorem dX10_settledAhead_40 : decode cX10_settledAhead 40 = .ok (.iload_n 3, 1) := by decide +kernel
theorem dX10_settledAhead_41 : decode cX10_settledAhead 41 = .ok (.aload_n 0, 1) := by decide +kernel
theorem dX10_settledAhead_42 : decode cX10_settledAhead 42 = .ok (.getfield 43, 3) := by decide +kernel
theorem dX10_settledAhead_45 : decode cX10_settledAhead 45 = .ok (.iload 4, 2) := by decide +kernel
theorem dX10_settledAhead_47 : decode cX10_settledAhead 47 = .ok (.aaload, 1) := by decide +kernel
theorem dX10_settledAhead_48 : decode cX10_settledAhead 48 = .ok (.getfield 231, 3) := by decide +kernel
theorem dX10_settledAhead_51 : decode cX10_settledAhead 51 = .ok (.iadd, 1) := by decide +kernel
theorem dX10_settledAhead_52 : decode cX10_settledAhead 52 = .ok (.istore_n 3, 1) := by decide +kernel
theorem dX10_settledAhead_53 : decode cX10_settledAhead 53 = .ok (.iinc 4 1, 3) := by decide +kernel
theorem dX10_settledAhead_56 : decode cX10_settledAhead 56 = .ok (.goto (-51), 3) := by decide +kernel
theorem dX10_settledAhead_59 : decode cX10_settledAhead 59 = .ok (.iload_n 3, 1) := by decide +kernel
theorem dX10_settledAhead_60 : decode cX10_settledAhead 60 = .ok (.ireturn, 1) := by decide +kernel
theorem dX10_isWithin_0 : decode cX10_isWithin 0 = .ok (.iload_n 0, 1) := by decide +kernel
theorem dX10_isWithin_1 : decode cX10_isWithin 1 = .ok (.iload_n 1, 1) := by decide +kernel
theorem dX10_isWithin_2 : decode cX10_isWithin 2 = .ok (.if_icmp .lt 12, 3) := by decide +kernel
theorem dX10_isWithin_5 : decode cX10_isWithin 5 = .ok (.iload_n 0, 1) := by decide +kernel
theorem dX10_isWithin_6 : decode cX10_isWithin 6 = .ok (.iload_n 2, 1) := by decide +kernel
theorem dX10_isWithin_7 : decode cX10_isWithin 7 = .ok (.if_icmp .gt 7, 3) := by decide +kernel
theorem dX10_isWithin_10 : decode cX10_isWithin 10 = .ok (.iconst 1, 1) := by decide +kernel
theorem dX10_isWithin_11 : decode cX10_isWithin 11 = .ok (.goto 4, 3) := by decide +kernel
theorem dX10_isWithin_14 : decode cX10_isWithin 14 = .ok (.iconst 0, 1) := by decide +kernel
theorem dX10_isWithin_15 : decode cX10_isWithin 15 = .ok (.ireturn, 1) := by decide +kernel
set_option maxRecDepth 20000 in
theorem ggX10_isTown_X10_isWithin : GoodIn wsX10_isTown wsX10_isWithin := goodIn_sub (show ∀ w ∈ wsX10_isWithin, w ∈ wsX10_isTown from (List.forall_mem_cons.mpr ⟨List.mem_cons_of_mem _ (List.mem_of_getElem? (i := 3) rfl), (fun _ h => absurd h List.not_mem_nil)⟩)) (by decide +kernel)
set_option maxRecDepth 20000 in
theorem gX10_isTown_X10_isWithin : GoodIn wsX10_isTown (va_wsS RX10 90 yX10_isWithin wsX10_isWithin) := goodIn_app (goodIn_sub (List.forall_mem_cons.mpr ⟨List.mem_cons_of_mem _ (List.mem_of_getElem? (i := 0) rfl), (List.forall_mem_cons.mpr ⟨List.mem_cons_of_mem _ (List.mem_of_getElem? (i := 1) rfl), (List.forall_mem_cons.mpr ⟨List.mem_cons_of_mem _ (List.mem_of_getElem? (i := 2) rfl), (fun _ h => absurd h List.not_mem_nil)⟩)⟩)⟩) (by decide +kernel)) ggX10_isTown_X10_isWithin
theorem dX10_isTown_0 : decode cX10_isTown 0 = .ok (.iload_n 0, 1) := by decide +kernel
theorem dX10_isTown_1 : decode cX10_isTown 1 = .ok (.iconst 0, 1) := by decide +kernel
theorem dX10_isTown_2 : decode cX10_isTown 2 = .ok (.bipush 11, 2) := by decide +kernel
theorem dX10_isTown_4 : decode cX10_isTown 4 = .ok (.invokestatic 90, 3) := by decide +kernel
theorem dX10_isTown_7 : decode cX10_isTown 7 = .ok (.ireturn, 1) := by decide +kernel
set_option maxRecDepth 20000 in
theorem ggX10_isHand_X10_isWithin : GoodIn wsX10_isHand wsX10_isWithin := goodIn_sub (show ∀ w ∈ wsX10_isWithin, w ∈ wsX10_isHand from (List.forall_mem_cons.mpr ⟨List.mem_cons_of_mem _ (List.mem_of_getElem? (i := 4) rfl), (fun _ h => absurd h List.not_mem_nil)⟩)) (by decide +kernel)
set_option maxRecDepth 20000 in
theorem gX10_isHand_X10_isWithin : GoodIn wsX10_isHand (va_wsS RX10 90 yX10_isWithin wsX10_isWithin) := goodIn_app (goodIn_sub (List.forall_mem_cons.mpr ⟨List.mem_cons_of_mem _ (List.mem_of_getElem? (i := 1) rfl), (List.forall_mem_cons.mpr ⟨List.mem_cons_of_mem _ (List.mem_of_getElem? (i := 2) rfl), (List.forall_mem_cons.mpr ⟨List.mem_cons_of_mem _ (List.mem_of_getElem? (i := 3) rfl), (fun _ h => absurd h List.not_mem_nil)⟩)⟩)⟩) (by decide +kernel)) ggX10_isHand_X10_isWithin
theorem dX10_isHand_0 : decode cX10_isHand 0 = .ok (.iload_n 0, 1) := by decide +kernel
theorem dX10_isHand_1 : decode cX10_isHand 1 = .ok (.iconst 0, 1) := by decide +kernel
theorem dX10_isHand_2 : decode cX10_isHand 2 = .ok (.ldc_w 356, 3) := by decide +kernel
theorem dX10_isHand_5 : decode cX10_isHand 5 = .ok (.invokestatic 90, 3) := by decide +kernel
theorem dX10_isHand_8 : decode cX10_isHand 8 = .ok (.ireturn, 1) := by decide +kernel
theorem dX10_hasCome_0 : decode cX10_hasCome 0 = .ok (.iload_n 0, 1) := by decide +kernel
theorem dX10_hasCome_1 : decode cX10_hasCome 1 = .ok (.iconst (-1), 1) := by decide +kernel
theorem dX10_hasCome_2 : decode cX10_hasCome 2 = .ok (.if_icmp .eq 12, 3) := by decide +kernel
theorem dX10_hasCome_5 : decode cX10_hasCome 5 = .ok (.iload_n 0, 1) := by decide +kernel
theorem dX10_hasCome_6 : decode cX10_hasCome 6 = .ok (.iload_n 1, 1) := by decide +kernel
theorem dX10_hasCome_7 : decode cX10_hasCome 7 = .ok (.if_icmp .gt 7, 3) := by decide +kernel
theorem dX10_hasCome_10 : decode cX10_hasCome 10 = .ok (.iconst 1, 1) := by decide +kernel
theorem dX10_hasCome_11 : decode cX10_hasCome 11 = .ok (.goto 4, 3) := by decide +kernel
theorem dX10_hasCome_14 : decode cX10_hasCome 14 = .ok (.iconst 0, 1) := by decide +kernel
theorem dX10_hasCome_15 : decode cX10_hasCome 15 = .ok (.ireturn, 1) := by decide +kernel
theorem dX10_unlikeness_0 : decode cX10_unlikeness 0 = .ok (.iconst 0, 1) := by decide +kernel
theorem dX10_unlikeness_1 : decode cX10_unlikeness 1 = .ok (.istore_n 2, 1) := by decide +kernel
theorem dX10_unlikeness_2 : decode cX10_unlikeness 2 = .ok (.iload_n 0, 1) := by decide +kernel
theorem dX10_unlikeness_3 : decode cX10_unlikeness 3 = .ok (.istore_n 3, 1) := by decide +kernel
theorem dX10_unlikeness_4 : decode cX10_unlikeness 4 = .ok (.iload_n 1, 1) := by decide +kernel
theorem dX10_unlikeness_5 : decode cX10_unlikeness 5 = .ok (.istore 4, 2) := by decide +kernel
theorem dX10_unlikeness_7 : decode cX10_unlikeness 7 = .ok (.iconst 0, 1) := by decide +kernel
theorem dX10_unlikeness_8 : decode cX10_unlikeness 8 = .ok (.istore 5, 2) := by decide +kernel
theorem dX10_unlikeness_10 : decode cX10_unlikeness 10 = .ok (.iload 5, 2) := by decide +kernel
theorem dX10_unlikeness_12 : decode cX10_unlikeness 12 = .ok (.iconst 5, 1) := by decide +kernel
theorem dX10_unlikeness_13 : decode cX10_unlikeness 13 = .ok (.if_icmp .ge 37, 3) := by decide +kernel
theorem dX10_unlikeness_16 : decode cX10_unlikeness 16 = .ok (.iload_n 2, 1) := by decide +kernel
theorem dX10_unlikeness_17 : decode cX10_unlikeness 17 = .ok (.iload_n 3, 1) := by decide +kernel
theorem dX10_unlikeness_18 : decode cX10_unlikeness 18 = .ok (.bipush 10, 2) := by decide +kernel
theorem dX10_unlikeness_20 : decode cX10_unlikeness 20 = .ok (.irem, 1) := by decide +kernel
theorem dX10_unlikeness_21 : decode cX10_unlikeness 21 = .ok (.iload 4, 2) := by decide +kernel
theorem dX10_unlikeness_23 : decode cX10_unlikeness 23 = .ok (.bipush 10, 2) := by decide +kernel
theorem dX10_unlikeness_25 : decode cX10_unlikeness 25 = .ok (.irem, 1) := by decide +kernel
theorem dX10_unlikeness_26 : decode cX10_unlikeness 26 = .ok (.isub, 1) := by decide +kernel
theorem dX10_unlikeness_27 : decode cX10_unlikeness 27 = .ok (.invokestatic 357, 3) := by decide +kernel
theorem dX10_unlikeness_30 : decode cX10_unlikeness 30 = .ok (.iadd, 1) := by decide +kernel
theorem dX10_unlikeness_31 : decode cX10_unlikeness 31 = .ok (.istore_n 2, 1) := by decide +kernel
theorem dX10_unlikeness_32 : decode cX10_unlikeness 32 = .ok (.iload_n 3, 1) := by decide +kernel
theorem dX10_unlikeness_33 : decode cX10_unlikeness 33 = .ok (.bipush 10, 2) := by decide +kernel
theorem dX10_unlikeness_35 : decode cX10_unlikeness 35 = .ok (.idiv, 1) := by decide +kernel
theorem dX10_unlikeness_36 : decode cX10_unlikeness 36 = .ok (.istore_n 3, 1) := by decide +kernel
theorem dX10_unlikeness_37 : decode cX10_unlikeness 37 = .ok (.iload 4, 2) := by decide +kernel
theorem dX10_unlikeness_39 : decode cX10_unlikeness 39 = .ok (.bipush 10, 2) := by decide +kernel
theorem dX10_unlikeness_41 : decode cX10_unlikeness 41 = .ok (.idiv, 1) := by decide +kernel
theorem dX10_unlikeness_42 : decode cX10_unlikeness 42 = .ok (.istore 4, 2) := by decide +kernel
theorem dX10_unlikeness_44 : decode cX10_unlikeness 44 = .ok (.iinc 5 1, 3) := by decide +kernel
theorem dX10_unlikeness_47 : decode cX10_unlikeness 47 = .ok (.goto (-37), 3) := by decide +kernel
theorem dX10_unlikeness_50 : decode cX10_unlikeness 50 = .ok (.iload_n 2, 1) := by decide +kernel
theorem dX10_unlikeness_51 : decode cX10_unlikeness 51 = .ok (.ireturn, 1) := by decide +kernel
theorem dX10_faultAt_0 : decode cX10_faultAt 0 = .ok (.iconst 1, 1) := by decide +kernel
theorem dX10_faultAt_1 : decode cX10_faultAt 1 = .ok (.iconst 4, 1) := by decide +kernel
theorem dX10_faultAt_2 : decode cX10_faultAt 2 = .ok (.iload_n 0, 1) := by decide +kernel
theorem dX10_faultAt_3 : decode cX10_faultAt 3 = .ok (.imul, 1) := by decide +kernel
theorem dX10_faultAt_4 : decode cX10_faultAt 4 = .ok (.iadd, 1) := by decide +kernel
theorem dX10_faultAt_5 : decode cX10_faultAt 5 = .ok (.iload_n 1, 1) := by decide +kernel
theorem dX10_faultAt_6 : decode cX10_faultAt 6 = .ok (.iadd, 1) := by decide +kernel
theorem dX10_faultAt_7 : decode cX10_faultAt 7 = .ok (.ireturn, 1) := by decide +kernel
set_option maxRecDepth 20000 in
theorem ggX11_init_X11_begins : GoodIn wsX11_init wsX11_begins := goodIn_sub (show ∀ w ∈ wsX11_begins, w ∈ wsX11_init from (List.forall_mem_cons.mpr ⟨List.mem_cons_of_mem _ (List.mem_append_left _ (List.mem_append_right _ (List.mem_append_right _ (List.mem_of_getElem? (i := 13) rfl)))), (gw_a (List.forall_mem_cons.mpr ⟨List.mem_cons_of_mem _ (List.mem_append_left _ (List.mem_append_right _ (List.mem_append_left _ (List.mem_of_getElem? (i := 9) rfl)))), (List.forall_mem_cons.mpr ⟨List.mem_cons_of_mem _ (List.mem_append_left _ (List.mem_append_right _ (List.mem_append_right _ (List.mem_of_getElem? (i := 14) rfl)))), (List.forall_mem_cons.mpr ⟨List.mem_cons_of_mem _ (List.mem_append_left _ (List.mem_append_right _ (List.mem_append_right _ (List.mem_of_getElem? (i := 15) rfl)))), (List.forall_mem_cons.mpr ⟨List.mem_cons_of_mem _ (List.mem_append_left _ (List.mem_append_right _ (List.mem_append_right _ (List.mem_of_getElem? (i := 12) rfl)))), (List.forall_mem_cons.mpr ⟨List.mem_cons_of_mem _ (List.mem_append_left _ (List.mem_append_right _ (List.mem_append_right _ (List.mem_of_getElem? (i := 16) rfl)))), (fun _ h => absurd h List.not_mem_nil)⟩)⟩)⟩)⟩)⟩) (fun _ h => List.mem_cons_of_mem _ (List.mem_append_right _ (h))))⟩)) (by decide +kernel)
set_option maxRecDepth 20000 in
theorem gX11_init_X11_begins : GoodIn wsX11_init (wsV RX11 160 RX11 yX11_begins wsX11_begins) := goodIn_app (goodIn_sub (List.forall_mem_cons.mpr ⟨List.mem_cons_of_mem _ (List.mem_append_left _ (List.mem_append_right _ (List.mem_append_right _ (List.mem_of_getElem? (i := 9) rfl)))), (List.forall_mem_cons.mpr ⟨List.mem_cons_of_mem _ (List.mem_append_left _ (List.mem_append_right _ (List.mem_append_right _ (List.mem_of_getElem? (i := 10) rfl)))), (List.forall_mem_cons.mpr ⟨List.mem_cons_of_mem _ (List.mem_append_left _ (List.mem_append_right _ (List.mem_append_right _ (List.mem_of_getElem? (i := 11) rfl)))), (List.forall_mem_cons.mpr ⟨List.mem_cons_of_mem _ (List.mem_append_left _ (List.mem_append_right _ (List.mem_append_right _ (List.mem_of_getElem? (i := 12) rfl)))), (fun _ h => absurd h List.not_mem_nil)⟩)⟩)⟩)⟩) (by decide +kernel)) ggX11_init_X11_begins
theorem dX11_init_0 : decode cX11_init 0 = .ok (.aload_n 0, 1) := by decide +kernel
theorem dX11_init_1 : decode cX11_init 1 = .ok (.invokespecial 1, 3) := by decide +kernel
theorem dX11_init_4 : decode cX11_init 4 = .ok (.aload_n 0, 1) := by decide +kernel
theorem dX11_init_5 : decode cX11_init 5 = .ok (.bipush 12, 2) := by decide +kernel
theorem dX11_init_7 : decode cX11_init 7 = .ok (.bipush 12, 2) := by decide +kernel
theorem dX11_init_9 : decode cX11_init 9 = .ok (.multianewarray 9 2, 4) := by decide +kernel
theorem dX11_init_13 : decode cX11_init 13 = .ok (.putfield 11, 3) := by decide +kernel
theorem dX11_init_16 : decode cX11_init 16 = .ok (.aload_n 0, 1) := by decide +kernel
theorem dX11_init_17 : decode cX11_init 17 = .ok (.bipush 12, 2) := by decide +kernel
theorem dX11_init_19 : decode cX11_init 19 = .ok (.bipush 12, 2) := by decide +kernel
theorem dX11_init_21 : decode cX11_init 21 = .ok (.multianewarray 9 2, 4) := by decide +kernel
theorem dX11_init_25 : decode cX11_init 25 = .ok (.putfield 14, 3) := by decide +kernel
theorem dX11_init_28 : decode cX11_init 28 = .ok (.aload_n 0, 1) := by decide +kernel
theorem dX11_init_29 : decode cX11_init 29 = .ok (.bipush 12, 2) := by decide +kernel
theorem dX11_init_31 : decode cX11_init 31 = .ok (.newarray .int, 2) := by decide +kernel
theorem dX11_init_33 : decode cX11_init 33 = .ok (.putfield 17, 3) := by decide +kernel
theorem dX11_init_36 : decode cX11_init 36 = .ok (.aload_n 0, 1) := by decide +kernel
theorem dX11_init_37 : decode cX11_init 37 = .ok (.bipush 12, 2) := by decide +kernel
theorem dX11_init_39 : decode cX11_init 39 = .ok (.newarray .int, 2) := by decide +kernel
theorem dX11_init_41 : decode cX11_init 41 = .ok (.putfield 21, 3) := by decide +kernel
theorem dX11_init_44 : decode cX11_init 44 = .ok (.aload_n 0, 1) := by decide +kernel
theorem dX11_init_45 : decode cX11_init 45 = .ok (.bipush 12, 2) := by decide +kernel
theorem dX11_init_47 : decode cX11_init 47 = .ok (.newarray .int, 2) := by decide +kernel
theorem dX11_init_49 : decode cX11_init 49 = .ok (.putfield 24, 3) := by decide +kernel
theorem dX11_init_52 : decode cX11_init 52 = .ok (.aload_n 0, 1) := by decide +kernel
theorem dX11_init_53 : decode cX11_init 53 = .ok (.bipush 30, 2) := by decide +kernel
theorem dX11_init_55 : decode cX11_init 55 = .ok (.newarray .int, 2) := by decide +kernel
theorem dX11_init_57 : decode cX11_init 57 = .ok (.putfield 27, 3) := by decide +kernel
theorem dX11_init_60 : decode cX11_init 60 = .ok (.aload_n 0, 1) := by decide +kernel
theorem dX11_init_61 : decode cX11_init 61 = .ok (.bipush 30, 2) := by decide +kernel
theorem dX11_init_63 : decode cX11_init 63 = .ok (.newarray .int, 2) := by decide +kernel
theorem dX11_init_65 : decode cX11_init 65 = .ok (.putfield 30, 3) := by decide +kernel
theorem dX11_init_68 : decode cX11_init 68 = .ok (.aload_n 0, 1) := by decide +kernel
theorem dX11_init_69 : decode cX11_init 69 = .ok (.bipush 30, 2) := by decide +kernel
theorem dX11_init_71 : decode cX11_init 71 = .ok (.newarray .int, 2) := by decide +kernel
theorem dX11_init_73 : decode cX11_init 73 = .ok (.putfield 33, 3) := by decide +kernel
theorem dX11_init_76 : decode cX11_init 76 = .ok (.aload_n 0, 1) := by decide +kernel
theorem dX11_init_77 : decode cX11_init 77 = .ok (.bipush 30, 2) := by decide +kernel
theorem dX11_init_79 : decode cX11_init 79 = .ok (.newarray .int, 2) := by decide +kernel
theorem dX11_init_81 : decode cX11_init 81 = .ok (.putfield 36, 3) := by decide +kernel
theorem dX11_init_84 : decode cX11_init 84 = .ok (.aload_n 0, 1) := by decide +kernel
theorem dX11_init_85 : decode cX11_init 85 = .ok (.bipush 30, 2) := by decide +kernel
theorem dX11_init_87 : decode cX11_init 87 = .ok (.newarray .int, 2) := by decide +kernel
theorem dX11_init_89 : decode cX11_init 89 = .ok (.putfield 39, 3) := by decide +kernel
theorem dX11_init_92 : decode cX11_init 92 = .ok (.aload_n 0, 1) := by decide +kernel
theorem dX11_init_93 : decode cX11_init 93 = .ok (.bipush 30, 2) := by decide +kernel
theorem dX11_init_95 : decode cX11_init 95 = .ok (.newarray .int, 2) := by decide +kernel
theorem dX11_init_97 : decode cX11_init 97 = .ok (.putfield 42, 3) := by decide +kernel
theorem dX11_init_100 : decode cX11_init 100 = .ok (.aload_n 0, 1) := by decide +kernel
theorem dX11_init_101 : decode cX11_init 101 = .ok (.bipush 30, 2) := by decide +kernel
theorem dX11_init_103 : decode cX11_init 103 = .ok (.newarray .int, 2) := by decide +kernel
theorem dX11_init_105 : decode cX11_init 105 = .ok (.putfield 45, 3) := by decide +kernel
theorem dX11_init_108 : decode cX11_init 108 = .ok (.aload_n 0, 1) := by decide +kernel
theorem dX11_init_109 : decode cX11_init 109 = .ok (.bipush 60, 2) := by decide +kernel
theorem dX11_init_111 : decode cX11_init 111 = .ok (.newarray .int, 2) := by decide +kernel
theorem dX11_init_113 : decode cX11_init 113 = .ok (.putfield 48, 3) := by decide +kernel
theorem dX11_init_116 : decode cX11_init 116 = .ok (.aload_n 0, 1) := by decide +kernel
theorem dX11_init_117 : decode cX11_init 117 = .ok (.bipush 60, 2) := by decide +kernel
theorem dX11_init_119 : decode cX11_init 119 = .ok (.newarray .int, 2) := by decide +kernel
theorem dX11_init_121 : decode cX11_init 121 = .ok (.putfield 51, 3) := by decide +kernel
theorem dX11_init_124 : decode cX11_init 124 = .ok (.aload_n 0, 1) := by decide +kernel
theorem dX11_init_125 : decode cX11_init 125 = .ok (.bipush 60, 2) := by decide +kernel
theorem dX11_init_127 : decode cX11_init 127 = .ok (.newarray .int, 2) := by decide +kernel
theorem dX11_init_129 : decode cX11_init 129 = .ok (.putfield 54, 3) := by decide +kernel
theorem dX11_init_132 : decode cX11_init 132 = .ok (.aload_n 0, 1) := by decide +kernel
theorem dX11_init_133 : decode cX11_init 133 = .ok (.bipush 60, 2) := by decide +kernel
theorem dX11_init_135 : decode cX11_init 135 = .ok (.newarray .boolean, 2) := by decide +kernel
theorem dX11_init_137 : decode cX11_init 137 = .ok (.putfield 57, 3) := by decide +kernel
theorem dX11_init_140 : decode cX11_init 140 = .ok (.aload_n 0, 1) := by decide +kernel
theorem dX11_init_141 : decode cX11_init 141 = .ok (.bipush 60, 2) := by decide +kernel
theorem dX11_init_143 : decode cX11_init 143 = .ok (.newarray .int, 2) := by decide +kernel
theorem dX11_init_145 : decode cX11_init 145 = .ok (.putfield 61, 3) := by decide +kernel
theorem dX11_init_148 : decode cX11_init 148 = .ok (.aload_n 0, 1) := by decide +kernel
theorem dX11_init_149 : decode cX11_init 149 = .ok (.bipush 60, 2) := by decide +kernel
theorem dX11_init_151 : decode cX11_init 151 = .ok (.newarray .int, 2) := by decide +kernel
theorem dX11_init_153 : decode cX11_init 153 = .ok (.putfield 64, 3) := by decide +kernel
theorem dX11_init_156 : decode cX11_init 156 = .ok (.aload_n 0, 1) := by decide +kernel
theorem dX11_init_157 : decode cX11_init 157 = .ok (.bipush 60, 2) := by decide +kernel
theorem dX11_init_159 : decode cX11_init 159 = .ok (.bipush 12, 2) := by decide +kernel
theorem dX11_init_161 : decode cX11_init 161 = .ok (.multianewarray 9 2, 4) := by decide +kernel
theorem dX11_init_165 : decode cX11_init 165 = .ok (.putfield 67, 3) := by decide +kernel
theorem dX11_init_168 : decode cX11_init 168 = .ok (.aload_n 0, 1) := by decide +kernel
theorem dX11_init_169 : decode cX11_init 169 = .ok (.sipush 300, 3) := by decide +kernel
theorem dX11_init_172 : decode cX11_init 172 = .ok (.newarray .byte, 2) := by decide +kernel
theorem dX11_init_174 : decode cX11_init 174 = .ok (.putfield 70, 3) := by decide +kernel
theorem dX11_init_177 : decode cX11_init 177 = .ok (.aload_n 0, 1) := by decide +kernel
theorem dX11_init_178 : decode cX11_init 178 = .ok (.bipush 12, 2) := by decide +kernel
theorem dX11_init_180 : decode cX11_init 180 = .ok (.newarray .int, 2) := by decide +kernel
theorem dX11_init_182 : decode cX11_init 182 = .ok (.putfield 74, 3) := by decide +kernel
theorem dX11_init_185 : decode cX11_init 185 = .ok (.aload_n 0, 1) := by decide +kernel
theorem dX11_init_186 : decode cX11_init 186 = .ok (.sipush 156, 3) := by decide +kernel
theorem dX11_init_189 : decode cX11_init 189 = .ok (.newarray .int, 2) := by decide +kernel
theorem dX11_init_191 : decode cX11_init 191 = .ok (.putfield 77, 3) := by decide +kernel
theorem dX11_init_194 : decode cX11_init 194 = .ok (.aload_n 0, 1) := by decide +kernel
theorem dX11_init_195 : decode cX11_init 195 = .ok (.sipush 156, 3) := by decide +kernel
theorem dX11_init_198 : decode cX11_init 198 = .ok (.newarray .int, 2) := by decide +kernel
theorem dX11_init_200 : decode cX11_init 200 = .ok (.putfield 80, 3) := by decide +kernel
theorem dX11_init_203 : decode cX11_init 203 = .ok (.aload_n 0, 1) := by decide +kernel
theorem dX11_init_204 : decode cX11_init 204 = .ok (.sipush 936, 3) := by decide +kernel
theorem dX11_init_207 : decode cX11_init 207 = .ok (.newarray .int, 2) := by decide +kernel
theorem dX11_init_209 : decode cX11_init 209 = .ok (.putfield 83, 3) := by decide +kernel
theorem dX11_init_212 : decode cX11_init 212 = .ok (.aload_n 0, 1) := by decide +kernel
theorem dX11_init_213 : decode cX11_init 213 = .ok (.sipush 936, 3) := by decide +kernel
theorem dX11_init_216 : decode cX11_init 216 = .ok (.newarray .int, 2) := by decide +kernel
theorem dX11_init_218 : decode cX11_init 218 = .ok (.putfield 86, 3) := by decide +kernel
theorem dX11_init_221 : decode cX11_init 221 = .ok (.aload_n 0, 1) := by decide +kernel
theorem dX11_init_222 : decode cX11_init 222 = .ok (.sipush 936, 3) := by decide +kernel
theorem dX11_init_225 : decode cX11_init 225 = .ok (.newarray .int, 2) := by decide +kernel
theorem dX11_init_227 : decode cX11_init 227 = .ok (.putfield 89, 3) := by decide +kernel
theorem dX11_init_230 : decode cX11_init 230 = .ok (.aload_n 0, 1) := by decide +kernel
theorem dX11_init_231 : decode cX11_init 231 = .ok (.iconst 5, 1) := by decide +kernel
theorem dX11_init_232 : decode cX11_init 232 = .ok (.newarray .int, 2) := by decide +kernel
theorem dX11_init_234 : decode cX11_init 234 = .ok (.putfield 92, 3) := by decide +kernel
theorem dX11_init_237 : decode cX11_init 237 = .ok (.aload_n 0, 1) := by decide +kernel
theorem dX11_init_238 : decode cX11_init 238 = .ok (.iconst 5, 1) := by decide +kernel
theorem dX11_init_239 : decode cX11_init 239 = .ok (.newarray .boolean, 2) := by decide +kernel
theorem dX11_init_241 : decode cX11_init 241 = .ok (.putfield 95, 3) := by decide +kernel
theorem dX11_init_244 : decode cX11_init 244 = .ok (.aload_n 0, 1) := by decide +kernel
theorem dX11_init_245 : decode cX11_init 245 = .ok (.iconst 5, 1) := by decide +kernel
theorem dX11_init_246 : decode cX11_init 246 = .ok (.newarray .int, 2) := by decide +kernel
theorem dX11_init_248 : decode cX11_init 248 = .ok (.putfield 98, 3) := by decide +kernel
theorem dX11_init_251 : decode cX11_init 251 = .ok (.aload_n 0, 1) := by decide +kernel
theorem dX11_init_252 : decode cX11_init 252 = .ok (.sipush 200, 3) := by decide +kernel
theorem dX11_init_255 : decode cX11_init 255 = .ok (.newarray .int, 2) := by decide +kernel
theorem dX11_init_257 : decode cX11_init 257 = .ok (.putfield 101, 3) := by decide +kernel
theorem dX11_init_260 : decode cX11_init 260 = .ok (.aload_n 0, 1) := by decide +kernel
theorem dX11_init_261 : decode cX11_init 261 = .ok (.sipush 200, 3) := by decide +kernel
theorem dX11_init_264 : decode cX11_init 264 = .ok (.newarray .int, 2) := by decide +kernel
theorem dX11_init_266 : decode cX11_init 266 = .ok (.putfield 104, 3) := by decide +kernel
theorem dX11_init_269 : decode cX11_init 269 = .ok (.aload_n 0, 1) := by decide +kernel
theorem dX11_init_270 : decode cX11_init 270 = .ok (.sipush 200, 3) := by decide +kernel
theorem dX11_init_273 : decode cX11_init 273 = .ok (.newarray .int, 2) := by decide +kernel
theorem dX11_init_275 : decode cX11_init 275 = .ok (.putfield 107, 3) := by decide +kernel
theorem dX11_init_278 : decode cX11_init 278 = .ok (.aload_n 0, 1) := by decide +kernel
theorem dX11_init_279 : decode cX11_init 279 = .ok (.sipush 200, 3) := by decide +kernel
theorem dX11_init_282 : decode cX11_init 282 = .ok (.newarray .int, 2) := by decide +kernel
theorem dX11_init_284 : decode cX11_init 284 = .ok (.putfield 110, 3) := by decide +kernel
theorem dX11_init_287 : decode cX11_init 287 = .ok (.aload_n 0, 1) := by decide +kernel
theorem dX11_init_288 : decode cX11_init 288 = .ok (.sipush 200, 3) := by decide +kernel
theorem dX11_init_291 : decode cX11_init 291 = .ok (.newarray .int, 2) := by decide +kernel
theorem dX11_init_293 : decode cX11_init 293 = .ok (.putfield 113, 3) := by decide +kernel
theorem dX11_init_296 : decode cX11_init 296 = .ok (.aload_n 0, 1) := by decide +kernel
theorem dX11_init_297 : decode cX11_init 297 = .ok (.sipush 200, 3) := by decide +kernel
theorem dX11_init_300 : decode cX11_init 300 = .ok (.newarray .int, 2) := by decide +kernel
theorem dX11_init_302 : decode cX11_init 302 = .ok (.putfield 116, 3) := by decide +kernel
theorem dX11_init_305 : decode cX11_init 305 = .ok (.aload_n 0, 1) := by decide +kernel
theorem dX11_init_306 : decode cX11_init 306 = .ok (.sipush 200, 3) := by decide +kernel
theorem dX11_init_309 : decode cX11_init 309 = .ok (.newarray .int, 2) := by decide +kernel
theorem dX11_init_311 : decode cX11_init 311 = .ok (.putfield 119, 3) := by decide +kernel
theorem dX11_init_314 : decode cX11_init 314 = .ok (.aload_n 0, 1) := by decide +kernel
theorem dX11_init_315 : decode cX11_init 315 = .ok (.sipush 200, 3) := by decide +kernel
theorem dX11_init_318 : decode cX11_init 318 = .ok (.newarray .int, 2) := by decide +kernel
theorem dX11_init_320 : decode cX11_init 320 = .ok (.putfield 122, 3) := by decide +kernel
theorem dX11_init_323 : decode cX11_init 323 = .ok (.aload_n 0, 1) := by decide +kernel
theorem dX11_init_324 : decode cX11_init 324 = .ok (.sipush 200, 3) := by decide +kernel
theorem dX11_init_327 : decode cX11_init 327 = .ok (.newarray .int, 2) := by decide +kernel
theorem dX11_init_329 : decode cX11_init 329 = .ok (.putfield 125, 3) := by decide +kernel
theorem dX11_init_332 : decode cX11_init 332 = .ok (.aload_n 0, 1) := by decide +kernel
theorem dX11_init_333 : decode cX11_init 333 = .ok (.sipush 200, 3) := by decide +kernel
theorem dX11_init_336 : decode cX11_init 336 = .ok (.newarray .long, 2) := by decide +kernel
theorem dX11_init_338 : decode cX11_init 338 = .ok (.putfield 128, 3) := by decide +kernel
theorem dX11_init_341 : decode cX11_init 341 = .ok (.aload_n 0, 1) := by decide +kernel
theorem dX11_init_342 : decode cX11_init 342 = .ok (.bipush 12, 2) := by decide +kernel
theorem dX11_init_344 : decode cX11_init 344 = .ok (.newarray .int, 2) := by decide +kernel
theorem dX11_init_346 : decode cX11_init 346 = .ok (.putfield 132, 3) := by decide +kernel
theorem dX11_init_349 : decode cX11_init 349 = .ok (.aload_n 0, 1) := by decide +kernel
theorem dX11_init_350 : decode cX11_init 350 = .ok (.sipush 200, 3) := by decide +kernel
theorem dX11_init_353 : decode cX11_init 353 = .ok (.newarray .int, 2) := by decide +kernel
theorem dX11_init_355 : decode cX11_init 355 = .ok (.putfield 135, 3) := by decide +kernel
theorem dX11_init_358 : decode cX11_init 358 = .ok (.aload_n 0, 1) := by decide +kernel
theorem dX11_init_359 : decode cX11_init 359 = .ok (.sipush 200, 3) := by decide +kernel
theorem dX11_init_362 : decode cX11_init 362 = .ok (.newarray .long, 2) := by decide +kernel
theorem dX11_init_364 : decode cX11_init 364 = .ok (.putfield 138, 3) := by decide +kernel
theorem dX11_init_367 : decode cX11_init 367 = .ok (.aload_n 0, 1) := by decide +kernel
theorem dX11_init_368 : decode cX11_init 368 = .ok (.bipush 12, 2) := by decide +kernel
theorem dX11_init_370 : decode cX11_init 370 = .ok (.newarray .long, 2) := by decide +kernel
theorem dX11_init_372 : decode cX11_init 372 = .ok (.putfield 141, 3) := by decide +kernel
theorem dX11_init_375 : decode cX11_init 375 = .ok (.aload_n 0, 1) := by decide +kernel
theorem dX11_init_376 : decode cX11_init 376 = .ok (.bipush 12, 2) := by decide +kernel
theorem dX11_init_378 : decode cX11_init 378 = .ok (.newarray .long, 2) := by decide +kernel
theorem dX11_init_380 : decode cX11_init 380 = .ok (.putfield 144, 3) := by decide +kernel
theorem dX11_init_383 : decode cX11_init 383 = .ok (.aload_n 0, 1) := by decide +kernel
theorem dX11_init_384 : decode cX11_init 384 = .ok (.bipush 60, 2) := by decide +kernel
theorem dX11_init_386 : decode cX11_init 386 = .ok (.newarray .int, 2) := by decide +kernel
theorem dX11_init_388 : decode cX11_init 388 = .ok (.putfield 147, 3) := by decide +kernel
theorem dX11_init_391 : decode cX11_init 391 = .ok (.aload_n 0, 1) := by decide +kernel
theorem dX11_init_392 : decode cX11_init 392 = .ok (.bipush 60, 2) := by decide +kernel
theorem dX11_init_394 : decode cX11_init 394 = .ok (.newarray .int, 2) := by decide +kernel
theorem dX11_init_396 : decode cX11_init 396 = .ok (.putfield 150, 3) := by decide +kernel
theorem dX11_init_399 : decode cX11_init 399 = .ok (.aload_n 0, 1) := by decide +kernel
theorem dX11_init_400 : decode cX11_init 400 = .ok (.bipush 60, 2) := by decide +kernel
theorem dX11_init_402 : decode cX11_init 402 = .ok (.newarray .int, 2) := by decide +kernel
theorem dX11_init_404 : decode cX11_init 404 = .ok (.putfield 153, 3) := by decide +kernel
theorem dX11_init_407 : decode cX11_init 407 = .ok (.aload_n 0, 1) := by decide +kernel
theorem dX11_init_408 : decode cX11_init 408 = .ok (.bipush 60, 2) := by decide +kernel
theorem dX11_init_410 : decode cX11_init 410 = .ok (.newarray .long, 2) := by decide +kernel
theorem dX11_init_412 : decode cX11_init 412 = .ok (.putfield 156, 3) := by decide +kernel
theorem dX11_init_415 : decode cX11_init 415 = .ok (.iconst 0, 1) := by decide +kernel
theorem dX11_init_416 : decode cX11_init 416 = .ok (.istore_n 1, 1) := by decide +kernel
theorem dX11_init_417 : decode cX11_init 417 = .ok (.iload_n 1, 1) := by decide +kernel
theorem dX11_init_418 : decode cX11_init 418 = .ok (.bipush 12, 2) := by decide +kernel
theorem dX11_init_420 : decode cX11_init 420 = .ok (.if_icmp .ge 52, 3) := by decide +kernel
theorem dX11_init_423 : decode cX11_init 423 = .ok (.iconst 0, 1) := by decide +kernel
theorem dX11_init_424 : decode cX11_init 424 = .ok (.istore_n 2, 1) := by decide +kernel
theorem dX11_init_425 : decode cX11_init 425 = .ok (.iload_n 2, 1) := by decide +kernel
theorem dX11_init_426 : decode cX11_init 426 = .ok (.bipush 12, 2) := by decide +kernel
theorem dX11_init_428 : decode cX11_init 428 = .ok (.if_icmp .ge 29, 3) := by decide +kernel
theorem dX11_init_431 : decode cX11_init 431 = .ok (.aload_n 0, 1) := by decide +kernel
theorem dX11_init_432 : decode cX11_init 432 = .ok (.getfield 11, 3) := by decide +kernel
theorem dX11_init_435 : decode cX11_init 435 = .ok (.iload_n 1, 1) := by decide +kernel
theorem dX11_init_436 : decode cX11_init 436 = .ok (.aaload, 1) := by decide +kernel
theorem dX11_init_437 : decode cX11_init 437 = .ok (.iload_n 2, 1) := by decide +kernel
theorem dX11_init_438 : decode cX11_init 438 = .ok (.ldc 159, 2) := by decide +kernel
theorem dX11_init_440 : decode cX11_init 440 = .ok (.iastore, 1) := by decide +kernel
