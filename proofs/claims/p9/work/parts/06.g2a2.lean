set_option maxHeartbeats 4000000 in
set_option maxRecDepth 100000 in
theorem g_coder (l : Launch) (D : va_G) (cy : Nat → ClassId) (sk sv : Nat → Nat) (w : Wd) (i : Nat)   (hi : i < 23) : Ct l D cy sk sv yJ0_coder_7d493 wsJ0_coder_7d493 ({ frames := 0, cells := 0, slots := 0, locals := 0 }) [.ref (sk i)] w (fun v w1 => v = some (.int 0) ∧ w = w1) := by
  refine Ct.by (cc := cJ0_coder_7d493) (maxL := 1) (ret := (some .byte)) (by decide +kernel) rfl (Nat.le_of_ble_eq_true rfl) ?_
  intro p e s m args below meth c A Q F hnm K ls hl
  have F : wd_Fx p s m args meth c cJ0_coder_7d493 1 wsJ0_coder_7d493 RJ0 D cy sk sv A := F
  have hl : lv_has ls 1 [(0, .ref (sk i))] := hl
  have hx := F.1.1
  have hb := F.1.2.1
  have hown := F.1.2.2.2.1
  have hts := F.1.2.2.2.2
  intro H locs hP hD hS
  refine x_compact F hS (List.mem_cons_of_mem _ (List.mem_of_getElem? (i := 0) rfl)) dJ0_coder_7d493_0 ?_
  refine lv_if_eq (tgt := 13) hx hb dJ0_coder_7d493_3 (by decide) (fun c_1 => absurd c_1 (show ¬ (1 : Int32) = (0 : Int32) by decide)) (fun c_1 => ?_)
  refine lv_aload_n hx hb dJ0_coder_7d493_6 rfl (lv_at hl 0 rfl) ?_
  refine x_scod F hS (i := i) (by omega) (List.mem_cons_of_mem _ (List.mem_of_getElem? (i := 1) rfl)) dJ0_coder_7d493_7 ?_
  refine lv_goto (tgt := 14) hx hb dJ0_coder_7d493_10 (by decide) ?_
  exact y_ir K hP hD hS (Nat.le_of_ble_eq_true rfl) (Nat.le_of_ble_eq_true rfl) (ty := .byte) rfl rfl dJ0_coder_7d493_14 (⟨rfl, rfl⟩)
set_option maxHeartbeats 4000000 in
set_option maxRecDepth 100000 in
theorem g_isLatin1 (l : Launch) (D : va_G) (cy : Nat → ClassId) (sk sv : Nat → Nat) (w : Wd) (i : Nat)   (hi : i < 23) : Ct l D cy sk sv yJ0_isLatin1_aae02 wsJ0_isLatin1_aae02 ({ frames := 0, cells := 0, slots := 0, locals := 0 }) [.ref (sk i)] w (fun v w1 => v = some (.int 1) ∧ w = w1) := by
  refine Ct.by (cc := cJ0_isLatin1_aae02) (maxL := 1) (ret := (some .boolean)) (by decide +kernel) rfl (Nat.le_of_ble_eq_true rfl) ?_
  intro p e s m args below meth c A Q F hnm K ls hl
  have F : wd_Fx p s m args meth c cJ0_isLatin1_aae02 1 wsJ0_isLatin1_aae02 RJ0 D cy sk sv A := F
  have hl : lv_has ls 1 [(0, .ref (sk i))] := hl
  have hx := F.1.1
  have hb := F.1.2.1
  have hown := F.1.2.2.2.1
  have hts := F.1.2.2.2.2
  intro H locs hP hD hS
  refine x_compact F hS (List.mem_cons_of_mem _ (List.mem_of_getElem? (i := 0) rfl)) dJ0_isLatin1_aae02_0 ?_
  refine lv_if_eq (tgt := 17) hx hb dJ0_isLatin1_aae02_3 (by decide) (fun c_1 => absurd c_1 (show ¬ (1 : Int32) = (0 : Int32) by decide)) (fun c_1 => ?_)
  refine lv_aload_n hx hb dJ0_isLatin1_aae02_6 rfl (lv_at hl 0 rfl) ?_
  refine x_scod F hS (i := i) (by omega) (List.mem_cons_of_mem _ (List.mem_of_getElem? (i := 1) rfl)) dJ0_isLatin1_aae02_7 ?_
  refine lv_if_ne (tgt := 17) hx hb dJ0_isLatin1_aae02_10 (by decide) (fun c_2 => absurd (show (0 : Int32) = (0 : Int32) by decide) c_2) (fun c_2 => ?_)
  refine lv_iconst (v := 1) hx hb dJ0_isLatin1_aae02_13 (by decide) ?_
  refine lv_goto (tgt := 18) hx hb dJ0_isLatin1_aae02_14 (by decide) ?_
  exact y_ir K hP hD hS (Nat.le_of_ble_eq_true rfl) (Nat.le_of_ble_eq_true rfl) (ty := .boolean) rfl rfl dJ0_isLatin1_aae02_18 (⟨rfl, rfl⟩)
set_option maxHeartbeats 4000000 in
set_option maxRecDepth 100000 in
theorem g_length (l : Launch) (D : va_G) (cy : Nat → ClassId) (sk sv : Nat → Nat) (w : Wd) (i : Nat)   (hi : i < 23) : Ct l D cy sk sv yJ0_length_8abf5 wsJ0_length_8abf5 ({ frames := 1, cells := 0, slots := 0, locals := 20 }) [.ref (sk i)] w (fun v w1 => v = some (.int (nI (st_len.getD i 0))) ∧ w = w1) := by
  refine Ct.by (cc := cJ0_length_8abf5) (maxL := 1) (ret := (some .int)) (by decide +kernel) rfl (Nat.le_of_ble_eq_true rfl) ?_
  intro p e s m args below meth c A Q F hnm K ls hl
  have F : wd_Fx p s m args meth c cJ0_length_8abf5 1 wsJ0_length_8abf5 RJ0 D cy sk sv A := F
  have hl : lv_has ls 1 [(0, .ref (sk i))] := hl
  have hx := F.1.1
  have hb := F.1.2.1
  have hown := F.1.2.2.2.1
  have hts := F.1.2.2.2.2
  intro H locs hP hD hS
  refine lv_aload_n hx hb dJ0_length_8abf5_0 rfl (lv_at hl 0 rfl) ?_
  refine x_sval F hS (i := i) (by omega) (List.mem_cons_of_mem _ (List.mem_of_getElem? (i := 0) rfl)) dJ0_length_8abf5_1 ?_
  refine x_slen F hS (i := i) (by omega) dJ0_length_8abf5_4 ?_
  refine lv_aload_n hx hb dJ0_length_8abf5_5 rfl (lv_at hl 0 rfl) ?_
  refine x_callVs (n := 0) (As := []) (rest := [.int (nI (st_len.getD i 0))]) F hP hD hS (by omega) (g_coder l D cy sk sv w i (by omega)) gJ0_length_8abf5_J0_coder_7d493 rfl rfl (by decide +kernel) ⟨(Nat.le_of_ble_eq_true rfl), (Nat.le_of_ble_eq_true rfl)⟩ rfl hl.1 (Nat.le_of_ble_eq_true rfl) dJ0_length_8abf5_6 rfl ⟨(Nat.le_of_ble_eq_true rfl), (Nat.le_of_ble_eq_true rfl)⟩ (fun v2 w3 hp1 H locs hP hD hS => ?_)
  obtain ⟨rfl, rfl⟩ := hp1
  refine W.eq (g2 := F0 m 9 ls [.int 0, .int (nI (st_len.getD i 0))]) rfl (W.widen (k := 0) (n := 0) (Nat.le_of_ble_eq_true rfl) (Nat.le_of_ble_eq_true rfl) ?_)
  refine lv_ishr hx hb dJ0_length_8abf5_9 ?_
  rw [show ((nI (st_len.getD i 0)) >>> (0 &&& 31) : Int32) = nI (st_len.getD i 0) from sc_shr0 (Nat.lt_trans (st_lt i hi) (by decide))]
  exact y_ir K hP hD hS (Nat.le_of_ble_eq_true rfl) (Nat.le_of_ble_eq_true rfl) (ty := .int) rfl rfl dJ0_length_8abf5_10 (⟨rfl, rfl⟩)
set_option maxHeartbeats 4000000 in
set_option maxRecDepth 100000 in
theorem g_chk3n (l : Launch) (D : va_G) (cy : Nat → ClassId) (sk sv : Nat → Nat) (w : Wd) (k n : Nat)   (hk : k < n) (hn : n < 64) : Ct l D cy sk sv yJ3_checkIndex_8e157 wsJ3_checkIndex_8e157 ({ frames := 0, cells := 0, slots := 0, locals := 0 }) [.int (nI k), .int (nI n), .null] w (fun v w1 => v = some (.int (nI k)) ∧ w = w1) := by
  refine Ct.by (cc := cJ3_checkIndex_8e157) (maxL := 3) (ret := (some .int)) (by decide +kernel) rfl (Nat.le_of_ble_eq_true rfl) ?_
  intro p e s m args below meth c A Q F hnm K ls hl
  have F : wd_Fx p s m args meth c cJ3_checkIndex_8e157 3 wsJ3_checkIndex_8e157 RJ3 D cy sk sv A := F
  have hl : lv_has ls 3 [(0, .int (nI k)), (1, .int (nI n)), (2, .null)] := hl
  have hx := F.1.1
  have hb := F.1.2.1
  have hown := F.1.2.2.2.1
  have hts := F.1.2.2.2.2
  intro H locs hP hD hS
  refine lv_iload_n hx hb dJ3_checkIndex_8e157_0 rfl (lv_at hl 0 rfl) ?_
  refine lv_if_lt (tgt := 9) hx hb dJ3_checkIndex_8e157_1 (by decide) (fun c_1 => absurd c_1 (nI_pos (by omega))) (fun c_1 => ?_)
  refine lv_iload_n hx hb dJ3_checkIndex_8e157_4 rfl (lv_at hl 0 rfl) ?_
  refine lv_iload_n hx hb dJ3_checkIndex_8e157_5 rfl (lv_at hl 1 rfl) ?_
  refine lv_icmp_lt (tgt := 16) hx hb dJ3_checkIndex_8e157_6 (by decide) (fun c_2 => ?_) (fun c_2 => absurd (nI_lt (by omega) (by omega)) c_2)
  refine lv_iload_n hx hb dJ3_checkIndex_8e157_16 rfl (lv_at hl 0 rfl) ?_
  exact y_ir K hP hD hS (Nat.le_of_ble_eq_true rfl) (Nat.le_of_ble_eq_true rfl) (ty := .int) rfl rfl dJ3_checkIndex_8e157_17 (⟨rfl, rfl⟩)
set_option maxHeartbeats 4000000 in
set_option maxRecDepth 100000 in
theorem g_chk3r (l : Launch) (D : va_G) (cy : Nat → ClassId) (sk sv : Nat → Nat) (w : Wd) (k n t : Nat)   (hk : k < n) (hn : n < 64) : Ct l D cy sk sv yJ3_checkIndex_8e157 wsJ3_checkIndex_8e157 ({ frames := 0, cells := 0, slots := 0, locals := 0 }) [.int (nI k), .int (nI n), .ref t] w (fun v w1 => v = some (.int (nI k)) ∧ w = w1) := by
  refine Ct.by (cc := cJ3_checkIndex_8e157) (maxL := 3) (ret := (some .int)) (by decide +kernel) rfl (Nat.le_of_ble_eq_true rfl) ?_
  intro p e s m args below meth c A Q F hnm K ls hl
  have F : wd_Fx p s m args meth c cJ3_checkIndex_8e157 3 wsJ3_checkIndex_8e157 RJ3 D cy sk sv A := F
  have hl : lv_has ls 3 [(0, .int (nI k)), (1, .int (nI n)), (2, .ref t)] := hl
  have hx := F.1.1
  have hb := F.1.2.1
  have hown := F.1.2.2.2.1
  have hts := F.1.2.2.2.2
  intro H locs hP hD hS
  refine lv_iload_n hx hb dJ3_checkIndex_8e157_0 rfl (lv_at hl 0 rfl) ?_
  refine lv_if_lt (tgt := 9) hx hb dJ3_checkIndex_8e157_1 (by decide) (fun c_1 => absurd c_1 (nI_pos (by omega))) (fun c_1 => ?_)
  refine lv_iload_n hx hb dJ3_checkIndex_8e157_4 rfl (lv_at hl 0 rfl) ?_
  refine lv_iload_n hx hb dJ3_checkIndex_8e157_5 rfl (lv_at hl 1 rfl) ?_
  refine lv_icmp_lt (tgt := 16) hx hb dJ3_checkIndex_8e157_6 (by decide) (fun c_2 => ?_) (fun c_2 => absurd (nI_lt (by omega) (by omega)) c_2)
  refine lv_iload_n hx hb dJ3_checkIndex_8e157_16 rfl (lv_at hl 0 rfl) ?_
  exact y_ir K hP hD hS (Nat.le_of_ble_eq_true rfl) (Nat.le_of_ble_eq_true rfl) (ty := .int) rfl rfl dJ3_checkIndex_8e157_17 (⟨rfl, rfl⟩)
set_option maxHeartbeats 4000000 in
set_option maxRecDepth 100000 in
theorem g_chk0 (l : Launch) (D : va_G) (cy : Nat → ClassId) (sk sv : Nat → Nat) (w : Wd) (k n : Nat)   (hk : k < n) (hn : n < 64) : Ct l D cy sk sv yJ0_checkIndex_df160 wsJ0_checkIndex_df160 ({ frames := 1, cells := 0, slots := 0, locals := 22 }) [.int (nI k), .int (nI n)] w (fun v w1 => v = none ∧ w = w1) := by
  refine Ct.by (cc := cJ0_checkIndex_df160) (maxL := 2) (ret := none) (by decide +kernel) rfl (Nat.le_of_ble_eq_true rfl) ?_
  intro p e s m args below meth c A Q F hnm K ls hl
  have F : wd_Fx p s m args meth c cJ0_checkIndex_df160 2 wsJ0_checkIndex_df160 RJ0 D cy sk sv A := F
  have hl : lv_has ls 2 [(0, .int (nI k)), (1, .int (nI n))] := hl
  have hx := F.1.1
  have hb := F.1.2.1
  have hown := F.1.2.2.2.1
  have hts := F.1.2.2.2.2
  intro H locs hP hD hS
  refine lv_iload_n hx hb dJ0_checkIndex_df160_0 rfl (lv_at hl 0 rfl) ?_
  refine lv_iload_n hx hb dJ0_checkIndex_df160_1 rfl (lv_at hl 1 rfl) ?_
  refine x_siobe F hS (List.mem_cons_of_mem _ (List.mem_of_getElem? (i := 0) rfl)) dJ0_checkIndex_df160_2 ?_ (fun t9 => ?_)
  · refine x_callS (n := 3) (As := [.int (nI k), .int (nI n), .null]) (rest := []) F hP hD hS (g_chk3n l D cy sk sv w k n (by omega) (by omega)) gJ0_checkIndex_df160_J3_checkIndex_8e157 rfl (by decide +kernel) ⟨(Nat.le_of_ble_eq_true rfl), (Nat.le_of_ble_eq_true rfl)⟩ rfl hl.1 (Nat.le_of_ble_eq_true rfl) dJ0_checkIndex_df160_5 rfl ⟨(Nat.le_of_ble_eq_true rfl), (Nat.le_of_ble_eq_true rfl)⟩ (fun v2 w3 hp1 H locs hP hD hS => ?_)
    obtain ⟨rfl, rfl⟩ := hp1
    refine W.eq (g2 := F0 m 8 ls [.int (nI k)]) rfl (W.widen (k := 0) (n := 0) (Nat.le_of_ble_eq_true rfl) (Nat.le_of_ble_eq_true rfl) ?_)
    refine lv_pop hx hb dJ0_checkIndex_df160_8 rfl ?_
    exact y_vr K hP hD hS (Nat.le_of_ble_eq_true rfl) (Nat.le_of_ble_eq_true rfl) rfl dJ0_checkIndex_df160_9 (⟨rfl, rfl⟩)
  · refine x_callS (n := 3) (As := [.int (nI k), .int (nI n), .ref t9]) (rest := []) F hP hD hS (g_chk3r l D cy sk sv w k n t9 (by omega) (by omega)) gJ0_checkIndex_df160_J3_checkIndex_8e157 rfl (by decide +kernel) ⟨(Nat.le_of_ble_eq_true rfl), (Nat.le_of_ble_eq_true rfl)⟩ rfl hl.1 (Nat.le_of_ble_eq_true rfl) dJ0_checkIndex_df160_5 rfl ⟨(Nat.le_of_ble_eq_true rfl), (Nat.le_of_ble_eq_true rfl)⟩ (fun v5 w6 hp4 H locs hP hD hS => ?_)
    obtain ⟨rfl, rfl⟩ := hp4
    refine W.eq (g2 := F0 m 8 ls [.int (nI k)]) rfl (W.widen (k := 0) (n := 0) (Nat.le_of_ble_eq_true rfl) (Nat.le_of_ble_eq_true rfl) ?_)
    refine lv_pop hx hb dJ0_checkIndex_df160_8 rfl ?_
    exact y_vr K hP hD hS (Nat.le_of_ble_eq_true rfl) (Nat.le_of_ble_eq_true rfl) rfl dJ0_checkIndex_df160_9 (⟨rfl, rfl⟩)
