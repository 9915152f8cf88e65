set_option maxHeartbeats 4000000 in
set_option maxRecDepth 100000 in
theorem g_lcharAt (l : Launch) (D : va_G) (cy : Nat → ClassId) (sk sv : Nat → Nat) (w : Wd) (i k : Nat)   (hi : i < 23) (hk : k < st_len.getD i 0) : Ct l D cy sk sv yJ1_charAt_3b067 wsJ1_charAt_3b067 ({ frames := 2, cells := 0, slots := 0, locals := 43 }) [.ref (sv i), .int (nI k)] w (fun v w1 => v = some (.int ((st_byt.getD i []).getD k 0)) ∧ w = w1) := by
  refine Ct.by (cc := cJ1_charAt_3b067) (maxL := 2) (ret := (some .char)) (by decide +kernel) rfl (Nat.le_of_ble_eq_true rfl) ?_
  intro p e s m args below meth c A Q F hnm K ls hl
  have F : wd_Fx p s m args meth c cJ1_charAt_3b067 2 wsJ1_charAt_3b067 RJ1 D cy sk sv A := F
  have hl : lv_has ls 2 [(0, .ref (sv i)), (1, .int (nI k))] := hl
  have hx := F.1.1
  have hb := F.1.2.1
  have hown := F.1.2.2.2.1
  have hts := F.1.2.2.2.2
  intro H locs hP hD hS
  have hlt := st_lt i hi
  refine lv_iload_n hx hb dJ1_charAt_3b067_0 rfl (lv_at hl 1 rfl) ?_
  refine lv_aload_n hx hb dJ1_charAt_3b067_1 rfl (lv_at hl 0 rfl) ?_
  refine x_slen F hS (i := i) (by omega) dJ1_charAt_3b067_2 ?_
  refine x_callS (n := 2) (As := [.int (nI k), .int (nI (st_len.getD i 0))]) (rest := []) F hP hD hS (g_chk0 l D cy sk sv w k (st_len.getD i 0) (by omega) (by omega)) gJ1_charAt_3b067_J0_checkIndex_df160 rfl (by decide +kernel) ⟨(Nat.le_of_ble_eq_true rfl), (Nat.le_of_ble_eq_true rfl)⟩ rfl hl.1 (Nat.le_of_ble_eq_true rfl) dJ1_charAt_3b067_3 rfl ⟨(Nat.le_of_ble_eq_true rfl), (Nat.le_of_ble_eq_true rfl)⟩ (fun v2 w3 hp1 H locs hP hD hS => ?_)
  obtain ⟨rfl, rfl⟩ := hp1
  refine W.eq (g2 := F0 m 6 ls []) rfl (W.widen (k := 0) (n := 0) (Nat.le_of_ble_eq_true rfl) (Nat.le_of_ble_eq_true rfl) ?_)
  refine lv_aload_n hx hb dJ1_charAt_3b067_6 rfl (lv_at hl 0 rfl) ?_
  refine lv_iload_n hx hb dJ1_charAt_3b067_7 rfl (lv_at hl 1 rfl) ?_
  refine x_sbld F hS (i := i) (by omega) (vp_in_nI hk (by omega)) dJ1_charAt_3b067_8 ?_
  rw [nI_clamp (n := k) (by have := st_lt i hi; omega)]
  refine lv_sipush (v := 255) hx hb dJ1_charAt_3b067_9 (by decide) ?_
  refine lv_iand hx hb dJ1_charAt_3b067_12 ?_
  refine lv_i2c (v := (st_byt.getD i []).getD k 0) hx hb dJ1_charAt_3b067_13 (st_i2c _ (st_and i hi k (by omega))) ?_
  exact y_ir K hP hD hS (Nat.le_of_ble_eq_true rfl) (Nat.le_of_ble_eq_true rfl) (ty := .char) rfl (st_nc i hi k (by omega)) dJ1_charAt_3b067_14 (⟨rfl, rfl⟩)
set_option maxHeartbeats 4000000 in
set_option maxRecDepth 100000 in
theorem g_charAt (l : Launch) (D : va_G) (cy : Nat → ClassId) (sk sv : Nat → Nat) (w : Wd) (i k : Nat)   (hi : i < 23) (hk : k < st_len.getD i 0) : Ct l D cy sk sv yJ0_charAt_5068e wsJ0_charAt_5068e ({ frames := 3, cells := 0, slots := 0, locals := 64 }) [.ref (sk i), .int (nI k)] w (fun v w1 => v = some (.int ((st_byt.getD i []).getD k 0)) ∧ w = w1) := by
  refine Ct.by (cc := cJ0_charAt_5068e) (maxL := 2) (ret := (some .char)) (by decide +kernel) rfl (Nat.le_of_ble_eq_true rfl) ?_
  intro p e s m args below meth c A Q F hnm K ls hl
  have F : wd_Fx p s m args meth c cJ0_charAt_5068e 2 wsJ0_charAt_5068e RJ0 D cy sk sv A := F
  have hl : lv_has ls 2 [(0, .ref (sk i)), (1, .int (nI k))] := hl
  have hx := F.1.1
  have hb := F.1.2.1
  have hown := F.1.2.2.2.1
  have hts := F.1.2.2.2.2
  intro H locs hP hD hS
  have hlt := st_lt i hi
  refine lv_aload_n hx hb dJ0_charAt_5068e_0 rfl (lv_at hl 0 rfl) ?_
  refine x_callVs (n := 0) (As := []) (rest := []) F hP hD hS (by omega) (g_isLatin1 l D cy sk sv w i (by omega)) gJ0_charAt_5068e_J0_isLatin1_aae02 rfl rfl (by decide +kernel) ⟨(Nat.le_of_ble_eq_true rfl), (Nat.le_of_ble_eq_true rfl)⟩ rfl hl.1 (Nat.le_of_ble_eq_true rfl) dJ0_charAt_5068e_1 rfl ⟨(Nat.le_of_ble_eq_true rfl), (Nat.le_of_ble_eq_true rfl)⟩ (fun v2 w3 hp1 H locs hP hD hS => ?_)
  obtain ⟨rfl, rfl⟩ := hp1
  refine W.eq (g2 := F0 m 4 ls [.int 1]) rfl (W.widen (k := 0) (n := 0) (Nat.le_of_ble_eq_true rfl) (Nat.le_of_ble_eq_true rfl) ?_)
  refine lv_if_eq (tgt := 16) hx hb dJ0_charAt_5068e_4 (by decide) (fun c_4 => absurd c_4 (show ¬ (1 : Int32) = (0 : Int32) by decide)) (fun c_4 => ?_)
  refine lv_aload_n hx hb dJ0_charAt_5068e_7 rfl (lv_at hl 0 rfl) ?_
  refine x_sval F hS (i := i) (by omega) (List.mem_cons_of_mem _ (List.mem_append_left _ (List.mem_of_getElem? (i := 0) rfl))) dJ0_charAt_5068e_8 ?_
  refine lv_iload_n hx hb dJ0_charAt_5068e_11 rfl (lv_at hl 1 rfl) ?_
  refine x_callS (n := 2) (As := [.ref (sv i), .int (nI k)]) (rest := []) F hP hD hS (g_lcharAt l D cy sk sv w i k (by omega) (by omega)) gJ0_charAt_5068e_J1_charAt_3b067 rfl (by decide +kernel) ⟨(Nat.le_of_ble_eq_true rfl), (Nat.le_of_ble_eq_true rfl)⟩ rfl hl.1 (Nat.le_of_ble_eq_true rfl) dJ0_charAt_5068e_12 rfl ⟨(Nat.le_of_ble_eq_true rfl), (Nat.le_of_ble_eq_true rfl)⟩ (fun v6 w7 hp5 H locs hP hD hS => ?_)
  obtain ⟨rfl, rfl⟩ := hp5
  refine W.eq (g2 := F0 m 15 ls [.int ((st_byt.getD i []).getD k 0)]) rfl (W.widen (k := 0) (n := 0) (Nat.le_of_ble_eq_true rfl) (Nat.le_of_ble_eq_true rfl) ?_)
  exact y_ir K hP hD hS (Nat.le_of_ble_eq_true rfl) (Nat.le_of_ble_eq_true rfl) (ty := .char) rfl (st_nc i hi k (by omega)) dJ0_charAt_5068e_15 (⟨rfl, rfl⟩)
