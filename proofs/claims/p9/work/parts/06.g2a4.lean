def wi (n lo hi : Int32) : Int32 := if n < lo then 0 else if n ≤ hi then 1 else 0
theorem wi_b (n lo hi : Int32) : narrow .boolean (.int (wi n lo hi)) = .int (wi n lo hi) := by unfold wi; split; exact rfl; split <;> exact rfl
theorem wi_n {n lo hi : Int32} (h : ¬ wi n lo hi = 0) : ¬ n < lo ∧ n ≤ hi := by
  unfold wi at h
  by_cases h1 : n < lo
  · rw [if_pos h1] at h; exact absurd rfl h
  · rw [if_neg h1] at h
    by_cases h2 : n ≤ hi
    · exact ⟨h1, h2⟩
    · rw [if_neg h2] at h; exact absurd rfl h
theorem wi_t {n : Int32} (h : ¬ wi n 0 11 = 0) : ∃ j : Nat, j < 12 ∧ n = nI j ∧ n.toNatClampNeg = j := by
  obtain ⟨h1, h2⟩ := wi_n h
  obtain ⟨j, hj, rfl⟩ := nI_of2 (M := 11) (n := 11) (by decide) h1 h2
  exact ⟨j, by omega, rfl, nI_clamp (by omega)⟩
theorem wi_v {n : Int32} (h : ¬ wi n 0 11 = 0) : vp_in n 12 := by
  obtain ⟨j, hj, rfl, -⟩ := wi_t h
  exact vp_in_nI hj (by decide)
theorem wi_1 {n a b : Int32} (h : ¬ wi n a b = 0) : wi n a b = 1 := by
  obtain ⟨h1, h2⟩ := wi_n h
  unfold wi
  rw [if_neg h1, if_pos h2]
theorem ge12 {t : Int32} : 12 ≤ t ↔ ¬ t ≤ 11 := by
  rw [Int32.not_le, Int32.le_iff_toInt_le, Int32.lt_iff_toInt_lt]
  have h1 : (12 : Int32).toInt = 12 := by decide
  have h2 : (11 : Int32).toInt = 11 := by decide
  omega
set_option maxHeartbeats 4000000 in
set_option maxRecDepth 100000 in
theorem g_isWithin (l : Launch) (D : va_G) (cy : Nat → ClassId) (sk sv : Nat → Nat) (w : Wd) (x lo hi : Int32)    : Ct l D cy sk sv yX10_isWithin wsX10_isWithin ({ frames := 0, cells := 0, slots := 0, locals := 0 }) [.int x, .int lo, .int hi] w (fun v w1 => v = some (.int (wi x lo hi)) ∧ w = w1) := by
  refine Ct.by (cc := cX10_isWithin) (maxL := 3) (ret := (some .boolean)) (by decide +kernel) rfl (Nat.le_of_ble_eq_true rfl) ?_
  intro p e s m args below meth c A Q F hnm K ls hl
  have F : wd_Fx p s m args meth c cX10_isWithin 3 wsX10_isWithin RX10 D cy sk sv A := F
  have hl : lv_has ls 3 [(0, .int x), (1, .int lo), (2, .int hi)] := hl
  have hx := F.1.1
  have hb := F.1.2.1
  have hown := F.1.2.2.2.1
  have hts := F.1.2.2.2.2
  intro H locs hP hD hS
  refine lv_iload_n hx hb dX10_isWithin_0 rfl (lv_at hl 0 rfl) ?_
  refine lv_iload_n hx hb dX10_isWithin_1 rfl (lv_at hl 1 rfl) ?_
  refine lv_icmp_lt (tgt := 14) hx hb dX10_isWithin_2 (by decide) (fun c_1 => ?_) (fun c_1 => ?_)
  · refine lv_iconst (v := 0) hx hb dX10_isWithin_14 (by decide) ?_
    exact y_ir K hP hD hS (Nat.le_of_ble_eq_true rfl) (Nat.le_of_ble_eq_true rfl) (ty := .boolean) rfl rfl dX10_isWithin_15 (⟨by simp [wi, c_1], rfl⟩)
  · refine lv_iload_n hx hb dX10_isWithin_5 rfl (lv_at hl 0 rfl) ?_
    refine lv_iload_n hx hb dX10_isWithin_6 rfl (lv_at hl 2 rfl) ?_
    refine lv_icmp_gt (tgt := 14) hx hb dX10_isWithin_7 (by decide) (fun c_2 => ?_) (fun c_2 => ?_)
    · refine lv_iconst (v := 0) hx hb dX10_isWithin_14 (by decide) ?_
      exact y_ir K hP hD hS (Nat.le_of_ble_eq_true rfl) (Nat.le_of_ble_eq_true rfl) (ty := .boolean) rfl rfl dX10_isWithin_15 (⟨by simp [wi, c_1, c_2], rfl⟩)
    · refine lv_iconst (v := 1) hx hb dX10_isWithin_10 (by decide) ?_
      refine lv_goto (tgt := 15) hx hb dX10_isWithin_11 (by decide) ?_
      exact y_ir K hP hD hS (Nat.le_of_ble_eq_true rfl) (Nat.le_of_ble_eq_true rfl) (ty := .boolean) rfl rfl dX10_isWithin_15 (⟨by simp [wi, c_1, c_2], rfl⟩)
set_option maxHeartbeats 4000000 in
set_option maxRecDepth 100000 in
theorem g_in (l : Launch) (D : va_G) (cy : Nat → ClassId) (sk sv : Nat → Nat) (w : Wd) (x lo hi : Int32)    : Ct l D cy sk sv yX11_in wsX11_in ({ frames := 0, cells := 0, slots := 0, locals := 0 }) [.int x, .int lo, .int hi] w (fun v w1 => v = some (.int (wi x lo hi)) ∧ w = w1) := by
  refine Ct.by (cc := cX11_in) (maxL := 3) (ret := (some .boolean)) (by decide +kernel) rfl (Nat.le_of_ble_eq_true rfl) ?_
  intro p e s m args below meth c A Q F hnm K ls hl
  have F : wd_Fx p s m args meth c cX11_in 3 wsX11_in RX11 D cy sk sv A := F
  have hl : lv_has ls 3 [(0, .int x), (1, .int lo), (2, .int hi)] := hl
  have hx := F.1.1
  have hb := F.1.2.1
  have hown := F.1.2.2.2.1
  have hts := F.1.2.2.2.2
  intro H locs hP hD hS
  refine lv_iload_n hx hb dX11_in_0 rfl (lv_at hl 0 rfl) ?_
  refine lv_iload_n hx hb dX11_in_1 rfl (lv_at hl 1 rfl) ?_
  refine lv_icmp_lt (tgt := 14) hx hb dX11_in_2 (by decide) (fun c_1 => ?_) (fun c_1 => ?_)
  · refine lv_iconst (v := 0) hx hb dX11_in_14 (by decide) ?_
    exact y_ir K hP hD hS (Nat.le_of_ble_eq_true rfl) (Nat.le_of_ble_eq_true rfl) (ty := .boolean) rfl rfl dX11_in_15 (⟨by simp [wi, c_1], rfl⟩)
  · refine lv_iload_n hx hb dX11_in_5 rfl (lv_at hl 0 rfl) ?_
    refine lv_iload_n hx hb dX11_in_6 rfl (lv_at hl 2 rfl) ?_
    refine lv_icmp_gt (tgt := 14) hx hb dX11_in_7 (by decide) (fun c_2 => ?_) (fun c_2 => ?_)
    · refine lv_iconst (v := 0) hx hb dX11_in_14 (by decide) ?_
      exact y_ir K hP hD hS (Nat.le_of_ble_eq_true rfl) (Nat.le_of_ble_eq_true rfl) (ty := .boolean) rfl rfl dX11_in_15 (⟨by simp [wi, c_1, c_2], rfl⟩)
    · refine lv_iconst (v := 1) hx hb dX11_in_10 (by decide) ?_
      refine lv_goto (tgt := 15) hx hb dX11_in_11 (by decide) ?_
      exact y_ir K hP hD hS (Nat.le_of_ble_eq_true rfl) (Nat.le_of_ble_eq_true rfl) (ty := .boolean) rfl rfl dX11_in_15 (⟨by simp [wi, c_1, c_2], rfl⟩)
set_option maxHeartbeats 4000000 in
set_option maxRecDepth 100000 in
theorem g_isTown (l : Launch) (D : va_G) (cy : Nat → ClassId) (sk sv : Nat → Nat) (w : Wd) (x : Int32)    : Ct l D cy sk sv yX10_isTown wsX10_isTown ({ frames := 1, cells := 0, slots := 0, locals := 22 }) [.int x] w (fun v w1 => v = some (.int (wi x 0 11)) ∧ w = w1) := by
  refine Ct.by (cc := cX10_isTown) (maxL := 1) (ret := (some .boolean)) (by decide +kernel) rfl (Nat.le_of_ble_eq_true rfl) ?_
  intro p e s m args below meth c A Q F hnm K ls hl
  have F : wd_Fx p s m args meth c cX10_isTown 1 wsX10_isTown RX10 D cy sk sv A := F
  have hl : lv_has ls 1 [(0, .int x)] := hl
  have hx := F.1.1
  have hb := F.1.2.1
  have hown := F.1.2.2.2.1
  have hts := F.1.2.2.2.2
  intro H locs hP hD hS
  refine lv_iload_n hx hb dX10_isTown_0 rfl (lv_at hl 0 rfl) ?_
  refine lv_iconst (v := 0) hx hb dX10_isTown_1 (by decide) ?_
  refine lv_bipush (v := 11) hx hb dX10_isTown_2 (by decide) ?_
  refine x_callS (n := 3) (As := [.int x, .int 0, .int 11]) (rest := []) F hP hD hS (g_isWithin l D cy sk sv w x 0 11) gX10_isTown_X10_isWithin rfl (by decide +kernel) ⟨(Nat.le_of_ble_eq_true rfl), (Nat.le_of_ble_eq_true rfl)⟩ rfl hl.1 (Nat.le_of_ble_eq_true rfl) dX10_isTown_4 rfl ⟨(Nat.le_of_ble_eq_true rfl), (Nat.le_of_ble_eq_true rfl)⟩ (fun v2 w3 hp1 H locs hP hD hS => ?_)
  obtain ⟨rfl, rfl⟩ := hp1
  refine W.eq (g2 := F0 m 7 ls [.int (wi x 0 11)]) rfl (W.widen (k := 0) (n := 0) (Nat.le_of_ble_eq_true rfl) (Nat.le_of_ble_eq_true rfl) ?_)
  exact y_ir K hP hD hS (Nat.le_of_ble_eq_true rfl) (Nat.le_of_ble_eq_true rfl) (ty := .boolean) rfl (wi_b _ _ _) dX10_isTown_7 (⟨rfl, rfl⟩)
set_option maxHeartbeats 4000000 in
set_option maxRecDepth 100000 in
theorem g_isHand (l : Launch) (D : va_G) (cy : Nat → ClassId) (sk sv : Nat → Nat) (w : Wd) (x : Int32)    : Ct l D cy sk sv yX10_isHand wsX10_isHand ({ frames := 1, cells := 0, slots := 0, locals := 22 }) [.int x] w (fun v w1 => v = some (.int (wi x 0 99999)) ∧ w = w1) := by
  refine Ct.by (cc := cX10_isHand) (maxL := 1) (ret := (some .boolean)) (by decide +kernel) rfl (Nat.le_of_ble_eq_true rfl) ?_
  intro p e s m args below meth c A Q F hnm K ls hl
  have F : wd_Fx p s m args meth c cX10_isHand 1 wsX10_isHand RX10 D cy sk sv A := F
  have hl : lv_has ls 1 [(0, .int x)] := hl
  have hx := F.1.1
  have hb := F.1.2.1
  have hown := F.1.2.2.2.1
  have hts := F.1.2.2.2.2
  intro H locs hP hD hS
  refine lv_iload_n hx hb dX10_isHand_0 rfl (lv_at hl 0 rfl) ?_
  refine lv_iconst (v := 0) hx hb dX10_isHand_1 (by decide) ?_
  refine lv_ldcw (v := 99999) hx hb hown (hts _ (List.mem_cons_of_mem _ (List.mem_of_getElem? (i := 0) rfl))) dX10_isHand_2 ?_
  refine x_callS (n := 3) (As := [.int x, .int 0, .int 99999]) (rest := []) F hP hD hS (g_isWithin l D cy sk sv w x 0 99999) gX10_isHand_X10_isWithin rfl (by decide +kernel) ⟨(Nat.le_of_ble_eq_true rfl), (Nat.le_of_ble_eq_true rfl)⟩ rfl hl.1 (Nat.le_of_ble_eq_true rfl) dX10_isHand_5 rfl ⟨(Nat.le_of_ble_eq_true rfl), (Nat.le_of_ble_eq_true rfl)⟩ (fun v2 w3 hp1 H locs hP hD hS => ?_)
  obtain ⟨rfl, rfl⟩ := hp1
  refine W.eq (g2 := F0 m 8 ls [.int (wi x 0 99999)]) rfl (W.widen (k := 0) (n := 0) (Nat.le_of_ble_eq_true rfl) (Nat.le_of_ble_eq_true rfl) ?_)
  exact y_ir K hP hD hS (Nat.le_of_ble_eq_true rfl) (Nat.le_of_ble_eq_true rfl) (ty := .boolean) rfl (wi_b _ _ _) dX10_isHand_8 (⟨rfl, rfl⟩)
set_option maxHeartbeats 4000000 in
set_option maxRecDepth 100000 in
theorem g_mTown (l : Launch) (D : va_G) (cy : Nat → ClassId) (sk sv : Nat → Nat) (w : Wd) (x : Int32)    : Ct l D cy sk sv yX11_isTown wsX11_isTown ({ frames := 0, cells := 0, slots := 0, locals := 0 }) [.int x] w (fun v w1 => v = some (.int (wi x 0 11)) ∧ w = w1) := by
  refine Ct.by (cc := cX11_isTown) (maxL := 1) (ret := (some .boolean)) (by decide +kernel) rfl (Nat.le_of_ble_eq_true rfl) ?_
  intro p e s m args below meth c A Q F hnm K ls hl
  have F : wd_Fx p s m args meth c cX11_isTown 1 wsX11_isTown RX11 D cy sk sv A := F
  have hl : lv_has ls 1 [(0, .int x)] := hl
  have hx := F.1.1
  have hb := F.1.2.1
  have hown := F.1.2.2.2.1
  have hts := F.1.2.2.2.2
  intro H locs hP hD hS
  refine lv_iload_n hx hb dX11_isTown_0 rfl (lv_at hl 0 rfl) ?_
  refine lv_if_lt (tgt := 14) hx hb dX11_isTown_1 (by decide) (fun c_1 => ?_) (fun c_1 => ?_)
  · refine lv_iconst (v := 0) hx hb dX11_isTown_14 (by decide) ?_
    exact y_ir K hP hD hS (Nat.le_of_ble_eq_true rfl) (Nat.le_of_ble_eq_true rfl) (ty := .boolean) rfl rfl dX11_isTown_15 (⟨by simp [wi, c_1], rfl⟩)
  · refine lv_iload_n hx hb dX11_isTown_4 rfl (lv_at hl 0 rfl) ?_
    refine lv_bipush (v := 12) hx hb dX11_isTown_5 (by decide) ?_
    refine lv_icmp_ge (tgt := 14) hx hb dX11_isTown_7 (by decide) (fun c_2 => ?_) (fun c_2 => ?_)
    · refine lv_iconst (v := 0) hx hb dX11_isTown_14 (by decide) ?_
      exact y_ir K hP hD hS (Nat.le_of_ble_eq_true rfl) (Nat.le_of_ble_eq_true rfl) (ty := .boolean) rfl rfl dX11_isTown_15 (⟨by simp [wi, c_1, ge12.mp c_2], rfl⟩)
    · refine lv_iconst (v := 1) hx hb dX11_isTown_10 (by decide) ?_
      refine lv_goto (tgt := 15) hx hb dX11_isTown_11 (by decide) ?_
      exact y_ir K hP hD hS (Nat.le_of_ble_eq_true rfl) (Nat.le_of_ble_eq_true rfl) (ty := .boolean) rfl rfl dX11_isTown_15 (⟨by simp [wi, c_1, Classical.byContradiction (fun q => c_2 (ge12.mpr q))], rfl⟩)

