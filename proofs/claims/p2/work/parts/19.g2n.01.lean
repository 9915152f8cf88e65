set_option maxHeartbeats 4000000 in
set_option maxRecDepth 100000 in
theorem m_kindOfS (l : Launch) (D : va_G) (cy : Nat → ClassId) (sk sv : Nat → Nat) (w : Wd) (y : Nat) (k : Int32)    : Ct l D cy sk sv yX11_kindOf wsX11_kindOf ({ frames := 0, cells := 0, slots := 0, locals := 0 }) [.ref y, .int k] w (fun v w1 => ∃ (i1 : Nat), v = some (.ref (sk i1)) ∧ (i1 < 23) ∧ w = w1) := by
  refine Ct.by (cc := cX11_kindOf) (maxL := 2) (ret := (some (.object "java/lang/String"))) (by decide +kernel) rfl (Nat.le_of_ble_eq_true rfl) ?_
  intro p e s m args below meth c A Q F hnm K ls hl
  have F : wd_Fx p s m args meth c cX11_kindOf 2 wsX11_kindOf RX11 D cy sk sv A := F
  have hl : lv_has ls 2 [(0, .ref y), (1, .int k)] := hl
  have hx := F.1.1
  have hb := F.1.2.1
  have hown := F.1.2.2.2.1
  have hts := F.1.2.2.2.2
  intro H locs hP hD hS
  refine lv_iload_n hx hb dX11_kindOf_0 rfl (lv_at hl 1 rfl) ?_
  refine lv_if_ne (tgt := 9) hx hb dX11_kindOf_1 (by decide) (fun c_1 => ?_) (fun c_1 => ?_)
  · refine lv_iload_n hx hb dX11_kindOf_9 rfl (lv_at hl 1 rfl) ?_
    refine lv_iconst (v := 1) hx hb dX11_kindOf_10 (by decide) ?_
    refine lv_icmp_ne (tgt := 20) hx hb dX11_kindOf_11 (by decide) (fun c_2 => ?_) (fun c_2 => ?_)
    · refine lv_iload_n hx hb dX11_kindOf_20 rfl (lv_at hl 1 rfl) ?_
      refine lv_iconst (v := 2) hx hb dX11_kindOf_21 (by decide) ?_
      refine lv_icmp_ne (tgt := 31) hx hb dX11_kindOf_22 (by decide) (fun c_3 => ?_) (fun c_3 => ?_)
      · refine lv_iload_n hx hb dX11_kindOf_31 rfl (lv_at hl 1 rfl) ?_
        refine lv_iconst (v := 3) hx hb dX11_kindOf_32 (by decide) ?_
        refine lv_icmp_ne (tgt := 42) hx hb dX11_kindOf_33 (by decide) (fun c_4 => ?_) (fun c_4 => ?_)
        · refine x_ldcS F (i := 9) (tx := "hand") (by decide +kernel) dX11_kindOf_42 ?_
          exact y_ar K hP hD hS (Nat.le_of_ble_eq_true rfl) (Nat.le_of_ble_eq_true rfl) rfl (Or.inl ⟨_, rfl⟩) (Or.inr ⟨_, rfl⟩) dX11_kindOf_44 (⟨9, rfl, by decide, rfl⟩)
        · refine x_ldcwS F (i := 19) (tx := "over") (by decide +kernel) dX11_kindOf_36 ?_
          refine lv_goto (tgt := 44) hx hb dX11_kindOf_39 (by decide) ?_
          exact y_ar K hP hD hS (Nat.le_of_ble_eq_true rfl) (Nat.le_of_ble_eq_true rfl) rfl (Or.inl ⟨_, rfl⟩) (Or.inr ⟨_, rfl⟩) dX11_kindOf_44 (⟨19, rfl, by decide, rfl⟩)
      · refine x_ldcwS F (i := 18) (tx := "twice") (by decide +kernel) dX11_kindOf_25 ?_
        refine lv_goto (tgt := 44) hx hb dX11_kindOf_28 (by decide) ?_
        exact y_ar K hP hD hS (Nat.le_of_ble_eq_true rfl) (Nat.le_of_ble_eq_true rfl) rfl (Or.inl ⟨_, rfl⟩) (Or.inr ⟨_, rfl⟩) dX11_kindOf_44 (⟨18, rfl, by decide, rfl⟩)
    · refine x_ldcwS F (i := 17) (tx := "forged") (by decide +kernel) dX11_kindOf_14 ?_
      refine lv_goto (tgt := 44) hx hb dX11_kindOf_17 (by decide) ?_
      exact y_ar K hP hD hS (Nat.le_of_ble_eq_true rfl) (Nat.le_of_ble_eq_true rfl) rfl (Or.inl ⟨_, rfl⟩) (Or.inr ⟨_, rfl⟩) dX11_kindOf_44 (⟨17, rfl, by decide, rfl⟩)
  · refine x_ldcS F (i := 11) (tx := "stopped") (by decide +kernel) dX11_kindOf_4 ?_
    refine lv_goto (tgt := 44) hx hb dX11_kindOf_6 (by decide) ?_
    exact y_ar K hP hD hS (Nat.le_of_ble_eq_true rfl) (Nat.le_of_ble_eq_true rfl) rfl (Or.inl ⟨_, rfl⟩) (Or.inr ⟨_, rfl⟩) dX11_kindOf_44 (⟨11, rfl, by decide, rfl⟩)
set_option maxHeartbeats 4000000 in
set_option maxRecDepth 100000 in
theorem m_bearerOf (l : Launch) (D : va_G) (cy : Nat → ClassId) (sk sv : Nat → Nat) (w : Wd) (y : Nat) (k : Int32)    : Ct l D cy sk sv yX11_bearerOf wsX11_bearerOf ({ frames := 0, cells := 0, slots := 0, locals := 0 }) [.ref y, .int k] w (fun v w1 => ∃ (i1 : Nat), v = some (.ref (sk i1)) ∧ (i1 < 23) ∧ w = w1) := by
  refine Ct.by (cc := cX11_bearerOf) (maxL := 2) (ret := (some (.object "java/lang/String"))) (by decide +kernel) rfl (Nat.le_of_ble_eq_true rfl) ?_
  intro p e s m args below meth c A Q F hnm K ls hl
  have F : wd_Fx p s m args meth c cX11_bearerOf 2 wsX11_bearerOf RX11 D cy sk sv A := F
  have hl : lv_has ls 2 [(0, .ref y), (1, .int k)] := hl
  have hx := F.1.1
  have hb := F.1.2.1
  have hown := F.1.2.2.2.1
  have hts := F.1.2.2.2.2
  intro H locs hP hD hS
  refine lv_iload_n hx hb dX11_bearerOf_0 rfl (lv_at hl 1 rfl) ?_
  refine lv_if_ne (tgt := 10) hx hb dX11_bearerOf_1 (by decide) (fun c_1 => ?_) (fun c_1 => ?_)
  · refine lv_iload_n hx hb dX11_bearerOf_10 rfl (lv_at hl 1 rfl) ?_
    refine lv_iconst (v := 1) hx hb dX11_bearerOf_11 (by decide) ?_
    refine lv_icmp_ne (tgt := 21) hx hb dX11_bearerOf_12 (by decide) (fun c_2 => ?_) (fun c_2 => ?_)
    · refine x_ldcwS F (i := 22) (tx := "half") (by decide +kernel) dX11_bearerOf_21 ?_
      exact y_ar K hP hD hS (Nat.le_of_ble_eq_true rfl) (Nat.le_of_ble_eq_true rfl) rfl (Or.inl ⟨_, rfl⟩) (Or.inr ⟨_, rfl⟩) dX11_bearerOf_24 (⟨22, rfl, by decide, rfl⟩)
    · refine x_ldcwS F (i := 21) (tx := "town") (by decide +kernel) dX11_bearerOf_15 ?_
      refine lv_goto (tgt := 24) hx hb dX11_bearerOf_18 (by decide) ?_
      exact y_ar K hP hD hS (Nat.le_of_ble_eq_true rfl) (Nat.le_of_ble_eq_true rfl) rfl (Or.inl ⟨_, rfl⟩) (Or.inr ⟨_, rfl⟩) dX11_bearerOf_24 (⟨21, rfl, by decide, rfl⟩)
  · refine x_ldcwS F (i := 20) (tx := "house") (by decide +kernel) dX11_bearerOf_4 ?_
    refine lv_goto (tgt := 24) hx hb dX11_bearerOf_7 (by decide) ?_
    exact y_ar K hP hD hS (Nat.le_of_ble_eq_true rfl) (Nat.le_of_ble_eq_true rfl) rfl (Or.inl ⟨_, rfl⟩) (Or.inr ⟨_, rfl⟩) dX11_bearerOf_24 (⟨20, rfl, by decide, rfl⟩)
