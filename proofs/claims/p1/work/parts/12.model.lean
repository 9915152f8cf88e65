theorem ge12 {t : Int32} : 12 ≤ t ↔ ¬ t ≤ 11 := by
  rw [Int32.not_le, Int32.le_iff_toInt_le, Int32.lt_iff_toInt_lt]
  have h1 : (12 : Int32).toInt = 12 := by decide
  have h2 : (11 : Int32).toInt = 11 := by decide
  omega
theorem wi_m1 (k : Int32) : wi k 0 (-1) = 0 := by
  unfold wi
  by_cases h : k < 0
  · rw [if_pos h]
  · rw [if_neg h, if_neg (fun q => h (Int32.lt_of_le_of_lt q (by decide)))]
theorem wi_1 {n a b : Int32} (h : ¬ wi n a b = 0) : wi n a b = 1 := by
  obtain ⟨h1, h2⟩ := wi_n h
  unfold wi
  rw [if_neg h1, if_pos h2]
theorem sd_3 {c : Int32} (h : ¬ wi c 1 1000000 = 0) : c ≤ 1000000000 := Int32.le_trans (wi_n h).2 (by decide)
theorem wi_34 {n : Int32} (h : ¬ wi n 30 34 = 0) : (n = 30 ∨ n = 31 ∨ n = 32 ∨ n = 33 ∨ n = 34) := by
  obtain ⟨h1, h2⟩ := wi_n h
  have h0 : ¬ n < 0 := fun q => h1 (Int32.lt_of_lt_of_le q (by decide))
  obtain ⟨j, hj, rfl⟩ := nI_of2 (M := 34) (n := 34) (by decide) h0 h2
  have h3 : 30 ≤ j := Nat.le_of_not_lt (fun q => h1 (nI_lt (a := j) (b := 30) q (by decide)))
  rcases (show j = 30 ∨ j = 31 ∨ j = 32 ∨ j = 33 ∨ j = 34 by omega) with rfl | rfl | rfl | rfl | rfl
  · exact Or.inl rfl
  · exact Or.inr (Or.inl rfl)
  · exact Or.inr (Or.inr (Or.inl rfl))
  · exact Or.inr (Or.inr (Or.inr (Or.inl rfl)))
  · exact Or.inr (Or.inr (Or.inr (Or.inr rfl)))
theorem wi_34v {n : Int32} (h : ¬ wi n 30 34 = 0) : vp_in (n - 30) 5 := by
  rcases wi_34 h with rfl | rfl | rfl | rfl | rfl <;> exact vp_in_iff.mpr ⟨by decide, by decide⟩
theorem ct_m {n : Int32} {f : Nat → Int32} (h : ¬ wi n 30 34 = 0) (hf : ∀ j, j < 5 → f j = wt (nI j)) : f (n - 30).toNatClampNeg = sp_count n := by
  rcases wi_34 h with rfl | rfl | rfl | rfl | rfl
  · rw [show ((30 : Int32) - 30).toNatClampNeg = 0 from by decide, hf 0 (by decide)]; decide
  · rw [show ((31 : Int32) - 30).toNatClampNeg = 1 from by decide, hf 1 (by decide)]; decide
  · rw [show ((32 : Int32) - 30).toNatClampNeg = 2 from by decide, hf 2 (by decide)]; decide
  · rw [show ((33 : Int32) - 30).toNatClampNeg = 3 from by decide, hf 3 (by decide)]; decide
  · rw [show ((34 : Int32) - 30).toNatClampNeg = 4 from by decide, hf 4 (by decide)]; decide
theorem ct_34 {n : Int32} (h : wi n 30 34 = 0) : ¬ n = 30 ∧ ¬ n = 31 ∧ ¬ n = 32 ∧ ¬ n = 33 ∧ ¬ n = 34 :=
  ⟨fun q => by rw [q] at h; exact absurd h (by decide), fun q => by rw [q] at h; exact absurd h (by decide), fun q => by rw [q] at h; exact absurd h (by decide), fun q => by rw [q] at h; exact absurd h (by decide), fun q => by rw [q] at h; exact absurd h (by decide)⟩
set_option maxHeartbeats 4000000 in
set_option maxRecDepth 100000 in
theorem c_X11_isTown (l : Launch) (D : va_G) (cy : Nat → ClassId) (w : Wd) (n : Int32)    : Ct l D cy yX11_isTown wsX11_isTown ({ frames := 0, cells := 0, slots := 0, locals := 0 }) [.int n] w (fun v w1 => v = some (.int (wi n 0 11)) ∧ w = w1) := by
  refine Ct.by (cc := cX11_isTown) (maxL := 1) (ret := (some .boolean)) (by decide +kernel) rfl (Nat.le_of_ble_eq_true rfl) ?_
  intro p e s m args below meth c A Q F hnm K ls hl
  have F : wd_Fx p s m args meth c cX11_isTown 1 wsX11_isTown RX11 D cy A := F
  have hl : lv_has ls 1 [(0, .int n)] := hl
  have hx := F.1.1
  have hb := F.1.2.1
  have hown := F.1.2.2.2.1
  have hts := F.1.2.2.2.2
  intro H locs hP hD hS
  refine lv_iload_n hx hb dX11_isTown_0 rfl (lv_at hl 0 rfl) ?_
  refine lv_if_lt (tgt := 14) hx hb dX11_isTown_1 (by decide) (fun c_1 => ?_) (fun c_1 => ?_)
  · refine lv_iconst (v := 0) hx hb dX11_isTown_14 (by decide) ?_
    exact y_ir K hP hD hS (Nat.le_of_ble_eq_true rfl) (Nat.le_of_ble_eq_true rfl) (ty := .boolean) rfl rfl dX11_isTown_15 (⟨by simp [wi, c_1], rfl⟩)
  · refine lv_iload_n hx hb dX11_isTown_4 rfl (lv_at hl 0 rfl) ?_
    refine lv_bipush (v := 12) hx hb dX11_isTown_5 (by decide) ?_
    refine lv_icmp_ge (tgt := 14) hx hb dX11_isTown_7 (by decide) (fun c_2 => ?_) (fun c_2 => ?_)
    · refine lv_iconst (v := 0) hx hb dX11_isTown_14 (by decide) ?_
      exact y_ir K hP hD hS (Nat.le_of_ble_eq_true rfl) (Nat.le_of_ble_eq_true rfl) (ty := .boolean) rfl rfl dX11_isTown_15 (⟨by simp [wi, c_1, ge12.mp c_2], rfl⟩)
    · refine lv_iconst (v := 1) hx hb dX11_isTown_10 (by decide) ?_
      refine lv_goto (tgt := 15) hx hb dX11_isTown_11 (by decide) ?_
      exact y_ir K hP hD hS (Nat.le_of_ble_eq_true rfl) (Nat.le_of_ble_eq_true rfl) (ty := .boolean) rfl rfl dX11_isTown_15 (⟨by simp [wi, c_1, Classical.byContradiction (fun q => c_2 (ge12.mpr q))], rfl⟩)
set_option maxHeartbeats 4000000 in
set_option maxRecDepth 100000 in
theorem c_X11_clock (l : Launch) (D : va_G) (cy : Nat → ClassId) (w : Wd) (y m2 m3 m4 m5 m6 m8 m9 m10 m11 m12 m13 m14 m17 m18 m19 m20 m21 m22 m23 m24 m29 m30 m31 m32 m33 m34 m35 m36 m37 m39 m40 m41 m42 m43 m44 m45 m46 m47 m48 m49 m51 m52 m53 m54 m56 m57 m58 m59 : Nat) (n : Int32) (hy : wd_at w y (.inr (11, [.int 0, .int 0, .ref m2, .ref m3, .ref m4, .ref m5, .ref m6, .int 0, .ref m8, .ref m9, .ref m10, .ref m11, .ref m12, .ref m13, .ref m14, .int 0, .int 0, .ref m17, .ref m18, .ref m19, .ref m20, .ref m21, .ref m22, .ref m23, .ref m24, .int 0, .int 0, .int 0, .int 0, .ref m29, .ref m30, .ref m31, .ref m32, .ref m33, .ref m34, .ref m35, .ref m36, .ref m37, .int 0, .ref m39, .ref m40, .ref m41, .ref m42, .ref m43, .ref m44, .ref m45, .ref m46, .ref m47, .ref m48, .ref m49, .int 0, .ref m51, .ref m52, .ref m53, .ref m54, .int 0, .ref m56, .ref m57, .ref m58, .ref m59])))   : Ct l D cy yX11_clock wsX11_clock ({ frames := 1, cells := 0, slots := 0, locals := 22 }) [.ref y, .int n] w (fun v w1 => v = some (.int (wi n 0 3000))) := by
  refine Ct.by (cc := cX11_clock) (maxL := 2) (ret := (some .boolean)) (by decide +kernel) rfl (Nat.le_of_ble_eq_true rfl) ?_
  intro p e s m args below meth c A Q F hnm K ls hl
  have F : wd_Fx p s m args meth c cX11_clock 2 wsX11_clock RX11 D cy A := F
  have hl : lv_has ls 2 [(0, .ref y), (1, .int n)] := hl
  have hx := F.1.1
  have hb := F.1.2.1
  have hown := F.1.2.2.2.1
  have hts := F.1.2.2.2.2
  intro H locs hP hD hS
  refine lv_iload_n hx hb dX11_clock_0 rfl (lv_at hl 1 rfl) ?_
  refine lv_aload_n hx hb dX11_clock_1 rfl (lv_at hl 0 rfl) ?_
  refine x_get (ref := "NoteHouseModel") F hP hy rfl (fun _ h => List.mem_cons_of_mem _ (List.mem_append_right _ (h))) 1 (Nat.le_of_ble_eq_true rfl) (List.mem_cons_of_mem _ (List.mem_append_left _ (List.mem_of_getElem? (i := 0) rfl))) rfl rfl dX11_clock_2 ?_
  refine lv_sipush (v := 3000) hx hb dX11_clock_5 (by decide) ?_
  refine x_callS (n := 3) (As := [.int n, .int 0, .int 3000]) (rest := []) F hP hD hS (c_X11_in l D cy w n 0 3000) gX11_clock_X11_in rfl (by decide +kernel) ⟨(Nat.le_of_ble_eq_true rfl), (Nat.le_of_ble_eq_true rfl)⟩ rfl hl.1 (Nat.le_of_ble_eq_true rfl) dX11_clock_8 rfl ⟨(Nat.le_of_ble_eq_true rfl), (Nat.le_of_ble_eq_true rfl)⟩ (fun v2 w3 hp1 H locs hP hD hS => ?_)
  obtain ⟨rfl, rfl⟩ := hp1
  refine W.eq (g2 := F0 m 11 ls [.int (wi n 0 3000)]) rfl (W.widen (k := 0) (n := 0) (Nat.le_of_ble_eq_true rfl) (Nat.le_of_ble_eq_true rfl) ?_)
  refine lv_if_ne (tgt := 16) hx hb dX11_clock_11 (by decide) (fun c_1 => ?_) (fun c_1 => ?_)
  · refine lv_aload_n hx hb dX11_clock_16 rfl (lv_at hl 0 rfl) ?_
    refine lv_iload_n hx hb dX11_clock_17 rfl (lv_at hl 1 rfl) ?_
    refine y_put (ref := "NoteHouseModel") F hP hD hS hy rfl (fun _ h => List.mem_cons_of_mem _ (List.mem_append_right _ (h))) tyX11_ok nmX11 1 (Nat.le_of_ble_eq_true rfl) (List.mem_cons_of_mem _ (List.mem_append_left _ (List.mem_of_getElem? (i := 0) rfl))) rfl rfl rfl rfl (Nat.le_of_ble_eq_true rfl) dX11_clock_18 (fun w4 ew5 H locs hP hD hS => ?_)
    have k6 : wd_at w4 y (.inr (11, [.int 0, .int n, .ref m2, .ref m3, .ref m4, .ref m5, .ref m6, .int 0, .ref m8, .ref m9, .ref m10, .ref m11, .ref m12, .ref m13, .ref m14, .int 0, .int 0, .ref m17, .ref m18, .ref m19, .ref m20, .ref m21, .ref m22, .ref m23, .ref m24, .int 0, .int 0, .int 0, .int 0, .ref m29, .ref m30, .ref m31, .ref m32, .ref m33, .ref m34, .ref m35, .ref m36, .ref m37, .int 0, .ref m39, .ref m40, .ref m41, .ref m42, .ref m43, .ref m44, .ref m45, .ref m46, .ref m47, .ref m48, .ref m49, .int 0, .ref m51, .ref m52, .ref m53, .ref m54, .int 0, .ref m56, .ref m57, .ref m58, .ref m59])) := wd_at.ps ew5 hy
    refine lv_iconst (v := 1) hx hb dX11_clock_21 (by decide) ?_
    exact y_ir K hP hD hS (Nat.le_of_ble_eq_true rfl) (Nat.le_of_ble_eq_true rfl) (ty := .boolean) rfl rfl dX11_clock_22 (by rw [wi_1 c_1])
  · refine lv_iconst (v := 0) hx hb dX11_clock_14 (by decide) ?_
    exact y_ir K hP hD hS (Nat.le_of_ble_eq_true rfl) (Nat.le_of_ble_eq_true rfl) (ty := .boolean) rfl rfl dX11_clock_15 (by rw [c_1])
set_option maxHeartbeats 4000000 in
set_option maxRecDepth 100000 in
theorem c_X11_way (l : Launch) (D : va_G) (cy : Nat → ClassId) (w : Wd) (y m2 m3 m4 m5 m6 m8 m9 m10 m11 m12 m13 m14 m17 m18 m19 m20 m21 m22 m23 m24 m29 m30 m31 m32 m33 m34 m35 m36 m37 m39 m40 m41 m42 m43 m44 m45 m46 m47 m48 m49 m51 m52 m53 m54 m56 m57 m58 m59 : Nat) (pr wr : Nat → Nat) (fp fw : Nat → Nat → Int32) (a b u n : Int32) (hy : wd_at w y (.inr (11, [.int 0, .int 0, .ref m2, .ref m3, .ref m4, .ref m5, .ref m6, .int 0, .ref m8, .ref m9, .ref m10, .ref m11, .ref m12, .ref m13, .ref m14, .int 0, .int 0, .ref m17, .ref m18, .ref m19, .ref m20, .ref m21, .ref m22, .ref m23, .ref m24, .int 0, .int 0, .int 0, .int 0, .ref m29, .ref m30, .ref m31, .ref m32, .ref m33, .ref m34, .ref m35, .ref m36, .ref m37, .int 0, .ref m39, .ref m40, .ref m41, .ref m42, .ref m43, .ref m44, .ref m45, .ref m46, .ref m47, .ref m48, .ref m49, .int 0, .ref m51, .ref m52, .ref m53, .ref m54, .int 0, .ref m56, .ref m57, .ref m58, .ref m59]))) (h2 : wd_at w m2 (.inl (cy 10, 12, .inr (.inr (.inr (.inr (fun i => if i < 12 then some (pr i) else none))))))) (h3 : wd_at w m3 (.inl (cy 10, 12, .inr (.inr (.inr (.inr (fun i => if i < 12 then some (wr i) else none))))))) (hpr : ∀ z9, z9 < 12 → wd_at w (pr z9) (.inl (cy 2, 12, .inl (fp z9)))) (hwr : ∀ z9, z9 < 12 → wd_at w (wr z9) (.inl (cy 2, 12, .inl (fw z9)))) (ipr : ∀ a b, a < 12 → b < 12 → pr a = pr b → a = b) (iwr : ∀ a b, a < 12 → b < 12 → wr a = wr b → a = b) : Ct l D cy yX11_way wsX11_way ({ frames := 1, cells := 0, slots := 0, locals := 22 }) [.ref y, .int a, .int b, .int u, .int n] w (fun v w1 => v = some (.int (sp_way a b n))) := by
  refine Ct.by (cc := cX11_way) (maxL := 6) (ret := (some .boolean)) (by decide +kernel) rfl (Nat.le_of_ble_eq_true rfl) ?_
  intro p e s m args below meth c A Q F hnm K ls hl
  have F : wd_Fx p s m args meth c cX11_way 6 wsX11_way RX11 D cy A := F
  have hl : lv_has ls 6 [(0, .ref y), (1, .int a), (2, .int b), (3, .int u), (4, .int n)] := hl
  have hx := F.1.1
  have hb := F.1.2.1
  have hown := F.1.2.2.2.1
  have hts := F.1.2.2.2.2
  intro H locs hP hD hS
  refine lv_iload_n hx hb dX11_way_0 rfl (lv_at hl 1 rfl) ?_
  refine x_callS (n := 1) (As := [.int a]) (rest := []) F hP hD hS (c_X11_isTown l D cy w a) gX11_way_X11_isTown rfl (by decide +kernel) ⟨(Nat.le_of_ble_eq_true rfl), (Nat.le_of_ble_eq_true rfl)⟩ rfl hl.1 (Nat.le_of_ble_eq_true rfl) dX11_way_1 rfl ⟨(Nat.le_of_ble_eq_true rfl), (Nat.le_of_ble_eq_true rfl)⟩ (fun v2 w3 hp1 H locs hP hD hS => ?_)
  obtain ⟨rfl, rfl⟩ := hp1
  refine W.eq (g2 := F0 m 4 ls [.int (wi a 0 11)]) rfl (W.widen (k := 0) (n := 0) (Nat.le_of_ble_eq_true rfl) (Nat.le_of_ble_eq_true rfl) ?_)
  refine lv_if_eq (tgt := 30) hx hb dX11_way_4 (by decide) (fun c_1 => ?_) (fun c_1 => ?_)
  · refine lv_iconst (v := 0) hx hb dX11_way_30 (by decide) ?_
    exact y_ir K hP hD hS (Nat.le_of_ble_eq_true rfl) (Nat.le_of_ble_eq_true rfl) (ty := .boolean) rfl rfl dX11_way_31 (by simp [sp_way, c_1])
  · refine lv_iload_n hx hb dX11_way_7 rfl (lv_at hl 2 rfl) ?_
    refine x_callS (n := 1) (As := [.int b]) (rest := []) F hP hD hS (c_X11_isTown l D cy w b) gX11_way_X11_isTown rfl (by decide +kernel) ⟨(Nat.le_of_ble_eq_true rfl), (Nat.le_of_ble_eq_true rfl)⟩ rfl hl.1 (Nat.le_of_ble_eq_true rfl) dX11_way_8 rfl ⟨(Nat.le_of_ble_eq_true rfl), (Nat.le_of_ble_eq_true rfl)⟩ (fun v5 w6 hp4 H locs hP hD hS => ?_)
    obtain ⟨rfl, rfl⟩ := hp4
    refine W.eq (g2 := F0 m 11 ls [.int (wi b 0 11)]) rfl (W.widen (k := 0) (n := 0) (Nat.le_of_ble_eq_true rfl) (Nat.le_of_ble_eq_true rfl) ?_)
    refine lv_if_eq (tgt := 30) hx hb dX11_way_11 (by decide) (fun c_2 => ?_) (fun c_2 => ?_)
    · refine lv_iconst (v := 0) hx hb dX11_way_30 (by decide) ?_
      exact y_ir K hP hD hS (Nat.le_of_ble_eq_true rfl) (Nat.le_of_ble_eq_true rfl) (ty := .boolean) rfl rfl dX11_way_31 (by simp [sp_way, c_1, c_2])
    · refine lv_iload_n hx hb dX11_way_14 rfl (lv_at hl 1 rfl) ?_
      refine lv_iload_n hx hb dX11_way_15 rfl (lv_at hl 2 rfl) ?_
      refine lv_icmp_eq (tgt := 30) hx hb dX11_way_16 (by decide) (fun c_7 => ?_) (fun c_7 => ?_)
      · refine lv_iconst (v := 0) hx hb dX11_way_30 (by decide) ?_
        exact y_ir K hP hD hS (Nat.le_of_ble_eq_true rfl) (Nat.le_of_ble_eq_true rfl) (ty := .boolean) rfl rfl dX11_way_31 (by simp [sp_way, c_1, c_2, c_7])
      · refine lv_iload hx hb dX11_way_19 (lv_at hl 4 rfl) ?_
        refine lv_iconst (v := 0) hx hb dX11_way_21 (by decide) ?_
        refine lv_bipush (v := 99) hx hb dX11_way_22 (by decide) ?_
        refine x_callS (n := 3) (As := [.int n, .int 0, .int 99]) (rest := []) F hP hD hS (c_X11_in l D cy w n 0 99) gX11_way_X11_in rfl (by decide +kernel) ⟨(Nat.le_of_ble_eq_true rfl), (Nat.le_of_ble_eq_true rfl)⟩ rfl hl.1 (Nat.le_of_ble_eq_true rfl) dX11_way_24 rfl ⟨(Nat.le_of_ble_eq_true rfl), (Nat.le_of_ble_eq_true rfl)⟩ (fun v9 w10 hp8 H locs hP hD hS => ?_)
        obtain ⟨rfl, rfl⟩ := hp8
        refine W.eq (g2 := F0 m 27 ls [.int (wi n 0 99)]) rfl (W.widen (k := 0) (n := 0) (Nat.le_of_ble_eq_true rfl) (Nat.le_of_ble_eq_true rfl) ?_)
        refine lv_if_ne (tgt := 32) hx hb dX11_way_27 (by decide) (fun c_11 => ?_) (fun c_11 => ?_)
        · obtain ⟨ia, hia, -, hca⟩ := wi_t c_1
          obtain ⟨ib, hib, -, hcb⟩ := wi_t c_2
          refine lv_iload_n hx hb dX11_way_32 rfl (lv_at hl 3 rfl) ?_
          refine lv_if_eq (tgt := 43) hx hb dX11_way_33 (by decide) (fun c_12 => ?_) (fun c_12 => ?_)
          · refine lv_aload_n hx hb dX11_way_43 rfl (lv_at hl 0 rfl) ?_
            refine x_get (ref := "NoteHouseModel") F hP hy rfl (fun _ h => List.mem_cons_of_mem _ (List.mem_append_right _ (h))) 2 (Nat.le_of_ble_eq_true rfl) (List.mem_cons_of_mem _ (List.mem_append_left _ (List.mem_of_getElem? (i := 1) rfl))) rfl rfl dX11_way_44 ?_
            refine lv_astore (lv' := [(5, .ref m2), (0, .ref y), (1, .int a), (2, .int b), (3, .int u), (4, .int n)]) hx hb dX11_way_47 hl (by decide) rfl (fun ls hl => ?_)
            refine lv_aload hx hb dX11_way_49 (lv_at hl 0 rfl) ?_
            refine lv_iload_n hx hb dX11_way_51 rfl (lv_at hl 2 rfl) ?_
            refine x_aaldA F hP h2 (wi_v c_1) dX11_way_52 ?_
            rw [hca, if_pos hia]
            refine W.eq (g2 := F0 m _ ls [.ref (pr ia)]) rfl ?_
            have k13 := hpr ia hia
            refine lv_iload_n hx hb dX11_way_53 rfl (lv_at hl 3 rfl) ?_
            refine lv_iload hx hb dX11_way_54 (lv_at hl 5 rfl) ?_
            refine y_iast F hP hD hS k13 (wi_v c_2) dX11_way_56 (fun w14 ew15 H locs hP hD hS => ?_)
            have k16 := wd_at.pt ew15 hy (wd_nk hy k13 rfl)
            have k17 := wd_at.pt ew15 h2 (wd_nk h2 k13 rfl)
            have k18 := wd_at.pt ew15 h3 (wd_nk h3 k13 rfl)
            have k19 : wd_at w14 (pr ia) (.inl (cy 2, 12, .inl (upd (fp ia) b.toNatClampNeg n))) := wd_at.ps ew15 k13
            have fm20 : ∀ z9, z9 < 12 → wd_at w14 (pr z9) (.inl (cy 2, 12, .inl ((va_up fp ia (upd (fp ia) b.toNatClampNeg n)) z9))) := fm_row ew15 hia ipr hpr
            refine lv_aload hx hb dX11_way_57 (lv_at hl 0 rfl) ?_
            refine lv_iload_n hx hb dX11_way_59 rfl (lv_at hl 3 rfl) ?_
            refine x_aaldA F hP k17 (wi_v c_2) dX11_way_60 ?_
            rw [hcb, if_pos hib]
            refine W.eq (g2 := F0 m _ ls [.ref (pr ib)]) rfl ?_
            have k21 := fm20 ib hib
            refine lv_iload_n hx hb dX11_way_61 rfl (lv_at hl 2 rfl) ?_
            refine lv_iload hx hb dX11_way_62 (lv_at hl 5 rfl) ?_
            refine y_iast F hP hD hS k21 (wi_v c_1) dX11_way_64 (fun w22 ew23 H locs hP hD hS => ?_)
            have k24 := wd_at.pt ew23 k16 (wd_nk k16 k21 rfl)
            have k25 := wd_at.pt ew23 k17 (wd_nk k17 k21 rfl)
            have k26 := wd_at.pt ew23 k18 (wd_nk k18 k21 rfl)
            have k27 : wd_at w22 (pr ib) (.inl (cy 2, 12, .inl (upd ((va_up fp ia (upd (fp ia) b.toNatClampNeg n)) ib) a.toNatClampNeg n))) := wd_at.ps ew23 k21
            have fm28 : ∀ z9, z9 < 12 → wd_at w22 (pr z9) (.inl (cy 2, 12, .inl ((va_up (va_up fp ia (upd (fp ia) b.toNatClampNeg n)) ib (upd ((va_up fp ia (upd (fp ia) b.toNatClampNeg n)) ib) a.toNatClampNeg n)) z9))) := fm_row ew23 hib ipr fm20
            refine lv_iconst (v := 1) hx hb dX11_way_65 (by decide) ?_
            exact y_ir K hP hD hS (Nat.le_of_ble_eq_true rfl) (Nat.le_of_ble_eq_true rfl) (ty := .boolean) rfl rfl dX11_way_66 (by simp [sp_way, c_1, c_2, c_7, c_11, c_12])
          · refine lv_aload_n hx hb dX11_way_36 rfl (lv_at hl 0 rfl) ?_
            refine x_get (ref := "NoteHouseModel") F hP hy rfl (fun _ h => List.mem_cons_of_mem _ (List.mem_append_right _ (h))) 3 (Nat.le_of_ble_eq_true rfl) (List.mem_cons_of_mem _ (List.mem_append_left _ (List.mem_of_getElem? (i := 0) rfl))) rfl rfl dX11_way_37 ?_
            refine lv_goto (tgt := 47) hx hb dX11_way_40 (by decide) ?_
            refine lv_astore (lv' := [(5, .ref m3), (0, .ref y), (1, .int a), (2, .int b), (3, .int u), (4, .int n)]) hx hb dX11_way_47 hl (by decide) rfl (fun ls hl => ?_)
            refine lv_aload hx hb dX11_way_49 (lv_at hl 0 rfl) ?_
            refine lv_iload_n hx hb dX11_way_51 rfl (lv_at hl 2 rfl) ?_
            refine x_aaldA F hP h3 (wi_v c_1) dX11_way_52 ?_
            rw [hca, if_pos hia]
            refine W.eq (g2 := F0 m _ ls [.ref (wr ia)]) rfl ?_
            have k29 := hwr ia hia
            refine lv_iload_n hx hb dX11_way_53 rfl (lv_at hl 3 rfl) ?_
            refine lv_iload hx hb dX11_way_54 (lv_at hl 5 rfl) ?_
            refine y_iast F hP hD hS k29 (wi_v c_2) dX11_way_56 (fun w30 ew31 H locs hP hD hS => ?_)
            have k32 := wd_at.pt ew31 hy (wd_nk hy k29 rfl)
            have k33 := wd_at.pt ew31 h2 (wd_nk h2 k29 rfl)
            have k34 := wd_at.pt ew31 h3 (wd_nk h3 k29 rfl)
            have k35 : wd_at w30 (wr ia) (.inl (cy 2, 12, .inl (upd (fw ia) b.toNatClampNeg n))) := wd_at.ps ew31 k29
            have fm36 : ∀ z9, z9 < 12 → wd_at w30 (wr z9) (.inl (cy 2, 12, .inl ((va_up fw ia (upd (fw ia) b.toNatClampNeg n)) z9))) := fm_row ew31 hia iwr hwr
            refine lv_aload hx hb dX11_way_57 (lv_at hl 0 rfl) ?_
            refine lv_iload_n hx hb dX11_way_59 rfl (lv_at hl 3 rfl) ?_
            refine x_aaldA F hP k34 (wi_v c_2) dX11_way_60 ?_
            rw [hcb, if_pos hib]
            refine W.eq (g2 := F0 m _ ls [.ref (wr ib)]) rfl ?_
            have k37 := fm36 ib hib
            refine lv_iload_n hx hb dX11_way_61 rfl (lv_at hl 2 rfl) ?_
            refine lv_iload hx hb dX11_way_62 (lv_at hl 5 rfl) ?_
            refine y_iast F hP hD hS k37 (wi_v c_1) dX11_way_64 (fun w38 ew39 H locs hP hD hS => ?_)
            have k40 := wd_at.pt ew39 k32 (wd_nk k32 k37 rfl)
            have k41 := wd_at.pt ew39 k33 (wd_nk k33 k37 rfl)
            have k42 := wd_at.pt ew39 k34 (wd_nk k34 k37 rfl)
            have k43 : wd_at w38 (wr ib) (.inl (cy 2, 12, .inl (upd ((va_up fw ia (upd (fw ia) b.toNatClampNeg n)) ib) a.toNatClampNeg n))) := wd_at.ps ew39 k37
            have fm44 : ∀ z9, z9 < 12 → wd_at w38 (wr z9) (.inl (cy 2, 12, .inl ((va_up (va_up fw ia (upd (fw ia) b.toNatClampNeg n)) ib (upd ((va_up fw ia (upd (fw ia) b.toNatClampNeg n)) ib) a.toNatClampNeg n)) z9))) := fm_row ew39 hib iwr fm36
            refine lv_iconst (v := 1) hx hb dX11_way_65 (by decide) ?_
            exact y_ir K hP hD hS (Nat.le_of_ble_eq_true rfl) (Nat.le_of_ble_eq_true rfl) (ty := .boolean) rfl rfl dX11_way_66 (by simp [sp_way, c_1, c_2, c_7, c_11, c_12])
        · refine lv_iconst (v := 0) hx hb dX11_way_30 (by decide) ?_
          exact y_ir K hP hD hS (Nat.le_of_ble_eq_true rfl) (Nat.le_of_ble_eq_true rfl) (ty := .boolean) rfl rfl dX11_way_31 (by simp [sp_way, c_1, c_2, c_7, c_11])
set_option maxHeartbeats 4000000 in
set_option maxRecDepth 100000 in
theorem c_X11_rate (l : Launch) (D : va_G) (cy : Nat → ClassId) (w : Wd) (y m2 m3 m4 m5 m6 m8 m9 m10 m11 m12 m13 m14 m17 m18 m19 m20 m21 m22 m23 m24 m29 m30 m31 m32 m33 m34 m35 m36 m37 m39 m40 m41 m42 m43 m44 m45 m46 m47 m48 m49 m51 m52 m53 m54 m56 m57 m58 m59 : Nat) (f g : Nat → Int32) (t co r : Int32) (hy : wd_at w y (.inr (11, [.int 0, .int 0, .ref m2, .ref m3, .ref m4, .ref m5, .ref m6, .int 0, .ref m8, .ref m9, .ref m10, .ref m11, .ref m12, .ref m13, .ref m14, .int 0, .int 0, .ref m17, .ref m18, .ref m19, .ref m20, .ref m21, .ref m22, .ref m23, .ref m24, .int 0, .int 0, .int 0, .int 0, .ref m29, .ref m30, .ref m31, .ref m32, .ref m33, .ref m34, .ref m35, .ref m36, .ref m37, .int 0, .ref m39, .ref m40, .ref m41, .ref m42, .ref m43, .ref m44, .ref m45, .ref m46, .ref m47, .ref m48, .ref m49, .int 0, .ref m51, .ref m52, .ref m53, .ref m54, .int 0, .ref m56, .ref m57, .ref m58, .ref m59]))) (h4 : wd_at w m4 (.inl (cy 2, 12, .inl f))) (h5 : wd_at w m5 (.inl (cy 2, 12, .inl g)))  (n45 : m4 ≠ m5) : Ct l D cy yX11_rate wsX11_rate ({ frames := 1, cells := 0, slots := 0, locals := 22 }) [.ref y, .int t, .int co, .int r] w (fun v w1 => v = some (.int (sp_rate t co r))) := by
  refine Ct.by (cc := cX11_rate) (maxL := 4) (ret := (some .boolean)) (by decide +kernel) rfl (Nat.le_of_ble_eq_true rfl) ?_
  intro p e s m args below meth c A Q F hnm K ls hl
  have F : wd_Fx p s m args meth c cX11_rate 4 wsX11_rate RX11 D cy A := F
  have hl : lv_has ls 4 [(0, .ref y), (1, .int t), (2, .int co), (3, .int r)] := hl
  have hx := F.1.1
  have hb := F.1.2.1
  have hown := F.1.2.2.2.1
  have hts := F.1.2.2.2.2
  intro H locs hP hD hS
  refine lv_iload_n hx hb dX11_rate_0 rfl (lv_at hl 1 rfl) ?_
  refine x_callS (n := 1) (As := [.int t]) (rest := []) F hP hD hS (c_X11_isTown l D cy w t) gX11_rate_X11_isTown rfl (by decide +kernel) ⟨(Nat.le_of_ble_eq_true rfl), (Nat.le_of_ble_eq_true rfl)⟩ rfl hl.1 (Nat.le_of_ble_eq_true rfl) dX11_rate_1 rfl ⟨(Nat.le_of_ble_eq_true rfl), (Nat.le_of_ble_eq_true rfl)⟩ (fun v2 w3 hp1 H locs hP hD hS => ?_)
  obtain ⟨rfl, rfl⟩ := hp1
  refine W.eq (g2 := F0 m 4 ls [.int (wi t 0 11)]) rfl (W.widen (k := 0) (n := 0) (Nat.le_of_ble_eq_true rfl) (Nat.le_of_ble_eq_true rfl) ?_)
  refine lv_if_eq (tgt := 26) hx hb dX11_rate_4 (by decide) (fun c_1 => ?_) (fun c_1 => ?_)
  · refine lv_iconst (v := 0) hx hb dX11_rate_26 (by decide) ?_
    exact y_ir K hP hD hS (Nat.le_of_ble_eq_true rfl) (Nat.le_of_ble_eq_true rfl) (ty := .boolean) rfl rfl dX11_rate_27 (by simp [sp_rate, c_1])
  · refine lv_iload_n hx hb dX11_rate_7 rfl (lv_at hl 2 rfl) ?_
    refine lv_iconst (v := 0) hx hb dX11_rate_8 (by decide) ?_
    refine lv_iconst (v := 3) hx hb dX11_rate_9 (by decide) ?_
    refine x_callS (n := 3) (As := [.int co, .int 0, .int 3]) (rest := []) F hP hD hS (c_X11_in l D cy w co 0 3) gX11_rate_X11_in rfl (by decide +kernel) ⟨(Nat.le_of_ble_eq_true rfl), (Nat.le_of_ble_eq_true rfl)⟩ rfl hl.1 (Nat.le_of_ble_eq_true rfl) dX11_rate_10 rfl ⟨(Nat.le_of_ble_eq_true rfl), (Nat.le_of_ble_eq_true rfl)⟩ (fun v5 w6 hp4 H locs hP hD hS => ?_)
    obtain ⟨rfl, rfl⟩ := hp4
    refine W.eq (g2 := F0 m 13 ls [.int (wi co 0 3)]) rfl (W.widen (k := 0) (n := 0) (Nat.le_of_ble_eq_true rfl) (Nat.le_of_ble_eq_true rfl) ?_)
    refine lv_if_eq (tgt := 26) hx hb dX11_rate_13 (by decide) (fun c_7 => ?_) (fun c_7 => ?_)
    · refine lv_iconst (v := 0) hx hb dX11_rate_26 (by decide) ?_
      exact y_ir K hP hD hS (Nat.le_of_ble_eq_true rfl) (Nat.le_of_ble_eq_true rfl) (ty := .boolean) rfl rfl dX11_rate_27 (by simp [sp_rate, c_1, c_7])
    · refine lv_iload_n hx hb dX11_rate_16 rfl (lv_at hl 3 rfl) ?_
      refine lv_iconst (v := 1) hx hb dX11_rate_17 (by decide) ?_
      refine lv_ldc (v := 100000) hx hb hown (hts _ (List.mem_cons_of_mem _ (List.mem_append_left _ (List.mem_of_getElem? (i := 0) rfl)))) dX11_rate_18 ?_
      refine x_callS (n := 3) (As := [.int r, .int 1, .int 100000]) (rest := []) F hP hD hS (c_X11_in l D cy w r 1 100000) gX11_rate_X11_in rfl (by decide +kernel) ⟨(Nat.le_of_ble_eq_true rfl), (Nat.le_of_ble_eq_true rfl)⟩ rfl hl.1 (Nat.le_of_ble_eq_true rfl) dX11_rate_20 rfl ⟨(Nat.le_of_ble_eq_true rfl), (Nat.le_of_ble_eq_true rfl)⟩ (fun v9 w10 hp8 H locs hP hD hS => ?_)
      obtain ⟨rfl, rfl⟩ := hp8
      refine W.eq (g2 := F0 m 23 ls [.int (wi r 1 100000)]) rfl (W.widen (k := 0) (n := 0) (Nat.le_of_ble_eq_true rfl) (Nat.le_of_ble_eq_true rfl) ?_)
      refine lv_if_ne (tgt := 28) hx hb dX11_rate_23 (by decide) (fun c_11 => ?_) (fun c_11 => ?_)
      · refine lv_aload_n hx hb dX11_rate_28 rfl (lv_at hl 0 rfl) ?_
        refine x_get (ref := "NoteHouseModel") F hP hy rfl (fun _ h => List.mem_cons_of_mem _ (List.mem_append_right _ (h))) 4 (Nat.le_of_ble_eq_true rfl) (List.mem_cons_of_mem _ (List.mem_append_left _ (List.mem_of_getElem? (i := 1) rfl))) rfl rfl dX11_rate_29 ?_
        refine lv_iload_n hx hb dX11_rate_32 rfl (lv_at hl 1 rfl) ?_
        refine lv_iload_n hx hb dX11_rate_33 rfl (lv_at hl 2 rfl) ?_
        refine y_iast F hP hD hS h4 (wi_v c_1) dX11_rate_34 (fun w12 ew13 H locs hP hD hS => ?_)
        have k14 := wd_at.pt ew13 hy (wd_nk hy h4 rfl)
        have k15 : wd_at w12 m4 (.inl (cy 2, 12, .inl (upd f t.toNatClampNeg co))) := wd_at.ps ew13 h4
        have k16 := wd_at.pt ew13 h5 (Ne.symm n45)
        refine lv_aload_n hx hb dX11_rate_35 rfl (lv_at hl 0 rfl) ?_
        refine x_get (ref := "NoteHouseModel") F hP k14 rfl (fun _ h => List.mem_cons_of_mem _ (List.mem_append_right _ (h))) 5 (Nat.le_of_ble_eq_true rfl) (List.mem_cons_of_mem _ (List.mem_append_left _ (List.mem_of_getElem? (i := 2) rfl))) rfl rfl dX11_rate_36 ?_
        refine lv_iload_n hx hb dX11_rate_39 rfl (lv_at hl 1 rfl) ?_
        refine lv_iload_n hx hb dX11_rate_40 rfl (lv_at hl 3 rfl) ?_
        refine y_iast F hP hD hS k16 (wi_v c_1) dX11_rate_41 (fun w17 ew18 H locs hP hD hS => ?_)
        have k19 := wd_at.pt ew18 k14 (wd_nk k14 k16 rfl)
        have k20 := wd_at.pt ew18 k15 n45
        have k21 : wd_at w17 m5 (.inl (cy 2, 12, .inl (upd g t.toNatClampNeg r))) := wd_at.ps ew18 k16
        refine lv_iconst (v := 1) hx hb dX11_rate_42 (by decide) ?_
        exact y_ir K hP hD hS (Nat.le_of_ble_eq_true rfl) (Nat.le_of_ble_eq_true rfl) (ty := .boolean) rfl rfl dX11_rate_43 (by simp [sp_rate, c_1, c_7, c_11])
      · refine lv_iconst (v := 0) hx hb dX11_rate_26 (by decide) ?_
        exact y_ir K hP hD hS (Nat.le_of_ble_eq_true rfl) (Nat.le_of_ble_eq_true rfl) (ty := .boolean) rfl rfl dX11_rate_27 (by simp [sp_rate, c_1, c_7, c_11])
set_option maxHeartbeats 4000000 in
set_option maxRecDepth 100000 in
theorem c_X11_makes (l : Launch) (D : va_G) (cy : Nat → ClassId) (w : Wd) (y m2 m3 m4 m5 m6 m8 m9 m10 m11 m12 m13 m14 m17 m18 m19 m20 m21 m22 m23 m24 m29 m30 m31 m32 m33 m34 m35 m36 m37 m39 m40 m41 m42 m43 m44 m45 m46 m47 m48 m49 m51 m52 m53 m54 m56 m57 m58 m59 : Nat) (f8 f9 f10 f11 f12 : Nat → Int32) (n u h g : Int32) (hy : wd_at w y (.inr (11, [.int 0, .int 0, .ref m2, .ref m3, .ref m4, .ref m5, .ref m6, .int 0, .ref m8, .ref m9, .ref m10, .ref m11, .ref m12, .ref m13, .ref m14, .int 0, .int 0, .ref m17, .ref m18, .ref m19, .ref m20, .ref m21, .ref m22, .ref m23, .ref m24, .int 0, .int 0, .int 0, .int 0, .ref m29, .ref m30, .ref m31, .ref m32, .ref m33, .ref m34, .ref m35, .ref m36, .ref m37, .int 0, .ref m39, .ref m40, .ref m41, .ref m42, .ref m43, .ref m44, .ref m45, .ref m46, .ref m47, .ref m48, .ref m49, .int 0, .ref m51, .ref m52, .ref m53, .ref m54, .int 0, .ref m56, .ref m57, .ref m58, .ref m59]))) (h8 : wd_at w m8 (.inl (cy 2, 30, .inl f8))) (h9 : wd_at w m9 (.inl (cy 2, 30, .inl f9))) (h10 : wd_at w m10 (.inl (cy 2, 30, .inl f10))) (h11 : wd_at w m11 (.inl (cy 2, 30, .inl f11))) (h12 : wd_at w m12 (.inl (cy 2, 30, .inl f12)))  (n8x9 : m8 ≠ m9) (n8x10 : m8 ≠ m10) (n8x11 : m8 ≠ m11) (n8x12 : m8 ≠ m12) (n9x10 : m9 ≠ m10) (n9x11 : m9 ≠ m11) (n9x12 : m9 ≠ m12) (n10x11 : m10 ≠ m11) (n10x12 : m10 ≠ m12) (n11x12 : m11 ≠ m12) : Ct l D cy yX11_makes wsX11_makes ({ frames := 0, cells := 0, slots := 0, locals := 0 }) [.ref y, .int n, .int u, .int h, .int g] w (fun v w1 => v = some (.int 0)) := by
  refine Ct.by (cc := cX11_makes) (maxL := 5) (ret := (some .int)) (by decide +kernel) rfl (Nat.le_of_ble_eq_true rfl) ?_
  intro p e s m args below meth c A Q F hnm K ls hl
  have F : wd_Fx p s m args meth c cX11_makes 5 wsX11_makes RX11 D cy A := F
  have hl : lv_has ls 5 [(0, .ref y), (1, .int n), (2, .int u), (3, .int h), (4, .int g)] := hl
  have hx := F.1.1
  have hb := F.1.2.1
  have hown := F.1.2.2.2.1
  have hts := F.1.2.2.2.2
  intro H locs hP hD hS
  refine lv_aload_n hx hb dX11_makes_0 rfl (lv_at hl 0 rfl) ?_
  refine x_get (ref := "NoteHouseModel") F hP hy rfl (fun _ h => List.mem_cons_of_mem _ (List.mem_append_right _ (h))) 8 (Nat.le_of_ble_eq_true rfl) (List.mem_cons_of_mem _ (List.mem_append_left _ (List.mem_of_getElem? (i := 0) rfl))) rfl rfl dX11_makes_1 ?_
  refine lv_aload_n hx hb dX11_makes_4 rfl (lv_at hl 0 rfl) ?_
  refine x_get (ref := "NoteHouseModel") F hP hy rfl (fun _ h => List.mem_cons_of_mem _ (List.mem_append_right _ (h))) 7 (Nat.le_of_ble_eq_true rfl) (List.mem_cons_of_mem _ (List.mem_append_left _ (List.mem_of_getElem? (i := 1) rfl))) rfl rfl dX11_makes_5 ?_
  refine lv_iload_n hx hb dX11_makes_8 rfl (lv_at hl 1 rfl) ?_
  refine y_iast F hP hD hS h8 (vp_in_iff.mpr ⟨by decide, by decide⟩) dX11_makes_9 (fun w1 ew2 H locs hP hD hS => ?_)
  have k3 := wd_at.pt ew2 hy (wd_nk hy h8 rfl)
  have k4 : wd_at w1 m8 (.inl (cy 2, 30, .inl (upd f8 (0 : Int32).toNatClampNeg n))) := wd_at.ps ew2 h8
  have k5 := wd_at.pt ew2 h9 (Ne.symm n8x9)
  have k6 := wd_at.pt ew2 h10 (Ne.symm n8x10)
  have k7 := wd_at.pt ew2 h11 (Ne.symm n8x11)
  have k8 := wd_at.pt ew2 h12 (Ne.symm n8x12)
  refine lv_aload_n hx hb dX11_makes_10 rfl (lv_at hl 0 rfl) ?_
  refine x_get (ref := "NoteHouseModel") F hP k3 rfl (fun _ h => List.mem_cons_of_mem _ (List.mem_append_right _ (h))) 9 (Nat.le_of_ble_eq_true rfl) (List.mem_cons_of_mem _ (List.mem_append_left _ (List.mem_of_getElem? (i := 2) rfl))) rfl rfl dX11_makes_11 ?_
  refine lv_aload_n hx hb dX11_makes_14 rfl (lv_at hl 0 rfl) ?_
  refine x_get (ref := "NoteHouseModel") F hP k3 rfl (fun _ h => List.mem_cons_of_mem _ (List.mem_append_right _ (h))) 7 (Nat.le_of_ble_eq_true rfl) (List.mem_cons_of_mem _ (List.mem_append_left _ (List.mem_of_getElem? (i := 1) rfl))) rfl rfl dX11_makes_15 ?_
  refine lv_iload_n hx hb dX11_makes_18 rfl (lv_at hl 2 rfl) ?_
  refine y_iast F hP hD hS k5 (vp_in_iff.mpr ⟨by decide, by decide⟩) dX11_makes_19 (fun w9 ew10 H locs hP hD hS => ?_)
  have k11 := wd_at.pt ew10 k3 (wd_nk k3 k5 rfl)
  have k12 := wd_at.pt ew10 k4 n8x9
  have k13 : wd_at w9 m9 (.inl (cy 2, 30, .inl (upd f9 (0 : Int32).toNatClampNeg u))) := wd_at.ps ew10 k5
  have k14 := wd_at.pt ew10 k6 (Ne.symm n9x10)
  have k15 := wd_at.pt ew10 k7 (Ne.symm n9x11)
  have k16 := wd_at.pt ew10 k8 (Ne.symm n9x12)
  refine lv_aload_n hx hb dX11_makes_20 rfl (lv_at hl 0 rfl) ?_
  refine x_get (ref := "NoteHouseModel") F hP k11 rfl (fun _ h => List.mem_cons_of_mem _ (List.mem_append_right _ (h))) 10 (Nat.le_of_ble_eq_true rfl) (List.mem_cons_of_mem _ (List.mem_append_left _ (List.mem_of_getElem? (i := 3) rfl))) rfl rfl dX11_makes_21 ?_
  refine lv_aload_n hx hb dX11_makes_24 rfl (lv_at hl 0 rfl) ?_
  refine x_get (ref := "NoteHouseModel") F hP k11 rfl (fun _ h => List.mem_cons_of_mem _ (List.mem_append_right _ (h))) 7 (Nat.le_of_ble_eq_true rfl) (List.mem_cons_of_mem _ (List.mem_append_left _ (List.mem_of_getElem? (i := 1) rfl))) rfl rfl dX11_makes_25 ?_
  refine lv_iload_n hx hb dX11_makes_28 rfl (lv_at hl 3 rfl) ?_
  refine y_iast F hP hD hS k14 (vp_in_iff.mpr ⟨by decide, by decide⟩) dX11_makes_29 (fun w17 ew18 H locs hP hD hS => ?_)
  have k19 := wd_at.pt ew18 k11 (wd_nk k11 k14 rfl)
  have k20 := wd_at.pt ew18 k12 n8x10
  have k21 := wd_at.pt ew18 k13 n9x10
  have k22 : wd_at w17 m10 (.inl (cy 2, 30, .inl (upd f10 (0 : Int32).toNatClampNeg h))) := wd_at.ps ew18 k14
  have k23 := wd_at.pt ew18 k15 (Ne.symm n10x11)
  have k24 := wd_at.pt ew18 k16 (Ne.symm n10x12)
  refine lv_aload_n hx hb dX11_makes_30 rfl (lv_at hl 0 rfl) ?_
  refine x_get (ref := "NoteHouseModel") F hP k19 rfl (fun _ h => List.mem_cons_of_mem _ (List.mem_append_right _ (h))) 11 (Nat.le_of_ble_eq_true rfl) (List.mem_cons_of_mem _ (List.mem_append_left _ (List.mem_of_getElem? (i := 4) rfl))) rfl rfl dX11_makes_31 ?_
  refine lv_aload_n hx hb dX11_makes_34 rfl (lv_at hl 0 rfl) ?_
  refine x_get (ref := "NoteHouseModel") F hP k19 rfl (fun _ h => List.mem_cons_of_mem _ (List.mem_append_right _ (h))) 7 (Nat.le_of_ble_eq_true rfl) (List.mem_cons_of_mem _ (List.mem_append_left _ (List.mem_of_getElem? (i := 1) rfl))) rfl rfl dX11_makes_35 ?_
  refine lv_aload_n hx hb dX11_makes_38 rfl (lv_at hl 0 rfl) ?_
  refine x_get (ref := "NoteHouseModel") F hP k19 rfl (fun _ h => List.mem_cons_of_mem _ (List.mem_append_right _ (h))) 1 (Nat.le_of_ble_eq_true rfl) (List.mem_cons_of_mem _ (List.mem_append_left _ (List.mem_of_getElem? (i := 5) rfl))) rfl rfl dX11_makes_39 ?_
  refine y_iast F hP hD hS k23 (vp_in_iff.mpr ⟨by decide, by decide⟩) dX11_makes_42 (fun w25 ew26 H locs hP hD hS => ?_)
  have k27 := wd_at.pt ew26 k19 (wd_nk k19 k23 rfl)
  have k28 := wd_at.pt ew26 k20 n8x11
  have k29 := wd_at.pt ew26 k21 n9x11
  have k30 := wd_at.pt ew26 k22 n10x11
  have k31 : wd_at w25 m11 (.inl (cy 2, 30, .inl (upd f11 (0 : Int32).toNatClampNeg 0))) := wd_at.ps ew26 k23
  have k32 := wd_at.pt ew26 k24 (Ne.symm n11x12)
  refine lv_aload_n hx hb dX11_makes_43 rfl (lv_at hl 0 rfl) ?_
  refine x_get (ref := "NoteHouseModel") F hP k27 rfl (fun _ h => List.mem_cons_of_mem _ (List.mem_append_right _ (h))) 12 (Nat.le_of_ble_eq_true rfl) (List.mem_cons_of_mem _ (List.mem_append_left _ (List.mem_of_getElem? (i := 6) rfl))) rfl rfl dX11_makes_44 ?_
  refine lv_aload_n hx hb dX11_makes_47 rfl (lv_at hl 0 rfl) ?_
  refine x_get (ref := "NoteHouseModel") F hP k27 rfl (fun _ h => List.mem_cons_of_mem _ (List.mem_append_right _ (h))) 7 (Nat.le_of_ble_eq_true rfl) (List.mem_cons_of_mem _ (List.mem_append_left _ (List.mem_of_getElem? (i := 1) rfl))) rfl rfl dX11_makes_48 ?_
  refine lv_iload hx hb dX11_makes_51 (lv_at hl 4 rfl) ?_
  refine y_iast F hP hD hS k32 (vp_in_iff.mpr ⟨by decide, by decide⟩) dX11_makes_53 (fun w33 ew34 H locs hP hD hS => ?_)
  have k35 := wd_at.pt ew34 k27 (wd_nk k27 k32 rfl)
  have k36 := wd_at.pt ew34 k28 n8x12
  have k37 := wd_at.pt ew34 k29 n9x12
  have k38 := wd_at.pt ew34 k30 n10x12
  have k39 := wd_at.pt ew34 k31 n11x12
  have k40 : wd_at w33 m12 (.inl (cy 2, 30, .inl (upd f12 (0 : Int32).toNatClampNeg g))) := wd_at.ps ew34 k32
  refine lv_aload_n hx hb dX11_makes_54 rfl (lv_at hl 0 rfl) ?_
  refine lv_dup hx hb dX11_makes_55 rfl ?_
  refine x_get (ref := "NoteHouseModel") F hP k35 rfl (fun _ h => List.mem_cons_of_mem _ (List.mem_append_right _ (h))) 7 (Nat.le_of_ble_eq_true rfl) (List.mem_cons_of_mem _ (List.mem_append_left _ (List.mem_of_getElem? (i := 1) rfl))) rfl rfl dX11_makes_56 ?_
  refine lv_iconst (v := 1) hx hb dX11_makes_59 (by decide) ?_
  refine lv_iadd hx hb dX11_makes_60 ?_
  rw [show (0 + 1 : Int32) = 1 from by decide]
  refine y_put (ref := "NoteHouseModel") F hP hD hS k35 rfl (fun _ h => List.mem_cons_of_mem _ (List.mem_append_right _ (h))) tyX11_ok nmX11 7 (Nat.le_of_ble_eq_true rfl) (List.mem_cons_of_mem _ (List.mem_append_left _ (List.mem_of_getElem? (i := 1) rfl))) rfl rfl rfl rfl (Nat.le_of_ble_eq_true rfl) dX11_makes_61 (fun w41 ew42 H locs hP hD hS => ?_)
  have k43 : wd_at w41 y (.inr (11, [.int 0, .int 0, .ref m2, .ref m3, .ref m4, .ref m5, .ref m6, .int 1, .ref m8, .ref m9, .ref m10, .ref m11, .ref m12, .ref m13, .ref m14, .int 0, .int 0, .ref m17, .ref m18, .ref m19, .ref m20, .ref m21, .ref m22, .ref m23, .ref m24, .int 0, .int 0, .int 0, .int 0, .ref m29, .ref m30, .ref m31, .ref m32, .ref m33, .ref m34, .ref m35, .ref m36, .ref m37, .int 0, .ref m39, .ref m40, .ref m41, .ref m42, .ref m43, .ref m44, .ref m45, .ref m46, .ref m47, .ref m48, .ref m49, .int 0, .ref m51, .ref m52, .ref m53, .ref m54, .int 0, .ref m56, .ref m57, .ref m58, .ref m59])) := wd_at.ps ew42 k35
  have k44 := wd_at.pt ew42 k36 (wd_nk k36 k35 rfl)
  have k45 := wd_at.pt ew42 k37 (wd_nk k37 k35 rfl)
  have k46 := wd_at.pt ew42 k38 (wd_nk k38 k35 rfl)
  have k47 := wd_at.pt ew42 k39 (wd_nk k39 k35 rfl)
  have k48 := wd_at.pt ew42 k40 (wd_nk k40 k35 rfl)
  refine lv_aload_n hx hb dX11_makes_64 rfl (lv_at hl 0 rfl) ?_
  refine x_get (ref := "NoteHouseModel") F hP k43 rfl (fun _ h => List.mem_cons_of_mem _ (List.mem_append_right _ (h))) 7 (Nat.le_of_ble_eq_true rfl) (List.mem_cons_of_mem _ (List.mem_append_left _ (List.mem_of_getElem? (i := 1) rfl))) rfl rfl dX11_makes_65 ?_
  refine lv_iconst (v := 1) hx hb dX11_makes_68 (by decide) ?_
  refine lv_isub hx hb dX11_makes_69 ?_
  rw [show (1 - 1 : Int32) = 0 from by decide]
  exact y_ir K hP hD hS (Nat.le_of_ble_eq_true rfl) (Nat.le_of_ble_eq_true rfl) (ty := .int) rfl rfl dX11_makes_70 rfl
set_option maxHeartbeats 4000000 in
set_option maxRecDepth 100000 in
theorem c_X11_book (l : Launch) (D : va_G) (cy : Nat → ClassId) (w : Wd) (y m2 m3 m4 m5 m6 m8 m9 m10 m11 m12 m13 m14 m17 m18 m19 m20 m21 m22 m23 m24 m29 m30 m31 m32 m33 m34 m35 m36 m37 m39 m40 m41 m42 m43 m44 m45 m46 m47 m48 m49 m51 m52 m53 m54 m56 m57 m58 m59 : Nat) (f8 f9 f10 f11 f12 : Nat → Int32) (n u h g : Int32) (hy : wd_at w y (.inr (11, [.int 0, .int 0, .ref m2, .ref m3, .ref m4, .ref m5, .ref m6, .int 0, .ref m8, .ref m9, .ref m10, .ref m11, .ref m12, .ref m13, .ref m14, .int 0, .int 0, .ref m17, .ref m18, .ref m19, .ref m20, .ref m21, .ref m22, .ref m23, .ref m24, .int 0, .int 0, .int 0, .int 0, .ref m29, .ref m30, .ref m31, .ref m32, .ref m33, .ref m34, .ref m35, .ref m36, .ref m37, .int 0, .ref m39, .ref m40, .ref m41, .ref m42, .ref m43, .ref m44, .ref m45, .ref m46, .ref m47, .ref m48, .ref m49, .int 0, .ref m51, .ref m52, .ref m53, .ref m54, .int 0, .ref m56, .ref m57, .ref m58, .ref m59]))) (h8 : wd_at w m8 (.inl (cy 2, 30, .inl f8))) (h9 : wd_at w m9 (.inl (cy 2, 30, .inl f9))) (h10 : wd_at w m10 (.inl (cy 2, 30, .inl f10))) (h11 : wd_at w m11 (.inl (cy 2, 30, .inl f11))) (h12 : wd_at w m12 (.inl (cy 2, 30, .inl f12)))  (n8x9 : m8 ≠ m9) (n8x10 : m8 ≠ m10) (n8x11 : m8 ≠ m11) (n8x12 : m8 ≠ m12) (n9x10 : m9 ≠ m10) (n9x11 : m9 ≠ m11) (n9x12 : m9 ≠ m12) (n10x11 : m10 ≠ m11) (n10x12 : m10 ≠ m12) (n11x12 : m11 ≠ m12) : Ct l D cy yX11_book wsX11_book ({ frames := 1, cells := 0, slots := 0, locals := 24 }) [.ref y, .int n, .int u, .int h, .int g] w (fun v w1 => v = some (.int (sp_book n u h g))) := by
  refine Ct.by (cc := cX11_book) (maxL := 6) (ret := (some .int)) (by decide +kernel) rfl (Nat.le_of_ble_eq_true rfl) ?_
  intro p e s m args below meth c A Q F hnm K ls hl
  have F : wd_Fx p s m args meth c cX11_book 6 wsX11_book RX11 D cy A := F
  have hl : lv_has ls 6 [(0, .ref y), (1, .int n), (2, .int u), (3, .int h), (4, .int g)] := hl
  have hx := F.1.1
  have hb := F.1.2.1
  have hown := F.1.2.2.2.1
  have hts := F.1.2.2.2.2
  intro H locs hP hD hS
  refine lv_aload_n hx hb dX11_book_0 rfl (lv_at hl 0 rfl) ?_
  refine x_get (ref := "NoteHouseModel") F hP hy rfl (fun _ h => List.mem_cons_of_mem _ (List.mem_append_right _ (h))) 7 (Nat.le_of_ble_eq_true rfl) (List.mem_cons_of_mem _ (List.mem_append_left _ (List.mem_of_getElem? (i := 0) rfl))) rfl rfl dX11_book_1 ?_
  refine lv_bipush (v := 30) hx hb dX11_book_4 (by decide) ?_
  refine lv_icmp_ge (tgt := 56) hx hb dX11_book_6 (by decide) (fun c_1 => absurd c_1 (show ¬ (30 : Int32) ≤ (0 : Int32) by decide)) (fun c_1 => ?_)
  refine lv_iload_n hx hb dX11_book_9 rfl (lv_at hl 1 rfl) ?_
  refine lv_iconst (v := 1) hx hb dX11_book_10 (by decide) ?_
  refine lv_bipush (v := 20) hx hb dX11_book_11 (by decide) ?_
  refine x_callS (n := 3) (As := [.int n, .int 1, .int 20]) (rest := []) F hP hD hS (c_X11_in l D cy w n 1 20) gX11_book_X11_in rfl (by decide +kernel) ⟨(Nat.le_of_ble_eq_true rfl), (Nat.le_of_ble_eq_true rfl)⟩ rfl hl.1 (Nat.le_of_ble_eq_true rfl) dX11_book_13 rfl ⟨(Nat.le_of_ble_eq_true rfl), (Nat.le_of_ble_eq_true rfl)⟩ (fun v3 w4 hp2 H locs hP hD hS => ?_)
  obtain ⟨rfl, rfl⟩ := hp2
  refine W.eq (g2 := F0 m 16 ls [.int (wi n 1 20)]) rfl (W.widen (k := 0) (n := 0) (Nat.le_of_ble_eq_true rfl) (Nat.le_of_ble_eq_true rfl) ?_)
  refine lv_if_eq (tgt := 56) hx hb dX11_book_16 (by decide) (fun c_5 => ?_) (fun c_5 => ?_)
  · refine lv_iconst (v := 0) hx hb dX11_book_56 (by decide) ?_
    refine lv_istore (lv' := [(5, .int 0), (0, .ref y), (1, .int n), (2, .int u), (3, .int h), (4, .int g)]) hx hb dX11_book_57 hl (by decide) rfl (fun ls hl => ?_)
    refine lv_iload hx hb dX11_book_59 (lv_at hl 0 rfl) ?_
    refine lv_if_eq (tgt := 76) hx hb dX11_book_61 (by decide) (fun c_6 => ?_) (fun c_6 => absurd (show (0 : Int32) = (0 : Int32) by decide) c_6)
    refine lv_iconst (v := (-1)) hx hb dX11_book_76 (by decide) ?_
    exact y_ir K hP hD hS (Nat.le_of_ble_eq_true rfl) (Nat.le_of_ble_eq_true rfl) (ty := .int) rfl rfl dX11_book_77 (by simp [sp_book, sp_add, c_5])
  · refine lv_iload_n hx hb dX11_book_19 rfl (lv_at hl 2 rfl) ?_
    refine lv_iconst (v := 1) hx hb dX11_book_20 (by decide) ?_
    refine lv_sipush (v := 10000) hx hb dX11_book_21 (by decide) ?_
    refine x_callS (n := 3) (As := [.int u, .int 1, .int 10000]) (rest := []) F hP hD hS (c_X11_in l D cy w u 1 10000) gX11_book_X11_in rfl (by decide +kernel) ⟨(Nat.le_of_ble_eq_true rfl), (Nat.le_of_ble_eq_true rfl)⟩ rfl hl.1 (Nat.le_of_ble_eq_true rfl) dX11_book_24 rfl ⟨(Nat.le_of_ble_eq_true rfl), (Nat.le_of_ble_eq_true rfl)⟩ (fun v8 w9 hp7 H locs hP hD hS => ?_)
    obtain ⟨rfl, rfl⟩ := hp7
    refine W.eq (g2 := F0 m 27 ls [.int (wi u 1 10000)]) rfl (W.widen (k := 0) (n := 0) (Nat.le_of_ble_eq_true rfl) (Nat.le_of_ble_eq_true rfl) ?_)
    refine lv_if_eq (tgt := 56) hx hb dX11_book_27 (by decide) (fun c_10 => ?_) (fun c_10 => ?_)
    · refine lv_iconst (v := 0) hx hb dX11_book_56 (by decide) ?_
      refine lv_istore (lv' := [(5, .int 0), (0, .ref y), (1, .int n), (2, .int u), (3, .int h), (4, .int g)]) hx hb dX11_book_57 hl (by decide) rfl (fun ls hl => ?_)
      refine lv_iload hx hb dX11_book_59 (lv_at hl 0 rfl) ?_
      refine lv_if_eq (tgt := 76) hx hb dX11_book_61 (by decide) (fun c_11 => ?_) (fun c_11 => absurd (show (0 : Int32) = (0 : Int32) by decide) c_11)
      refine lv_iconst (v := (-1)) hx hb dX11_book_76 (by decide) ?_
      exact y_ir K hP hD hS (Nat.le_of_ble_eq_true rfl) (Nat.le_of_ble_eq_true rfl) (ty := .int) rfl rfl dX11_book_77 (by simp [sp_book, sp_add, c_5, c_10])
    · refine lv_iload_n hx hb dX11_book_30 rfl (lv_at hl 3 rfl) ?_
      refine lv_iconst (v := 0) hx hb dX11_book_31 (by decide) ?_
      refine lv_ldc (v := 99999) hx hb hown (hts _ (List.mem_cons_of_mem _ (List.mem_append_left _ (List.mem_of_getElem? (i := 1) rfl)))) dX11_book_32 ?_
      refine x_callS (n := 3) (As := [.int h, .int 0, .int 99999]) (rest := []) F hP hD hS (c_X11_in l D cy w h 0 99999) gX11_book_X11_in rfl (by decide +kernel) ⟨(Nat.le_of_ble_eq_true rfl), (Nat.le_of_ble_eq_true rfl)⟩ rfl hl.1 (Nat.le_of_ble_eq_true rfl) dX11_book_34 rfl ⟨(Nat.le_of_ble_eq_true rfl), (Nat.le_of_ble_eq_true rfl)⟩ (fun v13 w14 hp12 H locs hP hD hS => ?_)
      obtain ⟨rfl, rfl⟩ := hp12
      refine W.eq (g2 := F0 m 37 ls [.int (wi h 0 99999)]) rfl (W.widen (k := 0) (n := 0) (Nat.le_of_ble_eq_true rfl) (Nat.le_of_ble_eq_true rfl) ?_)
      refine lv_if_eq (tgt := 56) hx hb dX11_book_37 (by decide) (fun c_15 => ?_) (fun c_15 => ?_)
      · refine lv_iconst (v := 0) hx hb dX11_book_56 (by decide) ?_
        refine lv_istore (lv' := [(5, .int 0), (0, .ref y), (1, .int n), (2, .int u), (3, .int h), (4, .int g)]) hx hb dX11_book_57 hl (by decide) rfl (fun ls hl => ?_)
        refine lv_iload hx hb dX11_book_59 (lv_at hl 0 rfl) ?_
        refine lv_if_eq (tgt := 76) hx hb dX11_book_61 (by decide) (fun c_16 => ?_) (fun c_16 => absurd (show (0 : Int32) = (0 : Int32) by decide) c_16)
        refine lv_iconst (v := (-1)) hx hb dX11_book_76 (by decide) ?_
        exact y_ir K hP hD hS (Nat.le_of_ble_eq_true rfl) (Nat.le_of_ble_eq_true rfl) (ty := .int) rfl rfl dX11_book_77 (by simp [sp_book, sp_add, c_5, c_10, c_15])
      · refine lv_iload hx hb dX11_book_40 (lv_at hl 4 rfl) ?_
        refine lv_iconst (v := 1) hx hb dX11_book_42 (by decide) ?_
        refine lv_sipush (v := 2000) hx hb dX11_book_43 (by decide) ?_
        refine x_callS (n := 3) (As := [.int g, .int 1, .int 2000]) (rest := []) F hP hD hS (c_X11_in l D cy w g 1 2000) gX11_book_X11_in rfl (by decide +kernel) ⟨(Nat.le_of_ble_eq_true rfl), (Nat.le_of_ble_eq_true rfl)⟩ rfl hl.1 (Nat.le_of_ble_eq_true rfl) dX11_book_46 rfl ⟨(Nat.le_of_ble_eq_true rfl), (Nat.le_of_ble_eq_true rfl)⟩ (fun v18 w19 hp17 H locs hP hD hS => ?_)
        obtain ⟨rfl, rfl⟩ := hp17
        refine W.eq (g2 := F0 m 49 ls [.int (wi g 1 2000)]) rfl (W.widen (k := 0) (n := 0) (Nat.le_of_ble_eq_true rfl) (Nat.le_of_ble_eq_true rfl) ?_)
        refine lv_if_eq (tgt := 56) hx hb dX11_book_49 (by decide) (fun c_20 => ?_) (fun c_20 => ?_)
        · refine lv_iconst (v := 0) hx hb dX11_book_56 (by decide) ?_
          refine lv_istore (lv' := [(5, .int 0), (0, .ref y), (1, .int n), (2, .int u), (3, .int h), (4, .int g)]) hx hb dX11_book_57 hl (by decide) rfl (fun ls hl => ?_)
          refine lv_iload hx hb dX11_book_59 (lv_at hl 0 rfl) ?_
          refine lv_if_eq (tgt := 76) hx hb dX11_book_61 (by decide) (fun c_21 => ?_) (fun c_21 => absurd (show (0 : Int32) = (0 : Int32) by decide) c_21)
          refine lv_iconst (v := (-1)) hx hb dX11_book_76 (by decide) ?_
          exact y_ir K hP hD hS (Nat.le_of_ble_eq_true rfl) (Nat.le_of_ble_eq_true rfl) (ty := .int) rfl rfl dX11_book_77 (by simp [sp_book, sp_add, c_5, c_10, c_15, c_20])
        · refine lv_iconst (v := 1) hx hb dX11_book_52 (by decide) ?_
          refine lv_goto (tgt := 57) hx hb dX11_book_53 (by decide) ?_
          refine lv_istore (lv' := [(5, .int 1), (0, .ref y), (1, .int n), (2, .int u), (3, .int h), (4, .int g)]) hx hb dX11_book_57 hl (by decide) rfl (fun ls hl => ?_)
          refine lv_iload hx hb dX11_book_59 (lv_at hl 0 rfl) ?_
          refine lv_if_eq (tgt := 76) hx hb dX11_book_61 (by decide) (fun c_22 => absurd c_22 (show ¬ (1 : Int32) = (0 : Int32) by decide)) (fun c_22 => ?_)
          refine lv_aload_n hx hb dX11_book_64 rfl (lv_at hl 1 rfl) ?_
          refine lv_iload_n hx hb dX11_book_65 rfl (lv_at hl 2 rfl) ?_
          refine lv_iload_n hx hb dX11_book_66 rfl (lv_at hl 3 rfl) ?_
          refine lv_iload_n hx hb dX11_book_67 rfl (lv_at hl 4 rfl) ?_
          refine lv_iload hx hb dX11_book_68 (lv_at hl 5 rfl) ?_
          refine x_callV (n := 4) (As := [.int n, .int u, .int h, .int g]) (rest := []) F hP hD hS (c_X11_makes l D cy w y m2 m3 m4 m5 m6 m8 m9 m10 m11 m12 m13 m14 m17 m18 m19 m20 m21 m22 m23 m24 m29 m30 m31 m32 m33 m34 m35 m36 m37 m39 m40 m41 m42 m43 m44 m45 m46 m47 m48 m49 m51 m52 m53 m54 m56 m57 m58 m59 f8 f9 f10 f11 f12 n u h g hy h8 h9 h10 h11 h12 n8x9 n8x10 n8x11 n8x12 n9x10 n9x11 n9x12 n10x11 n10x12 n11x12) gX11_book_X11_makes rfl rfl (by decide +kernel) ⟨(Nat.le_of_ble_eq_true rfl), (Nat.le_of_ble_eq_true rfl)⟩ rfl hl.1 (Nat.le_of_ble_eq_true rfl) hy rfl dX11_book_70 rfl ⟨(Nat.le_of_ble_eq_true rfl), (Nat.le_of_ble_eq_true rfl)⟩ (fun v24 w25 hp23 H locs hP hD hS => ?_)
          subst hp23
          refine W.eq (g2 := F0 m 73 ls [.int 0]) rfl (W.widen (k := 0) (n := 0) (Nat.le_of_ble_eq_true rfl) (Nat.le_of_ble_eq_true rfl) ?_)
          refine lv_goto (tgt := 77) hx hb dX11_book_73 (by decide) ?_
          exact y_ir K hP hD hS (Nat.le_of_ble_eq_true rfl) (Nat.le_of_ble_eq_true rfl) (ty := .int) rfl rfl dX11_book_77 (by simp [sp_book, sp_add, c_5, c_10, c_15, c_20])
set_option maxHeartbeats 4000000 in
set_option maxRecDepth 100000 in
theorem c_X11_credit (l : Launch) (D : va_G) (cy : Nat → ClassId) (w : Wd) (y m2 m3 m4 m5 m6 m8 m9 m10 m11 m12 m13 m14 m17 m18 m19 m20 m21 m22 m23 m24 m29 m30 m31 m32 m33 m34 m35 m36 m37 m39 m40 m41 m42 m43 m44 m45 m46 m47 m48 m49 m51 m52 m53 m54 m56 m57 m58 m59 : Nat) (f8 f9 f10 f11 f12 : Nat → Int32) (n h g : Int32) (hy : wd_at w y (.inr (11, [.int 0, .int 0, .ref m2, .ref m3, .ref m4, .ref m5, .ref m6, .int 0, .ref m8, .ref m9, .ref m10, .ref m11, .ref m12, .ref m13, .ref m14, .int 0, .int 0, .ref m17, .ref m18, .ref m19, .ref m20, .ref m21, .ref m22, .ref m23, .ref m24, .int 0, .int 0, .int 0, .int 0, .ref m29, .ref m30, .ref m31, .ref m32, .ref m33, .ref m34, .ref m35, .ref m36, .ref m37, .int 0, .ref m39, .ref m40, .ref m41, .ref m42, .ref m43, .ref m44, .ref m45, .ref m46, .ref m47, .ref m48, .ref m49, .int 0, .ref m51, .ref m52, .ref m53, .ref m54, .int 0, .ref m56, .ref m57, .ref m58, .ref m59]))) (h8 : wd_at w m8 (.inl (cy 2, 30, .inl f8))) (h9 : wd_at w m9 (.inl (cy 2, 30, .inl f9))) (h10 : wd_at w m10 (.inl (cy 2, 30, .inl f10))) (h11 : wd_at w m11 (.inl (cy 2, 30, .inl f11))) (h12 : wd_at w m12 (.inl (cy 2, 30, .inl f12)))  (n8x9 : m8 ≠ m9) (n8x10 : m8 ≠ m10) (n8x11 : m8 ≠ m11) (n8x12 : m8 ≠ m12) (n9x10 : m9 ≠ m10) (n9x11 : m9 ≠ m11) (n9x12 : m9 ≠ m12) (n10x11 : m10 ≠ m11) (n10x12 : m10 ≠ m12) (n11x12 : m11 ≠ m12) : Ct l D cy yX11_credit wsX11_credit ({ frames := 1, cells := 0, slots := 0, locals := 24 }) [.ref y, .int n, .int h, .int g] w (fun v w1 => v = some (.int (sp_credit n h g))) := by
  refine Ct.by (cc := cX11_credit) (maxL := 5) (ret := (some .int)) (by decide +kernel) rfl (Nat.le_of_ble_eq_true rfl) ?_
  intro p e s m args below meth c A Q F hnm K ls hl
  have F : wd_Fx p s m args meth c cX11_credit 5 wsX11_credit RX11 D cy A := F
  have hl : lv_has ls 5 [(0, .ref y), (1, .int n), (2, .int h), (3, .int g)] := hl
  have hx := F.1.1
  have hb := F.1.2.1
  have hown := F.1.2.2.2.1
  have hts := F.1.2.2.2.2
  intro H locs hP hD hS
  refine lv_aload_n hx hb dX11_credit_0 rfl (lv_at hl 0 rfl) ?_
  refine x_get (ref := "NoteHouseModel") F hP hy rfl (fun _ h => List.mem_cons_of_mem _ (List.mem_append_right _ (h))) 7 (Nat.le_of_ble_eq_true rfl) (List.mem_cons_of_mem _ (List.mem_append_left _ (List.mem_of_getElem? (i := 0) rfl))) rfl rfl dX11_credit_1 ?_
  refine lv_bipush (v := 30) hx hb dX11_credit_4 (by decide) ?_
  refine lv_icmp_ge (tgt := 44) hx hb dX11_credit_6 (by decide) (fun c_1 => absurd c_1 (show ¬ (30 : Int32) ≤ (0 : Int32) by decide)) (fun c_1 => ?_)
  refine lv_iload_n hx hb dX11_credit_9 rfl (lv_at hl 1 rfl) ?_
  refine lv_iconst (v := 1) hx hb dX11_credit_10 (by decide) ?_
  refine lv_ldc (v := 100000) hx hb hown (hts _ (List.mem_cons_of_mem _ (List.mem_append_left _ (List.mem_of_getElem? (i := 1) rfl)))) dX11_credit_11 ?_
  refine x_callS (n := 3) (As := [.int n, .int 1, .int 100000]) (rest := []) F hP hD hS (c_X11_in l D cy w n 1 100000) gX11_credit_X11_in rfl (by decide +kernel) ⟨(Nat.le_of_ble_eq_true rfl), (Nat.le_of_ble_eq_true rfl)⟩ rfl hl.1 (Nat.le_of_ble_eq_true rfl) dX11_credit_13 rfl ⟨(Nat.le_of_ble_eq_true rfl), (Nat.le_of_ble_eq_true rfl)⟩ (fun v3 w4 hp2 H locs hP hD hS => ?_)
  obtain ⟨rfl, rfl⟩ := hp2
  refine W.eq (g2 := F0 m 16 ls [.int (wi n 1 100000)]) rfl (W.widen (k := 0) (n := 0) (Nat.le_of_ble_eq_true rfl) (Nat.le_of_ble_eq_true rfl) ?_)
  refine lv_if_eq (tgt := 44) hx hb dX11_credit_16 (by decide) (fun c_5 => ?_) (fun c_5 => ?_)
  · refine lv_iconst (v := 0) hx hb dX11_credit_44 (by decide) ?_
    refine lv_istore (lv' := [(4, .int 0), (0, .ref y), (1, .int n), (2, .int h), (3, .int g)]) hx hb dX11_credit_45 hl (by decide) rfl (fun ls hl => ?_)
    refine lv_iload hx hb dX11_credit_47 (lv_at hl 0 rfl) ?_
    refine lv_if_eq (tgt := 63) hx hb dX11_credit_49 (by decide) (fun c_6 => ?_) (fun c_6 => absurd (show (0 : Int32) = (0 : Int32) by decide) c_6)
    refine lv_iconst (v := (-1)) hx hb dX11_credit_63 (by decide) ?_
    exact y_ir K hP hD hS (Nat.le_of_ble_eq_true rfl) (Nat.le_of_ble_eq_true rfl) (ty := .int) rfl rfl dX11_credit_64 (by simp [sp_credit, sp_add, c_5])
  · refine lv_iload_n hx hb dX11_credit_19 rfl (lv_at hl 2 rfl) ?_
    refine lv_iconst (v := 0) hx hb dX11_credit_20 (by decide) ?_
    refine lv_ldc (v := 99999) hx hb hown (hts _ (List.mem_cons_of_mem _ (List.mem_append_left _ (List.mem_of_getElem? (i := 2) rfl)))) dX11_credit_21 ?_
    refine x_callS (n := 3) (As := [.int h, .int 0, .int 99999]) (rest := []) F hP hD hS (c_X11_in l D cy w h 0 99999) gX11_credit_X11_in rfl (by decide +kernel) ⟨(Nat.le_of_ble_eq_true rfl), (Nat.le_of_ble_eq_true rfl)⟩ rfl hl.1 (Nat.le_of_ble_eq_true rfl) dX11_credit_23 rfl ⟨(Nat.le_of_ble_eq_true rfl), (Nat.le_of_ble_eq_true rfl)⟩ (fun v8 w9 hp7 H locs hP hD hS => ?_)
    obtain ⟨rfl, rfl⟩ := hp7
    refine W.eq (g2 := F0 m 26 ls [.int (wi h 0 99999)]) rfl (W.widen (k := 0) (n := 0) (Nat.le_of_ble_eq_true rfl) (Nat.le_of_ble_eq_true rfl) ?_)
    refine lv_if_eq (tgt := 44) hx hb dX11_credit_26 (by decide) (fun c_10 => ?_) (fun c_10 => ?_)
    · refine lv_iconst (v := 0) hx hb dX11_credit_44 (by decide) ?_
      refine lv_istore (lv' := [(4, .int 0), (0, .ref y), (1, .int n), (2, .int h), (3, .int g)]) hx hb dX11_credit_45 hl (by decide) rfl (fun ls hl => ?_)
      refine lv_iload hx hb dX11_credit_47 (lv_at hl 0 rfl) ?_
      refine lv_if_eq (tgt := 63) hx hb dX11_credit_49 (by decide) (fun c_11 => ?_) (fun c_11 => absurd (show (0 : Int32) = (0 : Int32) by decide) c_11)
      refine lv_iconst (v := (-1)) hx hb dX11_credit_63 (by decide) ?_
      exact y_ir K hP hD hS (Nat.le_of_ble_eq_true rfl) (Nat.le_of_ble_eq_true rfl) (ty := .int) rfl rfl dX11_credit_64 (by simp [sp_credit, sp_add, c_5, c_10])
    · refine lv_iload_n hx hb dX11_credit_29 rfl (lv_at hl 3 rfl) ?_
      refine lv_iconst (v := 1) hx hb dX11_credit_30 (by decide) ?_
      refine lv_sipush (v := 2000) hx hb dX11_credit_31 (by decide) ?_
      refine x_callS (n := 3) (As := [.int g, .int 1, .int 2000]) (rest := []) F hP hD hS (c_X11_in l D cy w g 1 2000) gX11_credit_X11_in rfl (by decide +kernel) ⟨(Nat.le_of_ble_eq_true rfl), (Nat.le_of_ble_eq_true rfl)⟩ rfl hl.1 (Nat.le_of_ble_eq_true rfl) dX11_credit_34 rfl ⟨(Nat.le_of_ble_eq_true rfl), (Nat.le_of_ble_eq_true rfl)⟩ (fun v13 w14 hp12 H locs hP hD hS => ?_)
      obtain ⟨rfl, rfl⟩ := hp12
      refine W.eq (g2 := F0 m 37 ls [.int (wi g 1 2000)]) rfl (W.widen (k := 0) (n := 0) (Nat.le_of_ble_eq_true rfl) (Nat.le_of_ble_eq_true rfl) ?_)
      refine lv_if_eq (tgt := 44) hx hb dX11_credit_37 (by decide) (fun c_15 => ?_) (fun c_15 => ?_)
      · refine lv_iconst (v := 0) hx hb dX11_credit_44 (by decide) ?_
        refine lv_istore (lv' := [(4, .int 0), (0, .ref y), (1, .int n), (2, .int h), (3, .int g)]) hx hb dX11_credit_45 hl (by decide) rfl (fun ls hl => ?_)
        refine lv_iload hx hb dX11_credit_47 (lv_at hl 0 rfl) ?_
        refine lv_if_eq (tgt := 63) hx hb dX11_credit_49 (by decide) (fun c_16 => ?_) (fun c_16 => absurd (show (0 : Int32) = (0 : Int32) by decide) c_16)
        refine lv_iconst (v := (-1)) hx hb dX11_credit_63 (by decide) ?_
        exact y_ir K hP hD hS (Nat.le_of_ble_eq_true rfl) (Nat.le_of_ble_eq_true rfl) (ty := .int) rfl rfl dX11_credit_64 (by simp [sp_credit, sp_add, c_5, c_10, c_15])
      · refine lv_iconst (v := 1) hx hb dX11_credit_40 (by decide) ?_
        refine lv_goto (tgt := 45) hx hb dX11_credit_41 (by decide) ?_
        refine lv_istore (lv' := [(4, .int 1), (0, .ref y), (1, .int n), (2, .int h), (3, .int g)]) hx hb dX11_credit_45 hl (by decide) rfl (fun ls hl => ?_)
        refine lv_iload hx hb dX11_credit_47 (lv_at hl 0 rfl) ?_
        refine lv_if_eq (tgt := 63) hx hb dX11_credit_49 (by decide) (fun c_17 => absurd c_17 (show ¬ (1 : Int32) = (0 : Int32) by decide)) (fun c_17 => ?_)
        refine lv_aload_n hx hb dX11_credit_52 rfl (lv_at hl 1 rfl) ?_
        refine lv_iconst (v := 0) hx hb dX11_credit_53 (by decide) ?_
        refine lv_iload_n hx hb dX11_credit_54 rfl (lv_at hl 2 rfl) ?_
        refine lv_iload_n hx hb dX11_credit_55 rfl (lv_at hl 3 rfl) ?_
        refine lv_iload_n hx hb dX11_credit_56 rfl (lv_at hl 4 rfl) ?_
        refine x_callV (n := 4) (As := [.int 0, .int n, .int h, .int g]) (rest := []) F hP hD hS (c_X11_makes l D cy w y m2 m3 m4 m5 m6 m8 m9 m10 m11 m12 m13 m14 m17 m18 m19 m20 m21 m22 m23 m24 m29 m30 m31 m32 m33 m34 m35 m36 m37 m39 m40 m41 m42 m43 m44 m45 m46 m47 m48 m49 m51 m52 m53 m54 m56 m57 m58 m59 f8 f9 f10 f11 f12 0 n h g hy h8 h9 h10 h11 h12 n8x9 n8x10 n8x11 n8x12 n9x10 n9x11 n9x12 n10x11 n10x12 n11x12) gX11_credit_X11_makes rfl rfl (by decide +kernel) ⟨(Nat.le_of_ble_eq_true rfl), (Nat.le_of_ble_eq_true rfl)⟩ rfl hl.1 (Nat.le_of_ble_eq_true rfl) hy rfl dX11_credit_57 rfl ⟨(Nat.le_of_ble_eq_true rfl), (Nat.le_of_ble_eq_true rfl)⟩ (fun v19 w20 hp18 H locs hP hD hS => ?_)
        subst hp18
        refine W.eq (g2 := F0 m 60 ls [.int 0]) rfl (W.widen (k := 0) (n := 0) (Nat.le_of_ble_eq_true rfl) (Nat.le_of_ble_eq_true rfl) ?_)
        refine lv_goto (tgt := 64) hx hb dX11_credit_60 (by decide) ?_
        exact y_ir K hP hD hS (Nat.le_of_ble_eq_true rfl) (Nat.le_of_ble_eq_true rfl) (ty := .int) rfl rfl dX11_credit_64 (by simp [sp_credit, sp_add, c_5, c_10, c_15])
set_option maxHeartbeats 4000000 in
set_option maxRecDepth 100000 in
theorem c_X11_advise (l : Launch) (D : va_G) (cy : Nat → ClassId) (w : Wd) (y m2 m3 m4 m5 m6 m8 m9 m10 m11 m12 m13 m14 m17 m18 m19 m20 m21 m22 m23 m24 m29 m30 m31 m32 m33 m34 m35 m36 m37 m39 m40 m41 m42 m43 m44 m45 m46 m47 m48 m49 m51 m52 m53 m54 m56 m57 m58 m59 : Nat) (k t : Int32) (hy : wd_at w y (.inr (11, [.int 0, .int 0, .ref m2, .ref m3, .ref m4, .ref m5, .ref m6, .int 0, .ref m8, .ref m9, .ref m10, .ref m11, .ref m12, .ref m13, .ref m14, .int 0, .int 0, .ref m17, .ref m18, .ref m19, .ref m20, .ref m21, .ref m22, .ref m23, .ref m24, .int 0, .int 0, .int 0, .int 0, .ref m29, .ref m30, .ref m31, .ref m32, .ref m33, .ref m34, .ref m35, .ref m36, .ref m37, .int 0, .ref m39, .ref m40, .ref m41, .ref m42, .ref m43, .ref m44, .ref m45, .ref m46, .ref m47, .ref m48, .ref m49, .int 0, .ref m51, .ref m52, .ref m53, .ref m54, .int 0, .ref m56, .ref m57, .ref m58, .ref m59])))   : Ct l D cy yX11_advise wsX11_advise ({ frames := 1, cells := 0, slots := 0, locals := 22 }) [.ref y, .int k, .int t] w (fun v w1 => v = some (.int (-1))) := by
  refine Ct.by (cc := cX11_advise) (maxL := 3) (ret := (some .int)) (by decide +kernel) rfl (Nat.le_of_ble_eq_true rfl) ?_
  intro p e s m args below meth c A Q F hnm K ls hl
  have F : wd_Fx p s m args meth c cX11_advise 3 wsX11_advise RX11 D cy A := F
  have hl : lv_has ls 3 [(0, .ref y), (1, .int k), (2, .int t)] := hl
  have hx := F.1.1
  have hb := F.1.2.1
  have hown := F.1.2.2.2.1
  have hts := F.1.2.2.2.2
  intro H locs hP hD hS
  refine lv_aload_n hx hb dX11_advise_0 rfl (lv_at hl 0 rfl) ?_
  refine x_get (ref := "NoteHouseModel") F hP hy rfl (fun _ h => List.mem_cons_of_mem _ (List.mem_append_right _ (h))) 15 (Nat.le_of_ble_eq_true rfl) (List.mem_cons_of_mem _ (List.mem_append_left _ (List.mem_of_getElem? (i := 0) rfl))) rfl rfl dX11_advise_1 ?_
  refine lv_bipush (v := 60) hx hb dX11_advise_4 (by decide) ?_
  refine lv_icmp_eq (tgt := 30) hx hb dX11_advise_6 (by decide) (fun c_1 => absurd c_1 (show ¬ (0 : Int32) = (60 : Int32) by decide)) (fun c_1 => ?_)
  refine lv_iload_n hx hb dX11_advise_9 rfl (lv_at hl 1 rfl) ?_
  refine lv_iconst (v := 0) hx hb dX11_advise_10 (by decide) ?_
  refine lv_aload_n hx hb dX11_advise_11 rfl (lv_at hl 0 rfl) ?_
  refine x_get (ref := "NoteHouseModel") F hP hy rfl (fun _ h => List.mem_cons_of_mem _ (List.mem_append_right _ (h))) 7 (Nat.le_of_ble_eq_true rfl) (List.mem_cons_of_mem _ (List.mem_append_left _ (List.mem_of_getElem? (i := 1) rfl))) rfl rfl dX11_advise_12 ?_
  refine lv_iconst (v := 1) hx hb dX11_advise_15 (by decide) ?_
  refine lv_isub hx hb dX11_advise_16 ?_
  rw [show (0 - 1 : Int32) = (-1) from by decide]
  refine x_callS (n := 3) (As := [.int k, .int 0, .int (-1)]) (rest := []) F hP hD hS (c_X11_in l D cy w k 0 (-1)) gX11_advise_X11_in rfl (by decide +kernel) ⟨(Nat.le_of_ble_eq_true rfl), (Nat.le_of_ble_eq_true rfl)⟩ rfl hl.1 (Nat.le_of_ble_eq_true rfl) dX11_advise_17 rfl ⟨(Nat.le_of_ble_eq_true rfl), (Nat.le_of_ble_eq_true rfl)⟩ (fun v3 w4 hp2 H locs hP hD hS => ?_)
  obtain ⟨rfl, rfl⟩ := hp2
  refine W.eq (g2 := F0 m 20 ls [.int (wi k 0 (-1))]) rfl (W.widen (k := 0) (n := 0) (Nat.le_of_ble_eq_true rfl) (Nat.le_of_ble_eq_true rfl) ?_)
  refine lv_if_eq (tgt := 30) hx hb dX11_advise_20 (by decide) (fun c_5 => ?_) (fun c_5 => absurd (wi_m1 k) c_5)
  refine lv_iconst (v := (-1)) hx hb dX11_advise_30 (by decide) ?_
  exact y_ir K hP hD hS (Nat.le_of_ble_eq_true rfl) (Nat.le_of_ble_eq_true rfl) (ty := .int) rfl rfl dX11_advise_31 rfl
set_option maxHeartbeats 4000000 in
set_option maxRecDepth 100000 in
theorem c_X11_stop (l : Launch) (D : va_G) (cy : Nat → ClassId) (w : Wd) (y m2 m3 m4 m5 m6 m8 m9 m10 m11 m12 m13 m14 m17 m18 m19 m20 m21 m22 m23 m24 m29 m30 m31 m32 m33 m34 m35 m36 m37 m39 m40 m41 m42 m43 m44 m45 m46 m47 m48 m49 m51 m52 m53 m54 m56 m57 m58 m59 : Nat) (k f t : Int32) (hy : wd_at w y (.inr (11, [.int 0, .int 0, .ref m2, .ref m3, .ref m4, .ref m5, .ref m6, .int 0, .ref m8, .ref m9, .ref m10, .ref m11, .ref m12, .ref m13, .ref m14, .int 0, .int 0, .ref m17, .ref m18, .ref m19, .ref m20, .ref m21, .ref m22, .ref m23, .ref m24, .int 0, .int 0, .int 0, .int 0, .ref m29, .ref m30, .ref m31, .ref m32, .ref m33, .ref m34, .ref m35, .ref m36, .ref m37, .int 0, .ref m39, .ref m40, .ref m41, .ref m42, .ref m43, .ref m44, .ref m45, .ref m46, .ref m47, .ref m48, .ref m49, .int 0, .ref m51, .ref m52, .ref m53, .ref m54, .int 0, .ref m56, .ref m57, .ref m58, .ref m59])))   : Ct l D cy yX11_stop wsX11_stop ({ frames := 1, cells := 0, slots := 0, locals := 22 }) [.ref y, .int k, .int f, .int t] w (fun v w1 => v = some (.int (-1))) := by
  refine Ct.by (cc := cX11_stop) (maxL := 5) (ret := (some .int)) (by decide +kernel) rfl (Nat.le_of_ble_eq_true rfl) ?_
  intro p e s m args below meth c A Q F hnm K ls hl
  have F : wd_Fx p s m args meth c cX11_stop 5 wsX11_stop RX11 D cy A := F
  have hl : lv_has ls 5 [(0, .ref y), (1, .int k), (2, .int f), (3, .int t)] := hl
  have hx := F.1.1
  have hb := F.1.2.1
  have hown := F.1.2.2.2.1
  have hts := F.1.2.2.2.2
  intro H locs hP hD hS
  refine lv_aload_n hx hb dX11_stop_0 rfl (lv_at hl 0 rfl) ?_
  refine x_get (ref := "NoteHouseModel") F hP hy rfl (fun _ h => List.mem_cons_of_mem _ (List.mem_append_right _ (h))) 16 (Nat.le_of_ble_eq_true rfl) (List.mem_cons_of_mem _ (List.mem_append_left _ (List.mem_of_getElem? (i := 0) rfl))) rfl rfl dX11_stop_1 ?_
  refine lv_bipush (v := 60) hx hb dX11_stop_4 (by decide) ?_
  refine lv_icmp_eq (tgt := 51) hx hb dX11_stop_6 (by decide) (fun c_1 => absurd c_1 (show ¬ (0 : Int32) = (60 : Int32) by decide)) (fun c_1 => ?_)
  refine lv_iload_n hx hb dX11_stop_9 rfl (lv_at hl 1 rfl) ?_
  refine lv_iconst (v := 0) hx hb dX11_stop_10 (by decide) ?_
  refine lv_aload_n hx hb dX11_stop_11 rfl (lv_at hl 0 rfl) ?_
  refine x_get (ref := "NoteHouseModel") F hP hy rfl (fun _ h => List.mem_cons_of_mem _ (List.mem_append_right _ (h))) 7 (Nat.le_of_ble_eq_true rfl) (List.mem_cons_of_mem _ (List.mem_append_left _ (List.mem_of_getElem? (i := 1) rfl))) rfl rfl dX11_stop_12 ?_
  refine lv_iconst (v := 1) hx hb dX11_stop_15 (by decide) ?_
  refine lv_isub hx hb dX11_stop_16 ?_
  rw [show (0 - 1 : Int32) = (-1) from by decide]
  refine x_callS (n := 3) (As := [.int k, .int 0, .int (-1)]) (rest := []) F hP hD hS (c_X11_in l D cy w k 0 (-1)) gX11_stop_X11_in rfl (by decide +kernel) ⟨(Nat.le_of_ble_eq_true rfl), (Nat.le_of_ble_eq_true rfl)⟩ rfl hl.1 (Nat.le_of_ble_eq_true rfl) dX11_stop_17 rfl ⟨(Nat.le_of_ble_eq_true rfl), (Nat.le_of_ble_eq_true rfl)⟩ (fun v3 w4 hp2 H locs hP hD hS => ?_)
  obtain ⟨rfl, rfl⟩ := hp2
  refine W.eq (g2 := F0 m 20 ls [.int (wi k 0 (-1))]) rfl (W.widen (k := 0) (n := 0) (Nat.le_of_ble_eq_true rfl) (Nat.le_of_ble_eq_true rfl) ?_)
  refine lv_if_eq (tgt := 51) hx hb dX11_stop_20 (by decide) (fun c_5 => ?_) (fun c_5 => absurd (wi_m1 k) c_5)
  refine lv_iconst (v := (-1)) hx hb dX11_stop_51 (by decide) ?_
  exact y_ir K hP hD hS (Nat.le_of_ble_eq_true rfl) (Nat.le_of_ble_eq_true rfl) (ty := .int) rfl rfl dX11_stop_52 rfl
set_option maxHeartbeats 4000000 in
set_option maxRecDepth 100000 in
theorem c_X11_show (l : Launch) (D : va_G) (cy : Nat → ClassId) (w : Wd) (y m2 m3 m4 m5 m6 m8 m9 m10 m11 m12 m13 m14 m17 m18 m19 m20 m21 m22 m23 m24 m29 m30 m31 m32 m33 m34 m35 m36 m37 m39 m40 m41 m42 m43 m44 m45 m46 m47 m48 m49 m51 m52 m53 m54 m56 m57 m58 m59 : Nat) (t k f u h n : Int32) (hy : wd_at w y (.inr (11, [.int 0, .int 0, .ref m2, .ref m3, .ref m4, .ref m5, .ref m6, .int 0, .ref m8, .ref m9, .ref m10, .ref m11, .ref m12, .ref m13, .ref m14, .int 0, .int 0, .ref m17, .ref m18, .ref m19, .ref m20, .ref m21, .ref m22, .ref m23, .ref m24, .int 0, .int 0, .int 0, .int 0, .ref m29, .ref m30, .ref m31, .ref m32, .ref m33, .ref m34, .ref m35, .ref m36, .ref m37, .int 0, .ref m39, .ref m40, .ref m41, .ref m42, .ref m43, .ref m44, .ref m45, .ref m46, .ref m47, .ref m48, .ref m49, .int 0, .ref m51, .ref m52, .ref m53, .ref m54, .int 0, .ref m56, .ref m57, .ref m58, .ref m59])))   : Ct l D cy yX11_show wsX11_show ({ frames := 1, cells := 0, slots := 0, locals := 22 }) [.ref y, .int t, .int k, .int f, .int u, .int h, .int n] w (fun v w1 => v = some (.int (-1))) := by
  refine Ct.by (cc := cX11_show) (maxL := 15) (ret := (some .int)) (by decide +kernel) rfl (Nat.le_of_ble_eq_true rfl) ?_
  intro p e s m args below meth c A Q F hnm K ls hl
  have F : wd_Fx p s m args meth c cX11_show 15 wsX11_show RX11 D cy A := F
  have hl : lv_has ls 15 [(0, .ref y), (1, .int t), (2, .int k), (3, .int f), (4, .int u), (5, .int h), (6, .int n)] := hl
  have hx := F.1.1
  have hb := F.1.2.1
  have hown := F.1.2.2.2.1
  have hts := F.1.2.2.2.2
  intro H locs hP hD hS
  refine lv_aload_n hx hb dX11_show_0 rfl (lv_at hl 0 rfl) ?_
  refine x_get (ref := "NoteHouseModel") F hP hy rfl (fun _ h => List.mem_cons_of_mem _ (List.mem_append_right _ (h))) 38 (Nat.le_of_ble_eq_true rfl) (List.mem_cons_of_mem _ (List.mem_append_left _ (List.mem_append_left _ (List.mem_of_getElem? (i := 0) rfl)))) rfl rfl dX11_show_1 ?_
  refine lv_sipush (v := 200) hx hb dX11_show_4 (by decide) ?_
  refine lv_icmp_eq (tgt := 42) hx hb dX11_show_7 (by decide) (fun c_1 => absurd c_1 (show ¬ (0 : Int32) = (200 : Int32) by decide)) (fun c_1 => ?_)
  refine lv_iload_n hx hb dX11_show_10 rfl (lv_at hl 1 rfl) ?_
  refine x_callS (n := 1) (As := [.int t]) (rest := []) F hP hD hS (c_X11_isTown l D cy w t) gX11_show_X11_isTown rfl (by decide +kernel) ⟨(Nat.le_of_ble_eq_true rfl), (Nat.le_of_ble_eq_true rfl)⟩ rfl hl.1 (Nat.le_of_ble_eq_true rfl) dX11_show_11 rfl ⟨(Nat.le_of_ble_eq_true rfl), (Nat.le_of_ble_eq_true rfl)⟩ (fun v3 w4 hp2 H locs hP hD hS => ?_)
  obtain ⟨rfl, rfl⟩ := hp2
  refine W.eq (g2 := F0 m 14 ls [.int (wi t 0 11)]) rfl (W.widen (k := 0) (n := 0) (Nat.le_of_ble_eq_true rfl) (Nat.le_of_ble_eq_true rfl) ?_)
  refine lv_if_eq (tgt := 42) hx hb dX11_show_14 (by decide) (fun c_5 => ?_) (fun c_5 => ?_)
  · refine lv_iconst (v := (-1)) hx hb dX11_show_42 (by decide) ?_
    exact y_ir K hP hD hS (Nat.le_of_ble_eq_true rfl) (Nat.le_of_ble_eq_true rfl) (ty := .int) rfl rfl dX11_show_43 rfl
  · refine lv_iload_n hx hb dX11_show_17 rfl (lv_at hl 2 rfl) ?_
    refine lv_iconst (v := 0) hx hb dX11_show_18 (by decide) ?_
    refine lv_aload_n hx hb dX11_show_19 rfl (lv_at hl 0 rfl) ?_
    refine x_get (ref := "NoteHouseModel") F hP hy rfl (fun _ h => List.mem_cons_of_mem _ (List.mem_append_right _ (h))) 7 (Nat.le_of_ble_eq_true rfl) (List.mem_cons_of_mem _ (List.mem_append_left _ (List.mem_append_left _ (List.mem_of_getElem? (i := 1) rfl)))) rfl rfl dX11_show_20 ?_
    refine lv_iconst (v := 1) hx hb dX11_show_23 (by decide) ?_
    refine lv_isub hx hb dX11_show_24 ?_
    rw [show (0 - 1 : Int32) = (-1) from by decide]
    refine x_callS (n := 3) (As := [.int k, .int 0, .int (-1)]) (rest := []) F hP hD hS (c_X11_in l D cy w k 0 (-1)) gX11_show_X11_in rfl (by decide +kernel) ⟨(Nat.le_of_ble_eq_true rfl), (Nat.le_of_ble_eq_true rfl)⟩ rfl hl.1 (Nat.le_of_ble_eq_true rfl) dX11_show_25 rfl ⟨(Nat.le_of_ble_eq_true rfl), (Nat.le_of_ble_eq_true rfl)⟩ (fun v7 w8 hp6 H locs hP hD hS => ?_)
    obtain ⟨rfl, rfl⟩ := hp6
    refine W.eq (g2 := F0 m 28 ls [.int (wi k 0 (-1))]) rfl (W.widen (k := 0) (n := 0) (Nat.le_of_ble_eq_true rfl) (Nat.le_of_ble_eq_true rfl) ?_)
    refine lv_if_eq (tgt := 42) hx hb dX11_show_28 (by decide) (fun c_9 => ?_) (fun c_9 => absurd (wi_m1 k) c_9)
    refine lv_iconst (v := (-1)) hx hb dX11_show_42 (by decide) ?_
    exact y_ir K hP hD hS (Nat.le_of_ble_eq_true rfl) (Nat.le_of_ble_eq_true rfl) (ty := .int) rfl rfl dX11_show_43 rfl
set_option maxHeartbeats 4000000 in
set_option maxRecDepth 100000 in
theorem c_X11_shown (l : Launch) (D : va_G) (cy : Nat → ClassId) (w : Wd) (y m2 m3 m4 m5 m6 m8 m9 m10 m11 m12 m13 m14 m17 m18 m19 m20 m21 m22 m23 m24 m29 m30 m31 m32 m33 m34 m35 m36 m37 m39 m40 m41 m42 m43 m44 m45 m46 m47 m48 m49 m51 m52 m53 m54 m56 m57 m58 m59 : Nat) (k u : Int32) (hy : wd_at w y (.inr (11, [.int 0, .int 0, .ref m2, .ref m3, .ref m4, .ref m5, .ref m6, .int 0, .ref m8, .ref m9, .ref m10, .ref m11, .ref m12, .ref m13, .ref m14, .int 0, .int 0, .ref m17, .ref m18, .ref m19, .ref m20, .ref m21, .ref m22, .ref m23, .ref m24, .int 0, .int 0, .int 0, .int 0, .ref m29, .ref m30, .ref m31, .ref m32, .ref m33, .ref m34, .ref m35, .ref m36, .ref m37, .int 0, .ref m39, .ref m40, .ref m41, .ref m42, .ref m43, .ref m44, .ref m45, .ref m46, .ref m47, .ref m48, .ref m49, .int 0, .ref m51, .ref m52, .ref m53, .ref m54, .int 0, .ref m56, .ref m57, .ref m58, .ref m59])))   : Ct l D cy yX11_shown wsX11_shown ({ frames := 1, cells := 0, slots := 0, locals := 22 }) [.ref y, .int k, .int u] w (fun v w1 => v = some (.int (-1))) := by
  refine Ct.by (cc := cX11_shown) (maxL := 3) (ret := (some .int)) (by decide +kernel) rfl (Nat.le_of_ble_eq_true rfl) ?_
  intro p e s m args below meth c A Q F hnm K ls hl
  have F : wd_Fx p s m args meth c cX11_shown 3 wsX11_shown RX11 D cy A := F
  have hl : lv_has ls 3 [(0, .ref y), (1, .int k), (2, .int u)] := hl
  have hx := F.1.1
  have hb := F.1.2.1
  have hown := F.1.2.2.2.1
  have hts := F.1.2.2.2.2
  intro H locs hP hD hS
  refine lv_iload_n hx hb dX11_shown_0 rfl (lv_at hl 1 rfl) ?_
  refine lv_iconst (v := 0) hx hb dX11_shown_1 (by decide) ?_
  refine lv_aload_n hx hb dX11_shown_2 rfl (lv_at hl 0 rfl) ?_
  refine x_get (ref := "NoteHouseModel") F hP hy rfl (fun _ h => List.mem_cons_of_mem _ (List.mem_append_right _ (h))) 38 (Nat.le_of_ble_eq_true rfl) (List.mem_cons_of_mem _ (List.mem_append_left _ (List.mem_of_getElem? (i := 0) rfl))) rfl rfl dX11_shown_3 ?_
  refine lv_iconst (v := 1) hx hb dX11_shown_6 (by decide) ?_
  refine lv_isub hx hb dX11_shown_7 ?_
  rw [show (0 - 1 : Int32) = (-1) from by decide]
  refine x_callS (n := 3) (As := [.int k, .int 0, .int (-1)]) (rest := []) F hP hD hS (c_X11_in l D cy w k 0 (-1)) gX11_shown_X11_in rfl (by decide +kernel) ⟨(Nat.le_of_ble_eq_true rfl), (Nat.le_of_ble_eq_true rfl)⟩ rfl hl.1 (Nat.le_of_ble_eq_true rfl) dX11_shown_8 rfl ⟨(Nat.le_of_ble_eq_true rfl), (Nat.le_of_ble_eq_true rfl)⟩ (fun v2 w3 hp1 H locs hP hD hS => ?_)
  obtain ⟨rfl, rfl⟩ := hp1
  refine W.eq (g2 := F0 m 11 ls [.int (wi k 0 (-1))]) rfl (W.widen (k := 0) (n := 0) (Nat.le_of_ble_eq_true rfl) (Nat.le_of_ble_eq_true rfl) ?_)
  refine lv_if_ne (tgt := 16) hx hb dX11_shown_11 (by decide) (fun c_4 => absurd (wi_m1 k) c_4) (fun c_4 => ?_)
  refine lv_iconst (v := (-1)) hx hb dX11_shown_14 (by decide) ?_
  exact y_ir K hP hD hS (Nat.le_of_ble_eq_true rfl) (Nat.le_of_ble_eq_true rfl) (ty := .int) rfl rfl dX11_shown_15 rfl
set_option maxHeartbeats 4000000 in
set_option maxRecDepth 100000 in
theorem c_X11_paper (l : Launch) (D : va_G) (cy : Nat → ClassId) (w : Wd) (y m2 m3 m4 m5 m6 m8 m9 m10 m11 m12 m13 m14 m17 m18 m19 m20 m21 m22 m23 m24 m29 m30 m31 m32 m33 m34 m35 m36 m37 m39 m40 m41 m42 m43 m44 m45 m46 m47 m48 m49 m51 m52 m53 m54 m56 m57 m58 m59 : Nat) (k u : Int32) (hy : wd_at w y (.inr (11, [.int 0, .int 0, .ref m2, .ref m3, .ref m4, .ref m5, .ref m6, .int 0, .ref m8, .ref m9, .ref m10, .ref m11, .ref m12, .ref m13, .ref m14, .int 0, .int 0, .ref m17, .ref m18, .ref m19, .ref m20, .ref m21, .ref m22, .ref m23, .ref m24, .int 0, .int 0, .int 0, .int 0, .ref m29, .ref m30, .ref m31, .ref m32, .ref m33, .ref m34, .ref m35, .ref m36, .ref m37, .int 0, .ref m39, .ref m40, .ref m41, .ref m42, .ref m43, .ref m44, .ref m45, .ref m46, .ref m47, .ref m48, .ref m49, .int 0, .ref m51, .ref m52, .ref m53, .ref m54, .int 0, .ref m56, .ref m57, .ref m58, .ref m59])))   : Ct l D cy yX11_paper wsX11_paper ({ frames := 1, cells := 0, slots := 0, locals := 22 }) [.ref y, .int k, .int u] w (fun v w1 => v = some (.int (-1))) := by
  refine Ct.by (cc := cX11_paper) (maxL := 3) (ret := (some .int)) (by decide +kernel) rfl (Nat.le_of_ble_eq_true rfl) ?_
  intro p e s m args below meth c A Q F hnm K ls hl
  have F : wd_Fx p s m args meth c cX11_paper 3 wsX11_paper RX11 D cy A := F
  have hl : lv_has ls 3 [(0, .ref y), (1, .int k), (2, .int u)] := hl
  have hx := F.1.1
  have hb := F.1.2.1
  have hown := F.1.2.2.2.1
  have hts := F.1.2.2.2.2
  intro H locs hP hD hS
  refine lv_iload_n hx hb dX11_paper_0 rfl (lv_at hl 1 rfl) ?_
  refine lv_iconst (v := 0) hx hb dX11_paper_1 (by decide) ?_
  refine lv_aload_n hx hb dX11_paper_2 rfl (lv_at hl 0 rfl) ?_
  refine x_get (ref := "NoteHouseModel") F hP hy rfl (fun _ h => List.mem_cons_of_mem _ (List.mem_append_right _ (h))) 7 (Nat.le_of_ble_eq_true rfl) (List.mem_cons_of_mem _ (List.mem_append_left _ (List.mem_of_getElem? (i := 0) rfl))) rfl rfl dX11_paper_3 ?_
  refine lv_iconst (v := 1) hx hb dX11_paper_6 (by decide) ?_
  refine lv_isub hx hb dX11_paper_7 ?_
  rw [show (0 - 1 : Int32) = (-1) from by decide]
  refine x_callS (n := 3) (As := [.int k, .int 0, .int (-1)]) (rest := []) F hP hD hS (c_X11_in l D cy w k 0 (-1)) gX11_paper_X11_in rfl (by decide +kernel) ⟨(Nat.le_of_ble_eq_true rfl), (Nat.le_of_ble_eq_true rfl)⟩ rfl hl.1 (Nat.le_of_ble_eq_true rfl) dX11_paper_8 rfl ⟨(Nat.le_of_ble_eq_true rfl), (Nat.le_of_ble_eq_true rfl)⟩ (fun v2 w3 hp1 H locs hP hD hS => ?_)
  obtain ⟨rfl, rfl⟩ := hp1
  refine W.eq (g2 := F0 m 11 ls [.int (wi k 0 (-1))]) rfl (W.widen (k := 0) (n := 0) (Nat.le_of_ble_eq_true rfl) (Nat.le_of_ble_eq_true rfl) ?_)
  refine lv_if_ne (tgt := 16) hx hb dX11_paper_11 (by decide) (fun c_4 => absurd (wi_m1 k) c_4) (fun c_4 => ?_)
  refine lv_iconst (v := (-1)) hx hb dX11_paper_14 (by decide) ?_
  exact y_ir K hP hD hS (Nat.le_of_ble_eq_true rfl) (Nat.le_of_ble_eq_true rfl) (ty := .int) rfl rfl dX11_paper_15 rfl
set_option maxHeartbeats 4000000 in
set_option maxRecDepth 100000 in
theorem c_X11_comes (l : Launch) (D : va_G) (cy : Nat → ClassId) (w : Wd) (y m2 m3 m4 m5 m6 m8 m9 m10 m11 m12 m13 m14 m17 m18 m19 m20 m21 m22 m23 m24 m29 m30 m31 m32 m33 m34 m35 m36 m37 m39 m40 m41 m42 m43 m44 m45 m46 m47 m48 m49 m51 m52 m53 m54 m56 m57 m58 m59 : Nat) (q k t : Int32) (hy : wd_at w y (.inr (11, [.int 0, .int 0, .ref m2, .ref m3, .ref m4, .ref m5, .ref m6, .int 0, .ref m8, .ref m9, .ref m10, .ref m11, .ref m12, .ref m13, .ref m14, .int 0, .int 0, .ref m17, .ref m18, .ref m19, .ref m20, .ref m21, .ref m22, .ref m23, .ref m24, .int 0, .int 0, .int 0, .int 0, .ref m29, .ref m30, .ref m31, .ref m32, .ref m33, .ref m34, .ref m35, .ref m36, .ref m37, .int 0, .ref m39, .ref m40, .ref m41, .ref m42, .ref m43, .ref m44, .ref m45, .ref m46, .ref m47, .ref m48, .ref m49, .int 0, .ref m51, .ref m52, .ref m53, .ref m54, .int 0, .ref m56, .ref m57, .ref m58, .ref m59])))   : Ct l D cy yX11_comes wsX11_comes ({ frames := 1, cells := 0, slots := 0, locals := 22 }) [.ref y, .int q, .int k, .int t] w (fun v w1 => v = some (.int (-1))) := by
  refine Ct.by (cc := cX11_comes) (maxL := 4) (ret := (some .int)) (by decide +kernel) rfl (Nat.le_of_ble_eq_true rfl) ?_
  intro p e s m args below meth c A Q F hnm K ls hl
  have F : wd_Fx p s m args meth c cX11_comes 4 wsX11_comes RX11 D cy A := F
  have hl : lv_has ls 4 [(0, .ref y), (1, .int q), (2, .int k), (3, .int t)] := hl
  have hx := F.1.1
  have hb := F.1.2.1
  have hown := F.1.2.2.2.1
  have hts := F.1.2.2.2.2
  intro H locs hP hD hS
  refine lv_iload_n hx hb dX11_comes_0 rfl (lv_at hl 3 rfl) ?_
  refine x_callS (n := 1) (As := [.int t]) (rest := []) F hP hD hS (c_X11_isTown l D cy w t) gX11_comes_X11_isTown rfl (by decide +kernel) ⟨(Nat.le_of_ble_eq_true rfl), (Nat.le_of_ble_eq_true rfl)⟩ rfl hl.1 (Nat.le_of_ble_eq_true rfl) dX11_comes_1 rfl ⟨(Nat.le_of_ble_eq_true rfl), (Nat.le_of_ble_eq_true rfl)⟩ (fun v2 w3 hp1 H locs hP hD hS => ?_)
  obtain ⟨rfl, rfl⟩ := hp1
  refine W.eq (g2 := F0 m 4 ls [.int (wi t 0 11)]) rfl (W.widen (k := 0) (n := 0) (Nat.le_of_ble_eq_true rfl) (Nat.le_of_ble_eq_true rfl) ?_)
  refine lv_if_ne (tgt := 9) hx hb dX11_comes_4 (by decide) (fun c_4 => ?_) (fun c_4 => ?_)
  · refine lv_iload_n hx hb dX11_comes_9 rfl (lv_at hl 1 rfl) ?_
    refine lv_if_ne (tgt := 68) hx hb dX11_comes_10 (by decide) (fun c_5 => ?_) (fun c_5 => ?_)
    · refine lv_iload_n hx hb dX11_comes_68 rfl (lv_at hl 1 rfl) ?_
      refine lv_iconst (v := 1) hx hb dX11_comes_69 (by decide) ?_
      refine lv_icmp_ne (tgt := 113) hx hb dX11_comes_70 (by decide) (fun c_6 => ?_) (fun c_6 => ?_)
      · refine lv_iconst (v := (-1)) hx hb dX11_comes_113 (by decide) ?_
        exact y_ir K hP hD hS (Nat.le_of_ble_eq_true rfl) (Nat.le_of_ble_eq_true rfl) (ty := .int) rfl rfl dX11_comes_114 rfl
      · refine lv_iload_n hx hb dX11_comes_73 rfl (lv_at hl 2 rfl) ?_
        refine lv_iconst (v := 0) hx hb dX11_comes_74 (by decide) ?_
        refine lv_aload_n hx hb dX11_comes_75 rfl (lv_at hl 0 rfl) ?_
        refine x_get (ref := "NoteHouseModel") F hP hy rfl (fun _ h => List.mem_cons_of_mem _ (List.mem_append_right _ (h))) 16 (Nat.le_of_ble_eq_true rfl) (List.mem_cons_of_mem _ (List.mem_append_left _ (List.mem_of_getElem? (i := 5) rfl))) rfl rfl dX11_comes_76 ?_
        refine lv_iconst (v := 1) hx hb dX11_comes_79 (by decide) ?_
        refine lv_isub hx hb dX11_comes_80 ?_
        rw [show (0 - 1 : Int32) = (-1) from by decide]
        refine x_callS (n := 3) (As := [.int k, .int 0, .int (-1)]) (rest := []) F hP hD hS (c_X11_in l D cy w k 0 (-1)) gX11_comes_X11_in rfl (by decide +kernel) ⟨(Nat.le_of_ble_eq_true rfl), (Nat.le_of_ble_eq_true rfl)⟩ rfl hl.1 (Nat.le_of_ble_eq_true rfl) dX11_comes_81 rfl ⟨(Nat.le_of_ble_eq_true rfl), (Nat.le_of_ble_eq_true rfl)⟩ (fun v8 w9 hp7 H locs hP hD hS => ?_)
        obtain ⟨rfl, rfl⟩ := hp7
        refine W.eq (g2 := F0 m 84 ls [.int (wi k 0 (-1))]) rfl (W.widen (k := 0) (n := 0) (Nat.le_of_ble_eq_true rfl) (Nat.le_of_ble_eq_true rfl) ?_)
        refine lv_if_eq (tgt := 113) hx hb dX11_comes_84 (by decide) (fun c_10 => ?_) (fun c_10 => absurd (wi_m1 k) c_10)
        refine lv_iconst (v := (-1)) hx hb dX11_comes_113 (by decide) ?_
        exact y_ir K hP hD hS (Nat.le_of_ble_eq_true rfl) (Nat.le_of_ble_eq_true rfl) (ty := .int) rfl rfl dX11_comes_114 rfl
    · refine lv_iload_n hx hb dX11_comes_13 rfl (lv_at hl 2 rfl) ?_
      refine lv_iconst (v := 0) hx hb dX11_comes_14 (by decide) ?_
      refine lv_aload_n hx hb dX11_comes_15 rfl (lv_at hl 0 rfl) ?_
      refine x_get (ref := "NoteHouseModel") F hP hy rfl (fun _ h => List.mem_cons_of_mem _ (List.mem_append_right _ (h))) 15 (Nat.le_of_ble_eq_true rfl) (List.mem_cons_of_mem _ (List.mem_append_left _ (List.mem_of_getElem? (i := 0) rfl))) rfl rfl dX11_comes_16 ?_
      refine lv_iconst (v := 1) hx hb dX11_comes_19 (by decide) ?_
      refine lv_isub hx hb dX11_comes_20 ?_
      rw [show (0 - 1 : Int32) = (-1) from by decide]
      refine x_callS (n := 3) (As := [.int k, .int 0, .int (-1)]) (rest := []) F hP hD hS (c_X11_in l D cy w k 0 (-1)) gX11_comes_X11_in rfl (by decide +kernel) ⟨(Nat.le_of_ble_eq_true rfl), (Nat.le_of_ble_eq_true rfl)⟩ rfl hl.1 (Nat.le_of_ble_eq_true rfl) dX11_comes_21 rfl ⟨(Nat.le_of_ble_eq_true rfl), (Nat.le_of_ble_eq_true rfl)⟩ (fun v12 w13 hp11 H locs hP hD hS => ?_)
      obtain ⟨rfl, rfl⟩ := hp11
      refine W.eq (g2 := F0 m 24 ls [.int (wi k 0 (-1))]) rfl (W.widen (k := 0) (n := 0) (Nat.le_of_ble_eq_true rfl) (Nat.le_of_ble_eq_true rfl) ?_)
      refine lv_if_eq (tgt := 68) hx hb dX11_comes_24 (by decide) (fun c_14 => ?_) (fun c_14 => absurd (wi_m1 k) c_14)
      refine lv_iload_n hx hb dX11_comes_68 rfl (lv_at hl 1 rfl) ?_
      refine lv_iconst (v := 1) hx hb dX11_comes_69 (by decide) ?_
      refine lv_icmp_ne (tgt := 113) hx hb dX11_comes_70 (by decide) (fun c_15 => ?_) (fun c_15 => ?_)
      · refine lv_iconst (v := (-1)) hx hb dX11_comes_113 (by decide) ?_
        exact y_ir K hP hD hS (Nat.le_of_ble_eq_true rfl) (Nat.le_of_ble_eq_true rfl) (ty := .int) rfl rfl dX11_comes_114 rfl
      · refine lv_iload_n hx hb dX11_comes_73 rfl (lv_at hl 2 rfl) ?_
        refine lv_iconst (v := 0) hx hb dX11_comes_74 (by decide) ?_
        refine lv_aload_n hx hb dX11_comes_75 rfl (lv_at hl 0 rfl) ?_
        refine x_get (ref := "NoteHouseModel") F hP hy rfl (fun _ h => List.mem_cons_of_mem _ (List.mem_append_right _ (h))) 16 (Nat.le_of_ble_eq_true rfl) (List.mem_cons_of_mem _ (List.mem_append_left _ (List.mem_of_getElem? (i := 5) rfl))) rfl rfl dX11_comes_76 ?_
        refine lv_iconst (v := 1) hx hb dX11_comes_79 (by decide) ?_
        refine lv_isub hx hb dX11_comes_80 ?_
        rw [show (0 - 1 : Int32) = (-1) from by decide]
        refine x_callS (n := 3) (As := [.int k, .int 0, .int (-1)]) (rest := []) F hP hD hS (c_X11_in l D cy w k 0 (-1)) gX11_comes_X11_in rfl (by decide +kernel) ⟨(Nat.le_of_ble_eq_true rfl), (Nat.le_of_ble_eq_true rfl)⟩ rfl hl.1 (Nat.le_of_ble_eq_true rfl) dX11_comes_81 rfl ⟨(Nat.le_of_ble_eq_true rfl), (Nat.le_of_ble_eq_true rfl)⟩ (fun v17 w18 hp16 H locs hP hD hS => ?_)
        obtain ⟨rfl, rfl⟩ := hp16
        refine W.eq (g2 := F0 m 84 ls [.int (wi k 0 (-1))]) rfl (W.widen (k := 0) (n := 0) (Nat.le_of_ble_eq_true rfl) (Nat.le_of_ble_eq_true rfl) ?_)
        refine lv_if_eq (tgt := 113) hx hb dX11_comes_84 (by decide) (fun c_19 => ?_) (fun c_19 => absurd (wi_m1 k) c_19)
        refine lv_iconst (v := (-1)) hx hb dX11_comes_113 (by decide) ?_
        exact y_ir K hP hD hS (Nat.le_of_ble_eq_true rfl) (Nat.le_of_ble_eq_true rfl) (ty := .int) rfl rfl dX11_comes_114 rfl
  · refine lv_iconst (v := (-1)) hx hb dX11_comes_7 (by decide) ?_
    exact y_ir K hP hD hS (Nat.le_of_ble_eq_true rfl) (Nat.le_of_ble_eq_true rfl) (ty := .int) rfl rfl dX11_comes_8 rfl
set_option maxHeartbeats 4000000 in
set_option maxRecDepth 100000 in
theorem c_X11_lose (l : Launch) (D : va_G) (cy : Nat → ClassId) (w : Wd) (y m2 m3 m4 m5 m6 m8 m9 m10 m11 m12 m13 m14 m17 m18 m19 m20 m21 m22 m23 m24 m29 m30 m31 m32 m33 m34 m35 m36 m37 m39 m40 m41 m42 m43 m44 m45 m46 m47 m48 m49 m51 m52 m53 m54 m56 m57 m58 m59 : Nat) (k : Int32) (hy : wd_at w y (.inr (11, [.int 0, .int 0, .ref m2, .ref m3, .ref m4, .ref m5, .ref m6, .int 0, .ref m8, .ref m9, .ref m10, .ref m11, .ref m12, .ref m13, .ref m14, .int 0, .int 0, .ref m17, .ref m18, .ref m19, .ref m20, .ref m21, .ref m22, .ref m23, .ref m24, .int 0, .int 0, .int 0, .int 0, .ref m29, .ref m30, .ref m31, .ref m32, .ref m33, .ref m34, .ref m35, .ref m36, .ref m37, .int 0, .ref m39, .ref m40, .ref m41, .ref m42, .ref m43, .ref m44, .ref m45, .ref m46, .ref m47, .ref m48, .ref m49, .int 0, .ref m51, .ref m52, .ref m53, .ref m54, .int 0, .ref m56, .ref m57, .ref m58, .ref m59])))   : Ct l D cy yX11_lose wsX11_lose ({ frames := 1, cells := 0, slots := 0, locals := 22 }) [.ref y, .int k] w (fun v w1 => v = some (.int 0)) := by
  refine Ct.by (cc := cX11_lose) (maxL := 2) (ret := (some .boolean)) (by decide +kernel) rfl (Nat.le_of_ble_eq_true rfl) ?_
  intro p e s m args below meth c A Q F hnm K ls hl
  have F : wd_Fx p s m args meth c cX11_lose 2 wsX11_lose RX11 D cy A := F
  have hl : lv_has ls 2 [(0, .ref y), (1, .int k)] := hl
  have hx := F.1.1
  have hb := F.1.2.1
  have hown := F.1.2.2.2.1
  have hts := F.1.2.2.2.2
  intro H locs hP hD hS
  refine lv_iload_n hx hb dX11_lose_0 rfl (lv_at hl 1 rfl) ?_
  refine lv_iconst (v := 0) hx hb dX11_lose_1 (by decide) ?_
  refine lv_aload_n hx hb dX11_lose_2 rfl (lv_at hl 0 rfl) ?_
  refine x_get (ref := "NoteHouseModel") F hP hy rfl (fun _ h => List.mem_cons_of_mem _ (List.mem_append_right _ (h))) 15 (Nat.le_of_ble_eq_true rfl) (List.mem_cons_of_mem _ (List.mem_append_left _ (List.mem_of_getElem? (i := 0) rfl))) rfl rfl dX11_lose_3 ?_
  refine lv_iconst (v := 1) hx hb dX11_lose_6 (by decide) ?_
  refine lv_isub hx hb dX11_lose_7 ?_
  rw [show (0 - 1 : Int32) = (-1) from by decide]
  refine x_callS (n := 3) (As := [.int k, .int 0, .int (-1)]) (rest := []) F hP hD hS (c_X11_in l D cy w k 0 (-1)) gX11_lose_X11_in rfl (by decide +kernel) ⟨(Nat.le_of_ble_eq_true rfl), (Nat.le_of_ble_eq_true rfl)⟩ rfl hl.1 (Nat.le_of_ble_eq_true rfl) dX11_lose_8 rfl ⟨(Nat.le_of_ble_eq_true rfl), (Nat.le_of_ble_eq_true rfl)⟩ (fun v2 w3 hp1 H locs hP hD hS => ?_)
  obtain ⟨rfl, rfl⟩ := hp1
  refine W.eq (g2 := F0 m 11 ls [.int (wi k 0 (-1))]) rfl (W.widen (k := 0) (n := 0) (Nat.le_of_ble_eq_true rfl) (Nat.le_of_ble_eq_true rfl) ?_)
  refine lv_if_eq (tgt := 36) hx hb dX11_lose_11 (by decide) (fun c_4 => ?_) (fun c_4 => absurd (wi_m1 k) c_4)
  refine lv_iconst (v := 0) hx hb dX11_lose_36 (by decide) ?_
  exact y_ir K hP hD hS (Nat.le_of_ble_eq_true rfl) (Nat.le_of_ble_eq_true rfl) (ty := .boolean) rfl rfl dX11_lose_37 rfl
set_option maxHeartbeats 4000000 in
set_option maxRecDepth 100000 in
theorem c_X11_settled (l : Launch) (D : va_G) (cy : Nat → ClassId) (w : Wd) (y m2 m3 m4 m5 m6 m8 m9 m10 m11 m12 m13 m14 m17 m18 m19 m20 m21 m22 m23 m24 m29 m30 m31 m32 m33 m34 m35 m36 m37 m39 m40 m41 m42 m43 m44 m45 m46 m47 m48 m49 m51 m52 m53 m54 m56 m57 m58 m59 : Nat) (k u : Int32) (hy : wd_at w y (.inr (11, [.int 0, .int 0, .ref m2, .ref m3, .ref m4, .ref m5, .ref m6, .int 0, .ref m8, .ref m9, .ref m10, .ref m11, .ref m12, .ref m13, .ref m14, .int 0, .int 0, .ref m17, .ref m18, .ref m19, .ref m20, .ref m21, .ref m22, .ref m23, .ref m24, .int 0, .int 0, .int 0, .int 0, .ref m29, .ref m30, .ref m31, .ref m32, .ref m33, .ref m34, .ref m35, .ref m36, .ref m37, .int 0, .ref m39, .ref m40, .ref m41, .ref m42, .ref m43, .ref m44, .ref m45, .ref m46, .ref m47, .ref m48, .ref m49, .int 0, .ref m51, .ref m52, .ref m53, .ref m54, .int 0, .ref m56, .ref m57, .ref m58, .ref m59])))   : Ct l D cy yX11_settled wsX11_settled ({ frames := 0, cells := 0, slots := 0, locals := 0 }) [.ref y, .int k, .int u] w (fun v w1 => v = some (.int (-1))) := by
  refine Ct.by (cc := cX11_settled) (maxL := 3) (ret := (some .int)) (by decide +kernel) rfl (Nat.le_of_ble_eq_true rfl) ?_
  intro p e s m args below meth c A Q F hnm K ls hl
  have F : wd_Fx p s m args meth c cX11_settled 3 wsX11_settled RX11 D cy A := F
  have hl : lv_has ls 3 [(0, .ref y), (1, .int k), (2, .int u)] := hl
  have hx := F.1.1
  have hb := F.1.2.1
  have hown := F.1.2.2.2.1
  have hts := F.1.2.2.2.2
  intro H locs hP hD hS
  refine lv_aload_n hx hb dX11_settled_0 rfl (lv_at hl 0 rfl) ?_
  refine x_get (ref := "NoteHouseModel") F hP hy rfl (fun _ h => List.mem_cons_of_mem _ (List.mem_append_right _ (h))) 50 (Nat.le_of_ble_eq_true rfl) (List.mem_cons_of_mem _ (List.mem_append_left _ (List.mem_of_getElem? (i := 0) rfl))) rfl rfl dX11_settled_1 ?_
  refine lv_if_eq (tgt := 31) hx hb dX11_settled_4 (by decide) (fun c_1 => ?_) (fun c_1 => absurd (show (0 : Int32) = (0 : Int32) by decide) c_1)
  refine lv_iconst (v := (-1)) hx hb dX11_settled_31 (by decide) ?_
  exact y_ir K hP hD hS (Nat.le_of_ble_eq_true rfl) (Nat.le_of_ble_eq_true rfl) (ty := .int) rfl rfl dX11_settled_32 rfl
set_option maxHeartbeats 4000000 in
set_option maxRecDepth 100000 in
theorem c_X11_due (l : Launch) (D : va_G) (cy : Nat → ClassId) (w : Wd) (y m2 m3 m4 m5 m6 m8 m9 m10 m11 m12 m13 m14 m17 m18 m19 m20 m21 m22 m23 m24 m29 m30 m31 m32 m33 m34 m35 m36 m37 m39 m40 m41 m42 m43 m44 m45 m46 m47 m48 m49 m51 m52 m53 m54 m56 m57 m58 m59 : Nat) (t : Int32) (hy : wd_at w y (.inr (11, [.int 0, .int 0, .ref m2, .ref m3, .ref m4, .ref m5, .ref m6, .int 0, .ref m8, .ref m9, .ref m10, .ref m11, .ref m12, .ref m13, .ref m14, .int 0, .int 0, .ref m17, .ref m18, .ref m19, .ref m20, .ref m21, .ref m22, .ref m23, .ref m24, .int 0, .int 0, .int 0, .int 0, .ref m29, .ref m30, .ref m31, .ref m32, .ref m33, .ref m34, .ref m35, .ref m36, .ref m37, .int 0, .ref m39, .ref m40, .ref m41, .ref m42, .ref m43, .ref m44, .ref m45, .ref m46, .ref m47, .ref m48, .ref m49, .int 0, .ref m51, .ref m52, .ref m53, .ref m54, .int 0, .ref m56, .ref m57, .ref m58, .ref m59])))   : Ct l D cy yX11_due wsX11_due ({ frames := 0, cells := 0, slots := 0, locals := 0 }) [.ref y, .int t] w (fun v w1 => v = some (.long 0)) := by
  refine Ct.by (cc := cX11_due) (maxL := 2) (ret := (some .long)) (by decide +kernel) rfl (Nat.le_of_ble_eq_true rfl) ?_
  intro p e s m args below meth c A Q F hnm K ls hl
  have F : wd_Fx p s m args meth c cX11_due 2 wsX11_due RX11 D cy A := F
  have hl : lv_has ls 2 [(0, .ref y), (1, .int t)] := hl
  have hx := F.1.1
  have hb := F.1.2.1
  have hown := F.1.2.2.2.1
  have hts := F.1.2.2.2.2
  intro H locs hP hD hS
  refine lv_aload_n hx hb dX11_due_0 rfl (lv_at hl 0 rfl) ?_
  refine x_get (ref := "NoteHouseModel") F hP hy rfl (fun _ h => List.mem_cons_of_mem _ (List.mem_append_right _ (h))) 50 (Nat.le_of_ble_eq_true rfl) (List.mem_cons_of_mem _ (List.mem_append_left _ (List.mem_of_getElem? (i := 0) rfl))) rfl rfl dX11_due_1 ?_
  refine lv_if_eq (tgt := 23) hx hb dX11_due_4 (by decide) (fun c_1 => ?_) (fun c_1 => absurd (show (0 : Int32) = (0 : Int32) by decide) c_1)
  refine lv_lconst (v := 0) hx hb dX11_due_23 (by decide) ?_
  exact y_lr K hP hD hS (Nat.le_of_ble_eq_true rfl) (Nat.le_of_ble_eq_true rfl) rfl dX11_due_24 rfl
set_option maxHeartbeats 4000000 in
set_option maxRecDepth 100000 in
theorem c_X11_netted (l : Launch) (D : va_G) (cy : Nat → ClassId) (w : Wd) (y m2 m3 m4 m5 m6 m8 m9 m10 m11 m12 m13 m14 m17 m18 m19 m20 m21 m22 m23 m24 m29 m30 m31 m32 m33 m34 m35 m36 m37 m39 m40 m41 m42 m43 m44 m45 m46 m47 m48 m49 m51 m52 m53 m54 m56 m57 m58 m59 : Nat) (k u : Int32) (hy : wd_at w y (.inr (11, [.int 0, .int 0, .ref m2, .ref m3, .ref m4, .ref m5, .ref m6, .int 0, .ref m8, .ref m9, .ref m10, .ref m11, .ref m12, .ref m13, .ref m14, .int 0, .int 0, .ref m17, .ref m18, .ref m19, .ref m20, .ref m21, .ref m22, .ref m23, .ref m24, .int 0, .int 0, .int 0, .int 0, .ref m29, .ref m30, .ref m31, .ref m32, .ref m33, .ref m34, .ref m35, .ref m36, .ref m37, .int 0, .ref m39, .ref m40, .ref m41, .ref m42, .ref m43, .ref m44, .ref m45, .ref m46, .ref m47, .ref m48, .ref m49, .int 0, .ref m51, .ref m52, .ref m53, .ref m54, .int 0, .ref m56, .ref m57, .ref m58, .ref m59])))   : Ct l D cy yX11_netted wsX11_netted ({ frames := 1, cells := 0, slots := 0, locals := 22 }) [.ref y, .int k, .int u] w (fun v w1 => v = some (.long (-1))) := by
  refine Ct.by (cc := cX11_netted) (maxL := 3) (ret := (some .long)) (by decide +kernel) rfl (Nat.le_of_ble_eq_true rfl) ?_
  intro p e s m args below meth c A Q F hnm K ls hl
  have F : wd_Fx p s m args meth c cX11_netted 3 wsX11_netted RX11 D cy A := F
  have hl : lv_has ls 3 [(0, .ref y), (1, .int k), (2, .int u)] := hl
  have hx := F.1.1
  have hb := F.1.2.1
  have hown := F.1.2.2.2.1
  have hts := F.1.2.2.2.2
  intro H locs hP hD hS
  refine lv_iload_n hx hb dX11_netted_0 rfl (lv_at hl 1 rfl) ?_
  refine lv_iconst (v := 0) hx hb dX11_netted_1 (by decide) ?_
  refine lv_aload_n hx hb dX11_netted_2 rfl (lv_at hl 0 rfl) ?_
  refine x_get (ref := "NoteHouseModel") F hP hy rfl (fun _ h => List.mem_cons_of_mem _ (List.mem_append_right _ (h))) 55 (Nat.le_of_ble_eq_true rfl) (List.mem_cons_of_mem _ (List.mem_append_left _ (List.mem_of_getElem? (i := 0) rfl))) rfl rfl dX11_netted_3 ?_
  refine lv_iconst (v := 1) hx hb dX11_netted_6 (by decide) ?_
  refine lv_isub hx hb dX11_netted_7 ?_
  rw [show (0 - 1 : Int32) = (-1) from by decide]
  refine x_callS (n := 3) (As := [.int k, .int 0, .int (-1)]) (rest := []) F hP hD hS (c_X11_in l D cy w k 0 (-1)) gX11_netted_X11_in rfl (by decide +kernel) ⟨(Nat.le_of_ble_eq_true rfl), (Nat.le_of_ble_eq_true rfl)⟩ rfl hl.1 (Nat.le_of_ble_eq_true rfl) dX11_netted_8 rfl ⟨(Nat.le_of_ble_eq_true rfl), (Nat.le_of_ble_eq_true rfl)⟩ (fun v2 w3 hp1 H locs hP hD hS => ?_)
  obtain ⟨rfl, rfl⟩ := hp1
  refine W.eq (g2 := F0 m 11 ls [.int (wi k 0 (-1))]) rfl (W.widen (k := 0) (n := 0) (Nat.le_of_ble_eq_true rfl) (Nat.le_of_ble_eq_true rfl) ?_)
  refine lv_if_ne (tgt := 18) hx hb dX11_netted_11 (by decide) (fun c_4 => absurd (wi_m1 k) c_4) (fun c_4 => ?_)
  refine lv_ldc2 (v := (-1)) hx hb hown (hts _ (List.mem_cons_of_mem _ (List.mem_append_left _ (List.mem_of_getElem? (i := 1) rfl)))) dX11_netted_14 ?_
  exact y_lr K hP hD hS (Nat.le_of_ble_eq_true rfl) (Nat.le_of_ble_eq_true rfl) rfl dX11_netted_17 rfl
set_option maxHeartbeats 4000000 in
set_option maxRecDepth 100000 in
theorem c_X11_end (l : Launch) (D : va_G) (cy : Nat → ClassId) (w : Wd) (y m2 m3 m4 m5 m6 m8 m9 m10 m11 m12 m13 m14 m17 m18 m19 m20 m21 m22 m23 m24 m29 m30 m31 m32 m33 m34 m35 m36 m37 m39 m40 m41 m42 m43 m44 m45 m46 m47 m48 m49 m51 m52 m53 m54 m56 m57 m58 m59 : Nat) (n : Int32) (hy : wd_at w y (.inr (11, [.int 0, .int 0, .ref m2, .ref m3, .ref m4, .ref m5, .ref m6, .int 0, .ref m8, .ref m9, .ref m10, .ref m11, .ref m12, .ref m13, .ref m14, .int 0, .int 0, .ref m17, .ref m18, .ref m19, .ref m20, .ref m21, .ref m22, .ref m23, .ref m24, .int 0, .int 0, .int 0, .int 0, .ref m29, .ref m30, .ref m31, .ref m32, .ref m33, .ref m34, .ref m35, .ref m36, .ref m37, .int 0, .ref m39, .ref m40, .ref m41, .ref m42, .ref m43, .ref m44, .ref m45, .ref m46, .ref m47, .ref m48, .ref m49, .int 0, .ref m51, .ref m52, .ref m53, .ref m54, .int 0, .ref m56, .ref m57, .ref m58, .ref m59])))   : Ct l D cy yX11_end wsX11_end ({ frames := 0, cells := 0, slots := 0, locals := 0 }) [.ref y, .int n] w (fun v w1 => v = some (.int (sp_end n))) := by
  refine Ct.by (cc := cX11_end) (maxL := 2) (ret := (some .int)) (by decide +kernel) rfl (Nat.le_of_ble_eq_true rfl) ?_
  intro p e s m args below meth c A Q F hnm K ls hl
  have F : wd_Fx p s m args meth c cX11_end 2 wsX11_end RX11 D cy A := F
  have hl : lv_has ls 2 [(0, .ref y), (1, .int n)] := hl
  have hx := F.1.1
  have hb := F.1.2.1
  have hown := F.1.2.2.2.1
  have hts := F.1.2.2.2.2
  intro H locs hP hD hS
  refine lv_iload_n hx hb dX11_end_0 rfl (lv_at hl 1 rfl) ?_
  refine lv_if_lt (tgt := 12) hx hb dX11_end_1 (by decide) (fun c_1 => ?_) (fun c_1 => ?_)
  · refine lv_iconst (v := (-1)) hx hb dX11_end_12 (by decide) ?_
    exact y_ir K hP hD hS (Nat.le_of_ble_eq_true rfl) (Nat.le_of_ble_eq_true rfl) (ty := .int) rfl rfl dX11_end_13 (by simp [sp_end, c_1])
  · refine lv_iload_n hx hb dX11_end_4 rfl (lv_at hl 1 rfl) ?_
    refine lv_aload_n hx hb dX11_end_5 rfl (lv_at hl 0 rfl) ?_
    refine x_get (ref := "NoteHouseModel") F hP hy rfl (fun _ h => List.mem_cons_of_mem _ (List.mem_append_right _ (h))) 25 (Nat.le_of_ble_eq_true rfl) (List.mem_cons_of_mem _ (List.mem_append_left _ (List.mem_of_getElem? (i := 0) rfl))) rfl rfl dX11_end_6 ?_
    refine lv_icmp_le (tgt := 14) hx hb dX11_end_9 (by decide) (fun c_2 => ?_) (fun c_2 => ?_)
    · refine lv_aload_n hx hb dX11_end_14 rfl (lv_at hl 0 rfl) ?_
      refine lv_iload_n hx hb dX11_end_15 rfl (lv_at hl 1 rfl) ?_
      refine y_put (ref := "NoteHouseModel") F hP hD hS hy rfl (fun _ h => List.mem_cons_of_mem _ (List.mem_append_right _ (h))) tyX11_ok nmX11 25 (Nat.le_of_ble_eq_true rfl) (List.mem_cons_of_mem _ (List.mem_append_left _ (List.mem_of_getElem? (i := 0) rfl))) rfl rfl rfl rfl (Nat.le_of_ble_eq_true rfl) dX11_end_16 (fun w3 ew4 H locs hP hD hS => ?_)
      have k5 : wd_at w3 y (.inr (11, [.int 0, .int 0, .ref m2, .ref m3, .ref m4, .ref m5, .ref m6, .int 0, .ref m8, .ref m9, .ref m10, .ref m11, .ref m12, .ref m13, .ref m14, .int 0, .int 0, .ref m17, .ref m18, .ref m19, .ref m20, .ref m21, .ref m22, .ref m23, .ref m24, .int n, .int 0, .int 0, .int 0, .ref m29, .ref m30, .ref m31, .ref m32, .ref m33, .ref m34, .ref m35, .ref m36, .ref m37, .int 0, .ref m39, .ref m40, .ref m41, .ref m42, .ref m43, .ref m44, .ref m45, .ref m46, .ref m47, .ref m48, .ref m49, .int 0, .ref m51, .ref m52, .ref m53, .ref m54, .int 0, .ref m56, .ref m57, .ref m58, .ref m59])) := wd_at.ps ew4 hy
      refine lv_iload_n hx hb dX11_end_19 rfl (lv_at hl 1 rfl) ?_
      exact y_ir K hP hD hS (Nat.le_of_ble_eq_true rfl) (Nat.le_of_ble_eq_true rfl) (ty := .int) rfl rfl dX11_end_20 (by simp [sp_end, c_1, c_2])
    · refine lv_iconst (v := (-1)) hx hb dX11_end_12 (by decide) ?_
      exact y_ir K hP hD hS (Nat.le_of_ble_eq_true rfl) (Nat.le_of_ble_eq_true rfl) (ty := .int) rfl rfl dX11_end_13 (by simp [sp_end, c_1, c_2])
set_option maxHeartbeats 4000000 in
set_option maxRecDepth 100000 in
theorem c_X11_put (l : Launch) (D : va_G) (cy : Nat → ClassId) (w : Wd) (y m2 m3 m4 m5 m6 m8 m9 m10 m11 m12 m13 m14 m17 m18 m19 m20 m21 m22 m23 m24 m29 m30 m31 m32 m33 m34 m35 m36 m37 m39 m40 m41 m42 m43 m44 m45 m46 m47 m48 m49 m51 m52 m53 m54 m56 m57 m58 m59 : Nat) (k : Nat) (x : Int32) (f : Nat → Int32) (hy : wd_at w y (.inr (11, [.int 0, .int 0, .ref m2, .ref m3, .ref m4, .ref m5, .ref m6, .int 0, .ref m8, .ref m9, .ref m10, .ref m11, .ref m12, .ref m13, .ref m14, .int 0, .int 0, .ref m17, .ref m18, .ref m19, .ref m20, .ref m21, .ref m22, .ref m23, .ref m24, .int (nI k), .int 0, .int 0, .int 0, .ref m29, .ref m30, .ref m31, .ref m32, .ref m33, .ref m34, .ref m35, .ref m36, .ref m37, .int 0, .ref m39, .ref m40, .ref m41, .ref m42, .ref m43, .ref m44, .ref m45, .ref m46, .ref m47, .ref m48, .ref m49, .int 0, .ref m51, .ref m52, .ref m53, .ref m54, .int 0, .ref m56, .ref m57, .ref m58, .ref m59]))) (h24 : wd_at w m24 (.inl (cy 0, 300, .inl f)))  (hk : k + 4 ≤ 300) : Ct l D cy yX11_put wsX11_put ({ frames := 0, cells := 0, slots := 0, locals := 0 }) [.ref y, .int x] w (fun v w1 => v = none ∧ wd_at w1 y (.inr (11, [.int 0, .int 0, .ref m2, .ref m3, .ref m4, .ref m5, .ref m6, .int 0, .ref m8, .ref m9, .ref m10, .ref m11, .ref m12, .ref m13, .ref m14, .int 0, .int 0, .ref m17, .ref m18, .ref m19, .ref m20, .ref m21, .ref m22, .ref m23, .ref m24, .int (nI (k + 4)), .int 0, .int 0, .int 0, .ref m29, .ref m30, .ref m31, .ref m32, .ref m33, .ref m34, .ref m35, .ref m36, .ref m37, .int 0, .ref m39, .ref m40, .ref m41, .ref m42, .ref m43, .ref m44, .ref m45, .ref m46, .ref m47, .ref m48, .ref m49, .int 0, .ref m51, .ref m52, .ref m53, .ref m54, .int 0, .ref m56, .ref m57, .ref m58, .ref m59])) ∧ ∃ g : Nat → Int32, wd_at w1 m24 (.inl (cy 0, 300, .inl g))) := by
  refine Ct.by (cc := cX11_put) (maxL := 3) (ret := none) (by decide +kernel) rfl (Nat.le_of_ble_eq_true rfl) ?_
  intro p e s m args below meth c A Q F hnm K ls hl
  have F : wd_Fx p s m args meth c cX11_put 3 wsX11_put RX11 D cy A := F
  have hl : lv_has ls 3 [(0, .ref y), (1, .int x)] := hl
  have hx := F.1.1
  have hb := F.1.2.1
  have hown := F.1.2.2.2.1
  have hts := F.1.2.2.2.2
  intro H locs hP hD hS
  refine lv_bipush (v := 24) hx hb dX11_put_0 (by decide) ?_
  refine lv_istore_n (lv' := [(2, .int 24), (0, .ref y), (1, .int x)]) hx hb dX11_put_2 rfl hl (by decide) rfl (fun ls hl => ?_)
  refine lv_iload_n hx hb dX11_put_3 rfl (lv_at hl 0 rfl) ?_
  refine lv_if_lt (tgt := 36) hx hb dX11_put_4 (by decide) (fun c_1 => absurd c_1 (show ¬ (24 : Int32) < (0 : Int32) by decide)) (fun c_1 => ?_)
  refine lv_aload_n hx hb dX11_put_7 rfl (lv_at hl 1 rfl) ?_
  refine x_get (ref := "NoteHouseModel") F hP hy rfl (fun _ h => List.mem_cons_of_mem _ (List.mem_append_right _ (h))) 24 (Nat.le_of_ble_eq_true rfl) (List.mem_cons_of_mem _ (List.mem_append_left _ (List.mem_of_getElem? (i := 0) rfl))) rfl rfl dX11_put_8 ?_
  refine lv_aload_n hx hb dX11_put_11 rfl (lv_at hl 1 rfl) ?_
  refine x_get (ref := "NoteHouseModel") F hP hy rfl (fun _ h => List.mem_cons_of_mem _ (List.mem_append_right _ (h))) 25 (Nat.le_of_ble_eq_true rfl) (List.mem_cons_of_mem _ (List.mem_append_left _ (List.mem_of_getElem? (i := 1) rfl))) rfl rfl dX11_put_12 ?_
  refine lv_iload_n hx hb dX11_put_15 rfl (lv_at hl 2 rfl) ?_
  refine lv_iload_n hx hb dX11_put_16 rfl (lv_at hl 0 rfl) ?_
  refine lv_ishr hx hb dX11_put_17 ?_
  refine lv_i2b (v := (x >>> (24 &&& 31)).toInt8.toInt32) hx hb dX11_put_18 (rfl) ?_
  refine y_bast F hP hD hS h24 (vp_in_nI (n := k) (by omega) (by decide)) dX11_put_19 (fun w2 ew3 H locs hP hD hS => ?_)
  have k4 := wd_at.pt ew3 hy (wd_nk hy h24 rfl)
  have k5 : wd_at w2 m24 (.inl (cy 0, 300, .inl (upd f (nI k).toNatClampNeg (vp_nar .byte ((x >>> (24 &&& 31)).toInt8.toInt32))))) := wd_at.ps ew3 h24
  refine lv_aload_n hx hb dX11_put_20 rfl (lv_at hl 1 rfl) ?_
  refine lv_dup hx hb dX11_put_21 rfl ?_
  refine x_get (ref := "NoteHouseModel") F hP k4 rfl (fun _ h => List.mem_cons_of_mem _ (List.mem_append_right _ (h))) 25 (Nat.le_of_ble_eq_true rfl) (List.mem_cons_of_mem _ (List.mem_append_left _ (List.mem_of_getElem? (i := 1) rfl))) rfl rfl dX11_put_22 ?_
  refine lv_iconst (v := 1) hx hb dX11_put_25 (by decide) ?_
  refine lv_iadd hx hb dX11_put_26 ?_
  rw [show ((nI k) + 1 : Int32) = nI (k + 1) from nI_1 k]
  refine y_put (ref := "NoteHouseModel") F hP hD hS k4 rfl (fun _ h => List.mem_cons_of_mem _ (List.mem_append_right _ (h))) tyX11_ok nmX11 25 (Nat.le_of_ble_eq_true rfl) (List.mem_cons_of_mem _ (List.mem_append_left _ (List.mem_of_getElem? (i := 1) rfl))) rfl rfl rfl rfl (Nat.le_of_ble_eq_true rfl) dX11_put_27 (fun w6 ew7 H locs hP hD hS => ?_)
  have k8 : wd_at w6 y (.inr (11, [.int 0, .int 0, .ref m2, .ref m3, .ref m4, .ref m5, .ref m6, .int 0, .ref m8, .ref m9, .ref m10, .ref m11, .ref m12, .ref m13, .ref m14, .int 0, .int 0, .ref m17, .ref m18, .ref m19, .ref m20, .ref m21, .ref m22, .ref m23, .ref m24, .int (nI (k + 1)), .int 0, .int 0, .int 0, .ref m29, .ref m30, .ref m31, .ref m32, .ref m33, .ref m34, .ref m35, .ref m36, .ref m37, .int 0, .ref m39, .ref m40, .ref m41, .ref m42, .ref m43, .ref m44, .ref m45, .ref m46, .ref m47, .ref m48, .ref m49, .int 0, .ref m51, .ref m52, .ref m53, .ref m54, .int 0, .ref m56, .ref m57, .ref m58, .ref m59])) := wd_at.ps ew7 k4
  have k9 := wd_at.pt ew7 k5 (wd_nk k5 k4 rfl)
  refine lv_iinc (v := 16) (lv' := [(2, .int 16), (0, .ref y), (1, .int x)]) hx hb dX11_put_30 hl (k := 0) rfl (by decide) (by decide) rfl (fun ls hl => ?_)
  refine lv_goto (tgt := 3) hx hb dX11_put_33 (by decide) ?_
  refine lv_iload_n hx hb dX11_put_3 rfl (lv_at hl 0 rfl) ?_
  refine lv_if_lt (tgt := 36) hx hb dX11_put_4 (by decide) (fun c_10 => absurd c_10 (show ¬ (16 : Int32) < (0 : Int32) by decide)) (fun c_10 => ?_)
  refine lv_aload_n hx hb dX11_put_7 rfl (lv_at hl 1 rfl) ?_
  refine x_get (ref := "NoteHouseModel") F hP k8 rfl (fun _ h => List.mem_cons_of_mem _ (List.mem_append_right _ (h))) 24 (Nat.le_of_ble_eq_true rfl) (List.mem_cons_of_mem _ (List.mem_append_left _ (List.mem_of_getElem? (i := 0) rfl))) rfl rfl dX11_put_8 ?_
  refine lv_aload_n hx hb dX11_put_11 rfl (lv_at hl 1 rfl) ?_
  refine x_get (ref := "NoteHouseModel") F hP k8 rfl (fun _ h => List.mem_cons_of_mem _ (List.mem_append_right _ (h))) 25 (Nat.le_of_ble_eq_true rfl) (List.mem_cons_of_mem _ (List.mem_append_left _ (List.mem_of_getElem? (i := 1) rfl))) rfl rfl dX11_put_12 ?_
  refine lv_iload_n hx hb dX11_put_15 rfl (lv_at hl 2 rfl) ?_
  refine lv_iload_n hx hb dX11_put_16 rfl (lv_at hl 0 rfl) ?_
  refine lv_ishr hx hb dX11_put_17 ?_
  refine lv_i2b (v := (x >>> (16 &&& 31)).toInt8.toInt32) hx hb dX11_put_18 (rfl) ?_
  refine y_bast F hP hD hS k9 (vp_in_nI (n := (k + 1)) (by omega) (by decide)) dX11_put_19 (fun w11 ew12 H locs hP hD hS => ?_)
  have k13 := wd_at.pt ew12 k8 (wd_nk k8 k9 rfl)
  have k14 : wd_at w11 m24 (.inl (cy 0, 300, .inl (upd (upd f (nI k).toNatClampNeg (vp_nar .byte ((x >>> (24 &&& 31)).toInt8.toInt32))) (nI (k + 1)).toNatClampNeg (vp_nar .byte ((x >>> (16 &&& 31)).toInt8.toInt32))))) := wd_at.ps ew12 k9
  refine lv_aload_n hx hb dX11_put_20 rfl (lv_at hl 1 rfl) ?_
  refine lv_dup hx hb dX11_put_21 rfl ?_
  refine x_get (ref := "NoteHouseModel") F hP k13 rfl (fun _ h => List.mem_cons_of_mem _ (List.mem_append_right _ (h))) 25 (Nat.le_of_ble_eq_true rfl) (List.mem_cons_of_mem _ (List.mem_append_left _ (List.mem_of_getElem? (i := 1) rfl))) rfl rfl dX11_put_22 ?_
  refine lv_iconst (v := 1) hx hb dX11_put_25 (by decide) ?_
  refine lv_iadd hx hb dX11_put_26 ?_
  rw [show ((nI (k + 1)) + 1 : Int32) = nI (k + 2) from nI_1 (k + 1)]
  refine y_put (ref := "NoteHouseModel") F hP hD hS k13 rfl (fun _ h => List.mem_cons_of_mem _ (List.mem_append_right _ (h))) tyX11_ok nmX11 25 (Nat.le_of_ble_eq_true rfl) (List.mem_cons_of_mem _ (List.mem_append_left _ (List.mem_of_getElem? (i := 1) rfl))) rfl rfl rfl rfl (Nat.le_of_ble_eq_true rfl) dX11_put_27 (fun w15 ew16 H locs hP hD hS => ?_)
  have k17 : wd_at w15 y (.inr (11, [.int 0, .int 0, .ref m2, .ref m3, .ref m4, .ref m5, .ref m6, .int 0, .ref m8, .ref m9, .ref m10, .ref m11, .ref m12, .ref m13, .ref m14, .int 0, .int 0, .ref m17, .ref m18, .ref m19, .ref m20, .ref m21, .ref m22, .ref m23, .ref m24, .int (nI (k + 2)), .int 0, .int 0, .int 0, .ref m29, .ref m30, .ref m31, .ref m32, .ref m33, .ref m34, .ref m35, .ref m36, .ref m37, .int 0, .ref m39, .ref m40, .ref m41, .ref m42, .ref m43, .ref m44, .ref m45, .ref m46, .ref m47, .ref m48, .ref m49, .int 0, .ref m51, .ref m52, .ref m53, .ref m54, .int 0, .ref m56, .ref m57, .ref m58, .ref m59])) := wd_at.ps ew16 k13
  have k18 := wd_at.pt ew16 k14 (wd_nk k14 k13 rfl)
  refine lv_iinc (v := 8) (lv' := [(2, .int 8), (0, .ref y), (1, .int x)]) hx hb dX11_put_30 hl (k := 0) rfl (by decide) (by decide) rfl (fun ls hl => ?_)
  refine lv_goto (tgt := 3) hx hb dX11_put_33 (by decide) ?_
  refine lv_iload_n hx hb dX11_put_3 rfl (lv_at hl 0 rfl) ?_
  refine lv_if_lt (tgt := 36) hx hb dX11_put_4 (by decide) (fun c_19 => absurd c_19 (show ¬ (8 : Int32) < (0 : Int32) by decide)) (fun c_19 => ?_)
  refine lv_aload_n hx hb dX11_put_7 rfl (lv_at hl 1 rfl) ?_
  refine x_get (ref := "NoteHouseModel") F hP k17 rfl (fun _ h => List.mem_cons_of_mem _ (List.mem_append_right _ (h))) 24 (Nat.le_of_ble_eq_true rfl) (List.mem_cons_of_mem _ (List.mem_append_left _ (List.mem_of_getElem? (i := 0) rfl))) rfl rfl dX11_put_8 ?_
  refine lv_aload_n hx hb dX11_put_11 rfl (lv_at hl 1 rfl) ?_
  refine x_get (ref := "NoteHouseModel") F hP k17 rfl (fun _ h => List.mem_cons_of_mem _ (List.mem_append_right _ (h))) 25 (Nat.le_of_ble_eq_true rfl) (List.mem_cons_of_mem _ (List.mem_append_left _ (List.mem_of_getElem? (i := 1) rfl))) rfl rfl dX11_put_12 ?_
  refine lv_iload_n hx hb dX11_put_15 rfl (lv_at hl 2 rfl) ?_
  refine lv_iload_n hx hb dX11_put_16 rfl (lv_at hl 0 rfl) ?_
  refine lv_ishr hx hb dX11_put_17 ?_
  refine lv_i2b (v := (x >>> (8 &&& 31)).toInt8.toInt32) hx hb dX11_put_18 (rfl) ?_
  refine y_bast F hP hD hS k18 (vp_in_nI (n := (k + 2)) (by omega) (by decide)) dX11_put_19 (fun w20 ew21 H locs hP hD hS => ?_)
  have k22 := wd_at.pt ew21 k17 (wd_nk k17 k18 rfl)
  have k23 : wd_at w20 m24 (.inl (cy 0, 300, .inl (upd (upd (upd f (nI k).toNatClampNeg (vp_nar .byte ((x >>> (24 &&& 31)).toInt8.toInt32))) (nI (k + 1)).toNatClampNeg (vp_nar .byte ((x >>> (16 &&& 31)).toInt8.toInt32))) (nI (k + 2)).toNatClampNeg (vp_nar .byte ((x >>> (8 &&& 31)).toInt8.toInt32))))) := wd_at.ps ew21 k18
  refine lv_aload_n hx hb dX11_put_20 rfl (lv_at hl 1 rfl) ?_
  refine lv_dup hx hb dX11_put_21 rfl ?_
  refine x_get (ref := "NoteHouseModel") F hP k22 rfl (fun _ h => List.mem_cons_of_mem _ (List.mem_append_right _ (h))) 25 (Nat.le_of_ble_eq_true rfl) (List.mem_cons_of_mem _ (List.mem_append_left _ (List.mem_of_getElem? (i := 1) rfl))) rfl rfl dX11_put_22 ?_
  refine lv_iconst (v := 1) hx hb dX11_put_25 (by decide) ?_
  refine lv_iadd hx hb dX11_put_26 ?_
  rw [show ((nI (k + 2)) + 1 : Int32) = nI (k + 3) from nI_1 (k + 2)]
  refine y_put (ref := "NoteHouseModel") F hP hD hS k22 rfl (fun _ h => List.mem_cons_of_mem _ (List.mem_append_right _ (h))) tyX11_ok nmX11 25 (Nat.le_of_ble_eq_true rfl) (List.mem_cons_of_mem _ (List.mem_append_left _ (List.mem_of_getElem? (i := 1) rfl))) rfl rfl rfl rfl (Nat.le_of_ble_eq_true rfl) dX11_put_27 (fun w24 ew25 H locs hP hD hS => ?_)
  have k26 : wd_at w24 y (.inr (11, [.int 0, .int 0, .ref m2, .ref m3, .ref m4, .ref m5, .ref m6, .int 0, .ref m8, .ref m9, .ref m10, .ref m11, .ref m12, .ref m13, .ref m14, .int 0, .int 0, .ref m17, .ref m18, .ref m19, .ref m20, .ref m21, .ref m22, .ref m23, .ref m24, .int (nI (k + 3)), .int 0, .int 0, .int 0, .ref m29, .ref m30, .ref m31, .ref m32, .ref m33, .ref m34, .ref m35, .ref m36, .ref m37, .int 0, .ref m39, .ref m40, .ref m41, .ref m42, .ref m43, .ref m44, .ref m45, .ref m46, .ref m47, .ref m48, .ref m49, .int 0, .ref m51, .ref m52, .ref m53, .ref m54, .int 0, .ref m56, .ref m57, .ref m58, .ref m59])) := wd_at.ps ew25 k22
  have k27 := wd_at.pt ew25 k23 (wd_nk k23 k22 rfl)
  refine lv_iinc (v := 0) (lv' := [(2, .int 0), (0, .ref y), (1, .int x)]) hx hb dX11_put_30 hl (k := 0) rfl (by decide) (by decide) rfl (fun ls hl => ?_)
  refine lv_goto (tgt := 3) hx hb dX11_put_33 (by decide) ?_
  refine lv_iload_n hx hb dX11_put_3 rfl (lv_at hl 0 rfl) ?_
  refine lv_if_lt (tgt := 36) hx hb dX11_put_4 (by decide) (fun c_28 => absurd c_28 (show ¬ (0 : Int32) < (0 : Int32) by decide)) (fun c_28 => ?_)
  refine lv_aload_n hx hb dX11_put_7 rfl (lv_at hl 1 rfl) ?_
  refine x_get (ref := "NoteHouseModel") F hP k26 rfl (fun _ h => List.mem_cons_of_mem _ (List.mem_append_right _ (h))) 24 (Nat.le_of_ble_eq_true rfl) (List.mem_cons_of_mem _ (List.mem_append_left _ (List.mem_of_getElem? (i := 0) rfl))) rfl rfl dX11_put_8 ?_
  refine lv_aload_n hx hb dX11_put_11 rfl (lv_at hl 1 rfl) ?_
  refine x_get (ref := "NoteHouseModel") F hP k26 rfl (fun _ h => List.mem_cons_of_mem _ (List.mem_append_right _ (h))) 25 (Nat.le_of_ble_eq_true rfl) (List.mem_cons_of_mem _ (List.mem_append_left _ (List.mem_of_getElem? (i := 1) rfl))) rfl rfl dX11_put_12 ?_
  refine lv_iload_n hx hb dX11_put_15 rfl (lv_at hl 2 rfl) ?_
  refine lv_iload_n hx hb dX11_put_16 rfl (lv_at hl 0 rfl) ?_
  refine lv_ishr hx hb dX11_put_17 ?_
  refine lv_i2b (v := (x >>> (0 &&& 31)).toInt8.toInt32) hx hb dX11_put_18 (rfl) ?_
  refine y_bast F hP hD hS k27 (vp_in_nI (n := (k + 3)) (by omega) (by decide)) dX11_put_19 (fun w29 ew30 H locs hP hD hS => ?_)
  have k31 := wd_at.pt ew30 k26 (wd_nk k26 k27 rfl)
  have k32 : wd_at w29 m24 (.inl (cy 0, 300, .inl (upd (upd (upd (upd f (nI k).toNatClampNeg (vp_nar .byte ((x >>> (24 &&& 31)).toInt8.toInt32))) (nI (k + 1)).toNatClampNeg (vp_nar .byte ((x >>> (16 &&& 31)).toInt8.toInt32))) (nI (k + 2)).toNatClampNeg (vp_nar .byte ((x >>> (8 &&& 31)).toInt8.toInt32))) (nI (k + 3)).toNatClampNeg (vp_nar .byte ((x >>> (0 &&& 31)).toInt8.toInt32))))) := wd_at.ps ew30 k27
  refine lv_aload_n hx hb dX11_put_20 rfl (lv_at hl 1 rfl) ?_
  refine lv_dup hx hb dX11_put_21 rfl ?_
  refine x_get (ref := "NoteHouseModel") F hP k31 rfl (fun _ h => List.mem_cons_of_mem _ (List.mem_append_right _ (h))) 25 (Nat.le_of_ble_eq_true rfl) (List.mem_cons_of_mem _ (List.mem_append_left _ (List.mem_of_getElem? (i := 1) rfl))) rfl rfl dX11_put_22 ?_
  refine lv_iconst (v := 1) hx hb dX11_put_25 (by decide) ?_
  refine lv_iadd hx hb dX11_put_26 ?_
  rw [show ((nI (k + 3)) + 1 : Int32) = nI (k + 4) from nI_1 (k + 3)]
  refine y_put (ref := "NoteHouseModel") F hP hD hS k31 rfl (fun _ h => List.mem_cons_of_mem _ (List.mem_append_right _ (h))) tyX11_ok nmX11 25 (Nat.le_of_ble_eq_true rfl) (List.mem_cons_of_mem _ (List.mem_append_left _ (List.mem_of_getElem? (i := 1) rfl))) rfl rfl rfl rfl (Nat.le_of_ble_eq_true rfl) dX11_put_27 (fun w33 ew34 H locs hP hD hS => ?_)
  have k35 : wd_at w33 y (.inr (11, [.int 0, .int 0, .ref m2, .ref m3, .ref m4, .ref m5, .ref m6, .int 0, .ref m8, .ref m9, .ref m10, .ref m11, .ref m12, .ref m13, .ref m14, .int 0, .int 0, .ref m17, .ref m18, .ref m19, .ref m20, .ref m21, .ref m22, .ref m23, .ref m24, .int (nI (k + 4)), .int 0, .int 0, .int 0, .ref m29, .ref m30, .ref m31, .ref m32, .ref m33, .ref m34, .ref m35, .ref m36, .ref m37, .int 0, .ref m39, .ref m40, .ref m41, .ref m42, .ref m43, .ref m44, .ref m45, .ref m46, .ref m47, .ref m48, .ref m49, .int 0, .ref m51, .ref m52, .ref m53, .ref m54, .int 0, .ref m56, .ref m57, .ref m58, .ref m59])) := wd_at.ps ew34 k31
  have k36 := wd_at.pt ew34 k32 (wd_nk k32 k31 rfl)
  refine lv_iinc (v := (-8)) (lv' := [(2, .int (-8)), (0, .ref y), (1, .int x)]) hx hb dX11_put_30 hl (k := 0) rfl (by decide) (by decide) rfl (fun ls hl => ?_)
  refine lv_goto (tgt := 3) hx hb dX11_put_33 (by decide) ?_
  refine lv_iload_n hx hb dX11_put_3 rfl (lv_at hl 0 rfl) ?_
  refine lv_if_lt (tgt := 36) hx hb dX11_put_4 (by decide) (fun c_37 => ?_) (fun c_37 => absurd (show (-8 : Int32) < (0 : Int32) by decide) c_37)
  exact y_vr K hP hD hS (Nat.le_of_ble_eq_true rfl) (Nat.le_of_ble_eq_true rfl) rfl dX11_put_36 (⟨rfl, k35, _, k36⟩)
set_option maxHeartbeats 4000000 in
set_option maxRecDepth 100000 in
theorem c_X11_feed (l : Launch) (D : va_G) (cy : Nat → ClassId) (w : Wd) (y m2 m3 m4 m5 m6 m8 m9 m10 m11 m12 m13 m14 m17 m18 m19 m20 m21 m22 m23 m24 m29 m30 m31 m32 m33 m34 m35 m36 m37 m39 m40 m41 m42 m43 m44 m45 m46 m47 m48 m49 m51 m52 m53 m54 m56 m57 m58 m59 : Nat) (f : Nat → Int32) (c1 c2 c3 c4 c5 : Int32) (hy : wd_at w y (.inr (11, [.int 0, .int 0, .ref m2, .ref m3, .ref m4, .ref m5, .ref m6, .int 0, .ref m8, .ref m9, .ref m10, .ref m11, .ref m12, .ref m13, .ref m14, .int 0, .int 0, .ref m17, .ref m18, .ref m19, .ref m20, .ref m21, .ref m22, .ref m23, .ref m24, .int 0, .int 0, .int 0, .int 0, .ref m29, .ref m30, .ref m31, .ref m32, .ref m33, .ref m34, .ref m35, .ref m36, .ref m37, .int 0, .ref m39, .ref m40, .ref m41, .ref m42, .ref m43, .ref m44, .ref m45, .ref m46, .ref m47, .ref m48, .ref m49, .int 0, .ref m51, .ref m52, .ref m53, .ref m54, .int 0, .ref m56, .ref m57, .ref m58, .ref m59]))) (h24 : wd_at w m24 (.inl (cy 0, 300, .inl f)))   : Ct l D cy yX11_feed wsX11_feed ({ frames := 1, cells := 0, slots := 0, locals := 22 }) [.ref y, .int c1, .int c2, .int c3, .int c4, .int c5] w (fun v w1 => v = some (.int 20)) := by
  refine Ct.by (cc := cX11_feed) (maxL := 6) (ret := (some .int)) (by decide +kernel) rfl (Nat.le_of_ble_eq_true rfl) ?_
  intro p e s m args below meth c A Q F hnm K ls hl
  have F : wd_Fx p s m args meth c cX11_feed 6 wsX11_feed RX11 D cy A := F
  have hl : lv_has ls 6 [(0, .ref y), (1, .int c1), (2, .int c2), (3, .int c3), (4, .int c4), (5, .int c5)] := hl
  have hx := F.1.1
  have hb := F.1.2.1
  have hown := F.1.2.2.2.1
  have hts := F.1.2.2.2.2
  intro H locs hP hD hS
  refine lv_aload_n hx hb dX11_feed_0 rfl (lv_at hl 0 rfl) ?_
  refine x_get (ref := "NoteHouseModel") F hP hy rfl (fun _ h => List.mem_cons_of_mem _ (List.mem_append_right _ (h))) 25 (Nat.le_of_ble_eq_true rfl) (List.mem_cons_of_mem _ (List.mem_append_left _ (List.mem_of_getElem? (i := 0) rfl))) rfl rfl dX11_feed_1 ?_
  refine lv_bipush (v := 20) hx hb dX11_feed_4 (by decide) ?_
  refine lv_iadd hx hb dX11_feed_6 ?_
  rw [show (0 + 20 : Int32) = 20 from by decide]
  refine lv_sipush (v := 300) hx hb dX11_feed_7 (by decide) ?_
  refine lv_icmp_le (tgt := 15) hx hb dX11_feed_10 (by decide) (fun c_1 => ?_) (fun c_1 => absurd (show (20 : Int32) ≤ (300 : Int32) by decide) c_1)
  refine lv_aload_n hx hb dX11_feed_15 rfl (lv_at hl 0 rfl) ?_
  refine lv_iload_n hx hb dX11_feed_16 rfl (lv_at hl 1 rfl) ?_
  refine x_callV (n := 1) (As := [.int c1]) (rest := []) F hP hD hS (c_X11_put l D cy w y m2 m3 m4 m5 m6 m8 m9 m10 m11 m12 m13 m14 m17 m18 m19 m20 m21 m22 m23 m24 m29 m30 m31 m32 m33 m34 m35 m36 m37 m39 m40 m41 m42 m43 m44 m45 m46 m47 m48 m49 m51 m52 m53 m54 m56 m57 m58 m59 0 c1 f hy h24 (by decide)) gX11_feed_X11_put rfl rfl (by decide +kernel) ⟨(Nat.le_of_ble_eq_true rfl), (Nat.le_of_ble_eq_true rfl)⟩ rfl hl.1 (Nat.le_of_ble_eq_true rfl) hy rfl dX11_feed_17 rfl ⟨(Nat.le_of_ble_eq_true rfl), (Nat.le_of_ble_eq_true rfl)⟩ (fun v3 w4 hp2 H locs hP hD hS => ?_)
  obtain ⟨rfl, k6, g5, k7⟩ := hp2
  refine W.eq (g2 := F0 m 20 ls []) rfl (W.widen (k := 0) (n := 0) (Nat.le_of_ble_eq_true rfl) (Nat.le_of_ble_eq_true rfl) ?_)
  refine lv_aload_n hx hb dX11_feed_20 rfl (lv_at hl 0 rfl) ?_
  refine lv_iload_n hx hb dX11_feed_21 rfl (lv_at hl 2 rfl) ?_
  refine x_callV (n := 1) (As := [.int c2]) (rest := []) F hP hD hS (c_X11_put l D cy w4 y m2 m3 m4 m5 m6 m8 m9 m10 m11 m12 m13 m14 m17 m18 m19 m20 m21 m22 m23 m24 m29 m30 m31 m32 m33 m34 m35 m36 m37 m39 m40 m41 m42 m43 m44 m45 m46 m47 m48 m49 m51 m52 m53 m54 m56 m57 m58 m59 4 c2 g5 k6 k7 (by decide)) gX11_feed_X11_put rfl rfl (by decide +kernel) ⟨(Nat.le_of_ble_eq_true rfl), (Nat.le_of_ble_eq_true rfl)⟩ rfl hl.1 (Nat.le_of_ble_eq_true rfl) k6 rfl dX11_feed_22 rfl ⟨(Nat.le_of_ble_eq_true rfl), (Nat.le_of_ble_eq_true rfl)⟩ (fun v9 w10 hp8 H locs hP hD hS => ?_)
  obtain ⟨rfl, k12, g11, k13⟩ := hp8
  refine W.eq (g2 := F0 m 25 ls []) rfl (W.widen (k := 0) (n := 0) (Nat.le_of_ble_eq_true rfl) (Nat.le_of_ble_eq_true rfl) ?_)
  refine lv_aload_n hx hb dX11_feed_25 rfl (lv_at hl 0 rfl) ?_
  refine lv_iload_n hx hb dX11_feed_26 rfl (lv_at hl 3 rfl) ?_
  refine x_callV (n := 1) (As := [.int c3]) (rest := []) F hP hD hS (c_X11_put l D cy w10 y m2 m3 m4 m5 m6 m8 m9 m10 m11 m12 m13 m14 m17 m18 m19 m20 m21 m22 m23 m24 m29 m30 m31 m32 m33 m34 m35 m36 m37 m39 m40 m41 m42 m43 m44 m45 m46 m47 m48 m49 m51 m52 m53 m54 m56 m57 m58 m59 8 c3 g11 k12 k13 (by decide)) gX11_feed_X11_put rfl rfl (by decide +kernel) ⟨(Nat.le_of_ble_eq_true rfl), (Nat.le_of_ble_eq_true rfl)⟩ rfl hl.1 (Nat.le_of_ble_eq_true rfl) k12 rfl dX11_feed_27 rfl ⟨(Nat.le_of_ble_eq_true rfl), (Nat.le_of_ble_eq_true rfl)⟩ (fun v15 w16 hp14 H locs hP hD hS => ?_)
  obtain ⟨rfl, k18, g17, k19⟩ := hp14
  refine W.eq (g2 := F0 m 30 ls []) rfl (W.widen (k := 0) (n := 0) (Nat.le_of_ble_eq_true rfl) (Nat.le_of_ble_eq_true rfl) ?_)
  refine lv_aload_n hx hb dX11_feed_30 rfl (lv_at hl 0 rfl) ?_
  refine lv_iload hx hb dX11_feed_31 (lv_at hl 4 rfl) ?_
  refine x_callV (n := 1) (As := [.int c4]) (rest := []) F hP hD hS (c_X11_put l D cy w16 y m2 m3 m4 m5 m6 m8 m9 m10 m11 m12 m13 m14 m17 m18 m19 m20 m21 m22 m23 m24 m29 m30 m31 m32 m33 m34 m35 m36 m37 m39 m40 m41 m42 m43 m44 m45 m46 m47 m48 m49 m51 m52 m53 m54 m56 m57 m58 m59 12 c4 g17 k18 k19 (by decide)) gX11_feed_X11_put rfl rfl (by decide +kernel) ⟨(Nat.le_of_ble_eq_true rfl), (Nat.le_of_ble_eq_true rfl)⟩ rfl hl.1 (Nat.le_of_ble_eq_true rfl) k18 rfl dX11_feed_33 rfl ⟨(Nat.le_of_ble_eq_true rfl), (Nat.le_of_ble_eq_true rfl)⟩ (fun v21 w22 hp20 H locs hP hD hS => ?_)
  obtain ⟨rfl, k24, g23, k25⟩ := hp20
  refine W.eq (g2 := F0 m 36 ls []) rfl (W.widen (k := 0) (n := 0) (Nat.le_of_ble_eq_true rfl) (Nat.le_of_ble_eq_true rfl) ?_)
  refine lv_aload_n hx hb dX11_feed_36 rfl (lv_at hl 0 rfl) ?_
  refine lv_iload hx hb dX11_feed_37 (lv_at hl 5 rfl) ?_
  refine x_callV (n := 1) (As := [.int c5]) (rest := []) F hP hD hS (c_X11_put l D cy w22 y m2 m3 m4 m5 m6 m8 m9 m10 m11 m12 m13 m14 m17 m18 m19 m20 m21 m22 m23 m24 m29 m30 m31 m32 m33 m34 m35 m36 m37 m39 m40 m41 m42 m43 m44 m45 m46 m47 m48 m49 m51 m52 m53 m54 m56 m57 m58 m59 16 c5 g23 k24 k25 (by decide)) gX11_feed_X11_put rfl rfl (by decide +kernel) ⟨(Nat.le_of_ble_eq_true rfl), (Nat.le_of_ble_eq_true rfl)⟩ rfl hl.1 (Nat.le_of_ble_eq_true rfl) k24 rfl dX11_feed_39 rfl ⟨(Nat.le_of_ble_eq_true rfl), (Nat.le_of_ble_eq_true rfl)⟩ (fun v27 w28 hp26 H locs hP hD hS => ?_)
  obtain ⟨rfl, k30, g29, k31⟩ := hp26
  refine W.eq (g2 := F0 m 42 ls []) rfl (W.widen (k := 0) (n := 0) (Nat.le_of_ble_eq_true rfl) (Nat.le_of_ble_eq_true rfl) ?_)
  refine lv_aload_n hx hb dX11_feed_42 rfl (lv_at hl 0 rfl) ?_
  refine x_get (ref := "NoteHouseModel") F hP k30 rfl (fun _ h => List.mem_cons_of_mem _ (List.mem_append_right _ (h))) 25 (Nat.le_of_ble_eq_true rfl) (List.mem_cons_of_mem _ (List.mem_append_left _ (List.mem_of_getElem? (i := 0) rfl))) rfl rfl dX11_feed_43 ?_
  exact y_ir K hP hD hS (Nat.le_of_ble_eq_true rfl) (Nat.le_of_ble_eq_true rfl) (ty := .int) rfl rfl dX11_feed_46 rfl
set_option maxHeartbeats 4000000 in
set_option maxRecDepth 100000 in
theorem c_X11_isEnd (l : Launch) (D : va_G) (cy : Nat → ClassId) (w : Wd) (y m2 m3 m4 m5 m6 m8 m9 m10 m11 m12 m13 m14 m17 m18 m19 m20 m21 m22 m23 m24 m29 m30 m31 m32 m33 m34 m35 m36 m37 m39 m40 m41 m42 m43 m44 m45 m46 m47 m48 m49 m51 m52 m53 m54 m56 m57 m58 m59 : Nat) (hy : wd_at w y (.inr (11, [.int 0, .int 0, .ref m2, .ref m3, .ref m4, .ref m5, .ref m6, .int 0, .ref m8, .ref m9, .ref m10, .ref m11, .ref m12, .ref m13, .ref m14, .int 0, .int 0, .ref m17, .ref m18, .ref m19, .ref m20, .ref m21, .ref m22, .ref m23, .ref m24, .int 0, .int 0, .int 0, .int 0, .ref m29, .ref m30, .ref m31, .ref m32, .ref m33, .ref m34, .ref m35, .ref m36, .ref m37, .int 0, .ref m39, .ref m40, .ref m41, .ref m42, .ref m43, .ref m44, .ref m45, .ref m46, .ref m47, .ref m48, .ref m49, .int 0, .ref m51, .ref m52, .ref m53, .ref m54, .int 0, .ref m56, .ref m57, .ref m58, .ref m59])))  (S : Nat → Prop) (sy : S y)  : Ct l D cy yX11_isEnd wsX11_isEnd ({ frames := 0, cells := 0, slots := 0, locals := 0 }) [.ref y] w (fun v w1 => v = some (.int 1) ∧ wd_kp S w w1 ∧ wd_at w1 y (.inr (11, [.int 0, .int 0, .ref m2, .ref m3, .ref m4, .ref m5, .ref m6, .int 0, .ref m8, .ref m9, .ref m10, .ref m11, .ref m12, .ref m13, .ref m14, .int 0, .int 0, .ref m17, .ref m18, .ref m19, .ref m20, .ref m21, .ref m22, .ref m23, .ref m24, .int 0, .int 0, .int 0, .int 0, .ref m29, .ref m30, .ref m31, .ref m32, .ref m33, .ref m34, .ref m35, .ref m36, .ref m37, .int 0, .ref m39, .ref m40, .ref m41, .ref m42, .ref m43, .ref m44, .ref m45, .ref m46, .ref m47, .ref m48, .ref m49, .int 0, .ref m51, .ref m52, .ref m53, .ref m54, .int 0, .ref m56, .ref m57, .ref m58, .ref m59]))) := by
  refine Ct.by (cc := cX11_isEnd) (maxL := 1) (ret := (some .boolean)) (by decide +kernel) rfl (Nat.le_of_ble_eq_true rfl) ?_
  intro p e s m args below meth c A Q F hnm K ls hl
  have F : wd_Fx p s m args meth c cX11_isEnd 1 wsX11_isEnd RX11 D cy A := F
  have hl : lv_has ls 1 [(0, .ref y)] := hl
  have hx := F.1.1
  have hb := F.1.2.1
  have hown := F.1.2.2.2.1
  have hts := F.1.2.2.2.2
  intro H locs hP hD hS
  have kp0 : wd_kp S w w := wd_kp.rf
  refine lv_aload_n hx hb dX11_isEnd_0 rfl (lv_at hl 0 rfl) ?_
  refine x_get (ref := "NoteHouseModel") F hP hy rfl (fun _ h => List.mem_cons_of_mem _ (List.mem_append_right _ (h))) 26 (Nat.le_of_ble_eq_true rfl) (List.mem_cons_of_mem _ (List.mem_append_left _ (List.mem_of_getElem? (i := 0) rfl))) rfl rfl dX11_isEnd_1 ?_
  refine lv_aload_n hx hb dX11_isEnd_4 rfl (lv_at hl 0 rfl) ?_
  refine x_get (ref := "NoteHouseModel") F hP hy rfl (fun _ h => List.mem_cons_of_mem _ (List.mem_append_right _ (h))) 25 (Nat.le_of_ble_eq_true rfl) (List.mem_cons_of_mem _ (List.mem_append_left _ (List.mem_of_getElem? (i := 1) rfl))) rfl rfl dX11_isEnd_5 ?_
  refine lv_icmp_ge (tgt := 38) hx hb dX11_isEnd_8 (by decide) (fun c_1 => ?_) (fun c_1 => absurd (show (0 : Int32) ≤ (0 : Int32) by decide) c_1)
  refine lv_aload_n hx hb dX11_isEnd_38 rfl (lv_at hl 0 rfl) ?_
  refine lv_aload_n hx hb dX11_isEnd_39 rfl (lv_at hl 0 rfl) ?_
  refine x_get (ref := "NoteHouseModel") F hP hy rfl (fun _ h => List.mem_cons_of_mem _ (List.mem_append_right _ (h))) 26 (Nat.le_of_ble_eq_true rfl) (List.mem_cons_of_mem _ (List.mem_append_left _ (List.mem_of_getElem? (i := 0) rfl))) rfl rfl dX11_isEnd_40 ?_
  refine y_put (ref := "NoteHouseModel") F hP hD hS hy rfl (fun _ h => List.mem_cons_of_mem _ (List.mem_append_right _ (h))) tyX11_ok nmX11 27 (Nat.le_of_ble_eq_true rfl) (List.mem_cons_of_mem _ (List.mem_append_left _ (List.mem_of_getElem? (i := 3) rfl))) rfl rfl rfl rfl (Nat.le_of_ble_eq_true rfl) dX11_isEnd_43 (fun w2 ew3 H locs hP hD hS => ?_)
  have k4 : wd_at w2 y (.inr (11, [.int 0, .int 0, .ref m2, .ref m3, .ref m4, .ref m5, .ref m6, .int 0, .ref m8, .ref m9, .ref m10, .ref m11, .ref m12, .ref m13, .ref m14, .int 0, .int 0, .ref m17, .ref m18, .ref m19, .ref m20, .ref m21, .ref m22, .ref m23, .ref m24, .int 0, .int 0, .int 0, .int 0, .ref m29, .ref m30, .ref m31, .ref m32, .ref m33, .ref m34, .ref m35, .ref m36, .ref m37, .int 0, .ref m39, .ref m40, .ref m41, .ref m42, .ref m43, .ref m44, .ref m45, .ref m46, .ref m47, .ref m48, .ref m49, .int 0, .ref m51, .ref m52, .ref m53, .ref m54, .int 0, .ref m56, .ref m57, .ref m58, .ref m59])) := wd_at.ps ew3 hy
  have kp5 := kp0.put ew3 sy
  refine lv_aload_n hx hb dX11_isEnd_46 rfl (lv_at hl 0 rfl) ?_
  refine x_get (ref := "NoteHouseModel") F hP k4 rfl (fun _ h => List.mem_cons_of_mem _ (List.mem_append_right _ (h))) 26 (Nat.le_of_ble_eq_true rfl) (List.mem_cons_of_mem _ (List.mem_append_left _ (List.mem_of_getElem? (i := 0) rfl))) rfl rfl dX11_isEnd_47 ?_
  refine lv_aload_n hx hb dX11_isEnd_50 rfl (lv_at hl 0 rfl) ?_
  refine x_get (ref := "NoteHouseModel") F hP k4 rfl (fun _ h => List.mem_cons_of_mem _ (List.mem_append_right _ (h))) 25 (Nat.le_of_ble_eq_true rfl) (List.mem_cons_of_mem _ (List.mem_append_left _ (List.mem_of_getElem? (i := 1) rfl))) rfl rfl dX11_isEnd_51 ?_
  refine lv_icmp_ne (tgt := 61) hx hb dX11_isEnd_54 (by decide) (fun c_6 => absurd (show (0 : Int32) = (0 : Int32) by decide) c_6) (fun c_6 => ?_)
  refine lv_iconst (v := 1) hx hb dX11_isEnd_57 (by decide) ?_
  refine lv_goto (tgt := 62) hx hb dX11_isEnd_58 (by decide) ?_
  exact y_ir K hP hD hS (Nat.le_of_ble_eq_true rfl) (Nat.le_of_ble_eq_true rfl) (ty := .boolean) rfl rfl dX11_isEnd_62 (⟨rfl, kp5, k4⟩)
set_option maxHeartbeats 4000000 in
set_option maxRecDepth 100000 in
theorem c_X11_text (l : Launch) (D : va_G) (cy : Nat → ClassId) (w : Wd) (y m2 m3 m4 m5 m6 m8 m9 m10 m11 m12 m13 m14 m17 m18 m19 m20 m21 m22 m23 m24 m29 m30 m31 m32 m33 m34 m35 m36 m37 m39 m40 m41 m42 m43 m44 m45 m46 m47 m48 m49 m51 m52 m53 m54 m56 m57 m58 m59 : Nat) (f : Nat → Int32) (t : Int32) (hy : wd_at w y (.inr (11, [.int 0, .int 0, .ref m2, .ref m3, .ref m4, .ref m5, .ref m6, .int 0, .ref m8, .ref m9, .ref m10, .ref m11, .ref m12, .ref m13, .ref m14, .int 0, .int 0, .ref m17, .ref m18, .ref m19, .ref m20, .ref m21, .ref m22, .ref m23, .ref m24, .int 0, .int 0, .int 0, .int 0, .ref m29, .ref m30, .ref m31, .ref m32, .ref m33, .ref m34, .ref m35, .ref m36, .ref m37, .int 0, .ref m39, .ref m40, .ref m41, .ref m42, .ref m43, .ref m44, .ref m45, .ref m46, .ref m47, .ref m48, .ref m49, .int 0, .ref m51, .ref m52, .ref m53, .ref m54, .int 0, .ref m56, .ref m57, .ref m58, .ref m59]))) (h29 : wd_at w m29 (.inl (cy 2, 12, .inl f)))   : Ct l D cy yX11_text wsX11_text ({ frames := 1, cells := 0, slots := 0, locals := 20 }) [.ref y, .int t] w (fun v w1 => v = some (.int (sp_text t))) := by
  refine Ct.by (cc := cX11_text) (maxL := 6) (ret := (some .int)) (by decide +kernel) rfl (Nat.le_of_ble_eq_true rfl) ?_
  intro p e s m args below meth c A Q F hnm K ls hl
  have F : wd_Fx p s m args meth c cX11_text 6 wsX11_text RX11 D cy A := F
  have hl : lv_has ls 6 [(0, .ref y), (1, .int t)] := hl
  have hx := F.1.1
  have hb := F.1.2.1
  have hown := F.1.2.2.2.1
  have hts := F.1.2.2.2.2
  intro H locs hP hD hS
  refine lv_iload_n hx hb dX11_text_0 rfl (lv_at hl 1 rfl) ?_
  refine x_callS (n := 1) (As := [.int t]) (rest := []) F hP hD hS (c_X11_isTown l D cy w t) gX11_text_X11_isTown rfl (by decide +kernel) ⟨(Nat.le_of_ble_eq_true rfl), (Nat.le_of_ble_eq_true rfl)⟩ rfl hl.1 (Nat.le_of_ble_eq_true rfl) dX11_text_1 rfl ⟨(Nat.le_of_ble_eq_true rfl), (Nat.le_of_ble_eq_true rfl)⟩ (fun v2 w3 hp1 H locs hP hD hS => ?_)
  obtain ⟨rfl, rfl⟩ := hp1
  refine W.eq (g2 := F0 m 4 ls [.int (wi t 0 11)]) rfl (W.widen (k := 0) (n := 0) (Nat.le_of_ble_eq_true rfl) (Nat.le_of_ble_eq_true rfl) ?_)
  refine lv_if_ne (tgt := 9) hx hb dX11_text_4 (by decide) (fun c_1 => ?_) (fun c_1 => ?_)
  · refine lv_aload_n hx hb dX11_text_9 rfl (lv_at hl 0 rfl) ?_
    refine lv_iconst (v := 0) hx hb dX11_text_10 (by decide) ?_
    refine y_put (ref := "NoteHouseModel") F hP hD hS hy rfl (fun _ h => List.mem_cons_of_mem _ (List.mem_append_right _ (h))) tyX11_ok nmX11 26 (Nat.le_of_ble_eq_true rfl) (List.mem_cons_of_mem _ (List.mem_append_left _ (List.mem_append_left _ (List.mem_of_getElem? (i := 0) rfl)))) rfl rfl rfl rfl (Nat.le_of_ble_eq_true rfl) dX11_text_11 (fun w4 ew5 H locs hP hD hS => ?_)
    have k6 : wd_at w4 y (.inr (11, [.int 0, .int 0, .ref m2, .ref m3, .ref m4, .ref m5, .ref m6, .int 0, .ref m8, .ref m9, .ref m10, .ref m11, .ref m12, .ref m13, .ref m14, .int 0, .int 0, .ref m17, .ref m18, .ref m19, .ref m20, .ref m21, .ref m22, .ref m23, .ref m24, .int 0, .int 0, .int 0, .int 0, .ref m29, .ref m30, .ref m31, .ref m32, .ref m33, .ref m34, .ref m35, .ref m36, .ref m37, .int 0, .ref m39, .ref m40, .ref m41, .ref m42, .ref m43, .ref m44, .ref m45, .ref m46, .ref m47, .ref m48, .ref m49, .int 0, .ref m51, .ref m52, .ref m53, .ref m54, .int 0, .ref m56, .ref m57, .ref m58, .ref m59])) := wd_at.ps ew5 hy
    have k7 := wd_at.pt ew5 h29 (wd_nk h29 hy rfl)
    refine lv_aload_n hx hb dX11_text_14 rfl (lv_at hl 0 rfl) ?_
    refine lv_iconst (v := 0) hx hb dX11_text_15 (by decide) ?_
    refine y_put (ref := "NoteHouseModel") F hP hD hS k6 rfl (fun _ h => List.mem_cons_of_mem _ (List.mem_append_right _ (h))) tyX11_ok nmX11 28 (Nat.le_of_ble_eq_true rfl) (List.mem_cons_of_mem _ (List.mem_append_left _ (List.mem_append_left _ (List.mem_of_getElem? (i := 1) rfl)))) rfl rfl rfl rfl (Nat.le_of_ble_eq_true rfl) dX11_text_16 (fun w8 ew9 H locs hP hD hS => ?_)
    have k10 : wd_at w8 y (.inr (11, [.int 0, .int 0, .ref m2, .ref m3, .ref m4, .ref m5, .ref m6, .int 0, .ref m8, .ref m9, .ref m10, .ref m11, .ref m12, .ref m13, .ref m14, .int 0, .int 0, .ref m17, .ref m18, .ref m19, .ref m20, .ref m21, .ref m22, .ref m23, .ref m24, .int 0, .int 0, .int 0, .int 0, .ref m29, .ref m30, .ref m31, .ref m32, .ref m33, .ref m34, .ref m35, .ref m36, .ref m37, .int 0, .ref m39, .ref m40, .ref m41, .ref m42, .ref m43, .ref m44, .ref m45, .ref m46, .ref m47, .ref m48, .ref m49, .int 0, .ref m51, .ref m52, .ref m53, .ref m54, .int 0, .ref m56, .ref m57, .ref m58, .ref m59])) := wd_at.ps ew9 k6
    have k11 := wd_at.pt ew9 k7 (wd_nk k7 k6 rfl)
    refine lv_iconst (v := 0) hx hb dX11_text_19 (by decide) ?_
    refine lv_istore_n (lv' := [(2, .int 0), (0, .ref y), (1, .int t)]) hx hb dX11_text_20 rfl hl (by decide) rfl (fun ls hl => ?_)
    refine lv_aload_n hx hb dX11_text_21 rfl (lv_at hl 1 rfl) ?_
    refine x_callV (n := 0) (As := []) (rest := []) F hP hD hS (c_X11_isEnd l D cy w8 y m2 m3 m4 m5 m6 m8 m9 m10 m11 m12 m13 m14 m17 m18 m19 m20 m21 m22 m23 m24 m29 m30 m31 m32 m33 m34 m35 m36 m37 m39 m40 m41 m42 m43 m44 m45 m46 m47 m48 m49 m51 m52 m53 m54 m56 m57 m58 m59 k10 (fun b => b = y) rfl) gX11_text_X11_isEnd rfl rfl (by decide +kernel) ⟨(Nat.le_of_ble_eq_true rfl), (Nat.le_of_ble_eq_true rfl)⟩ rfl hl.1 (Nat.le_of_ble_eq_true rfl) k10 rfl dX11_text_22 rfl ⟨(Nat.le_of_ble_eq_true rfl), (Nat.le_of_ble_eq_true rfl)⟩ (fun v13 w14 hp12 H locs hP hD hS => ?_)
    obtain ⟨rfl, hp12, k15⟩ := hp12
    have k16 := hp12.2 _ _ k11 (fun q : m29 = y => (wd_nk k11 k10 rfl) q)
    refine W.eq (g2 := F0 m 25 ls [.int 1]) rfl (W.widen (k := 0) (n := 0) (Nat.le_of_ble_eq_true rfl) (Nat.le_of_ble_eq_true rfl) ?_)
    refine lv_if_ne (tgt := 32) hx hb dX11_text_25 (by decide) (fun c_17 => ?_) (fun c_17 => absurd c_17 (show ¬ (1 : Int32) = (0 : Int32) by decide))
    refine lv_iconst (v := 0) hx hb dX11_text_32 (by decide) ?_
    refine lv_istore_n (lv' := [(3, .int 0), (2, .int 0), (0, .ref y), (1, .int t)]) hx hb dX11_text_33 rfl hl (by decide) rfl (fun ls hl => ?_)
    refine lv_iload_n hx hb dX11_text_34 rfl (lv_at hl 0 rfl) ?_
    refine lv_if_eq (tgt := 128) hx hb dX11_text_35 (by decide) (fun c_18 => ?_) (fun c_18 => absurd (show (0 : Int32) = (0 : Int32) by decide) c_18)
    refine lv_aload_n hx hb dX11_text_128 rfl (lv_at hl 2 rfl) ?_
    refine lv_iconst (v := 0) hx hb dX11_text_129 (by decide) ?_
    refine y_put (ref := "NoteHouseModel") F hP hD hS k15 rfl (fun _ h => List.mem_cons_of_mem _ (List.mem_append_right _ (h))) tyX11_ok nmX11 25 (Nat.le_of_ble_eq_true rfl) (List.mem_cons_of_mem _ (List.mem_append_left _ (List.mem_append_left _ (List.mem_of_getElem? (i := 3) rfl)))) rfl rfl rfl rfl (Nat.le_of_ble_eq_true rfl) dX11_text_130 (fun w19 ew20 H locs hP hD hS => ?_)
    have k21 : wd_at w19 y (.inr (11, [.int 0, .int 0, .ref m2, .ref m3, .ref m4, .ref m5, .ref m6, .int 0, .ref m8, .ref m9, .ref m10, .ref m11, .ref m12, .ref m13, .ref m14, .int 0, .int 0, .ref m17, .ref m18, .ref m19, .ref m20, .ref m21, .ref m22, .ref m23, .ref m24, .int 0, .int 0, .int 0, .int 0, .ref m29, .ref m30, .ref m31, .ref m32, .ref m33, .ref m34, .ref m35, .ref m36, .ref m37, .int 0, .ref m39, .ref m40, .ref m41, .ref m42, .ref m43, .ref m44, .ref m45, .ref m46, .ref m47, .ref m48, .ref m49, .int 0, .ref m51, .ref m52, .ref m53, .ref m54, .int 0, .ref m56, .ref m57, .ref m58, .ref m59])) := wd_at.ps ew20 k15
    have k22 := wd_at.pt ew20 k16 (wd_nk k16 k15 rfl)
    refine lv_aload_n hx hb dX11_text_133 rfl (lv_at hl 2 rfl) ?_
    refine x_get (ref := "NoteHouseModel") F hP k21 rfl (fun _ h => List.mem_cons_of_mem _ (List.mem_append_right _ (h))) 28 (Nat.le_of_ble_eq_true rfl) (List.mem_cons_of_mem _ (List.mem_append_left _ (List.mem_append_left _ (List.mem_of_getElem? (i := 1) rfl)))) rfl rfl dX11_text_134 ?_
    refine lv_if_le (tgt := 148) hx hb dX11_text_137 (by decide) (fun c_23 => ?_) (fun c_23 => absurd (show (0 : Int32) ≤ (0 : Int32) by decide) c_23)
    refine lv_aload_n hx hb dX11_text_148 rfl (lv_at hl 2 rfl) ?_
    refine x_get (ref := "NoteHouseModel") F hP k21 rfl (fun _ h => List.mem_cons_of_mem _ (List.mem_append_right _ (h))) 29 (Nat.le_of_ble_eq_true rfl) (List.mem_cons_of_mem _ (List.mem_append_left _ (List.mem_append_left _ (List.mem_of_getElem? (i := 4) rfl)))) rfl rfl dX11_text_149 ?_
    refine lv_iload_n hx hb dX11_text_152 rfl (lv_at hl 3 rfl) ?_
    refine lv_iload_n hx hb dX11_text_153 rfl (lv_at hl 1 rfl) ?_
    refine y_iast F hP hD hS k22 (wi_v c_1) dX11_text_154 (fun w24 ew25 H locs hP hD hS => ?_)
    have k26 := wd_at.pt ew25 k21 (wd_nk k21 k22 rfl)
    have k27 : wd_at w24 m29 (.inl (cy 2, 12, .inl (upd f t.toNatClampNeg 0))) := wd_at.ps ew25 k22
    refine lv_iconst (v := 0) hx hb dX11_text_155 (by decide) ?_
    refine lv_istore (lv' := [(4, .int 0), (3, .int 0), (2, .int 0), (0, .ref y), (1, .int t)]) hx hb dX11_text_156 hl (by decide) rfl (fun ls hl => ?_)
    refine lv_iload hx hb dX11_text_158 (lv_at hl 0 rfl) ?_
    refine lv_iload_n hx hb dX11_text_160 rfl (lv_at hl 2 rfl) ?_
    refine lv_icmp_ge (tgt := 337) hx hb dX11_text_161 (by decide) (fun c_28 => ?_) (fun c_28 => absurd (show (0 : Int32) ≤ (0 : Int32) by decide) c_28)
    refine lv_iload_n hx hb dX11_text_337 rfl (lv_at hl 2 rfl) ?_
    exact y_ir K hP hD hS (Nat.le_of_ble_eq_true rfl) (Nat.le_of_ble_eq_true rfl) (ty := .int) rfl rfl dX11_text_338 (by simp [sp_text, c_1])
  · refine lv_iconst (v := (-1)) hx hb dX11_text_7 (by decide) ?_
    exact y_ir K hP hD hS (Nat.le_of_ble_eq_true rfl) (Nat.le_of_ble_eq_true rfl) (ty := .int) rfl rfl dX11_text_8 (by simp [sp_text, c_1])
set_option maxHeartbeats 4000000 in
set_option maxRecDepth 100000 in
theorem c_X11_law (l : Launch) (D : va_G) (cy : Nat → ClassId) (w : Wd) (y m2 m3 m4 m5 m6 m8 m9 m10 m11 m12 m13 m14 m17 m18 m19 m20 m21 m22 m23 m24 m29 m30 m31 m32 m33 m34 m35 m36 m37 m39 m40 m41 m42 m43 m44 m45 m46 m47 m48 m49 m51 m52 m53 m54 m56 m57 m58 m59 : Nat) (f35 f36 f37 : Nat → Int32) (hy : wd_at w y (.inr (11, [.int 0, .int 0, .ref m2, .ref m3, .ref m4, .ref m5, .ref m6, .int 0, .ref m8, .ref m9, .ref m10, .ref m11, .ref m12, .ref m13, .ref m14, .int 0, .int 0, .ref m17, .ref m18, .ref m19, .ref m20, .ref m21, .ref m22, .ref m23, .ref m24, .int 0, .int 0, .int 0, .int 0, .ref m29, .ref m30, .ref m31, .ref m32, .ref m33, .ref m34, .ref m35, .ref m36, .ref m37, .int 0, .ref m39, .ref m40, .ref m41, .ref m42, .ref m43, .ref m44, .ref m45, .ref m46, .ref m47, .ref m48, .ref m49, .int 0, .ref m51, .ref m52, .ref m53, .ref m54, .int 0, .ref m56, .ref m57, .ref m58, .ref m59]))) (h35 : wd_at w m35 (.inl (cy 2, 5, .inl f35))) (h36 : wd_at w m36 (.inl (cy 4, 5, .inl f36))) (h37 : wd_at w m37 (.inl (cy 2, 5, .inl f37)))  (n35x36 : m35 ≠ m36) (n35x37 : m35 ≠ m37) (n36x37 : m36 ≠ m37) : Ct l D cy yX11_law wsX11_law ({ frames := 1, cells := 0, slots := 0, locals := 20 }) [.ref y] w (fun v w1 => v = some (.int 0)) := by
  refine Ct.by (cc := cX11_law) (maxL := 3) (ret := (some .int)) (by decide +kernel) rfl (Nat.le_of_ble_eq_true rfl) ?_
  intro p e s m args below meth c A Q F hnm K ls hl
  have F : wd_Fx p s m args meth c cX11_law 3 wsX11_law RX11 D cy A := F
  have hl : lv_has ls 3 [(0, .ref y)] := hl
  have hx := F.1.1
  have hb := F.1.2.1
  have hown := F.1.2.2.2.1
  have hts := F.1.2.2.2.2
  intro H locs hP hD hS
  refine lv_iconst (v := 0) hx hb dX11_law_0 (by decide) ?_
  refine lv_istore_n (lv' := [(1, .int 0), (0, .ref y)]) hx hb dX11_law_1 rfl hl (by decide) rfl (fun ls hl => ?_)
  have lp2 : ∀ (N : Nat) (i : Nat) (g6 : Nat → Int32) (g7 : Nat → Int32) (w1 : Wd), (i + N = 5) → (wd_at w1 y (.inr (11, [.int 0, .int 0, .ref m2, .ref m3, .ref m4, .ref m5, .ref m6, .int 0, .ref m8, .ref m9, .ref m10, .ref m11, .ref m12, .ref m13, .ref m14, .int 0, .int 0, .ref m17, .ref m18, .ref m19, .ref m20, .ref m21, .ref m22, .ref m23, .ref m24, .int 0, .int 0, .int 0, .int 0, .ref m29, .ref m30, .ref m31, .ref m32, .ref m33, .ref m34, .ref m35, .ref m36, .ref m37, .int 0, .ref m39, .ref m40, .ref m41, .ref m42, .ref m43, .ref m44, .ref m45, .ref m46, .ref m47, .ref m48, .ref m49, .int 0, .ref m51, .ref m52, .ref m53, .ref m54, .int 0, .ref m56, .ref m57, .ref m58, .ref m59]))) → (wd_at w1 m35 (.inl (cy 2, 5, .inl f35))) → (wd_at w1 m36 (.inl (cy 4, 5, .inl g6))) → (wd_at w1 m37 (.inl (cy 2, 5, .inl g7))) → ∀ (ls : Array Slot), lv_has ls 3 [(0, .ref y), (1, .int (nI i))] → Wv p l e ({ frames := 1, cells := 0, slots := 0, locals := 20 }) s m args below meth c D A (0) (0) Q w1 (F0 m 2 ls []) := by
    intro N
    induction N with
    | zero =>
      intro i g6 g7 w1 hN2 k2 k3 k4 k5 ls hl H locs hP hD hS
      refine lv_iload_n hx hb dX11_law_2 rfl (lv_at hl 1 rfl) ?_
      refine lv_iconst (v := 5) hx hb dX11_law_3 (by decide) ?_
      refine lv_icmp_ge (tgt := 30) hx hb dX11_law_4 (by decide) (fun c_6 => ?_) (fun c_6 => absurd (nI_le (a := 5) (b := i) (by omega) (by omega)) c_6)
      refine lv_aload_n hx hb dX11_law_30 rfl (lv_at hl 0 rfl) ?_
      refine lv_iconst (v := 0) hx hb dX11_law_31 (by decide) ?_
      refine y_put (ref := "NoteHouseModel") F hP hD hS k2 rfl (fun _ h => List.mem_cons_of_mem _ (List.mem_append_right _ (h))) tyX11_ok nmX11 26 (Nat.le_of_ble_eq_true rfl) (List.mem_cons_of_mem _ (List.mem_append_left _ (List.mem_append_left _ (List.mem_of_getElem? (i := 2) rfl)))) rfl rfl rfl rfl (Nat.le_of_ble_eq_true rfl) dX11_law_32 (fun w7 ew8 H locs hP hD hS => ?_)
      have k9 : wd_at w7 y (.inr (11, [.int 0, .int 0, .ref m2, .ref m3, .ref m4, .ref m5, .ref m6, .int 0, .ref m8, .ref m9, .ref m10, .ref m11, .ref m12, .ref m13, .ref m14, .int 0, .int 0, .ref m17, .ref m18, .ref m19, .ref m20, .ref m21, .ref m22, .ref m23, .ref m24, .int 0, .int 0, .int 0, .int 0, .ref m29, .ref m30, .ref m31, .ref m32, .ref m33, .ref m34, .ref m35, .ref m36, .ref m37, .int 0, .ref m39, .ref m40, .ref m41, .ref m42, .ref m43, .ref m44, .ref m45, .ref m46, .ref m47, .ref m48, .ref m49, .int 0, .ref m51, .ref m52, .ref m53, .ref m54, .int 0, .ref m56, .ref m57, .ref m58, .ref m59])) := wd_at.ps ew8 k2
      have k10 := wd_at.pt ew8 k3 (wd_nk k3 k2 rfl)
      have k11 := wd_at.pt ew8 k4 (wd_nk k4 k2 rfl)
      have k12 := wd_at.pt ew8 k5 (wd_nk k5 k2 rfl)
      refine lv_aload_n hx hb dX11_law_35 rfl (lv_at hl 0 rfl) ?_
      refine lv_iconst (v := 0) hx hb dX11_law_36 (by decide) ?_
      refine y_put (ref := "NoteHouseModel") F hP hD hS k9 rfl (fun _ h => List.mem_cons_of_mem _ (List.mem_append_right _ (h))) tyX11_ok nmX11 28 (Nat.le_of_ble_eq_true rfl) (List.mem_cons_of_mem _ (List.mem_append_left _ (List.mem_append_left _ (List.mem_of_getElem? (i := 3) rfl)))) rfl rfl rfl rfl (Nat.le_of_ble_eq_true rfl) dX11_law_37 (fun w13 ew14 H locs hP hD hS => ?_)
      have k15 : wd_at w13 y (.inr (11, [.int 0, .int 0, .ref m2, .ref m3, .ref m4, .ref m5, .ref m6, .int 0, .ref m8, .ref m9, .ref m10, .ref m11, .ref m12, .ref m13, .ref m14, .int 0, .int 0, .ref m17, .ref m18, .ref m19, .ref m20, .ref m21, .ref m22, .ref m23, .ref m24, .int 0, .int 0, .int 0, .int 0, .ref m29, .ref m30, .ref m31, .ref m32, .ref m33, .ref m34, .ref m35, .ref m36, .ref m37, .int 0, .ref m39, .ref m40, .ref m41, .ref m42, .ref m43, .ref m44, .ref m45, .ref m46, .ref m47, .ref m48, .ref m49, .int 0, .ref m51, .ref m52, .ref m53, .ref m54, .int 0, .ref m56, .ref m57, .ref m58, .ref m59])) := wd_at.ps ew14 k9
      have k16 := wd_at.pt ew14 k10 (wd_nk k10 k9 rfl)
      have k17 := wd_at.pt ew14 k11 (wd_nk k11 k9 rfl)
      have k18 := wd_at.pt ew14 k12 (wd_nk k12 k9 rfl)
      refine lv_aload_n hx hb dX11_law_40 rfl (lv_at hl 0 rfl) ?_
      refine x_get (ref := "NoteHouseModel") F hP k15 rfl (fun _ h => List.mem_cons_of_mem _ (List.mem_append_right _ (h))) 25 (Nat.le_of_ble_eq_true rfl) (List.mem_cons_of_mem _ (List.mem_append_left _ (List.mem_append_left _ (List.mem_of_getElem? (i := 4) rfl)))) rfl rfl dX11_law_41 ?_
      refine lv_sipush (v := 200) hx hb dX11_law_44 (by decide) ?_
      refine lv_icmp_le (tgt := 58) hx hb dX11_law_47 (by decide) (fun c_19 => ?_) (fun c_19 => absurd (show (0 : Int32) ≤ (200 : Int32) by decide) c_19)
      refine lv_aload_n hx hb dX11_law_58 rfl (lv_at hl 0 rfl) ?_
      refine x_callV (n := 0) (As := []) (rest := []) F hP hD hS (c_X11_isEnd l D cy w13 y m2 m3 m4 m5 m6 m8 m9 m10 m11 m12 m13 m14 m17 m18 m19 m20 m21 m22 m23 m24 m29 m30 m31 m32 m33 m34 m35 m36 m37 m39 m40 m41 m42 m43 m44 m45 m46 m47 m48 m49 m51 m52 m53 m54 m56 m57 m58 m59 k15 (fun b => b = y) rfl) gX11_law_X11_isEnd rfl rfl (by decide +kernel) ⟨(Nat.le_of_ble_eq_true rfl), (Nat.le_of_ble_eq_true rfl)⟩ rfl hl.1 (Nat.le_of_ble_eq_true rfl) k15 rfl dX11_law_59 rfl ⟨(Nat.le_of_ble_eq_true rfl), (Nat.le_of_ble_eq_true rfl)⟩ (fun v21 w22 hp20 H locs hP hD hS => ?_)
      obtain ⟨rfl, hp20, k23⟩ := hp20
      have k24 := hp20.2 _ _ k16 (fun q : m35 = y => (wd_nk k16 k15 rfl) q)
      have k25 := hp20.2 _ _ k17 (fun q : m36 = y => (wd_nk k17 k15 rfl) q)
      have k26 := hp20.2 _ _ k18 (fun q : m37 = y => (wd_nk k18 k15 rfl) q)
      refine W.eq (g2 := F0 m 62 ls [.int 1]) rfl (W.widen (k := 0) (n := 0) (Nat.le_of_ble_eq_true rfl) (Nat.le_of_ble_eq_true rfl) ?_)
      refine lv_if_ne (tgt := 69) hx hb dX11_law_62 (by decide) (fun c_27 => ?_) (fun c_27 => absurd c_27 (show ¬ (1 : Int32) = (0 : Int32) by decide))
      refine lv_iconst (v := 0) hx hb dX11_law_69 (by decide) ?_
      refine lv_istore_n (lv' := [(1, .int 0), (0, .ref y)]) hx hb dX11_law_70 rfl hl (by decide) rfl (fun ls hl => ?_)
      refine lv_iload_n hx hb dX11_law_71 rfl (lv_at hl 0 rfl) ?_
      refine lv_if_eq (tgt := 146) hx hb dX11_law_72 (by decide) (fun c_28 => ?_) (fun c_28 => absurd (show (0 : Int32) = (0 : Int32) by decide) c_28)
      refine lv_aload_n hx hb dX11_law_146 rfl (lv_at hl 1 rfl) ?_
      refine lv_iconst (v := 0) hx hb dX11_law_147 (by decide) ?_
      refine y_put (ref := "NoteHouseModel") F hP hD hS k23 rfl (fun _ h => List.mem_cons_of_mem _ (List.mem_append_right _ (h))) tyX11_ok nmX11 25 (Nat.le_of_ble_eq_true rfl) (List.mem_cons_of_mem _ (List.mem_append_left _ (List.mem_append_left _ (List.mem_of_getElem? (i := 4) rfl)))) rfl rfl rfl rfl (Nat.le_of_ble_eq_true rfl) dX11_law_148 (fun w29 ew30 H locs hP hD hS => ?_)
      have k31 : wd_at w29 y (.inr (11, [.int 0, .int 0, .ref m2, .ref m3, .ref m4, .ref m5, .ref m6, .int 0, .ref m8, .ref m9, .ref m10, .ref m11, .ref m12, .ref m13, .ref m14, .int 0, .int 0, .ref m17, .ref m18, .ref m19, .ref m20, .ref m21, .ref m22, .ref m23, .ref m24, .int 0, .int 0, .int 0, .int 0, .ref m29, .ref m30, .ref m31, .ref m32, .ref m33, .ref m34, .ref m35, .ref m36, .ref m37, .int 0, .ref m39, .ref m40, .ref m41, .ref m42, .ref m43, .ref m44, .ref m45, .ref m46, .ref m47, .ref m48, .ref m49, .int 0, .ref m51, .ref m52, .ref m53, .ref m54, .int 0, .ref m56, .ref m57, .ref m58, .ref m59])) := wd_at.ps ew30 k23
      have k32 := wd_at.pt ew30 k24 (wd_nk k24 k23 rfl)
      have k33 := wd_at.pt ew30 k25 (wd_nk k25 k23 rfl)
      have k34 := wd_at.pt ew30 k26 (wd_nk k26 k23 rfl)
      refine lv_aload_n hx hb dX11_law_151 rfl (lv_at hl 1 rfl) ?_
      refine x_get (ref := "NoteHouseModel") F hP k31 rfl (fun _ h => List.mem_cons_of_mem _ (List.mem_append_right _ (h))) 28 (Nat.le_of_ble_eq_true rfl) (List.mem_cons_of_mem _ (List.mem_append_left _ (List.mem_append_left _ (List.mem_of_getElem? (i := 3) rfl)))) rfl rfl dX11_law_152 ?_
      refine lv_if_ne (tgt := 183) hx hb dX11_law_155 (by decide) (fun c_35 => absurd (show (0 : Int32) = (0 : Int32) by decide) c_35) (fun c_35 => ?_)
      refine lv_iconst (v := 0) hx hb dX11_law_158 (by decide) ?_
      refine lv_istore_n (lv' := [(2, .int 0), (1, .int 0), (0, .ref y)]) hx hb dX11_law_159 rfl hl (by decide) rfl (fun ls hl => ?_)
      have lp160 : ∀ (N : Nat) (i : Nat) (g5 : Nat → Int32) (w36 : Wd), (i + N = 5) → (wd_at w36 y (.inr (11, [.int 0, .int 0, .ref m2, .ref m3, .ref m4, .ref m5, .ref m6, .int 0, .ref m8, .ref m9, .ref m10, .ref m11, .ref m12, .ref m13, .ref m14, .int 0, .int 0, .ref m17, .ref m18, .ref m19, .ref m20, .ref m21, .ref m22, .ref m23, .ref m24, .int 0, .int 0, .int 0, .int 0, .ref m29, .ref m30, .ref m31, .ref m32, .ref m33, .ref m34, .ref m35, .ref m36, .ref m37, .int 0, .ref m39, .ref m40, .ref m41, .ref m42, .ref m43, .ref m44, .ref m45, .ref m46, .ref m47, .ref m48, .ref m49, .int 0, .ref m51, .ref m52, .ref m53, .ref m54, .int 0, .ref m56, .ref m57, .ref m58, .ref m59]))) → (wd_at w36 m35 (.inl (cy 2, 5, .inl g5))) → (wd_at w36 m36 (.inl (cy 4, 5, .inl g6))) → (wd_at w36 m37 (.inl (cy 2, 5, .inl g7))) → ∀ (ls : Array Slot), lv_has ls 3 [(0, .ref y), (2, .int (nI i))] → Wv p l e ({ frames := 1, cells := 0, slots := 0, locals := 20 }) s m args below meth c D A (0) (0) Q w36 (F0 m 160 ls []) := by
        intro N
        induction N with
        | zero =>
          intro i g5 w36 hN160 k37 k38 k39 k40 ls hl H locs hP hD hS
          refine lv_iload_n hx hb dX11_law_160 rfl (lv_at hl 1 rfl) ?_
          refine lv_iconst (v := 5) hx hb dX11_law_161 (by decide) ?_
          refine lv_icmp_ge (tgt := 183) hx hb dX11_law_162 (by decide) (fun c_41 => ?_) (fun c_41 => absurd (nI_le (a := 5) (b := i) (by omega) (by omega)) c_41)
          refine lv_aload_n hx hb dX11_law_183 rfl (lv_at hl 0 rfl) ?_
          refine x_get (ref := "NoteHouseModel") F hP k37 rfl (fun _ h => List.mem_cons_of_mem _ (List.mem_append_right _ (h))) 28 (Nat.le_of_ble_eq_true rfl) (List.mem_cons_of_mem _ (List.mem_append_left _ (List.mem_append_left _ (List.mem_of_getElem? (i := 3) rfl)))) rfl rfl dX11_law_184 ?_
          exact y_ir K hP hD hS (Nat.le_of_ble_eq_true rfl) (Nat.le_of_ble_eq_true rfl) (ty := .int) rfl rfl dX11_law_187 rfl
        | succ N ih160 =>
          intro i g5 w36 hN160 k37 k38 k39 k40 ls hl H locs hP hD hS
          refine lv_iload_n hx hb dX11_law_160 rfl (lv_at hl 1 rfl) ?_
          refine lv_iconst (v := 5) hx hb dX11_law_161 (by decide) ?_
          refine lv_icmp_ge (tgt := 183) hx hb dX11_law_162 (by decide) (fun c_42 => absurd c_42 (nI_ge (a := i) (b := 5) (by omega) (by decide))) (fun c_42 => ?_)
          refine lv_aload_n hx hb dX11_law_165 rfl (lv_at hl 0 rfl) ?_
          refine x_get (ref := "NoteHouseModel") F hP k37 rfl (fun _ h => List.mem_cons_of_mem _ (List.mem_append_right _ (h))) 35 (Nat.le_of_ble_eq_true rfl) (List.mem_cons_of_mem _ (List.mem_append_left _ (List.mem_append_left _ (List.mem_of_getElem? (i := 6) rfl)))) rfl rfl dX11_law_166 ?_
          refine lv_iload_n hx hb dX11_law_169 rfl (lv_at hl 1 rfl) ?_
          refine lv_aload_n hx hb dX11_law_170 rfl (lv_at hl 0 rfl) ?_
          refine x_get (ref := "NoteHouseModel") F hP k37 rfl (fun _ h => List.mem_cons_of_mem _ (List.mem_append_right _ (h))) 37 (Nat.le_of_ble_eq_true rfl) (List.mem_cons_of_mem _ (List.mem_append_left _ (List.mem_append_left _ (List.mem_of_getElem? (i := 1) rfl)))) rfl rfl dX11_law_171 ?_
          refine lv_iload_n hx hb dX11_law_174 rfl (lv_at hl 1 rfl) ?_
          refine x_iald F hP k40 (vp_in_nI (n := i) (N := 5) (by omega) (by decide)) dX11_law_175 ?_
          refine y_iast F hP hD hS k38 (vp_in_nI (n := i) (N := 5) (by omega) (by decide)) dX11_law_176 (fun w43 ew44 H locs hP hD hS => ?_)
          have k45 := wd_at.pt ew44 k37 (wd_nk k37 k38 rfl)
          have k46 : wd_at w43 m35 (.inl (cy 2, 5, .inl (upd g5 (nI i).toNatClampNeg (g7 (nI i).toNatClampNeg)))) := wd_at.ps ew44 k38
          have k47 := wd_at.pt ew44 k39 (Ne.symm n35x36)
          have k48 := wd_at.pt ew44 k40 (Ne.symm n35x37)
          refine lv_iinc (v := nI (i + 1)) (lv' := [(2, .int (nI (i + 1))), (0, .ref y)]) hx hb dX11_law_177 hl (k := 1) rfl (nI_1 i) (by decide) rfl (fun ls hl => ?_)
          refine lv_goto (tgt := 160) hx hb dX11_law_180 (by decide) ?_
          exact ih160 (i + 1) (upd g5 (nI i).toNatClampNeg (g7 (nI i).toNatClampNeg)) w43 (by omega)  k45 k46 k47 k48  ls (lv_sub hl [1, 0] rfl) H locs hP hD hS
      exact lp160 _ 0 f35 w29 (Nat.zero_add 5)  k31 k32 k33 k34  ls (lv_sub hl [2, 0] rfl) H locs hP hD hS
    | succ N ih2 =>
      intro i g6 g7 w1 hN2 k2 k3 k4 k5 ls hl H locs hP hD hS
      refine lv_iload_n hx hb dX11_law_2 rfl (lv_at hl 1 rfl) ?_
      refine lv_iconst (v := 5) hx hb dX11_law_3 (by decide) ?_
      refine lv_icmp_ge (tgt := 30) hx hb dX11_law_4 (by decide) (fun c_49 => absurd c_49 (nI_ge (a := i) (b := 5) (by omega) (by decide))) (fun c_49 => ?_)
      refine lv_aload_n hx hb dX11_law_7 rfl (lv_at hl 0 rfl) ?_
      refine x_get (ref := "NoteHouseModel") F hP k2 rfl (fun _ h => List.mem_cons_of_mem _ (List.mem_append_right _ (h))) 36 (Nat.le_of_ble_eq_true rfl) (List.mem_cons_of_mem _ (List.mem_append_left _ (List.mem_append_left _ (List.mem_of_getElem? (i := 0) rfl)))) rfl rfl dX11_law_8 ?_
      refine lv_iload_n hx hb dX11_law_11 rfl (lv_at hl 1 rfl) ?_
      refine lv_iconst (v := 0) hx hb dX11_law_12 (by decide) ?_
      refine y_zast F hP hD hS k4 (vp_in_nI (n := i) (N := 5) (by omega) (by decide)) dX11_law_13 (fun w50 ew51 H locs hP hD hS => ?_)
      have k52 := wd_at.pt ew51 k2 (wd_nk k2 k4 rfl)
      have k53 := wd_at.pt ew51 k3 n35x36
      have k54 : wd_at w50 m36 (.inl (cy 4, 5, .inl (upd g6 (nI i).toNatClampNeg (vp_nar .boolean 0)))) := wd_at.ps ew51 k4
      have k55 := wd_at.pt ew51 k5 (Ne.symm n36x37)
      refine lv_aload_n hx hb dX11_law_14 rfl (lv_at hl 0 rfl) ?_
      refine x_get (ref := "NoteHouseModel") F hP k52 rfl (fun _ h => List.mem_cons_of_mem _ (List.mem_append_right _ (h))) 37 (Nat.le_of_ble_eq_true rfl) (List.mem_cons_of_mem _ (List.mem_append_left _ (List.mem_append_left _ (List.mem_of_getElem? (i := 1) rfl)))) rfl rfl dX11_law_15 ?_
      refine lv_iload_n hx hb dX11_law_18 rfl (lv_at hl 1 rfl) ?_
      refine lv_iload_n hx hb dX11_law_19 rfl (lv_at hl 1 rfl) ?_
      refine x_callS (n := 1) (As := [.int (nI i)]) (rest := [.int (nI i), .ref m37]) F hP hD hS (c_X11_without l D cy w50 (nI i)) gX11_law_X11_without rfl (by decide +kernel) ⟨(Nat.le_of_ble_eq_true rfl), (Nat.le_of_ble_eq_true rfl)⟩ rfl hl.1 (Nat.le_of_ble_eq_true rfl) dX11_law_20 rfl ⟨(Nat.le_of_ble_eq_true rfl), (Nat.le_of_ble_eq_true rfl)⟩ (fun v57 w58 hp56 H locs hP hD hS => ?_)
      obtain ⟨rfl, rfl⟩ := hp56
      refine W.eq (g2 := F0 m 23 ls [.int (wt (nI i)), .int (nI i), .ref m37]) rfl (W.widen (k := 0) (n := 0) (Nat.le_of_ble_eq_true rfl) (Nat.le_of_ble_eq_true rfl) ?_)
      refine y_iast F hP hD hS k55 (vp_in_nI (n := i) (N := 5) (by omega) (by decide)) dX11_law_23 (fun w59 ew60 H locs hP hD hS => ?_)
      have k61 := wd_at.pt ew60 k52 (wd_nk k52 k55 rfl)
      have k62 := wd_at.pt ew60 k53 n35x37
      have k63 := wd_at.pt ew60 k54 n36x37
      have k64 : wd_at w59 m37 (.inl (cy 2, 5, .inl (upd g7 (nI i).toNatClampNeg (wt (nI i))))) := wd_at.ps ew60 k55
      refine lv_iinc (v := nI (i + 1)) (lv' := [(1, .int (nI (i + 1))), (0, .ref y)]) hx hb dX11_law_24 hl (k := 1) rfl (nI_1 i) (by decide) rfl (fun ls hl => ?_)
      refine lv_goto (tgt := 2) hx hb dX11_law_27 (by decide) ?_
      exact ih2 (i + 1) (upd g6 (nI i).toNatClampNeg (vp_nar .boolean 0)) (upd g7 (nI i).toNatClampNeg (wt (nI i))) w59 (by omega)  k61 k62 k63 k64  ls (lv_sub hl [1, 0] rfl) H locs hP hD hS
  exact lp2 _ 0 f36 f37 w (Nat.zero_add 5)  hy h35 h36 h37  ls (lv_sub hl [1, 0] rfl) H locs hP hD hS
set_option maxHeartbeats 4000000 in
set_option maxRecDepth 100000 in
theorem c_X11_send (l : Launch) (D : va_G) (cy : Nat → ClassId) (w : Wd) (y m2 m3 m4 m5 m6 m8 m9 m10 m11 m12 m13 m14 m17 m18 m19 m20 m21 m22 m23 m24 m29 m30 m31 m32 m33 m34 m35 m36 m37 m39 m40 m41 m42 m43 m44 m45 m46 m47 m48 m49 m51 m52 m53 m54 m56 m57 m58 m59 : Nat) (t co : Int32) (hy : wd_at w y (.inr (11, [.int 0, .int 0, .ref m2, .ref m3, .ref m4, .ref m5, .ref m6, .int 0, .ref m8, .ref m9, .ref m10, .ref m11, .ref m12, .ref m13, .ref m14, .int 0, .int 0, .ref m17, .ref m18, .ref m19, .ref m20, .ref m21, .ref m22, .ref m23, .ref m24, .int 0, .int 0, .int 0, .int 0, .ref m29, .ref m30, .ref m31, .ref m32, .ref m33, .ref m34, .ref m35, .ref m36, .ref m37, .int 0, .ref m39, .ref m40, .ref m41, .ref m42, .ref m43, .ref m44, .ref m45, .ref m46, .ref m47, .ref m48, .ref m49, .int 0, .ref m51, .ref m52, .ref m53, .ref m54, .int 0, .ref m56, .ref m57, .ref m58, .ref m59]))) (h49 : wd_at w m49 (.inl (cy 2, 12, .inl (fun _ => 0))))   : Ct l D cy yX11_send wsX11_send ({ frames := 1, cells := 0, slots := 0, locals := 22 }) [.ref y, .int t, .int co] w (fun v w1 => v = some (.int (sp_send t co))) := by
  refine Ct.by (cc := cX11_send) (maxL := 3) (ret := (some .int)) (by decide +kernel) rfl (Nat.le_of_ble_eq_true rfl) ?_
  intro p e s m args below meth c A Q F hnm K ls hl
  have F : wd_Fx p s m args meth c cX11_send 3 wsX11_send RX11 D cy A := F
  have hl : lv_has ls 3 [(0, .ref y), (1, .int t), (2, .int co)] := hl
  have hx := F.1.1
  have hb := F.1.2.1
  have hown := F.1.2.2.2.1
  have hts := F.1.2.2.2.2
  intro H locs hP hD hS
  refine lv_iload_n hx hb dX11_send_0 rfl (lv_at hl 1 rfl) ?_
  refine x_callS (n := 1) (As := [.int t]) (rest := []) F hP hD hS (c_X11_isTown l D cy w t) gX11_send_X11_isTown rfl (by decide +kernel) ⟨(Nat.le_of_ble_eq_true rfl), (Nat.le_of_ble_eq_true rfl)⟩ rfl hl.1 (Nat.le_of_ble_eq_true rfl) dX11_send_1 rfl ⟨(Nat.le_of_ble_eq_true rfl), (Nat.le_of_ble_eq_true rfl)⟩ (fun v2 w3 hp1 H locs hP hD hS => ?_)
  obtain ⟨rfl, rfl⟩ := hp1
  refine W.eq (g2 := F0 m 4 ls [.int (wi t 0 11)]) rfl (W.widen (k := 0) (n := 0) (Nat.le_of_ble_eq_true rfl) (Nat.le_of_ble_eq_true rfl) ?_)
  refine lv_if_eq (tgt := 36) hx hb dX11_send_4 (by decide) (fun c_1 => ?_) (fun c_1 => ?_)
  · refine lv_iconst (v := (-1)) hx hb dX11_send_36 (by decide) ?_
    exact y_ir K hP hD hS (Nat.le_of_ble_eq_true rfl) (Nat.le_of_ble_eq_true rfl) (ty := .int) rfl rfl dX11_send_37 (by simp [sp_send, c_1])
  · refine lv_iload_n hx hb dX11_send_7 rfl (lv_at hl 1 rfl) ?_
    refine lv_if_eq (tgt := 36) hx hb dX11_send_8 (by decide) (fun c_2 => ?_) (fun c_2 => ?_)
    · refine lv_iconst (v := (-1)) hx hb dX11_send_36 (by decide) ?_
      exact y_ir K hP hD hS (Nat.le_of_ble_eq_true rfl) (Nat.le_of_ble_eq_true rfl) (ty := .int) rfl rfl dX11_send_37 (by simp [sp_send, c_1, c_2])
    · refine lv_iload_n hx hb dX11_send_11 rfl (lv_at hl 2 rfl) ?_
      refine lv_iconst (v := 1) hx hb dX11_send_12 (by decide) ?_
      refine lv_ldcw (v := 1000000) hx hb hown (hts _ (List.mem_cons_of_mem _ (List.mem_append_left _ (List.mem_of_getElem? (i := 0) rfl)))) dX11_send_13 ?_
      refine x_callS (n := 3) (As := [.int co, .int 1, .int 1000000]) (rest := []) F hP hD hS (c_X11_in l D cy w co 1 1000000) gX11_send_X11_in rfl (by decide +kernel) ⟨(Nat.le_of_ble_eq_true rfl), (Nat.le_of_ble_eq_true rfl)⟩ rfl hl.1 (Nat.le_of_ble_eq_true rfl) dX11_send_16 rfl ⟨(Nat.le_of_ble_eq_true rfl), (Nat.le_of_ble_eq_true rfl)⟩ (fun v5 w6 hp4 H locs hP hD hS => ?_)
      obtain ⟨rfl, rfl⟩ := hp4
      refine W.eq (g2 := F0 m 19 ls [.int (wi co 1 1000000)]) rfl (W.widen (k := 0) (n := 0) (Nat.le_of_ble_eq_true rfl) (Nat.le_of_ble_eq_true rfl) ?_)
      refine lv_if_eq (tgt := 36) hx hb dX11_send_19 (by decide) (fun c_3 => ?_) (fun c_3 => ?_)
      · refine lv_iconst (v := (-1)) hx hb dX11_send_36 (by decide) ?_
        exact y_ir K hP hD hS (Nat.le_of_ble_eq_true rfl) (Nat.le_of_ble_eq_true rfl) (ty := .int) rfl rfl dX11_send_37 (by simp [sp_send, c_1, c_2, c_3])
      · refine lv_aload_n hx hb dX11_send_22 rfl (lv_at hl 0 rfl) ?_
        refine x_get (ref := "NoteHouseModel") F hP hy rfl (fun _ h => List.mem_cons_of_mem _ (List.mem_append_right _ (h))) 49 (Nat.le_of_ble_eq_true rfl) (List.mem_cons_of_mem _ (List.mem_append_left _ (List.mem_of_getElem? (i := 1) rfl))) rfl rfl dX11_send_23 ?_
        refine lv_iload_n hx hb dX11_send_26 rfl (lv_at hl 1 rfl) ?_
        refine x_iald F hP h49 (wi_v c_1) dX11_send_27 ?_
        refine lv_iload_n hx hb dX11_send_28 rfl (lv_at hl 2 rfl) ?_
        refine lv_iadd hx hb dX11_send_29 ?_
        rw [show (0 + co : Int32) = co from by simp]
        refine lv_ldcw (v := 1000000000) hx hb hown (hts _ (List.mem_cons_of_mem _ (List.mem_append_left _ (List.mem_of_getElem? (i := 2) rfl)))) dX11_send_30 ?_
        refine lv_icmp_le (tgt := 38) hx hb dX11_send_33 (by decide) (fun c_7 => ?_) (fun c_7 => absurd (sd_3 c_3) c_7)
        refine lv_aload_n hx hb dX11_send_38 rfl (lv_at hl 0 rfl) ?_
        refine x_get (ref := "NoteHouseModel") F hP hy rfl (fun _ h => List.mem_cons_of_mem _ (List.mem_append_right _ (h))) 49 (Nat.le_of_ble_eq_true rfl) (List.mem_cons_of_mem _ (List.mem_append_left _ (List.mem_of_getElem? (i := 1) rfl))) rfl rfl dX11_send_39 ?_
        refine lv_iload_n hx hb dX11_send_42 rfl (lv_at hl 1 rfl) ?_
        refine lv_dup2_11 hx hb dX11_send_43 rfl rfl ?_
        refine x_iald F hP h49 (wi_v c_1) dX11_send_44 ?_
        refine lv_iload_n hx hb dX11_send_45 rfl (lv_at hl 2 rfl) ?_
        refine lv_iadd hx hb dX11_send_46 ?_
        rw [show (0 + co : Int32) = co from by simp]
        refine y_iast F hP hD hS h49 (wi_v c_1) dX11_send_47 (fun w8 ew9 H locs hP hD hS => ?_)
        have k10 := wd_at.pt ew9 hy (wd_nk hy h49 rfl)
        have k11 : wd_at w8 m49 (.inl (cy 2, 12, .inl (upd (fun _ => 0) t.toNatClampNeg co))) := wd_at.ps ew9 h49
        refine lv_aload_n hx hb dX11_send_48 rfl (lv_at hl 0 rfl) ?_
        refine x_get (ref := "NoteHouseModel") F hP k10 rfl (fun _ h => List.mem_cons_of_mem _ (List.mem_append_right _ (h))) 49 (Nat.le_of_ble_eq_true rfl) (List.mem_cons_of_mem _ (List.mem_append_left _ (List.mem_of_getElem? (i := 1) rfl))) rfl rfl dX11_send_49 ?_
        refine lv_iload_n hx hb dX11_send_52 rfl (lv_at hl 1 rfl) ?_
        refine x_iald F hP k11 (wi_v c_1) dX11_send_53 ?_
        rw [pk_us]
        exact y_ir K hP hD hS (Nat.le_of_ble_eq_true rfl) (Nat.le_of_ble_eq_true rfl) (ty := .int) rfl rfl dX11_send_54 (by simp [sp_send, c_1, c_2, c_3])
set_option maxHeartbeats 4000000 in
set_option maxRecDepth 100000 in
theorem c_X11_count (l : Launch) (D : va_G) (cy : Nat → ClassId) (w : Wd) (y m2 m3 m4 m5 m6 m8 m9 m10 m11 m12 m13 m14 m17 m18 m19 m20 m21 m22 m23 m24 m29 m30 m31 m32 m33 m34 m35 m36 m37 m39 m40 m41 m42 m43 m44 m45 m46 m47 m48 m49 m51 m52 m53 m54 m56 m57 m58 m59 : Nat) (be : Nat → Int32) (k : Int32) (hy : wd_at w y (.inr (11, [.int 0, .int 0, .ref m2, .ref m3, .ref m4, .ref m5, .ref m6, .int 0, .ref m8, .ref m9, .ref m10, .ref m11, .ref m12, .ref m13, .ref m14, .int 0, .int 0, .ref m17, .ref m18, .ref m19, .ref m20, .ref m21, .ref m22, .ref m23, .ref m24, .int 0, .int 0, .int 0, .int 0, .ref m29, .ref m30, .ref m31, .ref m32, .ref m33, .ref m34, .ref m35, .ref m36, .ref m37, .int 0, .ref m39, .ref m40, .ref m41, .ref m42, .ref m43, .ref m44, .ref m45, .ref m46, .ref m47, .ref m48, .ref m49, .int 0, .ref m51, .ref m52, .ref m53, .ref m54, .int 0, .ref m56, .ref m57, .ref m58, .ref m59]))) (h29 : wd_at w m29 (.inl (cy 2, 12, .inl (fun _ => 0)))) (h35 : wd_at w m35 (.inl (cy 2, 5, .inl be)))  (hbe : ∀ j, j < 5 → be j = wt (nI j)) : Ct l D cy yX11_count wsX11_count ({ frames := 1, cells := 0, slots := 0, locals := 22 }) [.ref y, .int k] w (fun v w1 => v = some (.int (sp_count k))) := by
  refine Ct.by (cc := cX11_count) (maxL := 2) (ret := (some .int)) (by decide +kernel) rfl (Nat.le_of_ble_eq_true rfl) ?_
  intro p e s m args below meth c A Q F hnm K ls hl
  have F : wd_Fx p s m args meth c cX11_count 2 wsX11_count RX11 D cy A := F
  have hl : lv_has ls 2 [(0, .ref y), (1, .int k)] := hl
  have hx := F.1.1
  have hb := F.1.2.1
  have hown := F.1.2.2.2.1
  have hts := F.1.2.2.2.2
  intro H locs hP hD hS
  refine lv_iload_n hx hb dX11_count_0 rfl (lv_at hl 1 rfl) ?_
  refine lv_bipush (v := 10) hx hb dX11_count_1 (by decide) ?_
  refine lv_bipush (v := 21) hx hb dX11_count_3 (by decide) ?_
  refine x_callS (n := 3) (As := [.int k, .int 10, .int 21]) (rest := []) F hP hD hS (c_X11_in l D cy w k 10 21) gX11_count_X11_in rfl (by decide +kernel) ⟨(Nat.le_of_ble_eq_true rfl), (Nat.le_of_ble_eq_true rfl)⟩ rfl hl.1 (Nat.le_of_ble_eq_true rfl) dX11_count_5 rfl ⟨(Nat.le_of_ble_eq_true rfl), (Nat.le_of_ble_eq_true rfl)⟩ (fun v2 w3 hp1 H locs hP hD hS => ?_)
  obtain ⟨rfl, rfl⟩ := hp1
  refine W.eq (g2 := F0 m 8 ls [.int (wi k 10 21)]) rfl (W.widen (k := 0) (n := 0) (Nat.le_of_ble_eq_true rfl) (Nat.le_of_ble_eq_true rfl) ?_)
  refine lv_if_eq (tgt := 21) hx hb dX11_count_8 (by decide) (fun c_1 => ?_) (fun c_1 => ?_)
  · refine lv_iload_n hx hb dX11_count_21 rfl (lv_at hl 1 rfl) ?_
    refine lv_bipush (v := 30) hx hb dX11_count_22 (by decide) ?_
    refine lv_bipush (v := 34) hx hb dX11_count_24 (by decide) ?_
    refine x_callS (n := 3) (As := [.int k, .int 30, .int 34]) (rest := []) F hP hD hS (c_X11_in l D cy w k 30 34) gX11_count_X11_in rfl (by decide +kernel) ⟨(Nat.le_of_ble_eq_true rfl), (Nat.le_of_ble_eq_true rfl)⟩ rfl hl.1 (Nat.le_of_ble_eq_true rfl) dX11_count_26 rfl ⟨(Nat.le_of_ble_eq_true rfl), (Nat.le_of_ble_eq_true rfl)⟩ (fun v5 w6 hp4 H locs hP hD hS => ?_)
    obtain ⟨rfl, rfl⟩ := hp4
    refine W.eq (g2 := F0 m 29 ls [.int (wi k 30 34)]) rfl (W.widen (k := 0) (n := 0) (Nat.le_of_ble_eq_true rfl) (Nat.le_of_ble_eq_true rfl) ?_)
    refine lv_if_eq (tgt := 42) hx hb dX11_count_29 (by decide) (fun c_2 => ?_) (fun c_2 => ?_)
    · refine lv_iload_n hx hb dX11_count_42 rfl (lv_at hl 1 rfl) ?_
      by_cases c_7 : k = 0
      · refine lv_tableIn (off := 41) (tgt := 84) hx hb dX11_count_43 (by rw [c_7]; decide) (by rw [c_7]; decide) (by rw [c_7]; decide) (by decide) ?_
        refine lv_aload_n hx hb dX11_count_84 rfl (lv_at hl 0 rfl) ?_
        refine x_get (ref := "NoteHouseModel") F hP hy rfl (fun _ h => List.mem_cons_of_mem _ (List.mem_append_right _ (h))) 1 (Nat.le_of_ble_eq_true rfl) (List.mem_cons_of_mem _ (List.mem_append_left _ (List.mem_of_getElem? (i := 2) rfl))) rfl rfl dX11_count_85 ?_
        exact y_ir K hP hD hS (Nat.le_of_ble_eq_true rfl) (Nat.le_of_ble_eq_true rfl) (ty := .int) rfl rfl dX11_count_88 (by rw [c_7]; decide)
      by_cases c_8 : k = 1
      · refine lv_tableIn (off := 46) (tgt := 89) hx hb dX11_count_43 (by rw [c_8]; decide) (by rw [c_8]; decide) (by rw [c_8]; decide) (by decide) ?_
        refine lv_aload_n hx hb dX11_count_89 rfl (lv_at hl 0 rfl) ?_
        refine x_get (ref := "NoteHouseModel") F hP hy rfl (fun _ h => List.mem_cons_of_mem _ (List.mem_append_right _ (h))) 7 (Nat.le_of_ble_eq_true rfl) (List.mem_cons_of_mem _ (List.mem_append_left _ (List.mem_of_getElem? (i := 3) rfl))) rfl rfl dX11_count_90 ?_
        exact y_ir K hP hD hS (Nat.le_of_ble_eq_true rfl) (Nat.le_of_ble_eq_true rfl) (ty := .int) rfl rfl dX11_count_93 (by rw [c_8]; decide)
      by_cases c_9 : k = 2
      · refine lv_tableIn (off := 51) (tgt := 94) hx hb dX11_count_43 (by rw [c_9]; decide) (by rw [c_9]; decide) (by rw [c_9]; decide) (by decide) ?_
        refine lv_aload_n hx hb dX11_count_94 rfl (lv_at hl 0 rfl) ?_
        refine x_get (ref := "NoteHouseModel") F hP hy rfl (fun _ h => List.mem_cons_of_mem _ (List.mem_append_right _ (h))) 15 (Nat.le_of_ble_eq_true rfl) (List.mem_cons_of_mem _ (List.mem_append_left _ (List.mem_of_getElem? (i := 4) rfl))) rfl rfl dX11_count_95 ?_
        exact y_ir K hP hD hS (Nat.le_of_ble_eq_true rfl) (Nat.le_of_ble_eq_true rfl) (ty := .int) rfl rfl dX11_count_98 (by rw [c_9]; decide)
      by_cases c_10 : k = 3
      · refine lv_tableIn (off := 56) (tgt := 99) hx hb dX11_count_43 (by rw [c_10]; decide) (by rw [c_10]; decide) (by rw [c_10]; decide) (by decide) ?_
        refine lv_aload_n hx hb dX11_count_99 rfl (lv_at hl 0 rfl) ?_
        refine x_get (ref := "NoteHouseModel") F hP hy rfl (fun _ h => List.mem_cons_of_mem _ (List.mem_append_right _ (h))) 16 (Nat.le_of_ble_eq_true rfl) (List.mem_cons_of_mem _ (List.mem_append_left _ (List.mem_of_getElem? (i := 5) rfl))) rfl rfl dX11_count_100 ?_
        exact y_ir K hP hD hS (Nat.le_of_ble_eq_true rfl) (Nat.le_of_ble_eq_true rfl) (ty := .int) rfl rfl dX11_count_103 (by rw [c_10]; decide)
      by_cases c_11 : k = 4
      · refine lv_tableIn (off := 61) (tgt := 104) hx hb dX11_count_43 (by rw [c_11]; decide) (by rw [c_11]; decide) (by rw [c_11]; decide) (by decide) ?_
        refine lv_aload_n hx hb dX11_count_104 rfl (lv_at hl 0 rfl) ?_
        refine x_get (ref := "NoteHouseModel") F hP hy rfl (fun _ h => List.mem_cons_of_mem _ (List.mem_append_right _ (h))) 38 (Nat.le_of_ble_eq_true rfl) (List.mem_cons_of_mem _ (List.mem_append_left _ (List.mem_of_getElem? (i := 6) rfl))) rfl rfl dX11_count_105 ?_
        exact y_ir K hP hD hS (Nat.le_of_ble_eq_true rfl) (Nat.le_of_ble_eq_true rfl) (ty := .int) rfl rfl dX11_count_108 (by rw [c_11]; decide)
      by_cases c_12 : k = 5
      · refine lv_tableIn (off := 66) (tgt := 109) hx hb dX11_count_43 (by rw [c_12]; decide) (by rw [c_12]; decide) (by rw [c_12]; decide) (by decide) ?_
        refine lv_aload_n hx hb dX11_count_109 rfl (lv_at hl 0 rfl) ?_
        refine x_get (ref := "NoteHouseModel") F hP hy rfl (fun _ h => List.mem_cons_of_mem _ (List.mem_append_right _ (h))) 25 (Nat.le_of_ble_eq_true rfl) (List.mem_cons_of_mem _ (List.mem_append_left _ (List.mem_of_getElem? (i := 7) rfl))) rfl rfl dX11_count_110 ?_
        exact y_ir K hP hD hS (Nat.le_of_ble_eq_true rfl) (Nat.le_of_ble_eq_true rfl) (ty := .int) rfl rfl dX11_count_113 (by rw [c_12]; decide)
      by_cases c_13 : k = 6
      · refine lv_tableIn (off := 71) (tgt := 114) hx hb dX11_count_43 (by rw [c_13]; decide) (by rw [c_13]; decide) (by rw [c_13]; decide) (by decide) ?_
        refine lv_aload_n hx hb dX11_count_114 rfl (lv_at hl 0 rfl) ?_
        refine x_get (ref := "NoteHouseModel") F hP hy rfl (fun _ h => List.mem_cons_of_mem _ (List.mem_append_right _ (h))) 55 (Nat.le_of_ble_eq_true rfl) (List.mem_cons_of_mem _ (List.mem_append_left _ (List.mem_of_getElem? (i := 8) rfl))) rfl rfl dX11_count_115 ?_
        exact y_ir K hP hD hS (Nat.le_of_ble_eq_true rfl) (Nat.le_of_ble_eq_true rfl) (ty := .int) rfl rfl dX11_count_118 (by rw [c_13]; decide)
      refine lv_tableOut (tgt := 119) hx hb dX11_count_43 (by have z0 := lv_neT c_7 (show (0 : Int32).toInt = 0 by decide); have z1 := lv_neT c_8 (show (1 : Int32).toInt = 1 by decide); have z2 := lv_neT c_9 (show (2 : Int32).toInt = 2 by decide); have z3 := lv_neT c_10 (show (3 : Int32).toInt = 3 by decide); have z4 := lv_neT c_11 (show (4 : Int32).toInt = 4 by decide); have z5 := lv_neT c_12 (show (5 : Int32).toInt = 5 by decide); have z6 := lv_neT c_13 (show (6 : Int32).toInt = 6 by decide); omega) (by decide) ?_
      refine lv_iconst (v := (-1)) hx hb dX11_count_119 (by decide) ?_
      exact y_ir K hP hD hS (Nat.le_of_ble_eq_true rfl) (Nat.le_of_ble_eq_true rfl) (ty := .int) rfl rfl dX11_count_120 (by obtain ⟨e0, e1, e2, e3, e4⟩ := ct_34 c_2; simp [sp_count, e0, e1, e2, e3, e4, c_1, c_7, c_8, c_9, c_10, c_11, c_12, c_13])
    · refine lv_aload_n hx hb dX11_count_32 rfl (lv_at hl 0 rfl) ?_
      refine x_get (ref := "NoteHouseModel") F hP hy rfl (fun _ h => List.mem_cons_of_mem _ (List.mem_append_right _ (h))) 35 (Nat.le_of_ble_eq_true rfl) (List.mem_cons_of_mem _ (List.mem_append_left _ (List.mem_of_getElem? (i := 1) rfl))) rfl rfl dX11_count_33 ?_
      refine lv_iload_n hx hb dX11_count_36 rfl (lv_at hl 1 rfl) ?_
      refine lv_bipush (v := 30) hx hb dX11_count_37 (by decide) ?_
      refine lv_isub hx hb dX11_count_39 ?_
      refine x_iald F hP h35 (wi_34v c_2) dX11_count_40 ?_
      exact y_ir K hP hD hS (Nat.le_of_ble_eq_true rfl) (Nat.le_of_ble_eq_true rfl) (ty := .int) rfl rfl dX11_count_41 (by rw [ct_m c_2 hbe])
  · refine lv_aload_n hx hb dX11_count_11 rfl (lv_at hl 0 rfl) ?_
    refine x_get (ref := "NoteHouseModel") F hP hy rfl (fun _ h => List.mem_cons_of_mem _ (List.mem_append_right _ (h))) 29 (Nat.le_of_ble_eq_true rfl) (List.mem_cons_of_mem _ (List.mem_append_left _ (List.mem_of_getElem? (i := 0) rfl))) rfl rfl dX11_count_12 ?_
    refine lv_iload_n hx hb dX11_count_15 rfl (lv_at hl 1 rfl) ?_
    refine lv_bipush (v := 10) hx hb dX11_count_16 (by decide) ?_
    refine lv_isub hx hb dX11_count_18 ?_
    refine x_iald F hP h29 (wi_1021 c_1) dX11_count_19 ?_
    exact y_ir K hP hD hS (Nat.le_of_ble_eq_true rfl) (Nat.le_of_ble_eq_true rfl) (ty := .int) rfl rfl dX11_count_20 (by simp [sp_count, c_1])
theorem td_n {t : Int32} {N : Nat} (h : t + 1 = nI (N + 1)) : t = nI N := by
  have h1 : t = (t + 1) - 1 := by simp
  rw [h1, h, nI_pred]
theorem td_0 {t : Int32} (h : t + 1 = nI 0) : t < 0 := by
  have h1 : t = (t + 1) - 1 := by simp
  rw [h1, h]; decide
theorem td_g {t : Int32} {N : Nat} (h : t + 1 = nI (N + 1)) (hN : N + 1 ≤ 12) : ¬ t < 0 := by rw [td_n h]; exact nI_pos (by omega)
theorem td_v {t : Int32} {N : Nat} (h : t + 1 = nI (N + 1)) (hN : N + 1 ≤ 12) : vp_in t 12 := by rw [td_n h]; exact vp_in_nI (by omega) (by decide)
theorem td_b {t : Int32} {N : Nat} (h : t + 1 = nI (N + 1)) (hN : N + 1 ≤ 12) : t + (-1) + 1 = nI N ∧ N ≤ 12 := ⟨by rw [← td_n h, Int32.add_assoc, show ((-1 : Int32) + 1) = 0 from by decide, Int32.add_zero], by omega⟩
theorem td_c {t : Int32} {N : Nat} (h : t + 1 = nI (N + 1)) (hN : N + 1 ≤ 12) : t.toNatClampNeg = N := by rw [td_n h]; exact nI_clamp (by omega)
theorem oz_s {i : Nat} {g : Nat → Int64} (hi : i < 12) (hg : ∀ j, j < i → g j = 0) : ∀ j, j < i + 1 → vp_updL g (nI i).toNatClampNeg 0 j = 0 := fl_l hi (by decide) hg
set_option maxHeartbeats 4000000 in
set_option maxRecDepth 100000 in
theorem c_X11_nets (l : Launch) (D : va_G) (cy : Nat → ClassId) (w : Wd) (y m2 m3 m4 m5 m6 m8 m9 m10 m11 m12 m13 m14 m17 m18 m19 m20 m21 m22 m23 m24 m29 m30 m31 m32 m33 m34 m35 m36 m37 m39 m40 m41 m42 m43 m44 m45 m46 m47 m48 m49 m51 m52 m53 m54 m56 m57 m58 m59 : Nat) (f4 : Nat → Int32) (dd oo : Nat → Int64) (hy : wd_at w y (.inr (11, [.int 0, .int 0, .ref m2, .ref m3, .ref m4, .ref m5, .ref m6, .int 0, .ref m8, .ref m9, .ref m10, .ref m11, .ref m12, .ref m13, .ref m14, .int 0, .int 0, .ref m17, .ref m18, .ref m19, .ref m20, .ref m21, .ref m22, .ref m23, .ref m24, .int 0, .int 0, .int 0, .int 0, .ref m29, .ref m30, .ref m31, .ref m32, .ref m33, .ref m34, .ref m35, .ref m36, .ref m37, .int 0, .ref m39, .ref m40, .ref m41, .ref m42, .ref m43, .ref m44, .ref m45, .ref m46, .ref m47, .ref m48, .ref m49, .int 1, .ref m51, .ref m52, .ref m53, .ref m54, .int 0, .ref m56, .ref m57, .ref m58, .ref m59]))) (h4 : wd_at w m4 (.inl (cy 2, 12, .inl f4))) (h53 : wd_at w m53 (.inl (cy 3, 12, .inr (.inl dd)))) (h54 : wd_at w m54 (.inl (cy 3, 12, .inr (.inl oo))))  (n53x54 : m53 ≠ m54) (hd : ∀ j, j < 12 → dd j = 0) : Ct l D cy yX11_nets wsX11_nets ({ frames := 0, cells := 0, slots := 0, locals := 0 }) [.ref y] w (fun v w1 => v = none) := by
  refine Ct.by (cc := cX11_nets) (maxL := 7) (ret := none) (by decide +kernel) rfl (Nat.le_of_ble_eq_true rfl) ?_
  intro p e s m args below meth c A Q F hnm K ls hl
  have F : wd_Fx p s m args meth c cX11_nets 7 wsX11_nets RX11 D cy A := F
  have hl : lv_has ls 7 [(0, .ref y)] := hl
  have hx := F.1.1
  have hb := F.1.2.1
  have hown := F.1.2.2.2.1
  have hts := F.1.2.2.2.2
  intro H locs hP hD hS
  refine lv_aload_n hx hb dX11_nets_0 rfl (lv_at hl 0 rfl) ?_
  refine lv_iconst (v := 0) hx hb dX11_nets_1 (by decide) ?_
  refine y_put (ref := "NoteHouseModel") F hP hD hS hy rfl (fun _ h => List.mem_cons_of_mem _ (List.mem_append_right _ (h))) tyX11_ok nmX11 55 (Nat.le_of_ble_eq_true rfl) (List.mem_cons_of_mem _ (List.mem_append_left _ (List.mem_of_getElem? (i := 0) rfl))) rfl rfl rfl rfl (Nat.le_of_ble_eq_true rfl) dX11_nets_2 (fun w1 ew2 H locs hP hD hS => ?_)
  have k3 : wd_at w1 y (.inr (11, [.int 0, .int 0, .ref m2, .ref m3, .ref m4, .ref m5, .ref m6, .int 0, .ref m8, .ref m9, .ref m10, .ref m11, .ref m12, .ref m13, .ref m14, .int 0, .int 0, .ref m17, .ref m18, .ref m19, .ref m20, .ref m21, .ref m22, .ref m23, .ref m24, .int 0, .int 0, .int 0, .int 0, .ref m29, .ref m30, .ref m31, .ref m32, .ref m33, .ref m34, .ref m35, .ref m36, .ref m37, .int 0, .ref m39, .ref m40, .ref m41, .ref m42, .ref m43, .ref m44, .ref m45, .ref m46, .ref m47, .ref m48, .ref m49, .int 1, .ref m51, .ref m52, .ref m53, .ref m54, .int 0, .ref m56, .ref m57, .ref m58, .ref m59])) := wd_at.ps ew2 hy
  have k4 := wd_at.pt ew2 h4 (wd_nk h4 hy rfl)
  have k5 := wd_at.pt ew2 h53 (wd_nk h53 hy rfl)
  have k6 := wd_at.pt ew2 h54 (wd_nk h54 hy rfl)
  refine lv_iconst (v := 0) hx hb dX11_nets_5 (by decide) ?_
  refine lv_istore_n (lv' := [(1, .int 0), (0, .ref y)]) hx hb dX11_nets_6 rfl hl (by decide) rfl (fun ls hl => ?_)
  have lp7 : ∀ (N : Nat) (i : Nat) (og : Nat → Int64) (w7 : Wd), (i + N = 12) → (∀ j, j < i → og j = 0) → (wd_at w7 y (.inr (11, [.int 0, .int 0, .ref m2, .ref m3, .ref m4, .ref m5, .ref m6, .int 0, .ref m8, .ref m9, .ref m10, .ref m11, .ref m12, .ref m13, .ref m14, .int 0, .int 0, .ref m17, .ref m18, .ref m19, .ref m20, .ref m21, .ref m22, .ref m23, .ref m24, .int 0, .int 0, .int 0, .int 0, .ref m29, .ref m30, .ref m31, .ref m32, .ref m33, .ref m34, .ref m35, .ref m36, .ref m37, .int 0, .ref m39, .ref m40, .ref m41, .ref m42, .ref m43, .ref m44, .ref m45, .ref m46, .ref m47, .ref m48, .ref m49, .int 1, .ref m51, .ref m52, .ref m53, .ref m54, .int 0, .ref m56, .ref m57, .ref m58, .ref m59]))) → (wd_at w7 m4 (.inl (cy 2, 12, .inl f4))) → (wd_at w7 m53 (.inl (cy 3, 12, .inr (.inl dd)))) → (wd_at w7 m54 (.inl (cy 3, 12, .inr (.inl og)))) → ∀ (ls : Array Slot), lv_has ls 7 [(0, .ref y), (1, .int (nI i))] → Wv p l e ({ frames := 0, cells := 0, slots := 0, locals := 0 }) s m args below meth c D A (0) (0) Q w7 (F0 m 7 ls []) := by
    intro N
    induction N with
    | zero =>
      intro i og w7 hN7 ho k8 k9 k10 k11 ls hl H locs hP hD hS
      refine lv_iload_n hx hb dX11_nets_7 rfl (lv_at hl 1 rfl) ?_
      refine lv_bipush (v := 12) hx hb dX11_nets_8 (by decide) ?_
      refine lv_icmp_ge (tgt := 31) hx hb dX11_nets_10 (by decide) (fun c_12 => ?_) (fun c_12 => absurd (nI_le (a := 12) (b := i) (by omega) (by omega)) c_12)
      refine lv_iconst (v := 0) hx hb dX11_nets_31 (by decide) ?_
      refine lv_istore_n (lv' := [(1, .int 0), (0, .ref y)]) hx hb dX11_nets_32 rfl hl (by decide) rfl (fun ls hl => ?_)
      have lp33 : ∀ (N : Nat) (i2 : Nat), (i2 + N = 4) → ∀ (ls : Array Slot), lv_has ls 7 [(0, .ref y), (1, .int (nI i2))] → Wv p l e ({ frames := 0, cells := 0, slots := 0, locals := 0 }) s m args below meth c D A (0) (0) Q w7 (F0 m 33 ls []) := by
        intro N
        induction N with
        | zero =>
          intro i2 hN33 ls hl H locs hP hD hS
          refine lv_iload_n hx hb dX11_nets_33 rfl (lv_at hl 1 rfl) ?_
          refine lv_iconst (v := 4) hx hb dX11_nets_34 (by decide) ?_
          refine lv_icmp_ge (tgt := 305) hx hb dX11_nets_35 (by decide) (fun c_14 => ?_) (fun c_14 => absurd (nI_le (a := 4) (b := i2) (by omega) (by omega)) c_14)
          exact y_vr K hP hD hS (Nat.le_of_ble_eq_true rfl) (Nat.le_of_ble_eq_true rfl) rfl dX11_nets_305 rfl
        | succ N ih33 =>
          intro i2 hN33 ls hl H locs hP hD hS
          refine lv_iload_n hx hb dX11_nets_33 rfl (lv_at hl 1 rfl) ?_
          refine lv_iconst (v := 4) hx hb dX11_nets_34 (by decide) ?_
          refine lv_icmp_ge (tgt := 305) hx hb dX11_nets_35 (by decide) (fun c_15 => absurd c_15 (nI_ge (a := i2) (b := 4) (by omega) (by decide))) (fun c_15 => ?_)
          refine lv_iconst (v := 1) hx hb dX11_nets_38 (by decide) ?_
          refine lv_istore_n (lv' := [(2, .int 1), (0, .ref y), (1, .int (nI i2))]) hx hb dX11_nets_39 rfl hl (by decide) rfl (fun ls hl => ?_)
          refine lv_iload_n hx hb dX11_nets_40 rfl (lv_at hl 0 rfl) ?_
          refine lv_if_eq (tgt := 211) hx hb dX11_nets_41 (by decide) (fun c_16 => absurd c_16 (show ¬ (1 : Int32) = (0 : Int32) by decide)) (fun c_16 => ?_)
          refine lv_iconst (v := (-1)) hx hb dX11_nets_44 (by decide) ?_
          refine lv_istore_n (lv' := [(3, .int (-1)), (2, .int 1), (0, .ref y), (1, .int (nI i2))]) hx hb dX11_nets_45 rfl hl (by decide) rfl (fun ls hl => ?_)
          refine lv_iconst (v := (-1)) hx hb dX11_nets_46 (by decide) ?_
          refine lv_istore (lv' := [(4, .int (-1)), (3, .int (-1)), (2, .int 1), (0, .ref y), (1, .int (nI i2))]) hx hb dX11_nets_47 hl (by decide) rfl (fun ls hl => ?_)
          refine lv_bipush (v := 11) hx hb dX11_nets_49 (by decide) ?_
          refine lv_istore (lv' := [(5, .int 11), (4, .int (-1)), (3, .int (-1)), (2, .int 1), (0, .ref y), (1, .int (nI i2))]) hx hb dX11_nets_51 hl (by decide) rfl (fun ls hl => ?_)
          have lp53 : ∀ (N : Nat) (t : Int32), (t + 1 = nI N ∧ N ≤ 12) → ∀ (ls : Array Slot), lv_has ls 7 [(0, .ref y), (1, .int (nI i2)), (2, .int 1), (3, .int (-1)), (4, .int (-1)), (5, .int t)] → Wv p l e ({ frames := 0, cells := 0, slots := 0, locals := 0 }) s m args below meth c D A (0) (0) Q w7 (F0 m 53 ls []) := by
            intro N
            induction N with
            | zero =>
              intro t hN53 ls hl H locs hP hD hS
              refine lv_iload hx hb dX11_nets_53 (lv_at hl 5 rfl) ?_
              refine lv_if_lt (tgt := 117) hx hb dX11_nets_55 (by decide) (fun c_18 => ?_) (fun c_18 => absurd (td_0 hN53.1) c_18)
              refine lv_iload_n hx hb dX11_nets_117 rfl (lv_at hl 3 rfl) ?_
              refine lv_iconst (v := (-1)) hx hb dX11_nets_118 (by decide) ?_
              refine lv_icmp_eq (tgt := 132) hx hb dX11_nets_119 (by decide) (fun c_19 => ?_) (fun c_19 => absurd (show (-1 : Int32) = (-1 : Int32) by decide) c_19)
              refine lv_iconst (v := 0) hx hb dX11_nets_132 (by decide) ?_
              refine lv_istore_n (lv' := [(2, .int 0), (0, .ref y), (1, .int (nI i2)), (3, .int (-1)), (4, .int (-1)), (5, .int t)]) hx hb dX11_nets_133 rfl hl (by decide) rfl (fun ls hl => ?_)
              refine lv_iload_n hx hb dX11_nets_134 rfl (lv_at hl 0 rfl) ?_
              refine lv_if_eq (tgt := 208) hx hb dX11_nets_135 (by decide) (fun c_20 => ?_) (fun c_20 => absurd (show (0 : Int32) = (0 : Int32) by decide) c_20)
              refine lv_goto (tgt := 40) hx hb dX11_nets_208 (by decide) ?_
              refine lv_iload_n hx hb dX11_nets_40 rfl (lv_at hl 0 rfl) ?_
              refine lv_if_eq (tgt := 211) hx hb dX11_nets_41 (by decide) (fun c_21 => ?_) (fun c_21 => absurd (show (0 : Int32) = (0 : Int32) by decide) c_21)
              refine lv_iconst (v := 0) hx hb dX11_nets_211 (by decide) ?_
              refine lv_istore_n (lv' := [(3, .int 0), (2, .int 0), (0, .ref y), (1, .int (nI i2)), (4, .int (-1)), (5, .int t)]) hx hb dX11_nets_212 rfl hl (by decide) rfl (fun ls hl => ?_)
              have lp213 : ∀ (N : Nat) (k : Nat), (k + N = 12) → ∀ (ls : Array Slot), lv_has ls 7 [(0, .ref y), (1, .int (nI i2)), (3, .int (nI k))] → Wv p l e ({ frames := 0, cells := 0, slots := 0, locals := 0 }) s m args below meth c D A (0) (0) Q w7 (F0 m 213 ls []) := by
                intro N
                induction N with
                | zero =>
                  intro k hN213 ls hl H locs hP hD hS
                  refine lv_iload_n hx hb dX11_nets_213 rfl (lv_at hl 2 rfl) ?_
                  refine lv_bipush (v := 12) hx hb dX11_nets_214 (by decide) ?_
                  refine lv_icmp_ge (tgt := 299) hx hb dX11_nets_216 (by decide) (fun c_23 => ?_) (fun c_23 => absurd (nI_le (a := 12) (b := k) (by omega) (by omega)) c_23)
                  refine lv_iinc (v := nI (i2 + 1)) (lv' := [(1, .int (nI (i2 + 1))), (0, .ref y), (3, .int (nI k))]) hx hb dX11_nets_299 hl (k := 1) rfl (nI_1 i2) (by decide) rfl (fun ls hl => ?_)
                  refine lv_goto (tgt := 33) hx hb dX11_nets_302 (by decide) ?_
                  exact ih33 (i2 + 1)  (by omega)    ls (lv_sub hl [1, 0] rfl) H locs hP hD hS
                | succ N ih213 =>
                  intro k hN213 ls hl H locs hP hD hS
                  refine lv_iload_n hx hb dX11_nets_213 rfl (lv_at hl 2 rfl) ?_
                  refine lv_bipush (v := 12) hx hb dX11_nets_214 (by decide) ?_
                  refine lv_icmp_ge (tgt := 299) hx hb dX11_nets_216 (by decide) (fun c_24 => absurd c_24 (nI_ge (a := k) (b := 12) (by omega) (by decide))) (fun c_24 => ?_)
                  refine lv_aload_n hx hb dX11_nets_219 rfl (lv_at hl 0 rfl) ?_
                  refine x_get (ref := "NoteHouseModel") F hP k8 rfl (fun _ h => List.mem_cons_of_mem _ (List.mem_append_right _ (h))) 4 (Nat.le_of_ble_eq_true rfl) (List.mem_cons_of_mem _ (List.mem_append_left _ (List.mem_of_getElem? (i := 3) rfl))) rfl rfl dX11_nets_220 ?_
                  refine lv_iload_n hx hb dX11_nets_223 rfl (lv_at hl 2 rfl) ?_
                  refine x_iald F hP k9 (vp_in_nI (n := k) (N := 12) (by omega) (by decide)) dX11_nets_224 ?_
                  refine lv_iload_n hx hb dX11_nets_225 rfl (lv_at hl 1 rfl) ?_
                  refine lv_icmp_ne (tgt := 257) hx hb dX11_nets_226 (by decide) (fun c_25 => ?_) (fun c_25 => ?_)
                  · refine lv_aload_n hx hb dX11_nets_257 rfl (lv_at hl 0 rfl) ?_
                    refine x_get (ref := "NoteHouseModel") F hP k8 rfl (fun _ h => List.mem_cons_of_mem _ (List.mem_append_right _ (h))) 4 (Nat.le_of_ble_eq_true rfl) (List.mem_cons_of_mem _ (List.mem_append_left _ (List.mem_of_getElem? (i := 3) rfl))) rfl rfl dX11_nets_258 ?_
                    refine lv_iload_n hx hb dX11_nets_261 rfl (lv_at hl 2 rfl) ?_
                    refine x_iald F hP k9 (vp_in_nI (n := k) (N := 12) (by omega) (by decide)) dX11_nets_262 ?_
                    refine lv_iload_n hx hb dX11_nets_263 rfl (lv_at hl 1 rfl) ?_
                    refine lv_icmp_ne (tgt := 293) hx hb dX11_nets_264 (by decide) (fun c_26 => ?_) (fun c_26 => ?_)
                    · refine lv_iinc (v := nI (k + 1)) (lv' := [(3, .int (nI (k + 1))), (0, .ref y), (1, .int (nI i2))]) hx hb dX11_nets_293 hl (k := 2) rfl (nI_1 k) (by decide) rfl (fun ls hl => ?_)
                      refine lv_goto (tgt := 213) hx hb dX11_nets_296 (by decide) ?_
                      exact ih213 (k + 1)  (by omega)    ls (lv_sub hl [1, 2, 0] rfl) H locs hP hD hS
                    · refine lv_aload_n hx hb dX11_nets_267 rfl (lv_at hl 0 rfl) ?_
                      refine x_get (ref := "NoteHouseModel") F hP k8 rfl (fun _ h => List.mem_cons_of_mem _ (List.mem_append_right _ (h))) 54 (Nat.le_of_ble_eq_true rfl) (List.mem_cons_of_mem _ (List.mem_append_left _ (List.mem_of_getElem? (i := 1) rfl))) rfl rfl dX11_nets_268 ?_
                      refine lv_iload_n hx hb dX11_nets_271 rfl (lv_at hl 2 rfl) ?_
                      refine x_lald F hP k11 (vp_in_nI (n := k) (N := 12) (by omega) (by decide)) dX11_nets_272 ?_
                      rw [nI_clamp (n := k) (by omega), ho k (by omega)]
                      refine lv_lconst (v := 0) hx hb dX11_nets_273 (by decide) ?_
                      refine W.lcmp hx hb dX11_nets_274 ?_
                      rw [show lg_cmp 0 0 = 0 from by decide]
                      refine lv_if_ge (tgt := 293) hx hb dX11_nets_275 (by decide) (fun c_27 => ?_) (fun c_27 => absurd (show (0 : Int32) ≤ (0 : Int32) by decide) c_27)
                      refine lv_iinc (v := nI (k + 1)) (lv' := [(3, .int (nI (k + 1))), (0, .ref y), (1, .int (nI i2))]) hx hb dX11_nets_293 hl (k := 2) rfl (nI_1 k) (by decide) rfl (fun ls hl => ?_)
                      refine lv_goto (tgt := 213) hx hb dX11_nets_296 (by decide) ?_
                      exact ih213 (k + 1)  (by omega)    ls (lv_sub hl [1, 2, 0] rfl) H locs hP hD hS
                  · refine lv_aload_n hx hb dX11_nets_229 rfl (lv_at hl 0 rfl) ?_
                    refine x_get (ref := "NoteHouseModel") F hP k8 rfl (fun _ h => List.mem_cons_of_mem _ (List.mem_append_right _ (h))) 54 (Nat.le_of_ble_eq_true rfl) (List.mem_cons_of_mem _ (List.mem_append_left _ (List.mem_of_getElem? (i := 1) rfl))) rfl rfl dX11_nets_230 ?_
                    refine lv_iload_n hx hb dX11_nets_233 rfl (lv_at hl 2 rfl) ?_
                    refine x_lald F hP k11 (vp_in_nI (n := k) (N := 12) (by omega) (by decide)) dX11_nets_234 ?_
                    rw [nI_clamp (n := k) (by omega), ho k (by omega)]
                    refine lv_lconst (v := 0) hx hb dX11_nets_235 (by decide) ?_
                    refine W.lcmp hx hb dX11_nets_236 ?_
                    rw [show lg_cmp 0 0 = 0 from by decide]
                    refine lv_if_le (tgt := 257) hx hb dX11_nets_237 (by decide) (fun c_28 => ?_) (fun c_28 => absurd (show (0 : Int32) ≤ (0 : Int32) by decide) c_28)
                    refine lv_aload_n hx hb dX11_nets_257 rfl (lv_at hl 0 rfl) ?_
                    refine x_get (ref := "NoteHouseModel") F hP k8 rfl (fun _ h => List.mem_cons_of_mem _ (List.mem_append_right _ (h))) 4 (Nat.le_of_ble_eq_true rfl) (List.mem_cons_of_mem _ (List.mem_append_left _ (List.mem_of_getElem? (i := 3) rfl))) rfl rfl dX11_nets_258 ?_
                    refine lv_iload_n hx hb dX11_nets_261 rfl (lv_at hl 2 rfl) ?_
                    refine x_iald F hP k9 (vp_in_nI (n := k) (N := 12) (by omega) (by decide)) dX11_nets_262 ?_
                    refine lv_iload_n hx hb dX11_nets_263 rfl (lv_at hl 1 rfl) ?_
                    refine lv_icmp_ne (tgt := 293) hx hb dX11_nets_264 (by decide) (fun c_29 => ?_) (fun c_29 => ?_)
                    · refine lv_iinc (v := nI (k + 1)) (lv' := [(3, .int (nI (k + 1))), (0, .ref y), (1, .int (nI i2))]) hx hb dX11_nets_293 hl (k := 2) rfl (nI_1 k) (by decide) rfl (fun ls hl => ?_)
                      refine lv_goto (tgt := 213) hx hb dX11_nets_296 (by decide) ?_
                      exact ih213 (k + 1)  (by omega)    ls (lv_sub hl [1, 2, 0] rfl) H locs hP hD hS
                    · refine lv_aload_n hx hb dX11_nets_267 rfl (lv_at hl 0 rfl) ?_
                      refine x_get (ref := "NoteHouseModel") F hP k8 rfl (fun _ h => List.mem_cons_of_mem _ (List.mem_append_right _ (h))) 54 (Nat.le_of_ble_eq_true rfl) (List.mem_cons_of_mem _ (List.mem_append_left _ (List.mem_of_getElem? (i := 1) rfl))) rfl rfl dX11_nets_268 ?_
                      refine lv_iload_n hx hb dX11_nets_271 rfl (lv_at hl 2 rfl) ?_
                      refine x_lald F hP k11 (vp_in_nI (n := k) (N := 12) (by omega) (by decide)) dX11_nets_272 ?_
                      rw [nI_clamp (n := k) (by omega), ho k (by omega)]
                      refine lv_lconst (v := 0) hx hb dX11_nets_273 (by decide) ?_
                      refine W.lcmp hx hb dX11_nets_274 ?_
                      rw [show lg_cmp 0 0 = 0 from by decide]
                      refine lv_if_ge (tgt := 293) hx hb dX11_nets_275 (by decide) (fun c_30 => ?_) (fun c_30 => absurd (show (0 : Int32) ≤ (0 : Int32) by decide) c_30)
                      refine lv_iinc (v := nI (k + 1)) (lv' := [(3, .int (nI (k + 1))), (0, .ref y), (1, .int (nI i2))]) hx hb dX11_nets_293 hl (k := 2) rfl (nI_1 k) (by decide) rfl (fun ls hl => ?_)
                      refine lv_goto (tgt := 213) hx hb dX11_nets_296 (by decide) ?_
                      exact ih213 (k + 1)  (by omega)    ls (lv_sub hl [1, 2, 0] rfl) H locs hP hD hS
              exact lp213 _ 0  (Nat.zero_add 12)    ls (lv_sub hl [2, 3, 0] rfl) H locs hP hD hS
            | succ N ih53 =>
              intro t hN53 ls hl H locs hP hD hS
              refine lv_iload hx hb dX11_nets_53 (lv_at hl 5 rfl) ?_
              refine lv_if_lt (tgt := 117) hx hb dX11_nets_55 (by decide) (fun c_31 => absurd c_31 (td_g hN53.1 hN53.2)) (fun c_31 => ?_)
              refine lv_aload_n hx hb dX11_nets_58 rfl (lv_at hl 0 rfl) ?_
              refine x_get (ref := "NoteHouseModel") F hP k8 rfl (fun _ h => List.mem_cons_of_mem _ (List.mem_append_right _ (h))) 4 (Nat.le_of_ble_eq_true rfl) (List.mem_cons_of_mem _ (List.mem_append_left _ (List.mem_of_getElem? (i := 3) rfl))) rfl rfl dX11_nets_59 ?_
              refine lv_iload hx hb dX11_nets_62 (lv_at hl 5 rfl) ?_
              refine x_iald F hP k9 (td_v hN53.1 hN53.2) dX11_nets_64 ?_
              refine lv_iload_n hx hb dX11_nets_65 rfl (lv_at hl 1 rfl) ?_
              refine lv_icmp_ne (tgt := 84) hx hb dX11_nets_66 (by decide) (fun c_32 => ?_) (fun c_32 => ?_)
              · refine lv_aload_n hx hb dX11_nets_84 rfl (lv_at hl 0 rfl) ?_
                refine x_get (ref := "NoteHouseModel") F hP k8 rfl (fun _ h => List.mem_cons_of_mem _ (List.mem_append_right _ (h))) 4 (Nat.le_of_ble_eq_true rfl) (List.mem_cons_of_mem _ (List.mem_append_left _ (List.mem_of_getElem? (i := 3) rfl))) rfl rfl dX11_nets_85 ?_
                refine lv_iload hx hb dX11_nets_88 (lv_at hl 5 rfl) ?_
                refine x_iald F hP k9 (td_v hN53.1 hN53.2) dX11_nets_90 ?_
                refine lv_iload_n hx hb dX11_nets_91 rfl (lv_at hl 1 rfl) ?_
                refine lv_icmp_ne (tgt := 111) hx hb dX11_nets_92 (by decide) (fun c_33 => ?_) (fun c_33 => ?_)
                · refine lv_iinc (v := t + (-1)) (lv' := [(5, .int (t + (-1))), (0, .ref y), (1, .int (nI i2)), (2, .int 1), (3, .int (-1)), (4, .int (-1))]) hx hb dX11_nets_111 hl (k := 5) rfl (rfl) (by decide) rfl (fun ls hl => ?_)
                  refine lv_goto (tgt := 53) hx hb dX11_nets_114 (by decide) ?_
                  exact ih53 (t + (-1))  (td_b hN53.1 hN53.2)    ls (lv_sub hl [1, 2, 3, 4, 5, 0] rfl) H locs hP hD hS
                · refine lv_aload_n hx hb dX11_nets_95 rfl (lv_at hl 0 rfl) ?_
                  refine x_get (ref := "NoteHouseModel") F hP k8 rfl (fun _ h => List.mem_cons_of_mem _ (List.mem_append_right _ (h))) 54 (Nat.le_of_ble_eq_true rfl) (List.mem_cons_of_mem _ (List.mem_append_left _ (List.mem_of_getElem? (i := 1) rfl))) rfl rfl dX11_nets_96 ?_
                  refine lv_iload hx hb dX11_nets_99 (lv_at hl 5 rfl) ?_
                  refine x_lald F hP k11 (td_v hN53.1 hN53.2) dX11_nets_101 ?_
                  rw [td_c hN53.1 hN53.2, ho N (by omega)]
                  refine lv_lconst (v := 0) hx hb dX11_nets_102 (by decide) ?_
                  refine W.lcmp hx hb dX11_nets_103 ?_
                  rw [show lg_cmp 0 0 = 0 from by decide]
                  refine lv_if_le (tgt := 111) hx hb dX11_nets_104 (by decide) (fun c_34 => ?_) (fun c_34 => absurd (show (0 : Int32) ≤ (0 : Int32) by decide) c_34)
                  refine lv_iinc (v := t + (-1)) (lv' := [(5, .int (t + (-1))), (0, .ref y), (1, .int (nI i2)), (2, .int 1), (3, .int (-1)), (4, .int (-1))]) hx hb dX11_nets_111 hl (k := 5) rfl (rfl) (by decide) rfl (fun ls hl => ?_)
                  refine lv_goto (tgt := 53) hx hb dX11_nets_114 (by decide) ?_
                  exact ih53 (t + (-1))  (td_b hN53.1 hN53.2)    ls (lv_sub hl [1, 2, 3, 4, 5, 0] rfl) H locs hP hD hS
              · refine lv_aload_n hx hb dX11_nets_69 rfl (lv_at hl 0 rfl) ?_
                refine x_get (ref := "NoteHouseModel") F hP k8 rfl (fun _ h => List.mem_cons_of_mem _ (List.mem_append_right _ (h))) 54 (Nat.le_of_ble_eq_true rfl) (List.mem_cons_of_mem _ (List.mem_append_left _ (List.mem_of_getElem? (i := 1) rfl))) rfl rfl dX11_nets_70 ?_
                refine lv_iload hx hb dX11_nets_73 (lv_at hl 5 rfl) ?_
                refine x_lald F hP k11 (td_v hN53.1 hN53.2) dX11_nets_75 ?_
                rw [td_c hN53.1 hN53.2, ho N (by omega)]
                refine lv_lconst (v := 0) hx hb dX11_nets_76 (by decide) ?_
                refine W.lcmp hx hb dX11_nets_77 ?_
                rw [show lg_cmp 0 0 = 0 from by decide]
                refine lv_if_ge (tgt := 84) hx hb dX11_nets_78 (by decide) (fun c_35 => ?_) (fun c_35 => absurd (show (0 : Int32) ≤ (0 : Int32) by decide) c_35)
                refine lv_aload_n hx hb dX11_nets_84 rfl (lv_at hl 0 rfl) ?_
                refine x_get (ref := "NoteHouseModel") F hP k8 rfl (fun _ h => List.mem_cons_of_mem _ (List.mem_append_right _ (h))) 4 (Nat.le_of_ble_eq_true rfl) (List.mem_cons_of_mem _ (List.mem_append_left _ (List.mem_of_getElem? (i := 3) rfl))) rfl rfl dX11_nets_85 ?_
                refine lv_iload hx hb dX11_nets_88 (lv_at hl 5 rfl) ?_
                refine x_iald F hP k9 (td_v hN53.1 hN53.2) dX11_nets_90 ?_
                refine lv_iload_n hx hb dX11_nets_91 rfl (lv_at hl 1 rfl) ?_
                refine lv_icmp_ne (tgt := 111) hx hb dX11_nets_92 (by decide) (fun c_36 => ?_) (fun c_36 => ?_)
                · refine lv_iinc (v := t + (-1)) (lv' := [(5, .int (t + (-1))), (0, .ref y), (1, .int (nI i2)), (2, .int 1), (3, .int (-1)), (4, .int (-1))]) hx hb dX11_nets_111 hl (k := 5) rfl (rfl) (by decide) rfl (fun ls hl => ?_)
                  refine lv_goto (tgt := 53) hx hb dX11_nets_114 (by decide) ?_
                  exact ih53 (t + (-1))  (td_b hN53.1 hN53.2)    ls (lv_sub hl [1, 2, 3, 4, 5, 0] rfl) H locs hP hD hS
                · refine lv_aload_n hx hb dX11_nets_95 rfl (lv_at hl 0 rfl) ?_
                  refine x_get (ref := "NoteHouseModel") F hP k8 rfl (fun _ h => List.mem_cons_of_mem _ (List.mem_append_right _ (h))) 54 (Nat.le_of_ble_eq_true rfl) (List.mem_cons_of_mem _ (List.mem_append_left _ (List.mem_of_getElem? (i := 1) rfl))) rfl rfl dX11_nets_96 ?_
                  refine lv_iload hx hb dX11_nets_99 (lv_at hl 5 rfl) ?_
                  refine x_lald F hP k11 (td_v hN53.1 hN53.2) dX11_nets_101 ?_
                  rw [td_c hN53.1 hN53.2, ho N (by omega)]
                  refine lv_lconst (v := 0) hx hb dX11_nets_102 (by decide) ?_
                  refine W.lcmp hx hb dX11_nets_103 ?_
                  rw [show lg_cmp 0 0 = 0 from by decide]
                  refine lv_if_le (tgt := 111) hx hb dX11_nets_104 (by decide) (fun c_37 => ?_) (fun c_37 => absurd (show (0 : Int32) ≤ (0 : Int32) by decide) c_37)
                  refine lv_iinc (v := t + (-1)) (lv' := [(5, .int (t + (-1))), (0, .ref y), (1, .int (nI i2)), (2, .int 1), (3, .int (-1)), (4, .int (-1))]) hx hb dX11_nets_111 hl (k := 5) rfl (rfl) (by decide) rfl (fun ls hl => ?_)
                  refine lv_goto (tgt := 53) hx hb dX11_nets_114 (by decide) ?_
                  exact ih53 (t + (-1))  (td_b hN53.1 hN53.2)    ls (lv_sub hl [1, 2, 3, 4, 5, 0] rfl) H locs hP hD hS
          exact lp53 12 11  ⟨rfl, Nat.le_refl 12⟩    ls (lv_sub hl [4, 5, 3, 2, 1, 0] rfl) H locs hP hD hS
      exact lp33 _ 0  (Nat.zero_add 4)    ls (lv_sub hl [1, 0] rfl) H locs hP hD hS
    | succ N ih7 =>
      intro i og w7 hN7 ho k8 k9 k10 k11 ls hl H locs hP hD hS
      refine lv_iload_n hx hb dX11_nets_7 rfl (lv_at hl 1 rfl) ?_
      refine lv_bipush (v := 12) hx hb dX11_nets_8 (by decide) ?_
      refine lv_icmp_ge (tgt := 31) hx hb dX11_nets_10 (by decide) (fun c_38 => absurd c_38 (nI_ge (a := i) (b := 12) (by omega) (by decide))) (fun c_38 => ?_)
      refine lv_aload_n hx hb dX11_nets_13 rfl (lv_at hl 0 rfl) ?_
      refine x_get (ref := "NoteHouseModel") F hP k8 rfl (fun _ h => List.mem_cons_of_mem _ (List.mem_append_right _ (h))) 54 (Nat.le_of_ble_eq_true rfl) (List.mem_cons_of_mem _ (List.mem_append_left _ (List.mem_of_getElem? (i := 1) rfl))) rfl rfl dX11_nets_14 ?_
      refine lv_iload_n hx hb dX11_nets_17 rfl (lv_at hl 1 rfl) ?_
      refine lv_aload_n hx hb dX11_nets_18 rfl (lv_at hl 0 rfl) ?_
      refine x_get (ref := "NoteHouseModel") F hP k8 rfl (fun _ h => List.mem_cons_of_mem _ (List.mem_append_right _ (h))) 53 (Nat.le_of_ble_eq_true rfl) (List.mem_cons_of_mem _ (List.mem_append_left _ (List.mem_of_getElem? (i := 2) rfl))) rfl rfl dX11_nets_19 ?_
      refine lv_iload_n hx hb dX11_nets_22 rfl (lv_at hl 1 rfl) ?_
      refine x_lald F hP k10 (vp_in_nI (n := i) (N := 12) (by omega) (by decide)) dX11_nets_23 ?_
      rw [nI_clamp (n := i) (by omega), hd i (by omega)]
      refine y_last F hP hD hS k11 (vp_in_nI (n := i) (N := 12) (by omega) (by decide)) dX11_nets_24 (fun w39 ew40 H locs hP hD hS => ?_)
      have k41 := wd_at.pt ew40 k8 (wd_nk k8 k11 rfl)
      have k42 := wd_at.pt ew40 k9 (wd_nk k9 k11 rfl)
      have k43 := wd_at.pt ew40 k10 n53x54
      have k44 : wd_at w39 m54 (.inl (cy 3, 12, .inr (.inl (vp_updL og (nI i).toNatClampNeg 0)))) := wd_at.ps ew40 k11
      refine lv_iinc (v := nI (i + 1)) (lv' := [(1, .int (nI (i + 1))), (0, .ref y)]) hx hb dX11_nets_25 hl (k := 1) rfl (nI_1 i) (by decide) rfl (fun ls hl => ?_)
      refine lv_goto (tgt := 7) hx hb dX11_nets_28 (by decide) ?_
      exact ih7 (i + 1) (vp_updL og (nI i).toNatClampNeg 0) w39 (by omega) (oz_s (i := i) (by omega) ho) k41 k42 k43 k44  ls (lv_sub hl [1, 0] rfl) H locs hP hD hS
  exact lp7 _ 0 oo w1 (Nat.zero_add 12) (fun j hj => absurd hj (Nat.not_lt_zero j)) k3 k4 k5 k6  ls (lv_sub hl [1, 0] rfl) H locs hP hD hS
set_option maxHeartbeats 4000000 in
set_option maxRecDepth 100000 in
theorem c_X11_settle (l : Launch) (D : va_G) (cy : Nat → ClassId) (w : Wd) (y m2 m3 m4 m5 m6 m8 m9 m10 m11 m12 m13 m14 m17 m18 m19 m20 m21 m22 m23 m24 m29 m30 m31 m32 m33 m34 m35 m36 m37 m39 m40 m41 m42 m43 m44 m45 m46 m47 m48 m49 m51 m52 m53 m54 m56 m57 m58 m59 : Nat) (f4 f51 : Nat → Int32) (fd oo : Nat → Int64) (k : Int32) (hy : wd_at w y (.inr (11, [.int 0, .int 0, .ref m2, .ref m3, .ref m4, .ref m5, .ref m6, .int 0, .ref m8, .ref m9, .ref m10, .ref m11, .ref m12, .ref m13, .ref m14, .int 0, .int 0, .ref m17, .ref m18, .ref m19, .ref m20, .ref m21, .ref m22, .ref m23, .ref m24, .int 0, .int 0, .int 0, .int 0, .ref m29, .ref m30, .ref m31, .ref m32, .ref m33, .ref m34, .ref m35, .ref m36, .ref m37, .int 0, .ref m39, .ref m40, .ref m41, .ref m42, .ref m43, .ref m44, .ref m45, .ref m46, .ref m47, .ref m48, .ref m49, .int 0, .ref m51, .ref m52, .ref m53, .ref m54, .int 0, .ref m56, .ref m57, .ref m58, .ref m59]))) (h4 : wd_at w m4 (.inl (cy 2, 12, .inl f4))) (h49 : wd_at w m49 (.inl (cy 2, 12, .inl (fun _ => 0)))) (h51 : wd_at w m51 (.inl (cy 2, 200, .inl f51))) (h53 : wd_at w m53 (.inl (cy 3, 12, .inr (.inl fd)))) (h54 : wd_at w m54 (.inl (cy 3, 12, .inr (.inl oo))))  (n53x54 : m53 ≠ m54) : Ct l D cy yX11_settle wsX11_settle ({ frames := 1, cells := 0, slots := 0, locals := 26 }) [.ref y, .int k] w (fun v w1 => v = some (.int (sp_settle k))) := by
  refine Ct.by (cc := cX11_settle) (maxL := 5) (ret := (some .int)) (by decide +kernel) rfl (Nat.le_of_ble_eq_true rfl) ?_
  intro p e s m args below meth c A Q F hnm K ls hl
  have F : wd_Fx p s m args meth c cX11_settle 5 wsX11_settle RX11 D cy A := F
  have hl : lv_has ls 5 [(0, .ref y), (1, .int k)] := hl
  have hx := F.1.1
  have hb := F.1.2.1
  have hown := F.1.2.2.2.1
  have hts := F.1.2.2.2.2
  intro H locs hP hD hS
  refine lv_iload_n hx hb dX11_settle_0 rfl (lv_at hl 1 rfl) ?_
  refine lv_iconst (v := 0) hx hb dX11_settle_1 (by decide) ?_
  refine lv_sipush (v := 3000) hx hb dX11_settle_2 (by decide) ?_
  refine x_callS (n := 3) (As := [.int k, .int 0, .int 3000]) (rest := []) F hP hD hS (c_X11_in l D cy w k 0 3000) gX11_settle_X11_in rfl (by decide +kernel) ⟨(Nat.le_of_ble_eq_true rfl), (Nat.le_of_ble_eq_true rfl)⟩ rfl hl.1 (Nat.le_of_ble_eq_true rfl) dX11_settle_5 rfl ⟨(Nat.le_of_ble_eq_true rfl), (Nat.le_of_ble_eq_true rfl)⟩ (fun v2 w3 hp1 H locs hP hD hS => ?_)
  obtain ⟨rfl, rfl⟩ := hp1
  refine W.eq (g2 := F0 m 8 ls [.int (wi k 0 3000)]) rfl (W.widen (k := 0) (n := 0) (Nat.le_of_ble_eq_true rfl) (Nat.le_of_ble_eq_true rfl) ?_)
  refine lv_if_ne (tgt := 13) hx hb dX11_settle_8 (by decide) (fun c_4 => ?_) (fun c_4 => ?_)
  · refine lv_aload_n hx hb dX11_settle_13 rfl (lv_at hl 0 rfl) ?_
    refine lv_iconst (v := 1) hx hb dX11_settle_14 (by decide) ?_
    refine y_put (ref := "NoteHouseModel") F hP hD hS hy rfl (fun _ h => List.mem_cons_of_mem _ (List.mem_append_right _ (h))) tyX11_ok nmX11 50 (Nat.le_of_ble_eq_true rfl) (List.mem_cons_of_mem _ (List.mem_append_left _ (List.mem_append_left _ (List.mem_of_getElem? (i := 0) rfl)))) rfl rfl rfl rfl (Nat.le_of_ble_eq_true rfl) dX11_settle_15 (fun w5 ew6 H locs hP hD hS => ?_)
    have k7 : wd_at w5 y (.inr (11, [.int 0, .int 0, .ref m2, .ref m3, .ref m4, .ref m5, .ref m6, .int 0, .ref m8, .ref m9, .ref m10, .ref m11, .ref m12, .ref m13, .ref m14, .int 0, .int 0, .ref m17, .ref m18, .ref m19, .ref m20, .ref m21, .ref m22, .ref m23, .ref m24, .int 0, .int 0, .int 0, .int 0, .ref m29, .ref m30, .ref m31, .ref m32, .ref m33, .ref m34, .ref m35, .ref m36, .ref m37, .int 0, .ref m39, .ref m40, .ref m41, .ref m42, .ref m43, .ref m44, .ref m45, .ref m46, .ref m47, .ref m48, .ref m49, .int 1, .ref m51, .ref m52, .ref m53, .ref m54, .int 0, .ref m56, .ref m57, .ref m58, .ref m59])) := wd_at.ps ew6 hy
    have k8 := wd_at.pt ew6 h4 (wd_nk h4 hy rfl)
    have k9 := wd_at.pt ew6 h49 (wd_nk h49 hy rfl)
    have k10 := wd_at.pt ew6 h51 (wd_nk h51 hy rfl)
    have k11 := wd_at.pt ew6 h53 (wd_nk h53 hy rfl)
    have k12 := wd_at.pt ew6 h54 (wd_nk h54 hy rfl)
    refine lv_iconst (v := 0) hx hb dX11_settle_18 (by decide) ?_
    refine lv_istore_n (lv' := [(2, .int 0), (0, .ref y), (1, .int k)]) hx hb dX11_settle_19 rfl hl (by decide) rfl (fun ls hl => ?_)
    refine lv_iconst (v := 0) hx hb dX11_settle_20 (by decide) ?_
    refine lv_istore_n (lv' := [(3, .int 0), (2, .int 0), (0, .ref y), (1, .int k)]) hx hb dX11_settle_21 rfl hl (by decide) rfl (fun ls hl => ?_)
    have lp22 : ∀ (N : Nat) (i : Nat) (dd : Nat → Int64) (w13 : Wd), (i + N = 12) → (∀ j, j < i → dd j = 0) → (wd_at w13 y (.inr (11, [.int 0, .int 0, .ref m2, .ref m3, .ref m4, .ref m5, .ref m6, .int 0, .ref m8, .ref m9, .ref m10, .ref m11, .ref m12, .ref m13, .ref m14, .int 0, .int 0, .ref m17, .ref m18, .ref m19, .ref m20, .ref m21, .ref m22, .ref m23, .ref m24, .int 0, .int 0, .int 0, .int 0, .ref m29, .ref m30, .ref m31, .ref m32, .ref m33, .ref m34, .ref m35, .ref m36, .ref m37, .int 0, .ref m39, .ref m40, .ref m41, .ref m42, .ref m43, .ref m44, .ref m45, .ref m46, .ref m47, .ref m48, .ref m49, .int 1, .ref m51, .ref m52, .ref m53, .ref m54, .int 0, .ref m56, .ref m57, .ref m58, .ref m59]))) → (wd_at w13 m4 (.inl (cy 2, 12, .inl f4))) → (wd_at w13 m49 (.inl (cy 2, 12, .inl (fun _ => 0)))) → (wd_at w13 m51 (.inl (cy 2, 200, .inl f51))) → (wd_at w13 m53 (.inl (cy 3, 12, .inr (.inl dd)))) → (wd_at w13 m54 (.inl (cy 3, 12, .inr (.inl oo)))) → ∀ (ls : Array Slot), lv_has ls 5 [(0, .ref y), (1, .int k), (2, .int 0), (3, .int (nI i))] → Wv p l e ({ frames := 1, cells := 0, slots := 0, locals := 26 }) s m args below meth c D A (0) (0) Q w13 (F0 m 22 ls []) := by
      intro N
      induction N with
      | zero =>
        intro i dd w13 hN22 hd k14 k15 k16 k17 k18 k19 ls hl H locs hP hD hS
        refine lv_iload_n hx hb dX11_settle_22 rfl (lv_at hl 3 rfl) ?_
        refine lv_bipush (v := 12) hx hb dX11_settle_23 (by decide) ?_
        refine lv_icmp_ge (tgt := 48) hx hb dX11_settle_25 (by decide) (fun c_20 => ?_) (fun c_20 => absurd (nI_le (a := 12) (b := i) (by omega) (by omega)) c_20)
        refine lv_iconst (v := 0) hx hb dX11_settle_48 (by decide) ?_
        refine lv_istore_n (lv' := [(3, .int 0), (0, .ref y), (1, .int k), (2, .int 0)]) hx hb dX11_settle_49 rfl hl (by decide) rfl (fun ls hl => ?_)
        have lp50 : ∀ (N : Nat) (k2 : Nat) (kf : Nat → Int32) (w21 : Wd), (k2 + N = 200) → (wd_at w21 y (.inr (11, [.int 0, .int 0, .ref m2, .ref m3, .ref m4, .ref m5, .ref m6, .int 0, .ref m8, .ref m9, .ref m10, .ref m11, .ref m12, .ref m13, .ref m14, .int 0, .int 0, .ref m17, .ref m18, .ref m19, .ref m20, .ref m21, .ref m22, .ref m23, .ref m24, .int 0, .int 0, .int 0, .int 0, .ref m29, .ref m30, .ref m31, .ref m32, .ref m33, .ref m34, .ref m35, .ref m36, .ref m37, .int 0, .ref m39, .ref m40, .ref m41, .ref m42, .ref m43, .ref m44, .ref m45, .ref m46, .ref m47, .ref m48, .ref m49, .int 1, .ref m51, .ref m52, .ref m53, .ref m54, .int 0, .ref m56, .ref m57, .ref m58, .ref m59]))) → (wd_at w21 m4 (.inl (cy 2, 12, .inl f4))) → (wd_at w21 m49 (.inl (cy 2, 12, .inl (fun _ => 0)))) → (wd_at w21 m51 (.inl (cy 2, 200, .inl kf))) → (wd_at w21 m53 (.inl (cy 3, 12, .inr (.inl dd)))) → (wd_at w21 m54 (.inl (cy 3, 12, .inr (.inl oo)))) → ∀ (ls : Array Slot), lv_has ls 5 [(0, .ref y), (1, .int k), (2, .int 0), (3, .int (nI k2))] → Wv p l e ({ frames := 1, cells := 0, slots := 0, locals := 26 }) s m args below meth c D A (0) (0) Q w21 (F0 m 50 ls []) := by
          intro N
          induction N with
          | zero =>
            intro k2 kf w21 hN50 k22 k23 k24 k25 k26 k27 ls hl H locs hP hD hS
            refine lv_iload_n hx hb dX11_settle_50 rfl (lv_at hl 3 rfl) ?_
            refine lv_sipush (v := 200) hx hb dX11_settle_51 (by decide) ?_
            refine lv_icmp_ge (tgt := 70) hx hb dX11_settle_54 (by decide) (fun c_28 => ?_) (fun c_28 => absurd (nI_le (a := 200) (b := k2) (by omega) (by omega)) c_28)
            refine lv_iconst (v := 0) hx hb dX11_settle_70 (by decide) ?_
            refine lv_istore_n (lv' := [(3, .int 0), (0, .ref y), (1, .int k), (2, .int 0)]) hx hb dX11_settle_71 rfl hl (by decide) rfl (fun ls hl => ?_)
            refine lv_iload_n hx hb dX11_settle_72 rfl (lv_at hl 0 rfl) ?_
            refine lv_aload_n hx hb dX11_settle_73 rfl (lv_at hl 1 rfl) ?_
            refine x_get (ref := "NoteHouseModel") F hP k22 rfl (fun _ h => List.mem_cons_of_mem _ (List.mem_append_right _ (h))) 38 (Nat.le_of_ble_eq_true rfl) (List.mem_cons_of_mem _ (List.mem_append_left _ (List.mem_append_left _ (List.mem_of_getElem? (i := 4) rfl)))) rfl rfl dX11_settle_74 ?_
            refine lv_icmp_ge (tgt := 202) hx hb dX11_settle_77 (by decide) (fun c_29 => ?_) (fun c_29 => absurd (show (0 : Int32) ≤ (0 : Int32) by decide) c_29)
            refine lv_aload_n hx hb dX11_settle_202 rfl (lv_at hl 1 rfl) ?_
            refine x_callV (n := 0) (As := []) (rest := []) F hP hD hS (c_X11_nets l D cy w21 y m2 m3 m4 m5 m6 m8 m9 m10 m11 m12 m13 m14 m17 m18 m19 m20 m21 m22 m23 m24 m29 m30 m31 m32 m33 m34 m35 m36 m37 m39 m40 m41 m42 m43 m44 m45 m46 m47 m48 m49 m51 m52 m53 m54 m56 m57 m58 m59 f4 dd oo k22 k23 k26 k27 n53x54 (fun j hj => hd j (by omega))) gX11_settle_X11_nets rfl rfl (by decide +kernel) ⟨(Nat.le_of_ble_eq_true rfl), (Nat.le_of_ble_eq_true rfl)⟩ rfl hl.1 (Nat.le_of_ble_eq_true rfl) k22 rfl dX11_settle_203 rfl ⟨(Nat.le_of_ble_eq_true rfl), (Nat.le_of_ble_eq_true rfl)⟩ (fun v31 w32 hp30 H locs hP hD hS => ?_)
            subst hp30
            refine W.eq (g2 := F0 m 206 ls []) rfl (W.widen (k := 0) (n := 0) (Nat.le_of_ble_eq_true rfl) (Nat.le_of_ble_eq_true rfl) ?_)
            refine lv_iload_n hx hb dX11_settle_206 rfl (lv_at hl 3 rfl) ?_
            exact y_ir K hP hD hS (Nat.le_of_ble_eq_true rfl) (Nat.le_of_ble_eq_true rfl) (ty := .int) rfl rfl dX11_settle_207 (by simp [sp_settle, c_4])
          | succ N ih50 =>
            intro k2 kf w21 hN50 k22 k23 k24 k25 k26 k27 ls hl H locs hP hD hS
            refine lv_iload_n hx hb dX11_settle_50 rfl (lv_at hl 3 rfl) ?_
            refine lv_sipush (v := 200) hx hb dX11_settle_51 (by decide) ?_
            refine lv_icmp_ge (tgt := 70) hx hb dX11_settle_54 (by decide) (fun c_33 => absurd c_33 (nI_ge (a := k2) (b := 200) (by omega) (by decide))) (fun c_33 => ?_)
            refine lv_aload_n hx hb dX11_settle_57 rfl (lv_at hl 0 rfl) ?_
            refine x_get (ref := "NoteHouseModel") F hP k22 rfl (fun _ h => List.mem_cons_of_mem _ (List.mem_append_right _ (h))) 51 (Nat.le_of_ble_eq_true rfl) (List.mem_cons_of_mem _ (List.mem_append_left _ (List.mem_append_left _ (List.mem_of_getElem? (i := 3) rfl)))) rfl rfl dX11_settle_58 ?_
            refine lv_iload_n hx hb dX11_settle_61 rfl (lv_at hl 3 rfl) ?_
            refine lv_iconst (v := (-1)) hx hb dX11_settle_62 (by decide) ?_
            refine y_iast F hP hD hS k25 (vp_in_nI (n := k2) (N := 200) (by omega) (by decide)) dX11_settle_63 (fun w34 ew35 H locs hP hD hS => ?_)
            have k36 := wd_at.pt ew35 k22 (wd_nk k22 k25 rfl)
            have k37 := wd_at.pt ew35 k23 (wd_nk k23 k25 rfl)
            have k38 := wd_at.pt ew35 k24 (wd_nk k24 k25 rfl)
            have k39 : wd_at w34 m51 (.inl (cy 2, 200, .inl (upd kf (nI k2).toNatClampNeg (-1)))) := wd_at.ps ew35 k25
            have k40 := wd_at.pt ew35 k26 (wd_nk k26 k25 rfl)
            have k41 := wd_at.pt ew35 k27 (wd_nk k27 k25 rfl)
            refine lv_iinc (v := nI (k2 + 1)) (lv' := [(3, .int (nI (k2 + 1))), (0, .ref y), (1, .int k), (2, .int 0)]) hx hb dX11_settle_64 hl (k := 3) rfl (nI_1 k2) (by decide) rfl (fun ls hl => ?_)
            refine lv_goto (tgt := 50) hx hb dX11_settle_67 (by decide) ?_
            exact ih50 (k2 + 1) (upd kf (nI k2).toNatClampNeg (-1)) w34 (by omega)  k36 k37 k38 k39 k40 k41  ls (lv_sub hl [1, 2, 3, 0] rfl) H locs hP hD hS
        exact lp50 _ 0 f51 w13 (Nat.zero_add 200)  k14 k15 k16 k17 k18 k19  ls (lv_sub hl [1, 2, 3, 0] rfl) H locs hP hD hS
      | succ N ih22 =>
        intro i dd w13 hN22 hd k14 k15 k16 k17 k18 k19 ls hl H locs hP hD hS
        refine lv_iload_n hx hb dX11_settle_22 rfl (lv_at hl 3 rfl) ?_
        refine lv_bipush (v := 12) hx hb dX11_settle_23 (by decide) ?_
        refine lv_icmp_ge (tgt := 48) hx hb dX11_settle_25 (by decide) (fun c_42 => absurd c_42 (nI_ge (a := i) (b := 12) (by omega) (by decide))) (fun c_42 => ?_)
        refine lv_aload_n hx hb dX11_settle_28 rfl (lv_at hl 0 rfl) ?_
        refine x_get (ref := "NoteHouseModel") F hP k14 rfl (fun _ h => List.mem_cons_of_mem _ (List.mem_append_right _ (h))) 53 (Nat.le_of_ble_eq_true rfl) (List.mem_cons_of_mem _ (List.mem_append_left _ (List.mem_append_left _ (List.mem_of_getElem? (i := 1) rfl)))) rfl rfl dX11_settle_29 ?_
        refine lv_iload_n hx hb dX11_settle_32 rfl (lv_at hl 3 rfl) ?_
        refine lv_aload_n hx hb dX11_settle_33 rfl (lv_at hl 0 rfl) ?_
        refine x_get (ref := "NoteHouseModel") F hP k14 rfl (fun _ h => List.mem_cons_of_mem _ (List.mem_append_right _ (h))) 49 (Nat.le_of_ble_eq_true rfl) (List.mem_cons_of_mem _ (List.mem_append_left _ (List.mem_append_left _ (List.mem_of_getElem? (i := 2) rfl)))) rfl rfl dX11_settle_34 ?_
        refine lv_iload_n hx hb dX11_settle_37 rfl (lv_at hl 3 rfl) ?_
        refine x_iald F hP k16 (vp_in_nI (n := i) (N := 12) (by omega) (by decide)) dX11_settle_38 ?_
        refine lv_ineg hx hb dX11_settle_39 ?_
        rw [show (-0 : Int32) = 0 from by decide]
        refine lv_i2l (v := 0) hx hb dX11_settle_40 (by decide) ?_
        refine y_last F hP hD hS k18 (vp_in_nI (n := i) (N := 12) (by omega) (by decide)) dX11_settle_41 (fun w43 ew44 H locs hP hD hS => ?_)
        have k45 := wd_at.pt ew44 k14 (wd_nk k14 k18 rfl)
        have k46 := wd_at.pt ew44 k15 (wd_nk k15 k18 rfl)
        have k47 := wd_at.pt ew44 k16 (wd_nk k16 k18 rfl)
        have k48 := wd_at.pt ew44 k17 (wd_nk k17 k18 rfl)
        have k49 : wd_at w43 m53 (.inl (cy 3, 12, .inr (.inl (vp_updL dd (nI i).toNatClampNeg 0)))) := wd_at.ps ew44 k18
        have k50 := wd_at.pt ew44 k19 (Ne.symm n53x54)
        refine lv_iinc (v := nI (i + 1)) (lv' := [(3, .int (nI (i + 1))), (0, .ref y), (1, .int k), (2, .int 0)]) hx hb dX11_settle_42 hl (k := 3) rfl (nI_1 i) (by decide) rfl (fun ls hl => ?_)
        refine lv_goto (tgt := 22) hx hb dX11_settle_45 (by decide) ?_
        exact ih22 (i + 1) (vp_updL dd (nI i).toNatClampNeg 0) w43 (by omega) (oz_s (i := i) (by omega) hd) k45 k46 k47 k48 k49 k50  ls (lv_sub hl [1, 2, 3, 0] rfl) H locs hP hD hS
    exact lp22 _ 0 fd w5 (Nat.zero_add 12) (fun j hj => absurd hj (Nat.not_lt_zero j)) k7 k8 k9 k10 k11 k12  ls (lv_sub hl [2, 3, 1, 0] rfl) H locs hP hD hS
  · refine lv_iconst (v := (-1)) hx hb dX11_settle_11 (by decide) ?_
    exact y_ir K hP hD hS (Nat.le_of_ble_eq_true rfl) (Nat.le_of_ble_eq_true rfl) (ty := .int) rfl rfl dX11_settle_12 (by simp [sp_settle, c_4])
