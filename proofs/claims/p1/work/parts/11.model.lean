def wt (k : Int32) : Int32 := if 2 ≤ k then (if k = 2 then 0 else if k = 3 then 2 else 10) else 1
theorem be_s {i n : Nat} {g : Nat → Int32} (hi : i < n) (hn : n < 2 ^ 31) (hg : ∀ j, j < i → g j = wt (nI j)) : ∀ j, j < i + 1 → upd g (nI i).toNatClampNeg (wt (nI i)) j = wt (nI j) := by
  intro j hj
  rw [nI_clamp (by omega)]
  by_cases h : j = i
  · rw [h, pk_us]
  · rw [pk_un h]; exact hg j (by omega)
set_option maxHeartbeats 4000000 in
set_option maxRecDepth 100000 in
theorem c_X11_without (l : Launch) (D : va_G) (cy : Nat → ClassId) (w : Wd) (k : Int32)    : Ct l D cy yX11_without wsX11_without ({ frames := 0, cells := 0, slots := 0, locals := 0 }) [.int k] w (fun v w1 => v = some (.int (wt k)) ∧ w = w1) := by
  refine Ct.by (cc := cX11_without) (maxL := 1) (ret := (some .int)) (by decide +kernel) rfl (Nat.le_of_ble_eq_true rfl) ?_
  intro p e s m args below meth c A Q F hnm K ls hl
  have F : wd_Fx p s m args meth c cX11_without 1 wsX11_without RX11 D cy A := F
  have hl : lv_has ls 1 [(0, .int k)] := hl
  have hx := F.1.1
  have hb := F.1.2.1
  have hown := F.1.2.2.2.1
  have hts := F.1.2.2.2.2
  intro H locs hP hD hS
  refine lv_iload_n hx hb dX11_without_0 rfl (lv_at hl 0 rfl) ?_
  refine lv_iconst (v := 2) hx hb dX11_without_1 (by decide) ?_
  refine lv_icmp_ge (tgt := 9) hx hb dX11_without_2 (by decide) (fun c_1 => ?_) (fun c_1 => ?_)
  · refine lv_iload_n hx hb dX11_without_9 rfl (lv_at hl 0 rfl) ?_
    refine lv_iconst (v := 2) hx hb dX11_without_10 (by decide) ?_
    refine lv_icmp_ne (tgt := 18) hx hb dX11_without_11 (by decide) (fun c_2 => ?_) (fun c_2 => ?_)
    · refine lv_iload_n hx hb dX11_without_18 rfl (lv_at hl 0 rfl) ?_
      refine lv_iconst (v := 3) hx hb dX11_without_19 (by decide) ?_
      refine lv_icmp_ne (tgt := 27) hx hb dX11_without_20 (by decide) (fun c_3 => ?_) (fun c_3 => ?_)
      · refine lv_bipush (v := 10) hx hb dX11_without_27 (by decide) ?_
        exact y_ir K hP hD hS (Nat.le_of_ble_eq_true rfl) (Nat.le_of_ble_eq_true rfl) (ty := .int) rfl rfl dX11_without_29 (⟨by simp [wt, c_1, c_2, c_3], rfl⟩)
      · refine lv_iconst (v := 2) hx hb dX11_without_23 (by decide) ?_
        refine lv_goto (tgt := 29) hx hb dX11_without_24 (by decide) ?_
        exact y_ir K hP hD hS (Nat.le_of_ble_eq_true rfl) (Nat.le_of_ble_eq_true rfl) (ty := .int) rfl rfl dX11_without_29 (⟨by simp [wt, c_1, c_2, c_3], rfl⟩)
    · refine lv_iconst (v := 0) hx hb dX11_without_14 (by decide) ?_
      refine lv_goto (tgt := 29) hx hb dX11_without_15 (by decide) ?_
      exact y_ir K hP hD hS (Nat.le_of_ble_eq_true rfl) (Nat.le_of_ble_eq_true rfl) (ty := .int) rfl rfl dX11_without_29 (⟨by simp [wt, c_1, c_2], rfl⟩)
  · refine lv_iconst (v := 1) hx hb dX11_without_5 (by decide) ?_
    refine lv_goto (tgt := 29) hx hb dX11_without_6 (by decide) ?_
    exact y_ir K hP hD hS (Nat.le_of_ble_eq_true rfl) (Nat.le_of_ble_eq_true rfl) (ty := .int) rfl rfl dX11_without_29 (⟨by simp [wt, c_1], rfl⟩)
set_option maxHeartbeats 4000000 in
set_option maxRecDepth 100000 in
theorem c_X11_begins (l : Launch) (D : va_G) (cy : Nat → ClassId) (w : Wd) (y m2 m3 m4 m5 m6 m8 m9 m10 m11 m12 m13 m14 m17 m18 m19 m20 m21 m22 m23 m24 m29 m30 m31 m32 m33 m34 m35 m36 m37 m39 m40 m41 m42 m43 m44 m45 m46 m47 m48 m49 m51 m52 m53 m54 m56 m57 m58 m59 : Nat) (f : Nat → Int32) (hy : wd_at w y (.inr (11, [.int 0, .int 0, .ref m2, .ref m3, .ref m4, .ref m5, .ref m6, .int 0, .ref m8, .ref m9, .ref m10, .ref m11, .ref m12, .ref m13, .ref m14, .int 0, .int 0, .ref m17, .ref m18, .ref m19, .ref m20, .ref m21, .ref m22, .ref m23, .ref m24, .int 0, .int 0, .int 0, .int 0, .ref m29, .ref m30, .ref m31, .ref m32, .ref m33, .ref m34, .ref m35, .ref m36, .ref m37, .int 0, .ref m39, .ref m40, .ref m41, .ref m42, .ref m43, .ref m44, .ref m45, .ref m46, .ref m47, .ref m48, .ref m49, .int 0, .ref m51, .ref m52, .ref m53, .ref m54, .int 0, .ref m56, .ref m57, .ref m58, .ref m59]))) (h35 : wd_at w m35 (.inl (cy 2, 5, .inl f)))  (S : Nat → Prop) (s35 : S m35)  : Ct l D cy yX11_begins wsX11_begins ({ frames := 1, cells := 0, slots := 0, locals := 20 }) [.ref y] w (fun v w1 => v = none ∧ wd_kp S w w1 ∧ ∃ g : Nat → Int32, (∀ j, j < 5 → g j = wt (nI j)) ∧ wd_at w1 m35 (.inl (cy 2, 5, .inl g))) := by
  refine Ct.by (cc := cX11_begins) (maxL := 2) (ret := none) (by decide +kernel) rfl (Nat.le_of_ble_eq_true rfl) ?_
  intro p e s m args below meth c A Q F hnm K ls hl
  have F : wd_Fx p s m args meth c cX11_begins 2 wsX11_begins RX11 D cy A := F
  have hl : lv_has ls 2 [(0, .ref y)] := hl
  have hx := F.1.1
  have hb := F.1.2.1
  have hown := F.1.2.2.2.1
  have hts := F.1.2.2.2.2
  intro H locs hP hD hS
  have kp0 : wd_kp S w w := wd_kp.rf
  refine lv_iconst (v := 0) hx hb dX11_begins_0 (by decide) ?_
  refine lv_istore_n (lv' := [(1, .int 0), (0, .ref y)]) hx hb dX11_begins_1 rfl hl (by decide) rfl (fun ls hl => ?_)
  have lp2 : ∀ (N : Nat) (i : Nat) (g : Nat → Int32) (w1 : Wd), (i + N = 5) → (∀ j, j < i → g j = wt (nI j)) → (wd_at w1 y (.inr (11, [.int 0, .int 0, .ref m2, .ref m3, .ref m4, .ref m5, .ref m6, .int 0, .ref m8, .ref m9, .ref m10, .ref m11, .ref m12, .ref m13, .ref m14, .int 0, .int 0, .ref m17, .ref m18, .ref m19, .ref m20, .ref m21, .ref m22, .ref m23, .ref m24, .int 0, .int 0, .int 0, .int 0, .ref m29, .ref m30, .ref m31, .ref m32, .ref m33, .ref m34, .ref m35, .ref m36, .ref m37, .int 0, .ref m39, .ref m40, .ref m41, .ref m42, .ref m43, .ref m44, .ref m45, .ref m46, .ref m47, .ref m48, .ref m49, .int 0, .ref m51, .ref m52, .ref m53, .ref m54, .int 0, .ref m56, .ref m57, .ref m58, .ref m59]))) → (wd_at w1 m35 (.inl (cy 2, 5, .inl g))) → (wd_kp S w w1) → ∀ (ls : Array Slot), lv_has ls 2 [(0, .ref y), (1, .int (nI i))] → Wv p l e ({ frames := 1, cells := 0, slots := 0, locals := 20 }) s m args below meth c D A (0) (0) Q w1 (F0 m 2 ls []) := by
    intro N
    induction N with
    | zero =>
      intro i g w1 hN2 hg k2 k3 kp4 ls hl H locs hP hD hS
      refine lv_iload_n hx hb dX11_begins_2 rfl (lv_at hl 1 rfl) ?_
      refine lv_iconst (v := 5) hx hb dX11_begins_3 (by decide) ?_
      refine lv_icmp_ge (tgt := 23) hx hb dX11_begins_4 (by decide) (fun c_5 => ?_) (fun c_5 => absurd (nI_le (a := 5) (b := i) (by omega) (by omega)) c_5)
      exact y_vr K hP hD hS (Nat.le_of_ble_eq_true rfl) (Nat.le_of_ble_eq_true rfl) rfl dX11_begins_23 (⟨rfl, kp4, g, fun j hj => hg j (by omega), k3⟩)
    | succ N ih2 =>
      intro i g w1 hN2 hg k2 k3 kp4 ls hl H locs hP hD hS
      refine lv_iload_n hx hb dX11_begins_2 rfl (lv_at hl 1 rfl) ?_
      refine lv_iconst (v := 5) hx hb dX11_begins_3 (by decide) ?_
      refine lv_icmp_ge (tgt := 23) hx hb dX11_begins_4 (by decide) (fun c_6 => absurd c_6 (nI_ge (a := i) (b := 5) (by omega) (by decide))) (fun c_6 => ?_)
      refine lv_aload_n hx hb dX11_begins_7 rfl (lv_at hl 0 rfl) ?_
      refine x_get (ref := "NoteHouseModel") F hP k2 rfl (fun _ h => List.mem_cons_of_mem _ (List.mem_append_right _ (h))) 35 (Nat.le_of_ble_eq_true rfl) (List.mem_cons_of_mem _ (List.mem_append_left _ (List.mem_of_getElem? (i := 0) rfl))) rfl rfl dX11_begins_8 ?_
      refine lv_iload_n hx hb dX11_begins_11 rfl (lv_at hl 1 rfl) ?_
      refine lv_iload_n hx hb dX11_begins_12 rfl (lv_at hl 1 rfl) ?_
      refine x_callS (n := 1) (As := [.int (nI i)]) (rest := [.int (nI i), .ref m35]) F hP hD hS (c_X11_without l D cy w1 (nI i)) gX11_begins_X11_without rfl (by decide +kernel) ⟨(Nat.le_of_ble_eq_true rfl), (Nat.le_of_ble_eq_true rfl)⟩ rfl hl.1 (Nat.le_of_ble_eq_true rfl) dX11_begins_13 rfl ⟨(Nat.le_of_ble_eq_true rfl), (Nat.le_of_ble_eq_true rfl)⟩ (fun v8 w9 hp7 H locs hP hD hS => ?_)
      obtain ⟨rfl, rfl⟩ := hp7
      refine W.eq (g2 := F0 m 16 ls [.int (wt (nI i)), .int (nI i), .ref m35]) rfl (W.widen (k := 0) (n := 0) (Nat.le_of_ble_eq_true rfl) (Nat.le_of_ble_eq_true rfl) ?_)
      refine y_iast F hP hD hS k3 (vp_in_nI (n := i) (N := 5) (by omega) (by decide)) dX11_begins_16 (fun w10 ew11 H locs hP hD hS => ?_)
      have k12 := wd_at.pt ew11 k2 (wd_nk k2 k3 rfl)
      have k13 : wd_at w10 m35 (.inl (cy 2, 5, .inl (upd g (nI i).toNatClampNeg (wt (nI i))))) := wd_at.ps ew11 k3
      have kp14 := kp4.put ew11 s35
      refine lv_iinc (v := nI (i + 1)) (lv' := [(1, .int (nI (i + 1))), (0, .ref y)]) hx hb dX11_begins_17 hl (k := 1) rfl (nI_1 i) (by decide) rfl (fun ls hl => ?_)
      refine lv_goto (tgt := 2) hx hb dX11_begins_20 (by decide) ?_
      exact ih2 (i + 1) (upd g (nI i).toNatClampNeg (wt (nI i))) w10 (by omega) (be_s (i := i) (n := 5) (by omega) (by decide) hg) k12 k13 kp14 ls (lv_sub hl [1, 0] rfl) H locs hP hD hS
  exact lp2 _ 0 f w (Nat.zero_add 5) (fun j hj => absurd hj (Nat.not_lt_zero j)) hy h35 kp0 ls (lv_sub hl [1, 0] rfl) H locs hP hD hS
/-- a fresh reference at y, made since w0: what its cells hold -/
def fr_M (cy : Nat → ClassId) (w0 w : Wd) (y : Nat) : Prop := ∃ (m2 m3 m4 m5 m6 m8 m9 m10 m11 m12 m13 m14 m17 m18 m19 m20 m21 m22 m23 m24 m29 m30 m31 m32 m33 m34 m35 m36 m37 m39 m40 m41 m42 m43 m44 m45 m46 m47 m48 m49 m51 m52 m53 m54 m56 m57 m58 m59 : Nat) (pr wr : Nat → Nat) (fp fw : Nat → Nat → Int32) (rc be : Nat → Int32),
  wd_at w y (.inr (11, [.int 0, .int 0, .ref m2, .ref m3, .ref m4, .ref m5, .ref m6, .int 0, .ref m8, .ref m9, .ref m10, .ref m11, .ref m12, .ref m13, .ref m14, .int 0, .int 0, .ref m17, .ref m18, .ref m19, .ref m20, .ref m21, .ref m22, .ref m23, .ref m24, .int 0, .int 0, .int 0, .int 0, .ref m29, .ref m30, .ref m31, .ref m32, .ref m33, .ref m34, .ref m35, .ref m36, .ref m37, .int 0, .ref m39, .ref m40, .ref m41, .ref m42, .ref m43, .ref m44, .ref m45, .ref m46, .ref m47, .ref m48, .ref m49, .int 0, .ref m51, .ref m52, .ref m53, .ref m54, .int 0, .ref m56, .ref m57, .ref m58, .ref m59])) ∧
  wd_at w m2 (.inl (cy 10, 12, .inr (.inr (.inr (.inr (fun i => if i < 12 then some (pr i) else none)))))) ∧
  wd_at w m3 (.inl (cy 10, 12, .inr (.inr (.inr (.inr (fun i => if i < 12 then some (wr i) else none)))))) ∧
  (∀ i, i < 12 → wd_at w (pr i) (.inl (cy 2, 12, .inl (fp i)))) ∧
  (∀ i, i < 12 → wd_at w (wr i) (.inl (cy 2, 12, .inl (fw i)))) ∧
  wd_at w m4 (.inl (cy 2, 12, .inl (fun _ => 0))) ∧
  wd_at w m5 (.inl (cy 2, 12, .inl rc)) ∧
  wd_at w m8 (.inl (cy 2, 30, .inl (fun _ => 0))) ∧
  wd_at w m9 (.inl (cy 2, 30, .inl (fun _ => 0))) ∧
  wd_at w m10 (.inl (cy 2, 30, .inl (fun _ => 0))) ∧
  wd_at w m11 (.inl (cy 2, 30, .inl (fun _ => 0))) ∧
  wd_at w m12 (.inl (cy 2, 30, .inl (fun _ => 0))) ∧
  wd_at w m24 (.inl (cy 0, 300, .inl (fun _ => 0))) ∧
  wd_at w m29 (.inl (cy 2, 12, .inl (fun _ => 0))) ∧
  wd_at w m35 (.inl (cy 2, 5, .inl be)) ∧
  wd_at w m36 (.inl (cy 4, 5, .inl (fun _ => 0))) ∧
  wd_at w m37 (.inl (cy 2, 5, .inl (fun _ => 0))) ∧
  wd_at w m49 (.inl (cy 2, 12, .inl (fun _ => 0))) ∧
  wd_at w m51 (.inl (cy 2, 200, .inl (fun _ => 0))) ∧
  wd_at w m53 (.inl (cy 3, 12, .inr (.inl (fun _ => 0)))) ∧
  wd_at w m54 (.inl (cy 3, 12, .inr (.inl (fun _ => 0)))) ∧
  (∀ j, j < 5 → be j = wt (nI j)) ∧
  m4 ≠ m5 ∧
  m8 ≠ m9 ∧
  m8 ≠ m10 ∧
  m8 ≠ m11 ∧
  m8 ≠ m12 ∧
  m9 ≠ m10 ∧
  m9 ≠ m11 ∧
  m9 ≠ m12 ∧
  m10 ≠ m11 ∧
  m10 ≠ m12 ∧
  m11 ≠ m12 ∧
  m35 ≠ m36 ∧
  m35 ≠ m37 ∧
  m36 ≠ m37 ∧
  m53 ≠ m54 ∧
  (∀ a b, a < 12 → b < 12 → pr a = pr b → a = b) ∧
  (∀ a b, a < 12 → b < 12 → wr a = wr b → a = b) ∧
  m2 ∉ w0.1 ∧
  m3 ∉ w0.1 ∧
  m4 ∉ w0.1 ∧
  m5 ∉ w0.1 ∧
  m8 ∉ w0.1 ∧
  m9 ∉ w0.1 ∧
  m10 ∉ w0.1 ∧
  m11 ∉ w0.1 ∧
  m12 ∉ w0.1 ∧
  m24 ∉ w0.1 ∧
  m29 ∉ w0.1 ∧
  m35 ∉ w0.1 ∧
  m36 ∉ w0.1 ∧
  m37 ∉ w0.1 ∧
  m49 ∉ w0.1 ∧
  m51 ∉ w0.1 ∧
  m53 ∉ w0.1 ∧
  m54 ∉ w0.1 ∧
  (∀ i, i < 12 → pr i ∉ w0.1) ∧
  (∀ i, i < 12 → wr i ∉ w0.1)
set_option maxHeartbeats 4000000 in
set_option maxRecDepth 100000 in
theorem c_X11_init (l : Launch) (D : va_G) (cy : Nat → ClassId) (w : Wd) (y : Nat) (hy : wd_at w y (.inr (11, [.int 0, .int 0, .null, .null, .null, .null, .null, .int 0, .null, .null, .null, .null, .null, .null, .null, .int 0, .int 0, .null, .null, .null, .null, .null, .null, .null, .null, .int 0, .int 0, .int 0, .int 0, .null, .null, .null, .null, .null, .null, .null, .null, .null, .int 0, .null, .null, .null, .null, .null, .null, .null, .null, .null, .null, .null, .int 0, .null, .null, .null, .null, .int 0, .null, .null, .null, .null])))  (S : Nat → Prop) (sy : S y)  : Ct2 l D cy yX11_init wsX11_init ({ frames := 2, cells := 132, slots := 7821, locals := 41 }) [.ref y] w (fun v w1 => v = none ∧ wd_kp S w w1 ∧ fr_M cy w w1 y) := by
  refine Ct2.by (cc := cX11_init) (maxL := 3) (ret := none) (by decide +kernel) rfl (Nat.le_of_ble_eq_true rfl) ?_
  intro p e s m args below meth c A Q F hnm K hAO ls hl
  have F : wd_Fx p s m args meth c cX11_init 3 wsX11_init RX11 D cy A := F
  have hl : lv_has ls 3 [(0, .ref y)] := hl
  have hx := F.1.1
  have hb := F.1.2.1
  have hown := F.1.2.2.2.1
  have hts := F.1.2.2.2.2
  intro H locs hP hD hS
  have kp0 : wd_kp S w w := wd_kp.rf
  refine lv_aload_n hx hb dX11_init_0 rfl (lv_at hl 0 rfl) ?_
  refine x_objInit F (List.mem_cons_of_mem _ (List.mem_append_left _ (List.mem_append_left _ (List.mem_of_getElem? (i := 0) rfl)))) (List.mem_cons_of_mem _ (List.mem_append_left _ (List.mem_append_left _ (List.mem_of_getElem? (i := 1) rfl)))) (List.mem_cons_of_mem _ (List.mem_append_left _ (List.mem_append_left _ (List.mem_of_getElem? (i := 2) rfl)))) hl.1 dX11_init_1 (Nat.le_of_ble_eq_true rfl) (Nat.le_of_ble_eq_true rfl) ?_
  refine lv_aload_n hx hb dX11_init_4 rfl (lv_at hl 0 rfl) ?_
  refine lv_bipush (v := 12) hx hb dX11_init_5 (by decide) ?_
  refine lv_bipush (v := 12) hx hb dX11_init_7 (by decide) ?_
  refine y_mna (N := 12) (M := 12) F hAO hP hD hS (List.mem_cons_of_mem _ (List.mem_append_left _ (List.mem_append_left _ (List.mem_of_getElem? (i := 3) rfl)))) (List.mem_cons_of_mem _ (List.mem_append_left _ (List.mem_append_left _ (List.mem_of_getElem? (i := 4) rfl)))) (by decide) (by decide) (by decide) (by decide) (by decide) (by decide) (Nat.le_of_ble_eq_true rfl) (Nat.le_of_ble_eq_true rfl) dX11_init_9 (fun q1 r2 w3 ew4 hq5 hr6 hj7 hz8 H hP hD hS => ?_)
  refine W.widen (k := 13) (n := 156) (Nat.le_of_ble_eq_true rfl) (Nat.le_of_ble_eq_true rfl) ?_
  have k9 := wd_at.mo ew4 hq5 hr6 hy
  have fn10 : ∀ i, i < 12 → r2 i ≠ y := fun i hi9 e9 => hr6 i hi9 (e9 ▸ hy.1)
  have k11 : wd_at w3 q1 (.inl (cy 10, 12, .inr (.inr (.inr (.inr (fun i => if i < 12 then some (r2 i) else none)))))) := wd_at.mq ew4
  have fm12 : ∀ z9, z9 < 12 → wd_at w3 (r2 z9) (.inl (cy 2, 12, .inl ((fun _ _ => 0) z9))) := fun z9 hi9 => wd_at.mr ew4 hz8 z9 hi9
  have fn13 : ∀ i, i < 12 → r2 i ≠ q1 := hz8
  have kp14 := kp0.mna ew4 hq5 hr6
  have no15 : ∀ i, i < 12 → r2 i ∉ w.1 := fun i hi9 => kp0.out (hr6 i hi9)
  refine y_putF (ref := "NoteHouseModel") F hP hD hS k9 rfl (fun _ h => List.mem_cons_of_mem _ (List.mem_append_right _ (h))) tyX11_ok nmX11 hnm 2 (Nat.le_of_ble_eq_true rfl) (List.mem_cons_of_mem _ (List.mem_append_left _ (List.mem_append_left _ (List.mem_of_getElem? (i := 5) rfl)))) rfl rfl rfl rfl rfl (Nat.le_of_ble_eq_true rfl) dX11_init_13 (fun w16 ew17 H locs hP hD hS => ?_)
  have k18 : wd_at w16 y (.inr (11, [.int 0, .int 0, .ref q1, .null, .null, .null, .null, .int 0, .null, .null, .null, .null, .null, .null, .null, .int 0, .int 0, .null, .null, .null, .null, .null, .null, .null, .null, .int 0, .int 0, .int 0, .int 0, .null, .null, .null, .null, .null, .null, .null, .null, .null, .int 0, .null, .null, .null, .null, .null, .null, .null, .null, .null, .null, .null, .int 0, .null, .null, .null, .null, .int 0, .null, .null, .null, .null])) := wd_at.ps ew17 k9
  have k19 := wd_at.pt ew17 k11 (Ne.symm (wd_nL hq5 hy))
  have fm20 : ∀ z9, z9 < 12 → wd_at w16 (r2 z9) (.inl (cy 2, 12, .inl ((fun _ _ => 0) z9))) := fun z9 hi9 => wd_at.pt ew17 (fm12 z9 hi9) (fn10 z9 hi9)
  have kp21 := kp14.put ew17 sy
  refine lv_aload_n hx hb dX11_init_16 rfl (lv_at hl 0 rfl) ?_
  refine lv_bipush (v := 12) hx hb dX11_init_17 (by decide) ?_
  refine lv_bipush (v := 12) hx hb dX11_init_19 (by decide) ?_
  refine y_mna (N := 12) (M := 12) F hAO hP hD hS (List.mem_cons_of_mem _ (List.mem_append_left _ (List.mem_append_left _ (List.mem_of_getElem? (i := 3) rfl)))) (List.mem_cons_of_mem _ (List.mem_append_left _ (List.mem_append_left _ (List.mem_of_getElem? (i := 4) rfl)))) (by decide) (by decide) (by decide) (by decide) (by decide) (by decide) (Nat.le_of_ble_eq_true rfl) (Nat.le_of_ble_eq_true rfl) dX11_init_21 (fun q22 r23 w24 ew25 hq26 hr27 hj28 hz29 H hP hD hS => ?_)
  refine W.widen (k := 26) (n := 312) (Nat.le_of_ble_eq_true rfl) (Nat.le_of_ble_eq_true rfl) ?_
  have k30 := wd_at.mo ew25 hq26 hr27 k18
  have fn31 : ∀ i, i < 12 → r23 i ≠ y := fun i hi9 e9 => hr27 i hi9 (e9 ▸ k18.1)
  have k32 := wd_at.mo ew25 hq26 hr27 k19
  have fn33 : ∀ i, i < 12 → r23 i ≠ q1 := fun i hi9 e9 => hr27 i hi9 (e9 ▸ k19.1)
  have ff34 : ∀ (a9 i : Nat), a9 < 12 → i < 12 → r23 i ≠ (r2 a9) := fun a9 i hi9 hi8 e9 => hr27 i hi8 (e9 ▸ (fm20 a9 hi9).1)
  have fn35 : ∀ z9, z9 < 12 → (r2 z9) ≠ q22 := fun z9 hi9 => wd_nL hq26 (fm20 z9 hi9)
  have fm36 : ∀ z9, z9 < 12 → wd_at w24 (r2 z9) (.inl (cy 2, 12, .inl ((fun _ _ => 0) z9))) := fun z9 hi9 => wd_at.mo ew25 hq26 hr27 (fm20 z9 hi9)
  have k37 : wd_at w24 q22 (.inl (cy 10, 12, .inr (.inr (.inr (.inr (fun i => if i < 12 then some (r23 i) else none)))))) := wd_at.mq ew25
  have fm38 : ∀ z9, z9 < 12 → wd_at w24 (r23 z9) (.inl (cy 2, 12, .inl ((fun _ _ => 0) z9))) := fun z9 hi9 => wd_at.mr ew25 hz29 z9 hi9
  have fn39 : ∀ i, i < 12 → r23 i ≠ q22 := hz29
  have kp40 := kp21.mna ew25 hq26 hr27
  have no41 : ∀ i, i < 12 → r23 i ∉ w.1 := fun i hi9 => kp21.out (hr27 i hi9)
  refine y_putF (ref := "NoteHouseModel") F hP hD hS k30 rfl (fun _ h => List.mem_cons_of_mem _ (List.mem_append_right _ (h))) tyX11_ok nmX11 hnm 3 (Nat.le_of_ble_eq_true rfl) (List.mem_cons_of_mem _ (List.mem_append_left _ (List.mem_append_left _ (List.mem_of_getElem? (i := 6) rfl)))) rfl rfl rfl rfl rfl (Nat.le_of_ble_eq_true rfl) dX11_init_25 (fun w42 ew43 H locs hP hD hS => ?_)
  have k44 : wd_at w42 y (.inr (11, [.int 0, .int 0, .ref q1, .ref q22, .null, .null, .null, .int 0, .null, .null, .null, .null, .null, .null, .null, .int 0, .int 0, .null, .null, .null, .null, .null, .null, .null, .null, .int 0, .int 0, .int 0, .int 0, .null, .null, .null, .null, .null, .null, .null, .null, .null, .int 0, .null, .null, .null, .null, .null, .null, .null, .null, .null, .null, .null, .int 0, .null, .null, .null, .null, .int 0, .null, .null, .null, .null])) := wd_at.ps ew43 k30
  have k45 := wd_at.pt ew43 k32 (Ne.symm (wd_nL hq5 hy))
  have k46 := wd_at.pt ew43 k37 (Ne.symm (wd_nL hq26 k18))
  have fm47 : ∀ z9, z9 < 12 → wd_at w42 (r2 z9) (.inl (cy 2, 12, .inl ((fun _ _ => 0) z9))) := fun z9 hi9 => wd_at.pt ew43 (fm36 z9 hi9) (fn10 z9 hi9)
  have fm48 : ∀ z9, z9 < 12 → wd_at w42 (r23 z9) (.inl (cy 2, 12, .inl ((fun _ _ => 0) z9))) := fun z9 hi9 => wd_at.pt ew43 (fm38 z9 hi9) (fn31 z9 hi9)
  have kp49 := kp40.put ew43 sy
  refine lv_aload_n hx hb dX11_init_28 rfl (lv_at hl 0 rfl) ?_
  refine lv_bipush (v := 12) hx hb dX11_init_29 (by decide) ?_
  refine y_newI (N := 12) F hP hD hS (List.mem_cons_of_mem _ (List.mem_append_left _ (List.mem_append_left _ (List.mem_of_getElem? (i := 4) rfl)))) (by decide) (by decide) (by decide) (Nat.le_of_ble_eq_true rfl) (Nat.le_of_ble_eq_true rfl) dX11_init_31 (fun q50 w51 ew52 hq53 H hP hD hS => ?_)
  refine W.widen (k := 27) (n := 324) (Nat.le_of_ble_eq_true rfl) (Nat.le_of_ble_eq_true rfl) ?_
  have k54 := wd_at.ad ew52 hq53 k44
  have k55 := wd_at.ad ew52 hq53 k45
  have k56 := wd_at.ad ew52 hq53 k46
  have k57 : wd_at w51 q50 (.inl (cy 2, 12, .inl (fun _ => 0))) := wd_at.nw ew52
  have fm58 : ∀ z9, z9 < 12 → wd_at w51 (r2 z9) (.inl (cy 2, 12, .inl ((fun _ _ => 0) z9))) := fun z9 hi9 => wd_at.ad ew52 hq53 (fm47 z9 hi9)
  have fn59 : ∀ z9, z9 < 12 → (r2 z9) ≠ q50 := fun z9 hi9 => wd_nL hq53 (fm47 z9 hi9)
  have fm60 : ∀ z9, z9 < 12 → wd_at w51 (r23 z9) (.inl (cy 2, 12, .inl ((fun _ _ => 0) z9))) := fun z9 hi9 => wd_at.ad ew52 hq53 (fm48 z9 hi9)
  have fn61 : ∀ z9, z9 < 12 → (r23 z9) ≠ q50 := fun z9 hi9 => wd_nL hq53 (fm48 z9 hi9)
  have kp62 := kp49.add ew52 hq53
  refine y_putF (ref := "NoteHouseModel") F hP hD hS k54 rfl (fun _ h => List.mem_cons_of_mem _ (List.mem_append_right _ (h))) tyX11_ok nmX11 hnm 4 (Nat.le_of_ble_eq_true rfl) (List.mem_cons_of_mem _ (List.mem_append_left _ (List.mem_append_left _ (List.mem_of_getElem? (i := 7) rfl)))) rfl rfl rfl rfl rfl (Nat.le_of_ble_eq_true rfl) dX11_init_33 (fun w63 ew64 H locs hP hD hS => ?_)
  have k65 : wd_at w63 y (.inr (11, [.int 0, .int 0, .ref q1, .ref q22, .ref q50, .null, .null, .int 0, .null, .null, .null, .null, .null, .null, .null, .int 0, .int 0, .null, .null, .null, .null, .null, .null, .null, .null, .int 0, .int 0, .int 0, .int 0, .null, .null, .null, .null, .null, .null, .null, .null, .null, .int 0, .null, .null, .null, .null, .null, .null, .null, .null, .null, .null, .null, .int 0, .null, .null, .null, .null, .int 0, .null, .null, .null, .null])) := wd_at.ps ew64 k54
  have k66 := wd_at.pt ew64 k55 (Ne.symm (wd_nL hq5 hy))
  have k67 := wd_at.pt ew64 k56 (Ne.symm (wd_nL hq26 k18))
  have k68 := wd_at.pt ew64 k57 (Ne.symm (wd_nL hq53 k44))
  have fm69 : ∀ z9, z9 < 12 → wd_at w63 (r2 z9) (.inl (cy 2, 12, .inl ((fun _ _ => 0) z9))) := fun z9 hi9 => wd_at.pt ew64 (fm58 z9 hi9) (fn10 z9 hi9)
  have fm70 : ∀ z9, z9 < 12 → wd_at w63 (r23 z9) (.inl (cy 2, 12, .inl ((fun _ _ => 0) z9))) := fun z9 hi9 => wd_at.pt ew64 (fm60 z9 hi9) (fn31 z9 hi9)
  have kp71 := kp62.put ew64 sy
  refine lv_aload_n hx hb dX11_init_36 rfl (lv_at hl 0 rfl) ?_
  refine lv_bipush (v := 12) hx hb dX11_init_37 (by decide) ?_
  refine y_newI (N := 12) F hP hD hS (List.mem_cons_of_mem _ (List.mem_append_left _ (List.mem_append_left _ (List.mem_of_getElem? (i := 4) rfl)))) (by decide) (by decide) (by decide) (Nat.le_of_ble_eq_true rfl) (Nat.le_of_ble_eq_true rfl) dX11_init_39 (fun q72 w73 ew74 hq75 H hP hD hS => ?_)
  refine W.widen (k := 28) (n := 336) (Nat.le_of_ble_eq_true rfl) (Nat.le_of_ble_eq_true rfl) ?_
  have k76 := wd_at.ad ew74 hq75 k65
  have k77 := wd_at.ad ew74 hq75 k66
  have k78 := wd_at.ad ew74 hq75 k67
  have k79 := wd_at.ad ew74 hq75 k68
  have k80 : wd_at w73 q72 (.inl (cy 2, 12, .inl (fun _ => 0))) := wd_at.nw ew74
  have fm81 : ∀ z9, z9 < 12 → wd_at w73 (r2 z9) (.inl (cy 2, 12, .inl ((fun _ _ => 0) z9))) := fun z9 hi9 => wd_at.ad ew74 hq75 (fm69 z9 hi9)
  have fn82 : ∀ z9, z9 < 12 → (r2 z9) ≠ q72 := fun z9 hi9 => wd_nL hq75 (fm69 z9 hi9)
  have fm83 : ∀ z9, z9 < 12 → wd_at w73 (r23 z9) (.inl (cy 2, 12, .inl ((fun _ _ => 0) z9))) := fun z9 hi9 => wd_at.ad ew74 hq75 (fm70 z9 hi9)
  have fn84 : ∀ z9, z9 < 12 → (r23 z9) ≠ q72 := fun z9 hi9 => wd_nL hq75 (fm70 z9 hi9)
  have kp85 := kp71.add ew74 hq75
  refine y_putF (ref := "NoteHouseModel") F hP hD hS k76 rfl (fun _ h => List.mem_cons_of_mem _ (List.mem_append_right _ (h))) tyX11_ok nmX11 hnm 5 (Nat.le_of_ble_eq_true rfl) (List.mem_cons_of_mem _ (List.mem_append_left _ (List.mem_append_left _ (List.mem_of_getElem? (i := 8) rfl)))) rfl rfl rfl rfl rfl (Nat.le_of_ble_eq_true rfl) dX11_init_41 (fun w86 ew87 H locs hP hD hS => ?_)
  have k88 : wd_at w86 y (.inr (11, [.int 0, .int 0, .ref q1, .ref q22, .ref q50, .ref q72, .null, .int 0, .null, .null, .null, .null, .null, .null, .null, .int 0, .int 0, .null, .null, .null, .null, .null, .null, .null, .null, .int 0, .int 0, .int 0, .int 0, .null, .null, .null, .null, .null, .null, .null, .null, .null, .int 0, .null, .null, .null, .null, .null, .null, .null, .null, .null, .null, .null, .int 0, .null, .null, .null, .null, .int 0, .null, .null, .null, .null])) := wd_at.ps ew87 k76
  have k89 := wd_at.pt ew87 k77 (Ne.symm (wd_nL hq5 hy))
  have k90 := wd_at.pt ew87 k78 (Ne.symm (wd_nL hq26 k18))
  have k91 := wd_at.pt ew87 k79 (Ne.symm (wd_nL hq53 k44))
  have k92 := wd_at.pt ew87 k80 (Ne.symm (wd_nL hq75 k65))
  have fm93 : ∀ z9, z9 < 12 → wd_at w86 (r2 z9) (.inl (cy 2, 12, .inl ((fun _ _ => 0) z9))) := fun z9 hi9 => wd_at.pt ew87 (fm81 z9 hi9) (fn10 z9 hi9)
  have fm94 : ∀ z9, z9 < 12 → wd_at w86 (r23 z9) (.inl (cy 2, 12, .inl ((fun _ _ => 0) z9))) := fun z9 hi9 => wd_at.pt ew87 (fm83 z9 hi9) (fn31 z9 hi9)
  have kp95 := kp85.put ew87 sy
  refine lv_aload_n hx hb dX11_init_44 rfl (lv_at hl 0 rfl) ?_
  refine lv_bipush (v := 12) hx hb dX11_init_45 (by decide) ?_
  refine y_newI (N := 12) F hP hD hS (List.mem_cons_of_mem _ (List.mem_append_left _ (List.mem_append_left _ (List.mem_of_getElem? (i := 4) rfl)))) (by decide) (by decide) (by decide) (Nat.le_of_ble_eq_true rfl) (Nat.le_of_ble_eq_true rfl) dX11_init_47 (fun q96 w97 ew98 hq99 H hP hD hS => ?_)
  refine W.widen (k := 29) (n := 348) (Nat.le_of_ble_eq_true rfl) (Nat.le_of_ble_eq_true rfl) ?_
  have k100 := wd_at.ad ew98 hq99 k88
  have k101 := wd_at.ad ew98 hq99 k89
  have k102 := wd_at.ad ew98 hq99 k90
  have k103 := wd_at.ad ew98 hq99 k91
  have k104 := wd_at.ad ew98 hq99 k92
  have k105 : wd_at w97 q96 (.inl (cy 2, 12, .inl (fun _ => 0))) := wd_at.nw ew98
  have fm106 : ∀ z9, z9 < 12 → wd_at w97 (r2 z9) (.inl (cy 2, 12, .inl ((fun _ _ => 0) z9))) := fun z9 hi9 => wd_at.ad ew98 hq99 (fm93 z9 hi9)
  have fn107 : ∀ z9, z9 < 12 → (r2 z9) ≠ q96 := fun z9 hi9 => wd_nL hq99 (fm93 z9 hi9)
  have fm108 : ∀ z9, z9 < 12 → wd_at w97 (r23 z9) (.inl (cy 2, 12, .inl ((fun _ _ => 0) z9))) := fun z9 hi9 => wd_at.ad ew98 hq99 (fm94 z9 hi9)
  have fn109 : ∀ z9, z9 < 12 → (r23 z9) ≠ q96 := fun z9 hi9 => wd_nL hq99 (fm94 z9 hi9)
  have kp110 := kp95.add ew98 hq99
  refine y_putF (ref := "NoteHouseModel") F hP hD hS k100 rfl (fun _ h => List.mem_cons_of_mem _ (List.mem_append_right _ (h))) tyX11_ok nmX11 hnm 6 (Nat.le_of_ble_eq_true rfl) (List.mem_cons_of_mem _ (List.mem_append_left _ (List.mem_append_left _ (List.mem_of_getElem? (i := 9) rfl)))) rfl rfl rfl rfl rfl (Nat.le_of_ble_eq_true rfl) dX11_init_49 (fun w111 ew112 H locs hP hD hS => ?_)
  have k113 : wd_at w111 y (.inr (11, [.int 0, .int 0, .ref q1, .ref q22, .ref q50, .ref q72, .ref q96, .int 0, .null, .null, .null, .null, .null, .null, .null, .int 0, .int 0, .null, .null, .null, .null, .null, .null, .null, .null, .int 0, .int 0, .int 0, .int 0, .null, .null, .null, .null, .null, .null, .null, .null, .null, .int 0, .null, .null, .null, .null, .null, .null, .null, .null, .null, .null, .null, .int 0, .null, .null, .null, .null, .int 0, .null, .null, .null, .null])) := wd_at.ps ew112 k100
  have k114 := wd_at.pt ew112 k101 (Ne.symm (wd_nL hq5 hy))
  have k115 := wd_at.pt ew112 k102 (Ne.symm (wd_nL hq26 k18))
  have k116 := wd_at.pt ew112 k103 (Ne.symm (wd_nL hq53 k44))
  have k117 := wd_at.pt ew112 k104 (Ne.symm (wd_nL hq75 k65))
  have k118 := wd_at.pt ew112 k105 (Ne.symm (wd_nL hq99 k88))
  have fm119 : ∀ z9, z9 < 12 → wd_at w111 (r2 z9) (.inl (cy 2, 12, .inl ((fun _ _ => 0) z9))) := fun z9 hi9 => wd_at.pt ew112 (fm106 z9 hi9) (fn10 z9 hi9)
  have fm120 : ∀ z9, z9 < 12 → wd_at w111 (r23 z9) (.inl (cy 2, 12, .inl ((fun _ _ => 0) z9))) := fun z9 hi9 => wd_at.pt ew112 (fm108 z9 hi9) (fn31 z9 hi9)
  have kp121 := kp110.put ew112 sy
  refine lv_aload_n hx hb dX11_init_52 rfl (lv_at hl 0 rfl) ?_
  refine lv_bipush (v := 30) hx hb dX11_init_53 (by decide) ?_
  refine y_newI (N := 30) F hP hD hS (List.mem_cons_of_mem _ (List.mem_append_left _ (List.mem_append_left _ (List.mem_of_getElem? (i := 4) rfl)))) (by decide) (by decide) (by decide) (Nat.le_of_ble_eq_true rfl) (Nat.le_of_ble_eq_true rfl) dX11_init_55 (fun q122 w123 ew124 hq125 H hP hD hS => ?_)
  refine W.widen (k := 30) (n := 378) (Nat.le_of_ble_eq_true rfl) (Nat.le_of_ble_eq_true rfl) ?_
  have k126 := wd_at.ad ew124 hq125 k113
  have k127 := wd_at.ad ew124 hq125 k114
  have k128 := wd_at.ad ew124 hq125 k115
  have k129 := wd_at.ad ew124 hq125 k116
  have k130 := wd_at.ad ew124 hq125 k117
  have k131 : wd_at w123 q122 (.inl (cy 2, 30, .inl (fun _ => 0))) := wd_at.nw ew124
  have fm132 : ∀ z9, z9 < 12 → wd_at w123 (r2 z9) (.inl (cy 2, 12, .inl ((fun _ _ => 0) z9))) := fun z9 hi9 => wd_at.ad ew124 hq125 (fm119 z9 hi9)
  have fn133 : ∀ z9, z9 < 12 → (r2 z9) ≠ q122 := fun z9 hi9 => wd_nL hq125 (fm119 z9 hi9)
  have fm134 : ∀ z9, z9 < 12 → wd_at w123 (r23 z9) (.inl (cy 2, 12, .inl ((fun _ _ => 0) z9))) := fun z9 hi9 => wd_at.ad ew124 hq125 (fm120 z9 hi9)
  have fn135 : ∀ z9, z9 < 12 → (r23 z9) ≠ q122 := fun z9 hi9 => wd_nL hq125 (fm120 z9 hi9)
  have kp136 := kp121.add ew124 hq125
  refine y_putF (ref := "NoteHouseModel") F hP hD hS k126 rfl (fun _ h => List.mem_cons_of_mem _ (List.mem_append_right _ (h))) tyX11_ok nmX11 hnm 8 (Nat.le_of_ble_eq_true rfl) (List.mem_cons_of_mem _ (List.mem_append_left _ (List.mem_append_left _ (List.mem_of_getElem? (i := 10) rfl)))) rfl rfl rfl rfl rfl (Nat.le_of_ble_eq_true rfl) dX11_init_57 (fun w137 ew138 H locs hP hD hS => ?_)
  have k139 : wd_at w137 y (.inr (11, [.int 0, .int 0, .ref q1, .ref q22, .ref q50, .ref q72, .ref q96, .int 0, .ref q122, .null, .null, .null, .null, .null, .null, .int 0, .int 0, .null, .null, .null, .null, .null, .null, .null, .null, .int 0, .int 0, .int 0, .int 0, .null, .null, .null, .null, .null, .null, .null, .null, .null, .int 0, .null, .null, .null, .null, .null, .null, .null, .null, .null, .null, .null, .int 0, .null, .null, .null, .null, .int 0, .null, .null, .null, .null])) := wd_at.ps ew138 k126
  have k140 := wd_at.pt ew138 k127 (Ne.symm (wd_nL hq5 hy))
  have k141 := wd_at.pt ew138 k128 (Ne.symm (wd_nL hq26 k18))
  have k142 := wd_at.pt ew138 k129 (Ne.symm (wd_nL hq53 k44))
  have k143 := wd_at.pt ew138 k130 (Ne.symm (wd_nL hq75 k65))
  have k144 := wd_at.pt ew138 k131 (Ne.symm (wd_nL hq125 k113))
  have fm145 : ∀ z9, z9 < 12 → wd_at w137 (r2 z9) (.inl (cy 2, 12, .inl ((fun _ _ => 0) z9))) := fun z9 hi9 => wd_at.pt ew138 (fm132 z9 hi9) (fn10 z9 hi9)
  have fm146 : ∀ z9, z9 < 12 → wd_at w137 (r23 z9) (.inl (cy 2, 12, .inl ((fun _ _ => 0) z9))) := fun z9 hi9 => wd_at.pt ew138 (fm134 z9 hi9) (fn31 z9 hi9)
  have kp147 := kp136.put ew138 sy
  refine lv_aload_n hx hb dX11_init_60 rfl (lv_at hl 0 rfl) ?_
  refine lv_bipush (v := 30) hx hb dX11_init_61 (by decide) ?_
  refine y_newI (N := 30) F hP hD hS (List.mem_cons_of_mem _ (List.mem_append_left _ (List.mem_append_left _ (List.mem_of_getElem? (i := 4) rfl)))) (by decide) (by decide) (by decide) (Nat.le_of_ble_eq_true rfl) (Nat.le_of_ble_eq_true rfl) dX11_init_63 (fun q148 w149 ew150 hq151 H hP hD hS => ?_)
  refine W.widen (k := 31) (n := 408) (Nat.le_of_ble_eq_true rfl) (Nat.le_of_ble_eq_true rfl) ?_
  have k152 := wd_at.ad ew150 hq151 k139
  have k153 := wd_at.ad ew150 hq151 k140
  have k154 := wd_at.ad ew150 hq151 k141
  have k155 := wd_at.ad ew150 hq151 k142
  have k156 := wd_at.ad ew150 hq151 k143
  have k157 := wd_at.ad ew150 hq151 k144
  have k158 : wd_at w149 q148 (.inl (cy 2, 30, .inl (fun _ => 0))) := wd_at.nw ew150
  have fm159 : ∀ z9, z9 < 12 → wd_at w149 (r2 z9) (.inl (cy 2, 12, .inl ((fun _ _ => 0) z9))) := fun z9 hi9 => wd_at.ad ew150 hq151 (fm145 z9 hi9)
  have fn160 : ∀ z9, z9 < 12 → (r2 z9) ≠ q148 := fun z9 hi9 => wd_nL hq151 (fm145 z9 hi9)
  have fm161 : ∀ z9, z9 < 12 → wd_at w149 (r23 z9) (.inl (cy 2, 12, .inl ((fun _ _ => 0) z9))) := fun z9 hi9 => wd_at.ad ew150 hq151 (fm146 z9 hi9)
  have fn162 : ∀ z9, z9 < 12 → (r23 z9) ≠ q148 := fun z9 hi9 => wd_nL hq151 (fm146 z9 hi9)
  have kp163 := kp147.add ew150 hq151
  refine y_putF (ref := "NoteHouseModel") F hP hD hS k152 rfl (fun _ h => List.mem_cons_of_mem _ (List.mem_append_right _ (h))) tyX11_ok nmX11 hnm 9 (Nat.le_of_ble_eq_true rfl) (List.mem_cons_of_mem _ (List.mem_append_left _ (List.mem_append_left _ (List.mem_of_getElem? (i := 11) rfl)))) rfl rfl rfl rfl rfl (Nat.le_of_ble_eq_true rfl) dX11_init_65 (fun w164 ew165 H locs hP hD hS => ?_)
  have k166 : wd_at w164 y (.inr (11, [.int 0, .int 0, .ref q1, .ref q22, .ref q50, .ref q72, .ref q96, .int 0, .ref q122, .ref q148, .null, .null, .null, .null, .null, .int 0, .int 0, .null, .null, .null, .null, .null, .null, .null, .null, .int 0, .int 0, .int 0, .int 0, .null, .null, .null, .null, .null, .null, .null, .null, .null, .int 0, .null, .null, .null, .null, .null, .null, .null, .null, .null, .null, .null, .int 0, .null, .null, .null, .null, .int 0, .null, .null, .null, .null])) := wd_at.ps ew165 k152
  have k167 := wd_at.pt ew165 k153 (Ne.symm (wd_nL hq5 hy))
  have k168 := wd_at.pt ew165 k154 (Ne.symm (wd_nL hq26 k18))
  have k169 := wd_at.pt ew165 k155 (Ne.symm (wd_nL hq53 k44))
  have k170 := wd_at.pt ew165 k156 (Ne.symm (wd_nL hq75 k65))
  have k171 := wd_at.pt ew165 k157 (Ne.symm (wd_nL hq125 k113))
  have k172 := wd_at.pt ew165 k158 (Ne.symm (wd_nL hq151 k139))
  have fm173 : ∀ z9, z9 < 12 → wd_at w164 (r2 z9) (.inl (cy 2, 12, .inl ((fun _ _ => 0) z9))) := fun z9 hi9 => wd_at.pt ew165 (fm159 z9 hi9) (fn10 z9 hi9)
  have fm174 : ∀ z9, z9 < 12 → wd_at w164 (r23 z9) (.inl (cy 2, 12, .inl ((fun _ _ => 0) z9))) := fun z9 hi9 => wd_at.pt ew165 (fm161 z9 hi9) (fn31 z9 hi9)
  have kp175 := kp163.put ew165 sy
  refine lv_aload_n hx hb dX11_init_68 rfl (lv_at hl 0 rfl) ?_
  refine lv_bipush (v := 30) hx hb dX11_init_69 (by decide) ?_
  refine y_newI (N := 30) F hP hD hS (List.mem_cons_of_mem _ (List.mem_append_left _ (List.mem_append_left _ (List.mem_of_getElem? (i := 4) rfl)))) (by decide) (by decide) (by decide) (Nat.le_of_ble_eq_true rfl) (Nat.le_of_ble_eq_true rfl) dX11_init_71 (fun q176 w177 ew178 hq179 H hP hD hS => ?_)
  refine W.widen (k := 32) (n := 438) (Nat.le_of_ble_eq_true rfl) (Nat.le_of_ble_eq_true rfl) ?_
  have k180 := wd_at.ad ew178 hq179 k166
  have k181 := wd_at.ad ew178 hq179 k167
  have k182 := wd_at.ad ew178 hq179 k168
  have k183 := wd_at.ad ew178 hq179 k169
  have k184 := wd_at.ad ew178 hq179 k170
  have k185 := wd_at.ad ew178 hq179 k171
  have k186 := wd_at.ad ew178 hq179 k172
  have k187 : wd_at w177 q176 (.inl (cy 2, 30, .inl (fun _ => 0))) := wd_at.nw ew178
  have fm188 : ∀ z9, z9 < 12 → wd_at w177 (r2 z9) (.inl (cy 2, 12, .inl ((fun _ _ => 0) z9))) := fun z9 hi9 => wd_at.ad ew178 hq179 (fm173 z9 hi9)
  have fn189 : ∀ z9, z9 < 12 → (r2 z9) ≠ q176 := fun z9 hi9 => wd_nL hq179 (fm173 z9 hi9)
  have fm190 : ∀ z9, z9 < 12 → wd_at w177 (r23 z9) (.inl (cy 2, 12, .inl ((fun _ _ => 0) z9))) := fun z9 hi9 => wd_at.ad ew178 hq179 (fm174 z9 hi9)
  have fn191 : ∀ z9, z9 < 12 → (r23 z9) ≠ q176 := fun z9 hi9 => wd_nL hq179 (fm174 z9 hi9)
  have kp192 := kp175.add ew178 hq179
  refine y_putF (ref := "NoteHouseModel") F hP hD hS k180 rfl (fun _ h => List.mem_cons_of_mem _ (List.mem_append_right _ (h))) tyX11_ok nmX11 hnm 10 (Nat.le_of_ble_eq_true rfl) (List.mem_cons_of_mem _ (List.mem_append_left _ (List.mem_append_left _ (List.mem_of_getElem? (i := 12) rfl)))) rfl rfl rfl rfl rfl (Nat.le_of_ble_eq_true rfl) dX11_init_73 (fun w193 ew194 H locs hP hD hS => ?_)
  have k195 : wd_at w193 y (.inr (11, [.int 0, .int 0, .ref q1, .ref q22, .ref q50, .ref q72, .ref q96, .int 0, .ref q122, .ref q148, .ref q176, .null, .null, .null, .null, .int 0, .int 0, .null, .null, .null, .null, .null, .null, .null, .null, .int 0, .int 0, .int 0, .int 0, .null, .null, .null, .null, .null, .null, .null, .null, .null, .int 0, .null, .null, .null, .null, .null, .null, .null, .null, .null, .null, .null, .int 0, .null, .null, .null, .null, .int 0, .null, .null, .null, .null])) := wd_at.ps ew194 k180
  have k196 := wd_at.pt ew194 k181 (Ne.symm (wd_nL hq5 hy))
  have k197 := wd_at.pt ew194 k182 (Ne.symm (wd_nL hq26 k18))
  have k198 := wd_at.pt ew194 k183 (Ne.symm (wd_nL hq53 k44))
  have k199 := wd_at.pt ew194 k184 (Ne.symm (wd_nL hq75 k65))
  have k200 := wd_at.pt ew194 k185 (Ne.symm (wd_nL hq125 k113))
  have k201 := wd_at.pt ew194 k186 (Ne.symm (wd_nL hq151 k139))
  have k202 := wd_at.pt ew194 k187 (Ne.symm (wd_nL hq179 k166))
  have fm203 : ∀ z9, z9 < 12 → wd_at w193 (r2 z9) (.inl (cy 2, 12, .inl ((fun _ _ => 0) z9))) := fun z9 hi9 => wd_at.pt ew194 (fm188 z9 hi9) (fn10 z9 hi9)
  have fm204 : ∀ z9, z9 < 12 → wd_at w193 (r23 z9) (.inl (cy 2, 12, .inl ((fun _ _ => 0) z9))) := fun z9 hi9 => wd_at.pt ew194 (fm190 z9 hi9) (fn31 z9 hi9)
  have kp205 := kp192.put ew194 sy
  refine lv_aload_n hx hb dX11_init_76 rfl (lv_at hl 0 rfl) ?_
  refine lv_bipush (v := 30) hx hb dX11_init_77 (by decide) ?_
  refine y_newI (N := 30) F hP hD hS (List.mem_cons_of_mem _ (List.mem_append_left _ (List.mem_append_left _ (List.mem_of_getElem? (i := 4) rfl)))) (by decide) (by decide) (by decide) (Nat.le_of_ble_eq_true rfl) (Nat.le_of_ble_eq_true rfl) dX11_init_79 (fun q206 w207 ew208 hq209 H hP hD hS => ?_)
  refine W.widen (k := 33) (n := 468) (Nat.le_of_ble_eq_true rfl) (Nat.le_of_ble_eq_true rfl) ?_
  have k210 := wd_at.ad ew208 hq209 k195
  have k211 := wd_at.ad ew208 hq209 k196
  have k212 := wd_at.ad ew208 hq209 k197
  have k213 := wd_at.ad ew208 hq209 k198
  have k214 := wd_at.ad ew208 hq209 k199
  have k215 := wd_at.ad ew208 hq209 k200
  have k216 := wd_at.ad ew208 hq209 k201
  have k217 := wd_at.ad ew208 hq209 k202
  have k218 : wd_at w207 q206 (.inl (cy 2, 30, .inl (fun _ => 0))) := wd_at.nw ew208
  have fm219 : ∀ z9, z9 < 12 → wd_at w207 (r2 z9) (.inl (cy 2, 12, .inl ((fun _ _ => 0) z9))) := fun z9 hi9 => wd_at.ad ew208 hq209 (fm203 z9 hi9)
  have fn220 : ∀ z9, z9 < 12 → (r2 z9) ≠ q206 := fun z9 hi9 => wd_nL hq209 (fm203 z9 hi9)
  have fm221 : ∀ z9, z9 < 12 → wd_at w207 (r23 z9) (.inl (cy 2, 12, .inl ((fun _ _ => 0) z9))) := fun z9 hi9 => wd_at.ad ew208 hq209 (fm204 z9 hi9)
  have fn222 : ∀ z9, z9 < 12 → (r23 z9) ≠ q206 := fun z9 hi9 => wd_nL hq209 (fm204 z9 hi9)
  have kp223 := kp205.add ew208 hq209
  refine y_putF (ref := "NoteHouseModel") F hP hD hS k210 rfl (fun _ h => List.mem_cons_of_mem _ (List.mem_append_right _ (h))) tyX11_ok nmX11 hnm 11 (Nat.le_of_ble_eq_true rfl) (List.mem_cons_of_mem _ (List.mem_append_left _ (List.mem_append_left _ (List.mem_of_getElem? (i := 13) rfl)))) rfl rfl rfl rfl rfl (Nat.le_of_ble_eq_true rfl) dX11_init_81 (fun w224 ew225 H locs hP hD hS => ?_)
  have k226 : wd_at w224 y (.inr (11, [.int 0, .int 0, .ref q1, .ref q22, .ref q50, .ref q72, .ref q96, .int 0, .ref q122, .ref q148, .ref q176, .ref q206, .null, .null, .null, .int 0, .int 0, .null, .null, .null, .null, .null, .null, .null, .null, .int 0, .int 0, .int 0, .int 0, .null, .null, .null, .null, .null, .null, .null, .null, .null, .int 0, .null, .null, .null, .null, .null, .null, .null, .null, .null, .null, .null, .int 0, .null, .null, .null, .null, .int 0, .null, .null, .null, .null])) := wd_at.ps ew225 k210
  have k227 := wd_at.pt ew225 k211 (Ne.symm (wd_nL hq5 hy))
  have k228 := wd_at.pt ew225 k212 (Ne.symm (wd_nL hq26 k18))
  have k229 := wd_at.pt ew225 k213 (Ne.symm (wd_nL hq53 k44))
  have k230 := wd_at.pt ew225 k214 (Ne.symm (wd_nL hq75 k65))
  have k231 := wd_at.pt ew225 k215 (Ne.symm (wd_nL hq125 k113))
  have k232 := wd_at.pt ew225 k216 (Ne.symm (wd_nL hq151 k139))
  have k233 := wd_at.pt ew225 k217 (Ne.symm (wd_nL hq179 k166))
  have k234 := wd_at.pt ew225 k218 (Ne.symm (wd_nL hq209 k195))
  have fm235 : ∀ z9, z9 < 12 → wd_at w224 (r2 z9) (.inl (cy 2, 12, .inl ((fun _ _ => 0) z9))) := fun z9 hi9 => wd_at.pt ew225 (fm219 z9 hi9) (fn10 z9 hi9)
  have fm236 : ∀ z9, z9 < 12 → wd_at w224 (r23 z9) (.inl (cy 2, 12, .inl ((fun _ _ => 0) z9))) := fun z9 hi9 => wd_at.pt ew225 (fm221 z9 hi9) (fn31 z9 hi9)
  have kp237 := kp223.put ew225 sy
  refine lv_aload_n hx hb dX11_init_84 rfl (lv_at hl 0 rfl) ?_
  refine lv_bipush (v := 30) hx hb dX11_init_85 (by decide) ?_
  refine y_newI (N := 30) F hP hD hS (List.mem_cons_of_mem _ (List.mem_append_left _ (List.mem_append_left _ (List.mem_of_getElem? (i := 4) rfl)))) (by decide) (by decide) (by decide) (Nat.le_of_ble_eq_true rfl) (Nat.le_of_ble_eq_true rfl) dX11_init_87 (fun q238 w239 ew240 hq241 H hP hD hS => ?_)
  refine W.widen (k := 34) (n := 498) (Nat.le_of_ble_eq_true rfl) (Nat.le_of_ble_eq_true rfl) ?_
  have k242 := wd_at.ad ew240 hq241 k226
  have k243 := wd_at.ad ew240 hq241 k227
  have k244 := wd_at.ad ew240 hq241 k228
  have k245 := wd_at.ad ew240 hq241 k229
  have k246 := wd_at.ad ew240 hq241 k230
  have k247 := wd_at.ad ew240 hq241 k231
  have k248 := wd_at.ad ew240 hq241 k232
  have k249 := wd_at.ad ew240 hq241 k233
  have k250 := wd_at.ad ew240 hq241 k234
  have k251 : wd_at w239 q238 (.inl (cy 2, 30, .inl (fun _ => 0))) := wd_at.nw ew240
  have fm252 : ∀ z9, z9 < 12 → wd_at w239 (r2 z9) (.inl (cy 2, 12, .inl ((fun _ _ => 0) z9))) := fun z9 hi9 => wd_at.ad ew240 hq241 (fm235 z9 hi9)
  have fn253 : ∀ z9, z9 < 12 → (r2 z9) ≠ q238 := fun z9 hi9 => wd_nL hq241 (fm235 z9 hi9)
  have fm254 : ∀ z9, z9 < 12 → wd_at w239 (r23 z9) (.inl (cy 2, 12, .inl ((fun _ _ => 0) z9))) := fun z9 hi9 => wd_at.ad ew240 hq241 (fm236 z9 hi9)
  have fn255 : ∀ z9, z9 < 12 → (r23 z9) ≠ q238 := fun z9 hi9 => wd_nL hq241 (fm236 z9 hi9)
  have kp256 := kp237.add ew240 hq241
  refine y_putF (ref := "NoteHouseModel") F hP hD hS k242 rfl (fun _ h => List.mem_cons_of_mem _ (List.mem_append_right _ (h))) tyX11_ok nmX11 hnm 12 (Nat.le_of_ble_eq_true rfl) (List.mem_cons_of_mem _ (List.mem_append_left _ (List.mem_append_left _ (List.mem_of_getElem? (i := 14) rfl)))) rfl rfl rfl rfl rfl (Nat.le_of_ble_eq_true rfl) dX11_init_89 (fun w257 ew258 H locs hP hD hS => ?_)
  have k259 : wd_at w257 y (.inr (11, [.int 0, .int 0, .ref q1, .ref q22, .ref q50, .ref q72, .ref q96, .int 0, .ref q122, .ref q148, .ref q176, .ref q206, .ref q238, .null, .null, .int 0, .int 0, .null, .null, .null, .null, .null, .null, .null, .null, .int 0, .int 0, .int 0, .int 0, .null, .null, .null, .null, .null, .null, .null, .null, .null, .int 0, .null, .null, .null, .null, .null, .null, .null, .null, .null, .null, .null, .int 0, .null, .null, .null, .null, .int 0, .null, .null, .null, .null])) := wd_at.ps ew258 k242
  have k260 := wd_at.pt ew258 k243 (Ne.symm (wd_nL hq5 hy))
  have k261 := wd_at.pt ew258 k244 (Ne.symm (wd_nL hq26 k18))
  have k262 := wd_at.pt ew258 k245 (Ne.symm (wd_nL hq53 k44))
  have k263 := wd_at.pt ew258 k246 (Ne.symm (wd_nL hq75 k65))
  have k264 := wd_at.pt ew258 k247 (Ne.symm (wd_nL hq125 k113))
  have k265 := wd_at.pt ew258 k248 (Ne.symm (wd_nL hq151 k139))
  have k266 := wd_at.pt ew258 k249 (Ne.symm (wd_nL hq179 k166))
  have k267 := wd_at.pt ew258 k250 (Ne.symm (wd_nL hq209 k195))
  have k268 := wd_at.pt ew258 k251 (Ne.symm (wd_nL hq241 k226))
  have fm269 : ∀ z9, z9 < 12 → wd_at w257 (r2 z9) (.inl (cy 2, 12, .inl ((fun _ _ => 0) z9))) := fun z9 hi9 => wd_at.pt ew258 (fm252 z9 hi9) (fn10 z9 hi9)
  have fm270 : ∀ z9, z9 < 12 → wd_at w257 (r23 z9) (.inl (cy 2, 12, .inl ((fun _ _ => 0) z9))) := fun z9 hi9 => wd_at.pt ew258 (fm254 z9 hi9) (fn31 z9 hi9)
  have kp271 := kp256.put ew258 sy
  refine lv_aload_n hx hb dX11_init_92 rfl (lv_at hl 0 rfl) ?_
  refine lv_bipush (v := 30) hx hb dX11_init_93 (by decide) ?_
  refine y_newI (N := 30) F hP hD hS (List.mem_cons_of_mem _ (List.mem_append_left _ (List.mem_append_left _ (List.mem_of_getElem? (i := 4) rfl)))) (by decide) (by decide) (by decide) (Nat.le_of_ble_eq_true rfl) (Nat.le_of_ble_eq_true rfl) dX11_init_95 (fun q272 w273 ew274 hq275 H hP hD hS => ?_)
  refine W.widen (k := 35) (n := 528) (Nat.le_of_ble_eq_true rfl) (Nat.le_of_ble_eq_true rfl) ?_
  have k276 := wd_at.ad ew274 hq275 k259
  have k277 := wd_at.ad ew274 hq275 k260
  have k278 := wd_at.ad ew274 hq275 k261
  have k279 := wd_at.ad ew274 hq275 k262
  have k280 := wd_at.ad ew274 hq275 k263
  have k281 := wd_at.ad ew274 hq275 k264
  have k282 := wd_at.ad ew274 hq275 k265
  have k283 := wd_at.ad ew274 hq275 k266
  have k284 := wd_at.ad ew274 hq275 k267
  have k285 := wd_at.ad ew274 hq275 k268
  have k286 : wd_at w273 q272 (.inl (cy 2, 30, .inl (fun _ => 0))) := wd_at.nw ew274
  have fm287 : ∀ z9, z9 < 12 → wd_at w273 (r2 z9) (.inl (cy 2, 12, .inl ((fun _ _ => 0) z9))) := fun z9 hi9 => wd_at.ad ew274 hq275 (fm269 z9 hi9)
  have fn288 : ∀ z9, z9 < 12 → (r2 z9) ≠ q272 := fun z9 hi9 => wd_nL hq275 (fm269 z9 hi9)
  have fm289 : ∀ z9, z9 < 12 → wd_at w273 (r23 z9) (.inl (cy 2, 12, .inl ((fun _ _ => 0) z9))) := fun z9 hi9 => wd_at.ad ew274 hq275 (fm270 z9 hi9)
  have fn290 : ∀ z9, z9 < 12 → (r23 z9) ≠ q272 := fun z9 hi9 => wd_nL hq275 (fm270 z9 hi9)
  have kp291 := kp271.add ew274 hq275
  refine y_putF (ref := "NoteHouseModel") F hP hD hS k276 rfl (fun _ h => List.mem_cons_of_mem _ (List.mem_append_right _ (h))) tyX11_ok nmX11 hnm 13 (Nat.le_of_ble_eq_true rfl) (List.mem_cons_of_mem _ (List.mem_append_left _ (List.mem_append_left _ (List.mem_of_getElem? (i := 15) rfl)))) rfl rfl rfl rfl rfl (Nat.le_of_ble_eq_true rfl) dX11_init_97 (fun w292 ew293 H locs hP hD hS => ?_)
  have k294 : wd_at w292 y (.inr (11, [.int 0, .int 0, .ref q1, .ref q22, .ref q50, .ref q72, .ref q96, .int 0, .ref q122, .ref q148, .ref q176, .ref q206, .ref q238, .ref q272, .null, .int 0, .int 0, .null, .null, .null, .null, .null, .null, .null, .null, .int 0, .int 0, .int 0, .int 0, .null, .null, .null, .null, .null, .null, .null, .null, .null, .int 0, .null, .null, .null, .null, .null, .null, .null, .null, .null, .null, .null, .int 0, .null, .null, .null, .null, .int 0, .null, .null, .null, .null])) := wd_at.ps ew293 k276
  have k295 := wd_at.pt ew293 k277 (Ne.symm (wd_nL hq5 hy))
  have k296 := wd_at.pt ew293 k278 (Ne.symm (wd_nL hq26 k18))
  have k297 := wd_at.pt ew293 k279 (Ne.symm (wd_nL hq53 k44))
  have k298 := wd_at.pt ew293 k280 (Ne.symm (wd_nL hq75 k65))
  have k299 := wd_at.pt ew293 k281 (Ne.symm (wd_nL hq125 k113))
  have k300 := wd_at.pt ew293 k282 (Ne.symm (wd_nL hq151 k139))
  have k301 := wd_at.pt ew293 k283 (Ne.symm (wd_nL hq179 k166))
  have k302 := wd_at.pt ew293 k284 (Ne.symm (wd_nL hq209 k195))
  have k303 := wd_at.pt ew293 k285 (Ne.symm (wd_nL hq241 k226))
  have k304 := wd_at.pt ew293 k286 (Ne.symm (wd_nL hq275 k259))
  have fm305 : ∀ z9, z9 < 12 → wd_at w292 (r2 z9) (.inl (cy 2, 12, .inl ((fun _ _ => 0) z9))) := fun z9 hi9 => wd_at.pt ew293 (fm287 z9 hi9) (fn10 z9 hi9)
  have fm306 : ∀ z9, z9 < 12 → wd_at w292 (r23 z9) (.inl (cy 2, 12, .inl ((fun _ _ => 0) z9))) := fun z9 hi9 => wd_at.pt ew293 (fm289 z9 hi9) (fn31 z9 hi9)
  have kp307 := kp291.put ew293 sy
  refine lv_aload_n hx hb dX11_init_100 rfl (lv_at hl 0 rfl) ?_
  refine lv_bipush (v := 30) hx hb dX11_init_101 (by decide) ?_
  refine y_newI (N := 30) F hP hD hS (List.mem_cons_of_mem _ (List.mem_append_left _ (List.mem_append_left _ (List.mem_of_getElem? (i := 4) rfl)))) (by decide) (by decide) (by decide) (Nat.le_of_ble_eq_true rfl) (Nat.le_of_ble_eq_true rfl) dX11_init_103 (fun q308 w309 ew310 hq311 H hP hD hS => ?_)
  refine W.widen (k := 36) (n := 558) (Nat.le_of_ble_eq_true rfl) (Nat.le_of_ble_eq_true rfl) ?_
  have k312 := wd_at.ad ew310 hq311 k294
  have k313 := wd_at.ad ew310 hq311 k295
  have k314 := wd_at.ad ew310 hq311 k296
  have k315 := wd_at.ad ew310 hq311 k297
  have k316 := wd_at.ad ew310 hq311 k298
  have k317 := wd_at.ad ew310 hq311 k299
  have k318 := wd_at.ad ew310 hq311 k300
  have k319 := wd_at.ad ew310 hq311 k301
  have k320 := wd_at.ad ew310 hq311 k302
  have k321 := wd_at.ad ew310 hq311 k303
  have k322 : wd_at w309 q308 (.inl (cy 2, 30, .inl (fun _ => 0))) := wd_at.nw ew310
  have fm323 : ∀ z9, z9 < 12 → wd_at w309 (r2 z9) (.inl (cy 2, 12, .inl ((fun _ _ => 0) z9))) := fun z9 hi9 => wd_at.ad ew310 hq311 (fm305 z9 hi9)
  have fn324 : ∀ z9, z9 < 12 → (r2 z9) ≠ q308 := fun z9 hi9 => wd_nL hq311 (fm305 z9 hi9)
  have fm325 : ∀ z9, z9 < 12 → wd_at w309 (r23 z9) (.inl (cy 2, 12, .inl ((fun _ _ => 0) z9))) := fun z9 hi9 => wd_at.ad ew310 hq311 (fm306 z9 hi9)
  have fn326 : ∀ z9, z9 < 12 → (r23 z9) ≠ q308 := fun z9 hi9 => wd_nL hq311 (fm306 z9 hi9)
  have kp327 := kp307.add ew310 hq311
  refine y_putF (ref := "NoteHouseModel") F hP hD hS k312 rfl (fun _ h => List.mem_cons_of_mem _ (List.mem_append_right _ (h))) tyX11_ok nmX11 hnm 14 (Nat.le_of_ble_eq_true rfl) (List.mem_cons_of_mem _ (List.mem_append_left _ (List.mem_append_left _ (List.mem_of_getElem? (i := 16) rfl)))) rfl rfl rfl rfl rfl (Nat.le_of_ble_eq_true rfl) dX11_init_105 (fun w328 ew329 H locs hP hD hS => ?_)
  have k330 : wd_at w328 y (.inr (11, [.int 0, .int 0, .ref q1, .ref q22, .ref q50, .ref q72, .ref q96, .int 0, .ref q122, .ref q148, .ref q176, .ref q206, .ref q238, .ref q272, .ref q308, .int 0, .int 0, .null, .null, .null, .null, .null, .null, .null, .null, .int 0, .int 0, .int 0, .int 0, .null, .null, .null, .null, .null, .null, .null, .null, .null, .int 0, .null, .null, .null, .null, .null, .null, .null, .null, .null, .null, .null, .int 0, .null, .null, .null, .null, .int 0, .null, .null, .null, .null])) := wd_at.ps ew329 k312
  have k331 := wd_at.pt ew329 k313 (Ne.symm (wd_nL hq5 hy))
  have k332 := wd_at.pt ew329 k314 (Ne.symm (wd_nL hq26 k18))
  have k333 := wd_at.pt ew329 k315 (Ne.symm (wd_nL hq53 k44))
  have k334 := wd_at.pt ew329 k316 (Ne.symm (wd_nL hq75 k65))
  have k335 := wd_at.pt ew329 k317 (Ne.symm (wd_nL hq125 k113))
  have k336 := wd_at.pt ew329 k318 (Ne.symm (wd_nL hq151 k139))
  have k337 := wd_at.pt ew329 k319 (Ne.symm (wd_nL hq179 k166))
  have k338 := wd_at.pt ew329 k320 (Ne.symm (wd_nL hq209 k195))
  have k339 := wd_at.pt ew329 k321 (Ne.symm (wd_nL hq241 k226))
  have k340 := wd_at.pt ew329 k322 (Ne.symm (wd_nL hq311 k294))
  have fm341 : ∀ z9, z9 < 12 → wd_at w328 (r2 z9) (.inl (cy 2, 12, .inl ((fun _ _ => 0) z9))) := fun z9 hi9 => wd_at.pt ew329 (fm323 z9 hi9) (fn10 z9 hi9)
  have fm342 : ∀ z9, z9 < 12 → wd_at w328 (r23 z9) (.inl (cy 2, 12, .inl ((fun _ _ => 0) z9))) := fun z9 hi9 => wd_at.pt ew329 (fm325 z9 hi9) (fn31 z9 hi9)
  have kp343 := kp327.put ew329 sy
  refine lv_aload_n hx hb dX11_init_108 rfl (lv_at hl 0 rfl) ?_
  refine lv_bipush (v := 60) hx hb dX11_init_109 (by decide) ?_
  refine y_newI (N := 60) F hP hD hS (List.mem_cons_of_mem _ (List.mem_append_left _ (List.mem_append_left _ (List.mem_of_getElem? (i := 4) rfl)))) (by decide) (by decide) (by decide) (Nat.le_of_ble_eq_true rfl) (Nat.le_of_ble_eq_true rfl) dX11_init_111 (fun q344 w345 ew346 hq347 H hP hD hS => ?_)
  refine W.widen (k := 37) (n := 618) (Nat.le_of_ble_eq_true rfl) (Nat.le_of_ble_eq_true rfl) ?_
  have k348 := wd_at.ad ew346 hq347 k330
  have k349 := wd_at.ad ew346 hq347 k331
  have k350 := wd_at.ad ew346 hq347 k332
  have k351 := wd_at.ad ew346 hq347 k333
  have k352 := wd_at.ad ew346 hq347 k334
  have k353 := wd_at.ad ew346 hq347 k335
  have k354 := wd_at.ad ew346 hq347 k336
  have k355 := wd_at.ad ew346 hq347 k337
  have k356 := wd_at.ad ew346 hq347 k338
  have k357 := wd_at.ad ew346 hq347 k339
  have k358 : wd_at w345 q344 (.inl (cy 2, 60, .inl (fun _ => 0))) := wd_at.nw ew346
  have fm359 : ∀ z9, z9 < 12 → wd_at w345 (r2 z9) (.inl (cy 2, 12, .inl ((fun _ _ => 0) z9))) := fun z9 hi9 => wd_at.ad ew346 hq347 (fm341 z9 hi9)
  have fn360 : ∀ z9, z9 < 12 → (r2 z9) ≠ q344 := fun z9 hi9 => wd_nL hq347 (fm341 z9 hi9)
  have fm361 : ∀ z9, z9 < 12 → wd_at w345 (r23 z9) (.inl (cy 2, 12, .inl ((fun _ _ => 0) z9))) := fun z9 hi9 => wd_at.ad ew346 hq347 (fm342 z9 hi9)
  have fn362 : ∀ z9, z9 < 12 → (r23 z9) ≠ q344 := fun z9 hi9 => wd_nL hq347 (fm342 z9 hi9)
  have kp363 := kp343.add ew346 hq347
  refine y_putF (ref := "NoteHouseModel") F hP hD hS k348 rfl (fun _ h => List.mem_cons_of_mem _ (List.mem_append_right _ (h))) tyX11_ok nmX11 hnm 17 (Nat.le_of_ble_eq_true rfl) (List.mem_cons_of_mem _ (List.mem_append_left _ (List.mem_append_left _ (List.mem_of_getElem? (i := 17) rfl)))) rfl rfl rfl rfl rfl (Nat.le_of_ble_eq_true rfl) dX11_init_113 (fun w364 ew365 H locs hP hD hS => ?_)
  have k366 : wd_at w364 y (.inr (11, [.int 0, .int 0, .ref q1, .ref q22, .ref q50, .ref q72, .ref q96, .int 0, .ref q122, .ref q148, .ref q176, .ref q206, .ref q238, .ref q272, .ref q308, .int 0, .int 0, .ref q344, .null, .null, .null, .null, .null, .null, .null, .int 0, .int 0, .int 0, .int 0, .null, .null, .null, .null, .null, .null, .null, .null, .null, .int 0, .null, .null, .null, .null, .null, .null, .null, .null, .null, .null, .null, .int 0, .null, .null, .null, .null, .int 0, .null, .null, .null, .null])) := wd_at.ps ew365 k348
  have k367 := wd_at.pt ew365 k349 (Ne.symm (wd_nL hq5 hy))
  have k368 := wd_at.pt ew365 k350 (Ne.symm (wd_nL hq26 k18))
  have k369 := wd_at.pt ew365 k351 (Ne.symm (wd_nL hq53 k44))
  have k370 := wd_at.pt ew365 k352 (Ne.symm (wd_nL hq75 k65))
  have k371 := wd_at.pt ew365 k353 (Ne.symm (wd_nL hq125 k113))
  have k372 := wd_at.pt ew365 k354 (Ne.symm (wd_nL hq151 k139))
  have k373 := wd_at.pt ew365 k355 (Ne.symm (wd_nL hq179 k166))
  have k374 := wd_at.pt ew365 k356 (Ne.symm (wd_nL hq209 k195))
  have k375 := wd_at.pt ew365 k357 (Ne.symm (wd_nL hq241 k226))
  have k376 := wd_at.pt ew365 k358 (Ne.symm (wd_nL hq347 k330))
  have fm377 : ∀ z9, z9 < 12 → wd_at w364 (r2 z9) (.inl (cy 2, 12, .inl ((fun _ _ => 0) z9))) := fun z9 hi9 => wd_at.pt ew365 (fm359 z9 hi9) (fn10 z9 hi9)
  have fm378 : ∀ z9, z9 < 12 → wd_at w364 (r23 z9) (.inl (cy 2, 12, .inl ((fun _ _ => 0) z9))) := fun z9 hi9 => wd_at.pt ew365 (fm361 z9 hi9) (fn31 z9 hi9)
  have kp379 := kp363.put ew365 sy
  refine lv_aload_n hx hb dX11_init_116 rfl (lv_at hl 0 rfl) ?_
  refine lv_bipush (v := 60) hx hb dX11_init_117 (by decide) ?_
  refine y_newI (N := 60) F hP hD hS (List.mem_cons_of_mem _ (List.mem_append_left _ (List.mem_append_left _ (List.mem_of_getElem? (i := 4) rfl)))) (by decide) (by decide) (by decide) (Nat.le_of_ble_eq_true rfl) (Nat.le_of_ble_eq_true rfl) dX11_init_119 (fun q380 w381 ew382 hq383 H hP hD hS => ?_)
  refine W.widen (k := 38) (n := 678) (Nat.le_of_ble_eq_true rfl) (Nat.le_of_ble_eq_true rfl) ?_
  have k384 := wd_at.ad ew382 hq383 k366
  have k385 := wd_at.ad ew382 hq383 k367
  have k386 := wd_at.ad ew382 hq383 k368
  have k387 := wd_at.ad ew382 hq383 k369
  have k388 := wd_at.ad ew382 hq383 k370
  have k389 := wd_at.ad ew382 hq383 k371
  have k390 := wd_at.ad ew382 hq383 k372
  have k391 := wd_at.ad ew382 hq383 k373
  have k392 := wd_at.ad ew382 hq383 k374
  have k393 := wd_at.ad ew382 hq383 k375
  have k394 : wd_at w381 q380 (.inl (cy 2, 60, .inl (fun _ => 0))) := wd_at.nw ew382
  have fm395 : ∀ z9, z9 < 12 → wd_at w381 (r2 z9) (.inl (cy 2, 12, .inl ((fun _ _ => 0) z9))) := fun z9 hi9 => wd_at.ad ew382 hq383 (fm377 z9 hi9)
  have fn396 : ∀ z9, z9 < 12 → (r2 z9) ≠ q380 := fun z9 hi9 => wd_nL hq383 (fm377 z9 hi9)
  have fm397 : ∀ z9, z9 < 12 → wd_at w381 (r23 z9) (.inl (cy 2, 12, .inl ((fun _ _ => 0) z9))) := fun z9 hi9 => wd_at.ad ew382 hq383 (fm378 z9 hi9)
  have fn398 : ∀ z9, z9 < 12 → (r23 z9) ≠ q380 := fun z9 hi9 => wd_nL hq383 (fm378 z9 hi9)
  have kp399 := kp379.add ew382 hq383
  refine y_putF (ref := "NoteHouseModel") F hP hD hS k384 rfl (fun _ h => List.mem_cons_of_mem _ (List.mem_append_right _ (h))) tyX11_ok nmX11 hnm 18 (Nat.le_of_ble_eq_true rfl) (List.mem_cons_of_mem _ (List.mem_append_left _ (List.mem_append_left _ (List.mem_of_getElem? (i := 18) rfl)))) rfl rfl rfl rfl rfl (Nat.le_of_ble_eq_true rfl) dX11_init_121 (fun w400 ew401 H locs hP hD hS => ?_)
  have k402 : wd_at w400 y (.inr (11, [.int 0, .int 0, .ref q1, .ref q22, .ref q50, .ref q72, .ref q96, .int 0, .ref q122, .ref q148, .ref q176, .ref q206, .ref q238, .ref q272, .ref q308, .int 0, .int 0, .ref q344, .ref q380, .null, .null, .null, .null, .null, .null, .int 0, .int 0, .int 0, .int 0, .null, .null, .null, .null, .null, .null, .null, .null, .null, .int 0, .null, .null, .null, .null, .null, .null, .null, .null, .null, .null, .null, .int 0, .null, .null, .null, .null, .int 0, .null, .null, .null, .null])) := wd_at.ps ew401 k384
  have k403 := wd_at.pt ew401 k385 (Ne.symm (wd_nL hq5 hy))
  have k404 := wd_at.pt ew401 k386 (Ne.symm (wd_nL hq26 k18))
  have k405 := wd_at.pt ew401 k387 (Ne.symm (wd_nL hq53 k44))
  have k406 := wd_at.pt ew401 k388 (Ne.symm (wd_nL hq75 k65))
  have k407 := wd_at.pt ew401 k389 (Ne.symm (wd_nL hq125 k113))
  have k408 := wd_at.pt ew401 k390 (Ne.symm (wd_nL hq151 k139))
  have k409 := wd_at.pt ew401 k391 (Ne.symm (wd_nL hq179 k166))
  have k410 := wd_at.pt ew401 k392 (Ne.symm (wd_nL hq209 k195))
  have k411 := wd_at.pt ew401 k393 (Ne.symm (wd_nL hq241 k226))
  have k412 := wd_at.pt ew401 k394 (Ne.symm (wd_nL hq383 k366))
  have fm413 : ∀ z9, z9 < 12 → wd_at w400 (r2 z9) (.inl (cy 2, 12, .inl ((fun _ _ => 0) z9))) := fun z9 hi9 => wd_at.pt ew401 (fm395 z9 hi9) (fn10 z9 hi9)
  have fm414 : ∀ z9, z9 < 12 → wd_at w400 (r23 z9) (.inl (cy 2, 12, .inl ((fun _ _ => 0) z9))) := fun z9 hi9 => wd_at.pt ew401 (fm397 z9 hi9) (fn31 z9 hi9)
  have kp415 := kp399.put ew401 sy
  refine lv_aload_n hx hb dX11_init_124 rfl (lv_at hl 0 rfl) ?_
  refine lv_bipush (v := 60) hx hb dX11_init_125 (by decide) ?_
  refine y_newI (N := 60) F hP hD hS (List.mem_cons_of_mem _ (List.mem_append_left _ (List.mem_append_left _ (List.mem_of_getElem? (i := 4) rfl)))) (by decide) (by decide) (by decide) (Nat.le_of_ble_eq_true rfl) (Nat.le_of_ble_eq_true rfl) dX11_init_127 (fun q416 w417 ew418 hq419 H hP hD hS => ?_)
  refine W.widen (k := 39) (n := 738) (Nat.le_of_ble_eq_true rfl) (Nat.le_of_ble_eq_true rfl) ?_
  have k420 := wd_at.ad ew418 hq419 k402
  have k421 := wd_at.ad ew418 hq419 k403
  have k422 := wd_at.ad ew418 hq419 k404
  have k423 := wd_at.ad ew418 hq419 k405
  have k424 := wd_at.ad ew418 hq419 k406
  have k425 := wd_at.ad ew418 hq419 k407
  have k426 := wd_at.ad ew418 hq419 k408
  have k427 := wd_at.ad ew418 hq419 k409
  have k428 := wd_at.ad ew418 hq419 k410
  have k429 := wd_at.ad ew418 hq419 k411
  have k430 : wd_at w417 q416 (.inl (cy 2, 60, .inl (fun _ => 0))) := wd_at.nw ew418
  have fm431 : ∀ z9, z9 < 12 → wd_at w417 (r2 z9) (.inl (cy 2, 12, .inl ((fun _ _ => 0) z9))) := fun z9 hi9 => wd_at.ad ew418 hq419 (fm413 z9 hi9)
  have fn432 : ∀ z9, z9 < 12 → (r2 z9) ≠ q416 := fun z9 hi9 => wd_nL hq419 (fm413 z9 hi9)
  have fm433 : ∀ z9, z9 < 12 → wd_at w417 (r23 z9) (.inl (cy 2, 12, .inl ((fun _ _ => 0) z9))) := fun z9 hi9 => wd_at.ad ew418 hq419 (fm414 z9 hi9)
  have fn434 : ∀ z9, z9 < 12 → (r23 z9) ≠ q416 := fun z9 hi9 => wd_nL hq419 (fm414 z9 hi9)
  have kp435 := kp415.add ew418 hq419
  refine y_putF (ref := "NoteHouseModel") F hP hD hS k420 rfl (fun _ h => List.mem_cons_of_mem _ (List.mem_append_right _ (h))) tyX11_ok nmX11 hnm 19 (Nat.le_of_ble_eq_true rfl) (List.mem_cons_of_mem _ (List.mem_append_left _ (List.mem_append_left _ (List.mem_of_getElem? (i := 19) rfl)))) rfl rfl rfl rfl rfl (Nat.le_of_ble_eq_true rfl) dX11_init_129 (fun w436 ew437 H locs hP hD hS => ?_)
  have k438 : wd_at w436 y (.inr (11, [.int 0, .int 0, .ref q1, .ref q22, .ref q50, .ref q72, .ref q96, .int 0, .ref q122, .ref q148, .ref q176, .ref q206, .ref q238, .ref q272, .ref q308, .int 0, .int 0, .ref q344, .ref q380, .ref q416, .null, .null, .null, .null, .null, .int 0, .int 0, .int 0, .int 0, .null, .null, .null, .null, .null, .null, .null, .null, .null, .int 0, .null, .null, .null, .null, .null, .null, .null, .null, .null, .null, .null, .int 0, .null, .null, .null, .null, .int 0, .null, .null, .null, .null])) := wd_at.ps ew437 k420
  have k439 := wd_at.pt ew437 k421 (Ne.symm (wd_nL hq5 hy))
  have k440 := wd_at.pt ew437 k422 (Ne.symm (wd_nL hq26 k18))
  have k441 := wd_at.pt ew437 k423 (Ne.symm (wd_nL hq53 k44))
  have k442 := wd_at.pt ew437 k424 (Ne.symm (wd_nL hq75 k65))
  have k443 := wd_at.pt ew437 k425 (Ne.symm (wd_nL hq125 k113))
  have k444 := wd_at.pt ew437 k426 (Ne.symm (wd_nL hq151 k139))
  have k445 := wd_at.pt ew437 k427 (Ne.symm (wd_nL hq179 k166))
  have k446 := wd_at.pt ew437 k428 (Ne.symm (wd_nL hq209 k195))
  have k447 := wd_at.pt ew437 k429 (Ne.symm (wd_nL hq241 k226))
  have k448 := wd_at.pt ew437 k430 (Ne.symm (wd_nL hq419 k402))
  have fm449 : ∀ z9, z9 < 12 → wd_at w436 (r2 z9) (.inl (cy 2, 12, .inl ((fun _ _ => 0) z9))) := fun z9 hi9 => wd_at.pt ew437 (fm431 z9 hi9) (fn10 z9 hi9)
  have fm450 : ∀ z9, z9 < 12 → wd_at w436 (r23 z9) (.inl (cy 2, 12, .inl ((fun _ _ => 0) z9))) := fun z9 hi9 => wd_at.pt ew437 (fm433 z9 hi9) (fn31 z9 hi9)
  have kp451 := kp435.put ew437 sy
  refine lv_aload_n hx hb dX11_init_132 rfl (lv_at hl 0 rfl) ?_
  refine lv_bipush (v := 60) hx hb dX11_init_133 (by decide) ?_
  refine y_newZ (N := 60) F hP hD hS (List.mem_cons_of_mem _ (List.mem_append_left _ (List.mem_append_left _ (List.mem_of_getElem? (i := 20) rfl)))) (by decide) (by decide) (by decide) (Nat.le_of_ble_eq_true rfl) (Nat.le_of_ble_eq_true rfl) dX11_init_135 (fun q452 w453 ew454 hq455 H hP hD hS => ?_)
  refine W.widen (k := 40) (n := 798) (Nat.le_of_ble_eq_true rfl) (Nat.le_of_ble_eq_true rfl) ?_
  have k456 := wd_at.ad ew454 hq455 k438
  have k457 := wd_at.ad ew454 hq455 k439
  have k458 := wd_at.ad ew454 hq455 k440
  have k459 := wd_at.ad ew454 hq455 k441
  have k460 := wd_at.ad ew454 hq455 k442
  have k461 := wd_at.ad ew454 hq455 k443
  have k462 := wd_at.ad ew454 hq455 k444
  have k463 := wd_at.ad ew454 hq455 k445
  have k464 := wd_at.ad ew454 hq455 k446
  have k465 := wd_at.ad ew454 hq455 k447
  have k466 : wd_at w453 q452 (.inl (cy 4, 60, .inl (fun _ => 0))) := wd_at.nw ew454
  have fm467 : ∀ z9, z9 < 12 → wd_at w453 (r2 z9) (.inl (cy 2, 12, .inl ((fun _ _ => 0) z9))) := fun z9 hi9 => wd_at.ad ew454 hq455 (fm449 z9 hi9)
  have fn468 : ∀ z9, z9 < 12 → (r2 z9) ≠ q452 := fun z9 hi9 => wd_nL hq455 (fm449 z9 hi9)
  have fm469 : ∀ z9, z9 < 12 → wd_at w453 (r23 z9) (.inl (cy 2, 12, .inl ((fun _ _ => 0) z9))) := fun z9 hi9 => wd_at.ad ew454 hq455 (fm450 z9 hi9)
  have fn470 : ∀ z9, z9 < 12 → (r23 z9) ≠ q452 := fun z9 hi9 => wd_nL hq455 (fm450 z9 hi9)
  have kp471 := kp451.add ew454 hq455
  refine y_putF (ref := "NoteHouseModel") F hP hD hS k456 rfl (fun _ h => List.mem_cons_of_mem _ (List.mem_append_right _ (h))) tyX11_ok nmX11 hnm 20 (Nat.le_of_ble_eq_true rfl) (List.mem_cons_of_mem _ (List.mem_append_left _ (List.mem_append_left _ (List.mem_of_getElem? (i := 21) rfl)))) rfl rfl rfl rfl rfl (Nat.le_of_ble_eq_true rfl) dX11_init_137 (fun w472 ew473 H locs hP hD hS => ?_)
  have k474 : wd_at w472 y (.inr (11, [.int 0, .int 0, .ref q1, .ref q22, .ref q50, .ref q72, .ref q96, .int 0, .ref q122, .ref q148, .ref q176, .ref q206, .ref q238, .ref q272, .ref q308, .int 0, .int 0, .ref q344, .ref q380, .ref q416, .ref q452, .null, .null, .null, .null, .int 0, .int 0, .int 0, .int 0, .null, .null, .null, .null, .null, .null, .null, .null, .null, .int 0, .null, .null, .null, .null, .null, .null, .null, .null, .null, .null, .null, .int 0, .null, .null, .null, .null, .int 0, .null, .null, .null, .null])) := wd_at.ps ew473 k456
  have k475 := wd_at.pt ew473 k457 (Ne.symm (wd_nL hq5 hy))
  have k476 := wd_at.pt ew473 k458 (Ne.symm (wd_nL hq26 k18))
  have k477 := wd_at.pt ew473 k459 (Ne.symm (wd_nL hq53 k44))
  have k478 := wd_at.pt ew473 k460 (Ne.symm (wd_nL hq75 k65))
  have k479 := wd_at.pt ew473 k461 (Ne.symm (wd_nL hq125 k113))
  have k480 := wd_at.pt ew473 k462 (Ne.symm (wd_nL hq151 k139))
  have k481 := wd_at.pt ew473 k463 (Ne.symm (wd_nL hq179 k166))
  have k482 := wd_at.pt ew473 k464 (Ne.symm (wd_nL hq209 k195))
  have k483 := wd_at.pt ew473 k465 (Ne.symm (wd_nL hq241 k226))
  have k484 := wd_at.pt ew473 k466 (Ne.symm (wd_nL hq455 k438))
  have fm485 : ∀ z9, z9 < 12 → wd_at w472 (r2 z9) (.inl (cy 2, 12, .inl ((fun _ _ => 0) z9))) := fun z9 hi9 => wd_at.pt ew473 (fm467 z9 hi9) (fn10 z9 hi9)
  have fm486 : ∀ z9, z9 < 12 → wd_at w472 (r23 z9) (.inl (cy 2, 12, .inl ((fun _ _ => 0) z9))) := fun z9 hi9 => wd_at.pt ew473 (fm469 z9 hi9) (fn31 z9 hi9)
  have kp487 := kp471.put ew473 sy
  refine lv_aload_n hx hb dX11_init_140 rfl (lv_at hl 0 rfl) ?_
  refine lv_bipush (v := 60) hx hb dX11_init_141 (by decide) ?_
  refine y_newI (N := 60) F hP hD hS (List.mem_cons_of_mem _ (List.mem_append_left _ (List.mem_append_left _ (List.mem_of_getElem? (i := 4) rfl)))) (by decide) (by decide) (by decide) (Nat.le_of_ble_eq_true rfl) (Nat.le_of_ble_eq_true rfl) dX11_init_143 (fun q488 w489 ew490 hq491 H hP hD hS => ?_)
  refine W.widen (k := 41) (n := 858) (Nat.le_of_ble_eq_true rfl) (Nat.le_of_ble_eq_true rfl) ?_
  have k492 := wd_at.ad ew490 hq491 k474
  have k493 := wd_at.ad ew490 hq491 k475
  have k494 := wd_at.ad ew490 hq491 k476
  have k495 := wd_at.ad ew490 hq491 k477
  have k496 := wd_at.ad ew490 hq491 k478
  have k497 := wd_at.ad ew490 hq491 k479
  have k498 := wd_at.ad ew490 hq491 k480
  have k499 := wd_at.ad ew490 hq491 k481
  have k500 := wd_at.ad ew490 hq491 k482
  have k501 := wd_at.ad ew490 hq491 k483
  have k502 : wd_at w489 q488 (.inl (cy 2, 60, .inl (fun _ => 0))) := wd_at.nw ew490
  have fm503 : ∀ z9, z9 < 12 → wd_at w489 (r2 z9) (.inl (cy 2, 12, .inl ((fun _ _ => 0) z9))) := fun z9 hi9 => wd_at.ad ew490 hq491 (fm485 z9 hi9)
  have fn504 : ∀ z9, z9 < 12 → (r2 z9) ≠ q488 := fun z9 hi9 => wd_nL hq491 (fm485 z9 hi9)
  have fm505 : ∀ z9, z9 < 12 → wd_at w489 (r23 z9) (.inl (cy 2, 12, .inl ((fun _ _ => 0) z9))) := fun z9 hi9 => wd_at.ad ew490 hq491 (fm486 z9 hi9)
  have fn506 : ∀ z9, z9 < 12 → (r23 z9) ≠ q488 := fun z9 hi9 => wd_nL hq491 (fm486 z9 hi9)
  have kp507 := kp487.add ew490 hq491
  refine y_putF (ref := "NoteHouseModel") F hP hD hS k492 rfl (fun _ h => List.mem_cons_of_mem _ (List.mem_append_right _ (h))) tyX11_ok nmX11 hnm 21 (Nat.le_of_ble_eq_true rfl) (List.mem_cons_of_mem _ (List.mem_append_left _ (List.mem_append_left _ (List.mem_of_getElem? (i := 22) rfl)))) rfl rfl rfl rfl rfl (Nat.le_of_ble_eq_true rfl) dX11_init_145 (fun w508 ew509 H locs hP hD hS => ?_)
  have k510 : wd_at w508 y (.inr (11, [.int 0, .int 0, .ref q1, .ref q22, .ref q50, .ref q72, .ref q96, .int 0, .ref q122, .ref q148, .ref q176, .ref q206, .ref q238, .ref q272, .ref q308, .int 0, .int 0, .ref q344, .ref q380, .ref q416, .ref q452, .ref q488, .null, .null, .null, .int 0, .int 0, .int 0, .int 0, .null, .null, .null, .null, .null, .null, .null, .null, .null, .int 0, .null, .null, .null, .null, .null, .null, .null, .null, .null, .null, .null, .int 0, .null, .null, .null, .null, .int 0, .null, .null, .null, .null])) := wd_at.ps ew509 k492
  have k511 := wd_at.pt ew509 k493 (Ne.symm (wd_nL hq5 hy))
  have k512 := wd_at.pt ew509 k494 (Ne.symm (wd_nL hq26 k18))
  have k513 := wd_at.pt ew509 k495 (Ne.symm (wd_nL hq53 k44))
  have k514 := wd_at.pt ew509 k496 (Ne.symm (wd_nL hq75 k65))
  have k515 := wd_at.pt ew509 k497 (Ne.symm (wd_nL hq125 k113))
  have k516 := wd_at.pt ew509 k498 (Ne.symm (wd_nL hq151 k139))
  have k517 := wd_at.pt ew509 k499 (Ne.symm (wd_nL hq179 k166))
  have k518 := wd_at.pt ew509 k500 (Ne.symm (wd_nL hq209 k195))
  have k519 := wd_at.pt ew509 k501 (Ne.symm (wd_nL hq241 k226))
  have k520 := wd_at.pt ew509 k502 (Ne.symm (wd_nL hq491 k474))
  have fm521 : ∀ z9, z9 < 12 → wd_at w508 (r2 z9) (.inl (cy 2, 12, .inl ((fun _ _ => 0) z9))) := fun z9 hi9 => wd_at.pt ew509 (fm503 z9 hi9) (fn10 z9 hi9)
  have fm522 : ∀ z9, z9 < 12 → wd_at w508 (r23 z9) (.inl (cy 2, 12, .inl ((fun _ _ => 0) z9))) := fun z9 hi9 => wd_at.pt ew509 (fm505 z9 hi9) (fn31 z9 hi9)
  have kp523 := kp507.put ew509 sy
  refine lv_aload_n hx hb dX11_init_148 rfl (lv_at hl 0 rfl) ?_
  refine lv_bipush (v := 60) hx hb dX11_init_149 (by decide) ?_
  refine y_newI (N := 60) F hP hD hS (List.mem_cons_of_mem _ (List.mem_append_left _ (List.mem_append_left _ (List.mem_of_getElem? (i := 4) rfl)))) (by decide) (by decide) (by decide) (Nat.le_of_ble_eq_true rfl) (Nat.le_of_ble_eq_true rfl) dX11_init_151 (fun q524 w525 ew526 hq527 H hP hD hS => ?_)
  refine W.widen (k := 42) (n := 918) (Nat.le_of_ble_eq_true rfl) (Nat.le_of_ble_eq_true rfl) ?_
  have k528 := wd_at.ad ew526 hq527 k510
  have k529 := wd_at.ad ew526 hq527 k511
  have k530 := wd_at.ad ew526 hq527 k512
  have k531 := wd_at.ad ew526 hq527 k513
  have k532 := wd_at.ad ew526 hq527 k514
  have k533 := wd_at.ad ew526 hq527 k515
  have k534 := wd_at.ad ew526 hq527 k516
  have k535 := wd_at.ad ew526 hq527 k517
  have k536 := wd_at.ad ew526 hq527 k518
  have k537 := wd_at.ad ew526 hq527 k519
  have k538 : wd_at w525 q524 (.inl (cy 2, 60, .inl (fun _ => 0))) := wd_at.nw ew526
  have fm539 : ∀ z9, z9 < 12 → wd_at w525 (r2 z9) (.inl (cy 2, 12, .inl ((fun _ _ => 0) z9))) := fun z9 hi9 => wd_at.ad ew526 hq527 (fm521 z9 hi9)
  have fn540 : ∀ z9, z9 < 12 → (r2 z9) ≠ q524 := fun z9 hi9 => wd_nL hq527 (fm521 z9 hi9)
  have fm541 : ∀ z9, z9 < 12 → wd_at w525 (r23 z9) (.inl (cy 2, 12, .inl ((fun _ _ => 0) z9))) := fun z9 hi9 => wd_at.ad ew526 hq527 (fm522 z9 hi9)
  have fn542 : ∀ z9, z9 < 12 → (r23 z9) ≠ q524 := fun z9 hi9 => wd_nL hq527 (fm522 z9 hi9)
  have kp543 := kp523.add ew526 hq527
  refine y_putF (ref := "NoteHouseModel") F hP hD hS k528 rfl (fun _ h => List.mem_cons_of_mem _ (List.mem_append_right _ (h))) tyX11_ok nmX11 hnm 22 (Nat.le_of_ble_eq_true rfl) (List.mem_cons_of_mem _ (List.mem_append_left _ (List.mem_append_left _ (List.mem_of_getElem? (i := 23) rfl)))) rfl rfl rfl rfl rfl (Nat.le_of_ble_eq_true rfl) dX11_init_153 (fun w544 ew545 H locs hP hD hS => ?_)
  have k546 : wd_at w544 y (.inr (11, [.int 0, .int 0, .ref q1, .ref q22, .ref q50, .ref q72, .ref q96, .int 0, .ref q122, .ref q148, .ref q176, .ref q206, .ref q238, .ref q272, .ref q308, .int 0, .int 0, .ref q344, .ref q380, .ref q416, .ref q452, .ref q488, .ref q524, .null, .null, .int 0, .int 0, .int 0, .int 0, .null, .null, .null, .null, .null, .null, .null, .null, .null, .int 0, .null, .null, .null, .null, .null, .null, .null, .null, .null, .null, .null, .int 0, .null, .null, .null, .null, .int 0, .null, .null, .null, .null])) := wd_at.ps ew545 k528
  have k547 := wd_at.pt ew545 k529 (Ne.symm (wd_nL hq5 hy))
  have k548 := wd_at.pt ew545 k530 (Ne.symm (wd_nL hq26 k18))
  have k549 := wd_at.pt ew545 k531 (Ne.symm (wd_nL hq53 k44))
  have k550 := wd_at.pt ew545 k532 (Ne.symm (wd_nL hq75 k65))
  have k551 := wd_at.pt ew545 k533 (Ne.symm (wd_nL hq125 k113))
  have k552 := wd_at.pt ew545 k534 (Ne.symm (wd_nL hq151 k139))
  have k553 := wd_at.pt ew545 k535 (Ne.symm (wd_nL hq179 k166))
  have k554 := wd_at.pt ew545 k536 (Ne.symm (wd_nL hq209 k195))
  have k555 := wd_at.pt ew545 k537 (Ne.symm (wd_nL hq241 k226))
  have k556 := wd_at.pt ew545 k538 (Ne.symm (wd_nL hq527 k510))
  have fm557 : ∀ z9, z9 < 12 → wd_at w544 (r2 z9) (.inl (cy 2, 12, .inl ((fun _ _ => 0) z9))) := fun z9 hi9 => wd_at.pt ew545 (fm539 z9 hi9) (fn10 z9 hi9)
  have fm558 : ∀ z9, z9 < 12 → wd_at w544 (r23 z9) (.inl (cy 2, 12, .inl ((fun _ _ => 0) z9))) := fun z9 hi9 => wd_at.pt ew545 (fm541 z9 hi9) (fn31 z9 hi9)
  have kp559 := kp543.put ew545 sy
  refine lv_aload_n hx hb dX11_init_156 rfl (lv_at hl 0 rfl) ?_
  refine lv_bipush (v := 60) hx hb dX11_init_157 (by decide) ?_
  refine lv_bipush (v := 12) hx hb dX11_init_159 (by decide) ?_
  refine y_mna (N := 60) (M := 12) F hAO hP hD hS (List.mem_cons_of_mem _ (List.mem_append_left _ (List.mem_append_left _ (List.mem_of_getElem? (i := 3) rfl)))) (List.mem_cons_of_mem _ (List.mem_append_left _ (List.mem_append_left _ (List.mem_of_getElem? (i := 4) rfl)))) (by decide) (by decide) (by decide) (by decide) (by decide) (by decide) (Nat.le_of_ble_eq_true rfl) (Nat.le_of_ble_eq_true rfl) dX11_init_161 (fun q560 r561 w562 ew563 hq564 hr565 hj566 hz567 H hP hD hS => ?_)
  refine W.widen (k := 103) (n := 1698) (Nat.le_of_ble_eq_true rfl) (Nat.le_of_ble_eq_true rfl) ?_
  have k568 := wd_at.mo ew563 hq564 hr565 k546
  have fn569 : ∀ i, i < 60 → r561 i ≠ y := fun i hi9 e9 => hr565 i hi9 (e9 ▸ k546.1)
  have k570 := wd_at.mo ew563 hq564 hr565 k547
  have fn571 : ∀ i, i < 60 → r561 i ≠ q1 := fun i hi9 e9 => hr565 i hi9 (e9 ▸ k547.1)
  have k572 := wd_at.mo ew563 hq564 hr565 k548
  have fn573 : ∀ i, i < 60 → r561 i ≠ q22 := fun i hi9 e9 => hr565 i hi9 (e9 ▸ k548.1)
  have k574 := wd_at.mo ew563 hq564 hr565 k549
  have fn575 : ∀ i, i < 60 → r561 i ≠ q50 := fun i hi9 e9 => hr565 i hi9 (e9 ▸ k549.1)
  have k576 := wd_at.mo ew563 hq564 hr565 k550
  have fn577 : ∀ i, i < 60 → r561 i ≠ q72 := fun i hi9 e9 => hr565 i hi9 (e9 ▸ k550.1)
  have k578 := wd_at.mo ew563 hq564 hr565 k551
  have fn579 : ∀ i, i < 60 → r561 i ≠ q122 := fun i hi9 e9 => hr565 i hi9 (e9 ▸ k551.1)
  have k580 := wd_at.mo ew563 hq564 hr565 k552
  have fn581 : ∀ i, i < 60 → r561 i ≠ q148 := fun i hi9 e9 => hr565 i hi9 (e9 ▸ k552.1)
  have k582 := wd_at.mo ew563 hq564 hr565 k553
  have fn583 : ∀ i, i < 60 → r561 i ≠ q176 := fun i hi9 e9 => hr565 i hi9 (e9 ▸ k553.1)
  have k584 := wd_at.mo ew563 hq564 hr565 k554
  have fn585 : ∀ i, i < 60 → r561 i ≠ q206 := fun i hi9 e9 => hr565 i hi9 (e9 ▸ k554.1)
  have k586 := wd_at.mo ew563 hq564 hr565 k555
  have fn587 : ∀ i, i < 60 → r561 i ≠ q238 := fun i hi9 e9 => hr565 i hi9 (e9 ▸ k555.1)
  have ff588 : ∀ (a9 i : Nat), a9 < 12 → i < 60 → r561 i ≠ (r2 a9) := fun a9 i hi9 hi8 e9 => hr565 i hi8 (e9 ▸ (fm557 a9 hi9).1)
  have fn589 : ∀ z9, z9 < 12 → (r2 z9) ≠ q560 := fun z9 hi9 => wd_nL hq564 (fm557 z9 hi9)
  have fm590 : ∀ z9, z9 < 12 → wd_at w562 (r2 z9) (.inl (cy 2, 12, .inl ((fun _ _ => 0) z9))) := fun z9 hi9 => wd_at.mo ew563 hq564 hr565 (fm557 z9 hi9)
  have ff591 : ∀ (a9 i : Nat), a9 < 12 → i < 60 → r561 i ≠ (r23 a9) := fun a9 i hi9 hi8 e9 => hr565 i hi8 (e9 ▸ (fm558 a9 hi9).1)
  have fn592 : ∀ z9, z9 < 12 → (r23 z9) ≠ q560 := fun z9 hi9 => wd_nL hq564 (fm558 z9 hi9)
  have fm593 : ∀ z9, z9 < 12 → wd_at w562 (r23 z9) (.inl (cy 2, 12, .inl ((fun _ _ => 0) z9))) := fun z9 hi9 => wd_at.mo ew563 hq564 hr565 (fm558 z9 hi9)
  have k594 : wd_at w562 q560 (.inl (cy 10, 60, .inr (.inr (.inr (.inr (fun i => if i < 60 then some (r561 i) else none)))))) := wd_at.mq ew563
  have fm595 : ∀ z9, z9 < 60 → wd_at w562 (r561 z9) (.inl (cy 2, 12, .inl ((fun _ _ => 0) z9))) := fun z9 hi9 => wd_at.mr ew563 hz567 z9 hi9
  have fn596 : ∀ i, i < 60 → r561 i ≠ q560 := hz567
  have kp597 := kp559.mna ew563 hq564 hr565
  have no598 : ∀ i, i < 60 → r561 i ∉ w.1 := fun i hi9 => kp559.out (hr565 i hi9)
  refine y_putF (ref := "NoteHouseModel") F hP hD hS k568 rfl (fun _ h => List.mem_cons_of_mem _ (List.mem_append_right _ (h))) tyX11_ok nmX11 hnm 23 (Nat.le_of_ble_eq_true rfl) (List.mem_cons_of_mem _ (List.mem_append_left _ (List.mem_append_right _ (List.mem_append_left _ (List.mem_of_getElem? (i := 0) rfl))))) rfl rfl rfl rfl rfl (Nat.le_of_ble_eq_true rfl) dX11_init_165 (fun w599 ew600 H locs hP hD hS => ?_)
  have k601 : wd_at w599 y (.inr (11, [.int 0, .int 0, .ref q1, .ref q22, .ref q50, .ref q72, .ref q96, .int 0, .ref q122, .ref q148, .ref q176, .ref q206, .ref q238, .ref q272, .ref q308, .int 0, .int 0, .ref q344, .ref q380, .ref q416, .ref q452, .ref q488, .ref q524, .ref q560, .null, .int 0, .int 0, .int 0, .int 0, .null, .null, .null, .null, .null, .null, .null, .null, .null, .int 0, .null, .null, .null, .null, .null, .null, .null, .null, .null, .null, .null, .int 0, .null, .null, .null, .null, .int 0, .null, .null, .null, .null])) := wd_at.ps ew600 k568
  have k602 := wd_at.pt ew600 k570 (Ne.symm (wd_nL hq5 hy))
  have k603 := wd_at.pt ew600 k572 (Ne.symm (wd_nL hq26 k18))
  have k604 := wd_at.pt ew600 k574 (Ne.symm (wd_nL hq53 k44))
  have k605 := wd_at.pt ew600 k576 (Ne.symm (wd_nL hq75 k65))
  have k606 := wd_at.pt ew600 k578 (Ne.symm (wd_nL hq125 k113))
  have k607 := wd_at.pt ew600 k580 (Ne.symm (wd_nL hq151 k139))
  have k608 := wd_at.pt ew600 k582 (Ne.symm (wd_nL hq179 k166))
  have k609 := wd_at.pt ew600 k584 (Ne.symm (wd_nL hq209 k195))
  have k610 := wd_at.pt ew600 k586 (Ne.symm (wd_nL hq241 k226))
  have k611 := wd_at.pt ew600 k594 (Ne.symm (wd_nL hq564 k546))
  have fm612 : ∀ z9, z9 < 12 → wd_at w599 (r2 z9) (.inl (cy 2, 12, .inl ((fun _ _ => 0) z9))) := fun z9 hi9 => wd_at.pt ew600 (fm590 z9 hi9) (fn10 z9 hi9)
  have fm613 : ∀ z9, z9 < 12 → wd_at w599 (r23 z9) (.inl (cy 2, 12, .inl ((fun _ _ => 0) z9))) := fun z9 hi9 => wd_at.pt ew600 (fm593 z9 hi9) (fn31 z9 hi9)
  have fm614 : ∀ z9, z9 < 60 → wd_at w599 (r561 z9) (.inl (cy 2, 12, .inl ((fun _ _ => 0) z9))) := fun z9 hi9 => wd_at.pt ew600 (fm595 z9 hi9) (fn569 z9 hi9)
  have kp615 := kp597.put ew600 sy
  refine lv_aload_n hx hb dX11_init_168 rfl (lv_at hl 0 rfl) ?_
  refine lv_sipush (v := 300) hx hb dX11_init_169 (by decide) ?_
  refine y_newB (N := 300) F hP hD hS (List.mem_cons_of_mem _ (List.mem_append_left _ (List.mem_append_right _ (List.mem_append_left _ (List.mem_of_getElem? (i := 1) rfl))))) (by decide) (by decide) (by decide) (Nat.le_of_ble_eq_true rfl) (Nat.le_of_ble_eq_true rfl) dX11_init_172 (fun q616 w617 ew618 hq619 H hP hD hS => ?_)
  refine W.widen (k := 104) (n := 1998) (Nat.le_of_ble_eq_true rfl) (Nat.le_of_ble_eq_true rfl) ?_
  have k620 := wd_at.ad ew618 hq619 k601
  have k621 := wd_at.ad ew618 hq619 k602
  have k622 := wd_at.ad ew618 hq619 k603
  have k623 := wd_at.ad ew618 hq619 k604
  have k624 := wd_at.ad ew618 hq619 k605
  have k625 := wd_at.ad ew618 hq619 k606
  have k626 := wd_at.ad ew618 hq619 k607
  have k627 := wd_at.ad ew618 hq619 k608
  have k628 := wd_at.ad ew618 hq619 k609
  have k629 := wd_at.ad ew618 hq619 k610
  have k630 : wd_at w617 q616 (.inl (cy 0, 300, .inl (fun _ => 0))) := wd_at.nw ew618
  have fm631 : ∀ z9, z9 < 12 → wd_at w617 (r2 z9) (.inl (cy 2, 12, .inl ((fun _ _ => 0) z9))) := fun z9 hi9 => wd_at.ad ew618 hq619 (fm612 z9 hi9)
  have fn632 : ∀ z9, z9 < 12 → (r2 z9) ≠ q616 := fun z9 hi9 => wd_nL hq619 (fm612 z9 hi9)
  have fm633 : ∀ z9, z9 < 12 → wd_at w617 (r23 z9) (.inl (cy 2, 12, .inl ((fun _ _ => 0) z9))) := fun z9 hi9 => wd_at.ad ew618 hq619 (fm613 z9 hi9)
  have fn634 : ∀ z9, z9 < 12 → (r23 z9) ≠ q616 := fun z9 hi9 => wd_nL hq619 (fm613 z9 hi9)
  have kp635 := kp615.add ew618 hq619
  refine y_putF (ref := "NoteHouseModel") F hP hD hS k620 rfl (fun _ h => List.mem_cons_of_mem _ (List.mem_append_right _ (h))) tyX11_ok nmX11 hnm 24 (Nat.le_of_ble_eq_true rfl) (List.mem_cons_of_mem _ (List.mem_append_left _ (List.mem_append_right _ (List.mem_append_left _ (List.mem_of_getElem? (i := 2) rfl))))) rfl rfl rfl rfl rfl (Nat.le_of_ble_eq_true rfl) dX11_init_174 (fun w636 ew637 H locs hP hD hS => ?_)
  have k638 : wd_at w636 y (.inr (11, [.int 0, .int 0, .ref q1, .ref q22, .ref q50, .ref q72, .ref q96, .int 0, .ref q122, .ref q148, .ref q176, .ref q206, .ref q238, .ref q272, .ref q308, .int 0, .int 0, .ref q344, .ref q380, .ref q416, .ref q452, .ref q488, .ref q524, .ref q560, .ref q616, .int 0, .int 0, .int 0, .int 0, .null, .null, .null, .null, .null, .null, .null, .null, .null, .int 0, .null, .null, .null, .null, .null, .null, .null, .null, .null, .null, .null, .int 0, .null, .null, .null, .null, .int 0, .null, .null, .null, .null])) := wd_at.ps ew637 k620
  have k639 := wd_at.pt ew637 k621 (Ne.symm (wd_nL hq5 hy))
  have k640 := wd_at.pt ew637 k622 (Ne.symm (wd_nL hq26 k18))
  have k641 := wd_at.pt ew637 k623 (Ne.symm (wd_nL hq53 k44))
  have k642 := wd_at.pt ew637 k624 (Ne.symm (wd_nL hq75 k65))
  have k643 := wd_at.pt ew637 k625 (Ne.symm (wd_nL hq125 k113))
  have k644 := wd_at.pt ew637 k626 (Ne.symm (wd_nL hq151 k139))
  have k645 := wd_at.pt ew637 k627 (Ne.symm (wd_nL hq179 k166))
  have k646 := wd_at.pt ew637 k628 (Ne.symm (wd_nL hq209 k195))
  have k647 := wd_at.pt ew637 k629 (Ne.symm (wd_nL hq241 k226))
  have k648 := wd_at.pt ew637 k630 (Ne.symm (wd_nL hq619 k601))
  have fm649 : ∀ z9, z9 < 12 → wd_at w636 (r2 z9) (.inl (cy 2, 12, .inl ((fun _ _ => 0) z9))) := fun z9 hi9 => wd_at.pt ew637 (fm631 z9 hi9) (fn10 z9 hi9)
  have fm650 : ∀ z9, z9 < 12 → wd_at w636 (r23 z9) (.inl (cy 2, 12, .inl ((fun _ _ => 0) z9))) := fun z9 hi9 => wd_at.pt ew637 (fm633 z9 hi9) (fn31 z9 hi9)
  have kp651 := kp635.put ew637 sy
  refine lv_aload_n hx hb dX11_init_177 rfl (lv_at hl 0 rfl) ?_
  refine lv_bipush (v := 12) hx hb dX11_init_178 (by decide) ?_
  refine y_newI (N := 12) F hP hD hS (List.mem_cons_of_mem _ (List.mem_append_left _ (List.mem_append_left _ (List.mem_of_getElem? (i := 4) rfl)))) (by decide) (by decide) (by decide) (Nat.le_of_ble_eq_true rfl) (Nat.le_of_ble_eq_true rfl) dX11_init_180 (fun q652 w653 ew654 hq655 H hP hD hS => ?_)
  refine W.widen (k := 105) (n := 2010) (Nat.le_of_ble_eq_true rfl) (Nat.le_of_ble_eq_true rfl) ?_
  have k656 := wd_at.ad ew654 hq655 k638
  have k657 := wd_at.ad ew654 hq655 k639
  have k658 := wd_at.ad ew654 hq655 k640
  have k659 := wd_at.ad ew654 hq655 k641
  have k660 := wd_at.ad ew654 hq655 k642
  have k661 := wd_at.ad ew654 hq655 k643
  have k662 := wd_at.ad ew654 hq655 k644
  have k663 := wd_at.ad ew654 hq655 k645
  have k664 := wd_at.ad ew654 hq655 k646
  have k665 := wd_at.ad ew654 hq655 k647
  have k666 := wd_at.ad ew654 hq655 k648
  have k667 : wd_at w653 q652 (.inl (cy 2, 12, .inl (fun _ => 0))) := wd_at.nw ew654
  have fm668 : ∀ z9, z9 < 12 → wd_at w653 (r2 z9) (.inl (cy 2, 12, .inl ((fun _ _ => 0) z9))) := fun z9 hi9 => wd_at.ad ew654 hq655 (fm649 z9 hi9)
  have fn669 : ∀ z9, z9 < 12 → (r2 z9) ≠ q652 := fun z9 hi9 => wd_nL hq655 (fm649 z9 hi9)
  have fm670 : ∀ z9, z9 < 12 → wd_at w653 (r23 z9) (.inl (cy 2, 12, .inl ((fun _ _ => 0) z9))) := fun z9 hi9 => wd_at.ad ew654 hq655 (fm650 z9 hi9)
  have fn671 : ∀ z9, z9 < 12 → (r23 z9) ≠ q652 := fun z9 hi9 => wd_nL hq655 (fm650 z9 hi9)
  have kp672 := kp651.add ew654 hq655
  refine y_putF (ref := "NoteHouseModel") F hP hD hS k656 rfl (fun _ h => List.mem_cons_of_mem _ (List.mem_append_right _ (h))) tyX11_ok nmX11 hnm 29 (Nat.le_of_ble_eq_true rfl) (List.mem_cons_of_mem _ (List.mem_append_left _ (List.mem_append_right _ (List.mem_append_left _ (List.mem_of_getElem? (i := 3) rfl))))) rfl rfl rfl rfl rfl (Nat.le_of_ble_eq_true rfl) dX11_init_182 (fun w673 ew674 H locs hP hD hS => ?_)
  have k675 : wd_at w673 y (.inr (11, [.int 0, .int 0, .ref q1, .ref q22, .ref q50, .ref q72, .ref q96, .int 0, .ref q122, .ref q148, .ref q176, .ref q206, .ref q238, .ref q272, .ref q308, .int 0, .int 0, .ref q344, .ref q380, .ref q416, .ref q452, .ref q488, .ref q524, .ref q560, .ref q616, .int 0, .int 0, .int 0, .int 0, .ref q652, .null, .null, .null, .null, .null, .null, .null, .null, .int 0, .null, .null, .null, .null, .null, .null, .null, .null, .null, .null, .null, .int 0, .null, .null, .null, .null, .int 0, .null, .null, .null, .null])) := wd_at.ps ew674 k656
  have k676 := wd_at.pt ew674 k657 (Ne.symm (wd_nL hq5 hy))
  have k677 := wd_at.pt ew674 k658 (Ne.symm (wd_nL hq26 k18))
  have k678 := wd_at.pt ew674 k659 (Ne.symm (wd_nL hq53 k44))
  have k679 := wd_at.pt ew674 k660 (Ne.symm (wd_nL hq75 k65))
  have k680 := wd_at.pt ew674 k661 (Ne.symm (wd_nL hq125 k113))
  have k681 := wd_at.pt ew674 k662 (Ne.symm (wd_nL hq151 k139))
  have k682 := wd_at.pt ew674 k663 (Ne.symm (wd_nL hq179 k166))
  have k683 := wd_at.pt ew674 k664 (Ne.symm (wd_nL hq209 k195))
  have k684 := wd_at.pt ew674 k665 (Ne.symm (wd_nL hq241 k226))
  have k685 := wd_at.pt ew674 k666 (Ne.symm (wd_nL hq619 k601))
  have k686 := wd_at.pt ew674 k667 (Ne.symm (wd_nL hq655 k638))
  have fm687 : ∀ z9, z9 < 12 → wd_at w673 (r2 z9) (.inl (cy 2, 12, .inl ((fun _ _ => 0) z9))) := fun z9 hi9 => wd_at.pt ew674 (fm668 z9 hi9) (fn10 z9 hi9)
  have fm688 : ∀ z9, z9 < 12 → wd_at w673 (r23 z9) (.inl (cy 2, 12, .inl ((fun _ _ => 0) z9))) := fun z9 hi9 => wd_at.pt ew674 (fm670 z9 hi9) (fn31 z9 hi9)
  have kp689 := kp672.put ew674 sy
  refine lv_aload_n hx hb dX11_init_185 rfl (lv_at hl 0 rfl) ?_
  refine lv_sipush (v := 156) hx hb dX11_init_186 (by decide) ?_
  refine y_newI (N := 156) F hP hD hS (List.mem_cons_of_mem _ (List.mem_append_left _ (List.mem_append_left _ (List.mem_of_getElem? (i := 4) rfl)))) (by decide) (by decide) (by decide) (Nat.le_of_ble_eq_true rfl) (Nat.le_of_ble_eq_true rfl) dX11_init_189 (fun q690 w691 ew692 hq693 H hP hD hS => ?_)
  refine W.widen (k := 106) (n := 2166) (Nat.le_of_ble_eq_true rfl) (Nat.le_of_ble_eq_true rfl) ?_
  have k694 := wd_at.ad ew692 hq693 k675
  have k695 := wd_at.ad ew692 hq693 k676
  have k696 := wd_at.ad ew692 hq693 k677
  have k697 := wd_at.ad ew692 hq693 k678
  have k698 := wd_at.ad ew692 hq693 k679
  have k699 := wd_at.ad ew692 hq693 k680
  have k700 := wd_at.ad ew692 hq693 k681
  have k701 := wd_at.ad ew692 hq693 k682
  have k702 := wd_at.ad ew692 hq693 k683
  have k703 := wd_at.ad ew692 hq693 k684
  have k704 := wd_at.ad ew692 hq693 k685
  have k705 := wd_at.ad ew692 hq693 k686
  have k706 : wd_at w691 q690 (.inl (cy 2, 156, .inl (fun _ => 0))) := wd_at.nw ew692
  have fm707 : ∀ z9, z9 < 12 → wd_at w691 (r2 z9) (.inl (cy 2, 12, .inl ((fun _ _ => 0) z9))) := fun z9 hi9 => wd_at.ad ew692 hq693 (fm687 z9 hi9)
  have fn708 : ∀ z9, z9 < 12 → (r2 z9) ≠ q690 := fun z9 hi9 => wd_nL hq693 (fm687 z9 hi9)
  have fm709 : ∀ z9, z9 < 12 → wd_at w691 (r23 z9) (.inl (cy 2, 12, .inl ((fun _ _ => 0) z9))) := fun z9 hi9 => wd_at.ad ew692 hq693 (fm688 z9 hi9)
  have fn710 : ∀ z9, z9 < 12 → (r23 z9) ≠ q690 := fun z9 hi9 => wd_nL hq693 (fm688 z9 hi9)
  have kp711 := kp689.add ew692 hq693
  refine y_putF (ref := "NoteHouseModel") F hP hD hS k694 rfl (fun _ h => List.mem_cons_of_mem _ (List.mem_append_right _ (h))) tyX11_ok nmX11 hnm 30 (Nat.le_of_ble_eq_true rfl) (List.mem_cons_of_mem _ (List.mem_append_left _ (List.mem_append_right _ (List.mem_append_left _ (List.mem_of_getElem? (i := 4) rfl))))) rfl rfl rfl rfl rfl (Nat.le_of_ble_eq_true rfl) dX11_init_191 (fun w712 ew713 H locs hP hD hS => ?_)
  have k714 : wd_at w712 y (.inr (11, [.int 0, .int 0, .ref q1, .ref q22, .ref q50, .ref q72, .ref q96, .int 0, .ref q122, .ref q148, .ref q176, .ref q206, .ref q238, .ref q272, .ref q308, .int 0, .int 0, .ref q344, .ref q380, .ref q416, .ref q452, .ref q488, .ref q524, .ref q560, .ref q616, .int 0, .int 0, .int 0, .int 0, .ref q652, .ref q690, .null, .null, .null, .null, .null, .null, .null, .int 0, .null, .null, .null, .null, .null, .null, .null, .null, .null, .null, .null, .int 0, .null, .null, .null, .null, .int 0, .null, .null, .null, .null])) := wd_at.ps ew713 k694
  have k715 := wd_at.pt ew713 k695 (Ne.symm (wd_nL hq5 hy))
  have k716 := wd_at.pt ew713 k696 (Ne.symm (wd_nL hq26 k18))
  have k717 := wd_at.pt ew713 k697 (Ne.symm (wd_nL hq53 k44))
  have k718 := wd_at.pt ew713 k698 (Ne.symm (wd_nL hq75 k65))
  have k719 := wd_at.pt ew713 k699 (Ne.symm (wd_nL hq125 k113))
  have k720 := wd_at.pt ew713 k700 (Ne.symm (wd_nL hq151 k139))
  have k721 := wd_at.pt ew713 k701 (Ne.symm (wd_nL hq179 k166))
  have k722 := wd_at.pt ew713 k702 (Ne.symm (wd_nL hq209 k195))
  have k723 := wd_at.pt ew713 k703 (Ne.symm (wd_nL hq241 k226))
  have k724 := wd_at.pt ew713 k704 (Ne.symm (wd_nL hq619 k601))
  have k725 := wd_at.pt ew713 k705 (Ne.symm (wd_nL hq655 k638))
  have k726 := wd_at.pt ew713 k706 (Ne.symm (wd_nL hq693 k675))
  have fm727 : ∀ z9, z9 < 12 → wd_at w712 (r2 z9) (.inl (cy 2, 12, .inl ((fun _ _ => 0) z9))) := fun z9 hi9 => wd_at.pt ew713 (fm707 z9 hi9) (fn10 z9 hi9)
  have fm728 : ∀ z9, z9 < 12 → wd_at w712 (r23 z9) (.inl (cy 2, 12, .inl ((fun _ _ => 0) z9))) := fun z9 hi9 => wd_at.pt ew713 (fm709 z9 hi9) (fn31 z9 hi9)
  have kp729 := kp711.put ew713 sy
  refine lv_aload_n hx hb dX11_init_194 rfl (lv_at hl 0 rfl) ?_
  refine lv_sipush (v := 156) hx hb dX11_init_195 (by decide) ?_
  refine y_newI (N := 156) F hP hD hS (List.mem_cons_of_mem _ (List.mem_append_left _ (List.mem_append_left _ (List.mem_of_getElem? (i := 4) rfl)))) (by decide) (by decide) (by decide) (Nat.le_of_ble_eq_true rfl) (Nat.le_of_ble_eq_true rfl) dX11_init_198 (fun q730 w731 ew732 hq733 H hP hD hS => ?_)
  refine W.widen (k := 107) (n := 2322) (Nat.le_of_ble_eq_true rfl) (Nat.le_of_ble_eq_true rfl) ?_
  have k734 := wd_at.ad ew732 hq733 k714
  have k735 := wd_at.ad ew732 hq733 k715
  have k736 := wd_at.ad ew732 hq733 k716
  have k737 := wd_at.ad ew732 hq733 k717
  have k738 := wd_at.ad ew732 hq733 k718
  have k739 := wd_at.ad ew732 hq733 k719
  have k740 := wd_at.ad ew732 hq733 k720
  have k741 := wd_at.ad ew732 hq733 k721
  have k742 := wd_at.ad ew732 hq733 k722
  have k743 := wd_at.ad ew732 hq733 k723
  have k744 := wd_at.ad ew732 hq733 k724
  have k745 := wd_at.ad ew732 hq733 k725
  have k746 : wd_at w731 q730 (.inl (cy 2, 156, .inl (fun _ => 0))) := wd_at.nw ew732
  have fm747 : ∀ z9, z9 < 12 → wd_at w731 (r2 z9) (.inl (cy 2, 12, .inl ((fun _ _ => 0) z9))) := fun z9 hi9 => wd_at.ad ew732 hq733 (fm727 z9 hi9)
  have fn748 : ∀ z9, z9 < 12 → (r2 z9) ≠ q730 := fun z9 hi9 => wd_nL hq733 (fm727 z9 hi9)
  have fm749 : ∀ z9, z9 < 12 → wd_at w731 (r23 z9) (.inl (cy 2, 12, .inl ((fun _ _ => 0) z9))) := fun z9 hi9 => wd_at.ad ew732 hq733 (fm728 z9 hi9)
  have fn750 : ∀ z9, z9 < 12 → (r23 z9) ≠ q730 := fun z9 hi9 => wd_nL hq733 (fm728 z9 hi9)
  have kp751 := kp729.add ew732 hq733
  refine y_putF (ref := "NoteHouseModel") F hP hD hS k734 rfl (fun _ h => List.mem_cons_of_mem _ (List.mem_append_right _ (h))) tyX11_ok nmX11 hnm 31 (Nat.le_of_ble_eq_true rfl) (List.mem_cons_of_mem _ (List.mem_append_left _ (List.mem_append_right _ (List.mem_append_left _ (List.mem_of_getElem? (i := 5) rfl))))) rfl rfl rfl rfl rfl (Nat.le_of_ble_eq_true rfl) dX11_init_200 (fun w752 ew753 H locs hP hD hS => ?_)
  have k754 : wd_at w752 y (.inr (11, [.int 0, .int 0, .ref q1, .ref q22, .ref q50, .ref q72, .ref q96, .int 0, .ref q122, .ref q148, .ref q176, .ref q206, .ref q238, .ref q272, .ref q308, .int 0, .int 0, .ref q344, .ref q380, .ref q416, .ref q452, .ref q488, .ref q524, .ref q560, .ref q616, .int 0, .int 0, .int 0, .int 0, .ref q652, .ref q690, .ref q730, .null, .null, .null, .null, .null, .null, .int 0, .null, .null, .null, .null, .null, .null, .null, .null, .null, .null, .null, .int 0, .null, .null, .null, .null, .int 0, .null, .null, .null, .null])) := wd_at.ps ew753 k734
  have k755 := wd_at.pt ew753 k735 (Ne.symm (wd_nL hq5 hy))
  have k756 := wd_at.pt ew753 k736 (Ne.symm (wd_nL hq26 k18))
  have k757 := wd_at.pt ew753 k737 (Ne.symm (wd_nL hq53 k44))
  have k758 := wd_at.pt ew753 k738 (Ne.symm (wd_nL hq75 k65))
  have k759 := wd_at.pt ew753 k739 (Ne.symm (wd_nL hq125 k113))
  have k760 := wd_at.pt ew753 k740 (Ne.symm (wd_nL hq151 k139))
  have k761 := wd_at.pt ew753 k741 (Ne.symm (wd_nL hq179 k166))
  have k762 := wd_at.pt ew753 k742 (Ne.symm (wd_nL hq209 k195))
  have k763 := wd_at.pt ew753 k743 (Ne.symm (wd_nL hq241 k226))
  have k764 := wd_at.pt ew753 k744 (Ne.symm (wd_nL hq619 k601))
  have k765 := wd_at.pt ew753 k745 (Ne.symm (wd_nL hq655 k638))
  have k766 := wd_at.pt ew753 k746 (Ne.symm (wd_nL hq733 k714))
  have fm767 : ∀ z9, z9 < 12 → wd_at w752 (r2 z9) (.inl (cy 2, 12, .inl ((fun _ _ => 0) z9))) := fun z9 hi9 => wd_at.pt ew753 (fm747 z9 hi9) (fn10 z9 hi9)
  have fm768 : ∀ z9, z9 < 12 → wd_at w752 (r23 z9) (.inl (cy 2, 12, .inl ((fun _ _ => 0) z9))) := fun z9 hi9 => wd_at.pt ew753 (fm749 z9 hi9) (fn31 z9 hi9)
  have kp769 := kp751.put ew753 sy
  refine lv_aload_n hx hb dX11_init_203 rfl (lv_at hl 0 rfl) ?_
  refine lv_sipush (v := 936) hx hb dX11_init_204 (by decide) ?_
  refine y_newI (N := 936) F hP hD hS (List.mem_cons_of_mem _ (List.mem_append_left _ (List.mem_append_left _ (List.mem_of_getElem? (i := 4) rfl)))) (by decide) (by decide) (by decide) (Nat.le_of_ble_eq_true rfl) (Nat.le_of_ble_eq_true rfl) dX11_init_207 (fun q770 w771 ew772 hq773 H hP hD hS => ?_)
  refine W.widen (k := 108) (n := 3258) (Nat.le_of_ble_eq_true rfl) (Nat.le_of_ble_eq_true rfl) ?_
  have k774 := wd_at.ad ew772 hq773 k754
  have k775 := wd_at.ad ew772 hq773 k755
  have k776 := wd_at.ad ew772 hq773 k756
  have k777 := wd_at.ad ew772 hq773 k757
  have k778 := wd_at.ad ew772 hq773 k758
  have k779 := wd_at.ad ew772 hq773 k759
  have k780 := wd_at.ad ew772 hq773 k760
  have k781 := wd_at.ad ew772 hq773 k761
  have k782 := wd_at.ad ew772 hq773 k762
  have k783 := wd_at.ad ew772 hq773 k763
  have k784 := wd_at.ad ew772 hq773 k764
  have k785 := wd_at.ad ew772 hq773 k765
  have k786 : wd_at w771 q770 (.inl (cy 2, 936, .inl (fun _ => 0))) := wd_at.nw ew772
  have fm787 : ∀ z9, z9 < 12 → wd_at w771 (r2 z9) (.inl (cy 2, 12, .inl ((fun _ _ => 0) z9))) := fun z9 hi9 => wd_at.ad ew772 hq773 (fm767 z9 hi9)
  have fn788 : ∀ z9, z9 < 12 → (r2 z9) ≠ q770 := fun z9 hi9 => wd_nL hq773 (fm767 z9 hi9)
  have fm789 : ∀ z9, z9 < 12 → wd_at w771 (r23 z9) (.inl (cy 2, 12, .inl ((fun _ _ => 0) z9))) := fun z9 hi9 => wd_at.ad ew772 hq773 (fm768 z9 hi9)
  have fn790 : ∀ z9, z9 < 12 → (r23 z9) ≠ q770 := fun z9 hi9 => wd_nL hq773 (fm768 z9 hi9)
  have kp791 := kp769.add ew772 hq773
  refine y_putF (ref := "NoteHouseModel") F hP hD hS k774 rfl (fun _ h => List.mem_cons_of_mem _ (List.mem_append_right _ (h))) tyX11_ok nmX11 hnm 32 (Nat.le_of_ble_eq_true rfl) (List.mem_cons_of_mem _ (List.mem_append_left _ (List.mem_append_right _ (List.mem_append_left _ (List.mem_of_getElem? (i := 6) rfl))))) rfl rfl rfl rfl rfl (Nat.le_of_ble_eq_true rfl) dX11_init_209 (fun w792 ew793 H locs hP hD hS => ?_)
  have k794 : wd_at w792 y (.inr (11, [.int 0, .int 0, .ref q1, .ref q22, .ref q50, .ref q72, .ref q96, .int 0, .ref q122, .ref q148, .ref q176, .ref q206, .ref q238, .ref q272, .ref q308, .int 0, .int 0, .ref q344, .ref q380, .ref q416, .ref q452, .ref q488, .ref q524, .ref q560, .ref q616, .int 0, .int 0, .int 0, .int 0, .ref q652, .ref q690, .ref q730, .ref q770, .null, .null, .null, .null, .null, .int 0, .null, .null, .null, .null, .null, .null, .null, .null, .null, .null, .null, .int 0, .null, .null, .null, .null, .int 0, .null, .null, .null, .null])) := wd_at.ps ew793 k774
  have k795 := wd_at.pt ew793 k775 (Ne.symm (wd_nL hq5 hy))
  have k796 := wd_at.pt ew793 k776 (Ne.symm (wd_nL hq26 k18))
  have k797 := wd_at.pt ew793 k777 (Ne.symm (wd_nL hq53 k44))
  have k798 := wd_at.pt ew793 k778 (Ne.symm (wd_nL hq75 k65))
  have k799 := wd_at.pt ew793 k779 (Ne.symm (wd_nL hq125 k113))
  have k800 := wd_at.pt ew793 k780 (Ne.symm (wd_nL hq151 k139))
  have k801 := wd_at.pt ew793 k781 (Ne.symm (wd_nL hq179 k166))
  have k802 := wd_at.pt ew793 k782 (Ne.symm (wd_nL hq209 k195))
  have k803 := wd_at.pt ew793 k783 (Ne.symm (wd_nL hq241 k226))
  have k804 := wd_at.pt ew793 k784 (Ne.symm (wd_nL hq619 k601))
  have k805 := wd_at.pt ew793 k785 (Ne.symm (wd_nL hq655 k638))
  have k806 := wd_at.pt ew793 k786 (Ne.symm (wd_nL hq773 k754))
  have fm807 : ∀ z9, z9 < 12 → wd_at w792 (r2 z9) (.inl (cy 2, 12, .inl ((fun _ _ => 0) z9))) := fun z9 hi9 => wd_at.pt ew793 (fm787 z9 hi9) (fn10 z9 hi9)
  have fm808 : ∀ z9, z9 < 12 → wd_at w792 (r23 z9) (.inl (cy 2, 12, .inl ((fun _ _ => 0) z9))) := fun z9 hi9 => wd_at.pt ew793 (fm789 z9 hi9) (fn31 z9 hi9)
  have kp809 := kp791.put ew793 sy
  refine lv_aload_n hx hb dX11_init_212 rfl (lv_at hl 0 rfl) ?_
  refine lv_sipush (v := 936) hx hb dX11_init_213 (by decide) ?_
  refine y_newI (N := 936) F hP hD hS (List.mem_cons_of_mem _ (List.mem_append_left _ (List.mem_append_left _ (List.mem_of_getElem? (i := 4) rfl)))) (by decide) (by decide) (by decide) (Nat.le_of_ble_eq_true rfl) (Nat.le_of_ble_eq_true rfl) dX11_init_216 (fun q810 w811 ew812 hq813 H hP hD hS => ?_)
  refine W.widen (k := 109) (n := 4194) (Nat.le_of_ble_eq_true rfl) (Nat.le_of_ble_eq_true rfl) ?_
  have k814 := wd_at.ad ew812 hq813 k794
  have k815 := wd_at.ad ew812 hq813 k795
  have k816 := wd_at.ad ew812 hq813 k796
  have k817 := wd_at.ad ew812 hq813 k797
  have k818 := wd_at.ad ew812 hq813 k798
  have k819 := wd_at.ad ew812 hq813 k799
  have k820 := wd_at.ad ew812 hq813 k800
  have k821 := wd_at.ad ew812 hq813 k801
  have k822 := wd_at.ad ew812 hq813 k802
  have k823 := wd_at.ad ew812 hq813 k803
  have k824 := wd_at.ad ew812 hq813 k804
  have k825 := wd_at.ad ew812 hq813 k805
  have k826 : wd_at w811 q810 (.inl (cy 2, 936, .inl (fun _ => 0))) := wd_at.nw ew812
  have fm827 : ∀ z9, z9 < 12 → wd_at w811 (r2 z9) (.inl (cy 2, 12, .inl ((fun _ _ => 0) z9))) := fun z9 hi9 => wd_at.ad ew812 hq813 (fm807 z9 hi9)
  have fn828 : ∀ z9, z9 < 12 → (r2 z9) ≠ q810 := fun z9 hi9 => wd_nL hq813 (fm807 z9 hi9)
  have fm829 : ∀ z9, z9 < 12 → wd_at w811 (r23 z9) (.inl (cy 2, 12, .inl ((fun _ _ => 0) z9))) := fun z9 hi9 => wd_at.ad ew812 hq813 (fm808 z9 hi9)
  have fn830 : ∀ z9, z9 < 12 → (r23 z9) ≠ q810 := fun z9 hi9 => wd_nL hq813 (fm808 z9 hi9)
  have kp831 := kp809.add ew812 hq813
  refine y_putF (ref := "NoteHouseModel") F hP hD hS k814 rfl (fun _ h => List.mem_cons_of_mem _ (List.mem_append_right _ (h))) tyX11_ok nmX11 hnm 33 (Nat.le_of_ble_eq_true rfl) (List.mem_cons_of_mem _ (List.mem_append_left _ (List.mem_append_right _ (List.mem_append_left _ (List.mem_of_getElem? (i := 7) rfl))))) rfl rfl rfl rfl rfl (Nat.le_of_ble_eq_true rfl) dX11_init_218 (fun w832 ew833 H locs hP hD hS => ?_)
  have k834 : wd_at w832 y (.inr (11, [.int 0, .int 0, .ref q1, .ref q22, .ref q50, .ref q72, .ref q96, .int 0, .ref q122, .ref q148, .ref q176, .ref q206, .ref q238, .ref q272, .ref q308, .int 0, .int 0, .ref q344, .ref q380, .ref q416, .ref q452, .ref q488, .ref q524, .ref q560, .ref q616, .int 0, .int 0, .int 0, .int 0, .ref q652, .ref q690, .ref q730, .ref q770, .ref q810, .null, .null, .null, .null, .int 0, .null, .null, .null, .null, .null, .null, .null, .null, .null, .null, .null, .int 0, .null, .null, .null, .null, .int 0, .null, .null, .null, .null])) := wd_at.ps ew833 k814
  have k835 := wd_at.pt ew833 k815 (Ne.symm (wd_nL hq5 hy))
  have k836 := wd_at.pt ew833 k816 (Ne.symm (wd_nL hq26 k18))
  have k837 := wd_at.pt ew833 k817 (Ne.symm (wd_nL hq53 k44))
  have k838 := wd_at.pt ew833 k818 (Ne.symm (wd_nL hq75 k65))
  have k839 := wd_at.pt ew833 k819 (Ne.symm (wd_nL hq125 k113))
  have k840 := wd_at.pt ew833 k820 (Ne.symm (wd_nL hq151 k139))
  have k841 := wd_at.pt ew833 k821 (Ne.symm (wd_nL hq179 k166))
  have k842 := wd_at.pt ew833 k822 (Ne.symm (wd_nL hq209 k195))
  have k843 := wd_at.pt ew833 k823 (Ne.symm (wd_nL hq241 k226))
  have k844 := wd_at.pt ew833 k824 (Ne.symm (wd_nL hq619 k601))
  have k845 := wd_at.pt ew833 k825 (Ne.symm (wd_nL hq655 k638))
  have k846 := wd_at.pt ew833 k826 (Ne.symm (wd_nL hq813 k794))
  have fm847 : ∀ z9, z9 < 12 → wd_at w832 (r2 z9) (.inl (cy 2, 12, .inl ((fun _ _ => 0) z9))) := fun z9 hi9 => wd_at.pt ew833 (fm827 z9 hi9) (fn10 z9 hi9)
  have fm848 : ∀ z9, z9 < 12 → wd_at w832 (r23 z9) (.inl (cy 2, 12, .inl ((fun _ _ => 0) z9))) := fun z9 hi9 => wd_at.pt ew833 (fm829 z9 hi9) (fn31 z9 hi9)
  have kp849 := kp831.put ew833 sy
  refine lv_aload_n hx hb dX11_init_221 rfl (lv_at hl 0 rfl) ?_
  refine lv_sipush (v := 936) hx hb dX11_init_222 (by decide) ?_
  refine y_newI (N := 936) F hP hD hS (List.mem_cons_of_mem _ (List.mem_append_left _ (List.mem_append_left _ (List.mem_of_getElem? (i := 4) rfl)))) (by decide) (by decide) (by decide) (Nat.le_of_ble_eq_true rfl) (Nat.le_of_ble_eq_true rfl) dX11_init_225 (fun q850 w851 ew852 hq853 H hP hD hS => ?_)
  refine W.widen (k := 110) (n := 5130) (Nat.le_of_ble_eq_true rfl) (Nat.le_of_ble_eq_true rfl) ?_
  have k854 := wd_at.ad ew852 hq853 k834
  have k855 := wd_at.ad ew852 hq853 k835
  have k856 := wd_at.ad ew852 hq853 k836
  have k857 := wd_at.ad ew852 hq853 k837
  have k858 := wd_at.ad ew852 hq853 k838
  have k859 := wd_at.ad ew852 hq853 k839
  have k860 := wd_at.ad ew852 hq853 k840
  have k861 := wd_at.ad ew852 hq853 k841
  have k862 := wd_at.ad ew852 hq853 k842
  have k863 := wd_at.ad ew852 hq853 k843
  have k864 := wd_at.ad ew852 hq853 k844
  have k865 := wd_at.ad ew852 hq853 k845
  have k866 : wd_at w851 q850 (.inl (cy 2, 936, .inl (fun _ => 0))) := wd_at.nw ew852
  have fm867 : ∀ z9, z9 < 12 → wd_at w851 (r2 z9) (.inl (cy 2, 12, .inl ((fun _ _ => 0) z9))) := fun z9 hi9 => wd_at.ad ew852 hq853 (fm847 z9 hi9)
  have fn868 : ∀ z9, z9 < 12 → (r2 z9) ≠ q850 := fun z9 hi9 => wd_nL hq853 (fm847 z9 hi9)
  have fm869 : ∀ z9, z9 < 12 → wd_at w851 (r23 z9) (.inl (cy 2, 12, .inl ((fun _ _ => 0) z9))) := fun z9 hi9 => wd_at.ad ew852 hq853 (fm848 z9 hi9)
  have fn870 : ∀ z9, z9 < 12 → (r23 z9) ≠ q850 := fun z9 hi9 => wd_nL hq853 (fm848 z9 hi9)
  have kp871 := kp849.add ew852 hq853
  refine y_putF (ref := "NoteHouseModel") F hP hD hS k854 rfl (fun _ h => List.mem_cons_of_mem _ (List.mem_append_right _ (h))) tyX11_ok nmX11 hnm 34 (Nat.le_of_ble_eq_true rfl) (List.mem_cons_of_mem _ (List.mem_append_left _ (List.mem_append_right _ (List.mem_append_left _ (List.mem_of_getElem? (i := 8) rfl))))) rfl rfl rfl rfl rfl (Nat.le_of_ble_eq_true rfl) dX11_init_227 (fun w872 ew873 H locs hP hD hS => ?_)
  have k874 : wd_at w872 y (.inr (11, [.int 0, .int 0, .ref q1, .ref q22, .ref q50, .ref q72, .ref q96, .int 0, .ref q122, .ref q148, .ref q176, .ref q206, .ref q238, .ref q272, .ref q308, .int 0, .int 0, .ref q344, .ref q380, .ref q416, .ref q452, .ref q488, .ref q524, .ref q560, .ref q616, .int 0, .int 0, .int 0, .int 0, .ref q652, .ref q690, .ref q730, .ref q770, .ref q810, .ref q850, .null, .null, .null, .int 0, .null, .null, .null, .null, .null, .null, .null, .null, .null, .null, .null, .int 0, .null, .null, .null, .null, .int 0, .null, .null, .null, .null])) := wd_at.ps ew873 k854
  have k875 := wd_at.pt ew873 k855 (Ne.symm (wd_nL hq5 hy))
  have k876 := wd_at.pt ew873 k856 (Ne.symm (wd_nL hq26 k18))
  have k877 := wd_at.pt ew873 k857 (Ne.symm (wd_nL hq53 k44))
  have k878 := wd_at.pt ew873 k858 (Ne.symm (wd_nL hq75 k65))
  have k879 := wd_at.pt ew873 k859 (Ne.symm (wd_nL hq125 k113))
  have k880 := wd_at.pt ew873 k860 (Ne.symm (wd_nL hq151 k139))
  have k881 := wd_at.pt ew873 k861 (Ne.symm (wd_nL hq179 k166))
  have k882 := wd_at.pt ew873 k862 (Ne.symm (wd_nL hq209 k195))
  have k883 := wd_at.pt ew873 k863 (Ne.symm (wd_nL hq241 k226))
  have k884 := wd_at.pt ew873 k864 (Ne.symm (wd_nL hq619 k601))
  have k885 := wd_at.pt ew873 k865 (Ne.symm (wd_nL hq655 k638))
  have k886 := wd_at.pt ew873 k866 (Ne.symm (wd_nL hq853 k834))
  have fm887 : ∀ z9, z9 < 12 → wd_at w872 (r2 z9) (.inl (cy 2, 12, .inl ((fun _ _ => 0) z9))) := fun z9 hi9 => wd_at.pt ew873 (fm867 z9 hi9) (fn10 z9 hi9)
  have fm888 : ∀ z9, z9 < 12 → wd_at w872 (r23 z9) (.inl (cy 2, 12, .inl ((fun _ _ => 0) z9))) := fun z9 hi9 => wd_at.pt ew873 (fm869 z9 hi9) (fn31 z9 hi9)
  have kp889 := kp871.put ew873 sy
  refine lv_aload_n hx hb dX11_init_230 rfl (lv_at hl 0 rfl) ?_
  refine lv_iconst (v := 5) hx hb dX11_init_231 (by decide) ?_
  refine y_newI (N := 5) F hP hD hS (List.mem_cons_of_mem _ (List.mem_append_left _ (List.mem_append_left _ (List.mem_of_getElem? (i := 4) rfl)))) (by decide) (by decide) (by decide) (Nat.le_of_ble_eq_true rfl) (Nat.le_of_ble_eq_true rfl) dX11_init_232 (fun q890 w891 ew892 hq893 H hP hD hS => ?_)
  refine W.widen (k := 111) (n := 5135) (Nat.le_of_ble_eq_true rfl) (Nat.le_of_ble_eq_true rfl) ?_
  have k894 := wd_at.ad ew892 hq893 k874
  have k895 := wd_at.ad ew892 hq893 k875
  have k896 := wd_at.ad ew892 hq893 k876
  have k897 := wd_at.ad ew892 hq893 k877
  have k898 := wd_at.ad ew892 hq893 k878
  have k899 := wd_at.ad ew892 hq893 k879
  have k900 := wd_at.ad ew892 hq893 k880
  have k901 := wd_at.ad ew892 hq893 k881
  have k902 := wd_at.ad ew892 hq893 k882
  have k903 := wd_at.ad ew892 hq893 k883
  have k904 := wd_at.ad ew892 hq893 k884
  have k905 := wd_at.ad ew892 hq893 k885
  have k906 : wd_at w891 q890 (.inl (cy 2, 5, .inl (fun _ => 0))) := wd_at.nw ew892
  have fm907 : ∀ z9, z9 < 12 → wd_at w891 (r2 z9) (.inl (cy 2, 12, .inl ((fun _ _ => 0) z9))) := fun z9 hi9 => wd_at.ad ew892 hq893 (fm887 z9 hi9)
  have fn908 : ∀ z9, z9 < 12 → (r2 z9) ≠ q890 := fun z9 hi9 => wd_nL hq893 (fm887 z9 hi9)
  have fm909 : ∀ z9, z9 < 12 → wd_at w891 (r23 z9) (.inl (cy 2, 12, .inl ((fun _ _ => 0) z9))) := fun z9 hi9 => wd_at.ad ew892 hq893 (fm888 z9 hi9)
  have fn910 : ∀ z9, z9 < 12 → (r23 z9) ≠ q890 := fun z9 hi9 => wd_nL hq893 (fm888 z9 hi9)
  have kp911 := kp889.add ew892 hq893
  refine y_putF (ref := "NoteHouseModel") F hP hD hS k894 rfl (fun _ h => List.mem_cons_of_mem _ (List.mem_append_right _ (h))) tyX11_ok nmX11 hnm 35 (Nat.le_of_ble_eq_true rfl) (List.mem_cons_of_mem _ (List.mem_append_left _ (List.mem_append_right _ (List.mem_append_left _ (List.mem_of_getElem? (i := 9) rfl))))) rfl rfl rfl rfl rfl (Nat.le_of_ble_eq_true rfl) dX11_init_234 (fun w912 ew913 H locs hP hD hS => ?_)
  have k914 : wd_at w912 y (.inr (11, [.int 0, .int 0, .ref q1, .ref q22, .ref q50, .ref q72, .ref q96, .int 0, .ref q122, .ref q148, .ref q176, .ref q206, .ref q238, .ref q272, .ref q308, .int 0, .int 0, .ref q344, .ref q380, .ref q416, .ref q452, .ref q488, .ref q524, .ref q560, .ref q616, .int 0, .int 0, .int 0, .int 0, .ref q652, .ref q690, .ref q730, .ref q770, .ref q810, .ref q850, .ref q890, .null, .null, .int 0, .null, .null, .null, .null, .null, .null, .null, .null, .null, .null, .null, .int 0, .null, .null, .null, .null, .int 0, .null, .null, .null, .null])) := wd_at.ps ew913 k894
  have k915 := wd_at.pt ew913 k895 (Ne.symm (wd_nL hq5 hy))
  have k916 := wd_at.pt ew913 k896 (Ne.symm (wd_nL hq26 k18))
  have k917 := wd_at.pt ew913 k897 (Ne.symm (wd_nL hq53 k44))
  have k918 := wd_at.pt ew913 k898 (Ne.symm (wd_nL hq75 k65))
  have k919 := wd_at.pt ew913 k899 (Ne.symm (wd_nL hq125 k113))
  have k920 := wd_at.pt ew913 k900 (Ne.symm (wd_nL hq151 k139))
  have k921 := wd_at.pt ew913 k901 (Ne.symm (wd_nL hq179 k166))
  have k922 := wd_at.pt ew913 k902 (Ne.symm (wd_nL hq209 k195))
  have k923 := wd_at.pt ew913 k903 (Ne.symm (wd_nL hq241 k226))
  have k924 := wd_at.pt ew913 k904 (Ne.symm (wd_nL hq619 k601))
  have k925 := wd_at.pt ew913 k905 (Ne.symm (wd_nL hq655 k638))
  have k926 := wd_at.pt ew913 k906 (Ne.symm (wd_nL hq893 k874))
  have fm927 : ∀ z9, z9 < 12 → wd_at w912 (r2 z9) (.inl (cy 2, 12, .inl ((fun _ _ => 0) z9))) := fun z9 hi9 => wd_at.pt ew913 (fm907 z9 hi9) (fn10 z9 hi9)
  have fm928 : ∀ z9, z9 < 12 → wd_at w912 (r23 z9) (.inl (cy 2, 12, .inl ((fun _ _ => 0) z9))) := fun z9 hi9 => wd_at.pt ew913 (fm909 z9 hi9) (fn31 z9 hi9)
  have kp929 := kp911.put ew913 sy
  refine lv_aload_n hx hb dX11_init_237 rfl (lv_at hl 0 rfl) ?_
  refine lv_iconst (v := 5) hx hb dX11_init_238 (by decide) ?_
  refine y_newZ (N := 5) F hP hD hS (List.mem_cons_of_mem _ (List.mem_append_left _ (List.mem_append_left _ (List.mem_of_getElem? (i := 20) rfl)))) (by decide) (by decide) (by decide) (Nat.le_of_ble_eq_true rfl) (Nat.le_of_ble_eq_true rfl) dX11_init_239 (fun q930 w931 ew932 hq933 H hP hD hS => ?_)
  refine W.widen (k := 112) (n := 5140) (Nat.le_of_ble_eq_true rfl) (Nat.le_of_ble_eq_true rfl) ?_
  have k934 := wd_at.ad ew932 hq933 k914
  have k935 := wd_at.ad ew932 hq933 k915
  have k936 := wd_at.ad ew932 hq933 k916
  have k937 := wd_at.ad ew932 hq933 k917
  have k938 := wd_at.ad ew932 hq933 k918
  have k939 := wd_at.ad ew932 hq933 k919
  have k940 := wd_at.ad ew932 hq933 k920
  have k941 := wd_at.ad ew932 hq933 k921
  have k942 := wd_at.ad ew932 hq933 k922
  have k943 := wd_at.ad ew932 hq933 k923
  have k944 := wd_at.ad ew932 hq933 k924
  have k945 := wd_at.ad ew932 hq933 k925
  have k946 := wd_at.ad ew932 hq933 k926
  have k947 : wd_at w931 q930 (.inl (cy 4, 5, .inl (fun _ => 0))) := wd_at.nw ew932
  have fm948 : ∀ z9, z9 < 12 → wd_at w931 (r2 z9) (.inl (cy 2, 12, .inl ((fun _ _ => 0) z9))) := fun z9 hi9 => wd_at.ad ew932 hq933 (fm927 z9 hi9)
  have fn949 : ∀ z9, z9 < 12 → (r2 z9) ≠ q930 := fun z9 hi9 => wd_nL hq933 (fm927 z9 hi9)
  have fm950 : ∀ z9, z9 < 12 → wd_at w931 (r23 z9) (.inl (cy 2, 12, .inl ((fun _ _ => 0) z9))) := fun z9 hi9 => wd_at.ad ew932 hq933 (fm928 z9 hi9)
  have fn951 : ∀ z9, z9 < 12 → (r23 z9) ≠ q930 := fun z9 hi9 => wd_nL hq933 (fm928 z9 hi9)
  have kp952 := kp929.add ew932 hq933
  refine y_putF (ref := "NoteHouseModel") F hP hD hS k934 rfl (fun _ h => List.mem_cons_of_mem _ (List.mem_append_right _ (h))) tyX11_ok nmX11 hnm 36 (Nat.le_of_ble_eq_true rfl) (List.mem_cons_of_mem _ (List.mem_append_left _ (List.mem_append_right _ (List.mem_append_left _ (List.mem_of_getElem? (i := 10) rfl))))) rfl rfl rfl rfl rfl (Nat.le_of_ble_eq_true rfl) dX11_init_241 (fun w953 ew954 H locs hP hD hS => ?_)
  have k955 : wd_at w953 y (.inr (11, [.int 0, .int 0, .ref q1, .ref q22, .ref q50, .ref q72, .ref q96, .int 0, .ref q122, .ref q148, .ref q176, .ref q206, .ref q238, .ref q272, .ref q308, .int 0, .int 0, .ref q344, .ref q380, .ref q416, .ref q452, .ref q488, .ref q524, .ref q560, .ref q616, .int 0, .int 0, .int 0, .int 0, .ref q652, .ref q690, .ref q730, .ref q770, .ref q810, .ref q850, .ref q890, .ref q930, .null, .int 0, .null, .null, .null, .null, .null, .null, .null, .null, .null, .null, .null, .int 0, .null, .null, .null, .null, .int 0, .null, .null, .null, .null])) := wd_at.ps ew954 k934
  have k956 := wd_at.pt ew954 k935 (Ne.symm (wd_nL hq5 hy))
  have k957 := wd_at.pt ew954 k936 (Ne.symm (wd_nL hq26 k18))
  have k958 := wd_at.pt ew954 k937 (Ne.symm (wd_nL hq53 k44))
  have k959 := wd_at.pt ew954 k938 (Ne.symm (wd_nL hq75 k65))
  have k960 := wd_at.pt ew954 k939 (Ne.symm (wd_nL hq125 k113))
  have k961 := wd_at.pt ew954 k940 (Ne.symm (wd_nL hq151 k139))
  have k962 := wd_at.pt ew954 k941 (Ne.symm (wd_nL hq179 k166))
  have k963 := wd_at.pt ew954 k942 (Ne.symm (wd_nL hq209 k195))
  have k964 := wd_at.pt ew954 k943 (Ne.symm (wd_nL hq241 k226))
  have k965 := wd_at.pt ew954 k944 (Ne.symm (wd_nL hq619 k601))
  have k966 := wd_at.pt ew954 k945 (Ne.symm (wd_nL hq655 k638))
  have k967 := wd_at.pt ew954 k946 (Ne.symm (wd_nL hq893 k874))
  have k968 := wd_at.pt ew954 k947 (Ne.symm (wd_nL hq933 k914))
  have fm969 : ∀ z9, z9 < 12 → wd_at w953 (r2 z9) (.inl (cy 2, 12, .inl ((fun _ _ => 0) z9))) := fun z9 hi9 => wd_at.pt ew954 (fm948 z9 hi9) (fn10 z9 hi9)
  have fm970 : ∀ z9, z9 < 12 → wd_at w953 (r23 z9) (.inl (cy 2, 12, .inl ((fun _ _ => 0) z9))) := fun z9 hi9 => wd_at.pt ew954 (fm950 z9 hi9) (fn31 z9 hi9)
  have kp971 := kp952.put ew954 sy
  refine lv_aload_n hx hb dX11_init_244 rfl (lv_at hl 0 rfl) ?_
  refine lv_iconst (v := 5) hx hb dX11_init_245 (by decide) ?_
  refine y_newI (N := 5) F hP hD hS (List.mem_cons_of_mem _ (List.mem_append_left _ (List.mem_append_left _ (List.mem_of_getElem? (i := 4) rfl)))) (by decide) (by decide) (by decide) (Nat.le_of_ble_eq_true rfl) (Nat.le_of_ble_eq_true rfl) dX11_init_246 (fun q972 w973 ew974 hq975 H hP hD hS => ?_)
  refine W.widen (k := 113) (n := 5145) (Nat.le_of_ble_eq_true rfl) (Nat.le_of_ble_eq_true rfl) ?_
  have k976 := wd_at.ad ew974 hq975 k955
  have k977 := wd_at.ad ew974 hq975 k956
  have k978 := wd_at.ad ew974 hq975 k957
  have k979 := wd_at.ad ew974 hq975 k958
  have k980 := wd_at.ad ew974 hq975 k959
  have k981 := wd_at.ad ew974 hq975 k960
  have k982 := wd_at.ad ew974 hq975 k961
  have k983 := wd_at.ad ew974 hq975 k962
  have k984 := wd_at.ad ew974 hq975 k963
  have k985 := wd_at.ad ew974 hq975 k964
  have k986 := wd_at.ad ew974 hq975 k965
  have k987 := wd_at.ad ew974 hq975 k966
  have k988 := wd_at.ad ew974 hq975 k967
  have k989 := wd_at.ad ew974 hq975 k968
  have k990 : wd_at w973 q972 (.inl (cy 2, 5, .inl (fun _ => 0))) := wd_at.nw ew974
  have fm991 : ∀ z9, z9 < 12 → wd_at w973 (r2 z9) (.inl (cy 2, 12, .inl ((fun _ _ => 0) z9))) := fun z9 hi9 => wd_at.ad ew974 hq975 (fm969 z9 hi9)
  have fn992 : ∀ z9, z9 < 12 → (r2 z9) ≠ q972 := fun z9 hi9 => wd_nL hq975 (fm969 z9 hi9)
  have fm993 : ∀ z9, z9 < 12 → wd_at w973 (r23 z9) (.inl (cy 2, 12, .inl ((fun _ _ => 0) z9))) := fun z9 hi9 => wd_at.ad ew974 hq975 (fm970 z9 hi9)
  have fn994 : ∀ z9, z9 < 12 → (r23 z9) ≠ q972 := fun z9 hi9 => wd_nL hq975 (fm970 z9 hi9)
  have kp995 := kp971.add ew974 hq975
  refine y_putF (ref := "NoteHouseModel") F hP hD hS k976 rfl (fun _ h => List.mem_cons_of_mem _ (List.mem_append_right _ (h))) tyX11_ok nmX11 hnm 37 (Nat.le_of_ble_eq_true rfl) (List.mem_cons_of_mem _ (List.mem_append_left _ (List.mem_append_right _ (List.mem_append_left _ (List.mem_of_getElem? (i := 11) rfl))))) rfl rfl rfl rfl rfl (Nat.le_of_ble_eq_true rfl) dX11_init_248 (fun w996 ew997 H locs hP hD hS => ?_)
  have k998 : wd_at w996 y (.inr (11, [.int 0, .int 0, .ref q1, .ref q22, .ref q50, .ref q72, .ref q96, .int 0, .ref q122, .ref q148, .ref q176, .ref q206, .ref q238, .ref q272, .ref q308, .int 0, .int 0, .ref q344, .ref q380, .ref q416, .ref q452, .ref q488, .ref q524, .ref q560, .ref q616, .int 0, .int 0, .int 0, .int 0, .ref q652, .ref q690, .ref q730, .ref q770, .ref q810, .ref q850, .ref q890, .ref q930, .ref q972, .int 0, .null, .null, .null, .null, .null, .null, .null, .null, .null, .null, .null, .int 0, .null, .null, .null, .null, .int 0, .null, .null, .null, .null])) := wd_at.ps ew997 k976
  have k999 := wd_at.pt ew997 k977 (Ne.symm (wd_nL hq5 hy))
  have k1000 := wd_at.pt ew997 k978 (Ne.symm (wd_nL hq26 k18))
  have k1001 := wd_at.pt ew997 k979 (Ne.symm (wd_nL hq53 k44))
  have k1002 := wd_at.pt ew997 k980 (Ne.symm (wd_nL hq75 k65))
  have k1003 := wd_at.pt ew997 k981 (Ne.symm (wd_nL hq125 k113))
  have k1004 := wd_at.pt ew997 k982 (Ne.symm (wd_nL hq151 k139))
  have k1005 := wd_at.pt ew997 k983 (Ne.symm (wd_nL hq179 k166))
  have k1006 := wd_at.pt ew997 k984 (Ne.symm (wd_nL hq209 k195))
  have k1007 := wd_at.pt ew997 k985 (Ne.symm (wd_nL hq241 k226))
  have k1008 := wd_at.pt ew997 k986 (Ne.symm (wd_nL hq619 k601))
  have k1009 := wd_at.pt ew997 k987 (Ne.symm (wd_nL hq655 k638))
  have k1010 := wd_at.pt ew997 k988 (Ne.symm (wd_nL hq893 k874))
  have k1011 := wd_at.pt ew997 k989 (Ne.symm (wd_nL hq933 k914))
  have k1012 := wd_at.pt ew997 k990 (Ne.symm (wd_nL hq975 k955))
  have fm1013 : ∀ z9, z9 < 12 → wd_at w996 (r2 z9) (.inl (cy 2, 12, .inl ((fun _ _ => 0) z9))) := fun z9 hi9 => wd_at.pt ew997 (fm991 z9 hi9) (fn10 z9 hi9)
  have fm1014 : ∀ z9, z9 < 12 → wd_at w996 (r23 z9) (.inl (cy 2, 12, .inl ((fun _ _ => 0) z9))) := fun z9 hi9 => wd_at.pt ew997 (fm993 z9 hi9) (fn31 z9 hi9)
  have kp1015 := kp995.put ew997 sy
  refine lv_aload_n hx hb dX11_init_251 rfl (lv_at hl 0 rfl) ?_
  refine lv_sipush (v := 200) hx hb dX11_init_252 (by decide) ?_
  refine y_newI (N := 200) F hP hD hS (List.mem_cons_of_mem _ (List.mem_append_left _ (List.mem_append_left _ (List.mem_of_getElem? (i := 4) rfl)))) (by decide) (by decide) (by decide) (Nat.le_of_ble_eq_true rfl) (Nat.le_of_ble_eq_true rfl) dX11_init_255 (fun q1016 w1017 ew1018 hq1019 H hP hD hS => ?_)
  refine W.widen (k := 114) (n := 5345) (Nat.le_of_ble_eq_true rfl) (Nat.le_of_ble_eq_true rfl) ?_
  have k1020 := wd_at.ad ew1018 hq1019 k998
  have k1021 := wd_at.ad ew1018 hq1019 k999
  have k1022 := wd_at.ad ew1018 hq1019 k1000
  have k1023 := wd_at.ad ew1018 hq1019 k1001
  have k1024 := wd_at.ad ew1018 hq1019 k1002
  have k1025 := wd_at.ad ew1018 hq1019 k1003
  have k1026 := wd_at.ad ew1018 hq1019 k1004
  have k1027 := wd_at.ad ew1018 hq1019 k1005
  have k1028 := wd_at.ad ew1018 hq1019 k1006
  have k1029 := wd_at.ad ew1018 hq1019 k1007
  have k1030 := wd_at.ad ew1018 hq1019 k1008
  have k1031 := wd_at.ad ew1018 hq1019 k1009
  have k1032 := wd_at.ad ew1018 hq1019 k1010
  have k1033 := wd_at.ad ew1018 hq1019 k1011
  have k1034 := wd_at.ad ew1018 hq1019 k1012
  have k1035 : wd_at w1017 q1016 (.inl (cy 2, 200, .inl (fun _ => 0))) := wd_at.nw ew1018
  have fm1036 : ∀ z9, z9 < 12 → wd_at w1017 (r2 z9) (.inl (cy 2, 12, .inl ((fun _ _ => 0) z9))) := fun z9 hi9 => wd_at.ad ew1018 hq1019 (fm1013 z9 hi9)
  have fn1037 : ∀ z9, z9 < 12 → (r2 z9) ≠ q1016 := fun z9 hi9 => wd_nL hq1019 (fm1013 z9 hi9)
  have fm1038 : ∀ z9, z9 < 12 → wd_at w1017 (r23 z9) (.inl (cy 2, 12, .inl ((fun _ _ => 0) z9))) := fun z9 hi9 => wd_at.ad ew1018 hq1019 (fm1014 z9 hi9)
  have fn1039 : ∀ z9, z9 < 12 → (r23 z9) ≠ q1016 := fun z9 hi9 => wd_nL hq1019 (fm1014 z9 hi9)
  have kp1040 := kp1015.add ew1018 hq1019
  refine y_putF (ref := "NoteHouseModel") F hP hD hS k1020 rfl (fun _ h => List.mem_cons_of_mem _ (List.mem_append_right _ (h))) tyX11_ok nmX11 hnm 39 (Nat.le_of_ble_eq_true rfl) (List.mem_cons_of_mem _ (List.mem_append_left _ (List.mem_append_right _ (List.mem_append_left _ (List.mem_of_getElem? (i := 12) rfl))))) rfl rfl rfl rfl rfl (Nat.le_of_ble_eq_true rfl) dX11_init_257 (fun w1041 ew1042 H locs hP hD hS => ?_)
  have k1043 : wd_at w1041 y (.inr (11, [.int 0, .int 0, .ref q1, .ref q22, .ref q50, .ref q72, .ref q96, .int 0, .ref q122, .ref q148, .ref q176, .ref q206, .ref q238, .ref q272, .ref q308, .int 0, .int 0, .ref q344, .ref q380, .ref q416, .ref q452, .ref q488, .ref q524, .ref q560, .ref q616, .int 0, .int 0, .int 0, .int 0, .ref q652, .ref q690, .ref q730, .ref q770, .ref q810, .ref q850, .ref q890, .ref q930, .ref q972, .int 0, .ref q1016, .null, .null, .null, .null, .null, .null, .null, .null, .null, .null, .int 0, .null, .null, .null, .null, .int 0, .null, .null, .null, .null])) := wd_at.ps ew1042 k1020
  have k1044 := wd_at.pt ew1042 k1021 (Ne.symm (wd_nL hq5 hy))
  have k1045 := wd_at.pt ew1042 k1022 (Ne.symm (wd_nL hq26 k18))
  have k1046 := wd_at.pt ew1042 k1023 (Ne.symm (wd_nL hq53 k44))
  have k1047 := wd_at.pt ew1042 k1024 (Ne.symm (wd_nL hq75 k65))
  have k1048 := wd_at.pt ew1042 k1025 (Ne.symm (wd_nL hq125 k113))
  have k1049 := wd_at.pt ew1042 k1026 (Ne.symm (wd_nL hq151 k139))
  have k1050 := wd_at.pt ew1042 k1027 (Ne.symm (wd_nL hq179 k166))
  have k1051 := wd_at.pt ew1042 k1028 (Ne.symm (wd_nL hq209 k195))
  have k1052 := wd_at.pt ew1042 k1029 (Ne.symm (wd_nL hq241 k226))
  have k1053 := wd_at.pt ew1042 k1030 (Ne.symm (wd_nL hq619 k601))
  have k1054 := wd_at.pt ew1042 k1031 (Ne.symm (wd_nL hq655 k638))
  have k1055 := wd_at.pt ew1042 k1032 (Ne.symm (wd_nL hq893 k874))
  have k1056 := wd_at.pt ew1042 k1033 (Ne.symm (wd_nL hq933 k914))
  have k1057 := wd_at.pt ew1042 k1034 (Ne.symm (wd_nL hq975 k955))
  have k1058 := wd_at.pt ew1042 k1035 (Ne.symm (wd_nL hq1019 k998))
  have fm1059 : ∀ z9, z9 < 12 → wd_at w1041 (r2 z9) (.inl (cy 2, 12, .inl ((fun _ _ => 0) z9))) := fun z9 hi9 => wd_at.pt ew1042 (fm1036 z9 hi9) (fn10 z9 hi9)
  have fm1060 : ∀ z9, z9 < 12 → wd_at w1041 (r23 z9) (.inl (cy 2, 12, .inl ((fun _ _ => 0) z9))) := fun z9 hi9 => wd_at.pt ew1042 (fm1038 z9 hi9) (fn31 z9 hi9)
  have kp1061 := kp1040.put ew1042 sy
  refine lv_aload_n hx hb dX11_init_260 rfl (lv_at hl 0 rfl) ?_
  refine lv_sipush (v := 200) hx hb dX11_init_261 (by decide) ?_
  refine y_newI (N := 200) F hP hD hS (List.mem_cons_of_mem _ (List.mem_append_left _ (List.mem_append_left _ (List.mem_of_getElem? (i := 4) rfl)))) (by decide) (by decide) (by decide) (Nat.le_of_ble_eq_true rfl) (Nat.le_of_ble_eq_true rfl) dX11_init_264 (fun q1062 w1063 ew1064 hq1065 H hP hD hS => ?_)
  refine W.widen (k := 115) (n := 5545) (Nat.le_of_ble_eq_true rfl) (Nat.le_of_ble_eq_true rfl) ?_
  have k1066 := wd_at.ad ew1064 hq1065 k1043
  have k1067 := wd_at.ad ew1064 hq1065 k1044
  have k1068 := wd_at.ad ew1064 hq1065 k1045
  have k1069 := wd_at.ad ew1064 hq1065 k1046
  have k1070 := wd_at.ad ew1064 hq1065 k1047
  have k1071 := wd_at.ad ew1064 hq1065 k1048
  have k1072 := wd_at.ad ew1064 hq1065 k1049
  have k1073 := wd_at.ad ew1064 hq1065 k1050
  have k1074 := wd_at.ad ew1064 hq1065 k1051
  have k1075 := wd_at.ad ew1064 hq1065 k1052
  have k1076 := wd_at.ad ew1064 hq1065 k1053
  have k1077 := wd_at.ad ew1064 hq1065 k1054
  have k1078 := wd_at.ad ew1064 hq1065 k1055
  have k1079 := wd_at.ad ew1064 hq1065 k1056
  have k1080 := wd_at.ad ew1064 hq1065 k1057
  have k1081 : wd_at w1063 q1062 (.inl (cy 2, 200, .inl (fun _ => 0))) := wd_at.nw ew1064
  have fm1082 : ∀ z9, z9 < 12 → wd_at w1063 (r2 z9) (.inl (cy 2, 12, .inl ((fun _ _ => 0) z9))) := fun z9 hi9 => wd_at.ad ew1064 hq1065 (fm1059 z9 hi9)
  have fn1083 : ∀ z9, z9 < 12 → (r2 z9) ≠ q1062 := fun z9 hi9 => wd_nL hq1065 (fm1059 z9 hi9)
  have fm1084 : ∀ z9, z9 < 12 → wd_at w1063 (r23 z9) (.inl (cy 2, 12, .inl ((fun _ _ => 0) z9))) := fun z9 hi9 => wd_at.ad ew1064 hq1065 (fm1060 z9 hi9)
  have fn1085 : ∀ z9, z9 < 12 → (r23 z9) ≠ q1062 := fun z9 hi9 => wd_nL hq1065 (fm1060 z9 hi9)
  have kp1086 := kp1061.add ew1064 hq1065
  refine y_putF (ref := "NoteHouseModel") F hP hD hS k1066 rfl (fun _ h => List.mem_cons_of_mem _ (List.mem_append_right _ (h))) tyX11_ok nmX11 hnm 40 (Nat.le_of_ble_eq_true rfl) (List.mem_cons_of_mem _ (List.mem_append_left _ (List.mem_append_right _ (List.mem_append_left _ (List.mem_of_getElem? (i := 13) rfl))))) rfl rfl rfl rfl rfl (Nat.le_of_ble_eq_true rfl) dX11_init_266 (fun w1087 ew1088 H locs hP hD hS => ?_)
  have k1089 : wd_at w1087 y (.inr (11, [.int 0, .int 0, .ref q1, .ref q22, .ref q50, .ref q72, .ref q96, .int 0, .ref q122, .ref q148, .ref q176, .ref q206, .ref q238, .ref q272, .ref q308, .int 0, .int 0, .ref q344, .ref q380, .ref q416, .ref q452, .ref q488, .ref q524, .ref q560, .ref q616, .int 0, .int 0, .int 0, .int 0, .ref q652, .ref q690, .ref q730, .ref q770, .ref q810, .ref q850, .ref q890, .ref q930, .ref q972, .int 0, .ref q1016, .ref q1062, .null, .null, .null, .null, .null, .null, .null, .null, .null, .int 0, .null, .null, .null, .null, .int 0, .null, .null, .null, .null])) := wd_at.ps ew1088 k1066
  have k1090 := wd_at.pt ew1088 k1067 (Ne.symm (wd_nL hq5 hy))
  have k1091 := wd_at.pt ew1088 k1068 (Ne.symm (wd_nL hq26 k18))
  have k1092 := wd_at.pt ew1088 k1069 (Ne.symm (wd_nL hq53 k44))
  have k1093 := wd_at.pt ew1088 k1070 (Ne.symm (wd_nL hq75 k65))
  have k1094 := wd_at.pt ew1088 k1071 (Ne.symm (wd_nL hq125 k113))
  have k1095 := wd_at.pt ew1088 k1072 (Ne.symm (wd_nL hq151 k139))
  have k1096 := wd_at.pt ew1088 k1073 (Ne.symm (wd_nL hq179 k166))
  have k1097 := wd_at.pt ew1088 k1074 (Ne.symm (wd_nL hq209 k195))
  have k1098 := wd_at.pt ew1088 k1075 (Ne.symm (wd_nL hq241 k226))
  have k1099 := wd_at.pt ew1088 k1076 (Ne.symm (wd_nL hq619 k601))
  have k1100 := wd_at.pt ew1088 k1077 (Ne.symm (wd_nL hq655 k638))
  have k1101 := wd_at.pt ew1088 k1078 (Ne.symm (wd_nL hq893 k874))
  have k1102 := wd_at.pt ew1088 k1079 (Ne.symm (wd_nL hq933 k914))
  have k1103 := wd_at.pt ew1088 k1080 (Ne.symm (wd_nL hq975 k955))
  have k1104 := wd_at.pt ew1088 k1081 (Ne.symm (wd_nL hq1065 k1043))
  have fm1105 : ∀ z9, z9 < 12 → wd_at w1087 (r2 z9) (.inl (cy 2, 12, .inl ((fun _ _ => 0) z9))) := fun z9 hi9 => wd_at.pt ew1088 (fm1082 z9 hi9) (fn10 z9 hi9)
  have fm1106 : ∀ z9, z9 < 12 → wd_at w1087 (r23 z9) (.inl (cy 2, 12, .inl ((fun _ _ => 0) z9))) := fun z9 hi9 => wd_at.pt ew1088 (fm1084 z9 hi9) (fn31 z9 hi9)
  have kp1107 := kp1086.put ew1088 sy
  refine lv_aload_n hx hb dX11_init_269 rfl (lv_at hl 0 rfl) ?_
  refine lv_sipush (v := 200) hx hb dX11_init_270 (by decide) ?_
  refine y_newI (N := 200) F hP hD hS (List.mem_cons_of_mem _ (List.mem_append_left _ (List.mem_append_left _ (List.mem_of_getElem? (i := 4) rfl)))) (by decide) (by decide) (by decide) (Nat.le_of_ble_eq_true rfl) (Nat.le_of_ble_eq_true rfl) dX11_init_273 (fun q1108 w1109 ew1110 hq1111 H hP hD hS => ?_)
  refine W.widen (k := 116) (n := 5745) (Nat.le_of_ble_eq_true rfl) (Nat.le_of_ble_eq_true rfl) ?_
  have k1112 := wd_at.ad ew1110 hq1111 k1089
  have k1113 := wd_at.ad ew1110 hq1111 k1090
  have k1114 := wd_at.ad ew1110 hq1111 k1091
  have k1115 := wd_at.ad ew1110 hq1111 k1092
  have k1116 := wd_at.ad ew1110 hq1111 k1093
  have k1117 := wd_at.ad ew1110 hq1111 k1094
  have k1118 := wd_at.ad ew1110 hq1111 k1095
  have k1119 := wd_at.ad ew1110 hq1111 k1096
  have k1120 := wd_at.ad ew1110 hq1111 k1097
  have k1121 := wd_at.ad ew1110 hq1111 k1098
  have k1122 := wd_at.ad ew1110 hq1111 k1099
  have k1123 := wd_at.ad ew1110 hq1111 k1100
  have k1124 := wd_at.ad ew1110 hq1111 k1101
  have k1125 := wd_at.ad ew1110 hq1111 k1102
  have k1126 := wd_at.ad ew1110 hq1111 k1103
  have k1127 : wd_at w1109 q1108 (.inl (cy 2, 200, .inl (fun _ => 0))) := wd_at.nw ew1110
  have fm1128 : ∀ z9, z9 < 12 → wd_at w1109 (r2 z9) (.inl (cy 2, 12, .inl ((fun _ _ => 0) z9))) := fun z9 hi9 => wd_at.ad ew1110 hq1111 (fm1105 z9 hi9)
  have fn1129 : ∀ z9, z9 < 12 → (r2 z9) ≠ q1108 := fun z9 hi9 => wd_nL hq1111 (fm1105 z9 hi9)
  have fm1130 : ∀ z9, z9 < 12 → wd_at w1109 (r23 z9) (.inl (cy 2, 12, .inl ((fun _ _ => 0) z9))) := fun z9 hi9 => wd_at.ad ew1110 hq1111 (fm1106 z9 hi9)
  have fn1131 : ∀ z9, z9 < 12 → (r23 z9) ≠ q1108 := fun z9 hi9 => wd_nL hq1111 (fm1106 z9 hi9)
  have kp1132 := kp1107.add ew1110 hq1111
  refine y_putF (ref := "NoteHouseModel") F hP hD hS k1112 rfl (fun _ h => List.mem_cons_of_mem _ (List.mem_append_right _ (h))) tyX11_ok nmX11 hnm 41 (Nat.le_of_ble_eq_true rfl) (List.mem_cons_of_mem _ (List.mem_append_left _ (List.mem_append_right _ (List.mem_append_left _ (List.mem_of_getElem? (i := 14) rfl))))) rfl rfl rfl rfl rfl (Nat.le_of_ble_eq_true rfl) dX11_init_275 (fun w1133 ew1134 H locs hP hD hS => ?_)
  have k1135 : wd_at w1133 y (.inr (11, [.int 0, .int 0, .ref q1, .ref q22, .ref q50, .ref q72, .ref q96, .int 0, .ref q122, .ref q148, .ref q176, .ref q206, .ref q238, .ref q272, .ref q308, .int 0, .int 0, .ref q344, .ref q380, .ref q416, .ref q452, .ref q488, .ref q524, .ref q560, .ref q616, .int 0, .int 0, .int 0, .int 0, .ref q652, .ref q690, .ref q730, .ref q770, .ref q810, .ref q850, .ref q890, .ref q930, .ref q972, .int 0, .ref q1016, .ref q1062, .ref q1108, .null, .null, .null, .null, .null, .null, .null, .null, .int 0, .null, .null, .null, .null, .int 0, .null, .null, .null, .null])) := wd_at.ps ew1134 k1112
  have k1136 := wd_at.pt ew1134 k1113 (Ne.symm (wd_nL hq5 hy))
  have k1137 := wd_at.pt ew1134 k1114 (Ne.symm (wd_nL hq26 k18))
  have k1138 := wd_at.pt ew1134 k1115 (Ne.symm (wd_nL hq53 k44))
  have k1139 := wd_at.pt ew1134 k1116 (Ne.symm (wd_nL hq75 k65))
  have k1140 := wd_at.pt ew1134 k1117 (Ne.symm (wd_nL hq125 k113))
  have k1141 := wd_at.pt ew1134 k1118 (Ne.symm (wd_nL hq151 k139))
  have k1142 := wd_at.pt ew1134 k1119 (Ne.symm (wd_nL hq179 k166))
  have k1143 := wd_at.pt ew1134 k1120 (Ne.symm (wd_nL hq209 k195))
  have k1144 := wd_at.pt ew1134 k1121 (Ne.symm (wd_nL hq241 k226))
  have k1145 := wd_at.pt ew1134 k1122 (Ne.symm (wd_nL hq619 k601))
  have k1146 := wd_at.pt ew1134 k1123 (Ne.symm (wd_nL hq655 k638))
  have k1147 := wd_at.pt ew1134 k1124 (Ne.symm (wd_nL hq893 k874))
  have k1148 := wd_at.pt ew1134 k1125 (Ne.symm (wd_nL hq933 k914))
  have k1149 := wd_at.pt ew1134 k1126 (Ne.symm (wd_nL hq975 k955))
  have k1150 := wd_at.pt ew1134 k1127 (Ne.symm (wd_nL hq1111 k1089))
  have fm1151 : ∀ z9, z9 < 12 → wd_at w1133 (r2 z9) (.inl (cy 2, 12, .inl ((fun _ _ => 0) z9))) := fun z9 hi9 => wd_at.pt ew1134 (fm1128 z9 hi9) (fn10 z9 hi9)
  have fm1152 : ∀ z9, z9 < 12 → wd_at w1133 (r23 z9) (.inl (cy 2, 12, .inl ((fun _ _ => 0) z9))) := fun z9 hi9 => wd_at.pt ew1134 (fm1130 z9 hi9) (fn31 z9 hi9)
  have kp1153 := kp1132.put ew1134 sy
  refine lv_aload_n hx hb dX11_init_278 rfl (lv_at hl 0 rfl) ?_
  refine lv_sipush (v := 200) hx hb dX11_init_279 (by decide) ?_
  refine y_newI (N := 200) F hP hD hS (List.mem_cons_of_mem _ (List.mem_append_left _ (List.mem_append_left _ (List.mem_of_getElem? (i := 4) rfl)))) (by decide) (by decide) (by decide) (Nat.le_of_ble_eq_true rfl) (Nat.le_of_ble_eq_true rfl) dX11_init_282 (fun q1154 w1155 ew1156 hq1157 H hP hD hS => ?_)
  refine W.widen (k := 117) (n := 5945) (Nat.le_of_ble_eq_true rfl) (Nat.le_of_ble_eq_true rfl) ?_
  have k1158 := wd_at.ad ew1156 hq1157 k1135
  have k1159 := wd_at.ad ew1156 hq1157 k1136
  have k1160 := wd_at.ad ew1156 hq1157 k1137
  have k1161 := wd_at.ad ew1156 hq1157 k1138
  have k1162 := wd_at.ad ew1156 hq1157 k1139
  have k1163 := wd_at.ad ew1156 hq1157 k1140
  have k1164 := wd_at.ad ew1156 hq1157 k1141
  have k1165 := wd_at.ad ew1156 hq1157 k1142
  have k1166 := wd_at.ad ew1156 hq1157 k1143
  have k1167 := wd_at.ad ew1156 hq1157 k1144
  have k1168 := wd_at.ad ew1156 hq1157 k1145
  have k1169 := wd_at.ad ew1156 hq1157 k1146
  have k1170 := wd_at.ad ew1156 hq1157 k1147
  have k1171 := wd_at.ad ew1156 hq1157 k1148
  have k1172 := wd_at.ad ew1156 hq1157 k1149
  have k1173 : wd_at w1155 q1154 (.inl (cy 2, 200, .inl (fun _ => 0))) := wd_at.nw ew1156
  have fm1174 : ∀ z9, z9 < 12 → wd_at w1155 (r2 z9) (.inl (cy 2, 12, .inl ((fun _ _ => 0) z9))) := fun z9 hi9 => wd_at.ad ew1156 hq1157 (fm1151 z9 hi9)
  have fn1175 : ∀ z9, z9 < 12 → (r2 z9) ≠ q1154 := fun z9 hi9 => wd_nL hq1157 (fm1151 z9 hi9)
  have fm1176 : ∀ z9, z9 < 12 → wd_at w1155 (r23 z9) (.inl (cy 2, 12, .inl ((fun _ _ => 0) z9))) := fun z9 hi9 => wd_at.ad ew1156 hq1157 (fm1152 z9 hi9)
  have fn1177 : ∀ z9, z9 < 12 → (r23 z9) ≠ q1154 := fun z9 hi9 => wd_nL hq1157 (fm1152 z9 hi9)
  have kp1178 := kp1153.add ew1156 hq1157
  refine y_putF (ref := "NoteHouseModel") F hP hD hS k1158 rfl (fun _ h => List.mem_cons_of_mem _ (List.mem_append_right _ (h))) tyX11_ok nmX11 hnm 42 (Nat.le_of_ble_eq_true rfl) (List.mem_cons_of_mem _ (List.mem_append_left _ (List.mem_append_right _ (List.mem_append_left _ (List.mem_of_getElem? (i := 15) rfl))))) rfl rfl rfl rfl rfl (Nat.le_of_ble_eq_true rfl) dX11_init_284 (fun w1179 ew1180 H locs hP hD hS => ?_)
  have k1181 : wd_at w1179 y (.inr (11, [.int 0, .int 0, .ref q1, .ref q22, .ref q50, .ref q72, .ref q96, .int 0, .ref q122, .ref q148, .ref q176, .ref q206, .ref q238, .ref q272, .ref q308, .int 0, .int 0, .ref q344, .ref q380, .ref q416, .ref q452, .ref q488, .ref q524, .ref q560, .ref q616, .int 0, .int 0, .int 0, .int 0, .ref q652, .ref q690, .ref q730, .ref q770, .ref q810, .ref q850, .ref q890, .ref q930, .ref q972, .int 0, .ref q1016, .ref q1062, .ref q1108, .ref q1154, .null, .null, .null, .null, .null, .null, .null, .int 0, .null, .null, .null, .null, .int 0, .null, .null, .null, .null])) := wd_at.ps ew1180 k1158
  have k1182 := wd_at.pt ew1180 k1159 (Ne.symm (wd_nL hq5 hy))
  have k1183 := wd_at.pt ew1180 k1160 (Ne.symm (wd_nL hq26 k18))
  have k1184 := wd_at.pt ew1180 k1161 (Ne.symm (wd_nL hq53 k44))
  have k1185 := wd_at.pt ew1180 k1162 (Ne.symm (wd_nL hq75 k65))
  have k1186 := wd_at.pt ew1180 k1163 (Ne.symm (wd_nL hq125 k113))
  have k1187 := wd_at.pt ew1180 k1164 (Ne.symm (wd_nL hq151 k139))
  have k1188 := wd_at.pt ew1180 k1165 (Ne.symm (wd_nL hq179 k166))
  have k1189 := wd_at.pt ew1180 k1166 (Ne.symm (wd_nL hq209 k195))
  have k1190 := wd_at.pt ew1180 k1167 (Ne.symm (wd_nL hq241 k226))
  have k1191 := wd_at.pt ew1180 k1168 (Ne.symm (wd_nL hq619 k601))
  have k1192 := wd_at.pt ew1180 k1169 (Ne.symm (wd_nL hq655 k638))
  have k1193 := wd_at.pt ew1180 k1170 (Ne.symm (wd_nL hq893 k874))
  have k1194 := wd_at.pt ew1180 k1171 (Ne.symm (wd_nL hq933 k914))
  have k1195 := wd_at.pt ew1180 k1172 (Ne.symm (wd_nL hq975 k955))
  have k1196 := wd_at.pt ew1180 k1173 (Ne.symm (wd_nL hq1157 k1135))
  have fm1197 : ∀ z9, z9 < 12 → wd_at w1179 (r2 z9) (.inl (cy 2, 12, .inl ((fun _ _ => 0) z9))) := fun z9 hi9 => wd_at.pt ew1180 (fm1174 z9 hi9) (fn10 z9 hi9)
  have fm1198 : ∀ z9, z9 < 12 → wd_at w1179 (r23 z9) (.inl (cy 2, 12, .inl ((fun _ _ => 0) z9))) := fun z9 hi9 => wd_at.pt ew1180 (fm1176 z9 hi9) (fn31 z9 hi9)
  have kp1199 := kp1178.put ew1180 sy
  refine lv_aload_n hx hb dX11_init_287 rfl (lv_at hl 0 rfl) ?_
  refine lv_sipush (v := 200) hx hb dX11_init_288 (by decide) ?_
  refine y_newI (N := 200) F hP hD hS (List.mem_cons_of_mem _ (List.mem_append_left _ (List.mem_append_left _ (List.mem_of_getElem? (i := 4) rfl)))) (by decide) (by decide) (by decide) (Nat.le_of_ble_eq_true rfl) (Nat.le_of_ble_eq_true rfl) dX11_init_291 (fun q1200 w1201 ew1202 hq1203 H hP hD hS => ?_)
  refine W.widen (k := 118) (n := 6145) (Nat.le_of_ble_eq_true rfl) (Nat.le_of_ble_eq_true rfl) ?_
  have k1204 := wd_at.ad ew1202 hq1203 k1181
  have k1205 := wd_at.ad ew1202 hq1203 k1182
  have k1206 := wd_at.ad ew1202 hq1203 k1183
  have k1207 := wd_at.ad ew1202 hq1203 k1184
  have k1208 := wd_at.ad ew1202 hq1203 k1185
  have k1209 := wd_at.ad ew1202 hq1203 k1186
  have k1210 := wd_at.ad ew1202 hq1203 k1187
  have k1211 := wd_at.ad ew1202 hq1203 k1188
  have k1212 := wd_at.ad ew1202 hq1203 k1189
  have k1213 := wd_at.ad ew1202 hq1203 k1190
  have k1214 := wd_at.ad ew1202 hq1203 k1191
  have k1215 := wd_at.ad ew1202 hq1203 k1192
  have k1216 := wd_at.ad ew1202 hq1203 k1193
  have k1217 := wd_at.ad ew1202 hq1203 k1194
  have k1218 := wd_at.ad ew1202 hq1203 k1195
  have k1219 : wd_at w1201 q1200 (.inl (cy 2, 200, .inl (fun _ => 0))) := wd_at.nw ew1202
  have fm1220 : ∀ z9, z9 < 12 → wd_at w1201 (r2 z9) (.inl (cy 2, 12, .inl ((fun _ _ => 0) z9))) := fun z9 hi9 => wd_at.ad ew1202 hq1203 (fm1197 z9 hi9)
  have fn1221 : ∀ z9, z9 < 12 → (r2 z9) ≠ q1200 := fun z9 hi9 => wd_nL hq1203 (fm1197 z9 hi9)
  have fm1222 : ∀ z9, z9 < 12 → wd_at w1201 (r23 z9) (.inl (cy 2, 12, .inl ((fun _ _ => 0) z9))) := fun z9 hi9 => wd_at.ad ew1202 hq1203 (fm1198 z9 hi9)
  have fn1223 : ∀ z9, z9 < 12 → (r23 z9) ≠ q1200 := fun z9 hi9 => wd_nL hq1203 (fm1198 z9 hi9)
  have kp1224 := kp1199.add ew1202 hq1203
  refine y_putF (ref := "NoteHouseModel") F hP hD hS k1204 rfl (fun _ h => List.mem_cons_of_mem _ (List.mem_append_right _ (h))) tyX11_ok nmX11 hnm 43 (Nat.le_of_ble_eq_true rfl) (List.mem_cons_of_mem _ (List.mem_append_left _ (List.mem_append_right _ (List.mem_append_left _ (List.mem_of_getElem? (i := 16) rfl))))) rfl rfl rfl rfl rfl (Nat.le_of_ble_eq_true rfl) dX11_init_293 (fun w1225 ew1226 H locs hP hD hS => ?_)
  have k1227 : wd_at w1225 y (.inr (11, [.int 0, .int 0, .ref q1, .ref q22, .ref q50, .ref q72, .ref q96, .int 0, .ref q122, .ref q148, .ref q176, .ref q206, .ref q238, .ref q272, .ref q308, .int 0, .int 0, .ref q344, .ref q380, .ref q416, .ref q452, .ref q488, .ref q524, .ref q560, .ref q616, .int 0, .int 0, .int 0, .int 0, .ref q652, .ref q690, .ref q730, .ref q770, .ref q810, .ref q850, .ref q890, .ref q930, .ref q972, .int 0, .ref q1016, .ref q1062, .ref q1108, .ref q1154, .ref q1200, .null, .null, .null, .null, .null, .null, .int 0, .null, .null, .null, .null, .int 0, .null, .null, .null, .null])) := wd_at.ps ew1226 k1204
  have k1228 := wd_at.pt ew1226 k1205 (Ne.symm (wd_nL hq5 hy))
  have k1229 := wd_at.pt ew1226 k1206 (Ne.symm (wd_nL hq26 k18))
  have k1230 := wd_at.pt ew1226 k1207 (Ne.symm (wd_nL hq53 k44))
  have k1231 := wd_at.pt ew1226 k1208 (Ne.symm (wd_nL hq75 k65))
  have k1232 := wd_at.pt ew1226 k1209 (Ne.symm (wd_nL hq125 k113))
  have k1233 := wd_at.pt ew1226 k1210 (Ne.symm (wd_nL hq151 k139))
  have k1234 := wd_at.pt ew1226 k1211 (Ne.symm (wd_nL hq179 k166))
  have k1235 := wd_at.pt ew1226 k1212 (Ne.symm (wd_nL hq209 k195))
  have k1236 := wd_at.pt ew1226 k1213 (Ne.symm (wd_nL hq241 k226))
  have k1237 := wd_at.pt ew1226 k1214 (Ne.symm (wd_nL hq619 k601))
  have k1238 := wd_at.pt ew1226 k1215 (Ne.symm (wd_nL hq655 k638))
  have k1239 := wd_at.pt ew1226 k1216 (Ne.symm (wd_nL hq893 k874))
  have k1240 := wd_at.pt ew1226 k1217 (Ne.symm (wd_nL hq933 k914))
  have k1241 := wd_at.pt ew1226 k1218 (Ne.symm (wd_nL hq975 k955))
  have k1242 := wd_at.pt ew1226 k1219 (Ne.symm (wd_nL hq1203 k1181))
  have fm1243 : ∀ z9, z9 < 12 → wd_at w1225 (r2 z9) (.inl (cy 2, 12, .inl ((fun _ _ => 0) z9))) := fun z9 hi9 => wd_at.pt ew1226 (fm1220 z9 hi9) (fn10 z9 hi9)
  have fm1244 : ∀ z9, z9 < 12 → wd_at w1225 (r23 z9) (.inl (cy 2, 12, .inl ((fun _ _ => 0) z9))) := fun z9 hi9 => wd_at.pt ew1226 (fm1222 z9 hi9) (fn31 z9 hi9)
  have kp1245 := kp1224.put ew1226 sy
  refine lv_aload_n hx hb dX11_init_296 rfl (lv_at hl 0 rfl) ?_
  refine lv_sipush (v := 200) hx hb dX11_init_297 (by decide) ?_
  refine y_newI (N := 200) F hP hD hS (List.mem_cons_of_mem _ (List.mem_append_left _ (List.mem_append_left _ (List.mem_of_getElem? (i := 4) rfl)))) (by decide) (by decide) (by decide) (Nat.le_of_ble_eq_true rfl) (Nat.le_of_ble_eq_true rfl) dX11_init_300 (fun q1246 w1247 ew1248 hq1249 H hP hD hS => ?_)
  refine W.widen (k := 119) (n := 6345) (Nat.le_of_ble_eq_true rfl) (Nat.le_of_ble_eq_true rfl) ?_
  have k1250 := wd_at.ad ew1248 hq1249 k1227
  have k1251 := wd_at.ad ew1248 hq1249 k1228
  have k1252 := wd_at.ad ew1248 hq1249 k1229
  have k1253 := wd_at.ad ew1248 hq1249 k1230
  have k1254 := wd_at.ad ew1248 hq1249 k1231
  have k1255 := wd_at.ad ew1248 hq1249 k1232
  have k1256 := wd_at.ad ew1248 hq1249 k1233
  have k1257 := wd_at.ad ew1248 hq1249 k1234
  have k1258 := wd_at.ad ew1248 hq1249 k1235
  have k1259 := wd_at.ad ew1248 hq1249 k1236
  have k1260 := wd_at.ad ew1248 hq1249 k1237
  have k1261 := wd_at.ad ew1248 hq1249 k1238
  have k1262 := wd_at.ad ew1248 hq1249 k1239
  have k1263 := wd_at.ad ew1248 hq1249 k1240
  have k1264 := wd_at.ad ew1248 hq1249 k1241
  have k1265 : wd_at w1247 q1246 (.inl (cy 2, 200, .inl (fun _ => 0))) := wd_at.nw ew1248
  have fm1266 : ∀ z9, z9 < 12 → wd_at w1247 (r2 z9) (.inl (cy 2, 12, .inl ((fun _ _ => 0) z9))) := fun z9 hi9 => wd_at.ad ew1248 hq1249 (fm1243 z9 hi9)
  have fn1267 : ∀ z9, z9 < 12 → (r2 z9) ≠ q1246 := fun z9 hi9 => wd_nL hq1249 (fm1243 z9 hi9)
  have fm1268 : ∀ z9, z9 < 12 → wd_at w1247 (r23 z9) (.inl (cy 2, 12, .inl ((fun _ _ => 0) z9))) := fun z9 hi9 => wd_at.ad ew1248 hq1249 (fm1244 z9 hi9)
  have fn1269 : ∀ z9, z9 < 12 → (r23 z9) ≠ q1246 := fun z9 hi9 => wd_nL hq1249 (fm1244 z9 hi9)
  have kp1270 := kp1245.add ew1248 hq1249
  refine y_putF (ref := "NoteHouseModel") F hP hD hS k1250 rfl (fun _ h => List.mem_cons_of_mem _ (List.mem_append_right _ (h))) tyX11_ok nmX11 hnm 44 (Nat.le_of_ble_eq_true rfl) (List.mem_cons_of_mem _ (List.mem_append_left _ (List.mem_append_right _ (List.mem_append_left _ (List.mem_of_getElem? (i := 17) rfl))))) rfl rfl rfl rfl rfl (Nat.le_of_ble_eq_true rfl) dX11_init_302 (fun w1271 ew1272 H locs hP hD hS => ?_)
  have k1273 : wd_at w1271 y (.inr (11, [.int 0, .int 0, .ref q1, .ref q22, .ref q50, .ref q72, .ref q96, .int 0, .ref q122, .ref q148, .ref q176, .ref q206, .ref q238, .ref q272, .ref q308, .int 0, .int 0, .ref q344, .ref q380, .ref q416, .ref q452, .ref q488, .ref q524, .ref q560, .ref q616, .int 0, .int 0, .int 0, .int 0, .ref q652, .ref q690, .ref q730, .ref q770, .ref q810, .ref q850, .ref q890, .ref q930, .ref q972, .int 0, .ref q1016, .ref q1062, .ref q1108, .ref q1154, .ref q1200, .ref q1246, .null, .null, .null, .null, .null, .int 0, .null, .null, .null, .null, .int 0, .null, .null, .null, .null])) := wd_at.ps ew1272 k1250
  have k1274 := wd_at.pt ew1272 k1251 (Ne.symm (wd_nL hq5 hy))
  have k1275 := wd_at.pt ew1272 k1252 (Ne.symm (wd_nL hq26 k18))
  have k1276 := wd_at.pt ew1272 k1253 (Ne.symm (wd_nL hq53 k44))
  have k1277 := wd_at.pt ew1272 k1254 (Ne.symm (wd_nL hq75 k65))
  have k1278 := wd_at.pt ew1272 k1255 (Ne.symm (wd_nL hq125 k113))
  have k1279 := wd_at.pt ew1272 k1256 (Ne.symm (wd_nL hq151 k139))
  have k1280 := wd_at.pt ew1272 k1257 (Ne.symm (wd_nL hq179 k166))
  have k1281 := wd_at.pt ew1272 k1258 (Ne.symm (wd_nL hq209 k195))
  have k1282 := wd_at.pt ew1272 k1259 (Ne.symm (wd_nL hq241 k226))
  have k1283 := wd_at.pt ew1272 k1260 (Ne.symm (wd_nL hq619 k601))
  have k1284 := wd_at.pt ew1272 k1261 (Ne.symm (wd_nL hq655 k638))
  have k1285 := wd_at.pt ew1272 k1262 (Ne.symm (wd_nL hq893 k874))
  have k1286 := wd_at.pt ew1272 k1263 (Ne.symm (wd_nL hq933 k914))
  have k1287 := wd_at.pt ew1272 k1264 (Ne.symm (wd_nL hq975 k955))
  have k1288 := wd_at.pt ew1272 k1265 (Ne.symm (wd_nL hq1249 k1227))
  have fm1289 : ∀ z9, z9 < 12 → wd_at w1271 (r2 z9) (.inl (cy 2, 12, .inl ((fun _ _ => 0) z9))) := fun z9 hi9 => wd_at.pt ew1272 (fm1266 z9 hi9) (fn10 z9 hi9)
  have fm1290 : ∀ z9, z9 < 12 → wd_at w1271 (r23 z9) (.inl (cy 2, 12, .inl ((fun _ _ => 0) z9))) := fun z9 hi9 => wd_at.pt ew1272 (fm1268 z9 hi9) (fn31 z9 hi9)
  have kp1291 := kp1270.put ew1272 sy
  refine lv_aload_n hx hb dX11_init_305 rfl (lv_at hl 0 rfl) ?_
  refine lv_sipush (v := 200) hx hb dX11_init_306 (by decide) ?_
  refine y_newI (N := 200) F hP hD hS (List.mem_cons_of_mem _ (List.mem_append_left _ (List.mem_append_left _ (List.mem_of_getElem? (i := 4) rfl)))) (by decide) (by decide) (by decide) (Nat.le_of_ble_eq_true rfl) (Nat.le_of_ble_eq_true rfl) dX11_init_309 (fun q1292 w1293 ew1294 hq1295 H hP hD hS => ?_)
  refine W.widen (k := 120) (n := 6545) (Nat.le_of_ble_eq_true rfl) (Nat.le_of_ble_eq_true rfl) ?_
  have k1296 := wd_at.ad ew1294 hq1295 k1273
  have k1297 := wd_at.ad ew1294 hq1295 k1274
  have k1298 := wd_at.ad ew1294 hq1295 k1275
  have k1299 := wd_at.ad ew1294 hq1295 k1276
  have k1300 := wd_at.ad ew1294 hq1295 k1277
  have k1301 := wd_at.ad ew1294 hq1295 k1278
  have k1302 := wd_at.ad ew1294 hq1295 k1279
  have k1303 := wd_at.ad ew1294 hq1295 k1280
  have k1304 := wd_at.ad ew1294 hq1295 k1281
  have k1305 := wd_at.ad ew1294 hq1295 k1282
  have k1306 := wd_at.ad ew1294 hq1295 k1283
  have k1307 := wd_at.ad ew1294 hq1295 k1284
  have k1308 := wd_at.ad ew1294 hq1295 k1285
  have k1309 := wd_at.ad ew1294 hq1295 k1286
  have k1310 := wd_at.ad ew1294 hq1295 k1287
  have k1311 : wd_at w1293 q1292 (.inl (cy 2, 200, .inl (fun _ => 0))) := wd_at.nw ew1294
  have fm1312 : ∀ z9, z9 < 12 → wd_at w1293 (r2 z9) (.inl (cy 2, 12, .inl ((fun _ _ => 0) z9))) := fun z9 hi9 => wd_at.ad ew1294 hq1295 (fm1289 z9 hi9)
  have fn1313 : ∀ z9, z9 < 12 → (r2 z9) ≠ q1292 := fun z9 hi9 => wd_nL hq1295 (fm1289 z9 hi9)
  have fm1314 : ∀ z9, z9 < 12 → wd_at w1293 (r23 z9) (.inl (cy 2, 12, .inl ((fun _ _ => 0) z9))) := fun z9 hi9 => wd_at.ad ew1294 hq1295 (fm1290 z9 hi9)
  have fn1315 : ∀ z9, z9 < 12 → (r23 z9) ≠ q1292 := fun z9 hi9 => wd_nL hq1295 (fm1290 z9 hi9)
  have kp1316 := kp1291.add ew1294 hq1295
  refine y_putF (ref := "NoteHouseModel") F hP hD hS k1296 rfl (fun _ h => List.mem_cons_of_mem _ (List.mem_append_right _ (h))) tyX11_ok nmX11 hnm 45 (Nat.le_of_ble_eq_true rfl) (List.mem_cons_of_mem _ (List.mem_append_left _ (List.mem_append_right _ (List.mem_append_left _ (List.mem_of_getElem? (i := 18) rfl))))) rfl rfl rfl rfl rfl (Nat.le_of_ble_eq_true rfl) dX11_init_311 (fun w1317 ew1318 H locs hP hD hS => ?_)
  have k1319 : wd_at w1317 y (.inr (11, [.int 0, .int 0, .ref q1, .ref q22, .ref q50, .ref q72, .ref q96, .int 0, .ref q122, .ref q148, .ref q176, .ref q206, .ref q238, .ref q272, .ref q308, .int 0, .int 0, .ref q344, .ref q380, .ref q416, .ref q452, .ref q488, .ref q524, .ref q560, .ref q616, .int 0, .int 0, .int 0, .int 0, .ref q652, .ref q690, .ref q730, .ref q770, .ref q810, .ref q850, .ref q890, .ref q930, .ref q972, .int 0, .ref q1016, .ref q1062, .ref q1108, .ref q1154, .ref q1200, .ref q1246, .ref q1292, .null, .null, .null, .null, .int 0, .null, .null, .null, .null, .int 0, .null, .null, .null, .null])) := wd_at.ps ew1318 k1296
  have k1320 := wd_at.pt ew1318 k1297 (Ne.symm (wd_nL hq5 hy))
  have k1321 := wd_at.pt ew1318 k1298 (Ne.symm (wd_nL hq26 k18))
  have k1322 := wd_at.pt ew1318 k1299 (Ne.symm (wd_nL hq53 k44))
  have k1323 := wd_at.pt ew1318 k1300 (Ne.symm (wd_nL hq75 k65))
  have k1324 := wd_at.pt ew1318 k1301 (Ne.symm (wd_nL hq125 k113))
  have k1325 := wd_at.pt ew1318 k1302 (Ne.symm (wd_nL hq151 k139))
  have k1326 := wd_at.pt ew1318 k1303 (Ne.symm (wd_nL hq179 k166))
  have k1327 := wd_at.pt ew1318 k1304 (Ne.symm (wd_nL hq209 k195))
  have k1328 := wd_at.pt ew1318 k1305 (Ne.symm (wd_nL hq241 k226))
  have k1329 := wd_at.pt ew1318 k1306 (Ne.symm (wd_nL hq619 k601))
  have k1330 := wd_at.pt ew1318 k1307 (Ne.symm (wd_nL hq655 k638))
  have k1331 := wd_at.pt ew1318 k1308 (Ne.symm (wd_nL hq893 k874))
  have k1332 := wd_at.pt ew1318 k1309 (Ne.symm (wd_nL hq933 k914))
  have k1333 := wd_at.pt ew1318 k1310 (Ne.symm (wd_nL hq975 k955))
  have k1334 := wd_at.pt ew1318 k1311 (Ne.symm (wd_nL hq1295 k1273))
  have fm1335 : ∀ z9, z9 < 12 → wd_at w1317 (r2 z9) (.inl (cy 2, 12, .inl ((fun _ _ => 0) z9))) := fun z9 hi9 => wd_at.pt ew1318 (fm1312 z9 hi9) (fn10 z9 hi9)
  have fm1336 : ∀ z9, z9 < 12 → wd_at w1317 (r23 z9) (.inl (cy 2, 12, .inl ((fun _ _ => 0) z9))) := fun z9 hi9 => wd_at.pt ew1318 (fm1314 z9 hi9) (fn31 z9 hi9)
  have kp1337 := kp1316.put ew1318 sy
  refine lv_aload_n hx hb dX11_init_314 rfl (lv_at hl 0 rfl) ?_
  refine lv_sipush (v := 200) hx hb dX11_init_315 (by decide) ?_
  refine y_newI (N := 200) F hP hD hS (List.mem_cons_of_mem _ (List.mem_append_left _ (List.mem_append_left _ (List.mem_of_getElem? (i := 4) rfl)))) (by decide) (by decide) (by decide) (Nat.le_of_ble_eq_true rfl) (Nat.le_of_ble_eq_true rfl) dX11_init_318 (fun q1338 w1339 ew1340 hq1341 H hP hD hS => ?_)
  refine W.widen (k := 121) (n := 6745) (Nat.le_of_ble_eq_true rfl) (Nat.le_of_ble_eq_true rfl) ?_
  have k1342 := wd_at.ad ew1340 hq1341 k1319
  have k1343 := wd_at.ad ew1340 hq1341 k1320
  have k1344 := wd_at.ad ew1340 hq1341 k1321
  have k1345 := wd_at.ad ew1340 hq1341 k1322
  have k1346 := wd_at.ad ew1340 hq1341 k1323
  have k1347 := wd_at.ad ew1340 hq1341 k1324
  have k1348 := wd_at.ad ew1340 hq1341 k1325
  have k1349 := wd_at.ad ew1340 hq1341 k1326
  have k1350 := wd_at.ad ew1340 hq1341 k1327
  have k1351 := wd_at.ad ew1340 hq1341 k1328
  have k1352 := wd_at.ad ew1340 hq1341 k1329
  have k1353 := wd_at.ad ew1340 hq1341 k1330
  have k1354 := wd_at.ad ew1340 hq1341 k1331
  have k1355 := wd_at.ad ew1340 hq1341 k1332
  have k1356 := wd_at.ad ew1340 hq1341 k1333
  have k1357 : wd_at w1339 q1338 (.inl (cy 2, 200, .inl (fun _ => 0))) := wd_at.nw ew1340
  have fm1358 : ∀ z9, z9 < 12 → wd_at w1339 (r2 z9) (.inl (cy 2, 12, .inl ((fun _ _ => 0) z9))) := fun z9 hi9 => wd_at.ad ew1340 hq1341 (fm1335 z9 hi9)
  have fn1359 : ∀ z9, z9 < 12 → (r2 z9) ≠ q1338 := fun z9 hi9 => wd_nL hq1341 (fm1335 z9 hi9)
  have fm1360 : ∀ z9, z9 < 12 → wd_at w1339 (r23 z9) (.inl (cy 2, 12, .inl ((fun _ _ => 0) z9))) := fun z9 hi9 => wd_at.ad ew1340 hq1341 (fm1336 z9 hi9)
  have fn1361 : ∀ z9, z9 < 12 → (r23 z9) ≠ q1338 := fun z9 hi9 => wd_nL hq1341 (fm1336 z9 hi9)
  have kp1362 := kp1337.add ew1340 hq1341
  refine y_putF (ref := "NoteHouseModel") F hP hD hS k1342 rfl (fun _ h => List.mem_cons_of_mem _ (List.mem_append_right _ (h))) tyX11_ok nmX11 hnm 46 (Nat.le_of_ble_eq_true rfl) (List.mem_cons_of_mem _ (List.mem_append_left _ (List.mem_append_right _ (List.mem_append_left _ (List.mem_of_getElem? (i := 19) rfl))))) rfl rfl rfl rfl rfl (Nat.le_of_ble_eq_true rfl) dX11_init_320 (fun w1363 ew1364 H locs hP hD hS => ?_)
  have k1365 : wd_at w1363 y (.inr (11, [.int 0, .int 0, .ref q1, .ref q22, .ref q50, .ref q72, .ref q96, .int 0, .ref q122, .ref q148, .ref q176, .ref q206, .ref q238, .ref q272, .ref q308, .int 0, .int 0, .ref q344, .ref q380, .ref q416, .ref q452, .ref q488, .ref q524, .ref q560, .ref q616, .int 0, .int 0, .int 0, .int 0, .ref q652, .ref q690, .ref q730, .ref q770, .ref q810, .ref q850, .ref q890, .ref q930, .ref q972, .int 0, .ref q1016, .ref q1062, .ref q1108, .ref q1154, .ref q1200, .ref q1246, .ref q1292, .ref q1338, .null, .null, .null, .int 0, .null, .null, .null, .null, .int 0, .null, .null, .null, .null])) := wd_at.ps ew1364 k1342
  have k1366 := wd_at.pt ew1364 k1343 (Ne.symm (wd_nL hq5 hy))
  have k1367 := wd_at.pt ew1364 k1344 (Ne.symm (wd_nL hq26 k18))
  have k1368 := wd_at.pt ew1364 k1345 (Ne.symm (wd_nL hq53 k44))
  have k1369 := wd_at.pt ew1364 k1346 (Ne.symm (wd_nL hq75 k65))
  have k1370 := wd_at.pt ew1364 k1347 (Ne.symm (wd_nL hq125 k113))
  have k1371 := wd_at.pt ew1364 k1348 (Ne.symm (wd_nL hq151 k139))
  have k1372 := wd_at.pt ew1364 k1349 (Ne.symm (wd_nL hq179 k166))
  have k1373 := wd_at.pt ew1364 k1350 (Ne.symm (wd_nL hq209 k195))
  have k1374 := wd_at.pt ew1364 k1351 (Ne.symm (wd_nL hq241 k226))
  have k1375 := wd_at.pt ew1364 k1352 (Ne.symm (wd_nL hq619 k601))
  have k1376 := wd_at.pt ew1364 k1353 (Ne.symm (wd_nL hq655 k638))
  have k1377 := wd_at.pt ew1364 k1354 (Ne.symm (wd_nL hq893 k874))
  have k1378 := wd_at.pt ew1364 k1355 (Ne.symm (wd_nL hq933 k914))
  have k1379 := wd_at.pt ew1364 k1356 (Ne.symm (wd_nL hq975 k955))
  have k1380 := wd_at.pt ew1364 k1357 (Ne.symm (wd_nL hq1341 k1319))
  have fm1381 : ∀ z9, z9 < 12 → wd_at w1363 (r2 z9) (.inl (cy 2, 12, .inl ((fun _ _ => 0) z9))) := fun z9 hi9 => wd_at.pt ew1364 (fm1358 z9 hi9) (fn10 z9 hi9)
  have fm1382 : ∀ z9, z9 < 12 → wd_at w1363 (r23 z9) (.inl (cy 2, 12, .inl ((fun _ _ => 0) z9))) := fun z9 hi9 => wd_at.pt ew1364 (fm1360 z9 hi9) (fn31 z9 hi9)
  have kp1383 := kp1362.put ew1364 sy
  refine lv_aload_n hx hb dX11_init_323 rfl (lv_at hl 0 rfl) ?_
  refine lv_sipush (v := 200) hx hb dX11_init_324 (by decide) ?_
  refine y_newI (N := 200) F hP hD hS (List.mem_cons_of_mem _ (List.mem_append_left _ (List.mem_append_left _ (List.mem_of_getElem? (i := 4) rfl)))) (by decide) (by decide) (by decide) (Nat.le_of_ble_eq_true rfl) (Nat.le_of_ble_eq_true rfl) dX11_init_327 (fun q1384 w1385 ew1386 hq1387 H hP hD hS => ?_)
  refine W.widen (k := 122) (n := 6945) (Nat.le_of_ble_eq_true rfl) (Nat.le_of_ble_eq_true rfl) ?_
  have k1388 := wd_at.ad ew1386 hq1387 k1365
  have k1389 := wd_at.ad ew1386 hq1387 k1366
  have k1390 := wd_at.ad ew1386 hq1387 k1367
  have k1391 := wd_at.ad ew1386 hq1387 k1368
  have k1392 := wd_at.ad ew1386 hq1387 k1369
  have k1393 := wd_at.ad ew1386 hq1387 k1370
  have k1394 := wd_at.ad ew1386 hq1387 k1371
  have k1395 := wd_at.ad ew1386 hq1387 k1372
  have k1396 := wd_at.ad ew1386 hq1387 k1373
  have k1397 := wd_at.ad ew1386 hq1387 k1374
  have k1398 := wd_at.ad ew1386 hq1387 k1375
  have k1399 := wd_at.ad ew1386 hq1387 k1376
  have k1400 := wd_at.ad ew1386 hq1387 k1377
  have k1401 := wd_at.ad ew1386 hq1387 k1378
  have k1402 := wd_at.ad ew1386 hq1387 k1379
  have k1403 : wd_at w1385 q1384 (.inl (cy 2, 200, .inl (fun _ => 0))) := wd_at.nw ew1386
  have fm1404 : ∀ z9, z9 < 12 → wd_at w1385 (r2 z9) (.inl (cy 2, 12, .inl ((fun _ _ => 0) z9))) := fun z9 hi9 => wd_at.ad ew1386 hq1387 (fm1381 z9 hi9)
  have fn1405 : ∀ z9, z9 < 12 → (r2 z9) ≠ q1384 := fun z9 hi9 => wd_nL hq1387 (fm1381 z9 hi9)
  have fm1406 : ∀ z9, z9 < 12 → wd_at w1385 (r23 z9) (.inl (cy 2, 12, .inl ((fun _ _ => 0) z9))) := fun z9 hi9 => wd_at.ad ew1386 hq1387 (fm1382 z9 hi9)
  have fn1407 : ∀ z9, z9 < 12 → (r23 z9) ≠ q1384 := fun z9 hi9 => wd_nL hq1387 (fm1382 z9 hi9)
  have kp1408 := kp1383.add ew1386 hq1387
  refine y_putF (ref := "NoteHouseModel") F hP hD hS k1388 rfl (fun _ h => List.mem_cons_of_mem _ (List.mem_append_right _ (h))) tyX11_ok nmX11 hnm 47 (Nat.le_of_ble_eq_true rfl) (List.mem_cons_of_mem _ (List.mem_append_left _ (List.mem_append_right _ (List.mem_append_left _ (List.mem_of_getElem? (i := 20) rfl))))) rfl rfl rfl rfl rfl (Nat.le_of_ble_eq_true rfl) dX11_init_329 (fun w1409 ew1410 H locs hP hD hS => ?_)
  have k1411 : wd_at w1409 y (.inr (11, [.int 0, .int 0, .ref q1, .ref q22, .ref q50, .ref q72, .ref q96, .int 0, .ref q122, .ref q148, .ref q176, .ref q206, .ref q238, .ref q272, .ref q308, .int 0, .int 0, .ref q344, .ref q380, .ref q416, .ref q452, .ref q488, .ref q524, .ref q560, .ref q616, .int 0, .int 0, .int 0, .int 0, .ref q652, .ref q690, .ref q730, .ref q770, .ref q810, .ref q850, .ref q890, .ref q930, .ref q972, .int 0, .ref q1016, .ref q1062, .ref q1108, .ref q1154, .ref q1200, .ref q1246, .ref q1292, .ref q1338, .ref q1384, .null, .null, .int 0, .null, .null, .null, .null, .int 0, .null, .null, .null, .null])) := wd_at.ps ew1410 k1388
  have k1412 := wd_at.pt ew1410 k1389 (Ne.symm (wd_nL hq5 hy))
  have k1413 := wd_at.pt ew1410 k1390 (Ne.symm (wd_nL hq26 k18))
  have k1414 := wd_at.pt ew1410 k1391 (Ne.symm (wd_nL hq53 k44))
  have k1415 := wd_at.pt ew1410 k1392 (Ne.symm (wd_nL hq75 k65))
  have k1416 := wd_at.pt ew1410 k1393 (Ne.symm (wd_nL hq125 k113))
  have k1417 := wd_at.pt ew1410 k1394 (Ne.symm (wd_nL hq151 k139))
  have k1418 := wd_at.pt ew1410 k1395 (Ne.symm (wd_nL hq179 k166))
  have k1419 := wd_at.pt ew1410 k1396 (Ne.symm (wd_nL hq209 k195))
  have k1420 := wd_at.pt ew1410 k1397 (Ne.symm (wd_nL hq241 k226))
  have k1421 := wd_at.pt ew1410 k1398 (Ne.symm (wd_nL hq619 k601))
  have k1422 := wd_at.pt ew1410 k1399 (Ne.symm (wd_nL hq655 k638))
  have k1423 := wd_at.pt ew1410 k1400 (Ne.symm (wd_nL hq893 k874))
  have k1424 := wd_at.pt ew1410 k1401 (Ne.symm (wd_nL hq933 k914))
  have k1425 := wd_at.pt ew1410 k1402 (Ne.symm (wd_nL hq975 k955))
  have k1426 := wd_at.pt ew1410 k1403 (Ne.symm (wd_nL hq1387 k1365))
  have fm1427 : ∀ z9, z9 < 12 → wd_at w1409 (r2 z9) (.inl (cy 2, 12, .inl ((fun _ _ => 0) z9))) := fun z9 hi9 => wd_at.pt ew1410 (fm1404 z9 hi9) (fn10 z9 hi9)
  have fm1428 : ∀ z9, z9 < 12 → wd_at w1409 (r23 z9) (.inl (cy 2, 12, .inl ((fun _ _ => 0) z9))) := fun z9 hi9 => wd_at.pt ew1410 (fm1406 z9 hi9) (fn31 z9 hi9)
  have kp1429 := kp1408.put ew1410 sy
  refine lv_aload_n hx hb dX11_init_332 rfl (lv_at hl 0 rfl) ?_
  refine lv_sipush (v := 200) hx hb dX11_init_333 (by decide) ?_
  refine y_newJ (N := 200) F hP hD hS (List.mem_cons_of_mem _ (List.mem_append_left _ (List.mem_append_right _ (List.mem_append_left _ (List.mem_of_getElem? (i := 21) rfl))))) (by decide) (by decide) (by decide) (Nat.le_of_ble_eq_true rfl) (Nat.le_of_ble_eq_true rfl) dX11_init_336 (fun q1430 w1431 ew1432 hq1433 H hP hD hS => ?_)
  refine W.widen (k := 123) (n := 7145) (Nat.le_of_ble_eq_true rfl) (Nat.le_of_ble_eq_true rfl) ?_
  have k1434 := wd_at.ad ew1432 hq1433 k1411
  have k1435 := wd_at.ad ew1432 hq1433 k1412
  have k1436 := wd_at.ad ew1432 hq1433 k1413
  have k1437 := wd_at.ad ew1432 hq1433 k1414
  have k1438 := wd_at.ad ew1432 hq1433 k1415
  have k1439 := wd_at.ad ew1432 hq1433 k1416
  have k1440 := wd_at.ad ew1432 hq1433 k1417
  have k1441 := wd_at.ad ew1432 hq1433 k1418
  have k1442 := wd_at.ad ew1432 hq1433 k1419
  have k1443 := wd_at.ad ew1432 hq1433 k1420
  have k1444 := wd_at.ad ew1432 hq1433 k1421
  have k1445 := wd_at.ad ew1432 hq1433 k1422
  have k1446 := wd_at.ad ew1432 hq1433 k1423
  have k1447 := wd_at.ad ew1432 hq1433 k1424
  have k1448 := wd_at.ad ew1432 hq1433 k1425
  have k1449 : wd_at w1431 q1430 (.inl (cy 3, 200, .inr (.inl (fun _ => 0)))) := wd_at.nw ew1432
  have fm1450 : ∀ z9, z9 < 12 → wd_at w1431 (r2 z9) (.inl (cy 2, 12, .inl ((fun _ _ => 0) z9))) := fun z9 hi9 => wd_at.ad ew1432 hq1433 (fm1427 z9 hi9)
  have fn1451 : ∀ z9, z9 < 12 → (r2 z9) ≠ q1430 := fun z9 hi9 => wd_nL hq1433 (fm1427 z9 hi9)
  have fm1452 : ∀ z9, z9 < 12 → wd_at w1431 (r23 z9) (.inl (cy 2, 12, .inl ((fun _ _ => 0) z9))) := fun z9 hi9 => wd_at.ad ew1432 hq1433 (fm1428 z9 hi9)
  have fn1453 : ∀ z9, z9 < 12 → (r23 z9) ≠ q1430 := fun z9 hi9 => wd_nL hq1433 (fm1428 z9 hi9)
  have kp1454 := kp1429.add ew1432 hq1433
  refine y_putF (ref := "NoteHouseModel") F hP hD hS k1434 rfl (fun _ h => List.mem_cons_of_mem _ (List.mem_append_right _ (h))) tyX11_ok nmX11 hnm 48 (Nat.le_of_ble_eq_true rfl) (List.mem_cons_of_mem _ (List.mem_append_left _ (List.mem_append_right _ (List.mem_append_left _ (List.mem_of_getElem? (i := 22) rfl))))) rfl rfl rfl rfl rfl (Nat.le_of_ble_eq_true rfl) dX11_init_338 (fun w1455 ew1456 H locs hP hD hS => ?_)
  have k1457 : wd_at w1455 y (.inr (11, [.int 0, .int 0, .ref q1, .ref q22, .ref q50, .ref q72, .ref q96, .int 0, .ref q122, .ref q148, .ref q176, .ref q206, .ref q238, .ref q272, .ref q308, .int 0, .int 0, .ref q344, .ref q380, .ref q416, .ref q452, .ref q488, .ref q524, .ref q560, .ref q616, .int 0, .int 0, .int 0, .int 0, .ref q652, .ref q690, .ref q730, .ref q770, .ref q810, .ref q850, .ref q890, .ref q930, .ref q972, .int 0, .ref q1016, .ref q1062, .ref q1108, .ref q1154, .ref q1200, .ref q1246, .ref q1292, .ref q1338, .ref q1384, .ref q1430, .null, .int 0, .null, .null, .null, .null, .int 0, .null, .null, .null, .null])) := wd_at.ps ew1456 k1434
  have k1458 := wd_at.pt ew1456 k1435 (Ne.symm (wd_nL hq5 hy))
  have k1459 := wd_at.pt ew1456 k1436 (Ne.symm (wd_nL hq26 k18))
  have k1460 := wd_at.pt ew1456 k1437 (Ne.symm (wd_nL hq53 k44))
  have k1461 := wd_at.pt ew1456 k1438 (Ne.symm (wd_nL hq75 k65))
  have k1462 := wd_at.pt ew1456 k1439 (Ne.symm (wd_nL hq125 k113))
  have k1463 := wd_at.pt ew1456 k1440 (Ne.symm (wd_nL hq151 k139))
  have k1464 := wd_at.pt ew1456 k1441 (Ne.symm (wd_nL hq179 k166))
  have k1465 := wd_at.pt ew1456 k1442 (Ne.symm (wd_nL hq209 k195))
  have k1466 := wd_at.pt ew1456 k1443 (Ne.symm (wd_nL hq241 k226))
  have k1467 := wd_at.pt ew1456 k1444 (Ne.symm (wd_nL hq619 k601))
  have k1468 := wd_at.pt ew1456 k1445 (Ne.symm (wd_nL hq655 k638))
  have k1469 := wd_at.pt ew1456 k1446 (Ne.symm (wd_nL hq893 k874))
  have k1470 := wd_at.pt ew1456 k1447 (Ne.symm (wd_nL hq933 k914))
  have k1471 := wd_at.pt ew1456 k1448 (Ne.symm (wd_nL hq975 k955))
  have k1472 := wd_at.pt ew1456 k1449 (Ne.symm (wd_nL hq1433 k1411))
  have fm1473 : ∀ z9, z9 < 12 → wd_at w1455 (r2 z9) (.inl (cy 2, 12, .inl ((fun _ _ => 0) z9))) := fun z9 hi9 => wd_at.pt ew1456 (fm1450 z9 hi9) (fn10 z9 hi9)
  have fm1474 : ∀ z9, z9 < 12 → wd_at w1455 (r23 z9) (.inl (cy 2, 12, .inl ((fun _ _ => 0) z9))) := fun z9 hi9 => wd_at.pt ew1456 (fm1452 z9 hi9) (fn31 z9 hi9)
  have kp1475 := kp1454.put ew1456 sy
  refine lv_aload_n hx hb dX11_init_341 rfl (lv_at hl 0 rfl) ?_
  refine lv_bipush (v := 12) hx hb dX11_init_342 (by decide) ?_
  refine y_newI (N := 12) F hP hD hS (List.mem_cons_of_mem _ (List.mem_append_left _ (List.mem_append_left _ (List.mem_of_getElem? (i := 4) rfl)))) (by decide) (by decide) (by decide) (Nat.le_of_ble_eq_true rfl) (Nat.le_of_ble_eq_true rfl) dX11_init_344 (fun q1476 w1477 ew1478 hq1479 H hP hD hS => ?_)
  refine W.widen (k := 124) (n := 7157) (Nat.le_of_ble_eq_true rfl) (Nat.le_of_ble_eq_true rfl) ?_
  have k1480 := wd_at.ad ew1478 hq1479 k1457
  have k1481 := wd_at.ad ew1478 hq1479 k1458
  have k1482 := wd_at.ad ew1478 hq1479 k1459
  have k1483 := wd_at.ad ew1478 hq1479 k1460
  have k1484 := wd_at.ad ew1478 hq1479 k1461
  have k1485 := wd_at.ad ew1478 hq1479 k1462
  have k1486 := wd_at.ad ew1478 hq1479 k1463
  have k1487 := wd_at.ad ew1478 hq1479 k1464
  have k1488 := wd_at.ad ew1478 hq1479 k1465
  have k1489 := wd_at.ad ew1478 hq1479 k1466
  have k1490 := wd_at.ad ew1478 hq1479 k1467
  have k1491 := wd_at.ad ew1478 hq1479 k1468
  have k1492 := wd_at.ad ew1478 hq1479 k1469
  have k1493 := wd_at.ad ew1478 hq1479 k1470
  have k1494 := wd_at.ad ew1478 hq1479 k1471
  have k1495 : wd_at w1477 q1476 (.inl (cy 2, 12, .inl (fun _ => 0))) := wd_at.nw ew1478
  have fm1496 : ∀ z9, z9 < 12 → wd_at w1477 (r2 z9) (.inl (cy 2, 12, .inl ((fun _ _ => 0) z9))) := fun z9 hi9 => wd_at.ad ew1478 hq1479 (fm1473 z9 hi9)
  have fn1497 : ∀ z9, z9 < 12 → (r2 z9) ≠ q1476 := fun z9 hi9 => wd_nL hq1479 (fm1473 z9 hi9)
  have fm1498 : ∀ z9, z9 < 12 → wd_at w1477 (r23 z9) (.inl (cy 2, 12, .inl ((fun _ _ => 0) z9))) := fun z9 hi9 => wd_at.ad ew1478 hq1479 (fm1474 z9 hi9)
  have fn1499 : ∀ z9, z9 < 12 → (r23 z9) ≠ q1476 := fun z9 hi9 => wd_nL hq1479 (fm1474 z9 hi9)
  have kp1500 := kp1475.add ew1478 hq1479
  refine y_putF (ref := "NoteHouseModel") F hP hD hS k1480 rfl (fun _ h => List.mem_cons_of_mem _ (List.mem_append_right _ (h))) tyX11_ok nmX11 hnm 49 (Nat.le_of_ble_eq_true rfl) (List.mem_cons_of_mem _ (List.mem_append_left _ (List.mem_append_right _ (List.mem_append_left _ (List.mem_of_getElem? (i := 23) rfl))))) rfl rfl rfl rfl rfl (Nat.le_of_ble_eq_true rfl) dX11_init_346 (fun w1501 ew1502 H locs hP hD hS => ?_)
  have k1503 : wd_at w1501 y (.inr (11, [.int 0, .int 0, .ref q1, .ref q22, .ref q50, .ref q72, .ref q96, .int 0, .ref q122, .ref q148, .ref q176, .ref q206, .ref q238, .ref q272, .ref q308, .int 0, .int 0, .ref q344, .ref q380, .ref q416, .ref q452, .ref q488, .ref q524, .ref q560, .ref q616, .int 0, .int 0, .int 0, .int 0, .ref q652, .ref q690, .ref q730, .ref q770, .ref q810, .ref q850, .ref q890, .ref q930, .ref q972, .int 0, .ref q1016, .ref q1062, .ref q1108, .ref q1154, .ref q1200, .ref q1246, .ref q1292, .ref q1338, .ref q1384, .ref q1430, .ref q1476, .int 0, .null, .null, .null, .null, .int 0, .null, .null, .null, .null])) := wd_at.ps ew1502 k1480
  have k1504 := wd_at.pt ew1502 k1481 (Ne.symm (wd_nL hq5 hy))
  have k1505 := wd_at.pt ew1502 k1482 (Ne.symm (wd_nL hq26 k18))
  have k1506 := wd_at.pt ew1502 k1483 (Ne.symm (wd_nL hq53 k44))
  have k1507 := wd_at.pt ew1502 k1484 (Ne.symm (wd_nL hq75 k65))
  have k1508 := wd_at.pt ew1502 k1485 (Ne.symm (wd_nL hq125 k113))
  have k1509 := wd_at.pt ew1502 k1486 (Ne.symm (wd_nL hq151 k139))
  have k1510 := wd_at.pt ew1502 k1487 (Ne.symm (wd_nL hq179 k166))
  have k1511 := wd_at.pt ew1502 k1488 (Ne.symm (wd_nL hq209 k195))
  have k1512 := wd_at.pt ew1502 k1489 (Ne.symm (wd_nL hq241 k226))
  have k1513 := wd_at.pt ew1502 k1490 (Ne.symm (wd_nL hq619 k601))
  have k1514 := wd_at.pt ew1502 k1491 (Ne.symm (wd_nL hq655 k638))
  have k1515 := wd_at.pt ew1502 k1492 (Ne.symm (wd_nL hq893 k874))
  have k1516 := wd_at.pt ew1502 k1493 (Ne.symm (wd_nL hq933 k914))
  have k1517 := wd_at.pt ew1502 k1494 (Ne.symm (wd_nL hq975 k955))
  have k1518 := wd_at.pt ew1502 k1495 (Ne.symm (wd_nL hq1479 k1457))
  have fm1519 : ∀ z9, z9 < 12 → wd_at w1501 (r2 z9) (.inl (cy 2, 12, .inl ((fun _ _ => 0) z9))) := fun z9 hi9 => wd_at.pt ew1502 (fm1496 z9 hi9) (fn10 z9 hi9)
  have fm1520 : ∀ z9, z9 < 12 → wd_at w1501 (r23 z9) (.inl (cy 2, 12, .inl ((fun _ _ => 0) z9))) := fun z9 hi9 => wd_at.pt ew1502 (fm1498 z9 hi9) (fn31 z9 hi9)
  have kp1521 := kp1500.put ew1502 sy
  refine lv_aload_n hx hb dX11_init_349 rfl (lv_at hl 0 rfl) ?_
  refine lv_sipush (v := 200) hx hb dX11_init_350 (by decide) ?_
  refine y_newI (N := 200) F hP hD hS (List.mem_cons_of_mem _ (List.mem_append_left _ (List.mem_append_left _ (List.mem_of_getElem? (i := 4) rfl)))) (by decide) (by decide) (by decide) (Nat.le_of_ble_eq_true rfl) (Nat.le_of_ble_eq_true rfl) dX11_init_353 (fun q1522 w1523 ew1524 hq1525 H hP hD hS => ?_)
  refine W.widen (k := 125) (n := 7357) (Nat.le_of_ble_eq_true rfl) (Nat.le_of_ble_eq_true rfl) ?_
  have k1526 := wd_at.ad ew1524 hq1525 k1503
  have k1527 := wd_at.ad ew1524 hq1525 k1504
  have k1528 := wd_at.ad ew1524 hq1525 k1505
  have k1529 := wd_at.ad ew1524 hq1525 k1506
  have k1530 := wd_at.ad ew1524 hq1525 k1507
  have k1531 := wd_at.ad ew1524 hq1525 k1508
  have k1532 := wd_at.ad ew1524 hq1525 k1509
  have k1533 := wd_at.ad ew1524 hq1525 k1510
  have k1534 := wd_at.ad ew1524 hq1525 k1511
  have k1535 := wd_at.ad ew1524 hq1525 k1512
  have k1536 := wd_at.ad ew1524 hq1525 k1513
  have k1537 := wd_at.ad ew1524 hq1525 k1514
  have k1538 := wd_at.ad ew1524 hq1525 k1515
  have k1539 := wd_at.ad ew1524 hq1525 k1516
  have k1540 := wd_at.ad ew1524 hq1525 k1517
  have k1541 := wd_at.ad ew1524 hq1525 k1518
  have k1542 : wd_at w1523 q1522 (.inl (cy 2, 200, .inl (fun _ => 0))) := wd_at.nw ew1524
  have fm1543 : ∀ z9, z9 < 12 → wd_at w1523 (r2 z9) (.inl (cy 2, 12, .inl ((fun _ _ => 0) z9))) := fun z9 hi9 => wd_at.ad ew1524 hq1525 (fm1519 z9 hi9)
  have fn1544 : ∀ z9, z9 < 12 → (r2 z9) ≠ q1522 := fun z9 hi9 => wd_nL hq1525 (fm1519 z9 hi9)
  have fm1545 : ∀ z9, z9 < 12 → wd_at w1523 (r23 z9) (.inl (cy 2, 12, .inl ((fun _ _ => 0) z9))) := fun z9 hi9 => wd_at.ad ew1524 hq1525 (fm1520 z9 hi9)
  have fn1546 : ∀ z9, z9 < 12 → (r23 z9) ≠ q1522 := fun z9 hi9 => wd_nL hq1525 (fm1520 z9 hi9)
  have kp1547 := kp1521.add ew1524 hq1525
  refine y_putF (ref := "NoteHouseModel") F hP hD hS k1526 rfl (fun _ h => List.mem_cons_of_mem _ (List.mem_append_right _ (h))) tyX11_ok nmX11 hnm 51 (Nat.le_of_ble_eq_true rfl) (List.mem_cons_of_mem _ (List.mem_append_left _ (List.mem_append_right _ (List.mem_append_right _ (List.mem_of_getElem? (i := 0) rfl))))) rfl rfl rfl rfl rfl (Nat.le_of_ble_eq_true rfl) dX11_init_355 (fun w1548 ew1549 H locs hP hD hS => ?_)
  have k1550 : wd_at w1548 y (.inr (11, [.int 0, .int 0, .ref q1, .ref q22, .ref q50, .ref q72, .ref q96, .int 0, .ref q122, .ref q148, .ref q176, .ref q206, .ref q238, .ref q272, .ref q308, .int 0, .int 0, .ref q344, .ref q380, .ref q416, .ref q452, .ref q488, .ref q524, .ref q560, .ref q616, .int 0, .int 0, .int 0, .int 0, .ref q652, .ref q690, .ref q730, .ref q770, .ref q810, .ref q850, .ref q890, .ref q930, .ref q972, .int 0, .ref q1016, .ref q1062, .ref q1108, .ref q1154, .ref q1200, .ref q1246, .ref q1292, .ref q1338, .ref q1384, .ref q1430, .ref q1476, .int 0, .ref q1522, .null, .null, .null, .int 0, .null, .null, .null, .null])) := wd_at.ps ew1549 k1526
  have k1551 := wd_at.pt ew1549 k1527 (Ne.symm (wd_nL hq5 hy))
  have k1552 := wd_at.pt ew1549 k1528 (Ne.symm (wd_nL hq26 k18))
  have k1553 := wd_at.pt ew1549 k1529 (Ne.symm (wd_nL hq53 k44))
  have k1554 := wd_at.pt ew1549 k1530 (Ne.symm (wd_nL hq75 k65))
  have k1555 := wd_at.pt ew1549 k1531 (Ne.symm (wd_nL hq125 k113))
  have k1556 := wd_at.pt ew1549 k1532 (Ne.symm (wd_nL hq151 k139))
  have k1557 := wd_at.pt ew1549 k1533 (Ne.symm (wd_nL hq179 k166))
  have k1558 := wd_at.pt ew1549 k1534 (Ne.symm (wd_nL hq209 k195))
  have k1559 := wd_at.pt ew1549 k1535 (Ne.symm (wd_nL hq241 k226))
  have k1560 := wd_at.pt ew1549 k1536 (Ne.symm (wd_nL hq619 k601))
  have k1561 := wd_at.pt ew1549 k1537 (Ne.symm (wd_nL hq655 k638))
  have k1562 := wd_at.pt ew1549 k1538 (Ne.symm (wd_nL hq893 k874))
  have k1563 := wd_at.pt ew1549 k1539 (Ne.symm (wd_nL hq933 k914))
  have k1564 := wd_at.pt ew1549 k1540 (Ne.symm (wd_nL hq975 k955))
  have k1565 := wd_at.pt ew1549 k1541 (Ne.symm (wd_nL hq1479 k1457))
  have k1566 := wd_at.pt ew1549 k1542 (Ne.symm (wd_nL hq1525 k1503))
  have fm1567 : ∀ z9, z9 < 12 → wd_at w1548 (r2 z9) (.inl (cy 2, 12, .inl ((fun _ _ => 0) z9))) := fun z9 hi9 => wd_at.pt ew1549 (fm1543 z9 hi9) (fn10 z9 hi9)
  have fm1568 : ∀ z9, z9 < 12 → wd_at w1548 (r23 z9) (.inl (cy 2, 12, .inl ((fun _ _ => 0) z9))) := fun z9 hi9 => wd_at.pt ew1549 (fm1545 z9 hi9) (fn31 z9 hi9)
  have kp1569 := kp1547.put ew1549 sy
  refine lv_aload_n hx hb dX11_init_358 rfl (lv_at hl 0 rfl) ?_
  refine lv_sipush (v := 200) hx hb dX11_init_359 (by decide) ?_
  refine y_newJ (N := 200) F hP hD hS (List.mem_cons_of_mem _ (List.mem_append_left _ (List.mem_append_right _ (List.mem_append_left _ (List.mem_of_getElem? (i := 21) rfl))))) (by decide) (by decide) (by decide) (Nat.le_of_ble_eq_true rfl) (Nat.le_of_ble_eq_true rfl) dX11_init_362 (fun q1570 w1571 ew1572 hq1573 H hP hD hS => ?_)
  refine W.widen (k := 126) (n := 7557) (Nat.le_of_ble_eq_true rfl) (Nat.le_of_ble_eq_true rfl) ?_
  have k1574 := wd_at.ad ew1572 hq1573 k1550
  have k1575 := wd_at.ad ew1572 hq1573 k1551
  have k1576 := wd_at.ad ew1572 hq1573 k1552
  have k1577 := wd_at.ad ew1572 hq1573 k1553
  have k1578 := wd_at.ad ew1572 hq1573 k1554
  have k1579 := wd_at.ad ew1572 hq1573 k1555
  have k1580 := wd_at.ad ew1572 hq1573 k1556
  have k1581 := wd_at.ad ew1572 hq1573 k1557
  have k1582 := wd_at.ad ew1572 hq1573 k1558
  have k1583 := wd_at.ad ew1572 hq1573 k1559
  have k1584 := wd_at.ad ew1572 hq1573 k1560
  have k1585 := wd_at.ad ew1572 hq1573 k1561
  have k1586 := wd_at.ad ew1572 hq1573 k1562
  have k1587 := wd_at.ad ew1572 hq1573 k1563
  have k1588 := wd_at.ad ew1572 hq1573 k1564
  have k1589 := wd_at.ad ew1572 hq1573 k1565
  have k1590 := wd_at.ad ew1572 hq1573 k1566
  have k1591 : wd_at w1571 q1570 (.inl (cy 3, 200, .inr (.inl (fun _ => 0)))) := wd_at.nw ew1572
  have fm1592 : ∀ z9, z9 < 12 → wd_at w1571 (r2 z9) (.inl (cy 2, 12, .inl ((fun _ _ => 0) z9))) := fun z9 hi9 => wd_at.ad ew1572 hq1573 (fm1567 z9 hi9)
  have fn1593 : ∀ z9, z9 < 12 → (r2 z9) ≠ q1570 := fun z9 hi9 => wd_nL hq1573 (fm1567 z9 hi9)
  have fm1594 : ∀ z9, z9 < 12 → wd_at w1571 (r23 z9) (.inl (cy 2, 12, .inl ((fun _ _ => 0) z9))) := fun z9 hi9 => wd_at.ad ew1572 hq1573 (fm1568 z9 hi9)
  have fn1595 : ∀ z9, z9 < 12 → (r23 z9) ≠ q1570 := fun z9 hi9 => wd_nL hq1573 (fm1568 z9 hi9)
  have kp1596 := kp1569.add ew1572 hq1573
  refine y_putF (ref := "NoteHouseModel") F hP hD hS k1574 rfl (fun _ h => List.mem_cons_of_mem _ (List.mem_append_right _ (h))) tyX11_ok nmX11 hnm 52 (Nat.le_of_ble_eq_true rfl) (List.mem_cons_of_mem _ (List.mem_append_left _ (List.mem_append_right _ (List.mem_append_right _ (List.mem_of_getElem? (i := 1) rfl))))) rfl rfl rfl rfl rfl (Nat.le_of_ble_eq_true rfl) dX11_init_364 (fun w1597 ew1598 H locs hP hD hS => ?_)
  have k1599 : wd_at w1597 y (.inr (11, [.int 0, .int 0, .ref q1, .ref q22, .ref q50, .ref q72, .ref q96, .int 0, .ref q122, .ref q148, .ref q176, .ref q206, .ref q238, .ref q272, .ref q308, .int 0, .int 0, .ref q344, .ref q380, .ref q416, .ref q452, .ref q488, .ref q524, .ref q560, .ref q616, .int 0, .int 0, .int 0, .int 0, .ref q652, .ref q690, .ref q730, .ref q770, .ref q810, .ref q850, .ref q890, .ref q930, .ref q972, .int 0, .ref q1016, .ref q1062, .ref q1108, .ref q1154, .ref q1200, .ref q1246, .ref q1292, .ref q1338, .ref q1384, .ref q1430, .ref q1476, .int 0, .ref q1522, .ref q1570, .null, .null, .int 0, .null, .null, .null, .null])) := wd_at.ps ew1598 k1574
  have k1600 := wd_at.pt ew1598 k1575 (Ne.symm (wd_nL hq5 hy))
  have k1601 := wd_at.pt ew1598 k1576 (Ne.symm (wd_nL hq26 k18))
  have k1602 := wd_at.pt ew1598 k1577 (Ne.symm (wd_nL hq53 k44))
  have k1603 := wd_at.pt ew1598 k1578 (Ne.symm (wd_nL hq75 k65))
  have k1604 := wd_at.pt ew1598 k1579 (Ne.symm (wd_nL hq125 k113))
  have k1605 := wd_at.pt ew1598 k1580 (Ne.symm (wd_nL hq151 k139))
  have k1606 := wd_at.pt ew1598 k1581 (Ne.symm (wd_nL hq179 k166))
  have k1607 := wd_at.pt ew1598 k1582 (Ne.symm (wd_nL hq209 k195))
  have k1608 := wd_at.pt ew1598 k1583 (Ne.symm (wd_nL hq241 k226))
  have k1609 := wd_at.pt ew1598 k1584 (Ne.symm (wd_nL hq619 k601))
  have k1610 := wd_at.pt ew1598 k1585 (Ne.symm (wd_nL hq655 k638))
  have k1611 := wd_at.pt ew1598 k1586 (Ne.symm (wd_nL hq893 k874))
  have k1612 := wd_at.pt ew1598 k1587 (Ne.symm (wd_nL hq933 k914))
  have k1613 := wd_at.pt ew1598 k1588 (Ne.symm (wd_nL hq975 k955))
  have k1614 := wd_at.pt ew1598 k1589 (Ne.symm (wd_nL hq1479 k1457))
  have k1615 := wd_at.pt ew1598 k1590 (Ne.symm (wd_nL hq1525 k1503))
  have k1616 := wd_at.pt ew1598 k1591 (Ne.symm (wd_nL hq1573 k1550))
  have fm1617 : ∀ z9, z9 < 12 → wd_at w1597 (r2 z9) (.inl (cy 2, 12, .inl ((fun _ _ => 0) z9))) := fun z9 hi9 => wd_at.pt ew1598 (fm1592 z9 hi9) (fn10 z9 hi9)
  have fm1618 : ∀ z9, z9 < 12 → wd_at w1597 (r23 z9) (.inl (cy 2, 12, .inl ((fun _ _ => 0) z9))) := fun z9 hi9 => wd_at.pt ew1598 (fm1594 z9 hi9) (fn31 z9 hi9)
  have kp1619 := kp1596.put ew1598 sy
  refine lv_aload_n hx hb dX11_init_367 rfl (lv_at hl 0 rfl) ?_
  refine lv_bipush (v := 12) hx hb dX11_init_368 (by decide) ?_
  refine y_newJ (N := 12) F hP hD hS (List.mem_cons_of_mem _ (List.mem_append_left _ (List.mem_append_right _ (List.mem_append_left _ (List.mem_of_getElem? (i := 21) rfl))))) (by decide) (by decide) (by decide) (Nat.le_of_ble_eq_true rfl) (Nat.le_of_ble_eq_true rfl) dX11_init_370 (fun q1620 w1621 ew1622 hq1623 H hP hD hS => ?_)
  refine W.widen (k := 127) (n := 7569) (Nat.le_of_ble_eq_true rfl) (Nat.le_of_ble_eq_true rfl) ?_
  have k1624 := wd_at.ad ew1622 hq1623 k1599
  have k1625 := wd_at.ad ew1622 hq1623 k1600
  have k1626 := wd_at.ad ew1622 hq1623 k1601
  have k1627 := wd_at.ad ew1622 hq1623 k1602
  have k1628 := wd_at.ad ew1622 hq1623 k1603
  have k1629 := wd_at.ad ew1622 hq1623 k1604
  have k1630 := wd_at.ad ew1622 hq1623 k1605
  have k1631 := wd_at.ad ew1622 hq1623 k1606
  have k1632 := wd_at.ad ew1622 hq1623 k1607
  have k1633 := wd_at.ad ew1622 hq1623 k1608
  have k1634 := wd_at.ad ew1622 hq1623 k1609
  have k1635 := wd_at.ad ew1622 hq1623 k1610
  have k1636 := wd_at.ad ew1622 hq1623 k1611
  have k1637 := wd_at.ad ew1622 hq1623 k1612
  have k1638 := wd_at.ad ew1622 hq1623 k1613
  have k1639 := wd_at.ad ew1622 hq1623 k1614
  have k1640 := wd_at.ad ew1622 hq1623 k1615
  have k1641 : wd_at w1621 q1620 (.inl (cy 3, 12, .inr (.inl (fun _ => 0)))) := wd_at.nw ew1622
  have fm1642 : ∀ z9, z9 < 12 → wd_at w1621 (r2 z9) (.inl (cy 2, 12, .inl ((fun _ _ => 0) z9))) := fun z9 hi9 => wd_at.ad ew1622 hq1623 (fm1617 z9 hi9)
  have fn1643 : ∀ z9, z9 < 12 → (r2 z9) ≠ q1620 := fun z9 hi9 => wd_nL hq1623 (fm1617 z9 hi9)
  have fm1644 : ∀ z9, z9 < 12 → wd_at w1621 (r23 z9) (.inl (cy 2, 12, .inl ((fun _ _ => 0) z9))) := fun z9 hi9 => wd_at.ad ew1622 hq1623 (fm1618 z9 hi9)
  have fn1645 : ∀ z9, z9 < 12 → (r23 z9) ≠ q1620 := fun z9 hi9 => wd_nL hq1623 (fm1618 z9 hi9)
  have kp1646 := kp1619.add ew1622 hq1623
  refine y_putF (ref := "NoteHouseModel") F hP hD hS k1624 rfl (fun _ h => List.mem_cons_of_mem _ (List.mem_append_right _ (h))) tyX11_ok nmX11 hnm 53 (Nat.le_of_ble_eq_true rfl) (List.mem_cons_of_mem _ (List.mem_append_left _ (List.mem_append_right _ (List.mem_append_right _ (List.mem_of_getElem? (i := 2) rfl))))) rfl rfl rfl rfl rfl (Nat.le_of_ble_eq_true rfl) dX11_init_372 (fun w1647 ew1648 H locs hP hD hS => ?_)
  have k1649 : wd_at w1647 y (.inr (11, [.int 0, .int 0, .ref q1, .ref q22, .ref q50, .ref q72, .ref q96, .int 0, .ref q122, .ref q148, .ref q176, .ref q206, .ref q238, .ref q272, .ref q308, .int 0, .int 0, .ref q344, .ref q380, .ref q416, .ref q452, .ref q488, .ref q524, .ref q560, .ref q616, .int 0, .int 0, .int 0, .int 0, .ref q652, .ref q690, .ref q730, .ref q770, .ref q810, .ref q850, .ref q890, .ref q930, .ref q972, .int 0, .ref q1016, .ref q1062, .ref q1108, .ref q1154, .ref q1200, .ref q1246, .ref q1292, .ref q1338, .ref q1384, .ref q1430, .ref q1476, .int 0, .ref q1522, .ref q1570, .ref q1620, .null, .int 0, .null, .null, .null, .null])) := wd_at.ps ew1648 k1624
  have k1650 := wd_at.pt ew1648 k1625 (Ne.symm (wd_nL hq5 hy))
  have k1651 := wd_at.pt ew1648 k1626 (Ne.symm (wd_nL hq26 k18))
  have k1652 := wd_at.pt ew1648 k1627 (Ne.symm (wd_nL hq53 k44))
  have k1653 := wd_at.pt ew1648 k1628 (Ne.symm (wd_nL hq75 k65))
  have k1654 := wd_at.pt ew1648 k1629 (Ne.symm (wd_nL hq125 k113))
  have k1655 := wd_at.pt ew1648 k1630 (Ne.symm (wd_nL hq151 k139))
  have k1656 := wd_at.pt ew1648 k1631 (Ne.symm (wd_nL hq179 k166))
  have k1657 := wd_at.pt ew1648 k1632 (Ne.symm (wd_nL hq209 k195))
  have k1658 := wd_at.pt ew1648 k1633 (Ne.symm (wd_nL hq241 k226))
  have k1659 := wd_at.pt ew1648 k1634 (Ne.symm (wd_nL hq619 k601))
  have k1660 := wd_at.pt ew1648 k1635 (Ne.symm (wd_nL hq655 k638))
  have k1661 := wd_at.pt ew1648 k1636 (Ne.symm (wd_nL hq893 k874))
  have k1662 := wd_at.pt ew1648 k1637 (Ne.symm (wd_nL hq933 k914))
  have k1663 := wd_at.pt ew1648 k1638 (Ne.symm (wd_nL hq975 k955))
  have k1664 := wd_at.pt ew1648 k1639 (Ne.symm (wd_nL hq1479 k1457))
  have k1665 := wd_at.pt ew1648 k1640 (Ne.symm (wd_nL hq1525 k1503))
  have k1666 := wd_at.pt ew1648 k1641 (Ne.symm (wd_nL hq1623 k1599))
  have fm1667 : ∀ z9, z9 < 12 → wd_at w1647 (r2 z9) (.inl (cy 2, 12, .inl ((fun _ _ => 0) z9))) := fun z9 hi9 => wd_at.pt ew1648 (fm1642 z9 hi9) (fn10 z9 hi9)
  have fm1668 : ∀ z9, z9 < 12 → wd_at w1647 (r23 z9) (.inl (cy 2, 12, .inl ((fun _ _ => 0) z9))) := fun z9 hi9 => wd_at.pt ew1648 (fm1644 z9 hi9) (fn31 z9 hi9)
  have kp1669 := kp1646.put ew1648 sy
  refine lv_aload_n hx hb dX11_init_375 rfl (lv_at hl 0 rfl) ?_
  refine lv_bipush (v := 12) hx hb dX11_init_376 (by decide) ?_
  refine y_newJ (N := 12) F hP hD hS (List.mem_cons_of_mem _ (List.mem_append_left _ (List.mem_append_right _ (List.mem_append_left _ (List.mem_of_getElem? (i := 21) rfl))))) (by decide) (by decide) (by decide) (Nat.le_of_ble_eq_true rfl) (Nat.le_of_ble_eq_true rfl) dX11_init_378 (fun q1670 w1671 ew1672 hq1673 H hP hD hS => ?_)
  refine W.widen (k := 128) (n := 7581) (Nat.le_of_ble_eq_true rfl) (Nat.le_of_ble_eq_true rfl) ?_
  have k1674 := wd_at.ad ew1672 hq1673 k1649
  have k1675 := wd_at.ad ew1672 hq1673 k1650
  have k1676 := wd_at.ad ew1672 hq1673 k1651
  have k1677 := wd_at.ad ew1672 hq1673 k1652
  have k1678 := wd_at.ad ew1672 hq1673 k1653
  have k1679 := wd_at.ad ew1672 hq1673 k1654
  have k1680 := wd_at.ad ew1672 hq1673 k1655
  have k1681 := wd_at.ad ew1672 hq1673 k1656
  have k1682 := wd_at.ad ew1672 hq1673 k1657
  have k1683 := wd_at.ad ew1672 hq1673 k1658
  have k1684 := wd_at.ad ew1672 hq1673 k1659
  have k1685 := wd_at.ad ew1672 hq1673 k1660
  have k1686 := wd_at.ad ew1672 hq1673 k1661
  have k1687 := wd_at.ad ew1672 hq1673 k1662
  have k1688 := wd_at.ad ew1672 hq1673 k1663
  have k1689 := wd_at.ad ew1672 hq1673 k1664
  have k1690 := wd_at.ad ew1672 hq1673 k1665
  have k1691 := wd_at.ad ew1672 hq1673 k1666
  have k1692 : wd_at w1671 q1670 (.inl (cy 3, 12, .inr (.inl (fun _ => 0)))) := wd_at.nw ew1672
  have fm1693 : ∀ z9, z9 < 12 → wd_at w1671 (r2 z9) (.inl (cy 2, 12, .inl ((fun _ _ => 0) z9))) := fun z9 hi9 => wd_at.ad ew1672 hq1673 (fm1667 z9 hi9)
  have fn1694 : ∀ z9, z9 < 12 → (r2 z9) ≠ q1670 := fun z9 hi9 => wd_nL hq1673 (fm1667 z9 hi9)
  have fm1695 : ∀ z9, z9 < 12 → wd_at w1671 (r23 z9) (.inl (cy 2, 12, .inl ((fun _ _ => 0) z9))) := fun z9 hi9 => wd_at.ad ew1672 hq1673 (fm1668 z9 hi9)
  have fn1696 : ∀ z9, z9 < 12 → (r23 z9) ≠ q1670 := fun z9 hi9 => wd_nL hq1673 (fm1668 z9 hi9)
  have kp1697 := kp1669.add ew1672 hq1673
  refine y_putF (ref := "NoteHouseModel") F hP hD hS k1674 rfl (fun _ h => List.mem_cons_of_mem _ (List.mem_append_right _ (h))) tyX11_ok nmX11 hnm 54 (Nat.le_of_ble_eq_true rfl) (List.mem_cons_of_mem _ (List.mem_append_left _ (List.mem_append_right _ (List.mem_append_right _ (List.mem_of_getElem? (i := 3) rfl))))) rfl rfl rfl rfl rfl (Nat.le_of_ble_eq_true rfl) dX11_init_380 (fun w1698 ew1699 H locs hP hD hS => ?_)
  have k1700 : wd_at w1698 y (.inr (11, [.int 0, .int 0, .ref q1, .ref q22, .ref q50, .ref q72, .ref q96, .int 0, .ref q122, .ref q148, .ref q176, .ref q206, .ref q238, .ref q272, .ref q308, .int 0, .int 0, .ref q344, .ref q380, .ref q416, .ref q452, .ref q488, .ref q524, .ref q560, .ref q616, .int 0, .int 0, .int 0, .int 0, .ref q652, .ref q690, .ref q730, .ref q770, .ref q810, .ref q850, .ref q890, .ref q930, .ref q972, .int 0, .ref q1016, .ref q1062, .ref q1108, .ref q1154, .ref q1200, .ref q1246, .ref q1292, .ref q1338, .ref q1384, .ref q1430, .ref q1476, .int 0, .ref q1522, .ref q1570, .ref q1620, .ref q1670, .int 0, .null, .null, .null, .null])) := wd_at.ps ew1699 k1674
  have k1701 := wd_at.pt ew1699 k1675 (Ne.symm (wd_nL hq5 hy))
  have k1702 := wd_at.pt ew1699 k1676 (Ne.symm (wd_nL hq26 k18))
  have k1703 := wd_at.pt ew1699 k1677 (Ne.symm (wd_nL hq53 k44))
  have k1704 := wd_at.pt ew1699 k1678 (Ne.symm (wd_nL hq75 k65))
  have k1705 := wd_at.pt ew1699 k1679 (Ne.symm (wd_nL hq125 k113))
  have k1706 := wd_at.pt ew1699 k1680 (Ne.symm (wd_nL hq151 k139))
  have k1707 := wd_at.pt ew1699 k1681 (Ne.symm (wd_nL hq179 k166))
  have k1708 := wd_at.pt ew1699 k1682 (Ne.symm (wd_nL hq209 k195))
  have k1709 := wd_at.pt ew1699 k1683 (Ne.symm (wd_nL hq241 k226))
  have k1710 := wd_at.pt ew1699 k1684 (Ne.symm (wd_nL hq619 k601))
  have k1711 := wd_at.pt ew1699 k1685 (Ne.symm (wd_nL hq655 k638))
  have k1712 := wd_at.pt ew1699 k1686 (Ne.symm (wd_nL hq893 k874))
  have k1713 := wd_at.pt ew1699 k1687 (Ne.symm (wd_nL hq933 k914))
  have k1714 := wd_at.pt ew1699 k1688 (Ne.symm (wd_nL hq975 k955))
  have k1715 := wd_at.pt ew1699 k1689 (Ne.symm (wd_nL hq1479 k1457))
  have k1716 := wd_at.pt ew1699 k1690 (Ne.symm (wd_nL hq1525 k1503))
  have k1717 := wd_at.pt ew1699 k1691 (Ne.symm (wd_nL hq1623 k1599))
  have k1718 := wd_at.pt ew1699 k1692 (Ne.symm (wd_nL hq1673 k1649))
  have fm1719 : ∀ z9, z9 < 12 → wd_at w1698 (r2 z9) (.inl (cy 2, 12, .inl ((fun _ _ => 0) z9))) := fun z9 hi9 => wd_at.pt ew1699 (fm1693 z9 hi9) (fn10 z9 hi9)
  have fm1720 : ∀ z9, z9 < 12 → wd_at w1698 (r23 z9) (.inl (cy 2, 12, .inl ((fun _ _ => 0) z9))) := fun z9 hi9 => wd_at.pt ew1699 (fm1695 z9 hi9) (fn31 z9 hi9)
  have kp1721 := kp1697.put ew1699 sy
  refine lv_aload_n hx hb dX11_init_383 rfl (lv_at hl 0 rfl) ?_
  refine lv_bipush (v := 60) hx hb dX11_init_384 (by decide) ?_
  refine y_newI (N := 60) F hP hD hS (List.mem_cons_of_mem _ (List.mem_append_left _ (List.mem_append_left _ (List.mem_of_getElem? (i := 4) rfl)))) (by decide) (by decide) (by decide) (Nat.le_of_ble_eq_true rfl) (Nat.le_of_ble_eq_true rfl) dX11_init_386 (fun q1722 w1723 ew1724 hq1725 H hP hD hS => ?_)
  refine W.widen (k := 129) (n := 7641) (Nat.le_of_ble_eq_true rfl) (Nat.le_of_ble_eq_true rfl) ?_
  have k1726 := wd_at.ad ew1724 hq1725 k1700
  have k1727 := wd_at.ad ew1724 hq1725 k1701
  have k1728 := wd_at.ad ew1724 hq1725 k1702
  have k1729 := wd_at.ad ew1724 hq1725 k1703
  have k1730 := wd_at.ad ew1724 hq1725 k1704
  have k1731 := wd_at.ad ew1724 hq1725 k1705
  have k1732 := wd_at.ad ew1724 hq1725 k1706
  have k1733 := wd_at.ad ew1724 hq1725 k1707
  have k1734 := wd_at.ad ew1724 hq1725 k1708
  have k1735 := wd_at.ad ew1724 hq1725 k1709
  have k1736 := wd_at.ad ew1724 hq1725 k1710
  have k1737 := wd_at.ad ew1724 hq1725 k1711
  have k1738 := wd_at.ad ew1724 hq1725 k1712
  have k1739 := wd_at.ad ew1724 hq1725 k1713
  have k1740 := wd_at.ad ew1724 hq1725 k1714
  have k1741 := wd_at.ad ew1724 hq1725 k1715
  have k1742 := wd_at.ad ew1724 hq1725 k1716
  have k1743 := wd_at.ad ew1724 hq1725 k1717
  have k1744 := wd_at.ad ew1724 hq1725 k1718
  have k1745 : wd_at w1723 q1722 (.inl (cy 2, 60, .inl (fun _ => 0))) := wd_at.nw ew1724
  have fm1746 : ∀ z9, z9 < 12 → wd_at w1723 (r2 z9) (.inl (cy 2, 12, .inl ((fun _ _ => 0) z9))) := fun z9 hi9 => wd_at.ad ew1724 hq1725 (fm1719 z9 hi9)
  have fn1747 : ∀ z9, z9 < 12 → (r2 z9) ≠ q1722 := fun z9 hi9 => wd_nL hq1725 (fm1719 z9 hi9)
  have fm1748 : ∀ z9, z9 < 12 → wd_at w1723 (r23 z9) (.inl (cy 2, 12, .inl ((fun _ _ => 0) z9))) := fun z9 hi9 => wd_at.ad ew1724 hq1725 (fm1720 z9 hi9)
  have fn1749 : ∀ z9, z9 < 12 → (r23 z9) ≠ q1722 := fun z9 hi9 => wd_nL hq1725 (fm1720 z9 hi9)
  have kp1750 := kp1721.add ew1724 hq1725
  refine y_putF (ref := "NoteHouseModel") F hP hD hS k1726 rfl (fun _ h => List.mem_cons_of_mem _ (List.mem_append_right _ (h))) tyX11_ok nmX11 hnm 56 (Nat.le_of_ble_eq_true rfl) (List.mem_cons_of_mem _ (List.mem_append_left _ (List.mem_append_right _ (List.mem_append_right _ (List.mem_of_getElem? (i := 4) rfl))))) rfl rfl rfl rfl rfl (Nat.le_of_ble_eq_true rfl) dX11_init_388 (fun w1751 ew1752 H locs hP hD hS => ?_)
  have k1753 : wd_at w1751 y (.inr (11, [.int 0, .int 0, .ref q1, .ref q22, .ref q50, .ref q72, .ref q96, .int 0, .ref q122, .ref q148, .ref q176, .ref q206, .ref q238, .ref q272, .ref q308, .int 0, .int 0, .ref q344, .ref q380, .ref q416, .ref q452, .ref q488, .ref q524, .ref q560, .ref q616, .int 0, .int 0, .int 0, .int 0, .ref q652, .ref q690, .ref q730, .ref q770, .ref q810, .ref q850, .ref q890, .ref q930, .ref q972, .int 0, .ref q1016, .ref q1062, .ref q1108, .ref q1154, .ref q1200, .ref q1246, .ref q1292, .ref q1338, .ref q1384, .ref q1430, .ref q1476, .int 0, .ref q1522, .ref q1570, .ref q1620, .ref q1670, .int 0, .ref q1722, .null, .null, .null])) := wd_at.ps ew1752 k1726
  have k1754 := wd_at.pt ew1752 k1727 (Ne.symm (wd_nL hq5 hy))
  have k1755 := wd_at.pt ew1752 k1728 (Ne.symm (wd_nL hq26 k18))
  have k1756 := wd_at.pt ew1752 k1729 (Ne.symm (wd_nL hq53 k44))
  have k1757 := wd_at.pt ew1752 k1730 (Ne.symm (wd_nL hq75 k65))
  have k1758 := wd_at.pt ew1752 k1731 (Ne.symm (wd_nL hq125 k113))
  have k1759 := wd_at.pt ew1752 k1732 (Ne.symm (wd_nL hq151 k139))
  have k1760 := wd_at.pt ew1752 k1733 (Ne.symm (wd_nL hq179 k166))
  have k1761 := wd_at.pt ew1752 k1734 (Ne.symm (wd_nL hq209 k195))
  have k1762 := wd_at.pt ew1752 k1735 (Ne.symm (wd_nL hq241 k226))
  have k1763 := wd_at.pt ew1752 k1736 (Ne.symm (wd_nL hq619 k601))
  have k1764 := wd_at.pt ew1752 k1737 (Ne.symm (wd_nL hq655 k638))
  have k1765 := wd_at.pt ew1752 k1738 (Ne.symm (wd_nL hq893 k874))
  have k1766 := wd_at.pt ew1752 k1739 (Ne.symm (wd_nL hq933 k914))
  have k1767 := wd_at.pt ew1752 k1740 (Ne.symm (wd_nL hq975 k955))
  have k1768 := wd_at.pt ew1752 k1741 (Ne.symm (wd_nL hq1479 k1457))
  have k1769 := wd_at.pt ew1752 k1742 (Ne.symm (wd_nL hq1525 k1503))
  have k1770 := wd_at.pt ew1752 k1743 (Ne.symm (wd_nL hq1623 k1599))
  have k1771 := wd_at.pt ew1752 k1744 (Ne.symm (wd_nL hq1673 k1649))
  have k1772 := wd_at.pt ew1752 k1745 (Ne.symm (wd_nL hq1725 k1700))
  have fm1773 : ∀ z9, z9 < 12 → wd_at w1751 (r2 z9) (.inl (cy 2, 12, .inl ((fun _ _ => 0) z9))) := fun z9 hi9 => wd_at.pt ew1752 (fm1746 z9 hi9) (fn10 z9 hi9)
  have fm1774 : ∀ z9, z9 < 12 → wd_at w1751 (r23 z9) (.inl (cy 2, 12, .inl ((fun _ _ => 0) z9))) := fun z9 hi9 => wd_at.pt ew1752 (fm1748 z9 hi9) (fn31 z9 hi9)
  have kp1775 := kp1750.put ew1752 sy
  refine lv_aload_n hx hb dX11_init_391 rfl (lv_at hl 0 rfl) ?_
  refine lv_bipush (v := 60) hx hb dX11_init_392 (by decide) ?_
  refine y_newI (N := 60) F hP hD hS (List.mem_cons_of_mem _ (List.mem_append_left _ (List.mem_append_left _ (List.mem_of_getElem? (i := 4) rfl)))) (by decide) (by decide) (by decide) (Nat.le_of_ble_eq_true rfl) (Nat.le_of_ble_eq_true rfl) dX11_init_394 (fun q1776 w1777 ew1778 hq1779 H hP hD hS => ?_)
  refine W.widen (k := 130) (n := 7701) (Nat.le_of_ble_eq_true rfl) (Nat.le_of_ble_eq_true rfl) ?_
  have k1780 := wd_at.ad ew1778 hq1779 k1753
  have k1781 := wd_at.ad ew1778 hq1779 k1754
  have k1782 := wd_at.ad ew1778 hq1779 k1755
  have k1783 := wd_at.ad ew1778 hq1779 k1756
  have k1784 := wd_at.ad ew1778 hq1779 k1757
  have k1785 := wd_at.ad ew1778 hq1779 k1758
  have k1786 := wd_at.ad ew1778 hq1779 k1759
  have k1787 := wd_at.ad ew1778 hq1779 k1760
  have k1788 := wd_at.ad ew1778 hq1779 k1761
  have k1789 := wd_at.ad ew1778 hq1779 k1762
  have k1790 := wd_at.ad ew1778 hq1779 k1763
  have k1791 := wd_at.ad ew1778 hq1779 k1764
  have k1792 := wd_at.ad ew1778 hq1779 k1765
  have k1793 := wd_at.ad ew1778 hq1779 k1766
  have k1794 := wd_at.ad ew1778 hq1779 k1767
  have k1795 := wd_at.ad ew1778 hq1779 k1768
  have k1796 := wd_at.ad ew1778 hq1779 k1769
  have k1797 := wd_at.ad ew1778 hq1779 k1770
  have k1798 := wd_at.ad ew1778 hq1779 k1771
  have k1799 : wd_at w1777 q1776 (.inl (cy 2, 60, .inl (fun _ => 0))) := wd_at.nw ew1778
  have fm1800 : ∀ z9, z9 < 12 → wd_at w1777 (r2 z9) (.inl (cy 2, 12, .inl ((fun _ _ => 0) z9))) := fun z9 hi9 => wd_at.ad ew1778 hq1779 (fm1773 z9 hi9)
  have fn1801 : ∀ z9, z9 < 12 → (r2 z9) ≠ q1776 := fun z9 hi9 => wd_nL hq1779 (fm1773 z9 hi9)
  have fm1802 : ∀ z9, z9 < 12 → wd_at w1777 (r23 z9) (.inl (cy 2, 12, .inl ((fun _ _ => 0) z9))) := fun z9 hi9 => wd_at.ad ew1778 hq1779 (fm1774 z9 hi9)
  have fn1803 : ∀ z9, z9 < 12 → (r23 z9) ≠ q1776 := fun z9 hi9 => wd_nL hq1779 (fm1774 z9 hi9)
  have kp1804 := kp1775.add ew1778 hq1779
  refine y_putF (ref := "NoteHouseModel") F hP hD hS k1780 rfl (fun _ h => List.mem_cons_of_mem _ (List.mem_append_right _ (h))) tyX11_ok nmX11 hnm 57 (Nat.le_of_ble_eq_true rfl) (List.mem_cons_of_mem _ (List.mem_append_left _ (List.mem_append_right _ (List.mem_append_right _ (List.mem_of_getElem? (i := 5) rfl))))) rfl rfl rfl rfl rfl (Nat.le_of_ble_eq_true rfl) dX11_init_396 (fun w1805 ew1806 H locs hP hD hS => ?_)
  have k1807 : wd_at w1805 y (.inr (11, [.int 0, .int 0, .ref q1, .ref q22, .ref q50, .ref q72, .ref q96, .int 0, .ref q122, .ref q148, .ref q176, .ref q206, .ref q238, .ref q272, .ref q308, .int 0, .int 0, .ref q344, .ref q380, .ref q416, .ref q452, .ref q488, .ref q524, .ref q560, .ref q616, .int 0, .int 0, .int 0, .int 0, .ref q652, .ref q690, .ref q730, .ref q770, .ref q810, .ref q850, .ref q890, .ref q930, .ref q972, .int 0, .ref q1016, .ref q1062, .ref q1108, .ref q1154, .ref q1200, .ref q1246, .ref q1292, .ref q1338, .ref q1384, .ref q1430, .ref q1476, .int 0, .ref q1522, .ref q1570, .ref q1620, .ref q1670, .int 0, .ref q1722, .ref q1776, .null, .null])) := wd_at.ps ew1806 k1780
  have k1808 := wd_at.pt ew1806 k1781 (Ne.symm (wd_nL hq5 hy))
  have k1809 := wd_at.pt ew1806 k1782 (Ne.symm (wd_nL hq26 k18))
  have k1810 := wd_at.pt ew1806 k1783 (Ne.symm (wd_nL hq53 k44))
  have k1811 := wd_at.pt ew1806 k1784 (Ne.symm (wd_nL hq75 k65))
  have k1812 := wd_at.pt ew1806 k1785 (Ne.symm (wd_nL hq125 k113))
  have k1813 := wd_at.pt ew1806 k1786 (Ne.symm (wd_nL hq151 k139))
  have k1814 := wd_at.pt ew1806 k1787 (Ne.symm (wd_nL hq179 k166))
  have k1815 := wd_at.pt ew1806 k1788 (Ne.symm (wd_nL hq209 k195))
  have k1816 := wd_at.pt ew1806 k1789 (Ne.symm (wd_nL hq241 k226))
  have k1817 := wd_at.pt ew1806 k1790 (Ne.symm (wd_nL hq619 k601))
  have k1818 := wd_at.pt ew1806 k1791 (Ne.symm (wd_nL hq655 k638))
  have k1819 := wd_at.pt ew1806 k1792 (Ne.symm (wd_nL hq893 k874))
  have k1820 := wd_at.pt ew1806 k1793 (Ne.symm (wd_nL hq933 k914))
  have k1821 := wd_at.pt ew1806 k1794 (Ne.symm (wd_nL hq975 k955))
  have k1822 := wd_at.pt ew1806 k1795 (Ne.symm (wd_nL hq1479 k1457))
  have k1823 := wd_at.pt ew1806 k1796 (Ne.symm (wd_nL hq1525 k1503))
  have k1824 := wd_at.pt ew1806 k1797 (Ne.symm (wd_nL hq1623 k1599))
  have k1825 := wd_at.pt ew1806 k1798 (Ne.symm (wd_nL hq1673 k1649))
  have k1826 := wd_at.pt ew1806 k1799 (Ne.symm (wd_nL hq1779 k1753))
  have fm1827 : ∀ z9, z9 < 12 → wd_at w1805 (r2 z9) (.inl (cy 2, 12, .inl ((fun _ _ => 0) z9))) := fun z9 hi9 => wd_at.pt ew1806 (fm1800 z9 hi9) (fn10 z9 hi9)
  have fm1828 : ∀ z9, z9 < 12 → wd_at w1805 (r23 z9) (.inl (cy 2, 12, .inl ((fun _ _ => 0) z9))) := fun z9 hi9 => wd_at.pt ew1806 (fm1802 z9 hi9) (fn31 z9 hi9)
  have kp1829 := kp1804.put ew1806 sy
  refine lv_aload_n hx hb dX11_init_399 rfl (lv_at hl 0 rfl) ?_
  refine lv_bipush (v := 60) hx hb dX11_init_400 (by decide) ?_
  refine y_newI (N := 60) F hP hD hS (List.mem_cons_of_mem _ (List.mem_append_left _ (List.mem_append_left _ (List.mem_of_getElem? (i := 4) rfl)))) (by decide) (by decide) (by decide) (Nat.le_of_ble_eq_true rfl) (Nat.le_of_ble_eq_true rfl) dX11_init_402 (fun q1830 w1831 ew1832 hq1833 H hP hD hS => ?_)
  refine W.widen (k := 131) (n := 7761) (Nat.le_of_ble_eq_true rfl) (Nat.le_of_ble_eq_true rfl) ?_
  have k1834 := wd_at.ad ew1832 hq1833 k1807
  have k1835 := wd_at.ad ew1832 hq1833 k1808
  have k1836 := wd_at.ad ew1832 hq1833 k1809
  have k1837 := wd_at.ad ew1832 hq1833 k1810
  have k1838 := wd_at.ad ew1832 hq1833 k1811
  have k1839 := wd_at.ad ew1832 hq1833 k1812
  have k1840 := wd_at.ad ew1832 hq1833 k1813
  have k1841 := wd_at.ad ew1832 hq1833 k1814
  have k1842 := wd_at.ad ew1832 hq1833 k1815
  have k1843 := wd_at.ad ew1832 hq1833 k1816
  have k1844 := wd_at.ad ew1832 hq1833 k1817
  have k1845 := wd_at.ad ew1832 hq1833 k1818
  have k1846 := wd_at.ad ew1832 hq1833 k1819
  have k1847 := wd_at.ad ew1832 hq1833 k1820
  have k1848 := wd_at.ad ew1832 hq1833 k1821
  have k1849 := wd_at.ad ew1832 hq1833 k1822
  have k1850 := wd_at.ad ew1832 hq1833 k1823
  have k1851 := wd_at.ad ew1832 hq1833 k1824
  have k1852 := wd_at.ad ew1832 hq1833 k1825
  have k1853 : wd_at w1831 q1830 (.inl (cy 2, 60, .inl (fun _ => 0))) := wd_at.nw ew1832
  have fm1854 : ∀ z9, z9 < 12 → wd_at w1831 (r2 z9) (.inl (cy 2, 12, .inl ((fun _ _ => 0) z9))) := fun z9 hi9 => wd_at.ad ew1832 hq1833 (fm1827 z9 hi9)
  have fn1855 : ∀ z9, z9 < 12 → (r2 z9) ≠ q1830 := fun z9 hi9 => wd_nL hq1833 (fm1827 z9 hi9)
  have fm1856 : ∀ z9, z9 < 12 → wd_at w1831 (r23 z9) (.inl (cy 2, 12, .inl ((fun _ _ => 0) z9))) := fun z9 hi9 => wd_at.ad ew1832 hq1833 (fm1828 z9 hi9)
  have fn1857 : ∀ z9, z9 < 12 → (r23 z9) ≠ q1830 := fun z9 hi9 => wd_nL hq1833 (fm1828 z9 hi9)
  have kp1858 := kp1829.add ew1832 hq1833
  refine y_putF (ref := "NoteHouseModel") F hP hD hS k1834 rfl (fun _ h => List.mem_cons_of_mem _ (List.mem_append_right _ (h))) tyX11_ok nmX11 hnm 58 (Nat.le_of_ble_eq_true rfl) (List.mem_cons_of_mem _ (List.mem_append_left _ (List.mem_append_right _ (List.mem_append_right _ (List.mem_of_getElem? (i := 6) rfl))))) rfl rfl rfl rfl rfl (Nat.le_of_ble_eq_true rfl) dX11_init_404 (fun w1859 ew1860 H locs hP hD hS => ?_)
  have k1861 : wd_at w1859 y (.inr (11, [.int 0, .int 0, .ref q1, .ref q22, .ref q50, .ref q72, .ref q96, .int 0, .ref q122, .ref q148, .ref q176, .ref q206, .ref q238, .ref q272, .ref q308, .int 0, .int 0, .ref q344, .ref q380, .ref q416, .ref q452, .ref q488, .ref q524, .ref q560, .ref q616, .int 0, .int 0, .int 0, .int 0, .ref q652, .ref q690, .ref q730, .ref q770, .ref q810, .ref q850, .ref q890, .ref q930, .ref q972, .int 0, .ref q1016, .ref q1062, .ref q1108, .ref q1154, .ref q1200, .ref q1246, .ref q1292, .ref q1338, .ref q1384, .ref q1430, .ref q1476, .int 0, .ref q1522, .ref q1570, .ref q1620, .ref q1670, .int 0, .ref q1722, .ref q1776, .ref q1830, .null])) := wd_at.ps ew1860 k1834
  have k1862 := wd_at.pt ew1860 k1835 (Ne.symm (wd_nL hq5 hy))
  have k1863 := wd_at.pt ew1860 k1836 (Ne.symm (wd_nL hq26 k18))
  have k1864 := wd_at.pt ew1860 k1837 (Ne.symm (wd_nL hq53 k44))
  have k1865 := wd_at.pt ew1860 k1838 (Ne.symm (wd_nL hq75 k65))
  have k1866 := wd_at.pt ew1860 k1839 (Ne.symm (wd_nL hq125 k113))
  have k1867 := wd_at.pt ew1860 k1840 (Ne.symm (wd_nL hq151 k139))
  have k1868 := wd_at.pt ew1860 k1841 (Ne.symm (wd_nL hq179 k166))
  have k1869 := wd_at.pt ew1860 k1842 (Ne.symm (wd_nL hq209 k195))
  have k1870 := wd_at.pt ew1860 k1843 (Ne.symm (wd_nL hq241 k226))
  have k1871 := wd_at.pt ew1860 k1844 (Ne.symm (wd_nL hq619 k601))
  have k1872 := wd_at.pt ew1860 k1845 (Ne.symm (wd_nL hq655 k638))
  have k1873 := wd_at.pt ew1860 k1846 (Ne.symm (wd_nL hq893 k874))
  have k1874 := wd_at.pt ew1860 k1847 (Ne.symm (wd_nL hq933 k914))
  have k1875 := wd_at.pt ew1860 k1848 (Ne.symm (wd_nL hq975 k955))
  have k1876 := wd_at.pt ew1860 k1849 (Ne.symm (wd_nL hq1479 k1457))
  have k1877 := wd_at.pt ew1860 k1850 (Ne.symm (wd_nL hq1525 k1503))
  have k1878 := wd_at.pt ew1860 k1851 (Ne.symm (wd_nL hq1623 k1599))
  have k1879 := wd_at.pt ew1860 k1852 (Ne.symm (wd_nL hq1673 k1649))
  have k1880 := wd_at.pt ew1860 k1853 (Ne.symm (wd_nL hq1833 k1807))
  have fm1881 : ∀ z9, z9 < 12 → wd_at w1859 (r2 z9) (.inl (cy 2, 12, .inl ((fun _ _ => 0) z9))) := fun z9 hi9 => wd_at.pt ew1860 (fm1854 z9 hi9) (fn10 z9 hi9)
  have fm1882 : ∀ z9, z9 < 12 → wd_at w1859 (r23 z9) (.inl (cy 2, 12, .inl ((fun _ _ => 0) z9))) := fun z9 hi9 => wd_at.pt ew1860 (fm1856 z9 hi9) (fn31 z9 hi9)
  have kp1883 := kp1858.put ew1860 sy
  refine lv_aload_n hx hb dX11_init_407 rfl (lv_at hl 0 rfl) ?_
  refine lv_bipush (v := 60) hx hb dX11_init_408 (by decide) ?_
  refine y_newJ (N := 60) F hP hD hS (List.mem_cons_of_mem _ (List.mem_append_left _ (List.mem_append_right _ (List.mem_append_left _ (List.mem_of_getElem? (i := 21) rfl))))) (by decide) (by decide) (by decide) (Nat.le_of_ble_eq_true rfl) (Nat.le_of_ble_eq_true rfl) dX11_init_410 (fun q1884 w1885 ew1886 hq1887 H hP hD hS => ?_)
  refine W.widen (k := 132) (n := 7821) (Nat.le_of_ble_eq_true rfl) (Nat.le_of_ble_eq_true rfl) ?_
  have k1888 := wd_at.ad ew1886 hq1887 k1861
  have k1889 := wd_at.ad ew1886 hq1887 k1862
  have k1890 := wd_at.ad ew1886 hq1887 k1863
  have k1891 := wd_at.ad ew1886 hq1887 k1864
  have k1892 := wd_at.ad ew1886 hq1887 k1865
  have k1893 := wd_at.ad ew1886 hq1887 k1866
  have k1894 := wd_at.ad ew1886 hq1887 k1867
  have k1895 := wd_at.ad ew1886 hq1887 k1868
  have k1896 := wd_at.ad ew1886 hq1887 k1869
  have k1897 := wd_at.ad ew1886 hq1887 k1870
  have k1898 := wd_at.ad ew1886 hq1887 k1871
  have k1899 := wd_at.ad ew1886 hq1887 k1872
  have k1900 := wd_at.ad ew1886 hq1887 k1873
  have k1901 := wd_at.ad ew1886 hq1887 k1874
  have k1902 := wd_at.ad ew1886 hq1887 k1875
  have k1903 := wd_at.ad ew1886 hq1887 k1876
  have k1904 := wd_at.ad ew1886 hq1887 k1877
  have k1905 := wd_at.ad ew1886 hq1887 k1878
  have k1906 := wd_at.ad ew1886 hq1887 k1879
  have k1907 : wd_at w1885 q1884 (.inl (cy 3, 60, .inr (.inl (fun _ => 0)))) := wd_at.nw ew1886
  have fm1908 : ∀ z9, z9 < 12 → wd_at w1885 (r2 z9) (.inl (cy 2, 12, .inl ((fun _ _ => 0) z9))) := fun z9 hi9 => wd_at.ad ew1886 hq1887 (fm1881 z9 hi9)
  have fn1909 : ∀ z9, z9 < 12 → (r2 z9) ≠ q1884 := fun z9 hi9 => wd_nL hq1887 (fm1881 z9 hi9)
  have fm1910 : ∀ z9, z9 < 12 → wd_at w1885 (r23 z9) (.inl (cy 2, 12, .inl ((fun _ _ => 0) z9))) := fun z9 hi9 => wd_at.ad ew1886 hq1887 (fm1882 z9 hi9)
  have fn1911 : ∀ z9, z9 < 12 → (r23 z9) ≠ q1884 := fun z9 hi9 => wd_nL hq1887 (fm1882 z9 hi9)
  have kp1912 := kp1883.add ew1886 hq1887
  refine y_putF (ref := "NoteHouseModel") F hP hD hS k1888 rfl (fun _ h => List.mem_cons_of_mem _ (List.mem_append_right _ (h))) tyX11_ok nmX11 hnm 59 (Nat.le_of_ble_eq_true rfl) (List.mem_cons_of_mem _ (List.mem_append_left _ (List.mem_append_right _ (List.mem_append_right _ (List.mem_of_getElem? (i := 7) rfl))))) rfl rfl rfl rfl rfl (Nat.le_of_ble_eq_true rfl) dX11_init_412 (fun w1913 ew1914 H locs hP hD hS => ?_)
  have k1915 : wd_at w1913 y (.inr (11, [.int 0, .int 0, .ref q1, .ref q22, .ref q50, .ref q72, .ref q96, .int 0, .ref q122, .ref q148, .ref q176, .ref q206, .ref q238, .ref q272, .ref q308, .int 0, .int 0, .ref q344, .ref q380, .ref q416, .ref q452, .ref q488, .ref q524, .ref q560, .ref q616, .int 0, .int 0, .int 0, .int 0, .ref q652, .ref q690, .ref q730, .ref q770, .ref q810, .ref q850, .ref q890, .ref q930, .ref q972, .int 0, .ref q1016, .ref q1062, .ref q1108, .ref q1154, .ref q1200, .ref q1246, .ref q1292, .ref q1338, .ref q1384, .ref q1430, .ref q1476, .int 0, .ref q1522, .ref q1570, .ref q1620, .ref q1670, .int 0, .ref q1722, .ref q1776, .ref q1830, .ref q1884])) := wd_at.ps ew1914 k1888
  have k1916 := wd_at.pt ew1914 k1889 (Ne.symm (wd_nL hq5 hy))
  have k1917 := wd_at.pt ew1914 k1890 (Ne.symm (wd_nL hq26 k18))
  have k1918 := wd_at.pt ew1914 k1891 (Ne.symm (wd_nL hq53 k44))
  have k1919 := wd_at.pt ew1914 k1892 (Ne.symm (wd_nL hq75 k65))
  have k1920 := wd_at.pt ew1914 k1893 (Ne.symm (wd_nL hq125 k113))
  have k1921 := wd_at.pt ew1914 k1894 (Ne.symm (wd_nL hq151 k139))
  have k1922 := wd_at.pt ew1914 k1895 (Ne.symm (wd_nL hq179 k166))
  have k1923 := wd_at.pt ew1914 k1896 (Ne.symm (wd_nL hq209 k195))
  have k1924 := wd_at.pt ew1914 k1897 (Ne.symm (wd_nL hq241 k226))
  have k1925 := wd_at.pt ew1914 k1898 (Ne.symm (wd_nL hq619 k601))
  have k1926 := wd_at.pt ew1914 k1899 (Ne.symm (wd_nL hq655 k638))
  have k1927 := wd_at.pt ew1914 k1900 (Ne.symm (wd_nL hq893 k874))
  have k1928 := wd_at.pt ew1914 k1901 (Ne.symm (wd_nL hq933 k914))
  have k1929 := wd_at.pt ew1914 k1902 (Ne.symm (wd_nL hq975 k955))
  have k1930 := wd_at.pt ew1914 k1903 (Ne.symm (wd_nL hq1479 k1457))
  have k1931 := wd_at.pt ew1914 k1904 (Ne.symm (wd_nL hq1525 k1503))
  have k1932 := wd_at.pt ew1914 k1905 (Ne.symm (wd_nL hq1623 k1599))
  have k1933 := wd_at.pt ew1914 k1906 (Ne.symm (wd_nL hq1673 k1649))
  have k1934 := wd_at.pt ew1914 k1907 (Ne.symm (wd_nL hq1887 k1861))
  have fm1935 : ∀ z9, z9 < 12 → wd_at w1913 (r2 z9) (.inl (cy 2, 12, .inl ((fun _ _ => 0) z9))) := fun z9 hi9 => wd_at.pt ew1914 (fm1908 z9 hi9) (fn10 z9 hi9)
  have fm1936 : ∀ z9, z9 < 12 → wd_at w1913 (r23 z9) (.inl (cy 2, 12, .inl ((fun _ _ => 0) z9))) := fun z9 hi9 => wd_at.pt ew1914 (fm1910 z9 hi9) (fn31 z9 hi9)
  have kp1937 := kp1912.put ew1914 sy
  refine lv_iconst (v := 0) hx hb dX11_init_415 (by decide) ?_
  refine lv_istore_n (lv' := [(1, .int 0), (0, .ref y)]) hx hb dX11_init_416 rfl hl (by decide) rfl (fun ls hl => ?_)
  have lp417 : ∀ (N : Nat) (i : Nat) (fc0x417 : Nat → Nat → Int32) (fc1x417 : Nat → Nat → Int32) (rc : Nat → Int32) (w1938 : Wd), (i + N = 12) → (wd_at w1938 y (.inr (11, [.int 0, .int 0, .ref q1, .ref q22, .ref q50, .ref q72, .ref q96, .int 0, .ref q122, .ref q148, .ref q176, .ref q206, .ref q238, .ref q272, .ref q308, .int 0, .int 0, .ref q344, .ref q380, .ref q416, .ref q452, .ref q488, .ref q524, .ref q560, .ref q616, .int 0, .int 0, .int 0, .int 0, .ref q652, .ref q690, .ref q730, .ref q770, .ref q810, .ref q850, .ref q890, .ref q930, .ref q972, .int 0, .ref q1016, .ref q1062, .ref q1108, .ref q1154, .ref q1200, .ref q1246, .ref q1292, .ref q1338, .ref q1384, .ref q1430, .ref q1476, .int 0, .ref q1522, .ref q1570, .ref q1620, .ref q1670, .int 0, .ref q1722, .ref q1776, .ref q1830, .ref q1884]))) → (wd_at w1938 q1 (.inl (cy 10, 12, .inr (.inr (.inr (.inr (fun i => if i < 12 then some (r2 i) else none))))))) → (wd_at w1938 q22 (.inl (cy 10, 12, .inr (.inr (.inr (.inr (fun i => if i < 12 then some (r23 i) else none))))))) → (wd_at w1938 q50 (.inl (cy 2, 12, .inl (fun _ => 0)))) → (wd_at w1938 q72 (.inl (cy 2, 12, .inl rc))) → (wd_at w1938 q122 (.inl (cy 2, 30, .inl (fun _ => 0)))) → (wd_at w1938 q148 (.inl (cy 2, 30, .inl (fun _ => 0)))) → (wd_at w1938 q176 (.inl (cy 2, 30, .inl (fun _ => 0)))) → (wd_at w1938 q206 (.inl (cy 2, 30, .inl (fun _ => 0)))) → (wd_at w1938 q238 (.inl (cy 2, 30, .inl (fun _ => 0)))) → (wd_at w1938 q616 (.inl (cy 0, 300, .inl (fun _ => 0)))) → (wd_at w1938 q652 (.inl (cy 2, 12, .inl (fun _ => 0)))) → (wd_at w1938 q890 (.inl (cy 2, 5, .inl (fun _ => 0)))) → (wd_at w1938 q930 (.inl (cy 4, 5, .inl (fun _ => 0)))) → (wd_at w1938 q972 (.inl (cy 2, 5, .inl (fun _ => 0)))) → (wd_at w1938 q1476 (.inl (cy 2, 12, .inl (fun _ => 0)))) → (wd_at w1938 q1522 (.inl (cy 2, 200, .inl (fun _ => 0)))) → (wd_at w1938 q1620 (.inl (cy 3, 12, .inr (.inl (fun _ => 0))))) → (wd_at w1938 q1670 (.inl (cy 3, 12, .inr (.inl (fun _ => 0))))) → (∀ z9, z9 < 12 → wd_at w1938 (r2 z9) (.inl (cy 2, 12, .inl (fc0x417 z9)))) → (∀ z9, z9 < 12 → wd_at w1938 (r23 z9) (.inl (cy 2, 12, .inl (fc1x417 z9)))) → (wd_kp S w w1938) → ∀ (ls : Array Slot), lv_has ls 3 [(0, .ref y), (1, .int (nI i))] → Wv p l e ({ frames := 2, cells := 132, slots := 7821, locals := 41 }) s m args below meth c D A (132) (7821) Q w1938 (F0 m 417 ls []) := by
    intro N
    induction N with
    | zero =>
      intro i fc0x417 fc1x417 rc w1938 hN417 k1939 k1940 k1941 k1942 k1943 k1944 k1945 k1946 k1947 k1948 k1949 k1950 k1951 k1952 k1953 k1954 k1955 k1956 k1957 fm1958 fm1959 kp1960 ls hl H locs hP hD hS
      refine lv_iload_n hx hb dX11_init_417 rfl (lv_at hl 1 rfl) ?_
      refine lv_bipush (v := 12) hx hb dX11_init_418 (by decide) ?_
      refine lv_icmp_ge (tgt := 472) hx hb dX11_init_420 (by decide) (fun c_1961 => ?_) (fun c_1961 => absurd (nI_le (a := 12) (b := i) (by omega) (by omega)) c_1961)
      refine lv_aload_n hx hb dX11_init_472 rfl (lv_at hl 0 rfl) ?_
      refine x_callV (n := 0) (As := []) (rest := []) F hP hD hS (c_X11_begins l D cy w1938 y q1 q22 q50 q72 q96 q122 q148 q176 q206 q238 q272 q308 q344 q380 q416 q452 q488 q524 q560 q616 q652 q690 q730 q770 q810 q850 q890 q930 q972 q1016 q1062 q1108 q1154 q1200 q1246 q1292 q1338 q1384 q1430 q1476 q1522 q1570 q1620 q1670 q1722 q1776 q1830 q1884 (fun _ => 0) k1939 k1951 (fun b => b = q890) rfl) gX11_init_X11_begins rfl rfl (by decide +kernel) ⟨(Nat.le_of_ble_eq_true rfl), (Nat.le_of_ble_eq_true rfl)⟩ rfl hl.1 (Nat.le_of_ble_eq_true rfl) k1939 rfl dX11_init_473 rfl ⟨(Nat.le_of_ble_eq_true rfl), (Nat.le_of_ble_eq_true rfl)⟩ (fun v1963 w1964 hp1962 H locs hP hD hS => ?_)
      obtain ⟨rfl, hp1962, g1965, hg1966, k1967⟩ := hp1962
      have k1968 := hp1962.2 _ _ k1939 (fun q : y = q890 => (wd_nL hq893 k874) q)
      have k1969 := hp1962.2 _ _ k1940 (fun q : q1 = q890 => (wd_nL hq893 k875) q)
      have k1970 := hp1962.2 _ _ k1941 (fun q : q22 = q890 => (wd_nL hq893 k876) q)
      have k1971 := hp1962.2 _ _ k1942 (fun q : q50 = q890 => (wd_nL hq893 k877) q)
      have k1972 := hp1962.2 _ _ k1943 (fun q : q72 = q890 => (wd_nL hq893 k878) q)
      have k1973 := hp1962.2 _ _ k1944 (fun q : q122 = q890 => (wd_nL hq893 k879) q)
      have k1974 := hp1962.2 _ _ k1945 (fun q : q148 = q890 => (wd_nL hq893 k880) q)
      have k1975 := hp1962.2 _ _ k1946 (fun q : q176 = q890 => (wd_nL hq893 k881) q)
      have k1976 := hp1962.2 _ _ k1947 (fun q : q206 = q890 => (wd_nL hq893 k882) q)
      have k1977 := hp1962.2 _ _ k1948 (fun q : q238 = q890 => (wd_nL hq893 k883) q)
      have k1978 := hp1962.2 _ _ k1949 (fun q : q616 = q890 => (wd_nL hq893 k884) q)
      have k1979 := hp1962.2 _ _ k1950 (fun q : q652 = q890 => (wd_nL hq893 k885) q)
      have k1980 := hp1962.2 _ _ k1952 (fun q : q930 = q890 => (Ne.symm (wd_nL hq933 k926)) q)
      have k1981 := hp1962.2 _ _ k1953 (fun q : q972 = q890 => (Ne.symm (wd_nL hq975 k967)) q)
      have k1982 := hp1962.2 _ _ k1954 (fun q : q1476 = q890 => (Ne.symm (wd_nL hq1479 k1469)) q)
      have k1983 := hp1962.2 _ _ k1955 (fun q : q1522 = q890 => (Ne.symm (wd_nL hq1525 k1515)) q)
      have k1984 := hp1962.2 _ _ k1956 (fun q : q1620 = q890 => (Ne.symm (wd_nL hq1623 k1611)) q)
      have k1985 := hp1962.2 _ _ k1957 (fun q : q1670 = q890 => (Ne.symm (wd_nL hq1673 k1661)) q)
      have fm1986 : ∀ z9, z9 < 12 → wd_at w1964 (r2 z9) (.inl (cy 2, 12, .inl (fc0x417 z9))) := fun z9 hi9 => hp1962.2 _ _ (fm1958 z9 hi9) (fn908 z9 hi9)
      have fm1987 : ∀ z9, z9 < 12 → wd_at w1964 (r23 z9) (.inl (cy 2, 12, .inl (fc1x417 z9))) := fun z9 hi9 => hp1962.2 _ _ (fm1959 z9 hi9) (fn910 z9 hi9)
      have kp1988 := kp1960.tr hp1962 (fun b hm q => (fun q => absurd (q ▸ hm) (kp889.out hq893)) q)
      refine W.eq (g2 := F0 m 476 ls []) rfl (W.widen (k := 132) (n := 7821) (Nat.le_of_ble_eq_true rfl) (Nat.le_of_ble_eq_true rfl) ?_)
      exact y_vr K hP hD hS (Nat.le_of_ble_eq_true rfl) (Nat.le_of_ble_eq_true rfl) rfl dX11_init_476 (⟨rfl, kp1988, q1, q22, q50, q72, q96, q122, q148, q176, q206, q238, q272, q308, q344, q380, q416, q452, q488, q524, q560, q616, q652, q690, q730, q770, q810, q850, q890, q930, q972, q1016, q1062, q1108, q1154, q1200, q1246, q1292, q1338, q1384, q1430, q1476, q1522, q1570, q1620, q1670, q1722, q1776, q1830, q1884, r2, r23, fc0x417, fc1x417, rc, g1965, k1968, k1969, k1970, fm1986, fm1987, k1971, k1972, k1973, k1974, k1975, k1976, k1977, k1978, k1979, k1967, k1980, k1981, k1982, k1983, k1984, k1985, hg1966, (wd_nL hq75 k68), (wd_nL hq151 k144), (wd_nL hq179 k171), (wd_nL hq209 k200), (wd_nL hq241 k231), (wd_nL hq179 k172), (wd_nL hq209 k201), (wd_nL hq241 k232), (wd_nL hq209 k202), (wd_nL hq241 k233), (wd_nL hq241 k234), (wd_nL hq933 k926), (wd_nL hq975 k967), (wd_nL hq975 k968), (wd_nL hq1673 k1666), hj7, hj28, (kp0.out hq5), (kp21.out hq26), (kp49.out hq53), (kp71.out hq75), (kp121.out hq125), (kp147.out hq151), (kp175.out hq179), (kp205.out hq209), (kp237.out hq241), (kp615.out hq619), (kp651.out hq655), (kp889.out hq893), (kp929.out hq933), (kp971.out hq975), (kp1475.out hq1479), (kp1521.out hq1525), (kp1619.out hq1623), (kp1669.out hq1673), no15, no41⟩)
    | succ N ih417 =>
      intro i fc0x417 fc1x417 rc w1938 hN417 k1939 k1940 k1941 k1942 k1943 k1944 k1945 k1946 k1947 k1948 k1949 k1950 k1951 k1952 k1953 k1954 k1955 k1956 k1957 fm1958 fm1959 kp1960 ls hl H locs hP hD hS
      refine lv_iload_n hx hb dX11_init_417 rfl (lv_at hl 1 rfl) ?_
      refine lv_bipush (v := 12) hx hb dX11_init_418 (by decide) ?_
      refine lv_icmp_ge (tgt := 472) hx hb dX11_init_420 (by decide) (fun c_1989 => absurd c_1989 (nI_ge (a := i) (b := 12) (by omega) (by decide))) (fun c_1989 => ?_)
      refine lv_iconst (v := 0) hx hb dX11_init_423 (by decide) ?_
      refine lv_istore_n (lv' := [(2, .int 0), (0, .ref y), (1, .int (nI i))]) hx hb dX11_init_424 rfl hl (by decide) rfl (fun ls hl => ?_)
      have lp425 : ∀ (N : Nat) (j : Nat) (fc0x425 : Nat → Nat → Int32) (fc1x425 : Nat → Nat → Int32) (w1990 : Wd), (j + N = 12) → (wd_at w1990 y (.inr (11, [.int 0, .int 0, .ref q1, .ref q22, .ref q50, .ref q72, .ref q96, .int 0, .ref q122, .ref q148, .ref q176, .ref q206, .ref q238, .ref q272, .ref q308, .int 0, .int 0, .ref q344, .ref q380, .ref q416, .ref q452, .ref q488, .ref q524, .ref q560, .ref q616, .int 0, .int 0, .int 0, .int 0, .ref q652, .ref q690, .ref q730, .ref q770, .ref q810, .ref q850, .ref q890, .ref q930, .ref q972, .int 0, .ref q1016, .ref q1062, .ref q1108, .ref q1154, .ref q1200, .ref q1246, .ref q1292, .ref q1338, .ref q1384, .ref q1430, .ref q1476, .int 0, .ref q1522, .ref q1570, .ref q1620, .ref q1670, .int 0, .ref q1722, .ref q1776, .ref q1830, .ref q1884]))) → (wd_at w1990 q1 (.inl (cy 10, 12, .inr (.inr (.inr (.inr (fun i => if i < 12 then some (r2 i) else none))))))) → (wd_at w1990 q22 (.inl (cy 10, 12, .inr (.inr (.inr (.inr (fun i => if i < 12 then some (r23 i) else none))))))) → (wd_at w1990 q50 (.inl (cy 2, 12, .inl (fun _ => 0)))) → (wd_at w1990 q72 (.inl (cy 2, 12, .inl rc))) → (wd_at w1990 q122 (.inl (cy 2, 30, .inl (fun _ => 0)))) → (wd_at w1990 q148 (.inl (cy 2, 30, .inl (fun _ => 0)))) → (wd_at w1990 q176 (.inl (cy 2, 30, .inl (fun _ => 0)))) → (wd_at w1990 q206 (.inl (cy 2, 30, .inl (fun _ => 0)))) → (wd_at w1990 q238 (.inl (cy 2, 30, .inl (fun _ => 0)))) → (wd_at w1990 q616 (.inl (cy 0, 300, .inl (fun _ => 0)))) → (wd_at w1990 q652 (.inl (cy 2, 12, .inl (fun _ => 0)))) → (wd_at w1990 q890 (.inl (cy 2, 5, .inl (fun _ => 0)))) → (wd_at w1990 q930 (.inl (cy 4, 5, .inl (fun _ => 0)))) → (wd_at w1990 q972 (.inl (cy 2, 5, .inl (fun _ => 0)))) → (wd_at w1990 q1476 (.inl (cy 2, 12, .inl (fun _ => 0)))) → (wd_at w1990 q1522 (.inl (cy 2, 200, .inl (fun _ => 0)))) → (wd_at w1990 q1620 (.inl (cy 3, 12, .inr (.inl (fun _ => 0))))) → (wd_at w1990 q1670 (.inl (cy 3, 12, .inr (.inl (fun _ => 0))))) → (∀ z9, z9 < 12 → wd_at w1990 (r2 z9) (.inl (cy 2, 12, .inl (fc0x425 z9)))) → (∀ z9, z9 < 12 → wd_at w1990 (r23 z9) (.inl (cy 2, 12, .inl (fc1x425 z9)))) → (wd_kp S w w1990) → ∀ (ls : Array Slot), lv_has ls 3 [(0, .ref y), (1, .int (nI i)), (2, .int (nI j))] → Wv p l e ({ frames := 2, cells := 132, slots := 7821, locals := 41 }) s m args below meth c D A (132) (7821) Q w1990 (F0 m 425 ls []) := by
        intro N
        induction N with
        | zero =>
          intro j fc0x425 fc1x425 w1990 hN425 k1991 k1992 k1993 k1994 k1995 k1996 k1997 k1998 k1999 k2000 k2001 k2002 k2003 k2004 k2005 k2006 k2007 k2008 k2009 fm2010 fm2011 kp2012 ls hl H locs hP hD hS
          refine lv_iload_n hx hb dX11_init_425 rfl (lv_at hl 2 rfl) ?_
          refine lv_bipush (v := 12) hx hb dX11_init_426 (by decide) ?_
          refine lv_icmp_ge (tgt := 457) hx hb dX11_init_428 (by decide) (fun c_2013 => ?_) (fun c_2013 => absurd (nI_le (a := 12) (b := j) (by omega) (by omega)) c_2013)
          refine lv_aload_n hx hb dX11_init_457 rfl (lv_at hl 0 rfl) ?_
          refine x_get (ref := "NoteHouseModel") F hP k1991 rfl (fun _ h => List.mem_cons_of_mem _ (List.mem_append_right _ (h))) 5 (Nat.le_of_ble_eq_true rfl) (List.mem_cons_of_mem _ (List.mem_append_left _ (List.mem_append_left _ (List.mem_of_getElem? (i := 8) rfl)))) rfl rfl dX11_init_458 ?_
          refine lv_iload_n hx hb dX11_init_461 rfl (lv_at hl 1 rfl) ?_
          refine lv_sipush (v := 1000) hx hb dX11_init_462 (by decide) ?_
          refine y_iast F hP hD hS k1995 (vp_in_nI (n := i) (N := 12) (by omega) (by decide)) dX11_init_465 (fun w2014 ew2015 H locs hP hD hS => ?_)
          have k2016 := wd_at.pt ew2015 k1991 (wd_nL hq75 k65)
          have k2017 := wd_at.pt ew2015 k1992 (wd_nL hq75 k66)
          have k2018 := wd_at.pt ew2015 k1993 (wd_nL hq75 k67)
          have k2019 := wd_at.pt ew2015 k1994 (wd_nL hq75 k68)
          have k2020 : wd_at w2014 q72 (.inl (cy 2, 12, .inl (upd rc (nI i).toNatClampNeg 1000))) := wd_at.ps ew2015 k1995
          have k2021 := wd_at.pt ew2015 k1996 (Ne.symm (wd_nL hq125 k117))
          have k2022 := wd_at.pt ew2015 k1997 (Ne.symm (wd_nL hq151 k143))
          have k2023 := wd_at.pt ew2015 k1998 (Ne.symm (wd_nL hq179 k170))
          have k2024 := wd_at.pt ew2015 k1999 (Ne.symm (wd_nL hq209 k199))
          have k2025 := wd_at.pt ew2015 k2000 (Ne.symm (wd_nL hq241 k230))
          have k2026 := wd_at.pt ew2015 k2001 (Ne.symm (wd_nL hq619 k605))
          have k2027 := wd_at.pt ew2015 k2002 (Ne.symm (wd_nL hq655 k642))
          have k2028 := wd_at.pt ew2015 k2003 (Ne.symm (wd_nL hq893 k878))
          have k2029 := wd_at.pt ew2015 k2004 (Ne.symm (wd_nL hq933 k918))
          have k2030 := wd_at.pt ew2015 k2005 (Ne.symm (wd_nL hq975 k959))
          have k2031 := wd_at.pt ew2015 k2006 (Ne.symm (wd_nL hq1479 k1461))
          have k2032 := wd_at.pt ew2015 k2007 (Ne.symm (wd_nL hq1525 k1507))
          have k2033 := wd_at.pt ew2015 k2008 (Ne.symm (wd_nL hq1623 k1603))
          have k2034 := wd_at.pt ew2015 k2009 (Ne.symm (wd_nL hq1673 k1653))
          have fm2035 : ∀ z9, z9 < 12 → wd_at w2014 (r2 z9) (.inl (cy 2, 12, .inl (fc0x425 z9))) := fun z9 hi9 => wd_at.pt ew2015 (fm2010 z9 hi9) (fn82 z9 hi9)
          have fm2036 : ∀ z9, z9 < 12 → wd_at w2014 (r23 z9) (.inl (cy 2, 12, .inl (fc1x425 z9))) := fun z9 hi9 => wd_at.pt ew2015 (fm2011 z9 hi9) (fn84 z9 hi9)
          have kp2037 := kp2012.putN ew2015 (kp71.out hq75)
          refine lv_iinc (v := nI (i + 1)) (lv' := [(1, .int (nI (i + 1))), (0, .ref y), (2, .int (nI j))]) hx hb dX11_init_466 hl (k := 1) rfl (nI_1 i) (by decide) rfl (fun ls hl => ?_)
          refine lv_goto (tgt := 417) hx hb dX11_init_469 (by decide) ?_
          exact ih417 (i + 1) fc0x425 fc1x425 (upd rc (nI i).toNatClampNeg 1000) w2014 (by omega)  k2016 k2017 k2018 k2019 k2020 k2021 k2022 k2023 k2024 k2025 k2026 k2027 k2028 k2029 k2030 k2031 k2032 k2033 k2034 fm2035 fm2036 kp2037 ls (lv_sub hl [1, 0] rfl) H locs hP hD hS
        | succ N ih425 =>
          intro j fc0x425 fc1x425 w1990 hN425 k1991 k1992 k1993 k1994 k1995 k1996 k1997 k1998 k1999 k2000 k2001 k2002 k2003 k2004 k2005 k2006 k2007 k2008 k2009 fm2010 fm2011 kp2012 ls hl H locs hP hD hS
          refine lv_iload_n hx hb dX11_init_425 rfl (lv_at hl 2 rfl) ?_
          refine lv_bipush (v := 12) hx hb dX11_init_426 (by decide) ?_
          refine lv_icmp_ge (tgt := 457) hx hb dX11_init_428 (by decide) (fun c_2038 => absurd c_2038 (nI_ge (a := j) (b := 12) (by omega) (by decide))) (fun c_2038 => ?_)
          refine lv_aload_n hx hb dX11_init_431 rfl (lv_at hl 0 rfl) ?_
          refine x_get (ref := "NoteHouseModel") F hP k1991 rfl (fun _ h => List.mem_cons_of_mem _ (List.mem_append_right _ (h))) 2 (Nat.le_of_ble_eq_true rfl) (List.mem_cons_of_mem _ (List.mem_append_left _ (List.mem_append_left _ (List.mem_of_getElem? (i := 5) rfl)))) rfl rfl dX11_init_432 ?_
          refine lv_iload_n hx hb dX11_init_435 rfl (lv_at hl 1 rfl) ?_
          refine x_aaldA F hP k1992 (vp_in_nI (n := i) (N := 12) (by omega) (by decide)) dX11_init_436 ?_
          rw [nI_clamp (n := i) (by omega), if_pos (show i < 12 by omega)]
          refine W.eq (g2 := F0 m _ ls [.ref (r2 i)]) rfl ?_
          have k2039 := fm2010 i (by omega)
          refine lv_iload_n hx hb dX11_init_437 rfl (lv_at hl 2 rfl) ?_
          refine lv_ldc (v := 268435456) hx hb hown (hts _ (List.mem_cons_of_mem _ (List.mem_append_left _ (List.mem_append_right _ (List.mem_append_right _ (List.mem_of_getElem? (i := 8) rfl)))))) dX11_init_438 ?_
          refine y_iast F hP hD hS k2039 (vp_in_nI (n := j) (N := 12) (by omega) (by decide)) dX11_init_440 (fun w2040 ew2041 H locs hP hD hS => ?_)
          have k2042 := wd_at.pt ew2041 k1991 (Ne.symm (fn10 i (by omega)))
          have k2043 := wd_at.pt ew2041 k1992 (Ne.symm (fn13 i (by omega)))
          have k2044 := wd_at.pt ew2041 k1993 (Ne.symm (fn35 i (by omega)))
          have k2045 := wd_at.pt ew2041 k1994 (Ne.symm (fn59 i (by omega)))
          have k2046 := wd_at.pt ew2041 k1995 (Ne.symm (fn82 i (by omega)))
          have k2047 := wd_at.pt ew2041 k1996 (Ne.symm (fn133 i (by omega)))
          have k2048 := wd_at.pt ew2041 k1997 (Ne.symm (fn160 i (by omega)))
          have k2049 := wd_at.pt ew2041 k1998 (Ne.symm (fn189 i (by omega)))
          have k2050 := wd_at.pt ew2041 k1999 (Ne.symm (fn220 i (by omega)))
          have k2051 := wd_at.pt ew2041 k2000 (Ne.symm (fn253 i (by omega)))
          have k2052 := wd_at.pt ew2041 k2001 (Ne.symm (fn632 i (by omega)))
          have k2053 := wd_at.pt ew2041 k2002 (Ne.symm (fn669 i (by omega)))
          have k2054 := wd_at.pt ew2041 k2003 (Ne.symm (fn908 i (by omega)))
          have k2055 := wd_at.pt ew2041 k2004 (Ne.symm (fn949 i (by omega)))
          have k2056 := wd_at.pt ew2041 k2005 (Ne.symm (fn992 i (by omega)))
          have k2057 := wd_at.pt ew2041 k2006 (Ne.symm (fn1497 i (by omega)))
          have k2058 := wd_at.pt ew2041 k2007 (Ne.symm (fn1544 i (by omega)))
          have k2059 := wd_at.pt ew2041 k2008 (Ne.symm (fn1643 i (by omega)))
          have k2060 := wd_at.pt ew2041 k2009 (Ne.symm (fn1694 i (by omega)))
          have k2061 : wd_at w2040 (r2 i) (.inl (cy 2, 12, .inl (upd (fc0x425 i) (nI j).toNatClampNeg 268435456))) := wd_at.ps ew2041 k2039
          have fm2062 : ∀ z9, z9 < 12 → wd_at w2040 (r2 z9) (.inl (cy 2, 12, .inl ((va_up fc0x425 i (upd (fc0x425 i) (nI j).toNatClampNeg 268435456)) z9))) := fm_row ew2041 (by omega) hj7 fm2010
          have fm2063 : ∀ z9, z9 < 12 → wd_at w2040 (r23 z9) (.inl (cy 2, 12, .inl (fc1x425 z9))) := fun z9 hi9 => wd_at.pt ew2041 (fm2011 z9 hi9) (ff34 i z9 (by omega) hi9)
          have kp2064 := kp2012.putN ew2041 (no15 i (by omega))
          refine lv_aload_n hx hb dX11_init_441 rfl (lv_at hl 0 rfl) ?_
          refine x_get (ref := "NoteHouseModel") F hP k2042 rfl (fun _ h => List.mem_cons_of_mem _ (List.mem_append_right _ (h))) 3 (Nat.le_of_ble_eq_true rfl) (List.mem_cons_of_mem _ (List.mem_append_left _ (List.mem_append_left _ (List.mem_of_getElem? (i := 6) rfl)))) rfl rfl dX11_init_442 ?_
          refine lv_iload_n hx hb dX11_init_445 rfl (lv_at hl 1 rfl) ?_
          refine x_aaldA F hP k2044 (vp_in_nI (n := i) (N := 12) (by omega) (by decide)) dX11_init_446 ?_
          rw [nI_clamp (n := i) (by omega), if_pos (show i < 12 by omega)]
          refine W.eq (g2 := F0 m _ ls [.ref (r23 i)]) rfl ?_
          have k2065 := fm2063 i (by omega)
          refine lv_iload_n hx hb dX11_init_447 rfl (lv_at hl 2 rfl) ?_
          refine lv_ldc (v := 268435456) hx hb hown (hts _ (List.mem_cons_of_mem _ (List.mem_append_left _ (List.mem_append_right _ (List.mem_append_right _ (List.mem_of_getElem? (i := 8) rfl)))))) dX11_init_448 ?_
          refine y_iast F hP hD hS k2065 (vp_in_nI (n := j) (N := 12) (by omega) (by decide)) dX11_init_450 (fun w2066 ew2067 H locs hP hD hS => ?_)
          have k2068 := wd_at.pt ew2067 k2042 (Ne.symm (fn31 i (by omega)))
          have k2069 := wd_at.pt ew2067 k2043 (Ne.symm (fn33 i (by omega)))
          have k2070 := wd_at.pt ew2067 k2044 (Ne.symm (fn39 i (by omega)))
          have k2071 := wd_at.pt ew2067 k2045 (Ne.symm (fn61 i (by omega)))
          have k2072 := wd_at.pt ew2067 k2046 (Ne.symm (fn84 i (by omega)))
          have k2073 := wd_at.pt ew2067 k2047 (Ne.symm (fn135 i (by omega)))
          have k2074 := wd_at.pt ew2067 k2048 (Ne.symm (fn162 i (by omega)))
          have k2075 := wd_at.pt ew2067 k2049 (Ne.symm (fn191 i (by omega)))
          have k2076 := wd_at.pt ew2067 k2050 (Ne.symm (fn222 i (by omega)))
          have k2077 := wd_at.pt ew2067 k2051 (Ne.symm (fn255 i (by omega)))
          have k2078 := wd_at.pt ew2067 k2052 (Ne.symm (fn634 i (by omega)))
          have k2079 := wd_at.pt ew2067 k2053 (Ne.symm (fn671 i (by omega)))
          have k2080 := wd_at.pt ew2067 k2054 (Ne.symm (fn910 i (by omega)))
          have k2081 := wd_at.pt ew2067 k2055 (Ne.symm (fn951 i (by omega)))
          have k2082 := wd_at.pt ew2067 k2056 (Ne.symm (fn994 i (by omega)))
          have k2083 := wd_at.pt ew2067 k2057 (Ne.symm (fn1499 i (by omega)))
          have k2084 := wd_at.pt ew2067 k2058 (Ne.symm (fn1546 i (by omega)))
          have k2085 := wd_at.pt ew2067 k2059 (Ne.symm (fn1645 i (by omega)))
          have k2086 := wd_at.pt ew2067 k2060 (Ne.symm (fn1696 i (by omega)))
          have k2087 : wd_at w2066 (r23 i) (.inl (cy 2, 12, .inl (upd (fc1x425 i) (nI j).toNatClampNeg 268435456))) := wd_at.ps ew2067 k2065
          have fm2088 : ∀ z9, z9 < 12 → wd_at w2066 (r2 z9) (.inl (cy 2, 12, .inl ((va_up fc0x425 i (upd (fc0x425 i) (nI j).toNatClampNeg 268435456)) z9))) := fun z9 hi9 => wd_at.pt ew2067 (fm2062 z9 hi9) (Ne.symm (ff34 z9 i hi9 (by omega)))
          have fm2089 : ∀ z9, z9 < 12 → wd_at w2066 (r23 z9) (.inl (cy 2, 12, .inl ((va_up fc1x425 i (upd (fc1x425 i) (nI j).toNatClampNeg 268435456)) z9))) := fm_row ew2067 (by omega) hj28 fm2063
          have kp2090 := kp2064.putN ew2067 (no41 i (by omega))
          refine lv_iinc (v := nI (j + 1)) (lv' := [(2, .int (nI (j + 1))), (0, .ref y), (1, .int (nI i))]) hx hb dX11_init_451 hl (k := 2) rfl (nI_1 j) (by decide) rfl (fun ls hl => ?_)
          refine lv_goto (tgt := 425) hx hb dX11_init_454 (by decide) ?_
          exact ih425 (j + 1) (va_up fc0x425 i (upd (fc0x425 i) (nI j).toNatClampNeg 268435456)) (va_up fc1x425 i (upd (fc1x425 i) (nI j).toNatClampNeg 268435456)) w2066 (by omega)  k2068 k2069 k2070 k2071 k2072 k2073 k2074 k2075 k2076 k2077 k2078 k2079 k2080 k2081 k2082 k2083 k2084 k2085 k2086 fm2088 fm2089 kp2090 ls (lv_sub hl [1, 2, 0] rfl) H locs hP hD hS
      exact lp425 _ 0 fc0x417 fc1x417 w1938 (Nat.zero_add 12)  k1939 k1940 k1941 k1942 k1943 k1944 k1945 k1946 k1947 k1948 k1949 k1950 k1951 k1952 k1953 k1954 k1955 k1956 k1957 fm1958 fm1959 kp1960 ls (lv_sub hl [1, 2, 0] rfl) H locs hP hD hS
  exact lp417 _ 0 (fun _ _ => 0) (fun _ _ => 0) (fun _ => 0) w1913 (Nat.zero_add 12)  k1915 k1916 k1917 k1918 k1919 k1920 k1921 k1922 k1923 k1924 k1925 k1926 k1927 k1928 k1929 k1930 k1931 k1932 k1933 fm1935 fm1936 kp1937 ls (lv_sub hl [1, 0] rfl) H locs hP hD hS
