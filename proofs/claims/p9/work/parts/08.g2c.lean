def aOK (cf nf : Nat → Int32) : Prop := (∀ k, k < 12 → ∃ u, u ≤ 6 ∧ cf k = nI u) ∧ (∀ j, j < 72 → ∃ z, z < 8 ∧ nf j = nI z)
theorem aOK.c {cf nf : Nat → Int32} {r u : Nat} (h : aOK cf nf) (hr : r < 12) (hu : u ≤ 6) : aOK (upd cf (nI r).toNatClampNeg (nI u)) nf := ⟨fun k hk => by
  rw [nI_clamp (by omega)]
  by_cases e : k = r
  · rw [e, pk_us]; exact ⟨u, hu, rfl⟩
  · rw [pk_un e]; exact h.1 k hk, h.2⟩
theorem aOK.n {cf nf : Nat → Int32} {j z : Nat} (h : aOK cf nf) (hj : j < 72) (hz : z < 8) : aOK cf (upd nf (nI j).toNatClampNeg (nI z)) := ⟨h.1, fun k hk => by
  rw [nI_clamp (by omega)]
  by_cases e : k = j
  · rw [e, pk_us]; exact ⟨z, hz, rfl⟩
  · rw [pk_un e]; exact h.2 k hk⟩
theorem nb2 : st_bl 2 (st_len.getD 2 0) = 7 := by decide +kernel
theorem nb4 : st_bl 4 (st_len.getD 4 0) = 4 := by decide +kernel
theorem nI_n0 {k : Nat} (h : k < 2000) : ¬ nI (1 + k) = 0 := nI_ne0 (by omega) (by omega)
set_option maxHeartbeats 4000000 in
set_option maxRecDepth 100000 in
theorem g_isSo (l : Launch) (D : va_G) (cy : Nat → ClassId) (sk sv : Nat → Nat) (w : Wd) (x s1 y : Int32)    : Ct l D cy sk sv yX1_isSo wsX1_isSo ({ frames := 0, cells := 0, slots := 0, locals := 0 }) [.int x, .int s1, .int y] w (fun v w1 => ∃ (r1 : Int32), v = some (.int r1) ∧ (r1 = 0 ∨ r1 = 1) ∧ w = w1) := by
  refine Ct.by (cc := cX1_isSo) (maxL := 3) (ret := (some .boolean)) (by decide +kernel) rfl (Nat.le_of_ble_eq_true rfl) ?_
  intro p e s m args below meth c A Q F hnm K ls hl
  have F : wd_Fx p s m args meth c cX1_isSo 3 wsX1_isSo RX1 D cy sk sv A := F
  have hl : lv_has ls 3 [(0, .int x), (1, .int s1), (2, .int y)] := hl
  have hx := F.1.1
  have hb := F.1.2.1
  have hown := F.1.2.2.2.1
  have hts := F.1.2.2.2.2
  intro H locs hP hD hS
  refine lv_iload_n hx hb dX1_isSo_0 rfl (lv_at hl 1 rfl) ?_
  refine lv_bipush (v := 60) hx hb dX1_isSo_1 (by decide) ?_
  refine lv_icmp_ne (tgt := 17) hx hb dX1_isSo_3 (by decide) (fun c_1 => ?_) (fun c_1 => ?_)
  · refine lv_iload_n hx hb dX1_isSo_17 rfl (lv_at hl 1 rfl) ?_
    refine lv_bipush (v := 62) hx hb dX1_isSo_18 (by decide) ?_
    refine lv_icmp_ne (tgt := 36) hx hb dX1_isSo_20 (by decide) (fun c_2 => ?_) (fun c_2 => ?_)
    · refine lv_iload_n hx hb dX1_isSo_36 rfl (lv_at hl 0 rfl) ?_
      refine lv_iload_n hx hb dX1_isSo_37 rfl (lv_at hl 2 rfl) ?_
      refine lv_icmp_ne (tgt := 45) hx hb dX1_isSo_38 (by decide) (fun c_3 => ?_) (fun c_3 => ?_)
      · refine lv_iconst (v := 0) hx hb dX1_isSo_45 (by decide) ?_
        exact y_ir K hP hD hS (Nat.le_of_ble_eq_true rfl) (Nat.le_of_ble_eq_true rfl) (ty := .boolean) rfl rfl dX1_isSo_46 (⟨0, rfl, Or.inl rfl, rfl⟩)
      · refine lv_iconst (v := 1) hx hb dX1_isSo_41 (by decide) ?_
        refine lv_goto (tgt := 46) hx hb dX1_isSo_42 (by decide) ?_
        exact y_ir K hP hD hS (Nat.le_of_ble_eq_true rfl) (Nat.le_of_ble_eq_true rfl) (ty := .boolean) rfl rfl dX1_isSo_46 (⟨1, rfl, Or.inr rfl, rfl⟩)
    · refine lv_iload_n hx hb dX1_isSo_23 rfl (lv_at hl 0 rfl) ?_
      refine lv_iload_n hx hb dX1_isSo_24 rfl (lv_at hl 2 rfl) ?_
      refine lv_icmp_le (tgt := 32) hx hb dX1_isSo_25 (by decide) (fun c_4 => ?_) (fun c_4 => ?_)
      · refine lv_iconst (v := 0) hx hb dX1_isSo_32 (by decide) ?_
        refine lv_goto (tgt := 46) hx hb dX1_isSo_33 (by decide) ?_
        exact y_ir K hP hD hS (Nat.le_of_ble_eq_true rfl) (Nat.le_of_ble_eq_true rfl) (ty := .boolean) rfl rfl dX1_isSo_46 (⟨0, rfl, Or.inl rfl, rfl⟩)
      · refine lv_iconst (v := 1) hx hb dX1_isSo_28 (by decide) ?_
        refine lv_goto (tgt := 46) hx hb dX1_isSo_29 (by decide) ?_
        exact y_ir K hP hD hS (Nat.le_of_ble_eq_true rfl) (Nat.le_of_ble_eq_true rfl) (ty := .boolean) rfl rfl dX1_isSo_46 (⟨1, rfl, Or.inr rfl, rfl⟩)
  · refine lv_iload_n hx hb dX1_isSo_6 rfl (lv_at hl 0 rfl) ?_
    refine lv_iload_n hx hb dX1_isSo_7 rfl (lv_at hl 2 rfl) ?_
    refine lv_icmp_ge (tgt := 15) hx hb dX1_isSo_8 (by decide) (fun c_5 => ?_) (fun c_5 => ?_)
    · refine lv_iconst (v := 0) hx hb dX1_isSo_15 (by decide) ?_
      exact y_ir K hP hD hS (Nat.le_of_ble_eq_true rfl) (Nat.le_of_ble_eq_true rfl) (ty := .boolean) rfl rfl dX1_isSo_16 (⟨0, rfl, Or.inl rfl, rfl⟩)
    · refine lv_iconst (v := 1) hx hb dX1_isSo_11 (by decide) ?_
      refine lv_goto (tgt := 16) hx hb dX1_isSo_12 (by decide) ?_
      exact y_ir K hP hD hS (Nat.le_of_ble_eq_true rfl) (Nat.le_of_ble_eq_true rfl) (ty := .boolean) rfl rfl dX1_isSo_16 (⟨1, rfl, Or.inr rfl, rfl⟩)
set_option maxHeartbeats 4000000 in
set_option maxRecDepth 100000 in
theorem g_takeSign (l : Launch) (D : va_G) (cy : Nat → ClassId) (sk sv : Nat → Nat) (w : Wd) (t b n a0 : Nat) (f : Nat → Int32) (c90 : wd_at w t (.inr (7, [.ref b, .int (nI n), .int (nI a0)]))) (c91 : wd_at w b (.inl (cy 0, 300, .inl f)))  (S : Nat → Prop) (s90 : S t) (hn : n ≤ 300) (ha : a0 ≤ n) : Ct l D cy sk sv yX1_takeSign wsX1_takeSign ({ frames := 2, cells := 0, slots := 0, locals := 41 }) [.ref t] w (fun v w1 => ∃ (a1 : Nat) (r1 : Int32), v = some (.int r1) ∧ (a0 ≤ a1) ∧ (a1 ≤ n) ∧ (narrow .char (.int r1) = .int r1) ∧ wd_kp S w w1 ∧ wd_at w1 t (.inr (7, [.ref b, .int (nI n), .int (nI a1)]))) := by
  refine Ct.by (cc := cX1_takeSign) (maxL := 1) (ret := (some .char)) (by decide +kernel) rfl (Nat.le_of_ble_eq_true rfl) ?_
  intro p e s m args below meth c A Q F hnm K ls hl
  have F : wd_Fx p s m args meth c cX1_takeSign 1 wsX1_takeSign RX1 D cy sk sv A := F
  have hl : lv_has ls 1 [(0, .ref t)] := hl
  have hx := F.1.1
  have hb := F.1.2.1
  have hown := F.1.2.2.2.1
  have hts := F.1.2.2.2.2
  intro H locs hP hD hS
  have kp0 : wd_kp S w w := wd_kp.rf
  refine lv_aload_n hx hb dX1_takeSign_0 rfl (lv_at hl 0 rfl) ?_
  refine lv_bipush (v := 60) hx hb dX1_takeSign_1 (by decide) ?_
  refine x_callV (n := 1) (As := [.int 60]) (rest := []) F hP hD hS (g_takes l D cy sk sv w t b n a0 f 60 c90 c91 (fun b => b = t) rfl (by omega) (by omega)) gX1_takeSign_X7_takes rfl rfl (by decide +kernel) ⟨(Nat.le_of_ble_eq_true rfl), (Nat.le_of_ble_eq_true rfl)⟩ rfl hl.1 (Nat.le_of_ble_eq_true rfl) c90 rfl dX1_takeSign_3 rfl ⟨(Nat.le_of_ble_eq_true rfl), (Nat.le_of_ble_eq_true rfl)⟩ (fun v2 w3 hp1 H locs hP hD hS => ?_)
  obtain ⟨ax4, rx5, rfl, hz6, hz7, hz8, kq10, k9⟩ := hp1
  have k11 := kq10.2 _ _ c91 (fun q9 : b = t => (wd_nk c91 c90 rfl) q9)
  have kp12 := kp0.tr kq10 (fun b9 hm q9 => (fun q9 => q9 ▸ s90) q9)
  refine W.eq (g2 := F0 m 6 ls [.int rx5]) rfl (W.widen (k := 0) (n := 0) (Nat.le_of_ble_eq_true rfl) (Nat.le_of_ble_eq_true rfl) ?_)
  refine lv_if_eq (tgt := 12) hx hb dX1_takeSign_6 (by decide) (fun c_13 => ?_) (fun c_13 => ?_)
  · refine lv_aload_n hx hb dX1_takeSign_12 rfl (lv_at hl 0 rfl) ?_
    refine lv_bipush (v := 62) hx hb dX1_takeSign_13 (by decide) ?_
    refine x_callV (n := 1) (As := [.int 62]) (rest := []) F hP hD hS (g_takes l D cy sk sv w3 t b n ax4 f 62 k9 k11 (fun b => b = t) rfl (by omega) (by omega)) gX1_takeSign_X7_takes rfl rfl (by decide +kernel) ⟨(Nat.le_of_ble_eq_true rfl), (Nat.le_of_ble_eq_true rfl)⟩ rfl hl.1 (Nat.le_of_ble_eq_true rfl) k9 rfl dX1_takeSign_15 rfl ⟨(Nat.le_of_ble_eq_true rfl), (Nat.le_of_ble_eq_true rfl)⟩ (fun v15 w16 hp14 H locs hP hD hS => ?_)
    obtain ⟨ax17, rx18, rfl, hz19, hz20, hz21, kq23, k22⟩ := hp14
    have k24 := kq23.2 _ _ k11 (fun q9 : b = t => (wd_nk k11 k9 rfl) q9)
    have kp25 := kp12.tr kq23 (fun b9 hm q9 => (fun q9 => q9 ▸ s90) q9)
    refine W.eq (g2 := F0 m 18 ls [.int rx18]) rfl (W.widen (k := 0) (n := 0) (Nat.le_of_ble_eq_true rfl) (Nat.le_of_ble_eq_true rfl) ?_)
    refine lv_if_eq (tgt := 24) hx hb dX1_takeSign_18 (by decide) (fun c_26 => ?_) (fun c_26 => ?_)
    · refine lv_aload_n hx hb dX1_takeSign_24 rfl (lv_at hl 0 rfl) ?_
      refine lv_bipush (v := 61) hx hb dX1_takeSign_25 (by decide) ?_
      refine x_callV (n := 1) (As := [.int 61]) (rest := []) F hP hD hS (g_takes l D cy sk sv w16 t b n ax17 f 61 k22 k24 (fun b => b = t) rfl (by omega) (by omega)) gX1_takeSign_X7_takes rfl rfl (by decide +kernel) ⟨(Nat.le_of_ble_eq_true rfl), (Nat.le_of_ble_eq_true rfl)⟩ rfl hl.1 (Nat.le_of_ble_eq_true rfl) k22 rfl dX1_takeSign_27 rfl ⟨(Nat.le_of_ble_eq_true rfl), (Nat.le_of_ble_eq_true rfl)⟩ (fun v28 w29 hp27 H locs hP hD hS => ?_)
      obtain ⟨ax30, rx31, rfl, hz32, hz33, hz34, kq36, k35⟩ := hp27
      have k37 := kq36.2 _ _ k24 (fun q9 : b = t => (wd_nk k24 k22 rfl) q9)
      have kp38 := kp25.tr kq36 (fun b9 hm q9 => (fun q9 => q9 ▸ s90) q9)
      refine W.eq (g2 := F0 m 30 ls [.int rx31]) rfl (W.widen (k := 0) (n := 0) (Nat.le_of_ble_eq_true rfl) (Nat.le_of_ble_eq_true rfl) ?_)
      refine lv_if_eq (tgt := 38) hx hb dX1_takeSign_30 (by decide) (fun c_39 => ?_) (fun c_39 => ?_)
      · refine lv_bipush (v := 32) hx hb dX1_takeSign_38 (by decide) ?_
        exact y_ir K hP hD hS (Nat.le_of_ble_eq_true rfl) (Nat.le_of_ble_eq_true rfl) (ty := .char) rfl rfl dX1_takeSign_40 (⟨ax30, 32, rfl, by omega, by omega, by decide, kp38, k35⟩)
      · refine lv_bipush (v := 61) hx hb dX1_takeSign_33 (by decide) ?_
        refine lv_goto (tgt := 40) hx hb dX1_takeSign_35 (by decide) ?_
        exact y_ir K hP hD hS (Nat.le_of_ble_eq_true rfl) (Nat.le_of_ble_eq_true rfl) (ty := .char) rfl rfl dX1_takeSign_40 (⟨ax30, 61, rfl, by omega, by omega, by decide, kp38, k35⟩)
    · refine lv_bipush (v := 62) hx hb dX1_takeSign_21 (by decide) ?_
      exact y_ir K hP hD hS (Nat.le_of_ble_eq_true rfl) (Nat.le_of_ble_eq_true rfl) (ty := .char) rfl rfl dX1_takeSign_23 (⟨ax17, 62, rfl, by omega, by omega, by decide, kp25, k22⟩)
  · refine lv_bipush (v := 60) hx hb dX1_takeSign_9 (by decide) ?_
    exact y_ir K hP hD hS (Nat.le_of_ble_eq_true rfl) (Nat.le_of_ble_eq_true rfl) (ty := .char) rfl rfl dX1_takeSign_11 (⟨ax4, 60, rfl, by omega, by omega, by decide, kp12, k9⟩)
set_option maxHeartbeats 4000000 in
set_option maxRecDepth 100000 in
theorem g_isMet (l : Launch) (D : va_G) (cy : Nat → ClassId) (sk sv : Nat → Nat) (w : Wd) (ag g0 g1 g2 g3 g4 : Nat) (fa r : Nat) (rc : Int32) (cf nf sf uf ff : Nat → Int32) (c90 : wd_at w ag (.inr (1, [.ref g0, .ref g1, .ref g2, .ref g3, .ref g4, .int rc]))) (c91 : wd_at w g1 (.inl (cy 2, 12, .inl cf))) (c92 : wd_at w g2 (.inl (cy 2, 72, .inl nf))) (c93 : wd_at w g3 (.inl (cy 1, 72, .inl sf))) (c94 : wd_at w g4 (.inl (cy 2, 72, .inl uf))) (c95 : wd_at w fa (.inl (cy 2, 8, .inl ff)))  (hok : aOK cf nf) (hr : r < 12) : Ct l D cy sk sv yX1_isMet wsX1_isMet ({ frames := 1, cells := 0, slots := 0, locals := 22 }) [.ref ag, .int (nI r), .ref fa] w (fun v w1 => ∃ (r1 : Int32), v = some (.int r1) ∧ (r1 = 0 ∨ r1 = 1) ∧ w = w1) := by
  refine Ct.by (cc := cX1_isMet) (maxL := 5) (ret := (some .boolean)) (by decide +kernel) rfl (Nat.le_of_ble_eq_true rfl) ?_
  intro p e s m args below meth c A Q F hnm K ls hl
  have F : wd_Fx p s m args meth c cX1_isMet 5 wsX1_isMet RX1 D cy sk sv A := F
  have hl : lv_has ls 5 [(0, .ref ag), (1, .int (nI r)), (2, .ref fa)] := hl
  have hx := F.1.1
  have hb := F.1.2.1
  have hown := F.1.2.2.2.1
  have hts := F.1.2.2.2.2
  intro H locs hP hD hS
  obtain ⟨u, hu, eu⟩ := hok.1 r (by omega)
  refine lv_iload_n hx hb dX1_isMet_0 rfl (lv_at hl 1 rfl) ?_
  refine lv_bipush (v := 6) hx hb dX1_isMet_1 (by decide) ?_
  refine lv_imul hx hb dX1_isMet_3 ?_
  rw [show ((nI r) * 6 : Int32) = nI (r * 6) from pk_mul r 6]
  refine lv_istore_n (lv' := [(3, .int (nI (r * 6))), (0, .ref ag), (1, .int (nI r)), (2, .ref fa)]) hx hb dX1_isMet_4 rfl hl (by decide) rfl (fun ls hl => ?_)
  refine lv_iload_n hx hb dX1_isMet_5 rfl (lv_at hl 0 rfl) ?_
  refine lv_istore (lv' := [(4, .int (nI (r * 6))), (3, .int (nI (r * 6))), (0, .ref ag), (1, .int (nI r)), (2, .ref fa)]) hx hb dX1_isMet_6 hl (by decide) rfl (fun ls hl => ?_)
  have lp8 : ∀ (N : Nat) (j : Nat), (j + N = r * 6 + u) → (r * 6 ≤ j) → ∀ (ls : Array Slot), lv_has ls 5 [(0, .ref ag), (1, .int (nI r)), (2, .ref fa), (3, .int (nI (r * 6))), (4, .int (nI j))] → Wv p l e ({ frames := 1, cells := 0, slots := 0, locals := 22 }) s m args below meth c D A (0) (0) Q w (F0 m 8 ls []) := by
    intro N
    induction N with
    | zero =>
      intro j hN8 hj ls hl H locs hP hD hS
      refine lv_iload hx hb dX1_isMet_8 (lv_at hl 4 rfl) ?_
      refine lv_iload_n hx hb dX1_isMet_10 rfl (lv_at hl 3 rfl) ?_
      refine lv_aload_n hx hb dX1_isMet_11 rfl (lv_at hl 0 rfl) ?_
      refine x_get (ref := "NoteHouse$Agent") F hP c90 rfl (fun _ h => List.mem_cons_of_mem _ (List.mem_append_right _ (h))) 1 (Nat.le_of_ble_eq_true rfl) (List.mem_cons_of_mem _ (List.mem_append_left _ (List.mem_of_getElem? (i := 0) rfl))) rfl rfl dX1_isMet_12 ?_
      refine lv_iload_n hx hb dX1_isMet_15 rfl (lv_at hl 1 rfl) ?_
      refine x_iald F hP c91 (vp_in_nI (n := r) (N := 12) (by omega) (by decide)) dX1_isMet_16 ?_
      rw [nI_clamp (n := r) (by omega), eu]
      refine lv_iadd hx hb dX1_isMet_17 ?_
      rw [show ((nI (r * 6)) + (nI u) : Int32) = nI ((r * 6) + u) from nI_add (r * 6) u]
      refine lv_icmp_ge (tgt := 58) hx hb dX1_isMet_18 (by decide) (fun c_2 => ?_) (fun c_2 => absurd (nI_le (a := r * 6 + u) (b := j) (by omega) (by omega)) c_2)
      refine lv_iconst (v := 1) hx hb dX1_isMet_58 (by decide) ?_
      exact y_ir K hP hD hS (Nat.le_of_ble_eq_true rfl) (Nat.le_of_ble_eq_true rfl) (ty := .boolean) rfl rfl dX1_isMet_59 (⟨1, rfl, Or.inr rfl, rfl⟩)
    | succ N ih8 =>
      intro j hN8 hj ls hl H locs hP hD hS
      refine lv_iload hx hb dX1_isMet_8 (lv_at hl 4 rfl) ?_
      refine lv_iload_n hx hb dX1_isMet_10 rfl (lv_at hl 3 rfl) ?_
      refine lv_aload_n hx hb dX1_isMet_11 rfl (lv_at hl 0 rfl) ?_
      refine x_get (ref := "NoteHouse$Agent") F hP c90 rfl (fun _ h => List.mem_cons_of_mem _ (List.mem_append_right _ (h))) 1 (Nat.le_of_ble_eq_true rfl) (List.mem_cons_of_mem _ (List.mem_append_left _ (List.mem_of_getElem? (i := 0) rfl))) rfl rfl dX1_isMet_12 ?_
      refine lv_iload_n hx hb dX1_isMet_15 rfl (lv_at hl 1 rfl) ?_
      refine x_iald F hP c91 (vp_in_nI (n := r) (N := 12) (by omega) (by decide)) dX1_isMet_16 ?_
      rw [nI_clamp (n := r) (by omega), eu]
      refine lv_iadd hx hb dX1_isMet_17 ?_
      rw [show ((nI (r * 6)) + (nI u) : Int32) = nI ((r * 6) + u) from nI_add (r * 6) u]
      refine lv_icmp_ge (tgt := 58) hx hb dX1_isMet_18 (by decide) (fun c_3 => absurd c_3 (nI_ge (a := j) (b := r * 6 + u) (by omega) (by omega))) (fun c_3 => ?_)
      refine lv_aload_n hx hb dX1_isMet_21 rfl (lv_at hl 2 rfl) ?_
      refine lv_aload_n hx hb dX1_isMet_22 rfl (lv_at hl 0 rfl) ?_
      refine x_get (ref := "NoteHouse$Agent") F hP c90 rfl (fun _ h => List.mem_cons_of_mem _ (List.mem_append_right _ (h))) 2 (Nat.le_of_ble_eq_true rfl) (List.mem_cons_of_mem _ (List.mem_append_left _ (List.mem_of_getElem? (i := 1) rfl))) rfl rfl dX1_isMet_23 ?_
      refine lv_iload hx hb dX1_isMet_26 (lv_at hl 4 rfl) ?_
      refine x_iald F hP c92 (vp_in_nI (n := j) (N := 72) (by omega) (by decide)) dX1_isMet_28 ?_
      obtain ⟨z, hz, ez⟩ := hok.2 j (by omega)
      rw [nI_clamp (n := j) (by omega), ez]
      refine x_iald F hP c95 (vp_in_nI (n := z) (N := 8) (by omega) (by decide)) dX1_isMet_29 ?_
      refine lv_aload_n hx hb dX1_isMet_30 rfl (lv_at hl 0 rfl) ?_
      refine x_get (ref := "NoteHouse$Agent") F hP c90 rfl (fun _ h => List.mem_cons_of_mem _ (List.mem_append_right _ (h))) 3 (Nat.le_of_ble_eq_true rfl) (List.mem_cons_of_mem _ (List.mem_append_left _ (List.mem_of_getElem? (i := 2) rfl))) rfl rfl dX1_isMet_31 ?_
      refine lv_iload hx hb dX1_isMet_34 (lv_at hl 4 rfl) ?_
      refine x_cald F hP c93 (vp_in_nI (n := j) (N := 72) (by omega) (by decide)) dX1_isMet_36 ?_
      refine lv_aload_n hx hb dX1_isMet_37 rfl (lv_at hl 0 rfl) ?_
      refine x_get (ref := "NoteHouse$Agent") F hP c90 rfl (fun _ h => List.mem_cons_of_mem _ (List.mem_append_right _ (h))) 4 (Nat.le_of_ble_eq_true rfl) (List.mem_cons_of_mem _ (List.mem_append_left _ (List.mem_of_getElem? (i := 3) rfl))) rfl rfl dX1_isMet_38 ?_
      refine lv_iload hx hb dX1_isMet_41 (lv_at hl 4 rfl) ?_
      refine x_iald F hP c94 (vp_in_nI (n := j) (N := 72) (by omega) (by decide)) dX1_isMet_43 ?_
      refine x_callS (n := 3) (As := [.int (ff (nI z).toNatClampNeg), .int (sf (nI j).toNatClampNeg), .int (uf (nI j).toNatClampNeg)]) (rest := []) F hP hD hS (g_isSo l D cy sk sv w (ff (nI z).toNatClampNeg) (sf (nI j).toNatClampNeg) (uf (nI j).toNatClampNeg)) gX1_isMet_X1_isSo rfl (by decide +kernel) ⟨(Nat.le_of_ble_eq_true rfl), (Nat.le_of_ble_eq_true rfl)⟩ rfl hl.1 (Nat.le_of_ble_eq_true rfl) dX1_isMet_44 rfl ⟨(Nat.le_of_ble_eq_true rfl), (Nat.le_of_ble_eq_true rfl)⟩ (fun v5 w6 hp4 H locs hP hD hS => ?_)
      obtain ⟨rx7, rfl, hz8, rfl⟩ := hp4
      refine W.eq (g2 := F0 m 47 ls [.int rx7]) rfl (W.widen (k := 0) (n := 0) (Nat.le_of_ble_eq_true rfl) (Nat.le_of_ble_eq_true rfl) ?_)
      refine lv_if_ne (tgt := 52) hx hb dX1_isMet_47 (by decide) (fun c_9 => ?_) (fun c_9 => ?_)
      · refine lv_iinc (v := nI (j + 1)) (lv' := [(4, .int (nI (j + 1))), (0, .ref ag), (1, .int (nI r)), (2, .ref fa), (3, .int (nI (r * 6)))]) hx hb dX1_isMet_52 hl (k := 4) rfl (nI_1 j) (by decide) rfl (fun ls hl => ?_)
        refine lv_goto (tgt := 8) hx hb dX1_isMet_55 (by decide) ?_
        exact ih8 (j + 1)  (by omega) (by omega)   ls (lv_sub hl [1, 2, 3, 4, 0] rfl) H locs hP hD hS
      · refine lv_iconst (v := 0) hx hb dX1_isMet_50 (by decide) ?_
        exact y_ir K hP hD hS (Nat.le_of_ble_eq_true rfl) (Nat.le_of_ble_eq_true rfl) (ty := .boolean) rfl rfl dX1_isMet_51 (⟨0, rfl, Or.inl rfl, rfl⟩)
  exact lp8 u (r * 6)  rfl (Nat.le_refl _)   ls (lv_sub hl [2, 3, 4, 1, 0] rfl) H locs hP hD hS
set_option maxHeartbeats 4000000 in
set_option maxRecDepth 100000 in
theorem g_firstRuleFor (l : Launch) (D : va_G) (cy : Nat → ClassId) (sk sv : Nat → Nat) (w : Wd) (ag g0 g1 g2 g3 g4 : Nat) (fa r : Nat) (cf nf sf uf ff : Nat → Int32) (c90 : wd_at w ag (.inr (1, [.ref g0, .ref g1, .ref g2, .ref g3, .ref g4, .int (nI r)]))) (c91 : wd_at w g1 (.inl (cy 2, 12, .inl cf))) (c92 : wd_at w g2 (.inl (cy 2, 72, .inl nf))) (c93 : wd_at w g3 (.inl (cy 1, 72, .inl sf))) (c94 : wd_at w g4 (.inl (cy 2, 72, .inl uf))) (c95 : wd_at w fa (.inl (cy 2, 8, .inl ff)))  (hok : aOK cf nf) (hr : r ≤ 12) : Ct l D cy sk sv yX1_firstRuleFor wsX1_firstRuleFor ({ frames := 2, cells := 0, slots := 0, locals := 46 }) [.ref ag, .ref fa] w (fun v w1 => ∃ (r1 : Int32), v = some (.int r1) ∧ ((r1 = -1 ∨ ∃ k, k < r ∧ r1 = nI k)) ∧ w = w1) := by
  refine Ct.by (cc := cX1_firstRuleFor) (maxL := 3) (ret := (some .int)) (by decide +kernel) rfl (Nat.le_of_ble_eq_true rfl) ?_
  intro p e s m args below meth c A Q F hnm K ls hl
  have F : wd_Fx p s m args meth c cX1_firstRuleFor 3 wsX1_firstRuleFor RX1 D cy sk sv A := F
  have hl : lv_has ls 3 [(0, .ref ag), (1, .ref fa)] := hl
  have hx := F.1.1
  have hb := F.1.2.1
  have hown := F.1.2.2.2.1
  have hts := F.1.2.2.2.2
  intro H locs hP hD hS
  refine lv_iconst (v := 0) hx hb dX1_firstRuleFor_0 (by decide) ?_
  refine lv_istore_n (lv' := [(2, .int 0), (0, .ref ag), (1, .ref fa)]) hx hb dX1_firstRuleFor_1 rfl hl (by decide) rfl (fun ls hl => ?_)
  have lp2 : ∀ (N : Nat) (k : Nat), (k + N = r) → ∀ (ls : Array Slot), lv_has ls 3 [(0, .ref ag), (1, .ref fa), (2, .int (nI k))] → Wv p l e ({ frames := 2, cells := 0, slots := 0, locals := 46 }) s m args below meth c D A (0) (0) Q w (F0 m 2 ls []) := by
    intro N
    induction N with
    | zero =>
      intro k hN2 ls hl H locs hP hD hS
      refine lv_iload_n hx hb dX1_firstRuleFor_2 rfl (lv_at hl 2 rfl) ?_
      refine lv_aload_n hx hb dX1_firstRuleFor_3 rfl (lv_at hl 0 rfl) ?_
      refine x_get (ref := "NoteHouse$Agent") F hP c90 rfl (fun _ h => List.mem_cons_of_mem _ (List.mem_append_right _ (h))) 5 (Nat.le_of_ble_eq_true rfl) (List.mem_cons_of_mem _ (List.mem_append_left _ (List.mem_of_getElem? (i := 0) rfl))) rfl rfl dX1_firstRuleFor_4 ?_
      refine lv_icmp_ge (tgt := 27) hx hb dX1_firstRuleFor_7 (by decide) (fun c_2 => ?_) (fun c_2 => absurd (nI_le (a := r) (b := k) (by omega) (by omega)) c_2)
      refine lv_iconst (v := (-1)) hx hb dX1_firstRuleFor_27 (by decide) ?_
      exact y_ir K hP hD hS (Nat.le_of_ble_eq_true rfl) (Nat.le_of_ble_eq_true rfl) (ty := .int) rfl rfl dX1_firstRuleFor_28 (⟨(-1), rfl, Or.inl rfl, rfl⟩)
    | succ N ih2 =>
      intro k hN2 ls hl H locs hP hD hS
      refine lv_iload_n hx hb dX1_firstRuleFor_2 rfl (lv_at hl 2 rfl) ?_
      refine lv_aload_n hx hb dX1_firstRuleFor_3 rfl (lv_at hl 0 rfl) ?_
      refine x_get (ref := "NoteHouse$Agent") F hP c90 rfl (fun _ h => List.mem_cons_of_mem _ (List.mem_append_right _ (h))) 5 (Nat.le_of_ble_eq_true rfl) (List.mem_cons_of_mem _ (List.mem_append_left _ (List.mem_of_getElem? (i := 0) rfl))) rfl rfl dX1_firstRuleFor_4 ?_
      refine lv_icmp_ge (tgt := 27) hx hb dX1_firstRuleFor_7 (by decide) (fun c_3 => absurd c_3 (nI_ge (a := k) (b := r) (by omega) (by omega))) (fun c_3 => ?_)
      refine lv_aload_n hx hb dX1_firstRuleFor_10 rfl (lv_at hl 0 rfl) ?_
      refine lv_iload_n hx hb dX1_firstRuleFor_11 rfl (lv_at hl 2 rfl) ?_
      refine lv_aload_n hx hb dX1_firstRuleFor_12 rfl (lv_at hl 1 rfl) ?_
      refine x_callV (n := 2) (As := [.int (nI k), .ref fa]) (rest := []) F hP hD hS (g_isMet l D cy sk sv w ag g0 g1 g2 g3 g4 fa k (nI r) cf nf sf uf ff c90 c91 c92 c93 c94 c95 (by assumption) (by omega)) gX1_firstRuleFor_X1_isMet rfl rfl (by decide +kernel) ⟨(Nat.le_of_ble_eq_true rfl), (Nat.le_of_ble_eq_true rfl)⟩ rfl hl.1 (Nat.le_of_ble_eq_true rfl) c90 rfl dX1_firstRuleFor_13 rfl ⟨(Nat.le_of_ble_eq_true rfl), (Nat.le_of_ble_eq_true rfl)⟩ (fun v5 w6 hp4 H locs hP hD hS => ?_)
      obtain ⟨rx7, rfl, hz8, rfl⟩ := hp4
      refine W.eq (g2 := F0 m 16 ls [.int rx7]) rfl (W.widen (k := 0) (n := 0) (Nat.le_of_ble_eq_true rfl) (Nat.le_of_ble_eq_true rfl) ?_)
      refine lv_if_eq (tgt := 21) hx hb dX1_firstRuleFor_16 (by decide) (fun c_9 => ?_) (fun c_9 => ?_)
      · refine lv_iinc (v := nI (k + 1)) (lv' := [(2, .int (nI (k + 1))), (0, .ref ag), (1, .ref fa)]) hx hb dX1_firstRuleFor_21 hl (k := 2) rfl (nI_1 k) (by decide) rfl (fun ls hl => ?_)
        refine lv_goto (tgt := 2) hx hb dX1_firstRuleFor_24 (by decide) ?_
        exact ih2 (k + 1)  (by omega)    ls (lv_sub hl [1, 2, 0] rfl) H locs hP hD hS
      · refine lv_iload_n hx hb dX1_firstRuleFor_19 rfl (lv_at hl 2 rfl) ?_
        exact y_ir K hP hD hS (Nat.le_of_ble_eq_true rfl) (Nat.le_of_ble_eq_true rfl) (ty := .int) rfl rfl dX1_firstRuleFor_20 (⟨nI k, rfl, Or.inr ⟨k, by omega, rfl⟩, rfl⟩)
  exact lp2 _ 0  (Nat.zero_add r)    ls (lv_sub hl [1, 2, 0] rfl) H locs hP hD hS
set_option maxHeartbeats 4000000 in
set_option maxRecDepth 100000 in
theorem g_deedOf (l : Launch) (D : va_G) (cy : Nat → ClassId) (sk sv : Nat → Nat) (w : Wd) (ag g0 g1 g2 g3 g4 : Nat) (r : Nat) (df : Nat → Int32) (x : Int32) (c90 : wd_at w ag (.inr (1, [.ref g0, .ref g1, .ref g2, .ref g3, .ref g4, .int (nI r)]))) (c91 : wd_at w g0 (.inl (cy 2, 12, .inl df)))  (hr : r ≤ 12) : Ct l D cy sk sv yX1_deedOf wsX1_deedOf ({ frames := 0, cells := 0, slots := 0, locals := 0 }) [.ref ag, .int x] w (fun v w1 => ∃ (r1 : Int32), v = some (.int r1) ∧ w = w1) := by
  refine Ct.by (cc := cX1_deedOf) (maxL := 2) (ret := (some .int)) (by decide +kernel) rfl (Nat.le_of_ble_eq_true rfl) ?_
  intro p e s m args below meth c A Q F hnm K ls hl
  have F : wd_Fx p s m args meth c cX1_deedOf 2 wsX1_deedOf RX1 D cy sk sv A := F
  have hl : lv_has ls 2 [(0, .ref ag), (1, .int x)] := hl
  have hx := F.1.1
  have hb := F.1.2.1
  have hown := F.1.2.2.2.1
  have hts := F.1.2.2.2.2
  intro H locs hP hD hS
  refine lv_iload_n hx hb dX1_deedOf_0 rfl (lv_at hl 1 rfl) ?_
  refine lv_if_lt (tgt := 21) hx hb dX1_deedOf_1 (by decide) (fun c_0 => ?_) (fun c_0 => ?_)
  · refine lv_iconst (v := 1) hx hb dX1_deedOf_21 (by decide) ?_
    exact y_ir K hP hD hS (Nat.le_of_ble_eq_true rfl) (Nat.le_of_ble_eq_true rfl) (ty := .int) rfl rfl dX1_deedOf_22 (⟨1, rfl, rfl⟩)
  · refine lv_iload_n hx hb dX1_deedOf_4 rfl (lv_at hl 1 rfl) ?_
    refine lv_aload_n hx hb dX1_deedOf_5 rfl (lv_at hl 0 rfl) ?_
    refine x_get (ref := "NoteHouse$Agent") F hP c90 rfl (fun _ h => List.mem_cons_of_mem _ (List.mem_append_right _ (h))) 5 (Nat.le_of_ble_eq_true rfl) (List.mem_cons_of_mem _ (List.mem_append_left _ (List.mem_of_getElem? (i := 0) rfl))) rfl rfl dX1_deedOf_6 ?_
    refine lv_icmp_ge (tgt := 21) hx hb dX1_deedOf_9 (by decide) (fun c_1 => ?_) (fun c_1 => ?_)
    · refine lv_iconst (v := 1) hx hb dX1_deedOf_21 (by decide) ?_
      exact y_ir K hP hD hS (Nat.le_of_ble_eq_true rfl) (Nat.le_of_ble_eq_true rfl) (ty := .int) rfl rfl dX1_deedOf_22 (⟨1, rfl, rfl⟩)
    · obtain ⟨jx, hjx, ejx⟩ := nI_of c_0
      have hlx : jx < r := nI_lt_of (by rw [← ejx]; exact c_1) (by omega)
      refine lv_aload_n hx hb dX1_deedOf_12 rfl (lv_at hl 0 rfl) ?_
      refine x_get (ref := "NoteHouse$Agent") F hP c90 rfl (fun _ h => List.mem_cons_of_mem _ (List.mem_append_right _ (h))) 0 (Nat.le_of_ble_eq_true rfl) (List.mem_cons_of_mem _ (List.mem_append_left _ (List.mem_of_getElem? (i := 1) rfl))) rfl rfl dX1_deedOf_13 ?_
      refine lv_iload_n hx hb dX1_deedOf_16 rfl (lv_at hl 1 rfl) ?_
      refine x_iald F hP c91 (by rw [ejx]; exact vp_in_nI (by omega) (by decide)) dX1_deedOf_17 ?_
      refine lv_goto (tgt := 22) hx hb dX1_deedOf_18 (by decide) ?_
      exact y_ir K hP hD hS (Nat.le_of_ble_eq_true rfl) (Nat.le_of_ble_eq_true rfl) (ty := .int) rfl rfl dX1_deedOf_22 (⟨df x.toNatClampNeg, rfl, rfl⟩)
set_option maxHeartbeats 4000000 in
set_option maxRecDepth 100000 in
theorem g_learnCond (l : Launch) (D : va_G) (cy : Nat → ClassId) (sk sv : Nat → Nat) (w : Wd) (ag g0 g1 g2 g3 g4 : Nat) (t b n a0 r c1 : Nat) (rc : Int32) (cf nf sf uf : Nat → Int32) (f : Nat → Int32) (c90 : wd_at w ag (.inr (1, [.ref g0, .ref g1, .ref g2, .ref g3, .ref g4, .int rc]))) (c91 : wd_at w g1 (.inl (cy 2, 12, .inl cf))) (c92 : wd_at w g2 (.inl (cy 2, 72, .inl nf))) (c93 : wd_at w g3 (.inl (cy 1, 72, .inl sf))) (c94 : wd_at w g4 (.inl (cy 2, 72, .inl uf))) (c95 : wd_at w t (.inr (7, [.ref b, .int (nI n), .int (nI a0)]))) (c96 : wd_at w b (.inl (cy 0, 300, .inl f)))  (S : Nat → Prop) (s90 : S t) (s91 : S g2) (s92 : S g3) (s93 : S g4) (hn : n ≤ 300) (ha : a0 ≤ n) (hok : aOK cf nf) (hr : r < 12) (hc1 : c1 ≤ 6) (ng2g3 : g2 ≠ g3) (ng2g4 : g2 ≠ g4) (ng3g4 : g3 ≠ g4) : Ct l D cy sk sv yX1_learnCond wsX1_learnCond ({ frames := 7, cells := 0, slots := 0, locals := 159 }) [.ref ag, .ref t, .int (nI r), .int (nI c1)] w (fun v w1 => ∃ (a1 : Nat) (nf1 : Nat → Int32) (sf1 : Nat → Int32) (uf1 : Nat → Int32) (r1 : Int32), v = some (.int r1) ∧ (a0 ≤ a1) ∧ (a1 ≤ n) ∧ (aOK cf nf1) ∧ ((r1 = 0 ∨ ∃ k, 0 < k ∧ k < 2000 ∧ r1 = nI k) ∧ (r1 = 0 → c1 < 6)) ∧ wd_kp S w w1 ∧ wd_at w1 t (.inr (7, [.ref b, .int (nI n), .int (nI a1)])) ∧ wd_at w1 g2 (.inl (cy 2, 72, .inl nf1)) ∧ wd_at w1 g3 (.inl (cy 1, 72, .inl sf1)) ∧ wd_at w1 g4 (.inl (cy 2, 72, .inl uf1))) := by
  refine Ct.by (cc := cX1_learnCond) (maxL := 8) (ret := (some .int)) (by decide +kernel) rfl (Nat.le_of_ble_eq_true rfl) ?_
  intro p e s m args below meth c A Q F hnm K ls hl
  have F : wd_Fx p s m args meth c cX1_learnCond 8 wsX1_learnCond RX1 D cy sk sv A := F
  have hl : lv_has ls 8 [(0, .ref ag), (1, .ref t), (2, .int (nI r)), (3, .int (nI c1))] := hl
  have hx := F.1.1
  have hb := F.1.2.1
  have hown := F.1.2.2.2.1
  have hts := F.1.2.2.2.2
  intro H locs hP hD hS
  have kp0 : wd_kp S w w := wd_kp.rf
  refine lv_aload_n hx hb dX1_learnCond_0 rfl (lv_at hl 1 rfl) ?_
  refine x_callV (n := 0) (As := []) (rest := []) F hP hD hS (g_nextPlace l D cy sk sv w t b n a0 f c95 c96 (fun b => b = t) rfl (by omega) (by omega)) gX1_learnCond_X7_nextPlace rfl rfl (by decide +kernel) ⟨(Nat.le_of_ble_eq_true rfl), (Nat.le_of_ble_eq_true rfl)⟩ rfl hl.1 (Nat.le_of_ble_eq_true rfl) c95 rfl dX1_learnCond_1 rfl ⟨(Nat.le_of_ble_eq_true rfl), (Nat.le_of_ble_eq_true rfl)⟩ (fun v2 w3 hp1 H locs hP hD hS => ?_)
  obtain ⟨ax4, rfl, hz5, hz6, kq8, k7⟩ := hp1
  have k9 := kq8.2 _ _ c90 (fun q9 : ag = t => (wd_nk c90 c95 rfl) q9)
  have k10 := kq8.2 _ _ c91 (fun q9 : g1 = t => (wd_nk c91 c95 rfl) q9)
  have k11 := kq8.2 _ _ c92 (fun q9 : g2 = t => (wd_nk c92 c95 rfl) q9)
  have k12 := kq8.2 _ _ c93 (fun q9 : g3 = t => (wd_nk c93 c95 rfl) q9)
  have k13 := kq8.2 _ _ c94 (fun q9 : g4 = t => (wd_nk c94 c95 rfl) q9)
  have k14 := kq8.2 _ _ c96 (fun q9 : b = t => (wd_nk c96 c95 rfl) q9)
  have kp15 := kp0.tr kq8 (fun b9 hm q9 => (fun q9 => q9 ▸ s90) q9)
  refine W.eq (g2 := F0 m 4 ls [.int (nI ax4)]) rfl (W.widen (k := 0) (n := 0) (Nat.le_of_ble_eq_true rfl) (Nat.le_of_ble_eq_true rfl) ?_)
  refine lv_istore (lv' := [(4, .int (nI ax4)), (0, .ref ag), (1, .ref t), (2, .int (nI r)), (3, .int (nI c1))]) hx hb dX1_learnCond_4 hl (by decide) rfl (fun ls hl => ?_)
  refine lv_aload_n hx hb dX1_learnCond_6 rfl (lv_at hl 2 rfl) ?_
  refine x_ldcS F (i := 2) (tx := "hand advised stopped age late amount left day") (by decide +kernel) dX1_learnCond_7 ?_
  refine x_callV (n := 1) (As := [.ref (sk 2)]) (rest := []) F hP hD hS (g_takeWord l D cy sk sv w3 t b n ax4 2 f k7 k14 (fun b => b = t) rfl (by omega) (by omega) (by omega)) gX1_learnCond_X7_takeWord rfl rfl (by decide +kernel) ⟨(Nat.le_of_ble_eq_true rfl), (Nat.le_of_ble_eq_true rfl)⟩ rfl hl.1 (Nat.le_of_ble_eq_true rfl) k7 rfl dX1_learnCond_9 rfl ⟨(Nat.le_of_ble_eq_true rfl), (Nat.le_of_ble_eq_true rfl)⟩ (fun v17 w18 hp16 H locs hP hD hS => ?_)
  obtain ⟨ax19, rx20, rfl, hz21, hz22, hz23, kq25, k24⟩ := hp16
  have k26 := kq25.2 _ _ k9 (fun q9 : ag = t => (wd_nk k9 k7 rfl) q9)
  have k27 := kq25.2 _ _ k10 (fun q9 : g1 = t => (wd_nk k10 k7 rfl) q9)
  have k28 := kq25.2 _ _ k11 (fun q9 : g2 = t => (wd_nk k11 k7 rfl) q9)
  have k29 := kq25.2 _ _ k12 (fun q9 : g3 = t => (wd_nk k12 k7 rfl) q9)
  have k30 := kq25.2 _ _ k13 (fun q9 : g4 = t => (wd_nk k13 k7 rfl) q9)
  have k31 := kq25.2 _ _ k14 (fun q9 : b = t => (wd_nk k14 k7 rfl) q9)
  have kp32 := kp15.tr kq25 (fun b9 hm q9 => (fun q9 => q9 ▸ s90) q9)
  refine W.eq (g2 := F0 m 12 ls [.int rx20]) rfl (W.widen (k := 0) (n := 0) (Nat.le_of_ble_eq_true rfl) (Nat.le_of_ble_eq_true rfl) ?_)
  refine lv_istore (lv' := [(5, .int rx20), (4, .int (nI ax4)), (0, .ref ag), (1, .ref t), (2, .int (nI r)), (3, .int (nI c1))]) hx hb dX1_learnCond_12 hl (by decide) rfl (fun ls hl => ?_)
  refine lv_iload hx hb dX1_learnCond_14 (lv_at hl 0 rfl) ?_
  refine lv_iconst (v := (-1)) hx hb dX1_learnCond_16 (by decide) ?_
  refine lv_icmp_ne (tgt := 27) hx hb dX1_learnCond_17 (by decide) (fun c_33 => ?_) (fun c_33 => ?_)
  · obtain ⟨uu, huu, euu⟩ := (hz23).resolve_left c_33
    refine lv_iload_n hx hb dX1_learnCond_27 rfl (lv_at hl 5 rfl) ?_
    refine lv_bipush (v := 6) hx hb dX1_learnCond_28 (by decide) ?_
    refine lv_icmp_lt (tgt := 40) hx hb dX1_learnCond_30 (by decide) (fun c_34 => ?_) (fun c_34 => ?_)
    · have hc6 : c1 < 6 := Nat.lt_of_not_le (fun q => nI_nlt (a := c1) (b := 6) q (by omega) c_34)
      refine lv_aload_n hx hb dX1_learnCond_40 rfl (lv_at hl 3 rfl) ?_
      refine x_callS (n := 1) (As := [.ref t]) (rest := []) F hP hD hS (g_takeSign l D cy sk sv w18 t b n ax19 f k24 k31 (fun b => b = t) rfl (by omega) (by omega)) gX1_learnCond_X1_takeSign rfl (by decide +kernel) ⟨(Nat.le_of_ble_eq_true rfl), (Nat.le_of_ble_eq_true rfl)⟩ rfl hl.1 (Nat.le_of_ble_eq_true rfl) dX1_learnCond_41 rfl ⟨(Nat.le_of_ble_eq_true rfl), (Nat.le_of_ble_eq_true rfl)⟩ (fun v36 w37 hp35 H locs hP hD hS => ?_)
      obtain ⟨ax38, rx39, rfl, hz40, hz41, hz42, kq44, k43⟩ := hp35
      have k45 := kq44.2 _ _ k26 (fun q9 : ag = t => (wd_nk k26 k24 rfl) q9)
      have k46 := kq44.2 _ _ k27 (fun q9 : g1 = t => (wd_nk k27 k24 rfl) q9)
      have k47 := kq44.2 _ _ k28 (fun q9 : g2 = t => (wd_nk k28 k24 rfl) q9)
      have k48 := kq44.2 _ _ k29 (fun q9 : g3 = t => (wd_nk k29 k24 rfl) q9)
      have k49 := kq44.2 _ _ k30 (fun q9 : g4 = t => (wd_nk k30 k24 rfl) q9)
      have k50 := kq44.2 _ _ k31 (fun q9 : b = t => (wd_nk k31 k24 rfl) q9)
      have kp51 := kp32.tr kq44 (fun b9 hm q9 => (fun q9 => q9 ▸ s90) q9)
      refine W.eq (g2 := F0 m 44 ls [.int rx39]) rfl (W.widen (k := 0) (n := 0) (Nat.le_of_ble_eq_true rfl) (Nat.le_of_ble_eq_true rfl) ?_)
      refine lv_istore (lv' := [(6, .int rx39), (5, .int rx20), (4, .int (nI ax4)), (0, .ref ag), (1, .ref t), (2, .int (nI r)), (3, .int (nI c1))]) hx hb dX1_learnCond_44 hl (by decide) rfl (fun ls hl => ?_)
      refine lv_iload hx hb dX1_learnCond_46 (lv_at hl 0 rfl) ?_
      refine lv_bipush (v := 32) hx hb dX1_learnCond_48 (by decide) ?_
      refine lv_icmp_ne (tgt := 59) hx hb dX1_learnCond_50 (by decide) (fun c_52 => ?_) (fun c_52 => ?_)
      · refine lv_aload_n hx hb dX1_learnCond_59 rfl (lv_at hl 4 rfl) ?_
        refine lv_bipush (v := 6) hx hb dX1_learnCond_60 (by decide) ?_
        refine x_callV (n := 1) (As := [.int 6]) (rest := []) F hP hD hS (g_takeNumber l D cy sk sv w37 t b n ax38 f 6 k43 k50 (fun b => b = t) rfl (by omega) (by omega)) gX1_learnCond_X7_takeNumber rfl rfl (by decide +kernel) ⟨(Nat.le_of_ble_eq_true rfl), (Nat.le_of_ble_eq_true rfl)⟩ rfl hl.1 (Nat.le_of_ble_eq_true rfl) k43 rfl dX1_learnCond_62 rfl ⟨(Nat.le_of_ble_eq_true rfl), (Nat.le_of_ble_eq_true rfl)⟩ (fun v54 w55 hp53 H locs hP hD hS => ?_)
        obtain ⟨ax56, rx57, rfl, hz58, hz59, kq61, k60⟩ := hp53
        have k62 := kq61.2 _ _ k45 (fun q9 : ag = t => (wd_nk k45 k43 rfl) q9)
        have k63 := kq61.2 _ _ k46 (fun q9 : g1 = t => (wd_nk k46 k43 rfl) q9)
        have k64 := kq61.2 _ _ k47 (fun q9 : g2 = t => (wd_nk k47 k43 rfl) q9)
        have k65 := kq61.2 _ _ k48 (fun q9 : g3 = t => (wd_nk k48 k43 rfl) q9)
        have k66 := kq61.2 _ _ k49 (fun q9 : g4 = t => (wd_nk k49 k43 rfl) q9)
        have k67 := kq61.2 _ _ k50 (fun q9 : b = t => (wd_nk k50 k43 rfl) q9)
        have kp68 := kp51.tr kq61 (fun b9 hm q9 => (fun q9 => q9 ▸ s90) q9)
        refine W.eq (g2 := F0 m 65 ls [.int rx57]) rfl (W.widen (k := 0) (n := 0) (Nat.le_of_ble_eq_true rfl) (Nat.le_of_ble_eq_true rfl) ?_)
        refine lv_istore (lv' := [(7, .int rx57), (6, .int rx39), (5, .int rx20), (4, .int (nI ax4)), (0, .ref ag), (1, .ref t), (2, .int (nI r)), (3, .int (nI c1))]) hx hb dX1_learnCond_65 hl (by decide) rfl (fun ls hl => ?_)
        refine lv_iload hx hb dX1_learnCond_67 (lv_at hl 0 rfl) ?_
        refine lv_if_ge (tgt := 89) hx hb dX1_learnCond_69 (by decide) (fun c_69 => ?_) (fun c_69 => ?_)
        · refine lv_aload_n hx hb dX1_learnCond_89 rfl (lv_at hl 4 rfl) ?_
          refine x_get (ref := "NoteHouse$Agent") F hP k62 rfl (fun _ h => List.mem_cons_of_mem _ (List.mem_append_left _ (List.mem_append_right _ (h)))) 2 (Nat.le_of_ble_eq_true rfl) (List.mem_cons_of_mem _ (List.mem_append_left _ (List.mem_append_left _ (List.mem_append_left _ (List.mem_of_getElem? (i := 0) rfl))))) rfl rfl dX1_learnCond_90 ?_
          refine lv_iload_n hx hb dX1_learnCond_93 rfl (lv_at hl 6 rfl) ?_
          refine lv_bipush (v := 6) hx hb dX1_learnCond_94 (by decide) ?_
          refine lv_imul hx hb dX1_learnCond_96 ?_
          rw [show ((nI r) * 6 : Int32) = nI (r * 6) from pk_mul r 6]
          refine lv_iload_n hx hb dX1_learnCond_97 rfl (lv_at hl 7 rfl) ?_
          refine lv_iadd hx hb dX1_learnCond_98 ?_
          rw [show ((nI (r * 6)) + (nI c1) : Int32) = nI ((r * 6) + c1) from nI_add (r * 6) c1]
          refine lv_iload hx hb dX1_learnCond_99 (lv_at hl 2 rfl) ?_
          rw [euu]
          refine y_iast F hP hD hS k64 (vp_in_nI (n := ((r * 6) + c1)) (N := 72) (by omega) (by decide)) dX1_learnCond_101 (fun w70 ew71 H locs hP hD hS => ?_)
          have k72 := wd_at.pt ew71 k62 (wd_nk k62 k64 rfl)
          have k73 := wd_at.pt ew71 k63 (wd_nk k63 k64 rfl)
          have k74 : wd_at w70 g2 (.inl (cy 2, 72, .inl (upd nf (nI ((r * 6) + c1)).toNatClampNeg (nI uu)))) := wd_at.ps ew71 k64
          have k75 := wd_at.pt ew71 k65 (Ne.symm ng2g3)
          have k76 := wd_at.pt ew71 k66 (Ne.symm ng2g4)
          have k77 := wd_at.pt ew71 k60 (wd_nk k60 k64 rfl)
          have k78 := wd_at.pt ew71 k67 (wd_nk k67 k64 rfl)
          have kp79 := kp68.put ew71 s91
          refine lv_aload_n hx hb dX1_learnCond_102 rfl (lv_at hl 4 rfl) ?_
          refine x_get (ref := "NoteHouse$Agent") F hP k72 rfl (fun _ h => List.mem_cons_of_mem _ (List.mem_append_left _ (List.mem_append_right _ (h)))) 3 (Nat.le_of_ble_eq_true rfl) (List.mem_cons_of_mem _ (List.mem_append_left _ (List.mem_append_left _ (List.mem_append_left _ (List.mem_of_getElem? (i := 1) rfl))))) rfl rfl dX1_learnCond_103 ?_
          refine lv_iload_n hx hb dX1_learnCond_106 rfl (lv_at hl 6 rfl) ?_
          refine lv_bipush (v := 6) hx hb dX1_learnCond_107 (by decide) ?_
          refine lv_imul hx hb dX1_learnCond_109 ?_
          rw [show ((nI r) * 6 : Int32) = nI (r * 6) from pk_mul r 6]
          refine lv_iload_n hx hb dX1_learnCond_110 rfl (lv_at hl 7 rfl) ?_
          refine lv_iadd hx hb dX1_learnCond_111 ?_
          rw [show ((nI (r * 6)) + (nI c1) : Int32) = nI ((r * 6) + c1) from nI_add (r * 6) c1]
          refine lv_iload hx hb dX1_learnCond_112 (lv_at hl 1 rfl) ?_
          refine y_cast F hP hD hS k75 (vp_in_nI (n := ((r * 6) + c1)) (N := 72) (by omega) (by decide)) dX1_learnCond_114 (fun w80 ew81 H locs hP hD hS => ?_)
          have k82 := wd_at.pt ew81 k72 (wd_nk k72 k75 rfl)
          have k83 := wd_at.pt ew81 k73 (wd_nk k73 k75 rfl)
          have k84 := wd_at.pt ew81 k74 ng2g3
          have k85 : wd_at w80 g3 (.inl (cy 1, 72, .inl (upd sf (nI ((r * 6) + c1)).toNatClampNeg (vp_nar .char rx39)))) := wd_at.ps ew81 k75
          have k86 := wd_at.pt ew81 k76 (Ne.symm ng3g4)
          have k87 := wd_at.pt ew81 k77 (wd_nk k77 k75 rfl)
          have k88 := wd_at.pt ew81 k78 (wd_nk k78 k75 rfl)
          have kp89 := kp79.put ew81 s92
          refine lv_aload_n hx hb dX1_learnCond_115 rfl (lv_at hl 4 rfl) ?_
          refine x_get (ref := "NoteHouse$Agent") F hP k82 rfl (fun _ h => List.mem_cons_of_mem _ (List.mem_append_left _ (List.mem_append_right _ (h)))) 4 (Nat.le_of_ble_eq_true rfl) (List.mem_cons_of_mem _ (List.mem_append_left _ (List.mem_append_left _ (List.mem_append_left _ (List.mem_of_getElem? (i := 2) rfl))))) rfl rfl dX1_learnCond_116 ?_
          refine lv_iload_n hx hb dX1_learnCond_119 rfl (lv_at hl 6 rfl) ?_
          refine lv_bipush (v := 6) hx hb dX1_learnCond_120 (by decide) ?_
          refine lv_imul hx hb dX1_learnCond_122 ?_
          rw [show ((nI r) * 6 : Int32) = nI (r * 6) from pk_mul r 6]
          refine lv_iload_n hx hb dX1_learnCond_123 rfl (lv_at hl 7 rfl) ?_
          refine lv_iadd hx hb dX1_learnCond_124 ?_
          rw [show ((nI (r * 6)) + (nI c1) : Int32) = nI ((r * 6) + c1) from nI_add (r * 6) c1]
          refine lv_iload hx hb dX1_learnCond_125 (lv_at hl 0 rfl) ?_
          refine y_iast F hP hD hS k86 (vp_in_nI (n := ((r * 6) + c1)) (N := 72) (by omega) (by decide)) dX1_learnCond_127 (fun w90 ew91 H locs hP hD hS => ?_)
          have k92 := wd_at.pt ew91 k82 (wd_nk k82 k86 rfl)
          have k93 := wd_at.pt ew91 k83 (wd_nk k83 k86 rfl)
          have k94 := wd_at.pt ew91 k84 ng2g4
          have k95 := wd_at.pt ew91 k85 ng3g4
          have k96 : wd_at w90 g4 (.inl (cy 2, 72, .inl (upd uf (nI ((r * 6) + c1)).toNatClampNeg rx57))) := wd_at.ps ew91 k86
          have k97 := wd_at.pt ew91 k87 (wd_nk k87 k86 rfl)
          have k98 := wd_at.pt ew91 k88 (wd_nk k88 k86 rfl)
          have kp99 := kp89.put ew91 s93
          refine lv_iconst (v := 0) hx hb dX1_learnCond_128 (by decide) ?_
          exact y_ir K hP hD hS (Nat.le_of_ble_eq_true rfl) (Nat.le_of_ble_eq_true rfl) (ty := .int) rfl rfl dX1_learnCond_129 (⟨ax56, upd nf (nI ((r * 6) + c1)).toNatClampNeg (nI uu), upd sf (nI ((r * 6) + c1)).toNatClampNeg (vp_nar .char rx39), upd uf (nI ((r * 6) + c1)).toNatClampNeg rx57, 0, rfl, by omega, by omega, (hok.n (j := r * 6 + c1) (by omega) (by have := nb2; omega)), ⟨Or.inl rfl, fun _ => hc6⟩, kp99, k97, k94, k95, k96⟩)
        · refine lv_aload_n hx hb dX1_learnCond_72 rfl (lv_at hl 5 rfl) ?_
          refine lv_iload hx hb dX1_learnCond_73 (lv_at hl 0 rfl) ?_
          refine lv_bipush (v := (-2)) hx hb dX1_learnCond_75 (by decide) ?_
          refine lv_icmp_ne (tgt := 84) hx hb dX1_learnCond_77 (by decide) (fun c_100 => ?_) (fun c_100 => ?_)
          · refine lv_iconst (v := 0) hx hb dX1_learnCond_84 (by decide) ?_
            refine x_callV (n := 1) (As := [.int 0]) (rest := []) F hP hD hS (g_faultHere l D cy sk sv w55 t b n ax56 0 f k60 k67 (fun b => b = t) rfl (by omega) (by omega)) gX1_learnCond_X7_faultHere rfl rfl (by decide +kernel) ⟨(Nat.le_of_ble_eq_true rfl), (Nat.le_of_ble_eq_true rfl)⟩ rfl hl.1 (Nat.le_of_ble_eq_true rfl) k60 rfl dX1_learnCond_85 rfl ⟨(Nat.le_of_ble_eq_true rfl), (Nat.le_of_ble_eq_true rfl)⟩ (fun v102 w103 hp101 H locs hP hD hS => ?_)
            obtain ⟨ax104, rfl, hz105, hz106, kq108, k107⟩ := hp101
            have k109 := kq108.2 _ _ k62 (fun q9 : ag = t => (wd_nk k62 k60 rfl) q9)
            have k110 := kq108.2 _ _ k63 (fun q9 : g1 = t => (wd_nk k63 k60 rfl) q9)
            have k111 := kq108.2 _ _ k64 (fun q9 : g2 = t => (wd_nk k64 k60 rfl) q9)
            have k112 := kq108.2 _ _ k65 (fun q9 : g3 = t => (wd_nk k65 k60 rfl) q9)
            have k113 := kq108.2 _ _ k66 (fun q9 : g4 = t => (wd_nk k66 k60 rfl) q9)
            have k114 := kq108.2 _ _ k67 (fun q9 : b = t => (wd_nk k67 k60 rfl) q9)
            have kp115 := kp68.tr kq108 (fun b9 hm q9 => (fun q9 => q9 ▸ s90) q9)
            refine W.eq (g2 := F0 m 88 ls [.int (nI (1 + 4 * ax104 + 0))]) rfl (W.widen (k := 0) (n := 0) (Nat.le_of_ble_eq_true rfl) (Nat.le_of_ble_eq_true rfl) ?_)
            exact y_ir K hP hD hS (Nat.le_of_ble_eq_true rfl) (Nat.le_of_ble_eq_true rfl) (ty := .int) rfl rfl dX1_learnCond_88 (⟨ax104, nf, sf, uf, nI (1 + 4 * ax104 + 0), rfl, by omega, by omega, hok, ⟨Or.inr ⟨_, by omega, by omega, rfl⟩, fun q => absurd q (nI_ne0 (by omega) (by omega))⟩, kp115, k107, k111, k112, k113⟩)
          · refine lv_iconst (v := 1) hx hb dX1_learnCond_80 (by decide) ?_
            refine lv_goto (tgt := 85) hx hb dX1_learnCond_81 (by decide) ?_
            refine x_callV (n := 1) (As := [.int 1]) (rest := []) F hP hD hS (g_faultHere l D cy sk sv w55 t b n ax56 1 f k60 k67 (fun b => b = t) rfl (by omega) (by omega)) gX1_learnCond_X7_faultHere rfl rfl (by decide +kernel) ⟨(Nat.le_of_ble_eq_true rfl), (Nat.le_of_ble_eq_true rfl)⟩ rfl hl.1 (Nat.le_of_ble_eq_true rfl) k60 rfl dX1_learnCond_85 rfl ⟨(Nat.le_of_ble_eq_true rfl), (Nat.le_of_ble_eq_true rfl)⟩ (fun v117 w118 hp116 H locs hP hD hS => ?_)
            obtain ⟨ax119, rfl, hz120, hz121, kq123, k122⟩ := hp116
            have k124 := kq123.2 _ _ k62 (fun q9 : ag = t => (wd_nk k62 k60 rfl) q9)
            have k125 := kq123.2 _ _ k63 (fun q9 : g1 = t => (wd_nk k63 k60 rfl) q9)
            have k126 := kq123.2 _ _ k64 (fun q9 : g2 = t => (wd_nk k64 k60 rfl) q9)
            have k127 := kq123.2 _ _ k65 (fun q9 : g3 = t => (wd_nk k65 k60 rfl) q9)
            have k128 := kq123.2 _ _ k66 (fun q9 : g4 = t => (wd_nk k66 k60 rfl) q9)
            have k129 := kq123.2 _ _ k67 (fun q9 : b = t => (wd_nk k67 k60 rfl) q9)
            have kp130 := kp68.tr kq123 (fun b9 hm q9 => (fun q9 => q9 ▸ s90) q9)
            refine W.eq (g2 := F0 m 88 ls [.int (nI (1 + 4 * ax119 + 1))]) rfl (W.widen (k := 0) (n := 0) (Nat.le_of_ble_eq_true rfl) (Nat.le_of_ble_eq_true rfl) ?_)
            exact y_ir K hP hD hS (Nat.le_of_ble_eq_true rfl) (Nat.le_of_ble_eq_true rfl) (ty := .int) rfl rfl dX1_learnCond_88 (⟨ax119, nf, sf, uf, nI (1 + 4 * ax119 + 1), rfl, by omega, by omega, hok, ⟨Or.inr ⟨_, by omega, by omega, rfl⟩, fun q => absurd q (nI_ne0 (by omega) (by omega))⟩, kp130, k122, k126, k127, k128⟩)
      · refine lv_aload_n hx hb dX1_learnCond_53 rfl (lv_at hl 4 rfl) ?_
        refine lv_iconst (v := 0) hx hb dX1_learnCond_54 (by decide) ?_
        refine x_callV (n := 1) (As := [.int 0]) (rest := []) F hP hD hS (g_faultHere l D cy sk sv w37 t b n ax38 0 f k43 k50 (fun b => b = t) rfl (by omega) (by omega)) gX1_learnCond_X7_faultHere rfl rfl (by decide +kernel) ⟨(Nat.le_of_ble_eq_true rfl), (Nat.le_of_ble_eq_true rfl)⟩ rfl hl.1 (Nat.le_of_ble_eq_true rfl) k43 rfl dX1_learnCond_55 rfl ⟨(Nat.le_of_ble_eq_true rfl), (Nat.le_of_ble_eq_true rfl)⟩ (fun v132 w133 hp131 H locs hP hD hS => ?_)
        obtain ⟨ax134, rfl, hz135, hz136, kq138, k137⟩ := hp131
        have k139 := kq138.2 _ _ k45 (fun q9 : ag = t => (wd_nk k45 k43 rfl) q9)
        have k140 := kq138.2 _ _ k46 (fun q9 : g1 = t => (wd_nk k46 k43 rfl) q9)
        have k141 := kq138.2 _ _ k47 (fun q9 : g2 = t => (wd_nk k47 k43 rfl) q9)
        have k142 := kq138.2 _ _ k48 (fun q9 : g3 = t => (wd_nk k48 k43 rfl) q9)
        have k143 := kq138.2 _ _ k49 (fun q9 : g4 = t => (wd_nk k49 k43 rfl) q9)
        have k144 := kq138.2 _ _ k50 (fun q9 : b = t => (wd_nk k50 k43 rfl) q9)
        have kp145 := kp51.tr kq138 (fun b9 hm q9 => (fun q9 => q9 ▸ s90) q9)
        refine W.eq (g2 := F0 m 58 ls [.int (nI (1 + 4 * ax134 + 0))]) rfl (W.widen (k := 0) (n := 0) (Nat.le_of_ble_eq_true rfl) (Nat.le_of_ble_eq_true rfl) ?_)
        exact y_ir K hP hD hS (Nat.le_of_ble_eq_true rfl) (Nat.le_of_ble_eq_true rfl) (ty := .int) rfl rfl dX1_learnCond_58 (⟨ax134, nf, sf, uf, nI (1 + 4 * ax134 + 0), rfl, by omega, by omega, hok, ⟨Or.inr ⟨_, by omega, by omega, rfl⟩, fun q => absurd q (nI_ne0 (by omega) (by omega))⟩, kp145, k137, k141, k142, k143⟩)
    · refine lv_iload hx hb dX1_learnCond_33 (lv_at hl 1 rfl) ?_
      refine lv_iconst (v := 2) hx hb dX1_learnCond_35 (by decide) ?_
      refine x_callSN (host := RX10) (n := 2) (As := [.int (nI ax4), .int 2]) (rest := []) F hP hD hS (g_faultAt l D cy sk sv w18 ax4 2) gX1_learnCond_X10_faultAt_n63 rfl (by decide +kernel) (List.mem_cons_of_mem _ (List.mem_append_left _ (List.mem_append_left _ (List.mem_append_left _ (List.mem_of_getElem? (i := 21) rfl))))) (List.mem_cons_of_mem _ (List.mem_append_left _ (List.mem_append_left _ (List.mem_append_right _ (List.mem_append_right _ (List.mem_append_right _ (List.mem_append_left _ (List.mem_of_getElem? (i := 8) rfl)))))))) (by decide +kernel) ⟨(Nat.le_of_ble_eq_true rfl), (Nat.le_of_ble_eq_true rfl)⟩ rfl hl.1 (Nat.le_of_ble_eq_true rfl) dX1_learnCond_36 rfl ⟨(Nat.le_of_ble_eq_true rfl), (Nat.le_of_ble_eq_true rfl)⟩ (fun v147 w148 hp146 H locs hP hD hS => ?_)
      obtain ⟨rfl, rfl⟩ := hp146
      refine W.eq (g2 := F0 m 39 ls [.int (nI (1 + 4 * ax4 + 2))]) rfl (W.widen (k := 0) (n := 0) (Nat.le_of_ble_eq_true rfl) (Nat.le_of_ble_eq_true rfl) ?_)
      exact y_ir K hP hD hS (Nat.le_of_ble_eq_true rfl) (Nat.le_of_ble_eq_true rfl) (ty := .int) rfl rfl dX1_learnCond_39 (⟨ax19, nf, sf, uf, nI (1 + 4 * ax4 + 2), rfl, by omega, by omega, hok, ⟨Or.inr ⟨_, by omega, by omega, rfl⟩, fun q => absurd q (nI_ne0 (by omega) (by omega))⟩, kp32, k24, k28, k29, k30⟩)
  · refine lv_iload hx hb dX1_learnCond_20 (lv_at hl 1 rfl) ?_
    refine lv_iconst (v := 0) hx hb dX1_learnCond_22 (by decide) ?_
    refine x_callSN (host := RX10) (n := 2) (As := [.int (nI ax4), .int 0]) (rest := []) F hP hD hS (g_faultAt l D cy sk sv w18 ax4 0) gX1_learnCond_X10_faultAt_n63 rfl (by decide +kernel) (List.mem_cons_of_mem _ (List.mem_append_left _ (List.mem_append_left _ (List.mem_append_left _ (List.mem_of_getElem? (i := 21) rfl))))) (List.mem_cons_of_mem _ (List.mem_append_left _ (List.mem_append_left _ (List.mem_append_right _ (List.mem_append_right _ (List.mem_append_right _ (List.mem_append_left _ (List.mem_of_getElem? (i := 8) rfl)))))))) (by decide +kernel) ⟨(Nat.le_of_ble_eq_true rfl), (Nat.le_of_ble_eq_true rfl)⟩ rfl hl.1 (Nat.le_of_ble_eq_true rfl) dX1_learnCond_23 rfl ⟨(Nat.le_of_ble_eq_true rfl), (Nat.le_of_ble_eq_true rfl)⟩ (fun v150 w151 hp149 H locs hP hD hS => ?_)
    obtain ⟨rfl, rfl⟩ := hp149
    refine W.eq (g2 := F0 m 26 ls [.int (nI (1 + 4 * ax4 + 0))]) rfl (W.widen (k := 0) (n := 0) (Nat.le_of_ble_eq_true rfl) (Nat.le_of_ble_eq_true rfl) ?_)
    exact y_ir K hP hD hS (Nat.le_of_ble_eq_true rfl) (Nat.le_of_ble_eq_true rfl) (ty := .int) rfl rfl dX1_learnCond_26 (⟨ax19, nf, sf, uf, nI (1 + 4 * ax4 + 0), rfl, by omega, by omega, hok, ⟨Or.inr ⟨_, by omega, by omega, rfl⟩, fun q => absurd q (nI_ne0 (by omega) (by omega))⟩, kp32, k24, k28, k29, k30⟩)
set_option maxHeartbeats 4000000 in
set_option maxRecDepth 100000 in
theorem g_learnRule (l : Launch) (D : va_G) (cy : Nat → ClassId) (sk sv : Nat → Nat) (w : Wd) (ag g0 g1 g2 g3 g4 : Nat) (t b n a0 r : Nat) (rc : Int32) (df cf nf sf uf : Nat → Int32) (f : Nat → Int32) (c90 : wd_at w ag (.inr (1, [.ref g0, .ref g1, .ref g2, .ref g3, .ref g4, .int rc]))) (c91 : wd_at w g0 (.inl (cy 2, 12, .inl df))) (c92 : wd_at w g1 (.inl (cy 2, 12, .inl cf))) (c93 : wd_at w g2 (.inl (cy 2, 72, .inl nf))) (c94 : wd_at w g3 (.inl (cy 1, 72, .inl sf))) (c95 : wd_at w g4 (.inl (cy 2, 72, .inl uf))) (c96 : wd_at w t (.inr (7, [.ref b, .int (nI n), .int (nI a0)]))) (c97 : wd_at w b (.inl (cy 0, 300, .inl f)))  (S : Nat → Prop) (s90 : S t) (s91 : S g0) (s92 : S g1) (s93 : S g2) (s94 : S g3) (s95 : S g4) (hn : n ≤ 300) (ha : a0 ≤ n) (hok : aOK cf nf) (hr : r ≤ 12) (ng0g1 : g0 ≠ g1) (ng2g3 : g2 ≠ g3) (ng2g4 : g2 ≠ g4) (ng3g4 : g3 ≠ g4) : Ct l D cy sk sv yX1_learnRule wsX1_learnRule ({ frames := 8, cells := 0, slots := 0, locals := 186 }) [.ref ag, .ref t, .int (nI r)] w (fun v w1 => ∃ (a1 : Nat) (df1 : Nat → Int32) (cf1 : Nat → Int32) (nf1 : Nat → Int32) (sf1 : Nat → Int32) (uf1 : Nat → Int32) (r1 : Int32), v = some (.int r1) ∧ (a0 ≤ a1) ∧ (a1 ≤ n) ∧ (aOK cf1 nf1) ∧ ((r1 = 0 ∨ ∃ k, 0 < k ∧ k < 2000 ∧ r1 = nI k) ∧ (r1 = 0 → r < 12)) ∧ wd_kp S w w1 ∧ wd_at w1 t (.inr (7, [.ref b, .int (nI n), .int (nI a1)])) ∧ wd_at w1 g0 (.inl (cy 2, 12, .inl df1)) ∧ wd_at w1 g1 (.inl (cy 2, 12, .inl cf1)) ∧ wd_at w1 g2 (.inl (cy 2, 72, .inl nf1)) ∧ wd_at w1 g3 (.inl (cy 1, 72, .inl sf1)) ∧ wd_at w1 g4 (.inl (cy 2, 72, .inl uf1))) := by
  refine Ct.by (cc := cX1_learnRule) (maxL := 8) (ret := (some .int)) (by decide +kernel) rfl (Nat.le_of_ble_eq_true rfl) ?_
  intro p e s m args below meth c A Q F hnm K ls hl
  have F : wd_Fx p s m args meth c cX1_learnRule 8 wsX1_learnRule RX1 D cy sk sv A := F
  have hl : lv_has ls 8 [(0, .ref ag), (1, .ref t), (2, .int (nI r))] := hl
  have hx := F.1.1
  have hb := F.1.2.1
  have hown := F.1.2.2.2.1
  have hts := F.1.2.2.2.2
  intro H locs hP hD hS
  have kp0 : wd_kp S w w := wd_kp.rf
  refine lv_aload_n hx hb dX1_learnRule_0 rfl (lv_at hl 1 rfl) ?_
  refine x_callV (n := 0) (As := []) (rest := []) F hP hD hS (g_nextPlace l D cy sk sv w t b n a0 f c96 c97 (fun b => b = t) rfl (by omega) (by omega)) gX1_learnRule_X7_nextPlace rfl rfl (by decide +kernel) ⟨(Nat.le_of_ble_eq_true rfl), (Nat.le_of_ble_eq_true rfl)⟩ rfl hl.1 (Nat.le_of_ble_eq_true rfl) c96 rfl dX1_learnRule_1 rfl ⟨(Nat.le_of_ble_eq_true rfl), (Nat.le_of_ble_eq_true rfl)⟩ (fun v2 w3 hp1 H locs hP hD hS => ?_)
  obtain ⟨ax4, rfl, hz5, hz6, kq8, k7⟩ := hp1
  have k9 := kq8.2 _ _ c90 (fun q9 : ag = t => (wd_nk c90 c96 rfl) q9)
  have k10 := kq8.2 _ _ c91 (fun q9 : g0 = t => (wd_nk c91 c96 rfl) q9)
  have k11 := kq8.2 _ _ c92 (fun q9 : g1 = t => (wd_nk c92 c96 rfl) q9)
  have k12 := kq8.2 _ _ c93 (fun q9 : g2 = t => (wd_nk c93 c96 rfl) q9)
  have k13 := kq8.2 _ _ c94 (fun q9 : g3 = t => (wd_nk c94 c96 rfl) q9)
  have k14 := kq8.2 _ _ c95 (fun q9 : g4 = t => (wd_nk c95 c96 rfl) q9)
  have k15 := kq8.2 _ _ c97 (fun q9 : b = t => (wd_nk c97 c96 rfl) q9)
  have kp16 := kp0.tr kq8 (fun b9 hm q9 => (fun q9 => q9 ▸ s90) q9)
  refine W.eq (g2 := F0 m 4 ls [.int (nI ax4)]) rfl (W.widen (k := 0) (n := 0) (Nat.le_of_ble_eq_true rfl) (Nat.le_of_ble_eq_true rfl) ?_)
  refine lv_istore_n (lv' := [(3, .int (nI ax4)), (0, .ref ag), (1, .ref t), (2, .int (nI r))]) hx hb dX1_learnRule_4 rfl hl (by decide) rfl (fun ls hl => ?_)
  refine lv_aload_n hx hb dX1_learnRule_5 rfl (lv_at hl 2 rfl) ?_
  refine x_ldcS F (i := 0) (tx := "pay refuse ask") (by decide +kernel) dX1_learnRule_6 ?_
  refine x_callV (n := 1) (As := [.ref (sk 0)]) (rest := []) F hP hD hS (g_takeWord l D cy sk sv w3 t b n ax4 0 f k7 k15 (fun b => b = t) rfl (by omega) (by omega) (by omega)) gX1_learnRule_X7_takeWord rfl rfl (by decide +kernel) ⟨(Nat.le_of_ble_eq_true rfl), (Nat.le_of_ble_eq_true rfl)⟩ rfl hl.1 (Nat.le_of_ble_eq_true rfl) k7 rfl dX1_learnRule_8 rfl ⟨(Nat.le_of_ble_eq_true rfl), (Nat.le_of_ble_eq_true rfl)⟩ (fun v18 w19 hp17 H locs hP hD hS => ?_)
  obtain ⟨ax20, rx21, rfl, hz22, hz23, hz24, kq26, k25⟩ := hp17
  have k27 := kq26.2 _ _ k9 (fun q9 : ag = t => (wd_nk k9 k7 rfl) q9)
  have k28 := kq26.2 _ _ k10 (fun q9 : g0 = t => (wd_nk k10 k7 rfl) q9)
  have k29 := kq26.2 _ _ k11 (fun q9 : g1 = t => (wd_nk k11 k7 rfl) q9)
  have k30 := kq26.2 _ _ k12 (fun q9 : g2 = t => (wd_nk k12 k7 rfl) q9)
  have k31 := kq26.2 _ _ k13 (fun q9 : g3 = t => (wd_nk k13 k7 rfl) q9)
  have k32 := kq26.2 _ _ k14 (fun q9 : g4 = t => (wd_nk k14 k7 rfl) q9)
  have k33 := kq26.2 _ _ k15 (fun q9 : b = t => (wd_nk k15 k7 rfl) q9)
  have kp34 := kp16.tr kq26 (fun b9 hm q9 => (fun q9 => q9 ▸ s90) q9)
  refine W.eq (g2 := F0 m 11 ls [.int rx21]) rfl (W.widen (k := 0) (n := 0) (Nat.le_of_ble_eq_true rfl) (Nat.le_of_ble_eq_true rfl) ?_)
  refine lv_istore (lv' := [(4, .int rx21), (3, .int (nI ax4)), (0, .ref ag), (1, .ref t), (2, .int (nI r))]) hx hb dX1_learnRule_11 hl (by decide) rfl (fun ls hl => ?_)
  refine lv_iload hx hb dX1_learnRule_13 (lv_at hl 0 rfl) ?_
  refine lv_iconst (v := (-1)) hx hb dX1_learnRule_15 (by decide) ?_
  refine lv_icmp_ne (tgt := 25) hx hb dX1_learnRule_16 (by decide) (fun c_35 => ?_) (fun c_35 => ?_)
  · refine lv_iload_n hx hb dX1_learnRule_25 rfl (lv_at hl 4 rfl) ?_
    refine lv_bipush (v := 12) hx hb dX1_learnRule_26 (by decide) ?_
    refine lv_icmp_lt (tgt := 37) hx hb dX1_learnRule_28 (by decide) (fun c_36 => ?_) (fun c_36 => ?_)
    · have hr12 : r < 12 := Nat.lt_of_not_le (fun q => nI_nlt (a := r) (b := 12) q (by omega) c_36)
      refine lv_aload_n hx hb dX1_learnRule_37 rfl (lv_at hl 2 rfl) ?_
      refine x_get (ref := "NoteHouse$Agent") F hP k27 rfl (fun _ h => List.mem_cons_of_mem _ (List.mem_append_left _ (List.mem_append_right _ (h)))) 0 (Nat.le_of_ble_eq_true rfl) (List.mem_cons_of_mem _ (List.mem_append_left _ (List.mem_append_left _ (List.mem_append_left _ (List.mem_of_getElem? (i := 0) rfl))))) rfl rfl dX1_learnRule_38 ?_
      refine lv_iload_n hx hb dX1_learnRule_41 rfl (lv_at hl 4 rfl) ?_
      refine lv_iload hx hb dX1_learnRule_42 (lv_at hl 0 rfl) ?_
      refine y_iast F hP hD hS k28 (vp_in_nI (n := r) (N := 12) (by omega) (by decide)) dX1_learnRule_44 (fun w37 ew38 H locs hP hD hS => ?_)
      have k39 := wd_at.pt ew38 k27 (wd_nk k27 k28 rfl)
      have k40 : wd_at w37 g0 (.inl (cy 2, 12, .inl (upd df (nI r).toNatClampNeg rx21))) := wd_at.ps ew38 k28
      have k41 := wd_at.pt ew38 k29 (Ne.symm ng0g1)
      have k42 := wd_at.pt ew38 k30 (wd_nk k30 k28 rfl)
      have k43 := wd_at.pt ew38 k31 (wd_nk k31 k28 rfl)
      have k44 := wd_at.pt ew38 k32 (wd_nk k32 k28 rfl)
      have k45 := wd_at.pt ew38 k25 (wd_nk k25 k28 rfl)
      have k46 := wd_at.pt ew38 k33 (wd_nk k33 k28 rfl)
      have kp47 := kp34.put ew38 s91
      refine lv_aload_n hx hb dX1_learnRule_45 rfl (lv_at hl 2 rfl) ?_
      refine x_get (ref := "NoteHouse$Agent") F hP k39 rfl (fun _ h => List.mem_cons_of_mem _ (List.mem_append_left _ (List.mem_append_right _ (h)))) 1 (Nat.le_of_ble_eq_true rfl) (List.mem_cons_of_mem _ (List.mem_append_left _ (List.mem_append_left _ (List.mem_append_left _ (List.mem_of_getElem? (i := 1) rfl))))) rfl rfl dX1_learnRule_46 ?_
      refine lv_iload_n hx hb dX1_learnRule_49 rfl (lv_at hl 4 rfl) ?_
      refine lv_iconst (v := 0) hx hb dX1_learnRule_50 (by decide) ?_
      refine y_iast F hP hD hS k41 (vp_in_nI (n := r) (N := 12) (by omega) (by decide)) dX1_learnRule_51 (fun w48 ew49 H locs hP hD hS => ?_)
      have k50 := wd_at.pt ew49 k39 (wd_nk k39 k41 rfl)
      have k51 := wd_at.pt ew49 k40 ng0g1
      have k52 : wd_at w48 g1 (.inl (cy 2, 12, .inl (upd cf (nI r).toNatClampNeg 0))) := wd_at.ps ew49 k41
      have k53 := wd_at.pt ew49 k42 (wd_nk k42 k41 rfl)
      have k54 := wd_at.pt ew49 k43 (wd_nk k43 k41 rfl)
      have k55 := wd_at.pt ew49 k44 (wd_nk k44 k41 rfl)
      have k56 := wd_at.pt ew49 k45 (wd_nk k45 k41 rfl)
      have k57 := wd_at.pt ew49 k46 (wd_nk k46 k41 rfl)
      have kp58 := kp47.put ew49 s92
      refine lv_aload_n hx hb dX1_learnRule_52 rfl (lv_at hl 3 rfl) ?_
      refine x_ldcS F (i := 1) (tx := "if") (by decide +kernel) dX1_learnRule_53 ?_
      refine x_callV (n := 1) (As := [.ref (sk 1)]) (rest := []) F hP hD hS (g_takeWord l D cy sk sv w48 t b n ax20 1 f k56 k57 (fun b => b = t) rfl (by omega) (by omega) (by omega)) gX1_learnRule_X7_takeWord rfl rfl (by decide +kernel) ⟨(Nat.le_of_ble_eq_true rfl), (Nat.le_of_ble_eq_true rfl)⟩ rfl hl.1 (Nat.le_of_ble_eq_true rfl) k56 rfl dX1_learnRule_55 rfl ⟨(Nat.le_of_ble_eq_true rfl), (Nat.le_of_ble_eq_true rfl)⟩ (fun v60 w61 hp59 H locs hP hD hS => ?_)
      obtain ⟨ax62, rx63, rfl, hz64, hz65, hz66, kq68, k67⟩ := hp59
      have k69 := kq68.2 _ _ k50 (fun q9 : ag = t => (wd_nk k50 k56 rfl) q9)
      have k70 := kq68.2 _ _ k51 (fun q9 : g0 = t => (wd_nk k51 k56 rfl) q9)
      have k71 := kq68.2 _ _ k52 (fun q9 : g1 = t => (wd_nk k52 k56 rfl) q9)
      have k72 := kq68.2 _ _ k53 (fun q9 : g2 = t => (wd_nk k53 k56 rfl) q9)
      have k73 := kq68.2 _ _ k54 (fun q9 : g3 = t => (wd_nk k54 k56 rfl) q9)
      have k74 := kq68.2 _ _ k55 (fun q9 : g4 = t => (wd_nk k55 k56 rfl) q9)
      have k75 := kq68.2 _ _ k57 (fun q9 : b = t => (wd_nk k57 k56 rfl) q9)
      have kp76 := kp58.tr kq68 (fun b9 hm q9 => (fun q9 => q9 ▸ s90) q9)
      refine W.eq (g2 := F0 m 58 ls [.int rx63]) rfl (W.widen (k := 0) (n := 0) (Nat.le_of_ble_eq_true rfl) (Nat.le_of_ble_eq_true rfl) ?_)
      refine lv_iconst (v := (-1)) hx hb dX1_learnRule_58 (by decide) ?_
      refine lv_icmp_eq (tgt := 66) hx hb dX1_learnRule_59 (by decide) (fun c_77 => ?_) (fun c_77 => ?_)
      · refine lv_iconst (v := 0) hx hb dX1_learnRule_66 (by decide) ?_
        refine lv_istore (lv' := [(5, .int 0), (4, .int rx21), (3, .int (nI ax4)), (0, .ref ag), (1, .ref t), (2, .int (nI r))]) hx hb dX1_learnRule_67 hl (by decide) rfl (fun ls hl => ?_)
        refine lv_iconst (v := 0) hx hb dX1_learnRule_69 (by decide) ?_
        refine lv_istore (lv' := [(6, .int 0), (5, .int 0), (4, .int rx21), (3, .int (nI ax4)), (0, .ref ag), (1, .ref t), (2, .int (nI r))]) hx hb dX1_learnRule_70 hl (by decide) rfl (fun ls hl => ?_)
        have lp72 : ∀ (N : Nat) (k : Nat) (go : Int32) (a2 : Nat) (cf2 : Nat → Int32) (nf2 : Nat → Int32) (sf2 : Nat → Int32) (uf2 : Nat → Int32) (w78 : Wd), (k + N = 7) → (k ≤ 6 ∨ True) → (a0 ≤ a2) → (a2 ≤ n) → (aOK cf2 nf2) → (cf2 r = nI k) → (wd_at w78 ag (.inr (1, [.ref g0, .ref g1, .ref g2, .ref g3, .ref g4, .int rc]))) → (wd_at w78 g0 (.inl (cy 2, 12, .inl (upd df (nI r).toNatClampNeg rx21)))) → (wd_at w78 g1 (.inl (cy 2, 12, .inl cf2))) → (wd_at w78 g2 (.inl (cy 2, 72, .inl nf2))) → (wd_at w78 g3 (.inl (cy 1, 72, .inl sf2))) → (wd_at w78 g4 (.inl (cy 2, 72, .inl uf2))) → (wd_at w78 t (.inr (7, [.ref b, .int (nI n), .int (nI a2)]))) → (wd_at w78 b (.inl (cy 0, 300, .inl f))) → (wd_kp S w w78) → ∀ (ls : Array Slot), lv_has ls 8 [(0, .ref ag), (1, .ref t), (2, .int (nI r)), (3, .int (nI ax4)), (4, .int rx21), (5, .int go), (6, .int (nI k))] → Wv p l e ({ frames := 8, cells := 0, slots := 0, locals := 186 }) s m args below meth c D A (0) (0) Q w78 (F0 m 72 ls []) := by
          intro N
          induction N with
          | zero =>
            intro k go a2 cf2 nf2 sf2 uf2 w78 hN72 hk6 ha1 ha2 hok2 hck k79 k80 k81 k82 k83 k84 k85 k86 kp87 ls hl H locs hP hD hS
            refine lv_iload hx hb dX1_learnRule_72 (lv_at hl 5 rfl) ?_
            refine lv_if_eq (tgt := 135) hx hb dX1_learnRule_74 (by decide) (fun c_88 => ?_) (fun c_88 => ?_)
            · refine lv_iconst (v := 0) hx hb dX1_learnRule_135 (by decide) ?_
              exact y_ir K hP hD hS (Nat.le_of_ble_eq_true rfl) (Nat.le_of_ble_eq_true rfl) (ty := .int) rfl rfl dX1_learnRule_136 (⟨a2, upd df (nI r).toNatClampNeg rx21, cf2, nf2, sf2, uf2, 0, rfl, by omega, by omega, (by assumption), ⟨Or.inl rfl, fun _ => hr12⟩, kp87, k85, k80, k81, k82, k83, k84⟩)
            · refine lv_iload hx hb dX1_learnRule_77 (lv_at hl 6 rfl) ?_
              refine lv_bipush (v := 6) hx hb dX1_learnRule_79 (by decide) ?_
              refine lv_icmp_gt (tgt := 135) hx hb dX1_learnRule_81 (by decide) (fun c_89 => ?_) (fun c_89 => absurd (nI_lt (a := 6) (b := k) (by omega) (by omega)) c_89)
              refine lv_iconst (v := 0) hx hb dX1_learnRule_135 (by decide) ?_
              exact y_ir K hP hD hS (Nat.le_of_ble_eq_true rfl) (Nat.le_of_ble_eq_true rfl) (ty := .int) rfl rfl dX1_learnRule_136 (⟨a2, upd df (nI r).toNatClampNeg rx21, cf2, nf2, sf2, uf2, 0, rfl, by omega, by omega, (by assumption), ⟨Or.inl rfl, fun _ => hr12⟩, kp87, k85, k80, k81, k82, k83, k84⟩)
          | succ N ih72 =>
            intro k go a2 cf2 nf2 sf2 uf2 w78 hN72 hk6 ha1 ha2 hok2 hck k79 k80 k81 k82 k83 k84 k85 k86 kp87 ls hl H locs hP hD hS
            refine lv_iload hx hb dX1_learnRule_72 (lv_at hl 5 rfl) ?_
            refine lv_if_eq (tgt := 135) hx hb dX1_learnRule_74 (by decide) (fun c_90 => ?_) (fun c_90 => ?_)
            · refine lv_iconst (v := 0) hx hb dX1_learnRule_135 (by decide) ?_
              exact y_ir K hP hD hS (Nat.le_of_ble_eq_true rfl) (Nat.le_of_ble_eq_true rfl) (ty := .int) rfl rfl dX1_learnRule_136 (⟨a2, upd df (nI r).toNatClampNeg rx21, cf2, nf2, sf2, uf2, 0, rfl, by omega, by omega, (by assumption), ⟨Or.inl rfl, fun _ => hr12⟩, kp87, k85, k80, k81, k82, k83, k84⟩)
            · refine lv_iload hx hb dX1_learnRule_77 (lv_at hl 6 rfl) ?_
              refine lv_bipush (v := 6) hx hb dX1_learnRule_79 (by decide) ?_
              refine lv_icmp_gt (tgt := 135) hx hb dX1_learnRule_81 (by decide) (fun c_91 => absurd c_91 (nI_nlt (a := 6) (b := k) (by omega) (by omega))) (fun c_91 => ?_)
              refine lv_aload_n hx hb dX1_learnRule_84 rfl (lv_at hl 0 rfl) ?_
              refine lv_aload_n hx hb dX1_learnRule_85 rfl (lv_at hl 1 rfl) ?_
              refine lv_iload_n hx hb dX1_learnRule_86 rfl (lv_at hl 2 rfl) ?_
              refine lv_iload hx hb dX1_learnRule_87 (lv_at hl 6 rfl) ?_
              refine x_callV (n := 3) (As := [.ref t, .int (nI r), .int (nI k)]) (rest := []) F hP hD hS (g_learnCond l D cy sk sv w78 ag g0 g1 g2 g3 g4 t b n a2 r k rc cf2 nf2 sf2 uf2 f k79 k81 k82 k83 k84 k85 k86 (fun b => b = t ∨ b = g2 ∨ b = g3 ∨ b = g4) (Or.inl rfl) (Or.inr (Or.inl rfl)) (Or.inr (Or.inr (Or.inl rfl))) (Or.inr (Or.inr (Or.inr rfl))) (by omega) (by omega) (by assumption) (by omega) (by omega) ng2g3 ng2g4 ng3g4) gX1_learnRule_X1_learnCond rfl rfl (by decide +kernel) ⟨(Nat.le_of_ble_eq_true rfl), (Nat.le_of_ble_eq_true rfl)⟩ rfl hl.1 (Nat.le_of_ble_eq_true rfl) k79 rfl dX1_learnRule_89 rfl ⟨(Nat.le_of_ble_eq_true rfl), (Nat.le_of_ble_eq_true rfl)⟩ (fun v93 w94 hp92 H locs hP hD hS => ?_)
              obtain ⟨ax95, nfx96, sfx97, ufx98, rx99, rfl, hz100, hz101, hz102, hz103, kq108, k104, k105, k106, k107⟩ := hp92
              have k109 := kq108.2 _ _ k79 (fun q9 => Or.elim q9 (wd_nk k79 k85 rfl) (fun q9 => Or.elim q9 (wd_nk k79 k82 rfl) (fun q9 => Or.elim q9 (wd_nk k79 k83 rfl) (fun q9 : ag = g4 => (wd_nk k79 k84 rfl) q9))))
              have k110 := kq108.2 _ _ k80 (fun q9 => Or.elim q9 (wd_nk k80 k85 rfl) (fun q9 => Or.elim q9 (wd_nk k80 k82 rfl) (fun q9 => Or.elim q9 (wd_nk k80 k83 rfl) (fun q9 : g0 = g4 => (wd_nk k80 k84 rfl) q9))))
              have k111 := kq108.2 _ _ k81 (fun q9 => Or.elim q9 (wd_nk k81 k85 rfl) (fun q9 => Or.elim q9 (wd_nk k81 k82 rfl) (fun q9 => Or.elim q9 (wd_nk k81 k83 rfl) (fun q9 : g1 = g4 => (wd_nk k81 k84 rfl) q9))))
              have k112 := kq108.2 _ _ k86 (fun q9 => Or.elim q9 (wd_nk k86 k85 rfl) (fun q9 => Or.elim q9 (wd_nk k86 k82 rfl) (fun q9 => Or.elim q9 (wd_nk k86 k83 rfl) (fun q9 : b = g4 => (wd_nk k86 k84 rfl) q9))))
              have kp113 := kp87.tr kq108 (fun b9 hm q9 => (fun q9 => Or.elim q9 (fun q9 => q9 ▸ s90) (fun q9 => Or.elim q9 (fun q9 => q9 ▸ s93) (fun q9 => Or.elim q9 (fun q9 => q9 ▸ s94) (fun q9 => q9 ▸ s95)))) q9)
              refine W.eq (g2 := F0 m 92 ls [.int rx99]) rfl (W.widen (k := 0) (n := 0) (Nat.le_of_ble_eq_true rfl) (Nat.le_of_ble_eq_true rfl) ?_)
              refine lv_istore (lv' := [(7, .int rx99), (0, .ref ag), (1, .ref t), (2, .int (nI r)), (3, .int (nI ax4)), (4, .int rx21), (5, .int go), (6, .int (nI k))]) hx hb dX1_learnRule_92 hl (by decide) rfl (fun ls hl => ?_)
              refine lv_iload hx hb dX1_learnRule_94 (lv_at hl 0 rfl) ?_
              refine lv_if_eq (tgt := 102) hx hb dX1_learnRule_96 (by decide) (fun c_114 => ?_) (fun c_114 => ?_)
              · have hk5 := (hz103).2 c_114
                refine lv_aload_n hx hb dX1_learnRule_102 rfl (lv_at hl 1 rfl) ?_
                refine x_get (ref := "NoteHouse$Agent") F hP k109 rfl (fun _ h => List.mem_cons_of_mem _ (List.mem_append_left _ (List.mem_append_right _ (h)))) 1 (Nat.le_of_ble_eq_true rfl) (List.mem_cons_of_mem _ (List.mem_append_left _ (List.mem_append_left _ (List.mem_append_left _ (List.mem_of_getElem? (i := 1) rfl))))) rfl rfl dX1_learnRule_103 ?_
                refine lv_iload_n hx hb dX1_learnRule_106 rfl (lv_at hl 3 rfl) ?_
                refine lv_dup2_11 hx hb dX1_learnRule_107 rfl rfl ?_
                refine x_iald F hP k111 (vp_in_nI (n := r) (N := 12) (by omega) (by decide)) dX1_learnRule_108 ?_
                rw [nI_clamp (n := r) (by omega), hck]
                refine lv_iconst (v := 1) hx hb dX1_learnRule_109 (by decide) ?_
                refine lv_iadd hx hb dX1_learnRule_110 ?_
                rw [show ((nI k) + 1 : Int32) = nI (k + 1) from nI_add k 1]
                refine y_iast F hP hD hS k111 (vp_in_nI (n := r) (N := 12) (by omega) (by decide)) dX1_learnRule_111 (fun w115 ew116 H locs hP hD hS => ?_)
                have k117 := wd_at.pt ew116 k109 (wd_nk k109 k111 rfl)
                have k118 := wd_at.pt ew116 k110 ng0g1
                have k119 : wd_at w115 g1 (.inl (cy 2, 12, .inl (upd cf2 (nI r).toNatClampNeg (nI (k + 1))))) := wd_at.ps ew116 k111
                have k120 := wd_at.pt ew116 k105 (wd_nk k105 k111 rfl)
                have k121 := wd_at.pt ew116 k106 (wd_nk k106 k111 rfl)
                have k122 := wd_at.pt ew116 k107 (wd_nk k107 k111 rfl)
                have k123 := wd_at.pt ew116 k104 (wd_nk k104 k111 rfl)
                have k124 := wd_at.pt ew116 k112 (wd_nk k112 k111 rfl)
                have kp125 := kp113.put ew116 s92
                refine lv_aload_n hx hb dX1_learnRule_112 rfl (lv_at hl 2 rfl) ?_
                refine x_ldcS F (i := 3) (tx := "and") (by decide +kernel) dX1_learnRule_113 ?_
                refine x_callV (n := 1) (As := [.ref (sk 3)]) (rest := []) F hP hD hS (g_takeWord l D cy sk sv w115 t b n ax95 3 f k123 k124 (fun b => b = t) rfl (by omega) (by omega) (by omega)) gX1_learnRule_X7_takeWord rfl rfl (by decide +kernel) ⟨(Nat.le_of_ble_eq_true rfl), (Nat.le_of_ble_eq_true rfl)⟩ rfl hl.1 (Nat.le_of_ble_eq_true rfl) k123 rfl dX1_learnRule_115 rfl ⟨(Nat.le_of_ble_eq_true rfl), (Nat.le_of_ble_eq_true rfl)⟩ (fun v127 w128 hp126 H locs hP hD hS => ?_)
                obtain ⟨ax129, rx130, rfl, hz131, hz132, hz133, kq135, k134⟩ := hp126
                have k136 := kq135.2 _ _ k117 (fun q9 : ag = t => (wd_nk k117 k123 rfl) q9)
                have k137 := kq135.2 _ _ k118 (fun q9 : g0 = t => (wd_nk k118 k123 rfl) q9)
                have k138 := kq135.2 _ _ k119 (fun q9 : g1 = t => (wd_nk k119 k123 rfl) q9)
                have k139 := kq135.2 _ _ k120 (fun q9 : g2 = t => (wd_nk k120 k123 rfl) q9)
                have k140 := kq135.2 _ _ k121 (fun q9 : g3 = t => (wd_nk k121 k123 rfl) q9)
                have k141 := kq135.2 _ _ k122 (fun q9 : g4 = t => (wd_nk k122 k123 rfl) q9)
                have k142 := kq135.2 _ _ k124 (fun q9 : b = t => (wd_nk k124 k123 rfl) q9)
                have kp143 := kp125.tr kq135 (fun b9 hm q9 => (fun q9 => q9 ▸ s90) q9)
                refine W.eq (g2 := F0 m 118 ls [.int rx130]) rfl (W.widen (k := 0) (n := 0) (Nat.le_of_ble_eq_true rfl) (Nat.le_of_ble_eq_true rfl) ?_)
                refine lv_iconst (v := (-1)) hx hb dX1_learnRule_118 (by decide) ?_
                refine lv_icmp_eq (tgt := 126) hx hb dX1_learnRule_119 (by decide) (fun c_144 => ?_) (fun c_144 => ?_)
                · refine lv_iconst (v := 0) hx hb dX1_learnRule_126 (by decide) ?_
                  refine lv_istore (lv' := [(5, .int 0), (7, .int rx99), (0, .ref ag), (1, .ref t), (2, .int (nI r)), (3, .int (nI ax4)), (4, .int rx21), (6, .int (nI k))]) hx hb dX1_learnRule_127 hl (by decide) rfl (fun ls hl => ?_)
                  refine lv_iinc (v := nI (k + 1)) (lv' := [(6, .int (nI (k + 1))), (5, .int 0), (7, .int rx99), (0, .ref ag), (1, .ref t), (2, .int (nI r)), (3, .int (nI ax4)), (4, .int rx21)]) hx hb dX1_learnRule_129 hl (k := 7) rfl (nI_1 k) (by decide) rfl (fun ls hl => ?_)
                  refine lv_goto (tgt := 72) hx hb dX1_learnRule_132 (by decide) ?_
                  exact ih72 (k + 1) 0 ax129 (upd cf2 (nI r).toNatClampNeg (nI (k + 1))) nfx96 sfx97 ufx98 w128 (by omega) (Or.inr trivial) (by omega) (by omega) (aOK.c (r := r) (u := k + 1) (by assumption) (by omega) (by omega)) (by rw [nI_clamp (by omega), pk_us]) k136 k137 k138 k139 k140 k141 k134 k142 kp143 ls (lv_sub hl [3, 4, 5, 6, 7, 1, 0] rfl) H locs hP hD hS
                · refine lv_iconst (v := 1) hx hb dX1_learnRule_122 (by decide) ?_
                  refine lv_goto (tgt := 127) hx hb dX1_learnRule_123 (by decide) ?_
                  refine lv_istore (lv' := [(5, .int 1), (7, .int rx99), (0, .ref ag), (1, .ref t), (2, .int (nI r)), (3, .int (nI ax4)), (4, .int rx21), (6, .int (nI k))]) hx hb dX1_learnRule_127 hl (by decide) rfl (fun ls hl => ?_)
                  refine lv_iinc (v := nI (k + 1)) (lv' := [(6, .int (nI (k + 1))), (5, .int 1), (7, .int rx99), (0, .ref ag), (1, .ref t), (2, .int (nI r)), (3, .int (nI ax4)), (4, .int rx21)]) hx hb dX1_learnRule_129 hl (k := 7) rfl (nI_1 k) (by decide) rfl (fun ls hl => ?_)
                  refine lv_goto (tgt := 72) hx hb dX1_learnRule_132 (by decide) ?_
                  exact ih72 (k + 1) 1 ax129 (upd cf2 (nI r).toNatClampNeg (nI (k + 1))) nfx96 sfx97 ufx98 w128 (by omega) (Or.inr trivial) (by omega) (by omega) (aOK.c (r := r) (u := k + 1) (by assumption) (by omega) (by omega)) (by rw [nI_clamp (by omega), pk_us]) k136 k137 k138 k139 k140 k141 k134 k142 kp143 ls (lv_sub hl [3, 4, 5, 6, 7, 1, 0] rfl) H locs hP hD hS
              · have hft := ((hz103).1).resolve_left c_114
                have hft2 : (rx99 = 0 ∨ ∃ k, 0 < k ∧ k < 2000 ∧ rx99 = nI k) := Or.inr hft
                refine lv_iload hx hb dX1_learnRule_99 (lv_at hl 0 rfl) ?_
                exact y_ir K hP hD hS (Nat.le_of_ble_eq_true rfl) (Nat.le_of_ble_eq_true rfl) (ty := .int) rfl rfl dX1_learnRule_101 (⟨ax95, upd df (nI r).toNatClampNeg rx21, cf2, nfx96, sfx97, ufx98, rx99, rfl, by omega, by omega, (by assumption), ⟨(by assumption), fun q => absurd q (by assumption)⟩, kp113, k104, k110, k111, k105, k106, k107⟩)
        exact lp72 _ 0 0 ax62 (upd cf (nI r).toNatClampNeg 0) nf sf uf w61 (Nat.zero_add 7) (Or.inr trivial) (by omega) (by omega) (aOK.c (r := r) (u := 0) (by assumption) (by omega) (by omega)) (by rw [nI_clamp (by omega), pk_us]; rfl) k69 k70 k71 k72 k73 k74 k67 k75 kp76 ls (lv_sub hl [4, 5, 6, 3, 2, 1, 0] rfl) H locs hP hD hS
      · refine lv_iconst (v := 1) hx hb dX1_learnRule_62 (by decide) ?_
        refine lv_goto (tgt := 67) hx hb dX1_learnRule_63 (by decide) ?_
        refine lv_istore (lv' := [(5, .int 1), (4, .int rx21), (3, .int (nI ax4)), (0, .ref ag), (1, .ref t), (2, .int (nI r))]) hx hb dX1_learnRule_67 hl (by decide) rfl (fun ls hl => ?_)
        refine lv_iconst (v := 0) hx hb dX1_learnRule_69 (by decide) ?_
        refine lv_istore (lv' := [(6, .int 0), (5, .int 1), (4, .int rx21), (3, .int (nI ax4)), (0, .ref ag), (1, .ref t), (2, .int (nI r))]) hx hb dX1_learnRule_70 hl (by decide) rfl (fun ls hl => ?_)
        have lp72 : ∀ (N : Nat) (k : Nat) (go : Int32) (a2 : Nat) (cf2 : Nat → Int32) (nf2 : Nat → Int32) (sf2 : Nat → Int32) (uf2 : Nat → Int32) (w145 : Wd), (k + N = 7) → (k ≤ 6 ∨ True) → (a0 ≤ a2) → (a2 ≤ n) → (aOK cf2 nf2) → (cf2 r = nI k) → (wd_at w145 ag (.inr (1, [.ref g0, .ref g1, .ref g2, .ref g3, .ref g4, .int rc]))) → (wd_at w145 g0 (.inl (cy 2, 12, .inl (upd df (nI r).toNatClampNeg rx21)))) → (wd_at w145 g1 (.inl (cy 2, 12, .inl cf2))) → (wd_at w145 g2 (.inl (cy 2, 72, .inl nf2))) → (wd_at w145 g3 (.inl (cy 1, 72, .inl sf2))) → (wd_at w145 g4 (.inl (cy 2, 72, .inl uf2))) → (wd_at w145 t (.inr (7, [.ref b, .int (nI n), .int (nI a2)]))) → (wd_at w145 b (.inl (cy 0, 300, .inl f))) → (wd_kp S w w145) → ∀ (ls : Array Slot), lv_has ls 8 [(0, .ref ag), (1, .ref t), (2, .int (nI r)), (3, .int (nI ax4)), (4, .int rx21), (5, .int go), (6, .int (nI k))] → Wv p l e ({ frames := 8, cells := 0, slots := 0, locals := 186 }) s m args below meth c D A (0) (0) Q w145 (F0 m 72 ls []) := by
          intro N
          induction N with
          | zero =>
            intro k go a2 cf2 nf2 sf2 uf2 w145 hN72 hk6 ha1 ha2 hok2 hck k146 k147 k148 k149 k150 k151 k152 k153 kp154 ls hl H locs hP hD hS
            refine lv_iload hx hb dX1_learnRule_72 (lv_at hl 5 rfl) ?_
            refine lv_if_eq (tgt := 135) hx hb dX1_learnRule_74 (by decide) (fun c_155 => ?_) (fun c_155 => ?_)
            · refine lv_iconst (v := 0) hx hb dX1_learnRule_135 (by decide) ?_
              exact y_ir K hP hD hS (Nat.le_of_ble_eq_true rfl) (Nat.le_of_ble_eq_true rfl) (ty := .int) rfl rfl dX1_learnRule_136 (⟨a2, upd df (nI r).toNatClampNeg rx21, cf2, nf2, sf2, uf2, 0, rfl, by omega, by omega, (by assumption), ⟨Or.inl rfl, fun _ => hr12⟩, kp154, k152, k147, k148, k149, k150, k151⟩)
            · refine lv_iload hx hb dX1_learnRule_77 (lv_at hl 6 rfl) ?_
              refine lv_bipush (v := 6) hx hb dX1_learnRule_79 (by decide) ?_
              refine lv_icmp_gt (tgt := 135) hx hb dX1_learnRule_81 (by decide) (fun c_156 => ?_) (fun c_156 => absurd (nI_lt (a := 6) (b := k) (by omega) (by omega)) c_156)
              refine lv_iconst (v := 0) hx hb dX1_learnRule_135 (by decide) ?_
              exact y_ir K hP hD hS (Nat.le_of_ble_eq_true rfl) (Nat.le_of_ble_eq_true rfl) (ty := .int) rfl rfl dX1_learnRule_136 (⟨a2, upd df (nI r).toNatClampNeg rx21, cf2, nf2, sf2, uf2, 0, rfl, by omega, by omega, (by assumption), ⟨Or.inl rfl, fun _ => hr12⟩, kp154, k152, k147, k148, k149, k150, k151⟩)
          | succ N ih72 =>
            intro k go a2 cf2 nf2 sf2 uf2 w145 hN72 hk6 ha1 ha2 hok2 hck k146 k147 k148 k149 k150 k151 k152 k153 kp154 ls hl H locs hP hD hS
            refine lv_iload hx hb dX1_learnRule_72 (lv_at hl 5 rfl) ?_
            refine lv_if_eq (tgt := 135) hx hb dX1_learnRule_74 (by decide) (fun c_157 => ?_) (fun c_157 => ?_)
            · refine lv_iconst (v := 0) hx hb dX1_learnRule_135 (by decide) ?_
              exact y_ir K hP hD hS (Nat.le_of_ble_eq_true rfl) (Nat.le_of_ble_eq_true rfl) (ty := .int) rfl rfl dX1_learnRule_136 (⟨a2, upd df (nI r).toNatClampNeg rx21, cf2, nf2, sf2, uf2, 0, rfl, by omega, by omega, (by assumption), ⟨Or.inl rfl, fun _ => hr12⟩, kp154, k152, k147, k148, k149, k150, k151⟩)
            · refine lv_iload hx hb dX1_learnRule_77 (lv_at hl 6 rfl) ?_
              refine lv_bipush (v := 6) hx hb dX1_learnRule_79 (by decide) ?_
              refine lv_icmp_gt (tgt := 135) hx hb dX1_learnRule_81 (by decide) (fun c_158 => absurd c_158 (nI_nlt (a := 6) (b := k) (by omega) (by omega))) (fun c_158 => ?_)
              refine lv_aload_n hx hb dX1_learnRule_84 rfl (lv_at hl 0 rfl) ?_
              refine lv_aload_n hx hb dX1_learnRule_85 rfl (lv_at hl 1 rfl) ?_
              refine lv_iload_n hx hb dX1_learnRule_86 rfl (lv_at hl 2 rfl) ?_
              refine lv_iload hx hb dX1_learnRule_87 (lv_at hl 6 rfl) ?_
              refine x_callV (n := 3) (As := [.ref t, .int (nI r), .int (nI k)]) (rest := []) F hP hD hS (g_learnCond l D cy sk sv w145 ag g0 g1 g2 g3 g4 t b n a2 r k rc cf2 nf2 sf2 uf2 f k146 k148 k149 k150 k151 k152 k153 (fun b => b = t ∨ b = g2 ∨ b = g3 ∨ b = g4) (Or.inl rfl) (Or.inr (Or.inl rfl)) (Or.inr (Or.inr (Or.inl rfl))) (Or.inr (Or.inr (Or.inr rfl))) (by omega) (by omega) (by assumption) (by omega) (by omega) ng2g3 ng2g4 ng3g4) gX1_learnRule_X1_learnCond rfl rfl (by decide +kernel) ⟨(Nat.le_of_ble_eq_true rfl), (Nat.le_of_ble_eq_true rfl)⟩ rfl hl.1 (Nat.le_of_ble_eq_true rfl) k146 rfl dX1_learnRule_89 rfl ⟨(Nat.le_of_ble_eq_true rfl), (Nat.le_of_ble_eq_true rfl)⟩ (fun v160 w161 hp159 H locs hP hD hS => ?_)
              obtain ⟨ax162, nfx163, sfx164, ufx165, rx166, rfl, hz167, hz168, hz169, hz170, kq175, k171, k172, k173, k174⟩ := hp159
              have k176 := kq175.2 _ _ k146 (fun q9 => Or.elim q9 (wd_nk k146 k152 rfl) (fun q9 => Or.elim q9 (wd_nk k146 k149 rfl) (fun q9 => Or.elim q9 (wd_nk k146 k150 rfl) (fun q9 : ag = g4 => (wd_nk k146 k151 rfl) q9))))
              have k177 := kq175.2 _ _ k147 (fun q9 => Or.elim q9 (wd_nk k147 k152 rfl) (fun q9 => Or.elim q9 (wd_nk k147 k149 rfl) (fun q9 => Or.elim q9 (wd_nk k147 k150 rfl) (fun q9 : g0 = g4 => (wd_nk k147 k151 rfl) q9))))
              have k178 := kq175.2 _ _ k148 (fun q9 => Or.elim q9 (wd_nk k148 k152 rfl) (fun q9 => Or.elim q9 (wd_nk k148 k149 rfl) (fun q9 => Or.elim q9 (wd_nk k148 k150 rfl) (fun q9 : g1 = g4 => (wd_nk k148 k151 rfl) q9))))
              have k179 := kq175.2 _ _ k153 (fun q9 => Or.elim q9 (wd_nk k153 k152 rfl) (fun q9 => Or.elim q9 (wd_nk k153 k149 rfl) (fun q9 => Or.elim q9 (wd_nk k153 k150 rfl) (fun q9 : b = g4 => (wd_nk k153 k151 rfl) q9))))
              have kp180 := kp154.tr kq175 (fun b9 hm q9 => (fun q9 => Or.elim q9 (fun q9 => q9 ▸ s90) (fun q9 => Or.elim q9 (fun q9 => q9 ▸ s93) (fun q9 => Or.elim q9 (fun q9 => q9 ▸ s94) (fun q9 => q9 ▸ s95)))) q9)
              refine W.eq (g2 := F0 m 92 ls [.int rx166]) rfl (W.widen (k := 0) (n := 0) (Nat.le_of_ble_eq_true rfl) (Nat.le_of_ble_eq_true rfl) ?_)
              refine lv_istore (lv' := [(7, .int rx166), (0, .ref ag), (1, .ref t), (2, .int (nI r)), (3, .int (nI ax4)), (4, .int rx21), (5, .int go), (6, .int (nI k))]) hx hb dX1_learnRule_92 hl (by decide) rfl (fun ls hl => ?_)
              refine lv_iload hx hb dX1_learnRule_94 (lv_at hl 0 rfl) ?_
              refine lv_if_eq (tgt := 102) hx hb dX1_learnRule_96 (by decide) (fun c_181 => ?_) (fun c_181 => ?_)
              · have hk5 := (hz170).2 c_181
                refine lv_aload_n hx hb dX1_learnRule_102 rfl (lv_at hl 1 rfl) ?_
                refine x_get (ref := "NoteHouse$Agent") F hP k176 rfl (fun _ h => List.mem_cons_of_mem _ (List.mem_append_left _ (List.mem_append_right _ (h)))) 1 (Nat.le_of_ble_eq_true rfl) (List.mem_cons_of_mem _ (List.mem_append_left _ (List.mem_append_left _ (List.mem_append_left _ (List.mem_of_getElem? (i := 1) rfl))))) rfl rfl dX1_learnRule_103 ?_
                refine lv_iload_n hx hb dX1_learnRule_106 rfl (lv_at hl 3 rfl) ?_
                refine lv_dup2_11 hx hb dX1_learnRule_107 rfl rfl ?_
                refine x_iald F hP k178 (vp_in_nI (n := r) (N := 12) (by omega) (by decide)) dX1_learnRule_108 ?_
                rw [nI_clamp (n := r) (by omega), hck]
                refine lv_iconst (v := 1) hx hb dX1_learnRule_109 (by decide) ?_
                refine lv_iadd hx hb dX1_learnRule_110 ?_
                rw [show ((nI k) + 1 : Int32) = nI (k + 1) from nI_add k 1]
                refine y_iast F hP hD hS k178 (vp_in_nI (n := r) (N := 12) (by omega) (by decide)) dX1_learnRule_111 (fun w182 ew183 H locs hP hD hS => ?_)
                have k184 := wd_at.pt ew183 k176 (wd_nk k176 k178 rfl)
                have k185 := wd_at.pt ew183 k177 ng0g1
                have k186 : wd_at w182 g1 (.inl (cy 2, 12, .inl (upd cf2 (nI r).toNatClampNeg (nI (k + 1))))) := wd_at.ps ew183 k178
                have k187 := wd_at.pt ew183 k172 (wd_nk k172 k178 rfl)
                have k188 := wd_at.pt ew183 k173 (wd_nk k173 k178 rfl)
                have k189 := wd_at.pt ew183 k174 (wd_nk k174 k178 rfl)
                have k190 := wd_at.pt ew183 k171 (wd_nk k171 k178 rfl)
                have k191 := wd_at.pt ew183 k179 (wd_nk k179 k178 rfl)
                have kp192 := kp180.put ew183 s92
                refine lv_aload_n hx hb dX1_learnRule_112 rfl (lv_at hl 2 rfl) ?_
                refine x_ldcS F (i := 3) (tx := "and") (by decide +kernel) dX1_learnRule_113 ?_
                refine x_callV (n := 1) (As := [.ref (sk 3)]) (rest := []) F hP hD hS (g_takeWord l D cy sk sv w182 t b n ax162 3 f k190 k191 (fun b => b = t) rfl (by omega) (by omega) (by omega)) gX1_learnRule_X7_takeWord rfl rfl (by decide +kernel) ⟨(Nat.le_of_ble_eq_true rfl), (Nat.le_of_ble_eq_true rfl)⟩ rfl hl.1 (Nat.le_of_ble_eq_true rfl) k190 rfl dX1_learnRule_115 rfl ⟨(Nat.le_of_ble_eq_true rfl), (Nat.le_of_ble_eq_true rfl)⟩ (fun v194 w195 hp193 H locs hP hD hS => ?_)
                obtain ⟨ax196, rx197, rfl, hz198, hz199, hz200, kq202, k201⟩ := hp193
                have k203 := kq202.2 _ _ k184 (fun q9 : ag = t => (wd_nk k184 k190 rfl) q9)
                have k204 := kq202.2 _ _ k185 (fun q9 : g0 = t => (wd_nk k185 k190 rfl) q9)
                have k205 := kq202.2 _ _ k186 (fun q9 : g1 = t => (wd_nk k186 k190 rfl) q9)
                have k206 := kq202.2 _ _ k187 (fun q9 : g2 = t => (wd_nk k187 k190 rfl) q9)
                have k207 := kq202.2 _ _ k188 (fun q9 : g3 = t => (wd_nk k188 k190 rfl) q9)
                have k208 := kq202.2 _ _ k189 (fun q9 : g4 = t => (wd_nk k189 k190 rfl) q9)
                have k209 := kq202.2 _ _ k191 (fun q9 : b = t => (wd_nk k191 k190 rfl) q9)
                have kp210 := kp192.tr kq202 (fun b9 hm q9 => (fun q9 => q9 ▸ s90) q9)
                refine W.eq (g2 := F0 m 118 ls [.int rx197]) rfl (W.widen (k := 0) (n := 0) (Nat.le_of_ble_eq_true rfl) (Nat.le_of_ble_eq_true rfl) ?_)
                refine lv_iconst (v := (-1)) hx hb dX1_learnRule_118 (by decide) ?_
                refine lv_icmp_eq (tgt := 126) hx hb dX1_learnRule_119 (by decide) (fun c_211 => ?_) (fun c_211 => ?_)
                · refine lv_iconst (v := 0) hx hb dX1_learnRule_126 (by decide) ?_
                  refine lv_istore (lv' := [(5, .int 0), (7, .int rx166), (0, .ref ag), (1, .ref t), (2, .int (nI r)), (3, .int (nI ax4)), (4, .int rx21), (6, .int (nI k))]) hx hb dX1_learnRule_127 hl (by decide) rfl (fun ls hl => ?_)
                  refine lv_iinc (v := nI (k + 1)) (lv' := [(6, .int (nI (k + 1))), (5, .int 0), (7, .int rx166), (0, .ref ag), (1, .ref t), (2, .int (nI r)), (3, .int (nI ax4)), (4, .int rx21)]) hx hb dX1_learnRule_129 hl (k := 7) rfl (nI_1 k) (by decide) rfl (fun ls hl => ?_)
                  refine lv_goto (tgt := 72) hx hb dX1_learnRule_132 (by decide) ?_
                  exact ih72 (k + 1) 0 ax196 (upd cf2 (nI r).toNatClampNeg (nI (k + 1))) nfx163 sfx164 ufx165 w195 (by omega) (Or.inr trivial) (by omega) (by omega) (aOK.c (r := r) (u := k + 1) (by assumption) (by omega) (by omega)) (by rw [nI_clamp (by omega), pk_us]) k203 k204 k205 k206 k207 k208 k201 k209 kp210 ls (lv_sub hl [3, 4, 5, 6, 7, 1, 0] rfl) H locs hP hD hS
                · refine lv_iconst (v := 1) hx hb dX1_learnRule_122 (by decide) ?_
                  refine lv_goto (tgt := 127) hx hb dX1_learnRule_123 (by decide) ?_
                  refine lv_istore (lv' := [(5, .int 1), (7, .int rx166), (0, .ref ag), (1, .ref t), (2, .int (nI r)), (3, .int (nI ax4)), (4, .int rx21), (6, .int (nI k))]) hx hb dX1_learnRule_127 hl (by decide) rfl (fun ls hl => ?_)
                  refine lv_iinc (v := nI (k + 1)) (lv' := [(6, .int (nI (k + 1))), (5, .int 1), (7, .int rx166), (0, .ref ag), (1, .ref t), (2, .int (nI r)), (3, .int (nI ax4)), (4, .int rx21)]) hx hb dX1_learnRule_129 hl (k := 7) rfl (nI_1 k) (by decide) rfl (fun ls hl => ?_)
                  refine lv_goto (tgt := 72) hx hb dX1_learnRule_132 (by decide) ?_
                  exact ih72 (k + 1) 1 ax196 (upd cf2 (nI r).toNatClampNeg (nI (k + 1))) nfx163 sfx164 ufx165 w195 (by omega) (Or.inr trivial) (by omega) (by omega) (aOK.c (r := r) (u := k + 1) (by assumption) (by omega) (by omega)) (by rw [nI_clamp (by omega), pk_us]) k203 k204 k205 k206 k207 k208 k201 k209 kp210 ls (lv_sub hl [3, 4, 5, 6, 7, 1, 0] rfl) H locs hP hD hS
              · have hft := ((hz170).1).resolve_left c_181
                have hft2 : (rx166 = 0 ∨ ∃ k, 0 < k ∧ k < 2000 ∧ rx166 = nI k) := Or.inr hft
                refine lv_iload hx hb dX1_learnRule_99 (lv_at hl 0 rfl) ?_
                exact y_ir K hP hD hS (Nat.le_of_ble_eq_true rfl) (Nat.le_of_ble_eq_true rfl) (ty := .int) rfl rfl dX1_learnRule_101 (⟨ax162, upd df (nI r).toNatClampNeg rx21, cf2, nfx163, sfx164, ufx165, rx166, rfl, by omega, by omega, (by assumption), ⟨(by assumption), fun q => absurd q (by assumption)⟩, kp180, k171, k177, k178, k172, k173, k174⟩)
        exact lp72 _ 0 1 ax62 (upd cf (nI r).toNatClampNeg 0) nf sf uf w61 (Nat.zero_add 7) (Or.inr trivial) (by omega) (by omega) (aOK.c (r := r) (u := 0) (by assumption) (by omega) (by omega)) (by rw [nI_clamp (by omega), pk_us]; rfl) k69 k70 k71 k72 k73 k74 k67 k75 kp76 ls (lv_sub hl [4, 5, 6, 3, 2, 1, 0] rfl) H locs hP hD hS
    · refine lv_iload_n hx hb dX1_learnRule_31 rfl (lv_at hl 1 rfl) ?_
      refine lv_iconst (v := 2) hx hb dX1_learnRule_32 (by decide) ?_
      refine x_callSN (host := RX10) (n := 2) (As := [.int (nI ax4), .int 2]) (rest := []) F hP hD hS (g_faultAt l D cy sk sv w19 ax4 2) gX1_learnRule_X10_faultAt_n63 rfl (by decide +kernel) (List.mem_cons_of_mem _ (List.mem_append_left _ (List.mem_append_left _ (List.mem_append_left _ (List.mem_of_getElem? (i := 20) rfl))))) (List.mem_cons_of_mem _ (List.mem_append_left _ (List.mem_append_left _ (List.mem_append_right _ (List.mem_append_right _ (List.mem_append_right _ (List.mem_append_left _ (List.mem_of_getElem? (i := 7) rfl)))))))) (by decide +kernel) ⟨(Nat.le_of_ble_eq_true rfl), (Nat.le_of_ble_eq_true rfl)⟩ rfl hl.1 (Nat.le_of_ble_eq_true rfl) dX1_learnRule_33 rfl ⟨(Nat.le_of_ble_eq_true rfl), (Nat.le_of_ble_eq_true rfl)⟩ (fun v213 w214 hp212 H locs hP hD hS => ?_)
      obtain ⟨rfl, rfl⟩ := hp212
      refine W.eq (g2 := F0 m 36 ls [.int (nI (1 + 4 * ax4 + 2))]) rfl (W.widen (k := 0) (n := 0) (Nat.le_of_ble_eq_true rfl) (Nat.le_of_ble_eq_true rfl) ?_)
      exact y_ir K hP hD hS (Nat.le_of_ble_eq_true rfl) (Nat.le_of_ble_eq_true rfl) (ty := .int) rfl rfl dX1_learnRule_36 (⟨ax20, df, cf, nf, sf, uf, nI (1 + 4 * ax4 + 2), rfl, by omega, by omega, hok, ⟨Or.inr ⟨_, by omega, by omega, rfl⟩, fun q => absurd q (nI_ne0 (by omega) (by omega))⟩, kp34, k25, k28, k29, k30, k31, k32⟩)
  · refine lv_iload_n hx hb dX1_learnRule_19 rfl (lv_at hl 1 rfl) ?_
    refine lv_iconst (v := 0) hx hb dX1_learnRule_20 (by decide) ?_
    refine x_callSN (host := RX10) (n := 2) (As := [.int (nI ax4), .int 0]) (rest := []) F hP hD hS (g_faultAt l D cy sk sv w19 ax4 0) gX1_learnRule_X10_faultAt_n63 rfl (by decide +kernel) (List.mem_cons_of_mem _ (List.mem_append_left _ (List.mem_append_left _ (List.mem_append_left _ (List.mem_of_getElem? (i := 20) rfl))))) (List.mem_cons_of_mem _ (List.mem_append_left _ (List.mem_append_left _ (List.mem_append_right _ (List.mem_append_right _ (List.mem_append_right _ (List.mem_append_left _ (List.mem_of_getElem? (i := 7) rfl)))))))) (by decide +kernel) ⟨(Nat.le_of_ble_eq_true rfl), (Nat.le_of_ble_eq_true rfl)⟩ rfl hl.1 (Nat.le_of_ble_eq_true rfl) dX1_learnRule_21 rfl ⟨(Nat.le_of_ble_eq_true rfl), (Nat.le_of_ble_eq_true rfl)⟩ (fun v216 w217 hp215 H locs hP hD hS => ?_)
    obtain ⟨rfl, rfl⟩ := hp215
    refine W.eq (g2 := F0 m 24 ls [.int (nI (1 + 4 * ax4 + 0))]) rfl (W.widen (k := 0) (n := 0) (Nat.le_of_ble_eq_true rfl) (Nat.le_of_ble_eq_true rfl) ?_)
    exact y_ir K hP hD hS (Nat.le_of_ble_eq_true rfl) (Nat.le_of_ble_eq_true rfl) (ty := .int) rfl rfl dX1_learnRule_24 (⟨ax20, df, cf, nf, sf, uf, nI (1 + 4 * ax4 + 0), rfl, by omega, by omega, hok, ⟨Or.inr ⟨_, by omega, by omega, rfl⟩, fun q => absurd q (nI_ne0 (by omega) (by omega))⟩, kp34, k25, k28, k29, k30, k31, k32⟩)
set_option maxHeartbeats 4000000 in
set_option maxRecDepth 100000 in
theorem g_learn (l : Launch) (D : va_G) (cy : Nat → ClassId) (sk sv : Nat → Nat) (w : Wd) (ag g0 g1 g2 g3 g4 : Nat) (t b n : Nat) (rc a0 : Int32) (df cf nf sf uf : Nat → Int32) (f : Nat → Int32) (c90 : wd_at w ag (.inr (1, [.ref g0, .ref g1, .ref g2, .ref g3, .ref g4, .int rc]))) (c91 : wd_at w g0 (.inl (cy 2, 12, .inl df))) (c92 : wd_at w g1 (.inl (cy 2, 12, .inl cf))) (c93 : wd_at w g2 (.inl (cy 2, 72, .inl nf))) (c94 : wd_at w g3 (.inl (cy 1, 72, .inl sf))) (c95 : wd_at w g4 (.inl (cy 2, 72, .inl uf))) (c96 : wd_at w t (.inr (7, [.ref b, .int (nI n), .int a0]))) (c97 : wd_at w b (.inl (cy 0, 300, .inl f)))  (S : Nat → Prop) (s90 : S t) (s91 : S ag) (s92 : S g0) (s93 : S g1) (s94 : S g2) (s95 : S g3) (s96 : S g4) (hn : n ≤ 300) (hok : aOK cf nf) (ng0g1 : g0 ≠ g1) (ng2g3 : g2 ≠ g3) (ng2g4 : g2 ≠ g4) (ng3g4 : g3 ≠ g4) : Ct l D cy sk sv yX1_learn wsX1_learn ({ frames := 9, cells := 0, slots := 0, locals := 213 }) [.ref ag, .ref t] w (fun v w1 => ∃ (a1 : Nat) (rr : Nat) (df1 : Nat → Int32) (cf1 : Nat → Int32) (nf1 : Nat → Int32) (sf1 : Nat → Int32) (uf1 : Nat → Int32) (r1 : Int32), v = some (.int r1) ∧ (a1 ≤ n) ∧ (rr ≤ 12) ∧ (aOK cf1 nf1) ∧ wd_kp S w w1 ∧ wd_at w1 t (.inr (7, [.ref b, .int (nI n), .int (nI a1)])) ∧ wd_at w1 ag (.inr (1, [.ref g0, .ref g1, .ref g2, .ref g3, .ref g4, .int (nI rr)])) ∧ wd_at w1 g0 (.inl (cy 2, 12, .inl df1)) ∧ wd_at w1 g1 (.inl (cy 2, 12, .inl cf1)) ∧ wd_at w1 g2 (.inl (cy 2, 72, .inl nf1)) ∧ wd_at w1 g3 (.inl (cy 1, 72, .inl sf1)) ∧ wd_at w1 g4 (.inl (cy 2, 72, .inl uf1))) := by
  refine Ct.by (cc := cX1_learn) (maxL := 4) (ret := (some .int)) (by decide +kernel) rfl (Nat.le_of_ble_eq_true rfl) ?_
  intro p e s m args below meth c A Q F hnm K ls hl
  have F : wd_Fx p s m args meth c cX1_learn 4 wsX1_learn RX1 D cy sk sv A := F
  have hl : lv_has ls 4 [(0, .ref ag), (1, .ref t)] := hl
  have hx := F.1.1
  have hb := F.1.2.1
  have hown := F.1.2.2.2.1
  have hts := F.1.2.2.2.2
  intro H locs hP hD hS
  have kp0 : wd_kp S w w := wd_kp.rf
  refine lv_aload_n hx hb dX1_learn_0 rfl (lv_at hl 0 rfl) ?_
  refine lv_iconst (v := 0) hx hb dX1_learn_1 (by decide) ?_
  refine y_put (ref := "NoteHouse$Agent") F hP hD hS c90 rfl (fun _ h => List.mem_cons_of_mem _ (List.mem_append_left _ (List.mem_append_right _ (h)))) tyX1_ok nmX1 5 (Nat.le_of_ble_eq_true rfl) (List.mem_cons_of_mem _ (List.mem_append_left _ (List.mem_append_left _ (List.mem_append_left _ (List.mem_of_getElem? (i := 0) rfl))))) rfl rfl rfl rfl (Nat.le_of_ble_eq_true rfl) dX1_learn_2 (fun w1 ew2 H locs hP hD hS => ?_)
  have k3 : wd_at w1 ag (.inr (1, [.ref g0, .ref g1, .ref g2, .ref g3, .ref g4, .int 0])) := wd_at.ps ew2 c90
  have k4 := wd_at.pt ew2 c91 (wd_nk c91 c90 rfl)
  have k5 := wd_at.pt ew2 c92 (wd_nk c92 c90 rfl)
  have k6 := wd_at.pt ew2 c93 (wd_nk c93 c90 rfl)
  have k7 := wd_at.pt ew2 c94 (wd_nk c94 c90 rfl)
  have k8 := wd_at.pt ew2 c95 (wd_nk c95 c90 rfl)
  have k9 := wd_at.pt ew2 c96 (wd_nk c96 c90 rfl)
  have k10 := wd_at.pt ew2 c97 (wd_nk c97 c90 rfl)
  have kp11 := kp0.put ew2 s91
  refine lv_aload_n hx hb dX1_learn_5 rfl (lv_at hl 1 rfl) ?_
  refine x_callV (n := 0) (As := []) (rest := []) F hP hD hS (g_rewind l D cy sk sv w1 t b n a0 k9 (fun b => b = t) rfl) gX1_learn_X7_rewind rfl rfl (by decide +kernel) ⟨(Nat.le_of_ble_eq_true rfl), (Nat.le_of_ble_eq_true rfl)⟩ rfl hl.1 (Nat.le_of_ble_eq_true rfl) k9 rfl dX1_learn_6 rfl ⟨(Nat.le_of_ble_eq_true rfl), (Nat.le_of_ble_eq_true rfl)⟩ (fun v13 w14 hp12 H locs hP hD hS => ?_)
  obtain ⟨rfl, kq16, k15⟩ := hp12
  have k17 := kq16.2 _ _ k3 (fun q9 : ag = t => (wd_nk k3 k9 rfl) q9)
  have k18 := kq16.2 _ _ k4 (fun q9 : g0 = t => (wd_nk k4 k9 rfl) q9)
  have k19 := kq16.2 _ _ k5 (fun q9 : g1 = t => (wd_nk k5 k9 rfl) q9)
  have k20 := kq16.2 _ _ k6 (fun q9 : g2 = t => (wd_nk k6 k9 rfl) q9)
  have k21 := kq16.2 _ _ k7 (fun q9 : g3 = t => (wd_nk k7 k9 rfl) q9)
  have k22 := kq16.2 _ _ k8 (fun q9 : g4 = t => (wd_nk k8 k9 rfl) q9)
  have k23 := kq16.2 _ _ k10 (fun q9 : b = t => (wd_nk k10 k9 rfl) q9)
  have kp24 := kp11.tr kq16 (fun b9 hm q9 => (fun q9 => q9 ▸ s90) q9)
  refine W.eq (g2 := F0 m 9 ls []) rfl (W.widen (k := 0) (n := 0) (Nat.le_of_ble_eq_true rfl) (Nat.le_of_ble_eq_true rfl) ?_)
  refine lv_aload_n hx hb dX1_learn_9 rfl (lv_at hl 1 rfl) ?_
  refine x_callV (n := 0) (As := []) (rest := []) F hP hD hS (g_isOver l D cy sk sv w14 t b n 0 f k15 k23 (fun b => b = t) rfl (by omega) (by omega)) gX1_learn_X7_isOver rfl rfl (by decide +kernel) ⟨(Nat.le_of_ble_eq_true rfl), (Nat.le_of_ble_eq_true rfl)⟩ rfl hl.1 (Nat.le_of_ble_eq_true rfl) k15 rfl dX1_learn_10 rfl ⟨(Nat.le_of_ble_eq_true rfl), (Nat.le_of_ble_eq_true rfl)⟩ (fun v26 w27 hp25 H locs hP hD hS => ?_)
  obtain ⟨ax28, rx29, rfl, hz30, hz31, hz32, kq34, k33⟩ := hp25
  have k35 := kq34.2 _ _ k17 (fun q9 : ag = t => (wd_nk k17 k15 rfl) q9)
  have k36 := kq34.2 _ _ k18 (fun q9 : g0 = t => (wd_nk k18 k15 rfl) q9)
  have k37 := kq34.2 _ _ k19 (fun q9 : g1 = t => (wd_nk k19 k15 rfl) q9)
  have k38 := kq34.2 _ _ k20 (fun q9 : g2 = t => (wd_nk k20 k15 rfl) q9)
  have k39 := kq34.2 _ _ k21 (fun q9 : g3 = t => (wd_nk k21 k15 rfl) q9)
  have k40 := kq34.2 _ _ k22 (fun q9 : g4 = t => (wd_nk k22 k15 rfl) q9)
  have k41 := kq34.2 _ _ k23 (fun q9 : b = t => (wd_nk k23 k15 rfl) q9)
  have kp42 := kp24.tr kq34 (fun b9 hm q9 => (fun q9 => q9 ▸ s90) q9)
  refine W.eq (g2 := F0 m 13 ls [.int rx29]) rfl (W.widen (k := 0) (n := 0) (Nat.le_of_ble_eq_true rfl) (Nat.le_of_ble_eq_true rfl) ?_)
  refine lv_if_eq (tgt := 18) hx hb dX1_learn_13 (by decide) (fun c_43 => ?_) (fun c_43 => ?_)
  · refine lv_iconst (v := 0) hx hb dX1_learn_18 (by decide) ?_
    refine lv_istore_n (lv' := [(2, .int 0), (0, .ref ag), (1, .ref t)]) hx hb dX1_learn_19 rfl hl (by decide) rfl (fun ls hl => ?_)
    have lp20 : ∀ (N : Nat) (k : Nat) (a2 : Nat) (df2 : Nat → Int32) (cf2 : Nat → Int32) (nf2 : Nat → Int32) (sf2 : Nat → Int32) (uf2 : Nat → Int32) (w44 : Wd), (k + N = 13) → (a2 ≤ n) → (aOK cf2 nf2) → (k ≤ 12) → (wd_at w44 ag (.inr (1, [.ref g0, .ref g1, .ref g2, .ref g3, .ref g4, .int (nI k)]))) → (wd_at w44 g0 (.inl (cy 2, 12, .inl df2))) → (wd_at w44 g1 (.inl (cy 2, 12, .inl cf2))) → (wd_at w44 g2 (.inl (cy 2, 72, .inl nf2))) → (wd_at w44 g3 (.inl (cy 1, 72, .inl sf2))) → (wd_at w44 g4 (.inl (cy 2, 72, .inl uf2))) → (wd_at w44 t (.inr (7, [.ref b, .int (nI n), .int (nI a2)]))) → (wd_at w44 b (.inl (cy 0, 300, .inl f))) → (wd_kp S w w44) → ∀ (ls : Array Slot), lv_has ls 4 [(0, .ref ag), (1, .ref t), (2, .int (nI k))] → Wv p l e ({ frames := 9, cells := 0, slots := 0, locals := 213 }) s m args below meth c D A (0) (0) Q w44 (F0 m 20 ls []) := by
      intro N
      induction N with
      | zero =>
        intro k a2 df2 cf2 nf2 sf2 uf2 w44 hN20 ha2 hok2 hk13 k45 k46 k47 k48 k49 k50 k51 k52 kp53 ls hl H locs hP hD hS
        refine lv_iload_n hx hb dX1_learn_20 rfl (lv_at hl 2 rfl) ?_
        refine lv_bipush (v := 12) hx hb dX1_learn_21 (by decide) ?_
        refine lv_icmp_gt (tgt := 79) hx hb dX1_learn_23 (by decide) (fun c_54 => ?_) (fun c_54 => absurd (nI_lt (a := 12) (b := k) (by omega) (by omega)) c_54)
        refine lv_aload_n hx hb dX1_learn_79 rfl (lv_at hl 1 rfl) ?_
        refine lv_iconst (v := 2) hx hb dX1_learn_80 (by decide) ?_
        refine x_callV (n := 1) (As := [.int 2]) (rest := []) F hP hD hS (g_faultHere l D cy sk sv w44 t b n a2 2 f k51 k52 (fun b => b = t) rfl (by omega) (by omega)) gX1_learn_X7_faultHere rfl rfl (by decide +kernel) ⟨(Nat.le_of_ble_eq_true rfl), (Nat.le_of_ble_eq_true rfl)⟩ rfl hl.1 (Nat.le_of_ble_eq_true rfl) k51 rfl dX1_learn_81 rfl ⟨(Nat.le_of_ble_eq_true rfl), (Nat.le_of_ble_eq_true rfl)⟩ (fun v56 w57 hp55 H locs hP hD hS => ?_)
        obtain ⟨ax58, rfl, hz59, hz60, kq62, k61⟩ := hp55
        have k63 := kq62.2 _ _ k45 (fun q9 : ag = t => (wd_nk k45 k51 rfl) q9)
        have k64 := kq62.2 _ _ k46 (fun q9 : g0 = t => (wd_nk k46 k51 rfl) q9)
        have k65 := kq62.2 _ _ k47 (fun q9 : g1 = t => (wd_nk k47 k51 rfl) q9)
        have k66 := kq62.2 _ _ k48 (fun q9 : g2 = t => (wd_nk k48 k51 rfl) q9)
        have k67 := kq62.2 _ _ k49 (fun q9 : g3 = t => (wd_nk k49 k51 rfl) q9)
        have k68 := kq62.2 _ _ k50 (fun q9 : g4 = t => (wd_nk k50 k51 rfl) q9)
        have k69 := kq62.2 _ _ k52 (fun q9 : b = t => (wd_nk k52 k51 rfl) q9)
        have kp70 := kp53.tr kq62 (fun b9 hm q9 => (fun q9 => q9 ▸ s90) q9)
        refine W.eq (g2 := F0 m 84 ls [.int (nI (1 + 4 * ax58 + 2))]) rfl (W.widen (k := 0) (n := 0) (Nat.le_of_ble_eq_true rfl) (Nat.le_of_ble_eq_true rfl) ?_)
        exact y_ir K hP hD hS (Nat.le_of_ble_eq_true rfl) (Nat.le_of_ble_eq_true rfl) (ty := .int) rfl rfl dX1_learn_84 (⟨ax58, k, df2, cf2, nf2, sf2, uf2, nI (1 + 4 * ax58 + 2), rfl, by omega, by omega, by assumption, kp70, k61, k63, k64, k65, k66, k67, k68⟩)
      | succ N ih20 =>
        intro k a2 df2 cf2 nf2 sf2 uf2 w44 hN20 ha2 hok2 hk13 k45 k46 k47 k48 k49 k50 k51 k52 kp53 ls hl H locs hP hD hS
        refine lv_iload_n hx hb dX1_learn_20 rfl (lv_at hl 2 rfl) ?_
        refine lv_bipush (v := 12) hx hb dX1_learn_21 (by decide) ?_
        refine lv_icmp_gt (tgt := 79) hx hb dX1_learn_23 (by decide) (fun c_71 => absurd c_71 (nI_nlt (a := 12) (b := k) (by omega) (by omega))) (fun c_71 => ?_)
        refine lv_aload_n hx hb dX1_learn_26 rfl (lv_at hl 0 rfl) ?_
        refine lv_aload_n hx hb dX1_learn_27 rfl (lv_at hl 1 rfl) ?_
        refine lv_iload_n hx hb dX1_learn_28 rfl (lv_at hl 2 rfl) ?_
        refine x_callV (n := 2) (As := [.ref t, .int (nI k)]) (rest := []) F hP hD hS (g_learnRule l D cy sk sv w44 ag g0 g1 g2 g3 g4 t b n a2 k (nI k) df2 cf2 nf2 sf2 uf2 f k45 k46 k47 k48 k49 k50 k51 k52 (fun b => b = t ∨ b = g0 ∨ b = g1 ∨ b = g2 ∨ b = g3 ∨ b = g4) (Or.inl rfl) (Or.inr (Or.inl rfl)) (Or.inr (Or.inr (Or.inl rfl))) (Or.inr (Or.inr (Or.inr (Or.inl rfl)))) (Or.inr (Or.inr (Or.inr (Or.inr (Or.inl rfl))))) (Or.inr (Or.inr (Or.inr (Or.inr (Or.inr rfl))))) (by omega) (by omega) (by assumption) (by omega) ng0g1 ng2g3 ng2g4 ng3g4) gX1_learn_X1_learnRule rfl rfl (by decide +kernel) ⟨(Nat.le_of_ble_eq_true rfl), (Nat.le_of_ble_eq_true rfl)⟩ rfl hl.1 (Nat.le_of_ble_eq_true rfl) k45 rfl dX1_learn_29 rfl ⟨(Nat.le_of_ble_eq_true rfl), (Nat.le_of_ble_eq_true rfl)⟩ (fun v73 w74 hp72 H locs hP hD hS => ?_)
        obtain ⟨ax75, dfx76, cfx77, nfx78, sfx79, ufx80, rx81, rfl, hz82, hz83, hz84, hz85, kq92, k86, k87, k88, k89, k90, k91⟩ := hp72
        have k93 := kq92.2 _ _ k45 (fun q9 => Or.elim q9 (wd_nk k45 k51 rfl) (fun q9 => Or.elim q9 (wd_nk k45 k46 rfl) (fun q9 => Or.elim q9 (wd_nk k45 k47 rfl) (fun q9 => Or.elim q9 (wd_nk k45 k48 rfl) (fun q9 => Or.elim q9 (wd_nk k45 k49 rfl) (fun q9 : ag = g4 => (wd_nk k45 k50 rfl) q9))))))
        have k94 := kq92.2 _ _ k52 (fun q9 => Or.elim q9 (wd_nk k52 k51 rfl) (fun q9 => Or.elim q9 (wd_nk k52 k46 rfl) (fun q9 => Or.elim q9 (wd_nk k52 k47 rfl) (fun q9 => Or.elim q9 (wd_nk k52 k48 rfl) (fun q9 => Or.elim q9 (wd_nk k52 k49 rfl) (fun q9 : b = g4 => (wd_nk k52 k50 rfl) q9))))))
        have kp95 := kp53.tr kq92 (fun b9 hm q9 => (fun q9 => Or.elim q9 (fun q9 => q9 ▸ s90) (fun q9 => Or.elim q9 (fun q9 => q9 ▸ s92) (fun q9 => Or.elim q9 (fun q9 => q9 ▸ s93) (fun q9 => Or.elim q9 (fun q9 => q9 ▸ s94) (fun q9 => Or.elim q9 (fun q9 => q9 ▸ s95) (fun q9 => q9 ▸ s96)))))) q9)
        refine W.eq (g2 := F0 m 32 ls [.int rx81]) rfl (W.widen (k := 0) (n := 0) (Nat.le_of_ble_eq_true rfl) (Nat.le_of_ble_eq_true rfl) ?_)
        refine lv_istore_n (lv' := [(3, .int rx81), (0, .ref ag), (1, .ref t), (2, .int (nI k))]) hx hb dX1_learn_32 rfl hl (by decide) rfl (fun ls hl => ?_)
        refine lv_iload_n hx hb dX1_learn_33 rfl (lv_at hl 0 rfl) ?_
        refine lv_if_eq (tgt := 39) hx hb dX1_learn_34 (by decide) (fun c_96 => ?_) (fun c_96 => ?_)
        · have hk12 := (hz85).2 c_96
          refine lv_aload_n hx hb dX1_learn_39 rfl (lv_at hl 1 rfl) ?_
          refine lv_dup hx hb dX1_learn_40 rfl ?_
          refine x_get (ref := "NoteHouse$Agent") F hP k93 rfl (fun _ h => List.mem_cons_of_mem _ (List.mem_append_left _ (List.mem_append_right _ (h)))) 5 (Nat.le_of_ble_eq_true rfl) (List.mem_cons_of_mem _ (List.mem_append_left _ (List.mem_append_left _ (List.mem_append_left _ (List.mem_of_getElem? (i := 0) rfl))))) rfl rfl dX1_learn_41 ?_
          refine lv_iconst (v := 1) hx hb dX1_learn_44 (by decide) ?_
          refine lv_iadd hx hb dX1_learn_45 ?_
          rw [show ((nI k) + 1 : Int32) = nI (k + 1) from nI_add k 1]
          refine y_put (ref := "NoteHouse$Agent") F hP hD hS k93 rfl (fun _ h => List.mem_cons_of_mem _ (List.mem_append_left _ (List.mem_append_right _ (h)))) tyX1_ok nmX1 5 (Nat.le_of_ble_eq_true rfl) (List.mem_cons_of_mem _ (List.mem_append_left _ (List.mem_append_left _ (List.mem_append_left _ (List.mem_of_getElem? (i := 0) rfl))))) rfl rfl rfl rfl (Nat.le_of_ble_eq_true rfl) dX1_learn_46 (fun w97 ew98 H locs hP hD hS => ?_)
          have k99 : wd_at w97 ag (.inr (1, [.ref g0, .ref g1, .ref g2, .ref g3, .ref g4, .int (nI (k + 1))])) := wd_at.ps ew98 k93
          have k100 := wd_at.pt ew98 k87 (wd_nk k87 k93 rfl)
          have k101 := wd_at.pt ew98 k88 (wd_nk k88 k93 rfl)
          have k102 := wd_at.pt ew98 k89 (wd_nk k89 k93 rfl)
          have k103 := wd_at.pt ew98 k90 (wd_nk k90 k93 rfl)
          have k104 := wd_at.pt ew98 k91 (wd_nk k91 k93 rfl)
          have k105 := wd_at.pt ew98 k86 (wd_nk k86 k93 rfl)
          have k106 := wd_at.pt ew98 k94 (wd_nk k94 k93 rfl)
          have kp107 := kp95.put ew98 s91
          refine lv_aload_n hx hb dX1_learn_49 rfl (lv_at hl 2 rfl) ?_
          refine x_callV (n := 0) (As := []) (rest := []) F hP hD hS (g_isOver l D cy sk sv w97 t b n ax75 f k105 k106 (fun b => b = t) rfl (by omega) (by omega)) gX1_learn_X7_isOver rfl rfl (by decide +kernel) ⟨(Nat.le_of_ble_eq_true rfl), (Nat.le_of_ble_eq_true rfl)⟩ rfl hl.1 (Nat.le_of_ble_eq_true rfl) k105 rfl dX1_learn_50 rfl ⟨(Nat.le_of_ble_eq_true rfl), (Nat.le_of_ble_eq_true rfl)⟩ (fun v109 w110 hp108 H locs hP hD hS => ?_)
          obtain ⟨ax111, rx112, rfl, hz113, hz114, hz115, kq117, k116⟩ := hp108
          have k118 := kq117.2 _ _ k99 (fun q9 : ag = t => (wd_nk k99 k105 rfl) q9)
          have k119 := kq117.2 _ _ k100 (fun q9 : g0 = t => (wd_nk k100 k105 rfl) q9)
          have k120 := kq117.2 _ _ k101 (fun q9 : g1 = t => (wd_nk k101 k105 rfl) q9)
          have k121 := kq117.2 _ _ k102 (fun q9 : g2 = t => (wd_nk k102 k105 rfl) q9)
          have k122 := kq117.2 _ _ k103 (fun q9 : g3 = t => (wd_nk k103 k105 rfl) q9)
          have k123 := kq117.2 _ _ k104 (fun q9 : g4 = t => (wd_nk k104 k105 rfl) q9)
          have k124 := kq117.2 _ _ k106 (fun q9 : b = t => (wd_nk k106 k105 rfl) q9)
          have kp125 := kp107.tr kq117 (fun b9 hm q9 => (fun q9 => q9 ▸ s90) q9)
          refine W.eq (g2 := F0 m 53 ls [.int rx112]) rfl (W.widen (k := 0) (n := 0) (Nat.le_of_ble_eq_true rfl) (Nat.le_of_ble_eq_true rfl) ?_)
          refine lv_if_eq (tgt := 58) hx hb dX1_learn_53 (by decide) (fun c_126 => ?_) (fun c_126 => ?_)
          · refine lv_aload_n hx hb dX1_learn_58 rfl (lv_at hl 2 rfl) ?_
            refine lv_bipush (v := 59) hx hb dX1_learn_59 (by decide) ?_
            refine x_callV (n := 1) (As := [.int 59]) (rest := []) F hP hD hS (g_takes l D cy sk sv w110 t b n ax111 f 59 k116 k124 (fun b => b = t) rfl (by omega) (by omega)) gX1_learn_X7_takes rfl rfl (by decide +kernel) ⟨(Nat.le_of_ble_eq_true rfl), (Nat.le_of_ble_eq_true rfl)⟩ rfl hl.1 (Nat.le_of_ble_eq_true rfl) k116 rfl dX1_learn_61 rfl ⟨(Nat.le_of_ble_eq_true rfl), (Nat.le_of_ble_eq_true rfl)⟩ (fun v128 w129 hp127 H locs hP hD hS => ?_)
            obtain ⟨ax130, rx131, rfl, hz132, hz133, hz134, kq136, k135⟩ := hp127
            have k137 := kq136.2 _ _ k118 (fun q9 : ag = t => (wd_nk k118 k116 rfl) q9)
            have k138 := kq136.2 _ _ k119 (fun q9 : g0 = t => (wd_nk k119 k116 rfl) q9)
            have k139 := kq136.2 _ _ k120 (fun q9 : g1 = t => (wd_nk k120 k116 rfl) q9)
            have k140 := kq136.2 _ _ k121 (fun q9 : g2 = t => (wd_nk k121 k116 rfl) q9)
            have k141 := kq136.2 _ _ k122 (fun q9 : g3 = t => (wd_nk k122 k116 rfl) q9)
            have k142 := kq136.2 _ _ k123 (fun q9 : g4 = t => (wd_nk k123 k116 rfl) q9)
            have k143 := kq136.2 _ _ k124 (fun q9 : b = t => (wd_nk k124 k116 rfl) q9)
            have kp144 := kp125.tr kq136 (fun b9 hm q9 => (fun q9 => q9 ▸ s90) q9)
            refine W.eq (g2 := F0 m 64 ls [.int rx131]) rfl (W.widen (k := 0) (n := 0) (Nat.le_of_ble_eq_true rfl) (Nat.le_of_ble_eq_true rfl) ?_)
            refine lv_if_ne (tgt := 73) hx hb dX1_learn_64 (by decide) (fun c_145 => ?_) (fun c_145 => ?_)
            · refine lv_iinc (v := nI (k + 1)) (lv' := [(2, .int (nI (k + 1))), (3, .int rx81), (0, .ref ag), (1, .ref t)]) hx hb dX1_learn_73 hl (k := 3) rfl (nI_1 k) (by decide) rfl (fun ls hl => ?_)
              refine lv_goto (tgt := 20) hx hb dX1_learn_76 (by decide) ?_
              exact ih20 (k + 1) ax130 dfx76 cfx77 nfx78 sfx79 ufx80 w129 (by omega) (by omega) (by assumption) (by omega) k137 k138 k139 k140 k141 k142 k135 k143 kp144 ls (lv_sub hl [2, 3, 0] rfl) H locs hP hD hS
            · refine lv_aload_n hx hb dX1_learn_67 rfl (lv_at hl 2 rfl) ?_
              refine lv_iconst (v := 0) hx hb dX1_learn_68 (by decide) ?_
              refine x_callV (n := 1) (As := [.int 0]) (rest := []) F hP hD hS (g_faultHere l D cy sk sv w129 t b n ax130 0 f k135 k143 (fun b => b = t) rfl (by omega) (by omega)) gX1_learn_X7_faultHere rfl rfl (by decide +kernel) ⟨(Nat.le_of_ble_eq_true rfl), (Nat.le_of_ble_eq_true rfl)⟩ rfl hl.1 (Nat.le_of_ble_eq_true rfl) k135 rfl dX1_learn_69 rfl ⟨(Nat.le_of_ble_eq_true rfl), (Nat.le_of_ble_eq_true rfl)⟩ (fun v147 w148 hp146 H locs hP hD hS => ?_)
              obtain ⟨ax149, rfl, hz150, hz151, kq153, k152⟩ := hp146
              have k154 := kq153.2 _ _ k137 (fun q9 : ag = t => (wd_nk k137 k135 rfl) q9)
              have k155 := kq153.2 _ _ k138 (fun q9 : g0 = t => (wd_nk k138 k135 rfl) q9)
              have k156 := kq153.2 _ _ k139 (fun q9 : g1 = t => (wd_nk k139 k135 rfl) q9)
              have k157 := kq153.2 _ _ k140 (fun q9 : g2 = t => (wd_nk k140 k135 rfl) q9)
              have k158 := kq153.2 _ _ k141 (fun q9 : g3 = t => (wd_nk k141 k135 rfl) q9)
              have k159 := kq153.2 _ _ k142 (fun q9 : g4 = t => (wd_nk k142 k135 rfl) q9)
              have k160 := kq153.2 _ _ k143 (fun q9 : b = t => (wd_nk k143 k135 rfl) q9)
              have kp161 := kp144.tr kq153 (fun b9 hm q9 => (fun q9 => q9 ▸ s90) q9)
              refine W.eq (g2 := F0 m 72 ls [.int (nI (1 + 4 * ax149 + 0))]) rfl (W.widen (k := 0) (n := 0) (Nat.le_of_ble_eq_true rfl) (Nat.le_of_ble_eq_true rfl) ?_)
              exact y_ir K hP hD hS (Nat.le_of_ble_eq_true rfl) (Nat.le_of_ble_eq_true rfl) (ty := .int) rfl rfl dX1_learn_72 (⟨ax149, (k + 1), dfx76, cfx77, nfx78, sfx79, ufx80, nI (1 + 4 * ax149 + 0), rfl, by omega, by omega, by assumption, kp161, k152, k154, k155, k156, k157, k158, k159⟩)
          · refine lv_iconst (v := 0) hx hb dX1_learn_56 (by decide) ?_
            exact y_ir K hP hD hS (Nat.le_of_ble_eq_true rfl) (Nat.le_of_ble_eq_true rfl) (ty := .int) rfl rfl dX1_learn_57 (⟨ax111, (k + 1), dfx76, cfx77, nfx78, sfx79, ufx80, 0, rfl, by omega, by omega, by assumption, kp125, k116, k118, k119, k120, k121, k122, k123⟩)
        · have hk12 : k ≤ 12 := by omega
          refine lv_iload_n hx hb dX1_learn_37 rfl (lv_at hl 0 rfl) ?_
          exact y_ir K hP hD hS (Nat.le_of_ble_eq_true rfl) (Nat.le_of_ble_eq_true rfl) (ty := .int) rfl rfl dX1_learn_38 (⟨ax75, k, dfx76, cfx77, nfx78, sfx79, ufx80, rx81, rfl, by omega, by omega, by assumption, kp95, k86, k93, k87, k88, k89, k90, k91⟩)
    exact lp20 _ 0 ax28 df cf nf sf uf w27 (Nat.zero_add 13) (by omega) (by assumption) (by omega) k35 k36 k37 k38 k39 k40 k33 k41 kp42 ls (lv_sub hl [1, 2, 0] rfl) H locs hP hD hS
  · refine lv_iconst (v := 0) hx hb dX1_learn_16 (by decide) ?_
    exact y_ir K hP hD hS (Nat.le_of_ble_eq_true rfl) (Nat.le_of_ble_eq_true rfl) (ty := .int) rfl rfl dX1_learn_17 (⟨ax28, 0, df, cf, nf, sf, uf, 0, rfl, by omega, by omega, by assumption, kp42, k33, k35, k36, k37, k38, k39, k40⟩)
set_option maxHeartbeats 4000000 in
set_option maxRecDepth 100000 in
theorem g_forget (l : Launch) (D : va_G) (cy : Nat → ClassId) (sk sv : Nat → Nat) (w : Wd) (lw bl : Nat) (bf : Nat → Int32) (ff tt : Int32) (c90 : wd_at w lw (.inr (2, [.ref bl, .int ff, .int tt]))) (c91 : wd_at w bl (.inl (cy 2, 4, .inl bf)))  (S : Nat → Prop) (s90 : S lw) (s91 : S bl)  : Ct l D cy sk sv yX2_forget wsX2_forget ({ frames := 0, cells := 0, slots := 0, locals := 0 }) [.ref lw] w (fun v w1 => ∃ (bf1 : Nat → Int32), v = none ∧ wd_kp S w w1 ∧ wd_at w1 lw (.inr (2, [.ref bl, .int 10, .int 0])) ∧ wd_at w1 bl (.inl (cy 2, 4, .inl bf1))) := by
  refine Ct.by (cc := cX2_forget) (maxL := 1) (ret := none) (by decide +kernel) rfl (Nat.le_of_ble_eq_true rfl) ?_
  intro p e s m args below meth c A Q F hnm K ls hl
  have F : wd_Fx p s m args meth c cX2_forget 1 wsX2_forget RX2 D cy sk sv A := F
  have hl : lv_has ls 1 [(0, .ref lw)] := hl
  have hx := F.1.1
  have hb := F.1.2.1
  have hown := F.1.2.2.2.1
  have hts := F.1.2.2.2.2
  intro H locs hP hD hS
  have kp0 : wd_kp S w w := wd_kp.rf
  refine lv_aload_n hx hb dX2_forget_0 rfl (lv_at hl 0 rfl) ?_
  refine x_get (ref := "NoteHouse$Law") F hP c90 rfl (fun _ h => List.mem_cons_of_mem _ (List.mem_append_right _ (h))) 0 (Nat.le_of_ble_eq_true rfl) (List.mem_cons_of_mem _ (List.mem_append_left _ (List.mem_of_getElem? (i := 0) rfl))) rfl rfl dX2_forget_1 ?_
  refine lv_iconst (v := 0) hx hb dX2_forget_4 (by decide) ?_
  refine lv_iconst (v := 1) hx hb dX2_forget_5 (by decide) ?_
  refine y_iast F hP hD hS c91 (vp_in_iff.mpr ⟨by decide, by decide⟩) dX2_forget_6 (fun w1 ew2 H locs hP hD hS => ?_)
  have k3 := wd_at.pt ew2 c90 (wd_nk c90 c91 rfl)
  have k4 : wd_at w1 bl (.inl (cy 2, 4, .inl (upd bf (0 : Int32).toNatClampNeg 1))) := wd_at.ps ew2 c91
  have kp5 := kp0.put ew2 s91
  refine lv_aload_n hx hb dX2_forget_7 rfl (lv_at hl 0 rfl) ?_
  refine x_get (ref := "NoteHouse$Law") F hP k3 rfl (fun _ h => List.mem_cons_of_mem _ (List.mem_append_right _ (h))) 0 (Nat.le_of_ble_eq_true rfl) (List.mem_cons_of_mem _ (List.mem_append_left _ (List.mem_of_getElem? (i := 0) rfl))) rfl rfl dX2_forget_8 ?_
  refine lv_iconst (v := 1) hx hb dX2_forget_11 (by decide) ?_
  refine lv_iconst (v := 1) hx hb dX2_forget_12 (by decide) ?_
  refine y_iast F hP hD hS k4 (vp_in_iff.mpr ⟨by decide, by decide⟩) dX2_forget_13 (fun w6 ew7 H locs hP hD hS => ?_)
  have k8 := wd_at.pt ew7 k3 (wd_nk k3 k4 rfl)
  have k9 : wd_at w6 bl (.inl (cy 2, 4, .inl (upd (upd bf (0 : Int32).toNatClampNeg 1) (1 : Int32).toNatClampNeg 1))) := wd_at.ps ew7 k4
  have kp10 := kp5.put ew7 s91
  refine lv_aload_n hx hb dX2_forget_14 rfl (lv_at hl 0 rfl) ?_
  refine x_get (ref := "NoteHouse$Law") F hP k8 rfl (fun _ h => List.mem_cons_of_mem _ (List.mem_append_right _ (h))) 0 (Nat.le_of_ble_eq_true rfl) (List.mem_cons_of_mem _ (List.mem_append_left _ (List.mem_of_getElem? (i := 0) rfl))) rfl rfl dX2_forget_15 ?_
  refine lv_iconst (v := 2) hx hb dX2_forget_18 (by decide) ?_
  refine lv_iconst (v := 0) hx hb dX2_forget_19 (by decide) ?_
  refine y_iast F hP hD hS k9 (vp_in_iff.mpr ⟨by decide, by decide⟩) dX2_forget_20 (fun w11 ew12 H locs hP hD hS => ?_)
  have k13 := wd_at.pt ew12 k8 (wd_nk k8 k9 rfl)
  have k14 : wd_at w11 bl (.inl (cy 2, 4, .inl (upd (upd (upd bf (0 : Int32).toNatClampNeg 1) (1 : Int32).toNatClampNeg 1) (2 : Int32).toNatClampNeg 0))) := wd_at.ps ew12 k9
  have kp15 := kp10.put ew12 s91
  refine lv_aload_n hx hb dX2_forget_21 rfl (lv_at hl 0 rfl) ?_
  refine x_get (ref := "NoteHouse$Law") F hP k13 rfl (fun _ h => List.mem_cons_of_mem _ (List.mem_append_right _ (h))) 0 (Nat.le_of_ble_eq_true rfl) (List.mem_cons_of_mem _ (List.mem_append_left _ (List.mem_of_getElem? (i := 0) rfl))) rfl rfl dX2_forget_22 ?_
  refine lv_iconst (v := 3) hx hb dX2_forget_25 (by decide) ?_
  refine lv_iconst (v := 2) hx hb dX2_forget_26 (by decide) ?_
  refine y_iast F hP hD hS k14 (vp_in_iff.mpr ⟨by decide, by decide⟩) dX2_forget_27 (fun w16 ew17 H locs hP hD hS => ?_)
  have k18 := wd_at.pt ew17 k13 (wd_nk k13 k14 rfl)
  have k19 : wd_at w16 bl (.inl (cy 2, 4, .inl (upd (upd (upd (upd bf (0 : Int32).toNatClampNeg 1) (1 : Int32).toNatClampNeg 1) (2 : Int32).toNatClampNeg 0) (3 : Int32).toNatClampNeg 2))) := wd_at.ps ew17 k14
  have kp20 := kp15.put ew17 s91
  refine lv_aload_n hx hb dX2_forget_28 rfl (lv_at hl 0 rfl) ?_
  refine lv_bipush (v := 10) hx hb dX2_forget_29 (by decide) ?_
  refine y_put (ref := "NoteHouse$Law") F hP hD hS k18 rfl (fun _ h => List.mem_cons_of_mem _ (List.mem_append_right _ (h))) tyX2_ok nmX2 1 (Nat.le_of_ble_eq_true rfl) (List.mem_cons_of_mem _ (List.mem_append_left _ (List.mem_of_getElem? (i := 1) rfl))) rfl rfl rfl rfl (Nat.le_of_ble_eq_true rfl) dX2_forget_31 (fun w21 ew22 H locs hP hD hS => ?_)
  have k23 : wd_at w21 lw (.inr (2, [.ref bl, .int 10, .int tt])) := wd_at.ps ew22 k18
  have k24 := wd_at.pt ew22 k19 (wd_nk k19 k18 rfl)
  have kp25 := kp20.put ew22 s90
  refine lv_aload_n hx hb dX2_forget_34 rfl (lv_at hl 0 rfl) ?_
  refine lv_iconst (v := 0) hx hb dX2_forget_35 (by decide) ?_
  refine y_put (ref := "NoteHouse$Law") F hP hD hS k23 rfl (fun _ h => List.mem_cons_of_mem _ (List.mem_append_right _ (h))) tyX2_ok nmX2 2 (Nat.le_of_ble_eq_true rfl) (List.mem_cons_of_mem _ (List.mem_append_left _ (List.mem_of_getElem? (i := 2) rfl))) rfl rfl rfl rfl (Nat.le_of_ble_eq_true rfl) dX2_forget_36 (fun w26 ew27 H locs hP hD hS => ?_)
  have k28 : wd_at w26 lw (.inr (2, [.ref bl, .int 10, .int 0])) := wd_at.ps ew27 k23
  have k29 := wd_at.pt ew27 k24 (wd_nk k24 k23 rfl)
  have kp30 := kp25.put ew27 s90
  exact y_vr K hP hD hS (Nat.le_of_ble_eq_true rfl) (Nat.le_of_ble_eq_true rfl) rfl dX2_forget_39 (⟨upd (upd (upd (upd bf (0 : Int32).toNatClampNeg 1) (1 : Int32).toNatClampNeg 1) (2 : Int32).toNatClampNeg 0) (3 : Int32).toNatClampNeg 2, rfl, kp30, k28, k29⟩)
set_option maxHeartbeats 4000000 in
set_option maxRecDepth 100000 in
theorem g_learnHand (l : Launch) (D : va_G) (cy : Nat → ClassId) (sk sv : Nat → Nat) (w : Wd) (lw bl : Nat) (t b n a0 : Nat) (ff tt : Int32) (f : Nat → Int32) (c90 : wd_at w lw (.inr (2, [.ref bl, .int ff, .int tt]))) (c91 : wd_at w t (.inr (7, [.ref b, .int (nI n), .int (nI a0)]))) (c92 : wd_at w b (.inl (cy 0, 300, .inl f)))  (S : Nat → Prop) (s90 : S t) (s91 : S lw) (hn : n ≤ 300) (ha : a0 ≤ n) : Ct l D cy sk sv yX2_learnHand wsX2_learnHand ({ frames := 2, cells := 0, slots := 0, locals := 45 }) [.ref lw, .ref t] w (fun v w1 => ∃ (a1 : Nat) (ff1 : Int32) (r1 : Int32), v = some (.int r1) ∧ (a0 ≤ a1) ∧ (a1 ≤ n) ∧ wd_kp S w w1 ∧ wd_at w1 t (.inr (7, [.ref b, .int (nI n), .int (nI a1)])) ∧ wd_at w1 lw (.inr (2, [.ref bl, .int ff1, .int tt]))) := by
  refine Ct.by (cc := cX2_learnHand) (maxL := 3) (ret := (some .int)) (by decide +kernel) rfl (Nat.le_of_ble_eq_true rfl) ?_
  intro p e s m args below meth c A Q F hnm K ls hl
  have F : wd_Fx p s m args meth c cX2_learnHand 3 wsX2_learnHand RX2 D cy sk sv A := F
  have hl : lv_has ls 3 [(0, .ref lw), (1, .ref t)] := hl
  have hx := F.1.1
  have hb := F.1.2.1
  have hown := F.1.2.2.2.1
  have hts := F.1.2.2.2.2
  intro H locs hP hD hS
  have kp0 : wd_kp S w w := wd_kp.rf
  refine lv_aload_n hx hb dX2_learnHand_0 rfl (lv_at hl 1 rfl) ?_
  refine lv_iconst (v := 2) hx hb dX2_learnHand_1 (by decide) ?_
  refine x_callV (n := 1) (As := [.int 2]) (rest := []) F hP hD hS (g_takeNumber l D cy sk sv w t b n a0 f 2 c91 c92 (fun b => b = t) rfl (by omega) (by omega)) gX2_learnHand_X7_takeNumber rfl rfl (by decide +kernel) ⟨(Nat.le_of_ble_eq_true rfl), (Nat.le_of_ble_eq_true rfl)⟩ rfl hl.1 (Nat.le_of_ble_eq_true rfl) c91 rfl dX2_learnHand_2 rfl ⟨(Nat.le_of_ble_eq_true rfl), (Nat.le_of_ble_eq_true rfl)⟩ (fun v2 w3 hp1 H locs hP hD hS => ?_)
  obtain ⟨ax4, rx5, rfl, hz6, hz7, kq9, k8⟩ := hp1
  have k10 := kq9.2 _ _ c90 (fun q9 : lw = t => (wd_nk c90 c91 rfl) q9)
  have k11 := kq9.2 _ _ c92 (fun q9 : b = t => (wd_nk c92 c91 rfl) q9)
  have kp12 := kp0.tr kq9 (fun b9 hm q9 => (fun q9 => q9 ▸ s90) q9)
  refine W.eq (g2 := F0 m 5 ls [.int rx5]) rfl (W.widen (k := 0) (n := 0) (Nat.le_of_ble_eq_true rfl) (Nat.le_of_ble_eq_true rfl) ?_)
  refine lv_istore_n (lv' := [(2, .int rx5), (0, .ref lw), (1, .ref t)]) hx hb dX2_learnHand_5 rfl hl (by decide) rfl (fun ls hl => ?_)
  refine lv_iload_n hx hb dX2_learnHand_6 rfl (lv_at hl 0 rfl) ?_
  refine lv_if_ge (tgt := 26) hx hb dX2_learnHand_7 (by decide) (fun c_13 => ?_) (fun c_13 => ?_)
  · refine lv_aload_n hx hb dX2_learnHand_26 rfl (lv_at hl 1 rfl) ?_
    refine lv_iload_n hx hb dX2_learnHand_27 rfl (lv_at hl 0 rfl) ?_
    refine y_put (ref := "NoteHouse$Law") F hP hD hS k10 rfl (fun _ h => List.mem_cons_of_mem _ (List.mem_append_left _ (List.mem_append_right _ (h)))) tyX2_ok nmX2 1 (Nat.le_of_ble_eq_true rfl) (List.mem_cons_of_mem _ (List.mem_append_left _ (List.mem_append_left _ (List.mem_of_getElem? (i := 0) rfl)))) rfl rfl rfl rfl (Nat.le_of_ble_eq_true rfl) dX2_learnHand_28 (fun w14 ew15 H locs hP hD hS => ?_)
    have k16 : wd_at w14 lw (.inr (2, [.ref bl, .int rx5, .int tt])) := wd_at.ps ew15 k10
    have k17 := wd_at.pt ew15 k8 (wd_nk k8 k10 rfl)
    have k18 := wd_at.pt ew15 k11 (wd_nk k11 k10 rfl)
    have kp19 := kp12.put ew15 s91
    refine lv_iconst (v := 0) hx hb dX2_learnHand_31 (by decide) ?_
    exact y_ir K hP hD hS (Nat.le_of_ble_eq_true rfl) (Nat.le_of_ble_eq_true rfl) (ty := .int) rfl rfl dX2_learnHand_32 (⟨ax4, rx5, 0, rfl, by omega, by omega, kp19, k17, k16⟩)
  · refine lv_aload_n hx hb dX2_learnHand_10 rfl (lv_at hl 2 rfl) ?_
    refine lv_iload_n hx hb dX2_learnHand_11 rfl (lv_at hl 0 rfl) ?_
    refine lv_bipush (v := (-2)) hx hb dX2_learnHand_12 (by decide) ?_
    refine lv_icmp_ne (tgt := 21) hx hb dX2_learnHand_14 (by decide) (fun c_20 => ?_) (fun c_20 => ?_)
    · refine lv_iconst (v := 0) hx hb dX2_learnHand_21 (by decide) ?_
      refine x_callV (n := 1) (As := [.int 0]) (rest := []) F hP hD hS (g_faultHere l D cy sk sv w3 t b n ax4 0 f k8 k11 (fun b => b = t) rfl (by omega) (by omega)) gX2_learnHand_X7_faultHere rfl rfl (by decide +kernel) ⟨(Nat.le_of_ble_eq_true rfl), (Nat.le_of_ble_eq_true rfl)⟩ rfl hl.1 (Nat.le_of_ble_eq_true rfl) k8 rfl dX2_learnHand_22 rfl ⟨(Nat.le_of_ble_eq_true rfl), (Nat.le_of_ble_eq_true rfl)⟩ (fun v22 w23 hp21 H locs hP hD hS => ?_)
      obtain ⟨ax24, rfl, hz25, hz26, kq28, k27⟩ := hp21
      have k29 := kq28.2 _ _ k10 (fun q9 : lw = t => (wd_nk k10 k8 rfl) q9)
      have k30 := kq28.2 _ _ k11 (fun q9 : b = t => (wd_nk k11 k8 rfl) q9)
      have kp31 := kp12.tr kq28 (fun b9 hm q9 => (fun q9 => q9 ▸ s90) q9)
      refine W.eq (g2 := F0 m 25 ls [.int (nI (1 + 4 * ax24 + 0))]) rfl (W.widen (k := 0) (n := 0) (Nat.le_of_ble_eq_true rfl) (Nat.le_of_ble_eq_true rfl) ?_)
      exact y_ir K hP hD hS (Nat.le_of_ble_eq_true rfl) (Nat.le_of_ble_eq_true rfl) (ty := .int) rfl rfl dX2_learnHand_25 (⟨ax24, ff, nI (1 + 4 * ax24 + 0), rfl, by omega, by omega, kp31, k27, k29⟩)
    · refine lv_iconst (v := 1) hx hb dX2_learnHand_17 (by decide) ?_
      refine lv_goto (tgt := 22) hx hb dX2_learnHand_18 (by decide) ?_
      refine x_callV (n := 1) (As := [.int 1]) (rest := []) F hP hD hS (g_faultHere l D cy sk sv w3 t b n ax4 1 f k8 k11 (fun b => b = t) rfl (by omega) (by omega)) gX2_learnHand_X7_faultHere rfl rfl (by decide +kernel) ⟨(Nat.le_of_ble_eq_true rfl), (Nat.le_of_ble_eq_true rfl)⟩ rfl hl.1 (Nat.le_of_ble_eq_true rfl) k8 rfl dX2_learnHand_22 rfl ⟨(Nat.le_of_ble_eq_true rfl), (Nat.le_of_ble_eq_true rfl)⟩ (fun v33 w34 hp32 H locs hP hD hS => ?_)
      obtain ⟨ax35, rfl, hz36, hz37, kq39, k38⟩ := hp32
      have k40 := kq39.2 _ _ k10 (fun q9 : lw = t => (wd_nk k10 k8 rfl) q9)
      have k41 := kq39.2 _ _ k11 (fun q9 : b = t => (wd_nk k11 k8 rfl) q9)
      have kp42 := kp12.tr kq39 (fun b9 hm q9 => (fun q9 => q9 ▸ s90) q9)
      refine W.eq (g2 := F0 m 25 ls [.int (nI (1 + 4 * ax35 + 1))]) rfl (W.widen (k := 0) (n := 0) (Nat.le_of_ble_eq_true rfl) (Nat.le_of_ble_eq_true rfl) ?_)
      exact y_ir K hP hD hS (Nat.le_of_ble_eq_true rfl) (Nat.le_of_ble_eq_true rfl) (ty := .int) rfl rfl dX2_learnHand_25 (⟨ax35, ff, nI (1 + 4 * ax35 + 1), rfl, by omega, by omega, kp42, k38, k40⟩)
set_option maxHeartbeats 4000000 in
set_option maxRecDepth 100000 in
theorem g_learnBearer (l : Launch) (D : va_G) (cy : Nat → ClassId) (sk sv : Nat → Nat) (w : Wd) (lw bl : Nat) (t b n a0 cl : Nat) (ff tt : Int32) (f bf : Nat → Int32) (c90 : wd_at w lw (.inr (2, [.ref bl, .int ff, .int tt]))) (c91 : wd_at w bl (.inl (cy 2, 4, .inl bf))) (c92 : wd_at w t (.inr (7, [.ref b, .int (nI n), .int (nI a0)]))) (c93 : wd_at w b (.inl (cy 0, 300, .inl f)))  (S : Nat → Prop) (s90 : S t) (s91 : S bl) (hn : n ≤ 300) (ha : a0 ≤ n) (hcl : cl < 4) : Ct l D cy sk sv yX2_learnBearer wsX2_learnBearer ({ frames := 7, cells := 0, slots := 0, locals := 159 }) [.ref lw, .ref t, .int (nI cl)] w (fun v w1 => ∃ (a1 : Nat) (bf1 : Nat → Int32) (r1 : Int32), v = some (.int r1) ∧ (a0 ≤ a1) ∧ (a1 ≤ n) ∧ wd_kp S w w1 ∧ wd_at w1 t (.inr (7, [.ref b, .int (nI n), .int (nI a1)])) ∧ wd_at w1 bl (.inl (cy 2, 4, .inl bf1))) := by
  refine Ct.by (cc := cX2_learnBearer) (maxL := 4) (ret := (some .int)) (by decide +kernel) rfl (Nat.le_of_ble_eq_true rfl) ?_
  intro p e s m args below meth c A Q F hnm K ls hl
  have F : wd_Fx p s m args meth c cX2_learnBearer 4 wsX2_learnBearer RX2 D cy sk sv A := F
  have hl : lv_has ls 4 [(0, .ref lw), (1, .ref t), (2, .int (nI cl))] := hl
  have hx := F.1.1
  have hb := F.1.2.1
  have hown := F.1.2.2.2.1
  have hts := F.1.2.2.2.2
  intro H locs hP hD hS
  have kp0 : wd_kp S w w := wd_kp.rf
  refine lv_aload_n hx hb dX2_learnBearer_0 rfl (lv_at hl 1 rfl) ?_
  refine x_ldcS F (i := 5) (tx := "house town half") (by decide +kernel) dX2_learnBearer_1 ?_
  refine x_callV (n := 1) (As := [.ref (sk 5)]) (rest := []) F hP hD hS (g_takeWord l D cy sk sv w t b n a0 5 f c92 c93 (fun b => b = t) rfl (by omega) (by omega) (by omega)) gX2_learnBearer_X7_takeWord rfl rfl (by decide +kernel) ⟨(Nat.le_of_ble_eq_true rfl), (Nat.le_of_ble_eq_true rfl)⟩ rfl hl.1 (Nat.le_of_ble_eq_true rfl) c92 rfl dX2_learnBearer_3 rfl ⟨(Nat.le_of_ble_eq_true rfl), (Nat.le_of_ble_eq_true rfl)⟩ (fun v2 w3 hp1 H locs hP hD hS => ?_)
  obtain ⟨ax4, rx5, rfl, hz6, hz7, hz8, kq10, k9⟩ := hp1
  have k11 := kq10.2 _ _ c90 (fun q9 : lw = t => (wd_nk c90 c92 rfl) q9)
  have k12 := kq10.2 _ _ c91 (fun q9 : bl = t => (wd_nk c91 c92 rfl) q9)
  have k13 := kq10.2 _ _ c93 (fun q9 : b = t => (wd_nk c93 c92 rfl) q9)
  have kp14 := kp0.tr kq10 (fun b9 hm q9 => (fun q9 => q9 ▸ s90) q9)
  refine W.eq (g2 := F0 m 6 ls [.int rx5]) rfl (W.widen (k := 0) (n := 0) (Nat.le_of_ble_eq_true rfl) (Nat.le_of_ble_eq_true rfl) ?_)
  refine lv_istore_n (lv' := [(3, .int rx5), (0, .ref lw), (1, .ref t), (2, .int (nI cl))]) hx hb dX2_learnBearer_6 rfl hl (by decide) rfl (fun ls hl => ?_)
  refine lv_iload_n hx hb dX2_learnBearer_7 rfl (lv_at hl 0 rfl) ?_
  refine lv_iconst (v := (-1)) hx hb dX2_learnBearer_8 (by decide) ?_
  refine lv_icmp_ne (tgt := 18) hx hb dX2_learnBearer_9 (by decide) (fun c_15 => ?_) (fun c_15 => ?_)
  · refine lv_aload_n hx hb dX2_learnBearer_18 rfl (lv_at hl 1 rfl) ?_
    refine x_get (ref := "NoteHouse$Law") F hP k11 rfl (fun _ h => List.mem_cons_of_mem _ (List.mem_append_left _ (List.mem_append_right _ (h)))) 0 (Nat.le_of_ble_eq_true rfl) (List.mem_cons_of_mem _ (List.mem_append_left _ (List.mem_append_left _ (List.mem_append_left _ (List.mem_of_getElem? (i := 0) rfl))))) rfl rfl dX2_learnBearer_19 ?_
    refine lv_iload_n hx hb dX2_learnBearer_22 rfl (lv_at hl 3 rfl) ?_
    refine lv_iload_n hx hb dX2_learnBearer_23 rfl (lv_at hl 0 rfl) ?_
    refine y_iast F hP hD hS k12 (vp_in_nI (n := cl) (N := 4) (by omega) (by decide)) dX2_learnBearer_24 (fun w16 ew17 H locs hP hD hS => ?_)
    have k18 := wd_at.pt ew17 k11 (wd_nk k11 k12 rfl)
    have k19 : wd_at w16 bl (.inl (cy 2, 4, .inl (upd bf (nI cl).toNatClampNeg rx5))) := wd_at.ps ew17 k12
    have k20 := wd_at.pt ew17 k9 (wd_nk k9 k12 rfl)
    have k21 := wd_at.pt ew17 k13 (wd_nk k13 k12 rfl)
    have kp22 := kp14.put ew17 s91
    refine lv_iconst (v := 0) hx hb dX2_learnBearer_25 (by decide) ?_
    exact y_ir K hP hD hS (Nat.le_of_ble_eq_true rfl) (Nat.le_of_ble_eq_true rfl) (ty := .int) rfl rfl dX2_learnBearer_26 (⟨ax4, upd bf (nI cl).toNatClampNeg rx5, 0, rfl, by omega, by omega, kp22, k20, k19⟩)
  · refine lv_aload_n hx hb dX2_learnBearer_12 rfl (lv_at hl 2 rfl) ?_
    refine lv_iconst (v := 0) hx hb dX2_learnBearer_13 (by decide) ?_
    refine x_callV (n := 1) (As := [.int 0]) (rest := []) F hP hD hS (g_faultHere l D cy sk sv w3 t b n ax4 0 f k9 k13 (fun b => b = t) rfl (by omega) (by omega)) gX2_learnBearer_X7_faultHere rfl rfl (by decide +kernel) ⟨(Nat.le_of_ble_eq_true rfl), (Nat.le_of_ble_eq_true rfl)⟩ rfl hl.1 (Nat.le_of_ble_eq_true rfl) k9 rfl dX2_learnBearer_14 rfl ⟨(Nat.le_of_ble_eq_true rfl), (Nat.le_of_ble_eq_true rfl)⟩ (fun v24 w25 hp23 H locs hP hD hS => ?_)
    obtain ⟨ax26, rfl, hz27, hz28, kq30, k29⟩ := hp23
    have k31 := kq30.2 _ _ k11 (fun q9 : lw = t => (wd_nk k11 k9 rfl) q9)
    have k32 := kq30.2 _ _ k12 (fun q9 : bl = t => (wd_nk k12 k9 rfl) q9)
    have k33 := kq30.2 _ _ k13 (fun q9 : b = t => (wd_nk k13 k9 rfl) q9)
    have kp34 := kp14.tr kq30 (fun b9 hm q9 => (fun q9 => q9 ▸ s90) q9)
    refine W.eq (g2 := F0 m 17 ls [.int (nI (1 + 4 * ax26 + 0))]) rfl (W.widen (k := 0) (n := 0) (Nat.le_of_ble_eq_true rfl) (Nat.le_of_ble_eq_true rfl) ?_)
    exact y_ir K hP hD hS (Nat.le_of_ble_eq_true rfl) (Nat.le_of_ble_eq_true rfl) (ty := .int) rfl rfl dX2_learnBearer_17 (⟨ax26, bf, nI (1 + 4 * ax26 + 0), rfl, by omega, by omega, kp34, k29, k32⟩)
set_option maxHeartbeats 4000000 in
set_option maxRecDepth 100000 in
theorem g_learnClause (l : Launch) (D : va_G) (cy : Nat → ClassId) (sk sv : Nat → Nat) (w : Wd) (lw bl : Nat) (t b n a0 : Nat) (ff tt : Int32) (f bf : Nat → Int32) (c90 : wd_at w lw (.inr (2, [.ref bl, .int ff, .int tt]))) (c91 : wd_at w bl (.inl (cy 2, 4, .inl bf))) (c92 : wd_at w t (.inr (7, [.ref b, .int (nI n), .int (nI a0)]))) (c93 : wd_at w b (.inl (cy 0, 300, .inl f)))  (S : Nat → Prop) (s90 : S t) (s91 : S lw) (s92 : S bl) (hn : n ≤ 300) (ha : a0 ≤ n) : Ct l D cy sk sv yX2_learnClause wsX2_learnClause ({ frames := 8, cells := 0, slots := 0, locals := 182 }) [.ref lw, .ref t] w (fun v w1 => ∃ (a1 : Nat) (ff1 : Int32) (tt1 : Int32) (bf1 : Nat → Int32) (r1 : Int32), v = some (.int r1) ∧ (a0 ≤ a1) ∧ (a1 ≤ n) ∧ wd_kp S w w1 ∧ wd_at w1 t (.inr (7, [.ref b, .int (nI n), .int (nI a1)])) ∧ wd_at w1 lw (.inr (2, [.ref bl, .int ff1, .int tt1])) ∧ wd_at w1 bl (.inl (cy 2, 4, .inl bf1))) := by
  refine Ct.by (cc := cX2_learnClause) (maxL := 4) (ret := (some .int)) (by decide +kernel) rfl (Nat.le_of_ble_eq_true rfl) ?_
  intro p e s m args below meth c A Q F hnm K ls hl
  have F : wd_Fx p s m args meth c cX2_learnClause 4 wsX2_learnClause RX2 D cy sk sv A := F
  have hl : lv_has ls 4 [(0, .ref lw), (1, .ref t)] := hl
  have hx := F.1.1
  have hb := F.1.2.1
  have hown := F.1.2.2.2.1
  have hts := F.1.2.2.2.2
  intro H locs hP hD hS
  have kp0 : wd_kp S w w := wd_kp.rf
  refine lv_aload_n hx hb dX2_learnClause_0 rfl (lv_at hl 1 rfl) ?_
  refine x_callV (n := 0) (As := []) (rest := []) F hP hD hS (g_nextPlace l D cy sk sv w t b n a0 f c92 c93 (fun b => b = t) rfl (by omega) (by omega)) gX2_learnClause_X7_nextPlace rfl rfl (by decide +kernel) ⟨(Nat.le_of_ble_eq_true rfl), (Nat.le_of_ble_eq_true rfl)⟩ rfl hl.1 (Nat.le_of_ble_eq_true rfl) c92 rfl dX2_learnClause_1 rfl ⟨(Nat.le_of_ble_eq_true rfl), (Nat.le_of_ble_eq_true rfl)⟩ (fun v2 w3 hp1 H locs hP hD hS => ?_)
  obtain ⟨ax4, rfl, hz5, hz6, kq8, k7⟩ := hp1
  have k9 := kq8.2 _ _ c90 (fun q9 : lw = t => (wd_nk c90 c92 rfl) q9)
  have k10 := kq8.2 _ _ c91 (fun q9 : bl = t => (wd_nk c91 c92 rfl) q9)
  have k11 := kq8.2 _ _ c93 (fun q9 : b = t => (wd_nk c93 c92 rfl) q9)
  have kp12 := kp0.tr kq8 (fun b9 hm q9 => (fun q9 => q9 ▸ s90) q9)
  refine W.eq (g2 := F0 m 4 ls [.int (nI ax4)]) rfl (W.widen (k := 0) (n := 0) (Nat.le_of_ble_eq_true rfl) (Nat.le_of_ble_eq_true rfl) ?_)
  refine lv_istore_n (lv' := [(2, .int (nI ax4)), (0, .ref lw), (1, .ref t)]) hx hb dX2_learnClause_4 rfl hl (by decide) rfl (fun ls hl => ?_)
  refine lv_aload_n hx hb dX2_learnClause_5 rfl (lv_at hl 2 rfl) ?_
  refine x_ldcS F (i := 4) (tx := "stopped forged twice over hand") (by decide +kernel) dX2_learnClause_6 ?_
  refine x_callV (n := 1) (As := [.ref (sk 4)]) (rest := []) F hP hD hS (g_takeWord l D cy sk sv w3 t b n ax4 4 f k7 k11 (fun b => b = t) rfl (by omega) (by omega) (by omega)) gX2_learnClause_X7_takeWord rfl rfl (by decide +kernel) ⟨(Nat.le_of_ble_eq_true rfl), (Nat.le_of_ble_eq_true rfl)⟩ rfl hl.1 (Nat.le_of_ble_eq_true rfl) k7 rfl dX2_learnClause_8 rfl ⟨(Nat.le_of_ble_eq_true rfl), (Nat.le_of_ble_eq_true rfl)⟩ (fun v14 w15 hp13 H locs hP hD hS => ?_)
  obtain ⟨ax16, rx17, rfl, hz18, hz19, hz20, kq22, k21⟩ := hp13
  have k23 := kq22.2 _ _ k9 (fun q9 : lw = t => (wd_nk k9 k7 rfl) q9)
  have k24 := kq22.2 _ _ k10 (fun q9 : bl = t => (wd_nk k10 k7 rfl) q9)
  have k25 := kq22.2 _ _ k11 (fun q9 : b = t => (wd_nk k11 k7 rfl) q9)
  have kp26 := kp12.tr kq22 (fun b9 hm q9 => (fun q9 => q9 ▸ s90) q9)
  refine W.eq (g2 := F0 m 11 ls [.int rx17]) rfl (W.widen (k := 0) (n := 0) (Nat.le_of_ble_eq_true rfl) (Nat.le_of_ble_eq_true rfl) ?_)
  refine lv_istore_n (lv' := [(3, .int rx17), (2, .int (nI ax4)), (0, .ref lw), (1, .ref t)]) hx hb dX2_learnClause_11 rfl hl (by decide) rfl (fun ls hl => ?_)
  refine lv_iload_n hx hb dX2_learnClause_12 rfl (lv_at hl 0 rfl) ?_
  refine lv_iconst (v := (-1)) hx hb dX2_learnClause_13 (by decide) ?_
  refine lv_icmp_ne (tgt := 23) hx hb dX2_learnClause_14 (by decide) (fun c_27 => ?_) (fun c_27 => ?_)
  · obtain ⟨uu, huu, euu⟩ := (hz20).resolve_left c_27
    have hb4 := nb4
    subst euu
    refine lv_aload_n hx hb dX2_learnClause_23 rfl (lv_at hl 2 rfl) ?_
    refine x_get (ref := "NoteHouse$Law") F hP k23 rfl (fun _ h => List.mem_cons_of_mem _ (List.mem_append_left _ (List.mem_append_right _ (h)))) 2 (Nat.le_of_ble_eq_true rfl) (List.mem_cons_of_mem _ (List.mem_append_left _ (List.mem_append_left _ (List.mem_append_left _ (List.mem_of_getElem? (i := 0) rfl))))) rfl rfl dX2_learnClause_24 ?_
    refine lv_iconst (v := 1) hx hb dX2_learnClause_27 (by decide) ?_
    refine lv_iload_n hx hb dX2_learnClause_28 rfl (lv_at hl 0 rfl) ?_
    refine lv_ishl hx hb dX2_learnClause_29 ?_
    refine lv_iand hx hb dX2_learnClause_30 ?_
    refine lv_if_eq (tgt := 40) hx hb dX2_learnClause_31 (by decide) (fun c_28 => ?_) (fun c_28 => ?_)
    · refine lv_aload_n hx hb dX2_learnClause_40 rfl (lv_at hl 2 rfl) ?_
      refine lv_dup hx hb dX2_learnClause_41 rfl ?_
      refine x_get (ref := "NoteHouse$Law") F hP k23 rfl (fun _ h => List.mem_cons_of_mem _ (List.mem_append_left _ (List.mem_append_right _ (h)))) 2 (Nat.le_of_ble_eq_true rfl) (List.mem_cons_of_mem _ (List.mem_append_left _ (List.mem_append_left _ (List.mem_append_left _ (List.mem_of_getElem? (i := 0) rfl))))) rfl rfl dX2_learnClause_42 ?_
      refine lv_iconst (v := 1) hx hb dX2_learnClause_45 (by decide) ?_
      refine lv_iload_n hx hb dX2_learnClause_46 rfl (lv_at hl 0 rfl) ?_
      refine lv_ishl hx hb dX2_learnClause_47 ?_
      refine lv_ior hx hb dX2_learnClause_48 ?_
      refine y_put (ref := "NoteHouse$Law") F hP hD hS k23 rfl (fun _ h => List.mem_cons_of_mem _ (List.mem_append_left _ (List.mem_append_right _ (h)))) tyX2_ok nmX2 2 (Nat.le_of_ble_eq_true rfl) (List.mem_cons_of_mem _ (List.mem_append_left _ (List.mem_append_left _ (List.mem_append_left _ (List.mem_of_getElem? (i := 0) rfl))))) rfl rfl rfl rfl (Nat.le_of_ble_eq_true rfl) dX2_learnClause_49 (fun w29 ew30 H locs hP hD hS => ?_)
      have k31 : wd_at w29 lw (.inr (2, [.ref bl, .int ff, .int (tt ||| (1 <<< ((nI uu) &&& 31)))])) := wd_at.ps ew30 k23
      have k32 := wd_at.pt ew30 k24 (wd_nk k24 k23 rfl)
      have k33 := wd_at.pt ew30 k21 (wd_nk k21 k23 rfl)
      have k34 := wd_at.pt ew30 k25 (wd_nk k25 k23 rfl)
      have kp35 := kp26.put ew30 s91
      refine lv_iload_n hx hb dX2_learnClause_52 rfl (lv_at hl 0 rfl) ?_
      refine lv_iconst (v := 4) hx hb dX2_learnClause_53 (by decide) ?_
      refine lv_icmp_ne (tgt := 65) hx hb dX2_learnClause_54 (by decide) (fun c_36 => ?_) (fun c_36 => ?_)
      · have hu4 : uu < 4 := by have h9 : ¬ uu = 4 := fun q => c_36 (by rw [q]; rfl); omega
        refine lv_aload_n hx hb dX2_learnClause_65 rfl (lv_at hl 2 rfl) ?_
        refine lv_aload_n hx hb dX2_learnClause_66 rfl (lv_at hl 3 rfl) ?_
        refine lv_iload_n hx hb dX2_learnClause_67 rfl (lv_at hl 0 rfl) ?_
        refine x_callV (n := 2) (As := [.ref t, .int (nI uu)]) (rest := []) F hP hD hS (g_learnBearer l D cy sk sv w29 lw bl t b n ax16 uu ff (tt ||| (1 <<< ((nI uu) &&& 31))) f bf k31 k32 k33 k34 (fun b => b = t ∨ b = bl) (Or.inl rfl) (Or.inr rfl) (by omega) (by omega) (by omega)) gX2_learnClause_X2_learnBearer rfl rfl (by decide +kernel) ⟨(Nat.le_of_ble_eq_true rfl), (Nat.le_of_ble_eq_true rfl)⟩ rfl hl.1 (Nat.le_of_ble_eq_true rfl) k31 rfl dX2_learnClause_68 rfl ⟨(Nat.le_of_ble_eq_true rfl), (Nat.le_of_ble_eq_true rfl)⟩ (fun v38 w39 hp37 H locs hP hD hS => ?_)
        obtain ⟨ax40, bfx41, rx42, rfl, hz43, hz44, kq47, k45, k46⟩ := hp37
        have k48 := kq47.2 _ _ k31 (fun q9 => Or.elim q9 (wd_nk k31 k33 rfl) (fun q9 : lw = bl => (wd_nk k31 k32 rfl) q9))
        have k49 := kq47.2 _ _ k34 (fun q9 => Or.elim q9 (wd_nk k34 k33 rfl) (fun q9 : b = bl => (wd_nk k34 k32 rfl) q9))
        have kp50 := kp35.tr kq47 (fun b9 hm q9 => (fun q9 => Or.elim q9 (fun q9 => q9 ▸ s90) (fun q9 => q9 ▸ s92)) q9)
        refine W.eq (g2 := F0 m 71 ls [.int rx42]) rfl (W.widen (k := 0) (n := 0) (Nat.le_of_ble_eq_true rfl) (Nat.le_of_ble_eq_true rfl) ?_)
        exact y_ir K hP hD hS (Nat.le_of_ble_eq_true rfl) (Nat.le_of_ble_eq_true rfl) (ty := .int) rfl rfl dX2_learnClause_71 (⟨ax40, ff, tt ||| (1 <<< ((nI uu) &&& 31)), bfx41, rx42, rfl, by omega, by omega, kp50, k45, k48, k46⟩)
      · refine lv_aload_n hx hb dX2_learnClause_57 rfl (lv_at hl 2 rfl) ?_
        refine lv_aload_n hx hb dX2_learnClause_58 rfl (lv_at hl 3 rfl) ?_
        refine x_callV (n := 1) (As := [.ref t]) (rest := []) F hP hD hS (g_learnHand l D cy sk sv w29 lw bl t b n ax16 ff (tt ||| (1 <<< ((nI uu) &&& 31))) f k31 k33 k34 (fun b => b = t ∨ b = lw) (Or.inl rfl) (Or.inr rfl) (by omega) (by omega)) gX2_learnClause_X2_learnHand rfl rfl (by decide +kernel) ⟨(Nat.le_of_ble_eq_true rfl), (Nat.le_of_ble_eq_true rfl)⟩ rfl hl.1 (Nat.le_of_ble_eq_true rfl) k31 rfl dX2_learnClause_59 rfl ⟨(Nat.le_of_ble_eq_true rfl), (Nat.le_of_ble_eq_true rfl)⟩ (fun v52 w53 hp51 H locs hP hD hS => ?_)
        obtain ⟨ax54, ffx55, rx56, rfl, hz57, hz58, kq61, k59, k60⟩ := hp51
        have k62 := kq61.2 _ _ k32 (fun q9 => Or.elim q9 (wd_nk k32 k33 rfl) (fun q9 : bl = lw => (wd_nk k32 k31 rfl) q9))
        have k63 := kq61.2 _ _ k34 (fun q9 => Or.elim q9 (wd_nk k34 k33 rfl) (fun q9 : b = lw => (wd_nk k34 k31 rfl) q9))
        have kp64 := kp35.tr kq61 (fun b9 hm q9 => (fun q9 => Or.elim q9 (fun q9 => q9 ▸ s90) (fun q9 => q9 ▸ s91)) q9)
        refine W.eq (g2 := F0 m 62 ls [.int rx56]) rfl (W.widen (k := 0) (n := 0) (Nat.le_of_ble_eq_true rfl) (Nat.le_of_ble_eq_true rfl) ?_)
        refine lv_goto (tgt := 71) hx hb dX2_learnClause_62 (by decide) ?_
        exact y_ir K hP hD hS (Nat.le_of_ble_eq_true rfl) (Nat.le_of_ble_eq_true rfl) (ty := .int) rfl rfl dX2_learnClause_71 (⟨ax54, ffx55, (tt ||| (1 <<< ((nI uu) &&& 31))), bf, rx56, rfl, by omega, by omega, kp64, k59, k60, k62⟩)
    · refine lv_iload_n hx hb dX2_learnClause_34 rfl (lv_at hl 1 rfl) ?_
      refine lv_iconst (v := 2) hx hb dX2_learnClause_35 (by decide) ?_
      refine x_callSN (host := RX10) (n := 2) (As := [.int (nI ax4), .int 2]) (rest := []) F hP hD hS (g_faultAt l D cy sk sv w15 ax4 2) gX2_learnClause_X10_faultAt_n30 rfl (by decide +kernel) (List.mem_cons_of_mem _ (List.mem_append_left _ (List.mem_append_left _ (List.mem_append_left _ (List.mem_of_getElem? (i := 19) rfl))))) (List.mem_cons_of_mem _ (List.mem_append_left _ (List.mem_append_left _ (List.mem_append_right _ (List.mem_append_right _ (List.mem_append_right _ (List.mem_append_left _ (List.mem_of_getElem? (i := 6) rfl)))))))) (by decide +kernel) ⟨(Nat.le_of_ble_eq_true rfl), (Nat.le_of_ble_eq_true rfl)⟩ rfl hl.1 (Nat.le_of_ble_eq_true rfl) dX2_learnClause_36 rfl ⟨(Nat.le_of_ble_eq_true rfl), (Nat.le_of_ble_eq_true rfl)⟩ (fun v66 w67 hp65 H locs hP hD hS => ?_)
      obtain ⟨rfl, rfl⟩ := hp65
      refine W.eq (g2 := F0 m 39 ls [.int (nI (1 + 4 * ax4 + 2))]) rfl (W.widen (k := 0) (n := 0) (Nat.le_of_ble_eq_true rfl) (Nat.le_of_ble_eq_true rfl) ?_)
      exact y_ir K hP hD hS (Nat.le_of_ble_eq_true rfl) (Nat.le_of_ble_eq_true rfl) (ty := .int) rfl rfl dX2_learnClause_39 (⟨ax16, ff, tt, bf, nI (1 + 4 * ax4 + 2), rfl, by omega, by omega, kp26, k21, k23, k24⟩)
  · refine lv_iload_n hx hb dX2_learnClause_17 rfl (lv_at hl 1 rfl) ?_
    refine lv_iconst (v := 0) hx hb dX2_learnClause_18 (by decide) ?_
    refine x_callSN (host := RX10) (n := 2) (As := [.int (nI ax4), .int 0]) (rest := []) F hP hD hS (g_faultAt l D cy sk sv w15 ax4 0) gX2_learnClause_X10_faultAt_n30 rfl (by decide +kernel) (List.mem_cons_of_mem _ (List.mem_append_left _ (List.mem_append_left _ (List.mem_append_left _ (List.mem_of_getElem? (i := 19) rfl))))) (List.mem_cons_of_mem _ (List.mem_append_left _ (List.mem_append_left _ (List.mem_append_right _ (List.mem_append_right _ (List.mem_append_right _ (List.mem_append_left _ (List.mem_of_getElem? (i := 6) rfl)))))))) (by decide +kernel) ⟨(Nat.le_of_ble_eq_true rfl), (Nat.le_of_ble_eq_true rfl)⟩ rfl hl.1 (Nat.le_of_ble_eq_true rfl) dX2_learnClause_19 rfl ⟨(Nat.le_of_ble_eq_true rfl), (Nat.le_of_ble_eq_true rfl)⟩ (fun v69 w70 hp68 H locs hP hD hS => ?_)
    obtain ⟨rfl, rfl⟩ := hp68
    refine W.eq (g2 := F0 m 22 ls [.int (nI (1 + 4 * ax4 + 0))]) rfl (W.widen (k := 0) (n := 0) (Nat.le_of_ble_eq_true rfl) (Nat.le_of_ble_eq_true rfl) ?_)
    exact y_ir K hP hD hS (Nat.le_of_ble_eq_true rfl) (Nat.le_of_ble_eq_true rfl) (ty := .int) rfl rfl dX2_learnClause_22 (⟨ax16, ff, tt, bf, nI (1 + 4 * ax4 + 0), rfl, by omega, by omega, kp26, k21, k23, k24⟩)
set_option maxHeartbeats 4000000 in
set_option maxRecDepth 100000 in
theorem g_lawLearn (l : Launch) (D : va_G) (cy : Nat → ClassId) (sk sv : Nat → Nat) (w : Wd) (lw bl : Nat) (t b n : Nat) (ff tt a0 : Int32) (f bf : Nat → Int32) (c90 : wd_at w lw (.inr (2, [.ref bl, .int ff, .int tt]))) (c91 : wd_at w bl (.inl (cy 2, 4, .inl bf))) (c92 : wd_at w t (.inr (7, [.ref b, .int (nI n), .int a0]))) (c93 : wd_at w b (.inl (cy 0, 300, .inl f)))  (S : Nat → Prop) (s90 : S t) (s91 : S lw) (s92 : S bl) (hn : n ≤ 300) : Ct l D cy sk sv yX2_learn wsX2_learn ({ frames := 9, cells := 0, slots := 0, locals := 205 }) [.ref lw, .ref t] w (fun v w1 => ∃ (a1 : Int32) (ff1 : Int32) (tt1 : Int32) (bf1 : Nat → Int32) (r1 : Int32), v = some (.int r1) ∧ wd_kp S w w1 ∧ wd_at w1 t (.inr (7, [.ref b, .int (nI n), .int a1])) ∧ wd_at w1 lw (.inr (2, [.ref bl, .int ff1, .int tt1])) ∧ wd_at w1 bl (.inl (cy 2, 4, .inl bf1))) := by
  refine Ct.by (cc := cX2_learn) (maxL := 4) (ret := (some .int)) (by decide +kernel) rfl (Nat.le_of_ble_eq_true rfl) ?_
  intro p e s m args below meth c A Q F hnm K ls hl
  have F : wd_Fx p s m args meth c cX2_learn 4 wsX2_learn RX2 D cy sk sv A := F
  have hl : lv_has ls 4 [(0, .ref lw), (1, .ref t)] := hl
  have hx := F.1.1
  have hb := F.1.2.1
  have hown := F.1.2.2.2.1
  have hts := F.1.2.2.2.2
  intro H locs hP hD hS
  have kp0 : wd_kp S w w := wd_kp.rf
  refine lv_aload_n hx hb dX2_learn_0 rfl (lv_at hl 0 rfl) ?_
  refine x_callV (n := 0) (As := []) (rest := []) F hP hD hS (g_forget l D cy sk sv w lw bl bf ff tt c90 c91 (fun b => b = lw ∨ b = bl) (Or.inl rfl) (Or.inr rfl)) gX2_learn_X2_forget rfl rfl (by decide +kernel) ⟨(Nat.le_of_ble_eq_true rfl), (Nat.le_of_ble_eq_true rfl)⟩ rfl hl.1 (Nat.le_of_ble_eq_true rfl) c90 rfl dX2_learn_1 rfl ⟨(Nat.le_of_ble_eq_true rfl), (Nat.le_of_ble_eq_true rfl)⟩ (fun v2 w3 hp1 H locs hP hD hS => ?_)
  obtain ⟨bfx4, rfl, kq7, k5, k6⟩ := hp1
  have k8 := kq7.2 _ _ c92 (fun q9 => Or.elim q9 (wd_nk c92 c90 rfl) (fun q9 : t = bl => (wd_nk c92 c91 rfl) q9))
  have k9 := kq7.2 _ _ c93 (fun q9 => Or.elim q9 (wd_nk c93 c90 rfl) (fun q9 : b = bl => (wd_nk c93 c91 rfl) q9))
  have kp10 := kp0.tr kq7 (fun b9 hm q9 => (fun q9 => Or.elim q9 (fun q9 => q9 ▸ s91) (fun q9 => q9 ▸ s92)) q9)
  refine W.eq (g2 := F0 m 4 ls []) rfl (W.widen (k := 0) (n := 0) (Nat.le_of_ble_eq_true rfl) (Nat.le_of_ble_eq_true rfl) ?_)
  refine lv_aload_n hx hb dX2_learn_4 rfl (lv_at hl 1 rfl) ?_
  refine x_get (ref := "NoteHouse$Tape") F hP k8 rfl (fun _ h => List.mem_cons_of_mem _ (List.mem_append_left _ (List.mem_append_right _ (h)))) 1 (Nat.le_of_ble_eq_true rfl) (List.mem_cons_of_mem _ (List.mem_append_left _ (List.mem_append_left _ (List.mem_append_left _ (List.mem_of_getElem? (i := 0) rfl))))) rfl rfl dX2_learn_5 ?_
  refine lv_sipush (v := 200) hx hb dX2_learn_8 (by decide) ?_
  refine lv_icmp_le (tgt := 22) hx hb dX2_learn_11 (by decide) (fun c_11 => ?_) (fun c_11 => ?_)
  · refine lv_aload_n hx hb dX2_learn_22 rfl (lv_at hl 1 rfl) ?_
    refine x_callV (n := 0) (As := []) (rest := []) F hP hD hS (g_rewind l D cy sk sv w3 t b n a0 k8 (fun b => b = t) rfl) gX2_learn_X7_rewind rfl rfl (by decide +kernel) ⟨(Nat.le_of_ble_eq_true rfl), (Nat.le_of_ble_eq_true rfl)⟩ rfl hl.1 (Nat.le_of_ble_eq_true rfl) k8 rfl dX2_learn_23 rfl ⟨(Nat.le_of_ble_eq_true rfl), (Nat.le_of_ble_eq_true rfl)⟩ (fun v13 w14 hp12 H locs hP hD hS => ?_)
    obtain ⟨rfl, kq16, k15⟩ := hp12
    have k17 := kq16.2 _ _ k5 (fun q9 : lw = t => (wd_nk k5 k8 rfl) q9)
    have k18 := kq16.2 _ _ k6 (fun q9 : bl = t => (wd_nk k6 k8 rfl) q9)
    have k19 := kq16.2 _ _ k9 (fun q9 : b = t => (wd_nk k9 k8 rfl) q9)
    have kp20 := kp10.tr kq16 (fun b9 hm q9 => (fun q9 => q9 ▸ s90) q9)
    refine W.eq (g2 := F0 m 26 ls []) rfl (W.widen (k := 0) (n := 0) (Nat.le_of_ble_eq_true rfl) (Nat.le_of_ble_eq_true rfl) ?_)
    refine lv_aload_n hx hb dX2_learn_26 rfl (lv_at hl 1 rfl) ?_
    refine x_callV (n := 0) (As := []) (rest := []) F hP hD hS (g_isOver l D cy sk sv w14 t b n 0 f k15 k19 (fun b => b = t) rfl (by omega) (by omega)) gX2_learn_X7_isOver rfl rfl (by decide +kernel) ⟨(Nat.le_of_ble_eq_true rfl), (Nat.le_of_ble_eq_true rfl)⟩ rfl hl.1 (Nat.le_of_ble_eq_true rfl) k15 rfl dX2_learn_27 rfl ⟨(Nat.le_of_ble_eq_true rfl), (Nat.le_of_ble_eq_true rfl)⟩ (fun v22 w23 hp21 H locs hP hD hS => ?_)
    obtain ⟨ax24, rx25, rfl, hz26, hz27, hz28, kq30, k29⟩ := hp21
    have k31 := kq30.2 _ _ k17 (fun q9 : lw = t => (wd_nk k17 k15 rfl) q9)
    have k32 := kq30.2 _ _ k18 (fun q9 : bl = t => (wd_nk k18 k15 rfl) q9)
    have k33 := kq30.2 _ _ k19 (fun q9 : b = t => (wd_nk k19 k15 rfl) q9)
    have kp34 := kp20.tr kq30 (fun b9 hm q9 => (fun q9 => q9 ▸ s90) q9)
    refine W.eq (g2 := F0 m 30 ls [.int rx25]) rfl (W.widen (k := 0) (n := 0) (Nat.le_of_ble_eq_true rfl) (Nat.le_of_ble_eq_true rfl) ?_)
    refine lv_if_eq (tgt := 35) hx hb dX2_learn_30 (by decide) (fun c_35 => ?_) (fun c_35 => ?_)
    · refine lv_iconst (v := 0) hx hb dX2_learn_35 (by decide) ?_
      refine lv_istore_n (lv' := [(2, .int 0), (0, .ref lw), (1, .ref t)]) hx hb dX2_learn_36 rfl hl (by decide) rfl (fun ls hl => ?_)
      have lp37 : ∀ (N : Nat) (k : Nat) (a2 : Nat) (ff2 : Int32) (tt2 : Int32) (bf2 : Nat → Int32) (w36 : Wd), (k + N = 6) → (a2 ≤ n) → (wd_at w36 lw (.inr (2, [.ref bl, .int ff2, .int tt2]))) → (wd_at w36 bl (.inl (cy 2, 4, .inl bf2))) → (wd_at w36 t (.inr (7, [.ref b, .int (nI n), .int (nI a2)]))) → (wd_at w36 b (.inl (cy 0, 300, .inl f))) → (wd_kp S w w36) → ∀ (ls : Array Slot), lv_has ls 4 [(0, .ref lw), (1, .ref t), (2, .int (nI k))] → Wv p l e ({ frames := 9, cells := 0, slots := 0, locals := 205 }) s m args below meth c D A (0) (0) Q w36 (F0 m 37 ls []) := by
        intro N
        induction N with
        | zero =>
          intro k a2 ff2 tt2 bf2 w36 hN37 ha2 k37 k38 k39 k40 kp41 ls hl H locs hP hD hS
          refine lv_iload_n hx hb dX2_learn_37 rfl (lv_at hl 2 rfl) ?_
          refine lv_iconst (v := 5) hx hb dX2_learn_38 (by decide) ?_
          refine lv_icmp_gt (tgt := 84) hx hb dX2_learn_39 (by decide) (fun c_42 => ?_) (fun c_42 => absurd (nI_lt (a := 5) (b := k) (by omega) (by omega)) c_42)
          refine lv_aload_n hx hb dX2_learn_84 rfl (lv_at hl 1 rfl) ?_
          refine lv_iconst (v := 2) hx hb dX2_learn_85 (by decide) ?_
          refine x_callV (n := 1) (As := [.int 2]) (rest := []) F hP hD hS (g_faultHere l D cy sk sv w36 t b n a2 2 f k39 k40 (fun b => b = t) rfl (by omega) (by omega)) gX2_learn_X7_faultHere rfl rfl (by decide +kernel) ⟨(Nat.le_of_ble_eq_true rfl), (Nat.le_of_ble_eq_true rfl)⟩ rfl hl.1 (Nat.le_of_ble_eq_true rfl) k39 rfl dX2_learn_86 rfl ⟨(Nat.le_of_ble_eq_true rfl), (Nat.le_of_ble_eq_true rfl)⟩ (fun v44 w45 hp43 H locs hP hD hS => ?_)
          obtain ⟨ax46, rfl, hz47, hz48, kq50, k49⟩ := hp43
          have k51 := kq50.2 _ _ k37 (fun q9 : lw = t => (wd_nk k37 k39 rfl) q9)
          have k52 := kq50.2 _ _ k38 (fun q9 : bl = t => (wd_nk k38 k39 rfl) q9)
          have k53 := kq50.2 _ _ k40 (fun q9 : b = t => (wd_nk k40 k39 rfl) q9)
          have kp54 := kp41.tr kq50 (fun b9 hm q9 => (fun q9 => q9 ▸ s90) q9)
          refine W.eq (g2 := F0 m 89 ls [.int (nI (1 + 4 * ax46 + 2))]) rfl (W.widen (k := 0) (n := 0) (Nat.le_of_ble_eq_true rfl) (Nat.le_of_ble_eq_true rfl) ?_)
          exact y_ir K hP hD hS (Nat.le_of_ble_eq_true rfl) (Nat.le_of_ble_eq_true rfl) (ty := .int) rfl rfl dX2_learn_89 (⟨nI ax46, ff2, tt2, bf2, nI (1 + 4 * ax46 + 2), rfl, kp54, k49, k51, k52⟩)
        | succ N ih37 =>
          intro k a2 ff2 tt2 bf2 w36 hN37 ha2 k37 k38 k39 k40 kp41 ls hl H locs hP hD hS
          refine lv_iload_n hx hb dX2_learn_37 rfl (lv_at hl 2 rfl) ?_
          refine lv_iconst (v := 5) hx hb dX2_learn_38 (by decide) ?_
          refine lv_icmp_gt (tgt := 84) hx hb dX2_learn_39 (by decide) (fun c_55 => absurd c_55 (nI_nlt (a := 5) (b := k) (by omega) (by omega))) (fun c_55 => ?_)
          refine lv_aload_n hx hb dX2_learn_42 rfl (lv_at hl 0 rfl) ?_
          refine lv_aload_n hx hb dX2_learn_43 rfl (lv_at hl 1 rfl) ?_
          refine x_callV (n := 1) (As := [.ref t]) (rest := []) F hP hD hS (g_learnClause l D cy sk sv w36 lw bl t b n a2 ff2 tt2 f bf2 k37 k38 k39 k40 (fun b => b = t ∨ b = lw ∨ b = bl) (Or.inl rfl) (Or.inr (Or.inl rfl)) (Or.inr (Or.inr rfl)) (by omega) (by omega)) gX2_learn_X2_learnClause rfl rfl (by decide +kernel) ⟨(Nat.le_of_ble_eq_true rfl), (Nat.le_of_ble_eq_true rfl)⟩ rfl hl.1 (Nat.le_of_ble_eq_true rfl) k37 rfl dX2_learn_44 rfl ⟨(Nat.le_of_ble_eq_true rfl), (Nat.le_of_ble_eq_true rfl)⟩ (fun v57 w58 hp56 H locs hP hD hS => ?_)
          obtain ⟨ax59, ffx60, ttx61, bfx62, rx63, rfl, hz64, hz65, kq69, k66, k67, k68⟩ := hp56
          have k70 := kq69.2 _ _ k40 (fun q9 => Or.elim q9 (wd_nk k40 k39 rfl) (fun q9 => Or.elim q9 (wd_nk k40 k37 rfl) (fun q9 : b = bl => (wd_nk k40 k38 rfl) q9)))
          have kp71 := kp41.tr kq69 (fun b9 hm q9 => (fun q9 => Or.elim q9 (fun q9 => q9 ▸ s90) (fun q9 => Or.elim q9 (fun q9 => q9 ▸ s91) (fun q9 => q9 ▸ s92))) q9)
          refine W.eq (g2 := F0 m 47 ls [.int rx63]) rfl (W.widen (k := 0) (n := 0) (Nat.le_of_ble_eq_true rfl) (Nat.le_of_ble_eq_true rfl) ?_)
          refine lv_istore_n (lv' := [(3, .int rx63), (0, .ref lw), (1, .ref t), (2, .int (nI k))]) hx hb dX2_learn_47 rfl hl (by decide) rfl (fun ls hl => ?_)
          refine lv_iload_n hx hb dX2_learn_48 rfl (lv_at hl 0 rfl) ?_
          refine lv_if_eq (tgt := 54) hx hb dX2_learn_49 (by decide) (fun c_72 => ?_) (fun c_72 => ?_)
          · refine lv_aload_n hx hb dX2_learn_54 rfl (lv_at hl 2 rfl) ?_
            refine x_callV (n := 0) (As := []) (rest := []) F hP hD hS (g_isOver l D cy sk sv w58 t b n ax59 f k66 k70 (fun b => b = t) rfl (by omega) (by omega)) gX2_learn_X7_isOver rfl rfl (by decide +kernel) ⟨(Nat.le_of_ble_eq_true rfl), (Nat.le_of_ble_eq_true rfl)⟩ rfl hl.1 (Nat.le_of_ble_eq_true rfl) k66 rfl dX2_learn_55 rfl ⟨(Nat.le_of_ble_eq_true rfl), (Nat.le_of_ble_eq_true rfl)⟩ (fun v74 w75 hp73 H locs hP hD hS => ?_)
            obtain ⟨ax76, rx77, rfl, hz78, hz79, hz80, kq82, k81⟩ := hp73
            have k83 := kq82.2 _ _ k67 (fun q9 : lw = t => (wd_nk k67 k66 rfl) q9)
            have k84 := kq82.2 _ _ k68 (fun q9 : bl = t => (wd_nk k68 k66 rfl) q9)
            have k85 := kq82.2 _ _ k70 (fun q9 : b = t => (wd_nk k70 k66 rfl) q9)
            have kp86 := kp71.tr kq82 (fun b9 hm q9 => (fun q9 => q9 ▸ s90) q9)
            refine W.eq (g2 := F0 m 58 ls [.int rx77]) rfl (W.widen (k := 0) (n := 0) (Nat.le_of_ble_eq_true rfl) (Nat.le_of_ble_eq_true rfl) ?_)
            refine lv_if_eq (tgt := 63) hx hb dX2_learn_58 (by decide) (fun c_87 => ?_) (fun c_87 => ?_)
            · refine lv_aload_n hx hb dX2_learn_63 rfl (lv_at hl 2 rfl) ?_
              refine lv_bipush (v := 59) hx hb dX2_learn_64 (by decide) ?_
              refine x_callV (n := 1) (As := [.int 59]) (rest := []) F hP hD hS (g_takes l D cy sk sv w75 t b n ax76 f 59 k81 k85 (fun b => b = t) rfl (by omega) (by omega)) gX2_learn_X7_takes rfl rfl (by decide +kernel) ⟨(Nat.le_of_ble_eq_true rfl), (Nat.le_of_ble_eq_true rfl)⟩ rfl hl.1 (Nat.le_of_ble_eq_true rfl) k81 rfl dX2_learn_66 rfl ⟨(Nat.le_of_ble_eq_true rfl), (Nat.le_of_ble_eq_true rfl)⟩ (fun v89 w90 hp88 H locs hP hD hS => ?_)
              obtain ⟨ax91, rx92, rfl, hz93, hz94, hz95, kq97, k96⟩ := hp88
              have k98 := kq97.2 _ _ k83 (fun q9 : lw = t => (wd_nk k83 k81 rfl) q9)
              have k99 := kq97.2 _ _ k84 (fun q9 : bl = t => (wd_nk k84 k81 rfl) q9)
              have k100 := kq97.2 _ _ k85 (fun q9 : b = t => (wd_nk k85 k81 rfl) q9)
              have kp101 := kp86.tr kq97 (fun b9 hm q9 => (fun q9 => q9 ▸ s90) q9)
              refine W.eq (g2 := F0 m 69 ls [.int rx92]) rfl (W.widen (k := 0) (n := 0) (Nat.le_of_ble_eq_true rfl) (Nat.le_of_ble_eq_true rfl) ?_)
              refine lv_if_ne (tgt := 78) hx hb dX2_learn_69 (by decide) (fun c_102 => ?_) (fun c_102 => ?_)
              · refine lv_iinc (v := nI (k + 1)) (lv' := [(2, .int (nI (k + 1))), (3, .int rx63), (0, .ref lw), (1, .ref t)]) hx hb dX2_learn_78 hl (k := 3) rfl (nI_1 k) (by decide) rfl (fun ls hl => ?_)
                refine lv_goto (tgt := 37) hx hb dX2_learn_81 (by decide) ?_
                exact ih37 (k + 1) ax91 ffx60 ttx61 bfx62 w90 (by omega) (by omega) k98 k99 k96 k100 kp101 ls (lv_sub hl [2, 3, 0] rfl) H locs hP hD hS
              · refine lv_aload_n hx hb dX2_learn_72 rfl (lv_at hl 2 rfl) ?_
                refine lv_iconst (v := 0) hx hb dX2_learn_73 (by decide) ?_
                refine x_callV (n := 1) (As := [.int 0]) (rest := []) F hP hD hS (g_faultHere l D cy sk sv w90 t b n ax91 0 f k96 k100 (fun b => b = t) rfl (by omega) (by omega)) gX2_learn_X7_faultHere rfl rfl (by decide +kernel) ⟨(Nat.le_of_ble_eq_true rfl), (Nat.le_of_ble_eq_true rfl)⟩ rfl hl.1 (Nat.le_of_ble_eq_true rfl) k96 rfl dX2_learn_74 rfl ⟨(Nat.le_of_ble_eq_true rfl), (Nat.le_of_ble_eq_true rfl)⟩ (fun v104 w105 hp103 H locs hP hD hS => ?_)
                obtain ⟨ax106, rfl, hz107, hz108, kq110, k109⟩ := hp103
                have k111 := kq110.2 _ _ k98 (fun q9 : lw = t => (wd_nk k98 k96 rfl) q9)
                have k112 := kq110.2 _ _ k99 (fun q9 : bl = t => (wd_nk k99 k96 rfl) q9)
                have k113 := kq110.2 _ _ k100 (fun q9 : b = t => (wd_nk k100 k96 rfl) q9)
                have kp114 := kp101.tr kq110 (fun b9 hm q9 => (fun q9 => q9 ▸ s90) q9)
                refine W.eq (g2 := F0 m 77 ls [.int (nI (1 + 4 * ax106 + 0))]) rfl (W.widen (k := 0) (n := 0) (Nat.le_of_ble_eq_true rfl) (Nat.le_of_ble_eq_true rfl) ?_)
                exact y_ir K hP hD hS (Nat.le_of_ble_eq_true rfl) (Nat.le_of_ble_eq_true rfl) (ty := .int) rfl rfl dX2_learn_77 (⟨nI ax106, ffx60, ttx61, bfx62, nI (1 + 4 * ax106 + 0), rfl, kp114, k109, k111, k112⟩)
            · refine lv_iconst (v := 0) hx hb dX2_learn_61 (by decide) ?_
              exact y_ir K hP hD hS (Nat.le_of_ble_eq_true rfl) (Nat.le_of_ble_eq_true rfl) (ty := .int) rfl rfl dX2_learn_62 (⟨nI ax76, ffx60, ttx61, bfx62, 0, rfl, kp86, k81, k83, k84⟩)
          · refine lv_iload_n hx hb dX2_learn_52 rfl (lv_at hl 0 rfl) ?_
            exact y_ir K hP hD hS (Nat.le_of_ble_eq_true rfl) (Nat.le_of_ble_eq_true rfl) (ty := .int) rfl rfl dX2_learn_53 (⟨nI ax59, ffx60, ttx61, bfx62, rx63, rfl, kp71, k66, k67, k68⟩)
      exact lp37 _ 0 ax24 10 0 bfx4 w23 (Nat.zero_add 6) (by omega) k31 k32 k29 k33 kp34 ls (lv_sub hl [1, 2, 0] rfl) H locs hP hD hS
    · refine lv_iconst (v := 0) hx hb dX2_learn_33 (by decide) ?_
      exact y_ir K hP hD hS (Nat.le_of_ble_eq_true rfl) (Nat.le_of_ble_eq_true rfl) (ty := .int) rfl rfl dX2_learn_34 (⟨nI ax24, 10, 0, bfx4, 0, rfl, kp34, k29, k31, k32⟩)
  · refine lv_sipush (v := 200) hx hb dX2_learn_14 (by decide) ?_
    refine lv_iconst (v := 0) hx hb dX2_learn_17 (by decide) ?_
    refine x_callSN (host := RX10) (n := 2) (As := [.int 200, .int 0]) (rest := []) F hP hD hS (g_faultAt l D cy sk sv w3 200 0) gX2_learn_X10_faultAt_n30 rfl (by decide +kernel) (List.mem_cons_of_mem _ (List.mem_append_left _ (List.mem_append_left _ (List.mem_append_left _ (List.mem_of_getElem? (i := 10) rfl))))) (List.mem_cons_of_mem _ (List.mem_append_left _ (List.mem_append_left _ (List.mem_append_left _ (List.mem_of_getElem? (i := 9) rfl))))) (by decide +kernel) ⟨(Nat.le_of_ble_eq_true rfl), (Nat.le_of_ble_eq_true rfl)⟩ rfl hl.1 (Nat.le_of_ble_eq_true rfl) dX2_learn_18 rfl ⟨(Nat.le_of_ble_eq_true rfl), (Nat.le_of_ble_eq_true rfl)⟩ (fun v116 w117 hp115 H locs hP hD hS => ?_)
    obtain ⟨rfl, rfl⟩ := hp115
    refine W.eq (g2 := F0 m 21 ls [.int (nI (1 + 4 * 200 + 0))]) rfl (W.widen (k := 0) (n := 0) (Nat.le_of_ble_eq_true rfl) (Nat.le_of_ble_eq_true rfl) ?_)
    exact y_ir K hP hD hS (Nat.le_of_ble_eq_true rfl) (Nat.le_of_ble_eq_true rfl) (ty := .int) rfl rfl dX2_learn_21 (⟨a0, 10, 0, bfx4, nI (1 + 4 * 200 + 0), rfl, kp10, k8, k5, k6⟩)
set_option maxHeartbeats 4000000 in
set_option maxRecDepth 100000 in
theorem g_houseShare (l : Launch) (D : va_G) (cy : Nat → ClassId) (sk sv : Nat → Nat) (w : Wd) (lw bl : Nat) (kd : Nat) (ff tt x : Int32) (bf : Nat → Int32) (c90 : wd_at w lw (.inr (2, [.ref bl, .int ff, .int tt]))) (c91 : wd_at w bl (.inl (cy 2, 4, .inl bf)))  (hkd : kd ≤ 4) : Ct l D cy sk sv yX2_houseShare wsX2_houseShare ({ frames := 0, cells := 0, slots := 0, locals := 0 }) [.ref lw, .int (nI kd), .int x] w (fun v w1 => ∃ (r1 : Int32), v = some (.int r1) ∧ w = w1) := by
  refine Ct.by (cc := cX2_houseShare) (maxL := 4) (ret := (some .int)) (by decide +kernel) rfl (Nat.le_of_ble_eq_true rfl) ?_
  intro p e s m args below meth c A Q F hnm K ls hl
  have F : wd_Fx p s m args meth c cX2_houseShare 4 wsX2_houseShare RX2 D cy sk sv A := F
  have hl : lv_has ls 4 [(0, .ref lw), (1, .int (nI kd)), (2, .int x)] := hl
  have hx := F.1.1
  have hb := F.1.2.1
  have hown := F.1.2.2.2.1
  have hts := F.1.2.2.2.2
  intro H locs hP hD hS
  refine lv_iload_n hx hb dX2_houseShare_0 rfl (lv_at hl 1 rfl) ?_
  refine lv_if_ne (tgt := 8) hx hb dX2_houseShare_1 (by decide) (fun c_1 => ?_) (fun c_1 => ?_)
  · have hk0 : 0 < kd := Nat.pos_of_ne_zero (fun q => c_1 (by rw [q]; rfl))
    refine lv_aload_n hx hb dX2_houseShare_8 rfl (lv_at hl 0 rfl) ?_
    refine x_get (ref := "NoteHouse$Law") F hP c90 rfl (fun _ h => List.mem_cons_of_mem _ (List.mem_append_right _ (h))) 0 (Nat.le_of_ble_eq_true rfl) (List.mem_cons_of_mem _ (List.mem_append_left _ (List.mem_of_getElem? (i := 0) rfl))) rfl rfl dX2_houseShare_9 ?_
    refine lv_iload_n hx hb dX2_houseShare_12 rfl (lv_at hl 1 rfl) ?_
    refine lv_iconst (v := 1) hx hb dX2_houseShare_13 (by decide) ?_
    refine lv_isub hx hb dX2_houseShare_14 ?_
    rw [show ((nI kd) - 1 : Int32) = nI (kd - 1) from pk_sub (a := kd) (b := 1) (by omega)]
    refine x_iald F hP c91 (vp_in_nI (n := (kd - 1)) (N := 4) (by omega) (by decide)) dX2_houseShare_15 ?_
    refine lv_istore_n (lv' := [(3, .int (bf (nI (kd - 1)).toNatClampNeg)), (0, .ref lw), (1, .int (nI kd)), (2, .int x)]) hx hb dX2_houseShare_16 rfl hl (by decide) rfl (fun ls hl => ?_)
    refine lv_iload_n hx hb dX2_houseShare_17 rfl (lv_at hl 0 rfl) ?_
    refine lv_iconst (v := 2) hx hb dX2_houseShare_18 (by decide) ?_
    refine lv_icmp_ne (tgt := 26) hx hb dX2_houseShare_19 (by decide) (fun c_2 => ?_) (fun c_2 => ?_)
    · refine lv_iload_n hx hb dX2_houseShare_26 rfl (lv_at hl 0 rfl) ?_
      refine lv_if_ne (tgt := 34) hx hb dX2_houseShare_27 (by decide) (fun c_3 => ?_) (fun c_3 => ?_)
      · refine lv_iconst (v := 0) hx hb dX2_houseShare_34 (by decide) ?_
        exact y_ir K hP hD hS (Nat.le_of_ble_eq_true rfl) (Nat.le_of_ble_eq_true rfl) (ty := .int) rfl rfl dX2_houseShare_35 (⟨0, rfl, rfl⟩)
      · refine lv_iload_n hx hb dX2_houseShare_30 rfl (lv_at hl 3 rfl) ?_
        refine lv_goto (tgt := 35) hx hb dX2_houseShare_31 (by decide) ?_
        exact y_ir K hP hD hS (Nat.le_of_ble_eq_true rfl) (Nat.le_of_ble_eq_true rfl) (ty := .int) rfl rfl dX2_houseShare_35 (⟨x, rfl, rfl⟩)
    · refine lv_iload_n hx hb dX2_houseShare_22 rfl (lv_at hl 3 rfl) ?_
      refine lv_iconst (v := 2) hx hb dX2_houseShare_23 (by decide) ?_
      refine lv_idiv hx hb dX2_houseShare_24 (by decide) ?_
      exact y_ir K hP hD hS (Nat.le_of_ble_eq_true rfl) (Nat.le_of_ble_eq_true rfl) (ty := .int) rfl rfl dX2_houseShare_25 (⟨x / 2, rfl, rfl⟩)
  · refine lv_iconst (v := 0) hx hb dX2_houseShare_4 (by decide) ?_
    refine lv_goto (tgt := 16) hx hb dX2_houseShare_5 (by decide) ?_
    refine lv_istore_n (lv' := [(3, .int 0), (0, .ref lw), (1, .int (nI kd)), (2, .int x)]) hx hb dX2_houseShare_16 rfl hl (by decide) rfl (fun ls hl => ?_)
    refine lv_iload_n hx hb dX2_houseShare_17 rfl (lv_at hl 0 rfl) ?_
    refine lv_iconst (v := 2) hx hb dX2_houseShare_18 (by decide) ?_
    refine lv_icmp_ne (tgt := 26) hx hb dX2_houseShare_19 (by decide) (fun c_4 => ?_) (fun c_4 => absurd c_4 (show ¬ (0 : Int32) = (2 : Int32) by decide))
    refine lv_iload_n hx hb dX2_houseShare_26 rfl (lv_at hl 0 rfl) ?_
    refine lv_if_ne (tgt := 34) hx hb dX2_houseShare_27 (by decide) (fun c_5 => absurd (show (0 : Int32) = (0 : Int32) by decide) c_5) (fun c_5 => ?_)
    refine lv_iload_n hx hb dX2_houseShare_30 rfl (lv_at hl 3 rfl) ?_
    refine lv_goto (tgt := 35) hx hb dX2_houseShare_31 (by decide) ?_
    exact y_ir K hP hD hS (Nat.le_of_ble_eq_true rfl) (Nat.le_of_ble_eq_true rfl) (ty := .int) rfl rfl dX2_houseShare_35 (⟨x, rfl, rfl⟩)
set_option maxHeartbeats 4000000 in
set_option maxRecDepth 100000 in
theorem g_unlikeness (l : Launch) (D : va_G) (cy : Nat → ClassId) (sk sv : Nat → Nat) (w : Wd) (x y : Int32)    : Ct l D cy sk sv yX10_unlikeness wsX10_unlikeness ({ frames := 1, cells := 0, slots := 0, locals := 16 }) [.int x, .int y] w (fun v w1 => ∃ (r1 : Int32), v = some (.int r1) ∧ w = w1) := by
  refine Ct.by (cc := cX10_unlikeness) (maxL := 6) (ret := (some .int)) (by decide +kernel) rfl (Nat.le_of_ble_eq_true rfl) ?_
  intro p e s m args below meth c A Q F hnm K ls hl
  have F : wd_Fx p s m args meth c cX10_unlikeness 6 wsX10_unlikeness RX10 D cy sk sv A := F
  have hl : lv_has ls 6 [(0, .int x), (1, .int y)] := hl
  have hx := F.1.1
  have hb := F.1.2.1
  have hown := F.1.2.2.2.1
  have hts := F.1.2.2.2.2
  intro H locs hP hD hS
  refine lv_iconst (v := 0) hx hb dX10_unlikeness_0 (by decide) ?_
  refine lv_istore_n (lv' := [(2, .int 0), (0, .int x), (1, .int y)]) hx hb dX10_unlikeness_1 rfl hl (by decide) rfl (fun ls hl => ?_)
  refine lv_iload_n hx hb dX10_unlikeness_2 rfl (lv_at hl 1 rfl) ?_
  refine lv_istore_n (lv' := [(3, .int x), (2, .int 0), (0, .int x), (1, .int y)]) hx hb dX10_unlikeness_3 rfl hl (by decide) rfl (fun ls hl => ?_)
  refine lv_iload_n hx hb dX10_unlikeness_4 rfl (lv_at hl 3 rfl) ?_
  refine lv_istore (lv' := [(4, .int y), (3, .int x), (2, .int 0), (0, .int x), (1, .int y)]) hx hb dX10_unlikeness_5 hl (by decide) rfl (fun ls hl => ?_)
  refine lv_iconst (v := 0) hx hb dX10_unlikeness_7 (by decide) ?_
  refine lv_istore (lv' := [(5, .int 0), (4, .int y), (3, .int x), (2, .int 0), (0, .int x), (1, .int y)]) hx hb dX10_unlikeness_8 hl (by decide) rfl (fun ls hl => ?_)
  have lp10 : ∀ (N : Nat) (k : Nat) (u0 : Int32) (u1 : Int32) (u2 : Int32), (k + N = 5) → ∀ (ls : Array Slot), lv_has ls 6 [(0, .int x), (1, .int y), (2, .int u0), (3, .int u1), (4, .int u2), (5, .int (nI k))] → Wv p l e ({ frames := 1, cells := 0, slots := 0, locals := 16 }) s m args below meth c D A (0) (0) Q w (F0 m 10 ls []) := by
    intro N
    induction N with
    | zero =>
      intro k u0 u1 u2 hN10 ls hl H locs hP hD hS
      refine lv_iload hx hb dX10_unlikeness_10 (lv_at hl 5 rfl) ?_
      refine lv_iconst (v := 5) hx hb dX10_unlikeness_12 (by decide) ?_
      refine lv_icmp_ge (tgt := 50) hx hb dX10_unlikeness_13 (by decide) (fun c_2 => ?_) (fun c_2 => absurd (nI_le (a := 5) (b := k) (by omega) (by omega)) c_2)
      refine lv_iload_n hx hb dX10_unlikeness_50 rfl (lv_at hl 2 rfl) ?_
      exact y_ir K hP hD hS (Nat.le_of_ble_eq_true rfl) (Nat.le_of_ble_eq_true rfl) (ty := .int) rfl rfl dX10_unlikeness_51 (⟨u0, rfl, rfl⟩)
    | succ N ih10 =>
      intro k u0 u1 u2 hN10 ls hl H locs hP hD hS
      refine lv_iload hx hb dX10_unlikeness_10 (lv_at hl 5 rfl) ?_
      refine lv_iconst (v := 5) hx hb dX10_unlikeness_12 (by decide) ?_
      refine lv_icmp_ge (tgt := 50) hx hb dX10_unlikeness_13 (by decide) (fun c_3 => absurd c_3 (nI_ge (a := k) (b := 5) (by omega) (by omega))) (fun c_3 => ?_)
      refine lv_iload_n hx hb dX10_unlikeness_16 rfl (lv_at hl 2 rfl) ?_
      refine lv_iload_n hx hb dX10_unlikeness_17 rfl (lv_at hl 3 rfl) ?_
      refine lv_bipush (v := 10) hx hb dX10_unlikeness_18 (by decide) ?_
      refine lv_irem hx hb dX10_unlikeness_20 (by decide) ?_
      refine lv_iload hx hb dX10_unlikeness_21 (lv_at hl 4 rfl) ?_
      refine lv_bipush (v := 10) hx hb dX10_unlikeness_23 (by decide) ?_
      refine lv_irem hx hb dX10_unlikeness_25 (by decide) ?_
      refine lv_isub hx hb dX10_unlikeness_26 ?_
      refine va_mabs hx hb (F.1.2.2.1.trans hl.1.symm) hown (hts _ (List.mem_cons_of_mem _ (List.mem_of_getElem? (i := 0) rfl))) (hts _ (List.mem_cons_of_mem _ (List.mem_of_getElem? (i := 1) rfl))) (hts _ (List.mem_cons_of_mem _ (List.mem_of_getElem? (i := 2) rfl))) (hts _ (List.mem_cons_of_mem _ (List.mem_of_getElem? (i := 3) rfl))) (Nat.le_of_ble_eq_true rfl) (Nat.le_of_ble_eq_true rfl) (Nat.le_of_ble_eq_true rfl) (Nat.le_of_ble_eq_true rfl) dX10_unlikeness_27 ?_
      refine lv_iadd hx hb dX10_unlikeness_30 ?_
      refine lv_istore_n (lv' := [(2, .int (u0 + (if 0 ≤ (u1 - u1 / 10 * 10) - (u2 - u2 / 10 * 10) then (u1 - u1 / 10 * 10) - (u2 - u2 / 10 * 10) else 0 - ((u1 - u1 / 10 * 10) - (u2 - u2 / 10 * 10))))), (0, .int x), (1, .int y), (3, .int u1), (4, .int u2), (5, .int (nI k))]) hx hb dX10_unlikeness_31 rfl hl (by decide) rfl (fun ls hl => ?_)
      refine lv_iload_n hx hb dX10_unlikeness_32 rfl (lv_at hl 3 rfl) ?_
      refine lv_bipush (v := 10) hx hb dX10_unlikeness_33 (by decide) ?_
      refine lv_idiv hx hb dX10_unlikeness_35 (by decide) ?_
      refine lv_istore_n (lv' := [(3, .int (u1 / 10)), (2, .int (u0 + (if 0 ≤ (u1 - u1 / 10 * 10) - (u2 - u2 / 10 * 10) then (u1 - u1 / 10 * 10) - (u2 - u2 / 10 * 10) else 0 - ((u1 - u1 / 10 * 10) - (u2 - u2 / 10 * 10))))), (0, .int x), (1, .int y), (4, .int u2), (5, .int (nI k))]) hx hb dX10_unlikeness_36 rfl hl (by decide) rfl (fun ls hl => ?_)
      refine lv_iload hx hb dX10_unlikeness_37 (lv_at hl 4 rfl) ?_
      refine lv_bipush (v := 10) hx hb dX10_unlikeness_39 (by decide) ?_
      refine lv_idiv hx hb dX10_unlikeness_41 (by decide) ?_
      refine lv_istore (lv' := [(4, .int (u2 / 10)), (3, .int (u1 / 10)), (2, .int (u0 + (if 0 ≤ (u1 - u1 / 10 * 10) - (u2 - u2 / 10 * 10) then (u1 - u1 / 10 * 10) - (u2 - u2 / 10 * 10) else 0 - ((u1 - u1 / 10 * 10) - (u2 - u2 / 10 * 10))))), (0, .int x), (1, .int y), (5, .int (nI k))]) hx hb dX10_unlikeness_42 hl (by decide) rfl (fun ls hl => ?_)
      refine lv_iinc (v := nI (k + 1)) (lv' := [(5, .int (nI (k + 1))), (4, .int (u2 / 10)), (3, .int (u1 / 10)), (2, .int (u0 + (if 0 ≤ (u1 - u1 / 10 * 10) - (u2 - u2 / 10 * 10) then (u1 - u1 / 10 * 10) - (u2 - u2 / 10 * 10) else 0 - ((u1 - u1 / 10 * 10) - (u2 - u2 / 10 * 10))))), (0, .int x), (1, .int y)]) hx hb dX10_unlikeness_44 hl (k := 5) rfl (nI_1 k) (by decide) rfl (fun ls hl => ?_)
      refine lv_goto (tgt := 10) hx hb dX10_unlikeness_47 (by decide) ?_
      exact ih10 (k + 1) (u0 + (if 0 ≤ (u1 - u1 / 10 * 10) - (u2 - u2 / 10 * 10) then (u1 - u1 / 10 * 10) - (u2 - u2 / 10 * 10) else 0 - ((u1 - u1 / 10 * 10) - (u2 - u2 / 10 * 10)))) (u1 / 10) (u2 / 10)  (by omega)    ls (lv_sub hl [4, 5, 3, 2, 1, 0] rfl) H locs hP hD hS
  exact lp10 _ 0 0 x y  (Nat.zero_add 5)    ls (lv_sub hl [4, 5, 3, 2, 1, 0] rfl) H locs hP hD hS
