def aOK (cf nf : Nat → Int32) : Prop := (∀ k, k < 12 → ∃ u, u ≤ 6 ∧ cf k = nI u) ∧ (∀ j, j < 72 → ∃ z, z < 8 ∧ nf j = nI z)
theorem aOK.c {cf nf : Nat → Int32} {r u : Nat} (h : aOK cf nf) (hr : r < 12) (hu : u ≤ 6) : aOK (upd cf (nI r).toNatClampNeg (nI u)) nf := ⟨fun k hk => by
  rw [nI_clamp (by omega)]
  by_cases e : k = r
  · rw [e, pk_us]; exact ⟨u, hu, rfl⟩
  · rw [pk_un e]; exact h.1 k hk, h.2⟩
theorem aOK.n {cf nf : Nat → Int32} {j z : Nat} (h : aOK cf nf) (hj : j < 72) (hz : z < 8) : aOK cf (upd nf (nI j).toNatClampNeg (nI z)) := ⟨h.1, fun k hk => by
  rw [nI_clamp (by omega)]
  by_cases e : k = j
  · rw [e, pk_us]; exact ⟨z, hz, rfl⟩
  · rw [pk_un e]; exact h.2 k hk⟩
theorem nb2 : st_bl 2 (st_len.getD 2 0) = 7 := by decide +kernel
theorem nb4 : st_bl 4 (st_len.getD 4 0) = 4 := by decide +kernel
theorem nI_n0 {k : Nat} (h : k < 2000) : ¬ nI (1 + k) = 0 := nI_ne0 (by omega) (by omega)
set_option maxHeartbeats 4000000 in
set_option maxRecDepth 100000 in
theorem g_isSo (l : Launch) (D : va_G) (cy : Nat → ClassId) (sk sv : Nat → Nat) (w : Wd) (x s1 y : Int32)    : Ct l D cy sk sv yX1_isSo wsX1_isSo ({ frames := 0, cells := 0, slots := 0, locals := 0 }) [.int x, .int s1, .int y] w (fun v w1 => ∃ (r1 : Int32), v = some (.int r1) ∧ (r1 = b01 (soB x s1 y)) ∧ (r1 = 0 ∨ r1 = 1) ∧ w = w1) := by
  refine Ct.by (cc := cX1_isSo) (maxL := 3) (ret := (some .boolean)) (by decide +kernel) rfl (Nat.le_of_ble_eq_true rfl) ?_
  intro p e s m args below meth c A Q F hnm K ls hl
  have F : wd_Fx p s m args meth c cX1_isSo 3 wsX1_isSo RX1 D cy sk sv A := F
  have hl : lv_has ls 3 [(0, .int x), (1, .int s1), (2, .int y)] := hl
  have hx := F.1.1
  have hb := F.1.2.1
  have hown := F.1.2.2.2.1
  have hts := F.1.2.2.2.2
  intro H locs hP hD hS
  refine lv_iload_n hx hb dX1_isSo_0 rfl (lv_at hl 1 rfl) ?_
  refine lv_bipush (v := 60) hx hb dX1_isSo_1 (by decide) ?_
  refine lv_icmp_ne (tgt := 17) hx hb dX1_isSo_3 (by decide) (fun c_1 => ?_) (fun c_1 => ?_)
  · refine lv_iload_n hx hb dX1_isSo_17 rfl (lv_at hl 1 rfl) ?_
    refine lv_bipush (v := 62) hx hb dX1_isSo_18 (by decide) ?_
    refine lv_icmp_ne (tgt := 36) hx hb dX1_isSo_20 (by decide) (fun c_2 => ?_) (fun c_2 => ?_)
    · refine lv_iload_n hx hb dX1_isSo_36 rfl (lv_at hl 0 rfl) ?_
      refine lv_iload_n hx hb dX1_isSo_37 rfl (lv_at hl 2 rfl) ?_
      refine lv_icmp_ne (tgt := 45) hx hb dX1_isSo_38 (by decide) (fun c_3 => ?_) (fun c_3 => ?_)
      · refine lv_iconst (v := 0) hx hb dX1_isSo_45 (by decide) ?_
        exact y_ir K hP hD hS (Nat.le_of_ble_eq_true rfl) (Nat.le_of_ble_eq_true rfl) (ty := .boolean) rfl rfl dX1_isSo_46 (⟨0, rfl, by simp [soB, b01, c_1, c_2, c_3], Or.inl rfl, rfl⟩)
      · refine lv_iconst (v := 1) hx hb dX1_isSo_41 (by decide) ?_
        refine lv_goto (tgt := 46) hx hb dX1_isSo_42 (by decide) ?_
        exact y_ir K hP hD hS (Nat.le_of_ble_eq_true rfl) (Nat.le_of_ble_eq_true rfl) (ty := .boolean) rfl rfl dX1_isSo_46 (⟨1, rfl, by simp [soB, b01, c_1, c_2, c_3], Or.inr rfl, rfl⟩)
    · refine lv_iload_n hx hb dX1_isSo_23 rfl (lv_at hl 0 rfl) ?_
      refine lv_iload_n hx hb dX1_isSo_24 rfl (lv_at hl 2 rfl) ?_
      refine lv_icmp_le (tgt := 32) hx hb dX1_isSo_25 (by decide) (fun c_4 => ?_) (fun c_4 => ?_)
      · refine lv_iconst (v := 0) hx hb dX1_isSo_32 (by decide) ?_
        refine lv_goto (tgt := 46) hx hb dX1_isSo_33 (by decide) ?_
        exact y_ir K hP hD hS (Nat.le_of_ble_eq_true rfl) (Nat.le_of_ble_eq_true rfl) (ty := .boolean) rfl rfl dX1_isSo_46 (⟨0, rfl, by simp [soB, b01, c_1, c_2, c_4], Or.inl rfl, rfl⟩)
      · refine lv_iconst (v := 1) hx hb dX1_isSo_28 (by decide) ?_
        refine lv_goto (tgt := 46) hx hb dX1_isSo_29 (by decide) ?_
        exact y_ir K hP hD hS (Nat.le_of_ble_eq_true rfl) (Nat.le_of_ble_eq_true rfl) (ty := .boolean) rfl rfl dX1_isSo_46 (⟨1, rfl, by simp [soB, b01, c_1, c_2, c_4], Or.inr rfl, rfl⟩)
  · refine lv_iload_n hx hb dX1_isSo_6 rfl (lv_at hl 0 rfl) ?_
    refine lv_iload_n hx hb dX1_isSo_7 rfl (lv_at hl 2 rfl) ?_
    refine lv_icmp_ge (tgt := 15) hx hb dX1_isSo_8 (by decide) (fun c_5 => ?_) (fun c_5 => ?_)
    · refine lv_iconst (v := 0) hx hb dX1_isSo_15 (by decide) ?_
      exact y_ir K hP hD hS (Nat.le_of_ble_eq_true rfl) (Nat.le_of_ble_eq_true rfl) (ty := .boolean) rfl rfl dX1_isSo_16 (⟨0, rfl, by simp [soB, b01, c_1, c_5], Or.inl rfl, rfl⟩)
    · refine lv_iconst (v := 1) hx hb dX1_isSo_11 (by decide) ?_
      refine lv_goto (tgt := 16) hx hb dX1_isSo_12 (by decide) ?_
      exact y_ir K hP hD hS (Nat.le_of_ble_eq_true rfl) (Nat.le_of_ble_eq_true rfl) (ty := .boolean) rfl rfl dX1_isSo_16 (⟨1, rfl, by simp [soB, b01, c_1, c_5], Or.inr rfl, rfl⟩)
set_option maxHeartbeats 4000000 in
set_option maxRecDepth 100000 in
theorem g_isMet (l : Launch) (D : va_G) (cy : Nat → ClassId) (sk sv : Nat → Nat) (w : Wd) (ag g0 g1 g2 g3 g4 : Nat) (fa r rk : Nat) (df cf nf sf uf ff : Nat → Int32) (TT : Nat → Nat → Int32) (c90 : wd_at w ag (.inr (1, [.ref g0, .ref g1, .ref g2, .ref g3, .ref g4, .int (nI rk)]))) (c91 : wd_at w g1 (.inl (cy 2, 12, .inl cf))) (c92 : wd_at w g2 (.inl (cy 2, 72, .inl nf))) (c93 : wd_at w g3 (.inl (cy 1, 72, .inl sf))) (c94 : wd_at w g4 (.inl (cy 2, 72, .inl uf))) (c95 : wd_at w fa (.inl (cy 2, 8, .inl ff)))  (hagT : agR df cf nf sf uf rk TT) (hr : r < rk) (hrk : rk ≤ 12) : Ct l D cy sk sv yX1_isMet wsX1_isMet ({ frames := 1, cells := 0, slots := 0, locals := 22 }) [.ref ag, .int (nI r), .ref fa] w (fun v w1 => ∃ (r1 : Int32), v = some (.int r1) ∧ (r1 = b01 (metB ff TT r)) ∧ (r1 = 0 ∨ r1 = 1) ∧ w = w1) := by
  refine Ct.by (cc := cX1_isMet) (maxL := 5) (ret := (some .boolean)) (by decide +kernel) rfl (Nat.le_of_ble_eq_true rfl) ?_
  intro p e s m args below meth c A Q F hnm K ls hl
  have F : wd_Fx p s m args meth c cX1_isMet 5 wsX1_isMet RX1 D cy sk sv A := F
  have hl : lv_has ls 5 [(0, .ref ag), (1, .int (nI r)), (2, .ref fa)] := hl
  have hx := F.1.1
  have hb := F.1.2.1
  have hown := F.1.2.2.2.1
  have hts := F.1.2.2.2.2
  intro H locs hP hD hS
  obtain ⟨h1g, h2g, h3g, u, hu, eu, hent⟩ := hagT r hr
  have ecf : cf r = nI u := h2g.trans eu
  refine lv_iload_n hx hb dX1_isMet_0 rfl (lv_at hl 1 rfl) ?_
  refine lv_bipush (v := 6) hx hb dX1_isMet_1 (by decide) ?_
  refine lv_imul hx hb dX1_isMet_3 ?_
  rw [show ((nI r) * 6 : Int32) = nI (r * 6) from pk_mul r 6]
  refine lv_istore_n (lv' := [(3, .int (nI (r * 6))), (0, .ref ag), (1, .int (nI r)), (2, .ref fa)]) hx hb dX1_isMet_4 rfl hl (by decide) rfl (fun ls hl => ?_)
  refine lv_iload_n hx hb dX1_isMet_5 rfl (lv_at hl 0 rfl) ?_
  refine lv_istore (lv' := [(4, .int (nI (r * 6))), (3, .int (nI (r * 6))), (0, .ref ag), (1, .int (nI r)), (2, .ref fa)]) hx hb dX1_isMet_6 hl (by decide) rfl (fun ls hl => ?_)
  have lp8 : ∀ (N : Nat) (cq : Nat), (cq + N = u) → (∀ k, k < cq → cdB ff TT r k = true) → ∀ (ls : Array Slot), lv_has ls 5 [(0, .ref ag), (1, .int (nI r)), (2, .ref fa), (3, .int (nI (r * 6))), (4, .int (nI (r * 6 + cq)))] → Wv p l e ({ frames := 1, cells := 0, slots := 0, locals := 22 }) s m args below meth c D A (0) (0) Q w (F0 m 8 ls []) := by
    intro N
    induction N with
    | zero =>
      intro cq hN8 hm ls hl H locs hP hD hS
      refine lv_iload hx hb dX1_isMet_8 (lv_at hl 4 rfl) ?_
      refine lv_iload_n hx hb dX1_isMet_10 rfl (lv_at hl 3 rfl) ?_
      refine lv_aload_n hx hb dX1_isMet_11 rfl (lv_at hl 0 rfl) ?_
      refine x_get (ref := "NoteHouse$Agent") F hP c90 rfl (fun _ h => List.mem_cons_of_mem _ (List.mem_append_right _ (h))) 1 (Nat.le_of_ble_eq_true rfl) (List.mem_cons_of_mem _ (List.mem_append_left _ (List.mem_of_getElem? (i := 0) rfl))) rfl rfl dX1_isMet_12 ?_
      refine lv_iload_n hx hb dX1_isMet_15 rfl (lv_at hl 1 rfl) ?_
      refine x_iald F hP c91 (vp_in_nI (n := r) (N := 12) (by omega) (by decide)) dX1_isMet_16 ?_
      rw [nI_clamp (n := r) (by omega), ecf]
      refine lv_iadd hx hb dX1_isMet_17 ?_
      rw [show ((nI (r * 6)) + (nI u) : Int32) = nI ((r * 6) + u) from nI_add (r * 6) u]
      refine lv_icmp_ge (tgt := 58) hx hb dX1_isMet_18 (by decide) (fun c_2 => ?_) (fun c_2 => absurd (nI_le (a := r * 6 + u) (b := r * 6 + cq) (by omega) (by omega)) c_2)
      refine lv_iconst (v := 1) hx hb dX1_isMet_58 (by decide) ?_
      exact y_ir K hP hD hS (Nat.le_of_ble_eq_true rfl) (Nat.le_of_ble_eq_true rfl) (ty := .boolean) rfl rfl dX1_isMet_59 (⟨1, rfl, by rw [show metB ff TT r = true from allB_t _ (by rw [eu, nI_clamp (by omega)]; exact fun k hk => hm k (by omega))]; rfl, Or.inr rfl, rfl⟩)
    | succ N ih8 =>
      intro cq hN8 hm ls hl H locs hP hD hS
      refine lv_iload hx hb dX1_isMet_8 (lv_at hl 4 rfl) ?_
      refine lv_iload_n hx hb dX1_isMet_10 rfl (lv_at hl 3 rfl) ?_
      refine lv_aload_n hx hb dX1_isMet_11 rfl (lv_at hl 0 rfl) ?_
      refine x_get (ref := "NoteHouse$Agent") F hP c90 rfl (fun _ h => List.mem_cons_of_mem _ (List.mem_append_right _ (h))) 1 (Nat.le_of_ble_eq_true rfl) (List.mem_cons_of_mem _ (List.mem_append_left _ (List.mem_of_getElem? (i := 0) rfl))) rfl rfl dX1_isMet_12 ?_
      refine lv_iload_n hx hb dX1_isMet_15 rfl (lv_at hl 1 rfl) ?_
      refine x_iald F hP c91 (vp_in_nI (n := r) (N := 12) (by omega) (by decide)) dX1_isMet_16 ?_
      rw [nI_clamp (n := r) (by omega), ecf]
      refine lv_iadd hx hb dX1_isMet_17 ?_
      rw [show ((nI (r * 6)) + (nI u) : Int32) = nI ((r * 6) + u) from nI_add (r * 6) u]
      refine lv_icmp_ge (tgt := 58) hx hb dX1_isMet_18 (by decide) (fun c_3 => absurd c_3 (nI_ge (a := r * 6 + cq) (b := r * 6 + u) (by omega) (by omega))) (fun c_3 => ?_)
      refine lv_aload_n hx hb dX1_isMet_21 rfl (lv_at hl 2 rfl) ?_
      refine lv_aload_n hx hb dX1_isMet_22 rfl (lv_at hl 0 rfl) ?_
      refine x_get (ref := "NoteHouse$Agent") F hP c90 rfl (fun _ h => List.mem_cons_of_mem _ (List.mem_append_right _ (h))) 2 (Nat.le_of_ble_eq_true rfl) (List.mem_cons_of_mem _ (List.mem_append_left _ (List.mem_of_getElem? (i := 1) rfl))) rfl rfl dX1_isMet_23 ?_
      refine lv_iload hx hb dX1_isMet_26 (lv_at hl 4 rfl) ?_
      refine x_iald F hP c92 (vp_in_nI (n := (r * 6 + cq)) (N := 72) (by omega) (by decide)) dX1_isMet_28 ?_
      obtain ⟨en, es, eu9, z, hz, ez⟩ := hent cq (by omega)
      rw [nI_clamp (n := (r * 6 + cq)) (by omega), en, ez]
      refine x_iald F hP c95 (vp_in_nI (n := z) (N := 8) (by omega) (by decide)) dX1_isMet_29 ?_
      rw [nI_clamp (n := z) (by omega)]
      refine lv_aload_n hx hb dX1_isMet_30 rfl (lv_at hl 0 rfl) ?_
      refine x_get (ref := "NoteHouse$Agent") F hP c90 rfl (fun _ h => List.mem_cons_of_mem _ (List.mem_append_right _ (h))) 3 (Nat.le_of_ble_eq_true rfl) (List.mem_cons_of_mem _ (List.mem_append_left _ (List.mem_of_getElem? (i := 2) rfl))) rfl rfl dX1_isMet_31 ?_
      refine lv_iload hx hb dX1_isMet_34 (lv_at hl 4 rfl) ?_
      refine x_cald F hP c93 (vp_in_nI (n := (r * 6 + cq)) (N := 72) (by omega) (by decide)) dX1_isMet_36 ?_
      rw [nI_clamp (n := r * 6 + cq) (by omega), es]
      refine lv_aload_n hx hb dX1_isMet_37 rfl (lv_at hl 0 rfl) ?_
      refine x_get (ref := "NoteHouse$Agent") F hP c90 rfl (fun _ h => List.mem_cons_of_mem _ (List.mem_append_right _ (h))) 4 (Nat.le_of_ble_eq_true rfl) (List.mem_cons_of_mem _ (List.mem_append_left _ (List.mem_of_getElem? (i := 3) rfl))) rfl rfl dX1_isMet_38 ?_
      refine lv_iload hx hb dX1_isMet_41 (lv_at hl 4 rfl) ?_
      refine x_iald F hP c94 (vp_in_nI (n := (r * 6 + cq)) (N := 72) (by omega) (by decide)) dX1_isMet_43 ?_
      rw [nI_clamp (n := r * 6 + cq) (by omega), eu9]
      refine x_callS (n := 3) (As := [.int (ff z), .int (TT 3 (r * 6 + cq)), .int (TT 4 (r * 6 + cq))]) (rest := []) F hP hD hS (g_isSo l D cy sk sv w (ff z) (TT 3 (r * 6 + cq)) (TT 4 (r * 6 + cq))) gX1_isMet_X1_isSo rfl (by decide +kernel) ⟨(Nat.le_of_ble_eq_true rfl), (Nat.le_of_ble_eq_true rfl)⟩ rfl hl.1 (Nat.le_of_ble_eq_true rfl) dX1_isMet_44 rfl ⟨(Nat.le_of_ble_eq_true rfl), (Nat.le_of_ble_eq_true rfl)⟩ (fun v5 w6 hp4 H locs hP hD hS => ?_)
      obtain ⟨rx7, rfl, rfl, hz8, rfl⟩ := hp4
      refine W.eq (g2 := F0 m 47 ls [.int (b01 (soB (ff z) (TT 3 (r * 6 + cq)) (TT 4 (r * 6 + cq))))]) rfl (W.widen (k := 0) (n := 0) (Nat.le_of_ble_eq_true rfl) (Nat.le_of_ble_eq_true rfl) ?_)
      refine lv_if_ne (tgt := 52) hx hb dX1_isMet_47 (by decide) (fun cso => ?_) (fun cso => ?_)
      · refine lv_iinc (v := nI (r * 6 + (cq + 1))) (lv' := [(4, .int (nI (r * 6 + (cq + 1)))), (0, .ref ag), (1, .int (nI r)), (2, .ref fa), (3, .int (nI (r * 6)))]) hx hb dX1_isMet_52 hl (k := 4) rfl (nI_1 (r * 6 + cq)) (by decide) rfl (fun ls hl => ?_)
        refine lv_goto (tgt := 8) hx hb dX1_isMet_55 (by decide) ?_
        exact ih8 (cq + 1)  (by omega) (lt_s (p := fun k => cdB ff TT r k = true) hm (by unfold cdB; rw [ez, nI_clamp (by omega)]; exact b01_n cso))   ls (lv_sub hl [1, 2, 3, 4, 0] rfl) H locs hP hD hS
      · refine lv_iconst (v := 0) hx hb dX1_isMet_50 (by decide) ?_
        exact y_ir K hP hD hS (Nat.le_of_ble_eq_true rfl) (Nat.le_of_ble_eq_true rfl) (ty := .boolean) rfl rfl dX1_isMet_51 (⟨0, rfl, by rw [show metB ff TT r = false from allB_f (k := cq) (by unfold cdB; rw [ez, nI_clamp (by omega)]; exact b01_0.mp cso) _ (by rw [eu, nI_clamp (by omega)]; omega)]; rfl, Or.inl rfl, rfl⟩)
  exact lp8 u 0  (Nat.zero_add u) (fun k hk => absurd hk (Nat.not_lt_zero k))   ls (lv_sub hl [2, 3, 4, 1, 0] rfl) H locs hP hD hS
set_option maxHeartbeats 4000000 in
set_option maxRecDepth 100000 in
theorem g_firstRuleFor (l : Launch) (D : va_G) (cy : Nat → ClassId) (sk sv : Nat → Nat) (w : Wd) (ag g0 g1 g2 g3 g4 : Nat) (fa rk : Nat) (df cf nf sf uf ff : Nat → Int32) (TT : Nat → Nat → Int32) (c90 : wd_at w ag (.inr (1, [.ref g0, .ref g1, .ref g2, .ref g3, .ref g4, .int (nI rk)]))) (c91 : wd_at w g1 (.inl (cy 2, 12, .inl cf))) (c92 : wd_at w g2 (.inl (cy 2, 72, .inl nf))) (c93 : wd_at w g3 (.inl (cy 1, 72, .inl sf))) (c94 : wd_at w g4 (.inl (cy 2, 72, .inl uf))) (c95 : wd_at w fa (.inl (cy 2, 8, .inl ff)))  (hagT : agR df cf nf sf uf rk TT) (hrk : rk ≤ 12) : Ct l D cy sk sv yX1_firstRuleFor wsX1_firstRuleFor ({ frames := 2, cells := 0, slots := 0, locals := 46 }) [.ref ag, .ref fa] w (fun v w1 => ∃ (r1 : Int32), v = some (.int r1) ∧ (r1 = ruI ff TT rk) ∧ w = w1) := by
  refine Ct.by (cc := cX1_firstRuleFor) (maxL := 3) (ret := (some .int)) (by decide +kernel) rfl (Nat.le_of_ble_eq_true rfl) ?_
  intro p e s m args below meth c A Q F hnm K ls hl
  have F : wd_Fx p s m args meth c cX1_firstRuleFor 3 wsX1_firstRuleFor RX1 D cy sk sv A := F
  have hl : lv_has ls 3 [(0, .ref ag), (1, .ref fa)] := hl
  have hx := F.1.1
  have hb := F.1.2.1
  have hown := F.1.2.2.2.1
  have hts := F.1.2.2.2.2
  intro H locs hP hD hS
  refine lv_iconst (v := 0) hx hb dX1_firstRuleFor_0 (by decide) ?_
  refine lv_istore_n (lv' := [(2, .int 0), (0, .ref ag), (1, .ref fa)]) hx hb dX1_firstRuleFor_1 rfl hl (by decide) rfl (fun ls hl => ?_)
  have lp2 : ∀ (N : Nat) (k : Nat), (k + N = rk) → (frG ff TT (rk - k) k = fru ff TT rk) → ∀ (ls : Array Slot), lv_has ls 3 [(0, .ref ag), (1, .ref fa), (2, .int (nI k))] → Wv p l e ({ frames := 2, cells := 0, slots := 0, locals := 46 }) s m args below meth c D A (0) (0) Q w (F0 m 2 ls []) := by
    intro N
    induction N with
    | zero =>
      intro k hN2 hfr ls hl H locs hP hD hS
      refine lv_iload_n hx hb dX1_firstRuleFor_2 rfl (lv_at hl 2 rfl) ?_
      refine lv_aload_n hx hb dX1_firstRuleFor_3 rfl (lv_at hl 0 rfl) ?_
      refine x_get (ref := "NoteHouse$Agent") F hP c90 rfl (fun _ h => List.mem_cons_of_mem _ (List.mem_append_right _ (h))) 5 (Nat.le_of_ble_eq_true rfl) (List.mem_cons_of_mem _ (List.mem_append_left _ (List.mem_of_getElem? (i := 0) rfl))) rfl rfl dX1_firstRuleFor_4 ?_
      refine lv_icmp_ge (tgt := 27) hx hb dX1_firstRuleFor_7 (by decide) (fun c_2 => ?_) (fun c_2 => absurd (nI_le (a := rk) (b := k) (by omega) (by omega)) c_2)
      refine lv_iconst (v := (-1)) hx hb dX1_firstRuleFor_27 (by decide) ?_
      have hfk : fru ff TT rk = rk := by rw [← hfr, show rk - k = 0 by omega]; show k = rk; omega
      exact y_ir K hP hD hS (Nat.le_of_ble_eq_true rfl) (Nat.le_of_ble_eq_true rfl) (ty := .int) rfl rfl dX1_firstRuleFor_28 (⟨(-1), rfl, by unfold ruI; rw [if_pos hfk], rfl⟩)
    | succ N ih2 =>
      intro k hN2 hfr ls hl H locs hP hD hS
      refine lv_iload_n hx hb dX1_firstRuleFor_2 rfl (lv_at hl 2 rfl) ?_
      refine lv_aload_n hx hb dX1_firstRuleFor_3 rfl (lv_at hl 0 rfl) ?_
      refine x_get (ref := "NoteHouse$Agent") F hP c90 rfl (fun _ h => List.mem_cons_of_mem _ (List.mem_append_right _ (h))) 5 (Nat.le_of_ble_eq_true rfl) (List.mem_cons_of_mem _ (List.mem_append_left _ (List.mem_of_getElem? (i := 0) rfl))) rfl rfl dX1_firstRuleFor_4 ?_
      refine lv_icmp_ge (tgt := 27) hx hb dX1_firstRuleFor_7 (by decide) (fun c_3 => absurd c_3 (nI_ge (a := k) (b := rk) (by omega) (by omega))) (fun c_3 => ?_)
      refine lv_aload_n hx hb dX1_firstRuleFor_10 rfl (lv_at hl 0 rfl) ?_
      refine lv_iload_n hx hb dX1_firstRuleFor_11 rfl (lv_at hl 2 rfl) ?_
      refine lv_aload_n hx hb dX1_firstRuleFor_12 rfl (lv_at hl 1 rfl) ?_
      refine x_callV (n := 2) (As := [.int (nI k), .ref fa]) (rest := []) F hP hD hS (g_isMet l D cy sk sv w ag g0 g1 g2 g3 g4 fa k rk df cf nf sf uf ff TT c90 c91 c92 c93 c94 c95 (by assumption) (by omega) (by omega)) gX1_firstRuleFor_X1_isMet rfl rfl (by decide +kernel) ⟨(Nat.le_of_ble_eq_true rfl), (Nat.le_of_ble_eq_true rfl)⟩ rfl hl.1 (Nat.le_of_ble_eq_true rfl) c90 rfl dX1_firstRuleFor_13 rfl ⟨(Nat.le_of_ble_eq_true rfl), (Nat.le_of_ble_eq_true rfl)⟩ (fun v5 w6 hp4 H locs hP hD hS => ?_)
      obtain ⟨rx7, rfl, rfl, hz8, rfl⟩ := hp4
      refine W.eq (g2 := F0 m 16 ls [.int (b01 (metB ff TT k))]) rfl (W.widen (k := 0) (n := 0) (Nat.le_of_ble_eq_true rfl) (Nat.le_of_ble_eq_true rfl) ?_)
      refine lv_if_eq (tgt := 21) hx hb dX1_firstRuleFor_16 (by decide) (fun cme => ?_) (fun cme => ?_)
      · refine lv_iinc (v := nI (k + 1)) (lv' := [(2, .int (nI (k + 1))), (0, .ref ag), (1, .ref fa)]) hx hb dX1_firstRuleFor_21 hl (k := 2) rfl (nI_1 k) (by decide) rfl (fun ls hl => ?_)
        refine lv_goto (tgt := 2) hx hb dX1_firstRuleFor_24 (by decide) ?_
        exact ih2 (k + 1)  (by omega) (by rw [show rk - (k + 1) = N by omega, ← frG_n (b01_0.mp cme), ← hfr, show rk - k = N + 1 by omega])   ls (lv_sub hl [1, 2, 0] rfl) H locs hP hD hS
      · refine lv_iload_n hx hb dX1_firstRuleFor_19 rfl (lv_at hl 2 rfl) ?_
        have hfk : fru ff TT rk = k := by rw [← hfr, show rk - k = N + 1 by omega]; exact frG_y (b01_n cme)
        exact y_ir K hP hD hS (Nat.le_of_ble_eq_true rfl) (Nat.le_of_ble_eq_true rfl) (ty := .int) rfl rfl dX1_firstRuleFor_20 (⟨nI k, rfl, by unfold ruI; rw [hfk, if_neg (by omega)], rfl⟩)
  exact lp2 _ 0  (Nat.zero_add rk) rfl   ls (lv_sub hl [1, 2, 0] rfl) H locs hP hD hS
set_option maxHeartbeats 4000000 in
set_option maxRecDepth 100000 in
theorem g_deedOf (l : Launch) (D : va_G) (cy : Nat → ClassId) (sk sv : Nat → Nat) (w : Wd) (ag g0 g1 g2 g3 g4 : Nat) (r : Nat) (df : Nat → Int32) (x : Int32) (c90 : wd_at w ag (.inr (1, [.ref g0, .ref g1, .ref g2, .ref g3, .ref g4, .int (nI r)]))) (c91 : wd_at w g0 (.inl (cy 2, 12, .inl df)))  (hr : r ≤ 12) : Ct l D cy sk sv yX1_deedOf wsX1_deedOf ({ frames := 0, cells := 0, slots := 0, locals := 0 }) [.ref ag, .int x] w (fun v w1 => ∃ (r1 : Int32), v = some (.int r1) ∧ (r1 = (if x < 0 ∨ nI r ≤ x then 1 else df x.toNatClampNeg)) ∧ w = w1) := by
  refine Ct.by (cc := cX1_deedOf) (maxL := 2) (ret := (some .int)) (by decide +kernel) rfl (Nat.le_of_ble_eq_true rfl) ?_
  intro p e s m args below meth c A Q F hnm K ls hl
  have F : wd_Fx p s m args meth c cX1_deedOf 2 wsX1_deedOf RX1 D cy sk sv A := F
  have hl : lv_has ls 2 [(0, .ref ag), (1, .int x)] := hl
  have hx := F.1.1
  have hb := F.1.2.1
  have hown := F.1.2.2.2.1
  have hts := F.1.2.2.2.2
  intro H locs hP hD hS
  refine lv_iload_n hx hb dX1_deedOf_0 rfl (lv_at hl 1 rfl) ?_
  refine lv_if_lt (tgt := 21) hx hb dX1_deedOf_1 (by decide) (fun c_0 => ?_) (fun c_0 => ?_)
  · refine lv_iconst (v := 1) hx hb dX1_deedOf_21 (by decide) ?_
    exact y_ir K hP hD hS (Nat.le_of_ble_eq_true rfl) (Nat.le_of_ble_eq_true rfl) (ty := .int) rfl rfl dX1_deedOf_22 (⟨1, rfl, by rw [if_pos (Or.inl c_0)], rfl⟩)
  · refine lv_iload_n hx hb dX1_deedOf_4 rfl (lv_at hl 1 rfl) ?_
    refine lv_aload_n hx hb dX1_deedOf_5 rfl (lv_at hl 0 rfl) ?_
    refine x_get (ref := "NoteHouse$Agent") F hP c90 rfl (fun _ h => List.mem_cons_of_mem _ (List.mem_append_right _ (h))) 5 (Nat.le_of_ble_eq_true rfl) (List.mem_cons_of_mem _ (List.mem_append_left _ (List.mem_of_getElem? (i := 0) rfl))) rfl rfl dX1_deedOf_6 ?_
    refine lv_icmp_ge (tgt := 21) hx hb dX1_deedOf_9 (by decide) (fun c_9 => ?_) (fun c_9 => ?_)
    · refine lv_iconst (v := 1) hx hb dX1_deedOf_21 (by decide) ?_
      exact y_ir K hP hD hS (Nat.le_of_ble_eq_true rfl) (Nat.le_of_ble_eq_true rfl) (ty := .int) rfl rfl dX1_deedOf_22 (⟨1, rfl, by rw [if_pos (Or.inr c_9)], rfl⟩)
    · obtain ⟨jx, hjx, ejx⟩ := nI_of c_0
      have hlx : jx < r := nI_lt_of (by rw [← ejx]; exact c_9) (by omega)
      refine lv_aload_n hx hb dX1_deedOf_12 rfl (lv_at hl 0 rfl) ?_
      refine x_get (ref := "NoteHouse$Agent") F hP c90 rfl (fun _ h => List.mem_cons_of_mem _ (List.mem_append_right _ (h))) 0 (Nat.le_of_ble_eq_true rfl) (List.mem_cons_of_mem _ (List.mem_append_left _ (List.mem_of_getElem? (i := 1) rfl))) rfl rfl dX1_deedOf_13 ?_
      refine lv_iload_n hx hb dX1_deedOf_16 rfl (lv_at hl 1 rfl) ?_
      refine x_iald F hP c91 (by rw [ejx]; exact vp_in_nI (by omega) (by decide)) dX1_deedOf_17 ?_
      refine lv_goto (tgt := 22) hx hb dX1_deedOf_18 (by decide) ?_
      exact y_ir K hP hD hS (Nat.le_of_ble_eq_true rfl) (Nat.le_of_ble_eq_true rfl) (ty := .int) rfl rfl dX1_deedOf_22 (⟨df x.toNatClampNeg, rfl, by rw [if_neg (fun q => q.elim c_0 c_9)], rfl⟩)
set_option maxHeartbeats 4000000 in
set_option maxRecDepth 100000 in
theorem g_takeSign (l : Launch) (D : va_G) (cy : Nat → ClassId) (sk sv : Nat → Nat) (w : Wd) (t b n a0 : Nat) (f : Nat → Int32) (c90 : wd_at w t (.inr (7, [.ref b, .int (nI n), .int (nI a0)]))) (c91 : wd_at w b (.inl (cy 0, 300, .inl f)))  (S : Nat → Prop) (s90 : S t) (hn : n ≤ 300) (ha : a0 ≤ n) : Ct l D cy sk sv yX1_takeSign wsX1_takeSign ({ frames := 2, cells := 0, slots := 0, locals := 41 }) [.ref t] w (fun v w1 => ∃ (a1 : Nat) (r1 : Int32), v = some (.int r1) ∧ (a1 = sgA f n a0) ∧ (r1 = sgR f n a0) ∧ (a0 ≤ a1) ∧ (a1 ≤ n) ∧ (narrow .char (.int r1) = .int r1) ∧ wd_kp S w w1 ∧ wd_at w1 t (.inr (7, [.ref b, .int (nI n), .int (nI a1)]))) := by
  refine Ct.by (cc := cX1_takeSign) (maxL := 1) (ret := (some .char)) (by decide +kernel) rfl (Nat.le_of_ble_eq_true rfl) ?_
  intro p e s m args below meth c A Q F hnm K ls hl
  have F : wd_Fx p s m args meth c cX1_takeSign 1 wsX1_takeSign RX1 D cy sk sv A := F
  have hl : lv_has ls 1 [(0, .ref t)] := hl
  have hx := F.1.1
  have hb := F.1.2.1
  have hown := F.1.2.2.2.1
  have hts := F.1.2.2.2.2
  intro H locs hP hD hS
  have kp0 : wd_kp S w w := wd_kp.rf
  refine lv_aload_n hx hb dX1_takeSign_0 rfl (lv_at hl 0 rfl) ?_
  refine lv_bipush (v := 60) hx hb dX1_takeSign_1 (by decide) ?_
  refine x_callV (n := 1) (As := [.int 60]) (rest := []) F hP hD hS (g_takes l D cy sk sv w t b n a0 f 60 c90 c91 (fun b => b = t) rfl (by omega) (by omega)) gX1_takeSign_X7_takes rfl rfl (by decide +kernel) ⟨(Nat.le_of_ble_eq_true rfl), (Nat.le_of_ble_eq_true rfl)⟩ rfl hl.1 (Nat.le_of_ble_eq_true rfl) c90 rfl dX1_takeSign_3 rfl ⟨(Nat.le_of_ble_eq_true rfl), (Nat.le_of_ble_eq_true rfl)⟩ (fun v2 w3 hp1 H locs hP hD hS => ?_)
  obtain ⟨ax4, rx5, rfl, rfl, rfl, hz6, hz7, hz8, kq10, k9⟩ := hp1
  have k11 := kq10.2 _ _ c91 (fun q9 : b = t => (wd_nk c91 c90 rfl) q9)
  have kp12 := kp0.tr kq10 (fun b9 hm q9 => (fun q9 => q9 ▸ s90) q9)
  refine W.eq (g2 := F0 m 6 ls [.int (tkR f n a0 60)]) rfl (W.widen (k := 0) (n := 0) (Nat.le_of_ble_eq_true rfl) (Nat.le_of_ble_eq_true rfl) ?_)
  refine lv_if_eq (tgt := 12) hx hb dX1_takeSign_6 (by decide) (fun ct1 => ?_) (fun ct1 => ?_)
  · refine lv_aload_n hx hb dX1_takeSign_12 rfl (lv_at hl 0 rfl) ?_
    refine lv_bipush (v := 62) hx hb dX1_takeSign_13 (by decide) ?_
    refine x_callV (n := 1) (As := [.int 62]) (rest := []) F hP hD hS (g_takes l D cy sk sv w3 t b n (tkA f n a0 60) f 62 k9 k11 (fun b => b = t) rfl (by omega) (by omega)) gX1_takeSign_X7_takes rfl rfl (by decide +kernel) ⟨(Nat.le_of_ble_eq_true rfl), (Nat.le_of_ble_eq_true rfl)⟩ rfl hl.1 (Nat.le_of_ble_eq_true rfl) k9 rfl dX1_takeSign_15 rfl ⟨(Nat.le_of_ble_eq_true rfl), (Nat.le_of_ble_eq_true rfl)⟩ (fun v14 w15 hp13 H locs hP hD hS => ?_)
    obtain ⟨ax16, rx17, rfl, rfl, rfl, hz18, hz19, hz20, kq22, k21⟩ := hp13
    have k23 := kq22.2 _ _ k11 (fun q9 : b = t => (wd_nk k11 k9 rfl) q9)
    have kp24 := kp12.tr kq22 (fun b9 hm q9 => (fun q9 => q9 ▸ s90) q9)
    refine W.eq (g2 := F0 m 18 ls [.int (tkR f n (tkA f n a0 60) 62)]) rfl (W.widen (k := 0) (n := 0) (Nat.le_of_ble_eq_true rfl) (Nat.le_of_ble_eq_true rfl) ?_)
    refine lv_if_eq (tgt := 24) hx hb dX1_takeSign_18 (by decide) (fun ct2 => ?_) (fun ct2 => ?_)
    · refine lv_aload_n hx hb dX1_takeSign_24 rfl (lv_at hl 0 rfl) ?_
      refine lv_bipush (v := 61) hx hb dX1_takeSign_25 (by decide) ?_
      refine x_callV (n := 1) (As := [.int 61]) (rest := []) F hP hD hS (g_takes l D cy sk sv w15 t b n (tkA f n (tkA f n a0 60) 62) f 61 k21 k23 (fun b => b = t) rfl (by omega) (by omega)) gX1_takeSign_X7_takes rfl rfl (by decide +kernel) ⟨(Nat.le_of_ble_eq_true rfl), (Nat.le_of_ble_eq_true rfl)⟩ rfl hl.1 (Nat.le_of_ble_eq_true rfl) k21 rfl dX1_takeSign_27 rfl ⟨(Nat.le_of_ble_eq_true rfl), (Nat.le_of_ble_eq_true rfl)⟩ (fun v26 w27 hp25 H locs hP hD hS => ?_)
      obtain ⟨ax28, rx29, rfl, rfl, rfl, hz30, hz31, hz32, kq34, k33⟩ := hp25
      have k35 := kq34.2 _ _ k23 (fun q9 : b = t => (wd_nk k23 k21 rfl) q9)
      have kp36 := kp24.tr kq34 (fun b9 hm q9 => (fun q9 => q9 ▸ s90) q9)
      refine W.eq (g2 := F0 m 30 ls [.int (tkR f n (tkA f n (tkA f n a0 60) 62) 61)]) rfl (W.widen (k := 0) (n := 0) (Nat.le_of_ble_eq_true rfl) (Nat.le_of_ble_eq_true rfl) ?_)
      refine lv_if_eq (tgt := 38) hx hb dX1_takeSign_30 (by decide) (fun ct3 => ?_) (fun ct3 => ?_)
      · refine lv_bipush (v := 32) hx hb dX1_takeSign_38 (by decide) ?_
        obtain ⟨es1, es2⟩ := sg_4 (B := f) (n := n) (a := a0) ha ct1 ct2 ct3
        exact y_ir K hP hD hS (Nat.le_of_ble_eq_true rfl) (Nat.le_of_ble_eq_true rfl) (ty := .char) rfl rfl dX1_takeSign_40 (⟨(tkA f n (tkA f n (tkA f n a0 60) 62) 61), 32, rfl, es2, es1, by omega, by omega, by decide, kp36, k33⟩)
      · refine lv_bipush (v := 61) hx hb dX1_takeSign_33 (by decide) ?_
        refine lv_goto (tgt := 40) hx hb dX1_takeSign_35 (by decide) ?_
        obtain ⟨es1, es2⟩ := sg_3 (B := f) (n := n) (a := a0) ha ct1 ct2 ct3
        exact y_ir K hP hD hS (Nat.le_of_ble_eq_true rfl) (Nat.le_of_ble_eq_true rfl) (ty := .char) rfl rfl dX1_takeSign_40 (⟨(tkA f n (tkA f n (tkA f n a0 60) 62) 61), 61, rfl, es2, es1, by omega, by omega, by decide, kp36, k33⟩)
    · refine lv_bipush (v := 62) hx hb dX1_takeSign_21 (by decide) ?_
      obtain ⟨es1, es2⟩ := sg_2 (B := f) (n := n) (a := a0) ha ct1 ct2
      exact y_ir K hP hD hS (Nat.le_of_ble_eq_true rfl) (Nat.le_of_ble_eq_true rfl) (ty := .char) rfl rfl dX1_takeSign_23 (⟨(tkA f n (tkA f n a0 60) 62), 62, rfl, es2, es1, by omega, by omega, by decide, kp24, k21⟩)
  · refine lv_bipush (v := 60) hx hb dX1_takeSign_9 (by decide) ?_
    obtain ⟨es1, es2⟩ := sg_1 (B := f) (n := n) (a := a0) ct1
    exact y_ir K hP hD hS (Nat.le_of_ble_eq_true rfl) (Nat.le_of_ble_eq_true rfl) (ty := .char) rfl rfl dX1_takeSign_11 (⟨(tkA f n a0 60), 60, rfl, es2, es1, by omega, by omega, by decide, kp12, k9⟩)
set_option maxHeartbeats 4000000 in
set_option maxRecDepth 100000 in
theorem g_learnCond (l : Launch) (D : va_G) (cy : Nat → ClassId) (sk sv : Nat → Nat) (w : Wd) (ag g0 g1 g2 g3 g4 : Nat) (t b n a0 r c1 : Nat) (rc : Int32) (cf nf sf uf : Nat → Int32) (f : Nat → Int32) (c90 : wd_at w ag (.inr (1, [.ref g0, .ref g1, .ref g2, .ref g3, .ref g4, .int rc]))) (c91 : wd_at w g1 (.inl (cy 2, 12, .inl cf))) (c92 : wd_at w g2 (.inl (cy 2, 72, .inl nf))) (c93 : wd_at w g3 (.inl (cy 1, 72, .inl sf))) (c94 : wd_at w g4 (.inl (cy 2, 72, .inl uf))) (c95 : wd_at w t (.inr (7, [.ref b, .int (nI n), .int (nI a0)]))) (c96 : wd_at w b (.inl (cy 0, 300, .inl f)))  (S : Nat → Prop) (s90 : S t) (s91 : S g2) (s92 : S g3) (s93 : S g4) (hn : n ≤ 300) (ha : a0 ≤ n) (hok : aOK cf nf) (hr : r < 12) (hc1 : c1 ≤ 6) (ng2g3 : g2 ≠ g3) (ng2g4 : g2 ≠ g4) (ng3g4 : g3 ≠ g4) : Ct l D cy sk sv yX1_learnCond wsX1_learnCond ({ frames := 7, cells := 0, slots := 0, locals := 159 }) [.ref ag, .ref t, .int (nI r), .int (nI c1)] w (fun v w1 => ∃ (a1 : Nat) (nf1 : Nat → Int32) (sf1 : Nat → Int32) (uf1 : Nat → Int32) (r1 : Int32), v = some (.int r1) ∧ (a0 ≤ a1) ∧ (a1 ≤ n) ∧ (aOK cf nf1) ∧ ((r1 = 0 ∨ ∃ k, 0 < k ∧ k < 2000 ∧ r1 = nI k) ∧ (r1 = 0 → c1 < 6)) ∧ (r1 = 0 → cdO f n a0 ∧ a1 = cdE f n a0 ∧ nf1 = upd nf (nI (r * 6 + c1)).toNatClampNeg (nI (cdK f n a0)) ∧ sf1 = upd sf (nI (r * 6 + c1)).toNatClampNeg (sgR f n (cdQ f n a0)) ∧ uf1 = upd uf (nI (r * 6 + c1)).toNatClampNeg (tnR f n (cdP f n a0) 6)) ∧ (¬ r1 = 0 → ¬ (cdO f n a0 ∧ c1 < 6)) ∧ wd_kp S w w1 ∧ wd_at w1 t (.inr (7, [.ref b, .int (nI n), .int (nI a1)])) ∧ wd_at w1 g2 (.inl (cy 2, 72, .inl nf1)) ∧ wd_at w1 g3 (.inl (cy 1, 72, .inl sf1)) ∧ wd_at w1 g4 (.inl (cy 2, 72, .inl uf1))) := by
  refine Ct.by (cc := cX1_learnCond) (maxL := 8) (ret := (some .int)) (by decide +kernel) rfl (Nat.le_of_ble_eq_true rfl) ?_
  intro p e s m args below meth c A Q F hnm K ls hl
  have F : wd_Fx p s m args meth c cX1_learnCond 8 wsX1_learnCond RX1 D cy sk sv A := F
  have hl : lv_has ls 8 [(0, .ref ag), (1, .ref t), (2, .int (nI r)), (3, .int (nI c1))] := hl
  have hx := F.1.1
  have hb := F.1.2.1
  have hown := F.1.2.2.2.1
  have hts := F.1.2.2.2.2
  intro H locs hP hD hS
  have kp0 : wd_kp S w w := wd_kp.rf
  refine lv_aload_n hx hb dX1_learnCond_0 rfl (lv_at hl 1 rfl) ?_
  refine x_callV (n := 0) (As := []) (rest := []) F hP hD hS (g_nextPlace l D cy sk sv w t b n a0 f c95 c96 (fun b => b = t) rfl (by omega) (by omega)) gX1_learnCond_X7_nextPlace rfl rfl (by decide +kernel) ⟨(Nat.le_of_ble_eq_true rfl), (Nat.le_of_ble_eq_true rfl)⟩ rfl hl.1 (Nat.le_of_ble_eq_true rfl) c95 rfl dX1_learnCond_1 rfl ⟨(Nat.le_of_ble_eq_true rfl), (Nat.le_of_ble_eq_true rfl)⟩ (fun v2 w3 hp1 H locs hP hD hS => ?_)
  obtain ⟨ax4, rfl, rfl, hz5, hz6, kq8, k7⟩ := hp1
  have k9 := kq8.2 _ _ c90 (fun q9 : ag = t => (wd_nk c90 c95 rfl) q9)
  have k10 := kq8.2 _ _ c91 (fun q9 : g1 = t => (wd_nk c91 c95 rfl) q9)
  have k11 := kq8.2 _ _ c92 (fun q9 : g2 = t => (wd_nk c92 c95 rfl) q9)
  have k12 := kq8.2 _ _ c93 (fun q9 : g3 = t => (wd_nk c93 c95 rfl) q9)
  have k13 := kq8.2 _ _ c94 (fun q9 : g4 = t => (wd_nk c94 c95 rfl) q9)
  have k14 := kq8.2 _ _ c96 (fun q9 : b = t => (wd_nk c96 c95 rfl) q9)
  have kp15 := kp0.tr kq8 (fun b9 hm q9 => (fun q9 => q9 ▸ s90) q9)
  refine W.eq (g2 := F0 m 4 ls [.int (nI (nx f n a0))]) rfl (W.widen (k := 0) (n := 0) (Nat.le_of_ble_eq_true rfl) (Nat.le_of_ble_eq_true rfl) ?_)
  refine lv_istore (lv' := [(4, .int (nI (nx f n a0))), (0, .ref ag), (1, .ref t), (2, .int (nI r)), (3, .int (nI c1))]) hx hb dX1_learnCond_4 hl (by decide) rfl (fun ls hl => ?_)
  refine lv_aload_n hx hb dX1_learnCond_6 rfl (lv_at hl 2 rfl) ?_
  refine x_ldcS F (i := 2) (tx := "hand advised stopped age late amount left day") (by decide +kernel) dX1_learnCond_7 ?_
  refine x_callV (n := 1) (As := [.ref (sk 2)]) (rest := []) F hP hD hS (g_takeWord l D cy sk sv w3 t b n (nx f n a0) 2 f k7 k14 (fun b => b = t) rfl (by omega) (by omega) (by omega)) gX1_learnCond_X7_takeWord rfl rfl (by decide +kernel) ⟨(Nat.le_of_ble_eq_true rfl), (Nat.le_of_ble_eq_true rfl)⟩ rfl hl.1 (Nat.le_of_ble_eq_true rfl) k7 rfl dX1_learnCond_9 rfl ⟨(Nat.le_of_ble_eq_true rfl), (Nat.le_of_ble_eq_true rfl)⟩ (fun v17 w18 hp16 H locs hP hD hS => ?_)
  obtain ⟨ax19, rx20, rfl, rfl, hz21, hz22, hz23, hz24, kq26, k25⟩ := hp16
  have k27 := kq26.2 _ _ k9 (fun q9 : ag = t => (wd_nk k9 k7 rfl) q9)
  have k28 := kq26.2 _ _ k10 (fun q9 : g1 = t => (wd_nk k10 k7 rfl) q9)
  have k29 := kq26.2 _ _ k11 (fun q9 : g2 = t => (wd_nk k11 k7 rfl) q9)
  have k30 := kq26.2 _ _ k12 (fun q9 : g3 = t => (wd_nk k12 k7 rfl) q9)
  have k31 := kq26.2 _ _ k13 (fun q9 : g4 = t => (wd_nk k13 k7 rfl) q9)
  have k32 := kq26.2 _ _ k14 (fun q9 : b = t => (wd_nk k14 k7 rfl) q9)
  have kp33 := kp15.tr kq26 (fun b9 hm q9 => (fun q9 => q9 ▸ s90) q9)
  refine W.eq (g2 := F0 m 12 ls [.int rx20]) rfl (W.widen (k := 0) (n := 0) (Nat.le_of_ble_eq_true rfl) (Nat.le_of_ble_eq_true rfl) ?_)
  refine lv_istore (lv' := [(5, .int rx20), (4, .int (nI (nx f n a0))), (0, .ref ag), (1, .ref t), (2, .int (nI r)), (3, .int (nI c1))]) hx hb dX1_learnCond_12 hl (by decide) rfl (fun ls hl => ?_)
  refine lv_iload hx hb dX1_learnCond_14 (lv_at hl 0 rfl) ?_
  refine lv_iconst (v := (-1)) hx hb dX1_learnCond_16 (by decide) ?_
  refine lv_icmp_ne (tgt := 27) hx hb dX1_learnCond_17 (by decide) (fun c_34 => ?_) (fun c_34 => ?_)
  · have hk9 : ¬ (cdK f n a0) = 8 := fun q => c_34 (hz23.trans ((twR_no (B := f) (n := n) (a := nx f n a0) (i := 2) (by decide)).mpr q))
    have hkl : (cdK f n a0) < 8 := by have h9 : (cdK f n a0) ≤ 8 := twK_le (B := f) (n := n) (a := nx f n a0) (i := 2); omega
    have euu : rx20 = nI (cdK f n a0) := hz23.trans (twR_yes (B := f) (n := n) (a := nx f n a0) (i := 2) hk9)
    subst euu
    refine lv_iload_n hx hb dX1_learnCond_27 rfl (lv_at hl 5 rfl) ?_
    refine lv_bipush (v := 6) hx hb dX1_learnCond_28 (by decide) ?_
    refine lv_icmp_lt (tgt := 40) hx hb dX1_learnCond_30 (by decide) (fun c_35 => ?_) (fun c_35 => ?_)
    · have hc6 : c1 < 6 := Nat.lt_of_not_le (fun q => nI_nlt (a := c1) (b := 6) q (by omega) c_35)
      refine lv_aload_n hx hb dX1_learnCond_40 rfl (lv_at hl 3 rfl) ?_
      refine x_callS (n := 1) (As := [.ref t]) (rest := []) F hP hD hS (g_takeSign l D cy sk sv w18 t b n (twA f n (nx f n a0) 2) f k25 k32 (fun b => b = t) rfl (by omega) (by omega)) gX1_learnCond_X1_takeSign rfl (by decide +kernel) ⟨(Nat.le_of_ble_eq_true rfl), (Nat.le_of_ble_eq_true rfl)⟩ rfl hl.1 (Nat.le_of_ble_eq_true rfl) dX1_learnCond_41 rfl ⟨(Nat.le_of_ble_eq_true rfl), (Nat.le_of_ble_eq_true rfl)⟩ (fun v37 w38 hp36 H locs hP hD hS => ?_)
      obtain ⟨ax39, rx40, rfl, rfl, rfl, hz41, hz42, hz43, kq45, k44⟩ := hp36
      have k46 := kq45.2 _ _ k27 (fun q9 : ag = t => (wd_nk k27 k25 rfl) q9)
      have k47 := kq45.2 _ _ k28 (fun q9 : g1 = t => (wd_nk k28 k25 rfl) q9)
      have k48 := kq45.2 _ _ k29 (fun q9 : g2 = t => (wd_nk k29 k25 rfl) q9)
      have k49 := kq45.2 _ _ k30 (fun q9 : g3 = t => (wd_nk k30 k25 rfl) q9)
      have k50 := kq45.2 _ _ k31 (fun q9 : g4 = t => (wd_nk k31 k25 rfl) q9)
      have k51 := kq45.2 _ _ k32 (fun q9 : b = t => (wd_nk k32 k25 rfl) q9)
      have kp52 := kp33.tr kq45 (fun b9 hm q9 => (fun q9 => q9 ▸ s90) q9)
      refine W.eq (g2 := F0 m 44 ls [.int (sgR f n (twA f n (nx f n a0) 2))]) rfl (W.widen (k := 0) (n := 0) (Nat.le_of_ble_eq_true rfl) (Nat.le_of_ble_eq_true rfl) ?_)
      refine lv_istore (lv' := [(6, .int (sgR f n (twA f n (nx f n a0) 2))), (5, .int (nI (cdK f n a0))), (4, .int (nI (nx f n a0))), (0, .ref ag), (1, .ref t), (2, .int (nI r)), (3, .int (nI c1))]) hx hb dX1_learnCond_44 hl (by decide) rfl (fun ls hl => ?_)
      refine lv_iload hx hb dX1_learnCond_46 (lv_at hl 0 rfl) ?_
      refine lv_bipush (v := 32) hx hb dX1_learnCond_48 (by decide) ?_
      refine lv_icmp_ne (tgt := 59) hx hb dX1_learnCond_50 (by decide) (fun cs => ?_) (fun cs => ?_)
      · have hso : sgO f n (cdQ f n a0) = true := Classical.byContradiction (fun q => cs (sgR_32.mpr q))
        refine lv_aload_n hx hb dX1_learnCond_59 rfl (lv_at hl 4 rfl) ?_
        refine lv_bipush (v := 6) hx hb dX1_learnCond_60 (by decide) ?_
        refine x_callV (n := 1) (As := [.int 6]) (rest := []) F hP hD hS (g_takeNumber l D cy sk sv w38 t b n (sgA f n (twA f n (nx f n a0) 2)) 6 f k44 k51 (fun b => b = t) rfl (by omega) (by omega) (by omega)) gX1_learnCond_X7_takeNumber rfl rfl (by decide +kernel) ⟨(Nat.le_of_ble_eq_true rfl), (Nat.le_of_ble_eq_true rfl)⟩ rfl hl.1 (Nat.le_of_ble_eq_true rfl) k44 rfl dX1_learnCond_62 rfl ⟨(Nat.le_of_ble_eq_true rfl), (Nat.le_of_ble_eq_true rfl)⟩ (fun v54 w55 hp53 H locs hP hD hS => ?_)
        obtain ⟨ax56, rx57, rfl, rfl, rfl, hz58, hz59, kq61, k60⟩ := hp53
        have k62 := kq61.2 _ _ k46 (fun q9 : ag = t => (wd_nk k46 k44 rfl) q9)
        have k63 := kq61.2 _ _ k47 (fun q9 : g1 = t => (wd_nk k47 k44 rfl) q9)
        have k64 := kq61.2 _ _ k48 (fun q9 : g2 = t => (wd_nk k48 k44 rfl) q9)
        have k65 := kq61.2 _ _ k49 (fun q9 : g3 = t => (wd_nk k49 k44 rfl) q9)
        have k66 := kq61.2 _ _ k50 (fun q9 : g4 = t => (wd_nk k50 k44 rfl) q9)
        have k67 := kq61.2 _ _ k51 (fun q9 : b = t => (wd_nk k51 k44 rfl) q9)
        have kp68 := kp52.tr kq61 (fun b9 hm q9 => (fun q9 => q9 ▸ s90) q9)
        refine W.eq (g2 := F0 m 65 ls [.int (tnR f n (sgA f n (twA f n (nx f n a0) 2)) 6)]) rfl (W.widen (k := 0) (n := 0) (Nat.le_of_ble_eq_true rfl) (Nat.le_of_ble_eq_true rfl) ?_)
        refine lv_istore (lv' := [(7, .int (tnR f n (sgA f n (twA f n (nx f n a0) 2)) 6)), (6, .int (sgR f n (twA f n (nx f n a0) 2))), (5, .int (nI (cdK f n a0))), (4, .int (nI (nx f n a0))), (0, .ref ag), (1, .ref t), (2, .int (nI r)), (3, .int (nI c1))]) hx hb dX1_learnCond_65 hl (by decide) rfl (fun ls hl => ?_)
        refine lv_iload hx hb dX1_learnCond_67 (lv_at hl 0 rfl) ?_
        refine lv_if_ge (tgt := 89) hx hb dX1_learnCond_69 (by decide) (fun cg => ?_) (fun cg => ?_)
        · refine lv_aload_n hx hb dX1_learnCond_89 rfl (lv_at hl 4 rfl) ?_
          refine x_get (ref := "NoteHouse$Agent") F hP k62 rfl (fun _ h => List.mem_cons_of_mem _ (List.mem_append_left _ (List.mem_append_right _ (h)))) 2 (Nat.le_of_ble_eq_true rfl) (List.mem_cons_of_mem _ (List.mem_append_left _ (List.mem_append_left _ (List.mem_append_left _ (List.mem_of_getElem? (i := 0) rfl))))) rfl rfl dX1_learnCond_90 ?_
          refine lv_iload_n hx hb dX1_learnCond_93 rfl (lv_at hl 6 rfl) ?_
          refine lv_bipush (v := 6) hx hb dX1_learnCond_94 (by decide) ?_
          refine lv_imul hx hb dX1_learnCond_96 ?_
          rw [show ((nI r) * 6 : Int32) = nI (r * 6) from pk_mul r 6]
          refine lv_iload_n hx hb dX1_learnCond_97 rfl (lv_at hl 7 rfl) ?_
          refine lv_iadd hx hb dX1_learnCond_98 ?_
          rw [show ((nI (r * 6)) + (nI c1) : Int32) = nI ((r * 6) + c1) from nI_add (r * 6) c1]
          refine lv_iload hx hb dX1_learnCond_99 (lv_at hl 2 rfl) ?_
          refine y_iast F hP hD hS k64 (vp_in_nI (n := ((r * 6) + c1)) (N := 72) (by omega) (by decide)) dX1_learnCond_101 (fun w69 ew70 H locs hP hD hS => ?_)
          have k71 := wd_at.pt ew70 k62 (wd_nk k62 k64 rfl)
          have k72 := wd_at.pt ew70 k63 (wd_nk k63 k64 rfl)
          have k73 : wd_at w69 g2 (.inl (cy 2, 72, .inl (upd nf (nI ((r * 6) + c1)).toNatClampNeg (nI (cdK f n a0))))) := wd_at.ps ew70 k64
          have k74 := wd_at.pt ew70 k65 (Ne.symm ng2g3)
          have k75 := wd_at.pt ew70 k66 (Ne.symm ng2g4)
          have k76 := wd_at.pt ew70 k60 (wd_nk k60 k64 rfl)
          have k77 := wd_at.pt ew70 k67 (wd_nk k67 k64 rfl)
          have kp78 := kp68.put ew70 s91
          refine lv_aload_n hx hb dX1_learnCond_102 rfl (lv_at hl 4 rfl) ?_
          refine x_get (ref := "NoteHouse$Agent") F hP k71 rfl (fun _ h => List.mem_cons_of_mem _ (List.mem_append_left _ (List.mem_append_right _ (h)))) 3 (Nat.le_of_ble_eq_true rfl) (List.mem_cons_of_mem _ (List.mem_append_left _ (List.mem_append_left _ (List.mem_append_left _ (List.mem_of_getElem? (i := 1) rfl))))) rfl rfl dX1_learnCond_103 ?_
          refine lv_iload_n hx hb dX1_learnCond_106 rfl (lv_at hl 6 rfl) ?_
          refine lv_bipush (v := 6) hx hb dX1_learnCond_107 (by decide) ?_
          refine lv_imul hx hb dX1_learnCond_109 ?_
          rw [show ((nI r) * 6 : Int32) = nI (r * 6) from pk_mul r 6]
          refine lv_iload_n hx hb dX1_learnCond_110 rfl (lv_at hl 7 rfl) ?_
          refine lv_iadd hx hb dX1_learnCond_111 ?_
          rw [show ((nI (r * 6)) + (nI c1) : Int32) = nI ((r * 6) + c1) from nI_add (r * 6) c1]
          refine lv_iload hx hb dX1_learnCond_112 (lv_at hl 1 rfl) ?_
          refine y_cast F hP hD hS k74 (vp_in_nI (n := ((r * 6) + c1)) (N := 72) (by omega) (by decide)) dX1_learnCond_114 (fun w79 ew80 H locs hP hD hS => ?_)
          have k81 := wd_at.pt ew80 k71 (wd_nk k71 k74 rfl)
          have k82 := wd_at.pt ew80 k72 (wd_nk k72 k74 rfl)
          have k83 := wd_at.pt ew80 k73 ng2g3
          have k84 : wd_at w79 g3 (.inl (cy 1, 72, .inl (upd sf (nI ((r * 6) + c1)).toNatClampNeg (vp_nar .char (sgR f n (twA f n (nx f n a0) 2)))))) := wd_at.ps ew80 k74
          have k85 := wd_at.pt ew80 k75 (Ne.symm ng3g4)
          have k86 := wd_at.pt ew80 k76 (wd_nk k76 k74 rfl)
          have k87 := wd_at.pt ew80 k77 (wd_nk k77 k74 rfl)
          have kp88 := kp78.put ew80 s92
          refine lv_aload_n hx hb dX1_learnCond_115 rfl (lv_at hl 4 rfl) ?_
          refine x_get (ref := "NoteHouse$Agent") F hP k81 rfl (fun _ h => List.mem_cons_of_mem _ (List.mem_append_left _ (List.mem_append_right _ (h)))) 4 (Nat.le_of_ble_eq_true rfl) (List.mem_cons_of_mem _ (List.mem_append_left _ (List.mem_append_left _ (List.mem_append_left _ (List.mem_of_getElem? (i := 2) rfl))))) rfl rfl dX1_learnCond_116 ?_
          refine lv_iload_n hx hb dX1_learnCond_119 rfl (lv_at hl 6 rfl) ?_
          refine lv_bipush (v := 6) hx hb dX1_learnCond_120 (by decide) ?_
          refine lv_imul hx hb dX1_learnCond_122 ?_
          rw [show ((nI r) * 6 : Int32) = nI (r * 6) from pk_mul r 6]
          refine lv_iload_n hx hb dX1_learnCond_123 rfl (lv_at hl 7 rfl) ?_
          refine lv_iadd hx hb dX1_learnCond_124 ?_
          rw [show ((nI (r * 6)) + (nI c1) : Int32) = nI ((r * 6) + c1) from nI_add (r * 6) c1]
          refine lv_iload hx hb dX1_learnCond_125 (lv_at hl 0 rfl) ?_
          refine y_iast F hP hD hS k85 (vp_in_nI (n := ((r * 6) + c1)) (N := 72) (by omega) (by decide)) dX1_learnCond_127 (fun w89 ew90 H locs hP hD hS => ?_)
          have k91 := wd_at.pt ew90 k81 (wd_nk k81 k85 rfl)
          have k92 := wd_at.pt ew90 k82 (wd_nk k82 k85 rfl)
          have k93 := wd_at.pt ew90 k83 ng2g4
          have k94 := wd_at.pt ew90 k84 ng3g4
          have k95 : wd_at w89 g4 (.inl (cy 2, 72, .inl (upd uf (nI ((r * 6) + c1)).toNatClampNeg (tnR f n (sgA f n (twA f n (nx f n a0) 2)) 6)))) := wd_at.ps ew90 k85
          have k96 := wd_at.pt ew90 k86 (wd_nk k86 k85 rfl)
          have k97 := wd_at.pt ew90 k87 (wd_nk k87 k85 rfl)
          have kp98 := kp88.put ew90 s93
          refine lv_iconst (v := 0) hx hb dX1_learnCond_128 (by decide) ?_
          exact y_ir K hP hD hS (Nat.le_of_ble_eq_true rfl) (Nat.le_of_ble_eq_true rfl) (ty := .int) rfl rfl dX1_learnCond_129 (⟨(tnA f n (sgA f n (twA f n (nx f n a0) 2)) 6), upd nf (nI ((r * 6) + c1)).toNatClampNeg (nI (cdK f n a0)), upd sf (nI ((r * 6) + c1)).toNatClampNeg (vp_nar .char (sgR f n (twA f n (nx f n a0) 2))), upd uf (nI ((r * 6) + c1)).toNatClampNeg (tnR f n (sgA f n (twA f n (nx f n a0) 2)) 6), 0, rfl, by omega, by omega, (hok.n (j := r * 6 + c1) (by omega) hkl), ⟨Or.inl rfl, fun _ => hc6⟩, fun _ => ⟨⟨hk9, hso, Int32.not_lt.mpr cg⟩, rfl, rfl, by show upd sf (nI (r * 6 + c1)).toNatClampNeg (vp_nar .char (sgR f n (cdQ f n a0))) = _; rw [sgR_c], rfl⟩, fun h => absurd rfl h, kp98, k96, k93, k94, k95⟩)
        · refine lv_aload_n hx hb dX1_learnCond_72 rfl (lv_at hl 5 rfl) ?_
          refine lv_iload hx hb dX1_learnCond_73 (lv_at hl 0 rfl) ?_
          refine lv_bipush (v := (-2)) hx hb dX1_learnCond_75 (by decide) ?_
          refine lv_icmp_ne (tgt := 84) hx hb dX1_learnCond_77 (by decide) (fun c_99 => ?_) (fun c_99 => ?_)
          · refine lv_iconst (v := 0) hx hb dX1_learnCond_84 (by decide) ?_
            refine x_callV (n := 1) (As := [.int 0]) (rest := []) F hP hD hS (g_faultHere l D cy sk sv w55 t b n (tnA f n (sgA f n (twA f n (nx f n a0) 2)) 6) 0 f k60 k67 (fun b => b = t) rfl (by omega) (by omega)) gX1_learnCond_X7_faultHere rfl rfl (by decide +kernel) ⟨(Nat.le_of_ble_eq_true rfl), (Nat.le_of_ble_eq_true rfl)⟩ rfl hl.1 (Nat.le_of_ble_eq_true rfl) k60 rfl dX1_learnCond_85 rfl ⟨(Nat.le_of_ble_eq_true rfl), (Nat.le_of_ble_eq_true rfl)⟩ (fun v101 w102 hp100 H locs hP hD hS => ?_)
            obtain ⟨ax103, rfl, rfl, hz104, hz105, kq107, k106⟩ := hp100
            have k108 := kq107.2 _ _ k62 (fun q9 : ag = t => (wd_nk k62 k60 rfl) q9)
            have k109 := kq107.2 _ _ k63 (fun q9 : g1 = t => (wd_nk k63 k60 rfl) q9)
            have k110 := kq107.2 _ _ k64 (fun q9 : g2 = t => (wd_nk k64 k60 rfl) q9)
            have k111 := kq107.2 _ _ k65 (fun q9 : g3 = t => (wd_nk k65 k60 rfl) q9)
            have k112 := kq107.2 _ _ k66 (fun q9 : g4 = t => (wd_nk k66 k60 rfl) q9)
            have k113 := kq107.2 _ _ k67 (fun q9 : b = t => (wd_nk k67 k60 rfl) q9)
            have kp114 := kp68.tr kq107 (fun b9 hm q9 => (fun q9 => q9 ▸ s90) q9)
            refine W.eq (g2 := F0 m 88 ls [.int (nI (1 + 4 * (nx f n (tnA f n (sgA f n (twA f n (nx f n a0) 2)) 6)) + 0))]) rfl (W.widen (k := 0) (n := 0) (Nat.le_of_ble_eq_true rfl) (Nat.le_of_ble_eq_true rfl) ?_)
            exact y_ir K hP hD hS (Nat.le_of_ble_eq_true rfl) (Nat.le_of_ble_eq_true rfl) (ty := .int) rfl rfl dX1_learnCond_88 (⟨(nx f n (tnA f n (sgA f n (twA f n (nx f n a0) 2)) 6)), nf, sf, uf, nI (1 + 4 * (nx f n (tnA f n (sgA f n (twA f n (nx f n a0) 2)) 6)) + 0), rfl, by omega, by omega, hok, ⟨Or.inr ⟨_, by omega, by omega, rfl⟩, fun q => absurd q (nI_ne0 (by omega) (by omega))⟩, fun q => absurd q (nI_ne0 (by omega) (by omega)), fun _ q => q.1.2.2 (Int32.not_le.mp cg), kp114, k106, k110, k111, k112⟩)
          · refine lv_iconst (v := 1) hx hb dX1_learnCond_80 (by decide) ?_
            refine lv_goto (tgt := 85) hx hb dX1_learnCond_81 (by decide) ?_
            refine x_callV (n := 1) (As := [.int 1]) (rest := []) F hP hD hS (g_faultHere l D cy sk sv w55 t b n (tnA f n (sgA f n (twA f n (nx f n a0) 2)) 6) 1 f k60 k67 (fun b => b = t) rfl (by omega) (by omega)) gX1_learnCond_X7_faultHere rfl rfl (by decide +kernel) ⟨(Nat.le_of_ble_eq_true rfl), (Nat.le_of_ble_eq_true rfl)⟩ rfl hl.1 (Nat.le_of_ble_eq_true rfl) k60 rfl dX1_learnCond_85 rfl ⟨(Nat.le_of_ble_eq_true rfl), (Nat.le_of_ble_eq_true rfl)⟩ (fun v116 w117 hp115 H locs hP hD hS => ?_)
            obtain ⟨ax118, rfl, rfl, hz119, hz120, kq122, k121⟩ := hp115
            have k123 := kq122.2 _ _ k62 (fun q9 : ag = t => (wd_nk k62 k60 rfl) q9)
            have k124 := kq122.2 _ _ k63 (fun q9 : g1 = t => (wd_nk k63 k60 rfl) q9)
            have k125 := kq122.2 _ _ k64 (fun q9 : g2 = t => (wd_nk k64 k60 rfl) q9)
            have k126 := kq122.2 _ _ k65 (fun q9 : g3 = t => (wd_nk k65 k60 rfl) q9)
            have k127 := kq122.2 _ _ k66 (fun q9 : g4 = t => (wd_nk k66 k60 rfl) q9)
            have k128 := kq122.2 _ _ k67 (fun q9 : b = t => (wd_nk k67 k60 rfl) q9)
            have kp129 := kp68.tr kq122 (fun b9 hm q9 => (fun q9 => q9 ▸ s90) q9)
            refine W.eq (g2 := F0 m 88 ls [.int (nI (1 + 4 * (nx f n (tnA f n (sgA f n (twA f n (nx f n a0) 2)) 6)) + 1))]) rfl (W.widen (k := 0) (n := 0) (Nat.le_of_ble_eq_true rfl) (Nat.le_of_ble_eq_true rfl) ?_)
            exact y_ir K hP hD hS (Nat.le_of_ble_eq_true rfl) (Nat.le_of_ble_eq_true rfl) (ty := .int) rfl rfl dX1_learnCond_88 (⟨(nx f n (tnA f n (sgA f n (twA f n (nx f n a0) 2)) 6)), nf, sf, uf, nI (1 + 4 * (nx f n (tnA f n (sgA f n (twA f n (nx f n a0) 2)) 6)) + 1), rfl, by omega, by omega, hok, ⟨Or.inr ⟨_, by omega, by omega, rfl⟩, fun q => absurd q (nI_ne0 (by omega) (by omega))⟩, fun q => absurd q (nI_ne0 (by omega) (by omega)), fun _ q => q.1.2.2 (Int32.not_le.mp cg), kp129, k121, k125, k126, k127⟩)
      · have hso : ¬ sgO f n (cdQ f n a0) = true := sgR_32.mp cs
        refine lv_aload_n hx hb dX1_learnCond_53 rfl (lv_at hl 4 rfl) ?_
        refine lv_iconst (v := 0) hx hb dX1_learnCond_54 (by decide) ?_
        refine x_callV (n := 1) (As := [.int 0]) (rest := []) F hP hD hS (g_faultHere l D cy sk sv w38 t b n (sgA f n (twA f n (nx f n a0) 2)) 0 f k44 k51 (fun b => b = t) rfl (by omega) (by omega)) gX1_learnCond_X7_faultHere rfl rfl (by decide +kernel) ⟨(Nat.le_of_ble_eq_true rfl), (Nat.le_of_ble_eq_true rfl)⟩ rfl hl.1 (Nat.le_of_ble_eq_true rfl) k44 rfl dX1_learnCond_55 rfl ⟨(Nat.le_of_ble_eq_true rfl), (Nat.le_of_ble_eq_true rfl)⟩ (fun v131 w132 hp130 H locs hP hD hS => ?_)
        obtain ⟨ax133, rfl, rfl, hz134, hz135, kq137, k136⟩ := hp130
        have k138 := kq137.2 _ _ k46 (fun q9 : ag = t => (wd_nk k46 k44 rfl) q9)
        have k139 := kq137.2 _ _ k47 (fun q9 : g1 = t => (wd_nk k47 k44 rfl) q9)
        have k140 := kq137.2 _ _ k48 (fun q9 : g2 = t => (wd_nk k48 k44 rfl) q9)
        have k141 := kq137.2 _ _ k49 (fun q9 : g3 = t => (wd_nk k49 k44 rfl) q9)
        have k142 := kq137.2 _ _ k50 (fun q9 : g4 = t => (wd_nk k50 k44 rfl) q9)
        have k143 := kq137.2 _ _ k51 (fun q9 : b = t => (wd_nk k51 k44 rfl) q9)
        have kp144 := kp52.tr kq137 (fun b9 hm q9 => (fun q9 => q9 ▸ s90) q9)
        refine W.eq (g2 := F0 m 58 ls [.int (nI (1 + 4 * (nx f n (sgA f n (twA f n (nx f n a0) 2))) + 0))]) rfl (W.widen (k := 0) (n := 0) (Nat.le_of_ble_eq_true rfl) (Nat.le_of_ble_eq_true rfl) ?_)
        exact y_ir K hP hD hS (Nat.le_of_ble_eq_true rfl) (Nat.le_of_ble_eq_true rfl) (ty := .int) rfl rfl dX1_learnCond_58 (⟨(nx f n (sgA f n (twA f n (nx f n a0) 2))), nf, sf, uf, nI (1 + 4 * (nx f n (sgA f n (twA f n (nx f n a0) 2))) + 0), rfl, by omega, by omega, hok, ⟨Or.inr ⟨_, by omega, by omega, rfl⟩, fun q => absurd q (nI_ne0 (by omega) (by omega))⟩, fun q => absurd q (nI_ne0 (by omega) (by omega)), fun _ q => hso q.1.2.1, kp144, k136, k140, k141, k142⟩)
    · have hc6 : ¬ c1 < 6 := fun q => c_35 (nI_lt (b := 6) q (by omega))
      refine lv_iload hx hb dX1_learnCond_33 (lv_at hl 1 rfl) ?_
      refine lv_iconst (v := 2) hx hb dX1_learnCond_35 (by decide) ?_
      refine x_callSN (host := RX10) (n := 2) (As := [.int (nI (nx f n a0)), .int 2]) (rest := []) F hP hD hS (g_faultAt l D cy sk sv w18 (nx f n a0) 2) gX1_learnCond_X10_faultAt_n63 rfl (by decide +kernel) (List.mem_cons_of_mem _ (List.mem_append_left _ (List.mem_append_left _ (List.mem_append_left _ (List.mem_of_getElem? (i := 21) rfl))))) (List.mem_cons_of_mem _ (List.mem_append_left _ (List.mem_append_left _ (List.mem_append_right _ (List.mem_append_right _ (List.mem_append_right _ (List.mem_append_left _ (List.mem_of_getElem? (i := 8) rfl)))))))) (by decide +kernel) ⟨(Nat.le_of_ble_eq_true rfl), (Nat.le_of_ble_eq_true rfl)⟩ rfl hl.1 (Nat.le_of_ble_eq_true rfl) dX1_learnCond_36 rfl ⟨(Nat.le_of_ble_eq_true rfl), (Nat.le_of_ble_eq_true rfl)⟩ (fun v146 w147 hp145 H locs hP hD hS => ?_)
      obtain ⟨rfl, rfl⟩ := hp145
      refine W.eq (g2 := F0 m 39 ls [.int (nI (1 + 4 * (nx f n a0) + 2))]) rfl (W.widen (k := 0) (n := 0) (Nat.le_of_ble_eq_true rfl) (Nat.le_of_ble_eq_true rfl) ?_)
      exact y_ir K hP hD hS (Nat.le_of_ble_eq_true rfl) (Nat.le_of_ble_eq_true rfl) (ty := .int) rfl rfl dX1_learnCond_39 (⟨(twA f n (nx f n a0) 2), nf, sf, uf, nI (1 + 4 * (nx f n a0) + 2), rfl, by omega, by omega, hok, ⟨Or.inr ⟨_, by omega, by omega, rfl⟩, fun q => absurd q (nI_ne0 (by omega) (by omega))⟩, fun q => absurd q (nI_ne0 (by omega) (by omega)), fun _ q => absurd q.2 (by omega), kp33, k25, k29, k30, k31⟩)
  · have hk9 : (cdK f n a0) = 8 := (twR_no (B := f) (n := n) (a := nx f n a0) (i := 2) (by decide)).mp (hz23.symm.trans c_34)
    refine lv_iload hx hb dX1_learnCond_20 (lv_at hl 1 rfl) ?_
    refine lv_iconst (v := 0) hx hb dX1_learnCond_22 (by decide) ?_
    refine x_callSN (host := RX10) (n := 2) (As := [.int (nI (nx f n a0)), .int 0]) (rest := []) F hP hD hS (g_faultAt l D cy sk sv w18 (nx f n a0) 0) gX1_learnCond_X10_faultAt_n63 rfl (by decide +kernel) (List.mem_cons_of_mem _ (List.mem_append_left _ (List.mem_append_left _ (List.mem_append_left _ (List.mem_of_getElem? (i := 21) rfl))))) (List.mem_cons_of_mem _ (List.mem_append_left _ (List.mem_append_left _ (List.mem_append_right _ (List.mem_append_right _ (List.mem_append_right _ (List.mem_append_left _ (List.mem_of_getElem? (i := 8) rfl)))))))) (by decide +kernel) ⟨(Nat.le_of_ble_eq_true rfl), (Nat.le_of_ble_eq_true rfl)⟩ rfl hl.1 (Nat.le_of_ble_eq_true rfl) dX1_learnCond_23 rfl ⟨(Nat.le_of_ble_eq_true rfl), (Nat.le_of_ble_eq_true rfl)⟩ (fun v149 w150 hp148 H locs hP hD hS => ?_)
    obtain ⟨rfl, rfl⟩ := hp148
    refine W.eq (g2 := F0 m 26 ls [.int (nI (1 + 4 * (nx f n a0) + 0))]) rfl (W.widen (k := 0) (n := 0) (Nat.le_of_ble_eq_true rfl) (Nat.le_of_ble_eq_true rfl) ?_)
    exact y_ir K hP hD hS (Nat.le_of_ble_eq_true rfl) (Nat.le_of_ble_eq_true rfl) (ty := .int) rfl rfl dX1_learnCond_26 (⟨(twA f n (nx f n a0) 2), nf, sf, uf, nI (1 + 4 * (nx f n a0) + 0), rfl, by omega, by omega, hok, ⟨Or.inr ⟨_, by omega, by omega, rfl⟩, fun q => absurd q (nI_ne0 (by omega) (by omega))⟩, fun q => absurd q (nI_ne0 (by omega) (by omega)), fun _ q => q.1.1 hk9, kp33, k25, k29, k30, k31⟩)
set_option maxHeartbeats 4000000 in
set_option maxRecDepth 100000 in
theorem g_learnRule (l : Launch) (D : va_G) (cy : Nat → ClassId) (sk sv : Nat → Nat) (w : Wd) (ag g0 g1 g2 g3 g4 : Nat) (t b n a0 r : Nat) (rc : Int32) (df cf nf sf uf : Nat → Int32) (f : Nat → Int32) (TT : Nat → Nat → Int32) (c90 : wd_at w ag (.inr (1, [.ref g0, .ref g1, .ref g2, .ref g3, .ref g4, .int rc]))) (c91 : wd_at w g0 (.inl (cy 2, 12, .inl df))) (c92 : wd_at w g1 (.inl (cy 2, 12, .inl cf))) (c93 : wd_at w g2 (.inl (cy 2, 72, .inl nf))) (c94 : wd_at w g3 (.inl (cy 1, 72, .inl sf))) (c95 : wd_at w g4 (.inl (cy 2, 72, .inl uf))) (c96 : wd_at w t (.inr (7, [.ref b, .int (nI n), .int (nI a0)]))) (c97 : wd_at w b (.inl (cy 0, 300, .inl f)))  (S : Nat → Prop) (s90 : S t) (s91 : S g0) (s92 : S g1) (s93 : S g2) (s94 : S g3) (s95 : S g4) (hn : n ≤ 300) (ha : a0 ≤ n) (hok : aOK cf nf) (hr : r ≤ 12) (hagr : agR df cf nf sf uf r TT) (ng0g1 : g0 ≠ g1) (ng2g3 : g2 ≠ g3) (ng2g4 : g2 ≠ g4) (ng3g4 : g3 ≠ g4) : Ct l D cy sk sv yX1_learnRule wsX1_learnRule ({ frames := 8, cells := 0, slots := 0, locals := 186 }) [.ref ag, .ref t, .int (nI r)] w (fun v w1 => ∃ (a1 : Nat) (df1 : Nat → Int32) (cf1 : Nat → Int32) (nf1 : Nat → Int32) (sf1 : Nat → Int32) (uf1 : Nat → Int32) (r1 : Int32), v = some (.int r1) ∧ (a0 ≤ a1) ∧ (a1 ≤ n) ∧ (aOK cf1 nf1) ∧ ((r1 = 0 ∨ ∃ k, 0 < k ∧ k < 2000 ∧ r1 = nI k) ∧ (r1 = 0 → r < 12)) ∧ (r1 = 0 → ∃ T1, rlS f n a0 r TT = some (a1, T1) ∧ agR df1 cf1 nf1 sf1 uf1 (r + 1) T1) ∧ (¬ r1 = 0 → rlS f n a0 r TT = none) ∧ wd_kp S w w1 ∧ wd_at w1 t (.inr (7, [.ref b, .int (nI n), .int (nI a1)])) ∧ wd_at w1 g0 (.inl (cy 2, 12, .inl df1)) ∧ wd_at w1 g1 (.inl (cy 2, 12, .inl cf1)) ∧ wd_at w1 g2 (.inl (cy 2, 72, .inl nf1)) ∧ wd_at w1 g3 (.inl (cy 1, 72, .inl sf1)) ∧ wd_at w1 g4 (.inl (cy 2, 72, .inl uf1))) := by
  refine Ct.by (cc := cX1_learnRule) (maxL := 8) (ret := (some .int)) (by decide +kernel) rfl (Nat.le_of_ble_eq_true rfl) ?_
  intro p e s m args below meth c A Q F hnm K ls hl
  have F : wd_Fx p s m args meth c cX1_learnRule 8 wsX1_learnRule RX1 D cy sk sv A := F
  have hl : lv_has ls 8 [(0, .ref ag), (1, .ref t), (2, .int (nI r))] := hl
  have hx := F.1.1
  have hb := F.1.2.1
  have hown := F.1.2.2.2.1
  have hts := F.1.2.2.2.2
  intro H locs hP hD hS
  have kp0 : wd_kp S w w := wd_kp.rf
  refine lv_aload_n hx hb dX1_learnRule_0 rfl (lv_at hl 1 rfl) ?_
  refine x_callV (n := 0) (As := []) (rest := []) F hP hD hS (g_nextPlace l D cy sk sv w t b n a0 f c96 c97 (fun b => b = t) rfl (by omega) (by omega)) gX1_learnRule_X7_nextPlace rfl rfl (by decide +kernel) ⟨(Nat.le_of_ble_eq_true rfl), (Nat.le_of_ble_eq_true rfl)⟩ rfl hl.1 (Nat.le_of_ble_eq_true rfl) c96 rfl dX1_learnRule_1 rfl ⟨(Nat.le_of_ble_eq_true rfl), (Nat.le_of_ble_eq_true rfl)⟩ (fun v2 w3 hp1 H locs hP hD hS => ?_)
  obtain ⟨ax4, rfl, rfl, hz5, hz6, kq8, k7⟩ := hp1
  have k9 := kq8.2 _ _ c90 (fun q9 : ag = t => (wd_nk c90 c96 rfl) q9)
  have k10 := kq8.2 _ _ c91 (fun q9 : g0 = t => (wd_nk c91 c96 rfl) q9)
  have k11 := kq8.2 _ _ c92 (fun q9 : g1 = t => (wd_nk c92 c96 rfl) q9)
  have k12 := kq8.2 _ _ c93 (fun q9 : g2 = t => (wd_nk c93 c96 rfl) q9)
  have k13 := kq8.2 _ _ c94 (fun q9 : g3 = t => (wd_nk c94 c96 rfl) q9)
  have k14 := kq8.2 _ _ c95 (fun q9 : g4 = t => (wd_nk c95 c96 rfl) q9)
  have k15 := kq8.2 _ _ c97 (fun q9 : b = t => (wd_nk c97 c96 rfl) q9)
  have kp16 := kp0.tr kq8 (fun b9 hm q9 => (fun q9 => q9 ▸ s90) q9)
  refine W.eq (g2 := F0 m 4 ls [.int (nI (nx f n a0))]) rfl (W.widen (k := 0) (n := 0) (Nat.le_of_ble_eq_true rfl) (Nat.le_of_ble_eq_true rfl) ?_)
  refine lv_istore_n (lv' := [(3, .int (nI (nx f n a0))), (0, .ref ag), (1, .ref t), (2, .int (nI r))]) hx hb dX1_learnRule_4 rfl hl (by decide) rfl (fun ls hl => ?_)
  refine lv_aload_n hx hb dX1_learnRule_5 rfl (lv_at hl 2 rfl) ?_
  refine x_ldcS F (i := 0) (tx := "pay refuse ask") (by decide +kernel) dX1_learnRule_6 ?_
  refine x_callV (n := 1) (As := [.ref (sk 0)]) (rest := []) F hP hD hS (g_takeWord l D cy sk sv w3 t b n (nx f n a0) 0 f k7 k15 (fun b => b = t) rfl (by omega) (by omega) (by omega)) gX1_learnRule_X7_takeWord rfl rfl (by decide +kernel) ⟨(Nat.le_of_ble_eq_true rfl), (Nat.le_of_ble_eq_true rfl)⟩ rfl hl.1 (Nat.le_of_ble_eq_true rfl) k7 rfl dX1_learnRule_8 rfl ⟨(Nat.le_of_ble_eq_true rfl), (Nat.le_of_ble_eq_true rfl)⟩ (fun v18 w19 hp17 H locs hP hD hS => ?_)
  obtain ⟨ax20, rx21, rfl, rfl, hz22, hz23, hz24, hz25, kq27, k26⟩ := hp17
  have k28 := kq27.2 _ _ k9 (fun q9 : ag = t => (wd_nk k9 k7 rfl) q9)
  have k29 := kq27.2 _ _ k10 (fun q9 : g0 = t => (wd_nk k10 k7 rfl) q9)
  have k30 := kq27.2 _ _ k11 (fun q9 : g1 = t => (wd_nk k11 k7 rfl) q9)
  have k31 := kq27.2 _ _ k12 (fun q9 : g2 = t => (wd_nk k12 k7 rfl) q9)
  have k32 := kq27.2 _ _ k13 (fun q9 : g3 = t => (wd_nk k13 k7 rfl) q9)
  have k33 := kq27.2 _ _ k14 (fun q9 : g4 = t => (wd_nk k14 k7 rfl) q9)
  have k34 := kq27.2 _ _ k15 (fun q9 : b = t => (wd_nk k15 k7 rfl) q9)
  have kp35 := kp16.tr kq27 (fun b9 hm q9 => (fun q9 => q9 ▸ s90) q9)
  refine W.eq (g2 := F0 m 11 ls [.int rx21]) rfl (W.widen (k := 0) (n := 0) (Nat.le_of_ble_eq_true rfl) (Nat.le_of_ble_eq_true rfl) ?_)
  refine lv_istore (lv' := [(4, .int rx21), (3, .int (nI (nx f n a0))), (0, .ref ag), (1, .ref t), (2, .int (nI r))]) hx hb dX1_learnRule_11 hl (by decide) rfl (fun ls hl => ?_)
  refine lv_iload hx hb dX1_learnRule_13 (lv_at hl 0 rfl) ?_
  refine lv_iconst (v := (-1)) hx hb dX1_learnRule_15 (by decide) ?_
  refine lv_icmp_ne (tgt := 25) hx hb dX1_learnRule_16 (by decide) (fun c_36 => ?_) (fun c_36 => ?_)
  · have hk9 : ¬ (rlK f n a0) = 3 := fun q => c_36 (hz24.trans ((twR_no (B := f) (n := n) (a := nx f n a0) (i := 0) (by decide)).mpr q))
    have hkl : (rlK f n a0) < 3 := by have h9 : (rlK f n a0) ≤ 3 := twK_le (B := f) (n := n) (a := nx f n a0) (i := 0); omega
    have euu : rx21 = nI (rlK f n a0) := hz24.trans (twR_yes (B := f) (n := n) (a := nx f n a0) (i := 0) hk9)
    subst euu
    refine lv_iload_n hx hb dX1_learnRule_25 rfl (lv_at hl 4 rfl) ?_
    refine lv_bipush (v := 12) hx hb dX1_learnRule_26 (by decide) ?_
    refine lv_icmp_lt (tgt := 37) hx hb dX1_learnRule_28 (by decide) (fun c_37 => ?_) (fun c_37 => ?_)
    · have hr12 : r < 12 := Nat.lt_of_not_le (fun q => nI_nlt (a := r) (b := 12) q (by omega) c_37)
      refine lv_aload_n hx hb dX1_learnRule_37 rfl (lv_at hl 2 rfl) ?_
      refine x_get (ref := "NoteHouse$Agent") F hP k28 rfl (fun _ h => List.mem_cons_of_mem _ (List.mem_append_left _ (List.mem_append_right _ (h)))) 0 (Nat.le_of_ble_eq_true rfl) (List.mem_cons_of_mem _ (List.mem_append_left _ (List.mem_append_left _ (List.mem_append_left _ (List.mem_of_getElem? (i := 0) rfl))))) rfl rfl dX1_learnRule_38 ?_
      refine lv_iload_n hx hb dX1_learnRule_41 rfl (lv_at hl 4 rfl) ?_
      refine lv_iload hx hb dX1_learnRule_42 (lv_at hl 0 rfl) ?_
      refine y_iast F hP hD hS k29 (vp_in_nI (n := r) (N := 12) (by omega) (by decide)) dX1_learnRule_44 (fun w38 ew39 H locs hP hD hS => ?_)
      have k40 := wd_at.pt ew39 k28 (wd_nk k28 k29 rfl)
      have k41 : wd_at w38 g0 (.inl (cy 2, 12, .inl (upd df (nI r).toNatClampNeg (nI (rlK f n a0))))) := wd_at.ps ew39 k29
      have k42 := wd_at.pt ew39 k30 (Ne.symm ng0g1)
      have k43 := wd_at.pt ew39 k31 (wd_nk k31 k29 rfl)
      have k44 := wd_at.pt ew39 k32 (wd_nk k32 k29 rfl)
      have k45 := wd_at.pt ew39 k33 (wd_nk k33 k29 rfl)
      have k46 := wd_at.pt ew39 k26 (wd_nk k26 k29 rfl)
      have k47 := wd_at.pt ew39 k34 (wd_nk k34 k29 rfl)
      have kp48 := kp35.put ew39 s91
      refine lv_aload_n hx hb dX1_learnRule_45 rfl (lv_at hl 2 rfl) ?_
      refine x_get (ref := "NoteHouse$Agent") F hP k40 rfl (fun _ h => List.mem_cons_of_mem _ (List.mem_append_left _ (List.mem_append_right _ (h)))) 1 (Nat.le_of_ble_eq_true rfl) (List.mem_cons_of_mem _ (List.mem_append_left _ (List.mem_append_left _ (List.mem_append_left _ (List.mem_of_getElem? (i := 1) rfl))))) rfl rfl dX1_learnRule_46 ?_
      refine lv_iload_n hx hb dX1_learnRule_49 rfl (lv_at hl 4 rfl) ?_
      refine lv_iconst (v := 0) hx hb dX1_learnRule_50 (by decide) ?_
      refine y_iast F hP hD hS k42 (vp_in_nI (n := r) (N := 12) (by omega) (by decide)) dX1_learnRule_51 (fun w49 ew50 H locs hP hD hS => ?_)
      have k51 := wd_at.pt ew50 k40 (wd_nk k40 k42 rfl)
      have k52 := wd_at.pt ew50 k41 ng0g1
      have k53 : wd_at w49 g1 (.inl (cy 2, 12, .inl (upd cf (nI r).toNatClampNeg 0))) := wd_at.ps ew50 k42
      have k54 := wd_at.pt ew50 k43 (wd_nk k43 k42 rfl)
      have k55 := wd_at.pt ew50 k44 (wd_nk k44 k42 rfl)
      have k56 := wd_at.pt ew50 k45 (wd_nk k45 k42 rfl)
      have k57 := wd_at.pt ew50 k46 (wd_nk k46 k42 rfl)
      have k58 := wd_at.pt ew50 k47 (wd_nk k47 k42 rfl)
      have kp59 := kp48.put ew50 s92
      refine lv_aload_n hx hb dX1_learnRule_52 rfl (lv_at hl 3 rfl) ?_
      refine x_ldcS F (i := 1) (tx := "if") (by decide +kernel) dX1_learnRule_53 ?_
      refine x_callV (n := 1) (As := [.ref (sk 1)]) (rest := []) F hP hD hS (g_takeWord l D cy sk sv w49 t b n (twA f n (nx f n a0) 0) 1 f k57 k58 (fun b => b = t) rfl (by omega) (by omega) (by omega)) gX1_learnRule_X7_takeWord rfl rfl (by decide +kernel) ⟨(Nat.le_of_ble_eq_true rfl), (Nat.le_of_ble_eq_true rfl)⟩ rfl hl.1 (Nat.le_of_ble_eq_true rfl) k57 rfl dX1_learnRule_55 rfl ⟨(Nat.le_of_ble_eq_true rfl), (Nat.le_of_ble_eq_true rfl)⟩ (fun v61 w62 hp60 H locs hP hD hS => ?_)
      obtain ⟨ax63, rx64, rfl, rfl, hz65, hz66, hz67, hz68, kq70, k69⟩ := hp60
      have k71 := kq70.2 _ _ k51 (fun q9 : ag = t => (wd_nk k51 k57 rfl) q9)
      have k72 := kq70.2 _ _ k52 (fun q9 : g0 = t => (wd_nk k52 k57 rfl) q9)
      have k73 := kq70.2 _ _ k53 (fun q9 : g1 = t => (wd_nk k53 k57 rfl) q9)
      have k74 := kq70.2 _ _ k54 (fun q9 : g2 = t => (wd_nk k54 k57 rfl) q9)
      have k75 := kq70.2 _ _ k55 (fun q9 : g3 = t => (wd_nk k55 k57 rfl) q9)
      have k76 := kq70.2 _ _ k56 (fun q9 : g4 = t => (wd_nk k56 k57 rfl) q9)
      have k77 := kq70.2 _ _ k58 (fun q9 : b = t => (wd_nk k58 k57 rfl) q9)
      have kp78 := kp59.tr kq70 (fun b9 hm q9 => (fun q9 => q9 ▸ s90) q9)
      refine W.eq (g2 := F0 m 58 ls [.int rx64]) rfl (W.widen (k := 0) (n := 0) (Nat.le_of_ble_eq_true rfl) (Nat.le_of_ble_eq_true rfl) ?_)
      refine lv_iconst (v := (-1)) hx hb dX1_learnRule_58 (by decide) ?_
      refine lv_icmp_eq (tgt := 66) hx hb dX1_learnRule_59 (by decide) (fun c_79 => ?_) (fun c_79 => ?_)
      · have hif : ¬ twK f n (rlQ f n a0) 1 = 0 := by have h9 : twK f n (rlQ f n a0) 1 = 1 := (twR_no (B := f) (n := n) (a := rlQ f n a0) (i := 1) (by decide)).mp (hz67.symm.trans c_79); omega
        refine lv_iconst (v := 0) hx hb dX1_learnRule_66 (by decide) ?_
        refine lv_istore (lv' := [(5, .int 0), (4, .int (nI (rlK f n a0))), (3, .int (nI (nx f n a0))), (0, .ref ag), (1, .ref t), (2, .int (nI r))]) hx hb dX1_learnRule_67 hl (by decide) rfl (fun ls hl => ?_)
        refine lv_iconst (v := 0) hx hb dX1_learnRule_69 (by decide) ?_
        refine lv_istore (lv' := [(6, .int 0), (5, .int 0), (4, .int (nI (rlK f n a0))), (3, .int (nI (nx f n a0))), (0, .ref ag), (1, .ref t), (2, .int (nI r))]) hx hb dX1_learnRule_70 hl (by decide) rfl (fun ls hl => ?_)
        have lp72 : ∀ (N : Nat) (k : Nat) (go : Int32) (a2 : Nat) (cf2 : Nat → Int32) (nf2 : Nat → Int32) (sf2 : Nat → Int32) (uf2 : Nat → Int32) (T2 : Nat → Nat → Int32) (w80 : Wd), (k + N = 7) → (k ≤ 6) → (a0 ≤ a2) → (a2 ≤ n) → (aOK cf2 nf2) → (cf2 r = nI k) → ((¬ go = 0 → cnG f n r (7 - k) a2 k T2 = rlS f n a0 r TT) ∧ (go = 0 → rlS f n a0 r TT = some (a2, T2))) → (agR (upd df (nI r).toNatClampNeg (nI (rlK f n a0))) cf2 nf2 sf2 uf2 (r + 1) T2) → (wd_at w80 ag (.inr (1, [.ref g0, .ref g1, .ref g2, .ref g3, .ref g4, .int rc]))) → (wd_at w80 g0 (.inl (cy 2, 12, .inl (upd df (nI r).toNatClampNeg (nI (rlK f n a0)))))) → (wd_at w80 g1 (.inl (cy 2, 12, .inl cf2))) → (wd_at w80 g2 (.inl (cy 2, 72, .inl nf2))) → (wd_at w80 g3 (.inl (cy 1, 72, .inl sf2))) → (wd_at w80 g4 (.inl (cy 2, 72, .inl uf2))) → (wd_at w80 t (.inr (7, [.ref b, .int (nI n), .int (nI a2)]))) → (wd_at w80 b (.inl (cy 0, 300, .inl f))) → (wd_kp S w w80) → ∀ (ls : Array Slot), lv_has ls 8 [(0, .ref ag), (1, .ref t), (2, .int (nI r)), (3, .int (nI (nx f n a0))), (4, .int (nI (rlK f n a0))), (5, .int go), (6, .int (nI k))] → Wv p l e ({ frames := 8, cells := 0, slots := 0, locals := 186 }) s m args below meth c D A (0) (0) Q w80 (F0 m 72 ls []) := by
          intro N
          induction N with
          | zero =>
            intro k go a2 cf2 nf2 sf2 uf2 T2 w80 hN72 hk6 ha1 ha2 hok2 hck hG hag2 k81 k82 k83 k84 k85 k86 k87 k88 kp89 ls hl H locs hP hD hS
            exact absurd hN72 (by omega)
          | succ N ih72 =>
            intro k go a2 cf2 nf2 sf2 uf2 T2 w80 hN72 hk6 ha1 ha2 hok2 hck hG hag2 k81 k82 k83 k84 k85 k86 k87 k88 kp89 ls hl H locs hP hD hS
            refine lv_iload hx hb dX1_learnRule_72 (lv_at hl 5 rfl) ?_
            refine lv_if_eq (tgt := 135) hx hb dX1_learnRule_74 (by decide) (fun cgo => ?_) (fun cgo => ?_)
            · refine lv_iconst (v := 0) hx hb dX1_learnRule_135 (by decide) ?_
              exact y_ir K hP hD hS (Nat.le_of_ble_eq_true rfl) (Nat.le_of_ble_eq_true rfl) (ty := .int) rfl rfl dX1_learnRule_136 (⟨a2, upd df (nI r).toNatClampNeg (nI (rlK f n a0)), cf2, nf2, sf2, uf2, 0, rfl, by omega, by omega, (by assumption), ⟨Or.inl rfl, fun _ => hr12⟩, fun _ => ⟨T2, hG.2 cgo, hag2⟩, fun h => absurd rfl h, kp89, k87, k82, k83, k84, k85, k86⟩)
            · refine lv_iload hx hb dX1_learnRule_77 (lv_at hl 6 rfl) ?_
              refine lv_bipush (v := 6) hx hb dX1_learnRule_79 (by decide) ?_
              refine lv_icmp_gt (tgt := 135) hx hb dX1_learnRule_81 (by decide) (fun c_90 => absurd c_90 (nI_nlt (a := 6) (b := k) (by omega) (by omega))) (fun c_90 => ?_)
              refine lv_aload_n hx hb dX1_learnRule_84 rfl (lv_at hl 0 rfl) ?_
              refine lv_aload_n hx hb dX1_learnRule_85 rfl (lv_at hl 1 rfl) ?_
              refine lv_iload_n hx hb dX1_learnRule_86 rfl (lv_at hl 2 rfl) ?_
              refine lv_iload hx hb dX1_learnRule_87 (lv_at hl 6 rfl) ?_
              refine x_callV (n := 3) (As := [.ref t, .int (nI r), .int (nI k)]) (rest := []) F hP hD hS (g_learnCond l D cy sk sv w80 ag g0 g1 g2 g3 g4 t b n a2 r k rc cf2 nf2 sf2 uf2 f k81 k83 k84 k85 k86 k87 k88 (fun b => b = t ∨ b = g2 ∨ b = g3 ∨ b = g4) (Or.inl rfl) (Or.inr (Or.inl rfl)) (Or.inr (Or.inr (Or.inl rfl))) (Or.inr (Or.inr (Or.inr rfl))) (by omega) (by omega) (by assumption) (by omega) (by omega) ng2g3 ng2g4 ng3g4) gX1_learnRule_X1_learnCond rfl rfl (by decide +kernel) ⟨(Nat.le_of_ble_eq_true rfl), (Nat.le_of_ble_eq_true rfl)⟩ rfl hl.1 (Nat.le_of_ble_eq_true rfl) k81 rfl dX1_learnRule_89 rfl ⟨(Nat.le_of_ble_eq_true rfl), (Nat.le_of_ble_eq_true rfl)⟩ (fun v92 w93 hp91 H locs hP hD hS => ?_)
              obtain ⟨ax94, nfx95, sfx96, ufx97, rx98, rfl, hz99, hz100, hz101, hz102, hz103, hz104, kq109, k105, k106, k107, k108⟩ := hp91
              have k110 := kq109.2 _ _ k81 (fun q9 => Or.elim q9 (wd_nk k81 k87 rfl) (fun q9 => Or.elim q9 (wd_nk k81 k84 rfl) (fun q9 => Or.elim q9 (wd_nk k81 k85 rfl) (fun q9 : ag = g4 => (wd_nk k81 k86 rfl) q9))))
              have k111 := kq109.2 _ _ k82 (fun q9 => Or.elim q9 (wd_nk k82 k87 rfl) (fun q9 => Or.elim q9 (wd_nk k82 k84 rfl) (fun q9 => Or.elim q9 (wd_nk k82 k85 rfl) (fun q9 : g0 = g4 => (wd_nk k82 k86 rfl) q9))))
              have k112 := kq109.2 _ _ k83 (fun q9 => Or.elim q9 (wd_nk k83 k87 rfl) (fun q9 => Or.elim q9 (wd_nk k83 k84 rfl) (fun q9 => Or.elim q9 (wd_nk k83 k85 rfl) (fun q9 : g1 = g4 => (wd_nk k83 k86 rfl) q9))))
              have k113 := kq109.2 _ _ k88 (fun q9 => Or.elim q9 (wd_nk k88 k87 rfl) (fun q9 => Or.elim q9 (wd_nk k88 k84 rfl) (fun q9 => Or.elim q9 (wd_nk k88 k85 rfl) (fun q9 : b = g4 => (wd_nk k88 k86 rfl) q9))))
              have kp114 := kp89.tr kq109 (fun b9 hm q9 => (fun q9 => Or.elim q9 (fun q9 => q9 ▸ s90) (fun q9 => Or.elim q9 (fun q9 => q9 ▸ s93) (fun q9 => Or.elim q9 (fun q9 => q9 ▸ s94) (fun q9 => q9 ▸ s95)))) q9)
              refine W.eq (g2 := F0 m 92 ls [.int rx98]) rfl (W.widen (k := 0) (n := 0) (Nat.le_of_ble_eq_true rfl) (Nat.le_of_ble_eq_true rfl) ?_)
              refine lv_istore (lv' := [(7, .int rx98), (0, .ref ag), (1, .ref t), (2, .int (nI r)), (3, .int (nI (nx f n a0))), (4, .int (nI (rlK f n a0))), (5, .int go), (6, .int (nI k))]) hx hb dX1_learnRule_92 hl (by decide) rfl (fun ls hl => ?_)
              refine lv_iload hx hb dX1_learnRule_94 (lv_at hl 0 rfl) ?_
              refine lv_if_eq (tgt := 102) hx hb dX1_learnRule_96 (by decide) (fun cf9 => ?_) (fun cf9 => ?_)
              · have hk5 := (hz102).2 cf9
                obtain ⟨hcdO, ea9, en9, es9, eu9⟩ := hz103 cf9
                subst ea9
                subst en9
                subst es9
                subst eu9
                have hcd8 : cdK f n a2 < 8 := by have h9 : cdK f n a2 ≤ 8 := twK_le (B := f) (n := n) (a := nx f n a2) (i := 2); have h8 := hcdO.1; omega
                refine lv_aload_n hx hb dX1_learnRule_102 rfl (lv_at hl 1 rfl) ?_
                refine x_get (ref := "NoteHouse$Agent") F hP k110 rfl (fun _ h => List.mem_cons_of_mem _ (List.mem_append_left _ (List.mem_append_right _ (h)))) 1 (Nat.le_of_ble_eq_true rfl) (List.mem_cons_of_mem _ (List.mem_append_left _ (List.mem_append_left _ (List.mem_append_left _ (List.mem_of_getElem? (i := 1) rfl))))) rfl rfl dX1_learnRule_103 ?_
                refine lv_iload_n hx hb dX1_learnRule_106 rfl (lv_at hl 3 rfl) ?_
                refine lv_dup2_11 hx hb dX1_learnRule_107 rfl rfl ?_
                refine x_iald F hP k112 (vp_in_nI (n := r) (N := 12) (by omega) (by decide)) dX1_learnRule_108 ?_
                rw [nI_clamp (n := r) (by omega), hck]
                refine lv_iconst (v := 1) hx hb dX1_learnRule_109 (by decide) ?_
                refine lv_iadd hx hb dX1_learnRule_110 ?_
                rw [show ((nI k) + 1 : Int32) = nI (k + 1) from nI_add k 1]
                refine y_iast F hP hD hS k112 (vp_in_nI (n := r) (N := 12) (by omega) (by decide)) dX1_learnRule_111 (fun w115 ew116 H locs hP hD hS => ?_)
                have k117 := wd_at.pt ew116 k110 (wd_nk k110 k112 rfl)
                have k118 := wd_at.pt ew116 k111 ng0g1
                have k119 : wd_at w115 g1 (.inl (cy 2, 12, .inl (upd cf2 (nI r).toNatClampNeg (nI (k + 1))))) := wd_at.ps ew116 k112
                have k120 := wd_at.pt ew116 k106 (wd_nk k106 k112 rfl)
                have k121 := wd_at.pt ew116 k107 (wd_nk k107 k112 rfl)
                have k122 := wd_at.pt ew116 k108 (wd_nk k108 k112 rfl)
                have k123 := wd_at.pt ew116 k105 (wd_nk k105 k112 rfl)
                have k124 := wd_at.pt ew116 k113 (wd_nk k113 k112 rfl)
                have kp125 := kp114.put ew116 s92
                refine lv_aload_n hx hb dX1_learnRule_112 rfl (lv_at hl 2 rfl) ?_
                refine x_ldcS F (i := 3) (tx := "and") (by decide +kernel) dX1_learnRule_113 ?_
                refine x_callV (n := 1) (As := [.ref (sk 3)]) (rest := []) F hP hD hS (g_takeWord l D cy sk sv w115 t b n (cdE f n a2) 3 f k123 k124 (fun b => b = t) rfl (by omega) (by omega) (by omega)) gX1_learnRule_X7_takeWord rfl rfl (by decide +kernel) ⟨(Nat.le_of_ble_eq_true rfl), (Nat.le_of_ble_eq_true rfl)⟩ rfl hl.1 (Nat.le_of_ble_eq_true rfl) k123 rfl dX1_learnRule_115 rfl ⟨(Nat.le_of_ble_eq_true rfl), (Nat.le_of_ble_eq_true rfl)⟩ (fun v127 w128 hp126 H locs hP hD hS => ?_)
                obtain ⟨ax129, rx130, rfl, rfl, hz131, hz132, hz133, hz134, kq136, k135⟩ := hp126
                have k137 := kq136.2 _ _ k117 (fun q9 : ag = t => (wd_nk k117 k123 rfl) q9)
                have k138 := kq136.2 _ _ k118 (fun q9 : g0 = t => (wd_nk k118 k123 rfl) q9)
                have k139 := kq136.2 _ _ k119 (fun q9 : g1 = t => (wd_nk k119 k123 rfl) q9)
                have k140 := kq136.2 _ _ k120 (fun q9 : g2 = t => (wd_nk k120 k123 rfl) q9)
                have k141 := kq136.2 _ _ k121 (fun q9 : g3 = t => (wd_nk k121 k123 rfl) q9)
                have k142 := kq136.2 _ _ k122 (fun q9 : g4 = t => (wd_nk k122 k123 rfl) q9)
                have k143 := kq136.2 _ _ k124 (fun q9 : b = t => (wd_nk k124 k123 rfl) q9)
                have kp144 := kp125.tr kq136 (fun b9 hm q9 => (fun q9 => q9 ▸ s90) q9)
                refine W.eq (g2 := F0 m 118 ls [.int rx130]) rfl (W.widen (k := 0) (n := 0) (Nat.le_of_ble_eq_true rfl) (Nat.le_of_ble_eq_true rfl) ?_)
                refine lv_iconst (v := (-1)) hx hb dX1_learnRule_118 (by decide) ?_
                refine lv_icmp_eq (tgt := 126) hx hb dX1_learnRule_119 (by decide) (fun c_145 => ?_) (fun c_145 => ?_)
                · have hand : ¬ twK f n (cdE f n a2) 3 = 0 := by have h9 : twK f n (cdE f n a2) 3 = 1 := (twR_no (B := f) (n := n) (a := cdE f n a2) (i := 3) (by decide)).mp (hz133.symm.trans c_145); omega
                  refine lv_iconst (v := 0) hx hb dX1_learnRule_126 (by decide) ?_
                  refine lv_istore (lv' := [(5, .int 0), (7, .int rx98), (0, .ref ag), (1, .ref t), (2, .int (nI r)), (3, .int (nI (nx f n a0))), (4, .int (nI (rlK f n a0))), (6, .int (nI k))]) hx hb dX1_learnRule_127 hl (by decide) rfl (fun ls hl => ?_)
                  refine lv_iinc (v := nI (k + 1)) (lv' := [(6, .int (nI (k + 1))), (5, .int 0), (7, .int rx98), (0, .ref ag), (1, .ref t), (2, .int (nI r)), (3, .int (nI (nx f n a0))), (4, .int (nI (rlK f n a0)))]) hx hb dX1_learnRule_129 hl (k := 7) rfl (nI_1 k) (by decide) rfl (fun ls hl => ?_)
                  refine lv_goto (tgt := 72) hx hb dX1_learnRule_132 (by decide) ?_
                  exact ih72 (k + 1) 0 (twA f n (cdE f n a2) 3) (upd cf2 (nI r).toNatClampNeg (nI (k + 1))) (upd nf2 (nI (r * 6 + k)).toNatClampNeg (nI (cdK f n a2))) (upd sf2 (nI (r * 6 + k)).toNatClampNeg (sgR f n (cdQ f n a2))) (upd uf2 (nI (r * 6 + k)).toNatClampNeg (tnR f n (cdP f n a2) 6)) (cdT f n a2 r k T2) w128 (by omega) (by omega) (by omega) (by omega) (aOK.c (r := r) (u := k + 1) (by assumption) (by omega) (by omega)) (by rw [nI_clamp (by omega), pk_us]) (⟨fun h => absurd rfl h, fun _ => (hG.1 cgo).symm.trans (by rw [show 7 - k = N + 1 by omega]; exact cnG_e hcdO hk5 hand)⟩) (hag2.cond (by omega) hck hk5 hcd8) k137 k138 k139 k140 k141 k142 k135 k143 kp144 ls (lv_sub hl [3, 4, 5, 6, 7, 1, 0] rfl) H locs hP hD hS
                · have hand : twK f n (cdE f n a2) 3 = 0 := by have h9 : ¬ twK f n (cdE f n a2) 3 = 1 := (fun q => c_145 (hz133.trans ((twR_no (B := f) (n := n) (a := cdE f n a2) (i := 3) (by decide)).mpr q))); have h8 : twK f n (cdE f n a2) 3 ≤ 1 := twK_le (B := f) (n := n) (a := cdE f n a2) (i := 3); omega
                  refine lv_iconst (v := 1) hx hb dX1_learnRule_122 (by decide) ?_
                  refine lv_goto (tgt := 127) hx hb dX1_learnRule_123 (by decide) ?_
                  refine lv_istore (lv' := [(5, .int 1), (7, .int rx98), (0, .ref ag), (1, .ref t), (2, .int (nI r)), (3, .int (nI (nx f n a0))), (4, .int (nI (rlK f n a0))), (6, .int (nI k))]) hx hb dX1_learnRule_127 hl (by decide) rfl (fun ls hl => ?_)
                  refine lv_iinc (v := nI (k + 1)) (lv' := [(6, .int (nI (k + 1))), (5, .int 1), (7, .int rx98), (0, .ref ag), (1, .ref t), (2, .int (nI r)), (3, .int (nI (nx f n a0))), (4, .int (nI (rlK f n a0)))]) hx hb dX1_learnRule_129 hl (k := 7) rfl (nI_1 k) (by decide) rfl (fun ls hl => ?_)
                  refine lv_goto (tgt := 72) hx hb dX1_learnRule_132 (by decide) ?_
                  exact ih72 (k + 1) 1 (twA f n (cdE f n a2) 3) (upd cf2 (nI r).toNatClampNeg (nI (k + 1))) (upd nf2 (nI (r * 6 + k)).toNatClampNeg (nI (cdK f n a2))) (upd sf2 (nI (r * 6 + k)).toNatClampNeg (sgR f n (cdQ f n a2))) (upd uf2 (nI (r * 6 + k)).toNatClampNeg (tnR f n (cdP f n a2) 6)) (cdT f n a2 r k T2) w128 (by omega) (by omega) (by omega) (by omega) (aOK.c (r := r) (u := k + 1) (by assumption) (by omega) (by omega)) (by rw [nI_clamp (by omega), pk_us]) (⟨fun _ => by rw [show 7 - (k + 1) = N by omega, ← cnG_s hcdO hk5 hand, ← hG.1 cgo, show 7 - k = N + 1 by omega], fun h => absurd h (by decide)⟩) (hag2.cond (by omega) hck hk5 hcd8) k137 k138 k139 k140 k141 k142 k135 k143 kp144 ls (lv_sub hl [3, 4, 5, 6, 7, 1, 0] rfl) H locs hP hD hS
              · have hft := ((hz102).1).resolve_left cf9
                have hft2 : (rx98 = 0 ∨ ∃ k, 0 < k ∧ k < 2000 ∧ rx98 = nI k) := Or.inr hft
                refine lv_iload hx hb dX1_learnRule_99 (lv_at hl 0 rfl) ?_
                exact y_ir K hP hD hS (Nat.le_of_ble_eq_true rfl) (Nat.le_of_ble_eq_true rfl) (ty := .int) rfl rfl dX1_learnRule_101 (⟨ax94, upd df (nI r).toNatClampNeg (nI (rlK f n a0)), cf2, nfx95, sfx96, ufx97, rx98, rfl, by omega, by omega, (by assumption), ⟨(by assumption), fun q => absurd q cf9⟩, fun q => absurd q cf9, fun _ => (hG.1 cgo).symm.trans (by rw [show 7 - k = N + 1 by omega]; exact cnG_n (hz104 cf9)), kp114, k105, k111, k112, k106, k107, k108⟩)
        exact lp72 _ 0 0 (twA f n (twA f n (nx f n a0) 0) 1) (upd cf (nI r).toNatClampNeg 0) nf sf uf (rl0 f n a0 r TT) w62 (Nat.zero_add 7) (by omega) (by omega) (by omega) (aOK.c (r := r) (u := 0) (by assumption) (by omega) (by omega)) (by rw [nI_clamp (by omega), pk_us]; rfl) (⟨fun h => absurd rfl h, fun _ => rlS_e hk9 hr12 hif⟩) (hagr.rule (by omega) hkl) k71 k72 k73 k74 k75 k76 k69 k77 kp78 ls (lv_sub hl [4, 5, 6, 3, 2, 1, 0] rfl) H locs hP hD hS
      · have hif : twK f n (rlQ f n a0) 1 = 0 := by have h9 : ¬ twK f n (rlQ f n a0) 1 = 1 := (fun q => c_79 (hz67.trans ((twR_no (B := f) (n := n) (a := rlQ f n a0) (i := 1) (by decide)).mpr q))); have h8 : twK f n (rlQ f n a0) 1 ≤ 1 := twK_le (B := f) (n := n) (a := rlQ f n a0) (i := 1); omega
        refine lv_iconst (v := 1) hx hb dX1_learnRule_62 (by decide) ?_
        refine lv_goto (tgt := 67) hx hb dX1_learnRule_63 (by decide) ?_
        refine lv_istore (lv' := [(5, .int 1), (4, .int (nI (rlK f n a0))), (3, .int (nI (nx f n a0))), (0, .ref ag), (1, .ref t), (2, .int (nI r))]) hx hb dX1_learnRule_67 hl (by decide) rfl (fun ls hl => ?_)
        refine lv_iconst (v := 0) hx hb dX1_learnRule_69 (by decide) ?_
        refine lv_istore (lv' := [(6, .int 0), (5, .int 1), (4, .int (nI (rlK f n a0))), (3, .int (nI (nx f n a0))), (0, .ref ag), (1, .ref t), (2, .int (nI r))]) hx hb dX1_learnRule_70 hl (by decide) rfl (fun ls hl => ?_)
        have lp72 : ∀ (N : Nat) (k : Nat) (go : Int32) (a2 : Nat) (cf2 : Nat → Int32) (nf2 : Nat → Int32) (sf2 : Nat → Int32) (uf2 : Nat → Int32) (T2 : Nat → Nat → Int32) (w146 : Wd), (k + N = 7) → (k ≤ 6) → (a0 ≤ a2) → (a2 ≤ n) → (aOK cf2 nf2) → (cf2 r = nI k) → ((¬ go = 0 → cnG f n r (7 - k) a2 k T2 = rlS f n a0 r TT) ∧ (go = 0 → rlS f n a0 r TT = some (a2, T2))) → (agR (upd df (nI r).toNatClampNeg (nI (rlK f n a0))) cf2 nf2 sf2 uf2 (r + 1) T2) → (wd_at w146 ag (.inr (1, [.ref g0, .ref g1, .ref g2, .ref g3, .ref g4, .int rc]))) → (wd_at w146 g0 (.inl (cy 2, 12, .inl (upd df (nI r).toNatClampNeg (nI (rlK f n a0)))))) → (wd_at w146 g1 (.inl (cy 2, 12, .inl cf2))) → (wd_at w146 g2 (.inl (cy 2, 72, .inl nf2))) → (wd_at w146 g3 (.inl (cy 1, 72, .inl sf2))) → (wd_at w146 g4 (.inl (cy 2, 72, .inl uf2))) → (wd_at w146 t (.inr (7, [.ref b, .int (nI n), .int (nI a2)]))) → (wd_at w146 b (.inl (cy 0, 300, .inl f))) → (wd_kp S w w146) → ∀ (ls : Array Slot), lv_has ls 8 [(0, .ref ag), (1, .ref t), (2, .int (nI r)), (3, .int (nI (nx f n a0))), (4, .int (nI (rlK f n a0))), (5, .int go), (6, .int (nI k))] → Wv p l e ({ frames := 8, cells := 0, slots := 0, locals := 186 }) s m args below meth c D A (0) (0) Q w146 (F0 m 72 ls []) := by
          intro N
          induction N with
          | zero =>
            intro k go a2 cf2 nf2 sf2 uf2 T2 w146 hN72 hk6 ha1 ha2 hok2 hck hG hag2 k147 k148 k149 k150 k151 k152 k153 k154 kp155 ls hl H locs hP hD hS
            exact absurd hN72 (by omega)
          | succ N ih72 =>
            intro k go a2 cf2 nf2 sf2 uf2 T2 w146 hN72 hk6 ha1 ha2 hok2 hck hG hag2 k147 k148 k149 k150 k151 k152 k153 k154 kp155 ls hl H locs hP hD hS
            refine lv_iload hx hb dX1_learnRule_72 (lv_at hl 5 rfl) ?_
            refine lv_if_eq (tgt := 135) hx hb dX1_learnRule_74 (by decide) (fun cgo => ?_) (fun cgo => ?_)
            · refine lv_iconst (v := 0) hx hb dX1_learnRule_135 (by decide) ?_
              exact y_ir K hP hD hS (Nat.le_of_ble_eq_true rfl) (Nat.le_of_ble_eq_true rfl) (ty := .int) rfl rfl dX1_learnRule_136 (⟨a2, upd df (nI r).toNatClampNeg (nI (rlK f n a0)), cf2, nf2, sf2, uf2, 0, rfl, by omega, by omega, (by assumption), ⟨Or.inl rfl, fun _ => hr12⟩, fun _ => ⟨T2, hG.2 cgo, hag2⟩, fun h => absurd rfl h, kp155, k153, k148, k149, k150, k151, k152⟩)
            · refine lv_iload hx hb dX1_learnRule_77 (lv_at hl 6 rfl) ?_
              refine lv_bipush (v := 6) hx hb dX1_learnRule_79 (by decide) ?_
              refine lv_icmp_gt (tgt := 135) hx hb dX1_learnRule_81 (by decide) (fun c_156 => absurd c_156 (nI_nlt (a := 6) (b := k) (by omega) (by omega))) (fun c_156 => ?_)
              refine lv_aload_n hx hb dX1_learnRule_84 rfl (lv_at hl 0 rfl) ?_
              refine lv_aload_n hx hb dX1_learnRule_85 rfl (lv_at hl 1 rfl) ?_
              refine lv_iload_n hx hb dX1_learnRule_86 rfl (lv_at hl 2 rfl) ?_
              refine lv_iload hx hb dX1_learnRule_87 (lv_at hl 6 rfl) ?_
              refine x_callV (n := 3) (As := [.ref t, .int (nI r), .int (nI k)]) (rest := []) F hP hD hS (g_learnCond l D cy sk sv w146 ag g0 g1 g2 g3 g4 t b n a2 r k rc cf2 nf2 sf2 uf2 f k147 k149 k150 k151 k152 k153 k154 (fun b => b = t ∨ b = g2 ∨ b = g3 ∨ b = g4) (Or.inl rfl) (Or.inr (Or.inl rfl)) (Or.inr (Or.inr (Or.inl rfl))) (Or.inr (Or.inr (Or.inr rfl))) (by omega) (by omega) (by assumption) (by omega) (by omega) ng2g3 ng2g4 ng3g4) gX1_learnRule_X1_learnCond rfl rfl (by decide +kernel) ⟨(Nat.le_of_ble_eq_true rfl), (Nat.le_of_ble_eq_true rfl)⟩ rfl hl.1 (Nat.le_of_ble_eq_true rfl) k147 rfl dX1_learnRule_89 rfl ⟨(Nat.le_of_ble_eq_true rfl), (Nat.le_of_ble_eq_true rfl)⟩ (fun v158 w159 hp157 H locs hP hD hS => ?_)
              obtain ⟨ax160, nfx161, sfx162, ufx163, rx164, rfl, hz165, hz166, hz167, hz168, hz169, hz170, kq175, k171, k172, k173, k174⟩ := hp157
              have k176 := kq175.2 _ _ k147 (fun q9 => Or.elim q9 (wd_nk k147 k153 rfl) (fun q9 => Or.elim q9 (wd_nk k147 k150 rfl) (fun q9 => Or.elim q9 (wd_nk k147 k151 rfl) (fun q9 : ag = g4 => (wd_nk k147 k152 rfl) q9))))
              have k177 := kq175.2 _ _ k148 (fun q9 => Or.elim q9 (wd_nk k148 k153 rfl) (fun q9 => Or.elim q9 (wd_nk k148 k150 rfl) (fun q9 => Or.elim q9 (wd_nk k148 k151 rfl) (fun q9 : g0 = g4 => (wd_nk k148 k152 rfl) q9))))
              have k178 := kq175.2 _ _ k149 (fun q9 => Or.elim q9 (wd_nk k149 k153 rfl) (fun q9 => Or.elim q9 (wd_nk k149 k150 rfl) (fun q9 => Or.elim q9 (wd_nk k149 k151 rfl) (fun q9 : g1 = g4 => (wd_nk k149 k152 rfl) q9))))
              have k179 := kq175.2 _ _ k154 (fun q9 => Or.elim q9 (wd_nk k154 k153 rfl) (fun q9 => Or.elim q9 (wd_nk k154 k150 rfl) (fun q9 => Or.elim q9 (wd_nk k154 k151 rfl) (fun q9 : b = g4 => (wd_nk k154 k152 rfl) q9))))
              have kp180 := kp155.tr kq175 (fun b9 hm q9 => (fun q9 => Or.elim q9 (fun q9 => q9 ▸ s90) (fun q9 => Or.elim q9 (fun q9 => q9 ▸ s93) (fun q9 => Or.elim q9 (fun q9 => q9 ▸ s94) (fun q9 => q9 ▸ s95)))) q9)
              refine W.eq (g2 := F0 m 92 ls [.int rx164]) rfl (W.widen (k := 0) (n := 0) (Nat.le_of_ble_eq_true rfl) (Nat.le_of_ble_eq_true rfl) ?_)
              refine lv_istore (lv' := [(7, .int rx164), (0, .ref ag), (1, .ref t), (2, .int (nI r)), (3, .int (nI (nx f n a0))), (4, .int (nI (rlK f n a0))), (5, .int go), (6, .int (nI k))]) hx hb dX1_learnRule_92 hl (by decide) rfl (fun ls hl => ?_)
              refine lv_iload hx hb dX1_learnRule_94 (lv_at hl 0 rfl) ?_
              refine lv_if_eq (tgt := 102) hx hb dX1_learnRule_96 (by decide) (fun cf9 => ?_) (fun cf9 => ?_)
              · have hk5 := (hz168).2 cf9
                obtain ⟨hcdO, ea9, en9, es9, eu9⟩ := hz169 cf9
                subst ea9
                subst en9
                subst es9
                subst eu9
                have hcd8 : cdK f n a2 < 8 := by have h9 : cdK f n a2 ≤ 8 := twK_le (B := f) (n := n) (a := nx f n a2) (i := 2); have h8 := hcdO.1; omega
                refine lv_aload_n hx hb dX1_learnRule_102 rfl (lv_at hl 1 rfl) ?_
                refine x_get (ref := "NoteHouse$Agent") F hP k176 rfl (fun _ h => List.mem_cons_of_mem _ (List.mem_append_left _ (List.mem_append_right _ (h)))) 1 (Nat.le_of_ble_eq_true rfl) (List.mem_cons_of_mem _ (List.mem_append_left _ (List.mem_append_left _ (List.mem_append_left _ (List.mem_of_getElem? (i := 1) rfl))))) rfl rfl dX1_learnRule_103 ?_
                refine lv_iload_n hx hb dX1_learnRule_106 rfl (lv_at hl 3 rfl) ?_
                refine lv_dup2_11 hx hb dX1_learnRule_107 rfl rfl ?_
                refine x_iald F hP k178 (vp_in_nI (n := r) (N := 12) (by omega) (by decide)) dX1_learnRule_108 ?_
                rw [nI_clamp (n := r) (by omega), hck]
                refine lv_iconst (v := 1) hx hb dX1_learnRule_109 (by decide) ?_
                refine lv_iadd hx hb dX1_learnRule_110 ?_
                rw [show ((nI k) + 1 : Int32) = nI (k + 1) from nI_add k 1]
                refine y_iast F hP hD hS k178 (vp_in_nI (n := r) (N := 12) (by omega) (by decide)) dX1_learnRule_111 (fun w181 ew182 H locs hP hD hS => ?_)
                have k183 := wd_at.pt ew182 k176 (wd_nk k176 k178 rfl)
                have k184 := wd_at.pt ew182 k177 ng0g1
                have k185 : wd_at w181 g1 (.inl (cy 2, 12, .inl (upd cf2 (nI r).toNatClampNeg (nI (k + 1))))) := wd_at.ps ew182 k178
                have k186 := wd_at.pt ew182 k172 (wd_nk k172 k178 rfl)
                have k187 := wd_at.pt ew182 k173 (wd_nk k173 k178 rfl)
                have k188 := wd_at.pt ew182 k174 (wd_nk k174 k178 rfl)
                have k189 := wd_at.pt ew182 k171 (wd_nk k171 k178 rfl)
                have k190 := wd_at.pt ew182 k179 (wd_nk k179 k178 rfl)
                have kp191 := kp180.put ew182 s92
                refine lv_aload_n hx hb dX1_learnRule_112 rfl (lv_at hl 2 rfl) ?_
                refine x_ldcS F (i := 3) (tx := "and") (by decide +kernel) dX1_learnRule_113 ?_
                refine x_callV (n := 1) (As := [.ref (sk 3)]) (rest := []) F hP hD hS (g_takeWord l D cy sk sv w181 t b n (cdE f n a2) 3 f k189 k190 (fun b => b = t) rfl (by omega) (by omega) (by omega)) gX1_learnRule_X7_takeWord rfl rfl (by decide +kernel) ⟨(Nat.le_of_ble_eq_true rfl), (Nat.le_of_ble_eq_true rfl)⟩ rfl hl.1 (Nat.le_of_ble_eq_true rfl) k189 rfl dX1_learnRule_115 rfl ⟨(Nat.le_of_ble_eq_true rfl), (Nat.le_of_ble_eq_true rfl)⟩ (fun v193 w194 hp192 H locs hP hD hS => ?_)
                obtain ⟨ax195, rx196, rfl, rfl, hz197, hz198, hz199, hz200, kq202, k201⟩ := hp192
                have k203 := kq202.2 _ _ k183 (fun q9 : ag = t => (wd_nk k183 k189 rfl) q9)
                have k204 := kq202.2 _ _ k184 (fun q9 : g0 = t => (wd_nk k184 k189 rfl) q9)
                have k205 := kq202.2 _ _ k185 (fun q9 : g1 = t => (wd_nk k185 k189 rfl) q9)
                have k206 := kq202.2 _ _ k186 (fun q9 : g2 = t => (wd_nk k186 k189 rfl) q9)
                have k207 := kq202.2 _ _ k187 (fun q9 : g3 = t => (wd_nk k187 k189 rfl) q9)
                have k208 := kq202.2 _ _ k188 (fun q9 : g4 = t => (wd_nk k188 k189 rfl) q9)
                have k209 := kq202.2 _ _ k190 (fun q9 : b = t => (wd_nk k190 k189 rfl) q9)
                have kp210 := kp191.tr kq202 (fun b9 hm q9 => (fun q9 => q9 ▸ s90) q9)
                refine W.eq (g2 := F0 m 118 ls [.int rx196]) rfl (W.widen (k := 0) (n := 0) (Nat.le_of_ble_eq_true rfl) (Nat.le_of_ble_eq_true rfl) ?_)
                refine lv_iconst (v := (-1)) hx hb dX1_learnRule_118 (by decide) ?_
                refine lv_icmp_eq (tgt := 126) hx hb dX1_learnRule_119 (by decide) (fun c_211 => ?_) (fun c_211 => ?_)
                · have hand : ¬ twK f n (cdE f n a2) 3 = 0 := by have h9 : twK f n (cdE f n a2) 3 = 1 := (twR_no (B := f) (n := n) (a := cdE f n a2) (i := 3) (by decide)).mp (hz199.symm.trans c_211); omega
                  refine lv_iconst (v := 0) hx hb dX1_learnRule_126 (by decide) ?_
                  refine lv_istore (lv' := [(5, .int 0), (7, .int rx164), (0, .ref ag), (1, .ref t), (2, .int (nI r)), (3, .int (nI (nx f n a0))), (4, .int (nI (rlK f n a0))), (6, .int (nI k))]) hx hb dX1_learnRule_127 hl (by decide) rfl (fun ls hl => ?_)
                  refine lv_iinc (v := nI (k + 1)) (lv' := [(6, .int (nI (k + 1))), (5, .int 0), (7, .int rx164), (0, .ref ag), (1, .ref t), (2, .int (nI r)), (3, .int (nI (nx f n a0))), (4, .int (nI (rlK f n a0)))]) hx hb dX1_learnRule_129 hl (k := 7) rfl (nI_1 k) (by decide) rfl (fun ls hl => ?_)
                  refine lv_goto (tgt := 72) hx hb dX1_learnRule_132 (by decide) ?_
                  exact ih72 (k + 1) 0 (twA f n (cdE f n a2) 3) (upd cf2 (nI r).toNatClampNeg (nI (k + 1))) (upd nf2 (nI (r * 6 + k)).toNatClampNeg (nI (cdK f n a2))) (upd sf2 (nI (r * 6 + k)).toNatClampNeg (sgR f n (cdQ f n a2))) (upd uf2 (nI (r * 6 + k)).toNatClampNeg (tnR f n (cdP f n a2) 6)) (cdT f n a2 r k T2) w194 (by omega) (by omega) (by omega) (by omega) (aOK.c (r := r) (u := k + 1) (by assumption) (by omega) (by omega)) (by rw [nI_clamp (by omega), pk_us]) (⟨fun h => absurd rfl h, fun _ => (hG.1 cgo).symm.trans (by rw [show 7 - k = N + 1 by omega]; exact cnG_e hcdO hk5 hand)⟩) (hag2.cond (by omega) hck hk5 hcd8) k203 k204 k205 k206 k207 k208 k201 k209 kp210 ls (lv_sub hl [3, 4, 5, 6, 7, 1, 0] rfl) H locs hP hD hS
                · have hand : twK f n (cdE f n a2) 3 = 0 := by have h9 : ¬ twK f n (cdE f n a2) 3 = 1 := (fun q => c_211 (hz199.trans ((twR_no (B := f) (n := n) (a := cdE f n a2) (i := 3) (by decide)).mpr q))); have h8 : twK f n (cdE f n a2) 3 ≤ 1 := twK_le (B := f) (n := n) (a := cdE f n a2) (i := 3); omega
                  refine lv_iconst (v := 1) hx hb dX1_learnRule_122 (by decide) ?_
                  refine lv_goto (tgt := 127) hx hb dX1_learnRule_123 (by decide) ?_
                  refine lv_istore (lv' := [(5, .int 1), (7, .int rx164), (0, .ref ag), (1, .ref t), (2, .int (nI r)), (3, .int (nI (nx f n a0))), (4, .int (nI (rlK f n a0))), (6, .int (nI k))]) hx hb dX1_learnRule_127 hl (by decide) rfl (fun ls hl => ?_)
                  refine lv_iinc (v := nI (k + 1)) (lv' := [(6, .int (nI (k + 1))), (5, .int 1), (7, .int rx164), (0, .ref ag), (1, .ref t), (2, .int (nI r)), (3, .int (nI (nx f n a0))), (4, .int (nI (rlK f n a0)))]) hx hb dX1_learnRule_129 hl (k := 7) rfl (nI_1 k) (by decide) rfl (fun ls hl => ?_)
                  refine lv_goto (tgt := 72) hx hb dX1_learnRule_132 (by decide) ?_
                  exact ih72 (k + 1) 1 (twA f n (cdE f n a2) 3) (upd cf2 (nI r).toNatClampNeg (nI (k + 1))) (upd nf2 (nI (r * 6 + k)).toNatClampNeg (nI (cdK f n a2))) (upd sf2 (nI (r * 6 + k)).toNatClampNeg (sgR f n (cdQ f n a2))) (upd uf2 (nI (r * 6 + k)).toNatClampNeg (tnR f n (cdP f n a2) 6)) (cdT f n a2 r k T2) w194 (by omega) (by omega) (by omega) (by omega) (aOK.c (r := r) (u := k + 1) (by assumption) (by omega) (by omega)) (by rw [nI_clamp (by omega), pk_us]) (⟨fun _ => by rw [show 7 - (k + 1) = N by omega, ← cnG_s hcdO hk5 hand, ← hG.1 cgo, show 7 - k = N + 1 by omega], fun h => absurd h (by decide)⟩) (hag2.cond (by omega) hck hk5 hcd8) k203 k204 k205 k206 k207 k208 k201 k209 kp210 ls (lv_sub hl [3, 4, 5, 6, 7, 1, 0] rfl) H locs hP hD hS
              · have hft := ((hz168).1).resolve_left cf9
                have hft2 : (rx164 = 0 ∨ ∃ k, 0 < k ∧ k < 2000 ∧ rx164 = nI k) := Or.inr hft
                refine lv_iload hx hb dX1_learnRule_99 (lv_at hl 0 rfl) ?_
                exact y_ir K hP hD hS (Nat.le_of_ble_eq_true rfl) (Nat.le_of_ble_eq_true rfl) (ty := .int) rfl rfl dX1_learnRule_101 (⟨ax160, upd df (nI r).toNatClampNeg (nI (rlK f n a0)), cf2, nfx161, sfx162, ufx163, rx164, rfl, by omega, by omega, (by assumption), ⟨(by assumption), fun q => absurd q cf9⟩, fun q => absurd q cf9, fun _ => (hG.1 cgo).symm.trans (by rw [show 7 - k = N + 1 by omega]; exact cnG_n (hz170 cf9)), kp180, k171, k177, k178, k172, k173, k174⟩)
        exact lp72 _ 0 1 (twA f n (twA f n (nx f n a0) 0) 1) (upd cf (nI r).toNatClampNeg 0) nf sf uf (rl0 f n a0 r TT) w62 (Nat.zero_add 7) (by omega) (by omega) (by omega) (aOK.c (r := r) (u := 0) (by assumption) (by omega) (by omega)) (by rw [nI_clamp (by omega), pk_us]; rfl) (⟨fun _ => (rlS_c hk9 hr12 hif).symm, fun h => absurd h (by decide)⟩) (hagr.rule (by omega) hkl) k71 k72 k73 k74 k75 k76 k69 k77 kp78 ls (lv_sub hl [4, 5, 6, 3, 2, 1, 0] rfl) H locs hP hD hS
    · have hr12 : ¬ r < 12 := fun q => c_37 (nI_lt (b := 12) q (by omega))
      refine lv_iload_n hx hb dX1_learnRule_31 rfl (lv_at hl 1 rfl) ?_
      refine lv_iconst (v := 2) hx hb dX1_learnRule_32 (by decide) ?_
      refine x_callSN (host := RX10) (n := 2) (As := [.int (nI (nx f n a0)), .int 2]) (rest := []) F hP hD hS (g_faultAt l D cy sk sv w19 (nx f n a0) 2) gX1_learnRule_X10_faultAt_n63 rfl (by decide +kernel) (List.mem_cons_of_mem _ (List.mem_append_left _ (List.mem_append_left _ (List.mem_append_left _ (List.mem_of_getElem? (i := 20) rfl))))) (List.mem_cons_of_mem _ (List.mem_append_left _ (List.mem_append_left _ (List.mem_append_right _ (List.mem_append_right _ (List.mem_append_right _ (List.mem_append_left _ (List.mem_of_getElem? (i := 7) rfl)))))))) (by decide +kernel) ⟨(Nat.le_of_ble_eq_true rfl), (Nat.le_of_ble_eq_true rfl)⟩ rfl hl.1 (Nat.le_of_ble_eq_true rfl) dX1_learnRule_33 rfl ⟨(Nat.le_of_ble_eq_true rfl), (Nat.le_of_ble_eq_true rfl)⟩ (fun v213 w214 hp212 H locs hP hD hS => ?_)
      obtain ⟨rfl, rfl⟩ := hp212
      refine W.eq (g2 := F0 m 36 ls [.int (nI (1 + 4 * (nx f n a0) + 2))]) rfl (W.widen (k := 0) (n := 0) (Nat.le_of_ble_eq_true rfl) (Nat.le_of_ble_eq_true rfl) ?_)
      exact y_ir K hP hD hS (Nat.le_of_ble_eq_true rfl) (Nat.le_of_ble_eq_true rfl) (ty := .int) rfl rfl dX1_learnRule_36 (⟨(twA f n (nx f n a0) 0), df, cf, nf, sf, uf, nI (1 + 4 * (nx f n a0) + 2), rfl, by omega, by omega, hok, ⟨Or.inr ⟨_, by omega, by omega, rfl⟩, fun q => absurd q (nI_ne0 (by omega) (by omega))⟩, fun q => absurd q (nI_ne0 (by omega) (by omega)), fun _ => rlS_n (fun q => absurd q.2 (by omega)), kp35, k26, k29, k30, k31, k32, k33⟩)
  · have hk9 : (rlK f n a0) = 3 := (twR_no (B := f) (n := n) (a := nx f n a0) (i := 0) (by decide)).mp (hz24.symm.trans c_36)
    refine lv_iload_n hx hb dX1_learnRule_19 rfl (lv_at hl 1 rfl) ?_
    refine lv_iconst (v := 0) hx hb dX1_learnRule_20 (by decide) ?_
    refine x_callSN (host := RX10) (n := 2) (As := [.int (nI (nx f n a0)), .int 0]) (rest := []) F hP hD hS (g_faultAt l D cy sk sv w19 (nx f n a0) 0) gX1_learnRule_X10_faultAt_n63 rfl (by decide +kernel) (List.mem_cons_of_mem _ (List.mem_append_left _ (List.mem_append_left _ (List.mem_append_left _ (List.mem_of_getElem? (i := 20) rfl))))) (List.mem_cons_of_mem _ (List.mem_append_left _ (List.mem_append_left _ (List.mem_append_right _ (List.mem_append_right _ (List.mem_append_right _ (List.mem_append_left _ (List.mem_of_getElem? (i := 7) rfl)))))))) (by decide +kernel) ⟨(Nat.le_of_ble_eq_true rfl), (Nat.le_of_ble_eq_true rfl)⟩ rfl hl.1 (Nat.le_of_ble_eq_true rfl) dX1_learnRule_21 rfl ⟨(Nat.le_of_ble_eq_true rfl), (Nat.le_of_ble_eq_true rfl)⟩ (fun v216 w217 hp215 H locs hP hD hS => ?_)
    obtain ⟨rfl, rfl⟩ := hp215
    refine W.eq (g2 := F0 m 24 ls [.int (nI (1 + 4 * (nx f n a0) + 0))]) rfl (W.widen (k := 0) (n := 0) (Nat.le_of_ble_eq_true rfl) (Nat.le_of_ble_eq_true rfl) ?_)
    exact y_ir K hP hD hS (Nat.le_of_ble_eq_true rfl) (Nat.le_of_ble_eq_true rfl) (ty := .int) rfl rfl dX1_learnRule_24 (⟨(twA f n (nx f n a0) 0), df, cf, nf, sf, uf, nI (1 + 4 * (nx f n a0) + 0), rfl, by omega, by omega, hok, ⟨Or.inr ⟨_, by omega, by omega, rfl⟩, fun q => absurd q (nI_ne0 (by omega) (by omega))⟩, fun q => absurd q (nI_ne0 (by omega) (by omega)), fun _ => rlS_n (fun q => q.1 hk9), kp35, k26, k29, k30, k31, k32, k33⟩)
set_option maxHeartbeats 4000000 in
set_option maxRecDepth 100000 in
theorem g_learn (l : Launch) (D : va_G) (cy : Nat → ClassId) (sk sv : Nat → Nat) (w : Wd) (ag g0 g1 g2 g3 g4 : Nat) (t b n : Nat) (rc a0 : Int32) (df cf nf sf uf : Nat → Int32) (f : Nat → Int32) (c90 : wd_at w ag (.inr (1, [.ref g0, .ref g1, .ref g2, .ref g3, .ref g4, .int rc]))) (c91 : wd_at w g0 (.inl (cy 2, 12, .inl df))) (c92 : wd_at w g1 (.inl (cy 2, 12, .inl cf))) (c93 : wd_at w g2 (.inl (cy 2, 72, .inl nf))) (c94 : wd_at w g3 (.inl (cy 1, 72, .inl sf))) (c95 : wd_at w g4 (.inl (cy 2, 72, .inl uf))) (c96 : wd_at w t (.inr (7, [.ref b, .int (nI n), .int a0]))) (c97 : wd_at w b (.inl (cy 0, 300, .inl f)))  (S : Nat → Prop) (s90 : S t) (s91 : S ag) (s92 : S g0) (s93 : S g1) (s94 : S g2) (s95 : S g3) (s96 : S g4) (hn : n ≤ 300) (hok : aOK cf nf) (ng0g1 : g0 ≠ g1) (ng2g3 : g2 ≠ g3) (ng2g4 : g2 ≠ g4) (ng3g4 : g3 ≠ g4) : Ct l D cy sk sv yX1_learn wsX1_learn ({ frames := 9, cells := 0, slots := 0, locals := 213 }) [.ref ag, .ref t] w (fun v w1 => ∃ (a1 : Nat) (rr : Nat) (df1 : Nat → Int32) (cf1 : Nat → Int32) (nf1 : Nat → Int32) (sf1 : Nat → Int32) (uf1 : Nat → Int32) (r1 : Int32), v = some (.int r1) ∧ (a1 ≤ n) ∧ (rr ≤ 12) ∧ (aOK cf1 nf1) ∧ (r1 = 0 → ∃ T1, txT f n = some (rr, T1) ∧ agR df1 cf1 nf1 sf1 uf1 rr T1) ∧ (¬ r1 = 0 → txT f n = none) ∧ wd_kp S w w1 ∧ wd_at w1 t (.inr (7, [.ref b, .int (nI n), .int (nI a1)])) ∧ wd_at w1 ag (.inr (1, [.ref g0, .ref g1, .ref g2, .ref g3, .ref g4, .int (nI rr)])) ∧ wd_at w1 g0 (.inl (cy 2, 12, .inl df1)) ∧ wd_at w1 g1 (.inl (cy 2, 12, .inl cf1)) ∧ wd_at w1 g2 (.inl (cy 2, 72, .inl nf1)) ∧ wd_at w1 g3 (.inl (cy 1, 72, .inl sf1)) ∧ wd_at w1 g4 (.inl (cy 2, 72, .inl uf1))) := by
  refine Ct.by (cc := cX1_learn) (maxL := 4) (ret := (some .int)) (by decide +kernel) rfl (Nat.le_of_ble_eq_true rfl) ?_
  intro p e s m args below meth c A Q F hnm K ls hl
  have F : wd_Fx p s m args meth c cX1_learn 4 wsX1_learn RX1 D cy sk sv A := F
  have hl : lv_has ls 4 [(0, .ref ag), (1, .ref t)] := hl
  have hx := F.1.1
  have hb := F.1.2.1
  have hown := F.1.2.2.2.1
  have hts := F.1.2.2.2.2
  intro H locs hP hD hS
  have kp0 : wd_kp S w w := wd_kp.rf
  refine lv_aload_n hx hb dX1_learn_0 rfl (lv_at hl 0 rfl) ?_
  refine lv_iconst (v := 0) hx hb dX1_learn_1 (by decide) ?_
  refine y_put (ref := "NoteHouse$Agent") F hP hD hS c90 rfl (fun _ h => List.mem_cons_of_mem _ (List.mem_append_left _ (List.mem_append_right _ (h)))) tyX1_ok nmX1 5 (Nat.le_of_ble_eq_true rfl) (List.mem_cons_of_mem _ (List.mem_append_left _ (List.mem_append_left _ (List.mem_append_left _ (List.mem_of_getElem? (i := 0) rfl))))) rfl rfl rfl rfl (Nat.le_of_ble_eq_true rfl) dX1_learn_2 (fun w1 ew2 H locs hP hD hS => ?_)
  have k3 : wd_at w1 ag (.inr (1, [.ref g0, .ref g1, .ref g2, .ref g3, .ref g4, .int 0])) := wd_at.ps ew2 c90
  have k4 := wd_at.pt ew2 c91 (wd_nk c91 c90 rfl)
  have k5 := wd_at.pt ew2 c92 (wd_nk c92 c90 rfl)
  have k6 := wd_at.pt ew2 c93 (wd_nk c93 c90 rfl)
  have k7 := wd_at.pt ew2 c94 (wd_nk c94 c90 rfl)
  have k8 := wd_at.pt ew2 c95 (wd_nk c95 c90 rfl)
  have k9 := wd_at.pt ew2 c96 (wd_nk c96 c90 rfl)
  have k10 := wd_at.pt ew2 c97 (wd_nk c97 c90 rfl)
  have kp11 := kp0.put ew2 s91
  refine lv_aload_n hx hb dX1_learn_5 rfl (lv_at hl 1 rfl) ?_
  refine x_callV (n := 0) (As := []) (rest := []) F hP hD hS (g_rewind l D cy sk sv w1 t b n a0 k9 (fun b => b = t) rfl) gX1_learn_X7_rewind rfl rfl (by decide +kernel) ⟨(Nat.le_of_ble_eq_true rfl), (Nat.le_of_ble_eq_true rfl)⟩ rfl hl.1 (Nat.le_of_ble_eq_true rfl) k9 rfl dX1_learn_6 rfl ⟨(Nat.le_of_ble_eq_true rfl), (Nat.le_of_ble_eq_true rfl)⟩ (fun v13 w14 hp12 H locs hP hD hS => ?_)
  obtain ⟨rfl, kq16, k15⟩ := hp12
  have k17 := kq16.2 _ _ k3 (fun q9 : ag = t => (wd_nk k3 k9 rfl) q9)
  have k18 := kq16.2 _ _ k4 (fun q9 : g0 = t => (wd_nk k4 k9 rfl) q9)
  have k19 := kq16.2 _ _ k5 (fun q9 : g1 = t => (wd_nk k5 k9 rfl) q9)
  have k20 := kq16.2 _ _ k6 (fun q9 : g2 = t => (wd_nk k6 k9 rfl) q9)
  have k21 := kq16.2 _ _ k7 (fun q9 : g3 = t => (wd_nk k7 k9 rfl) q9)
  have k22 := kq16.2 _ _ k8 (fun q9 : g4 = t => (wd_nk k8 k9 rfl) q9)
  have k23 := kq16.2 _ _ k10 (fun q9 : b = t => (wd_nk k10 k9 rfl) q9)
  have kp24 := kp11.tr kq16 (fun b9 hm q9 => (fun q9 => q9 ▸ s90) q9)
  refine W.eq (g2 := F0 m 9 ls []) rfl (W.widen (k := 0) (n := 0) (Nat.le_of_ble_eq_true rfl) (Nat.le_of_ble_eq_true rfl) ?_)
  refine lv_aload_n hx hb dX1_learn_9 rfl (lv_at hl 1 rfl) ?_
  refine x_callV (n := 0) (As := []) (rest := []) F hP hD hS (g_isOver l D cy sk sv w14 t b n 0 f k15 k23 (fun b => b = t) rfl (by omega) (by omega)) gX1_learn_X7_isOver rfl rfl (by decide +kernel) ⟨(Nat.le_of_ble_eq_true rfl), (Nat.le_of_ble_eq_true rfl)⟩ rfl hl.1 (Nat.le_of_ble_eq_true rfl) k15 rfl dX1_learn_10 rfl ⟨(Nat.le_of_ble_eq_true rfl), (Nat.le_of_ble_eq_true rfl)⟩ (fun v26 w27 hp25 H locs hP hD hS => ?_)
  obtain ⟨ax28, rx29, rfl, rfl, rfl, hz30, hz31, hz32, kq34, k33⟩ := hp25
  have k35 := kq34.2 _ _ k17 (fun q9 : ag = t => (wd_nk k17 k15 rfl) q9)
  have k36 := kq34.2 _ _ k18 (fun q9 : g0 = t => (wd_nk k18 k15 rfl) q9)
  have k37 := kq34.2 _ _ k19 (fun q9 : g1 = t => (wd_nk k19 k15 rfl) q9)
  have k38 := kq34.2 _ _ k20 (fun q9 : g2 = t => (wd_nk k20 k15 rfl) q9)
  have k39 := kq34.2 _ _ k21 (fun q9 : g3 = t => (wd_nk k21 k15 rfl) q9)
  have k40 := kq34.2 _ _ k22 (fun q9 : g4 = t => (wd_nk k22 k15 rfl) q9)
  have k41 := kq34.2 _ _ k23 (fun q9 : b = t => (wd_nk k23 k15 rfl) q9)
  have kp42 := kp24.tr kq34 (fun b9 hm q9 => (fun q9 => q9 ▸ s90) q9)
  refine W.eq (g2 := F0 m 13 ls [.int (ovr f n 0)]) rfl (W.widen (k := 0) (n := 0) (Nat.le_of_ble_eq_true rfl) (Nat.le_of_ble_eq_true rfl) ?_)
  refine lv_if_eq (tgt := 18) hx hb dX1_learn_13 (by decide) (fun c_43 => ?_) (fun c_43 => ?_)
  · have hnx : nx f n 0 < n := ovr_0.mp c_43
    refine lv_iconst (v := 0) hx hb dX1_learn_18 (by decide) ?_
    refine lv_istore_n (lv' := [(2, .int 0), (0, .ref ag), (1, .ref t)]) hx hb dX1_learn_19 rfl hl (by decide) rfl (fun ls hl => ?_)
    have lp20 : ∀ (N : Nat) (k : Nat) (a2 : Nat) (df2 : Nat → Int32) (cf2 : Nat → Int32) (nf2 : Nat → Int32) (sf2 : Nat → Int32) (uf2 : Nat → Int32) (T2 : Nat → Nat → Int32) (w44 : Wd), (k + N = 13) → (a2 ≤ n) → (aOK cf2 nf2) → (k ≤ 12) → (txG f n (13 - k) a2 k T2 = txT f n) → (agR df2 cf2 nf2 sf2 uf2 k T2) → (wd_at w44 ag (.inr (1, [.ref g0, .ref g1, .ref g2, .ref g3, .ref g4, .int (nI k)]))) → (wd_at w44 g0 (.inl (cy 2, 12, .inl df2))) → (wd_at w44 g1 (.inl (cy 2, 12, .inl cf2))) → (wd_at w44 g2 (.inl (cy 2, 72, .inl nf2))) → (wd_at w44 g3 (.inl (cy 1, 72, .inl sf2))) → (wd_at w44 g4 (.inl (cy 2, 72, .inl uf2))) → (wd_at w44 t (.inr (7, [.ref b, .int (nI n), .int (nI a2)]))) → (wd_at w44 b (.inl (cy 0, 300, .inl f))) → (wd_kp S w w44) → ∀ (ls : Array Slot), lv_has ls 4 [(0, .ref ag), (1, .ref t), (2, .int (nI k))] → Wv p l e ({ frames := 9, cells := 0, slots := 0, locals := 213 }) s m args below meth c D A (0) (0) Q w44 (F0 m 20 ls []) := by
      intro N
      induction N with
      | zero =>
        intro k a2 df2 cf2 nf2 sf2 uf2 T2 w44 hN20 ha2 hok2 hk13 hG hag2 k45 k46 k47 k48 k49 k50 k51 k52 kp53 ls hl H locs hP hD hS
        exact absurd hN20 (by omega)
      | succ N ih20 =>
        intro k a2 df2 cf2 nf2 sf2 uf2 T2 w44 hN20 ha2 hok2 hk13 hG hag2 k45 k46 k47 k48 k49 k50 k51 k52 kp53 ls hl H locs hP hD hS
        refine lv_iload_n hx hb dX1_learn_20 rfl (lv_at hl 2 rfl) ?_
        refine lv_bipush (v := 12) hx hb dX1_learn_21 (by decide) ?_
        refine lv_icmp_gt (tgt := 79) hx hb dX1_learn_23 (by decide) (fun c_54 => absurd c_54 (nI_nlt (a := 12) (b := k) (by omega) (by omega))) (fun c_54 => ?_)
        refine lv_aload_n hx hb dX1_learn_26 rfl (lv_at hl 0 rfl) ?_
        refine lv_aload_n hx hb dX1_learn_27 rfl (lv_at hl 1 rfl) ?_
        refine lv_iload_n hx hb dX1_learn_28 rfl (lv_at hl 2 rfl) ?_
        refine x_callV (n := 2) (As := [.ref t, .int (nI k)]) (rest := []) F hP hD hS (g_learnRule l D cy sk sv w44 ag g0 g1 g2 g3 g4 t b n a2 k (nI k) df2 cf2 nf2 sf2 uf2 f T2 k45 k46 k47 k48 k49 k50 k51 k52 (fun b => b = t ∨ b = g0 ∨ b = g1 ∨ b = g2 ∨ b = g3 ∨ b = g4) (Or.inl rfl) (Or.inr (Or.inl rfl)) (Or.inr (Or.inr (Or.inl rfl))) (Or.inr (Or.inr (Or.inr (Or.inl rfl)))) (Or.inr (Or.inr (Or.inr (Or.inr (Or.inl rfl))))) (Or.inr (Or.inr (Or.inr (Or.inr (Or.inr rfl))))) (by omega) (by omega) (by assumption) (by omega) (by assumption) ng0g1 ng2g3 ng2g4 ng3g4) gX1_learn_X1_learnRule rfl rfl (by decide +kernel) ⟨(Nat.le_of_ble_eq_true rfl), (Nat.le_of_ble_eq_true rfl)⟩ rfl hl.1 (Nat.le_of_ble_eq_true rfl) k45 rfl dX1_learn_29 rfl ⟨(Nat.le_of_ble_eq_true rfl), (Nat.le_of_ble_eq_true rfl)⟩ (fun v56 w57 hp55 H locs hP hD hS => ?_)
        obtain ⟨ax58, dfx59, cfx60, nfx61, sfx62, ufx63, rx64, rfl, hz65, hz66, hz67, hz68, hz69, hz70, kq77, k71, k72, k73, k74, k75, k76⟩ := hp55
        have k78 := kq77.2 _ _ k45 (fun q9 => Or.elim q9 (wd_nk k45 k51 rfl) (fun q9 => Or.elim q9 (wd_nk k45 k46 rfl) (fun q9 => Or.elim q9 (wd_nk k45 k47 rfl) (fun q9 => Or.elim q9 (wd_nk k45 k48 rfl) (fun q9 => Or.elim q9 (wd_nk k45 k49 rfl) (fun q9 : ag = g4 => (wd_nk k45 k50 rfl) q9))))))
        have k79 := kq77.2 _ _ k52 (fun q9 => Or.elim q9 (wd_nk k52 k51 rfl) (fun q9 => Or.elim q9 (wd_nk k52 k46 rfl) (fun q9 => Or.elim q9 (wd_nk k52 k47 rfl) (fun q9 => Or.elim q9 (wd_nk k52 k48 rfl) (fun q9 => Or.elim q9 (wd_nk k52 k49 rfl) (fun q9 : b = g4 => (wd_nk k52 k50 rfl) q9))))))
        have kp80 := kp53.tr kq77 (fun b9 hm q9 => (fun q9 => Or.elim q9 (fun q9 => q9 ▸ s90) (fun q9 => Or.elim q9 (fun q9 => q9 ▸ s92) (fun q9 => Or.elim q9 (fun q9 => q9 ▸ s93) (fun q9 => Or.elim q9 (fun q9 => q9 ▸ s94) (fun q9 => Or.elim q9 (fun q9 => q9 ▸ s95) (fun q9 => q9 ▸ s96)))))) q9)
        refine W.eq (g2 := F0 m 32 ls [.int rx64]) rfl (W.widen (k := 0) (n := 0) (Nat.le_of_ble_eq_true rfl) (Nat.le_of_ble_eq_true rfl) ?_)
        refine lv_istore_n (lv' := [(3, .int rx64), (0, .ref ag), (1, .ref t), (2, .int (nI k))]) hx hb dX1_learn_32 rfl hl (by decide) rfl (fun ls hl => ?_)
        refine lv_iload_n hx hb dX1_learn_33 rfl (lv_at hl 0 rfl) ?_
        refine lv_if_eq (tgt := 39) hx hb dX1_learn_34 (by decide) (fun cf9 => ?_) (fun cf9 => ?_)
        · have hk12 := (hz68).2 cf9
          obtain ⟨TN9, hS1, hag3⟩ := hz69 cf9
          refine lv_aload_n hx hb dX1_learn_39 rfl (lv_at hl 1 rfl) ?_
          refine lv_dup hx hb dX1_learn_40 rfl ?_
          refine x_get (ref := "NoteHouse$Agent") F hP k78 rfl (fun _ h => List.mem_cons_of_mem _ (List.mem_append_left _ (List.mem_append_right _ (h)))) 5 (Nat.le_of_ble_eq_true rfl) (List.mem_cons_of_mem _ (List.mem_append_left _ (List.mem_append_left _ (List.mem_append_left _ (List.mem_of_getElem? (i := 0) rfl))))) rfl rfl dX1_learn_41 ?_
          refine lv_iconst (v := 1) hx hb dX1_learn_44 (by decide) ?_
          refine lv_iadd hx hb dX1_learn_45 ?_
          rw [show ((nI k) + 1 : Int32) = nI (k + 1) from nI_add k 1]
          refine y_put (ref := "NoteHouse$Agent") F hP hD hS k78 rfl (fun _ h => List.mem_cons_of_mem _ (List.mem_append_left _ (List.mem_append_right _ (h)))) tyX1_ok nmX1 5 (Nat.le_of_ble_eq_true rfl) (List.mem_cons_of_mem _ (List.mem_append_left _ (List.mem_append_left _ (List.mem_append_left _ (List.mem_of_getElem? (i := 0) rfl))))) rfl rfl rfl rfl (Nat.le_of_ble_eq_true rfl) dX1_learn_46 (fun w81 ew82 H locs hP hD hS => ?_)
          have k83 : wd_at w81 ag (.inr (1, [.ref g0, .ref g1, .ref g2, .ref g3, .ref g4, .int (nI (k + 1))])) := wd_at.ps ew82 k78
          have k84 := wd_at.pt ew82 k72 (wd_nk k72 k78 rfl)
          have k85 := wd_at.pt ew82 k73 (wd_nk k73 k78 rfl)
          have k86 := wd_at.pt ew82 k74 (wd_nk k74 k78 rfl)
          have k87 := wd_at.pt ew82 k75 (wd_nk k75 k78 rfl)
          have k88 := wd_at.pt ew82 k76 (wd_nk k76 k78 rfl)
          have k89 := wd_at.pt ew82 k71 (wd_nk k71 k78 rfl)
          have k90 := wd_at.pt ew82 k79 (wd_nk k79 k78 rfl)
          have kp91 := kp80.put ew82 s91
          refine lv_aload_n hx hb dX1_learn_49 rfl (lv_at hl 2 rfl) ?_
          refine x_callV (n := 0) (As := []) (rest := []) F hP hD hS (g_isOver l D cy sk sv w81 t b n ax58 f k89 k90 (fun b => b = t) rfl (by omega) (by omega)) gX1_learn_X7_isOver rfl rfl (by decide +kernel) ⟨(Nat.le_of_ble_eq_true rfl), (Nat.le_of_ble_eq_true rfl)⟩ rfl hl.1 (Nat.le_of_ble_eq_true rfl) k89 rfl dX1_learn_50 rfl ⟨(Nat.le_of_ble_eq_true rfl), (Nat.le_of_ble_eq_true rfl)⟩ (fun v93 w94 hp92 H locs hP hD hS => ?_)
          obtain ⟨ax95, rx96, rfl, rfl, rfl, hz97, hz98, hz99, kq101, k100⟩ := hp92
          have k102 := kq101.2 _ _ k83 (fun q9 : ag = t => (wd_nk k83 k89 rfl) q9)
          have k103 := kq101.2 _ _ k84 (fun q9 : g0 = t => (wd_nk k84 k89 rfl) q9)
          have k104 := kq101.2 _ _ k85 (fun q9 : g1 = t => (wd_nk k85 k89 rfl) q9)
          have k105 := kq101.2 _ _ k86 (fun q9 : g2 = t => (wd_nk k86 k89 rfl) q9)
          have k106 := kq101.2 _ _ k87 (fun q9 : g3 = t => (wd_nk k87 k89 rfl) q9)
          have k107 := kq101.2 _ _ k88 (fun q9 : g4 = t => (wd_nk k88 k89 rfl) q9)
          have k108 := kq101.2 _ _ k90 (fun q9 : b = t => (wd_nk k90 k89 rfl) q9)
          have kp109 := kp91.tr kq101 (fun b9 hm q9 => (fun q9 => q9 ▸ s90) q9)
          refine W.eq (g2 := F0 m 53 ls [.int (ovr f n ax58)]) rfl (W.widen (k := 0) (n := 0) (Nat.le_of_ble_eq_true rfl) (Nat.le_of_ble_eq_true rfl) ?_)
          refine lv_if_eq (tgt := 58) hx hb dX1_learn_53 (by decide) (fun c_110 => ?_) (fun c_110 => ?_)
          · have hlt : nx f n ax58 < n := ovr_0.mp c_110
            have hnn : nx f n (nx f n ax58) = nx f n ax58 := nx_nx (by omega)
            refine lv_aload_n hx hb dX1_learn_58 rfl (lv_at hl 2 rfl) ?_
            refine lv_bipush (v := 59) hx hb dX1_learn_59 (by decide) ?_
            refine x_callV (n := 1) (As := [.int 59]) (rest := []) F hP hD hS (g_takes l D cy sk sv w94 t b n (nx f n ax58) f 59 k100 k108 (fun b => b = t) rfl (by omega) (by omega)) gX1_learn_X7_takes rfl rfl (by decide +kernel) ⟨(Nat.le_of_ble_eq_true rfl), (Nat.le_of_ble_eq_true rfl)⟩ rfl hl.1 (Nat.le_of_ble_eq_true rfl) k100 rfl dX1_learn_61 rfl ⟨(Nat.le_of_ble_eq_true rfl), (Nat.le_of_ble_eq_true rfl)⟩ (fun v112 w113 hp111 H locs hP hD hS => ?_)
            obtain ⟨ax114, rx115, rfl, rfl, rfl, hz116, hz117, hz118, kq120, k119⟩ := hp111
            have k121 := kq120.2 _ _ k102 (fun q9 : ag = t => (wd_nk k102 k100 rfl) q9)
            have k122 := kq120.2 _ _ k103 (fun q9 : g0 = t => (wd_nk k103 k100 rfl) q9)
            have k123 := kq120.2 _ _ k104 (fun q9 : g1 = t => (wd_nk k104 k100 rfl) q9)
            have k124 := kq120.2 _ _ k105 (fun q9 : g2 = t => (wd_nk k105 k100 rfl) q9)
            have k125 := kq120.2 _ _ k106 (fun q9 : g3 = t => (wd_nk k106 k100 rfl) q9)
            have k126 := kq120.2 _ _ k107 (fun q9 : g4 = t => (wd_nk k107 k100 rfl) q9)
            have k127 := kq120.2 _ _ k108 (fun q9 : b = t => (wd_nk k108 k100 rfl) q9)
            have kp128 := kp109.tr kq120 (fun b9 hm q9 => (fun q9 => q9 ▸ s90) q9)
            refine W.eq (g2 := F0 m 64 ls [.int (tkR f n (nx f n ax58) 59)]) rfl (W.widen (k := 0) (n := 0) (Nat.le_of_ble_eq_true rfl) (Nat.le_of_ble_eq_true rfl) ?_)
            refine lv_if_ne (tgt := 73) hx hb dX1_learn_64 (by decide) (fun c_129 => ?_) (fun c_129 => ?_)
            · have ht59 : (nx f n (nx f n ax58) < n ∧ f (nx f n (nx f n ax58)) = 59) := Classical.byContradiction (fun q => c_129 (tkR_0.mpr q))
              have h59 : f (nx f n ax58) = 59 := by have h9 := ht59.2; rw [hnn] at h9; exact h9
              refine lv_iinc (v := nI (k + 1)) (lv' := [(2, .int (nI (k + 1))), (3, .int rx64), (0, .ref ag), (1, .ref t)]) hx hb dX1_learn_73 hl (k := 3) rfl (nI_1 k) (by decide) rfl (fun ls hl => ?_)
              refine lv_goto (tgt := 20) hx hb dX1_learn_76 (by decide) ?_
              exact ih20 (k + 1) (tkA f n (nx f n ax58) 59) dfx59 cfx60 nfx61 sfx62 ufx63 TN9 w113 (by omega) (by omega) (by assumption) (by omega) (by rw [tkA_y ht59, hnn, show 13 - (k + 1) = N by omega, ← txG_s hS1 hlt h59, ← hG, show 13 - k = N + 1 by omega]) hag3 k121 k122 k123 k124 k125 k126 k119 k127 kp128 ls (lv_sub hl [2, 3, 0] rfl) H locs hP hD hS
            · have ht59 : ¬ (nx f n (nx f n ax58) < n ∧ f (nx f n (nx f n ax58)) = 59) := tkR_0.mp c_129
              have h59 : ¬ f (nx f n ax58) = 59 := fun q => ht59 (by rw [hnn]; exact ⟨hlt, q⟩)
              refine lv_aload_n hx hb dX1_learn_67 rfl (lv_at hl 2 rfl) ?_
              refine lv_iconst (v := 0) hx hb dX1_learn_68 (by decide) ?_
              refine x_callV (n := 1) (As := [.int 0]) (rest := []) F hP hD hS (g_faultHere l D cy sk sv w113 t b n (tkA f n (nx f n ax58) 59) 0 f k119 k127 (fun b => b = t) rfl (by omega) (by omega)) gX1_learn_X7_faultHere rfl rfl (by decide +kernel) ⟨(Nat.le_of_ble_eq_true rfl), (Nat.le_of_ble_eq_true rfl)⟩ rfl hl.1 (Nat.le_of_ble_eq_true rfl) k119 rfl dX1_learn_69 rfl ⟨(Nat.le_of_ble_eq_true rfl), (Nat.le_of_ble_eq_true rfl)⟩ (fun v131 w132 hp130 H locs hP hD hS => ?_)
              obtain ⟨ax133, rfl, rfl, hz134, hz135, kq137, k136⟩ := hp130
              have k138 := kq137.2 _ _ k121 (fun q9 : ag = t => (wd_nk k121 k119 rfl) q9)
              have k139 := kq137.2 _ _ k122 (fun q9 : g0 = t => (wd_nk k122 k119 rfl) q9)
              have k140 := kq137.2 _ _ k123 (fun q9 : g1 = t => (wd_nk k123 k119 rfl) q9)
              have k141 := kq137.2 _ _ k124 (fun q9 : g2 = t => (wd_nk k124 k119 rfl) q9)
              have k142 := kq137.2 _ _ k125 (fun q9 : g3 = t => (wd_nk k125 k119 rfl) q9)
              have k143 := kq137.2 _ _ k126 (fun q9 : g4 = t => (wd_nk k126 k119 rfl) q9)
              have k144 := kq137.2 _ _ k127 (fun q9 : b = t => (wd_nk k127 k119 rfl) q9)
              have kp145 := kp128.tr kq137 (fun b9 hm q9 => (fun q9 => q9 ▸ s90) q9)
              refine W.eq (g2 := F0 m 72 ls [.int (nI (1 + 4 * (nx f n (tkA f n (nx f n ax58) 59)) + 0))]) rfl (W.widen (k := 0) (n := 0) (Nat.le_of_ble_eq_true rfl) (Nat.le_of_ble_eq_true rfl) ?_)
              exact y_ir K hP hD hS (Nat.le_of_ble_eq_true rfl) (Nat.le_of_ble_eq_true rfl) (ty := .int) rfl rfl dX1_learn_72 (⟨(nx f n (tkA f n (nx f n ax58) 59)), (k + 1), dfx59, cfx60, nfx61, sfx62, ufx63, nI (1 + 4 * (nx f n (tkA f n (nx f n ax58) 59)) + 0), rfl, by omega, by omega, by assumption, fun q => absurd q (nI_ne0 (by omega) (by omega)), fun _ => by rw [← hG, show 13 - k = N + 1 by omega]; exact txG_f hS1 hlt h59, kp145, k136, k138, k139, k140, k141, k142, k143⟩)
          · have hlt : ¬ nx f n ax58 < n := fun q => c_110 (ovr_0.mpr q)
            refine lv_iconst (v := 0) hx hb dX1_learn_56 (by decide) ?_
            exact y_ir K hP hD hS (Nat.le_of_ble_eq_true rfl) (Nat.le_of_ble_eq_true rfl) (ty := .int) rfl rfl dX1_learn_57 (⟨(nx f n ax58), (k + 1), dfx59, cfx60, nfx61, sfx62, ufx63, 0, rfl, by omega, by omega, by assumption, fun _ => ⟨TN9, by rw [← hG, show 13 - k = N + 1 by omega]; exact txG_e hS1 hlt, hag3⟩, fun h => absurd rfl h, kp109, k100, k102, k103, k104, k105, k106, k107⟩)
        · refine lv_iload_n hx hb dX1_learn_37 rfl (lv_at hl 0 rfl) ?_
          exact y_ir K hP hD hS (Nat.le_of_ble_eq_true rfl) (Nat.le_of_ble_eq_true rfl) (ty := .int) rfl rfl dX1_learn_38 (⟨ax58, k, dfx59, cfx60, nfx61, sfx62, ufx63, rx64, rfl, by omega, by omega, by assumption, fun q => absurd q cf9, fun _ => by rw [← hG, show 13 - k = N + 1 by omega]; exact txG_n (hz70 cf9), kp80, k71, k78, k72, k73, k74, k75, k76⟩)
    exact lp20 _ 0 (nx f n 0) df cf nf sf uf (fun _ _ => 0) w27 (Nat.zero_add 13) (by omega) (by assumption) (by omega) ((txT_1 hnx).symm) agR.z k35 k36 k37 k38 k39 k40 k33 k41 kp42 ls (lv_sub hl [1, 2, 0] rfl) H locs hP hD hS
  · have hnx : ¬ nx f n 0 < n := fun q => c_43 (ovr_0.mpr q)
    refine lv_iconst (v := 0) hx hb dX1_learn_16 (by decide) ?_
    exact y_ir K hP hD hS (Nat.le_of_ble_eq_true rfl) (Nat.le_of_ble_eq_true rfl) (ty := .int) rfl rfl dX1_learn_17 (⟨(nx f n 0), 0, df, cf, nf, sf, uf, 0, rfl, by omega, by omega, by assumption, fun _ => ⟨_, txT_0 hnx, agR.z⟩, fun h => absurd rfl h, kp42, k33, k35, k36, k37, k38, k39, k40⟩)
set_option maxHeartbeats 4000000 in
set_option maxRecDepth 100000 in
theorem g_forget (l : Launch) (D : va_G) (cy : Nat → ClassId) (sk sv : Nat → Nat) (w : Wd) (lw bl : Nat) (bf : Nat → Int32) (ff tt : Int32) (c90 : wd_at w lw (.inr (2, [.ref bl, .int ff, .int tt]))) (c91 : wd_at w bl (.inl (cy 2, 4, .inl bf)))  (S : Nat → Prop) (s90 : S lw) (s91 : S bl)  : Ct l D cy sk sv yX2_forget wsX2_forget ({ frames := 0, cells := 0, slots := 0, locals := 0 }) [.ref lw] w (fun v w1 => ∃ (bf1 : Nat → Int32), v = none ∧ (lwR bf1 10 law0) ∧ wd_kp S w w1 ∧ wd_at w1 lw (.inr (2, [.ref bl, .int 10, .int (nI 0)])) ∧ wd_at w1 bl (.inl (cy 2, 4, .inl bf1))) := by
  refine Ct.by (cc := cX2_forget) (maxL := 1) (ret := none) (by decide +kernel) rfl (Nat.le_of_ble_eq_true rfl) ?_
  intro p e s m args below meth c A Q F hnm K ls hl
  have F : wd_Fx p s m args meth c cX2_forget 1 wsX2_forget RX2 D cy sk sv A := F
  have hl : lv_has ls 1 [(0, .ref lw)] := hl
  have hx := F.1.1
  have hb := F.1.2.1
  have hown := F.1.2.2.2.1
  have hts := F.1.2.2.2.2
  intro H locs hP hD hS
  have kp0 : wd_kp S w w := wd_kp.rf
  refine lv_aload_n hx hb dX2_forget_0 rfl (lv_at hl 0 rfl) ?_
  refine x_get (ref := "NoteHouse$Law") F hP c90 rfl (fun _ h => List.mem_cons_of_mem _ (List.mem_append_right _ (h))) 0 (Nat.le_of_ble_eq_true rfl) (List.mem_cons_of_mem _ (List.mem_append_left _ (List.mem_of_getElem? (i := 0) rfl))) rfl rfl dX2_forget_1 ?_
  refine lv_iconst (v := 0) hx hb dX2_forget_4 (by decide) ?_
  refine lv_iconst (v := 1) hx hb dX2_forget_5 (by decide) ?_
  refine y_iast F hP hD hS c91 (vp_in_iff.mpr ⟨by decide, by decide⟩) dX2_forget_6 (fun w1 ew2 H locs hP hD hS => ?_)
  have k3 := wd_at.pt ew2 c90 (wd_nk c90 c91 rfl)
  have k4 : wd_at w1 bl (.inl (cy 2, 4, .inl (upd bf (0 : Int32).toNatClampNeg 1))) := wd_at.ps ew2 c91
  have kp5 := kp0.put ew2 s91
  refine lv_aload_n hx hb dX2_forget_7 rfl (lv_at hl 0 rfl) ?_
  refine x_get (ref := "NoteHouse$Law") F hP k3 rfl (fun _ h => List.mem_cons_of_mem _ (List.mem_append_right _ (h))) 0 (Nat.le_of_ble_eq_true rfl) (List.mem_cons_of_mem _ (List.mem_append_left _ (List.mem_of_getElem? (i := 0) rfl))) rfl rfl dX2_forget_8 ?_
  refine lv_iconst (v := 1) hx hb dX2_forget_11 (by decide) ?_
  refine lv_iconst (v := 1) hx hb dX2_forget_12 (by decide) ?_
  refine y_iast F hP hD hS k4 (vp_in_iff.mpr ⟨by decide, by decide⟩) dX2_forget_13 (fun w6 ew7 H locs hP hD hS => ?_)
  have k8 := wd_at.pt ew7 k3 (wd_nk k3 k4 rfl)
  have k9 : wd_at w6 bl (.inl (cy 2, 4, .inl (upd (upd bf (0 : Int32).toNatClampNeg 1) (1 : Int32).toNatClampNeg 1))) := wd_at.ps ew7 k4
  have kp10 := kp5.put ew7 s91
  refine lv_aload_n hx hb dX2_forget_14 rfl (lv_at hl 0 rfl) ?_
  refine x_get (ref := "NoteHouse$Law") F hP k8 rfl (fun _ h => List.mem_cons_of_mem _ (List.mem_append_right _ (h))) 0 (Nat.le_of_ble_eq_true rfl) (List.mem_cons_of_mem _ (List.mem_append_left _ (List.mem_of_getElem? (i := 0) rfl))) rfl rfl dX2_forget_15 ?_
  refine lv_iconst (v := 2) hx hb dX2_forget_18 (by decide) ?_
  refine lv_iconst (v := 0) hx hb dX2_forget_19 (by decide) ?_
  refine y_iast F hP hD hS k9 (vp_in_iff.mpr ⟨by decide, by decide⟩) dX2_forget_20 (fun w11 ew12 H locs hP hD hS => ?_)
  have k13 := wd_at.pt ew12 k8 (wd_nk k8 k9 rfl)
  have k14 : wd_at w11 bl (.inl (cy 2, 4, .inl (upd (upd (upd bf (0 : Int32).toNatClampNeg 1) (1 : Int32).toNatClampNeg 1) (2 : Int32).toNatClampNeg 0))) := wd_at.ps ew12 k9
  have kp15 := kp10.put ew12 s91
  refine lv_aload_n hx hb dX2_forget_21 rfl (lv_at hl 0 rfl) ?_
  refine x_get (ref := "NoteHouse$Law") F hP k13 rfl (fun _ h => List.mem_cons_of_mem _ (List.mem_append_right _ (h))) 0 (Nat.le_of_ble_eq_true rfl) (List.mem_cons_of_mem _ (List.mem_append_left _ (List.mem_of_getElem? (i := 0) rfl))) rfl rfl dX2_forget_22 ?_
  refine lv_iconst (v := 3) hx hb dX2_forget_25 (by decide) ?_
  refine lv_iconst (v := 2) hx hb dX2_forget_26 (by decide) ?_
  refine y_iast F hP hD hS k14 (vp_in_iff.mpr ⟨by decide, by decide⟩) dX2_forget_27 (fun w16 ew17 H locs hP hD hS => ?_)
  have k18 := wd_at.pt ew17 k13 (wd_nk k13 k14 rfl)
  have k19 : wd_at w16 bl (.inl (cy 2, 4, .inl (upd (upd (upd (upd bf (0 : Int32).toNatClampNeg 1) (1 : Int32).toNatClampNeg 1) (2 : Int32).toNatClampNeg 0) (3 : Int32).toNatClampNeg 2))) := wd_at.ps ew17 k14
  have kp20 := kp15.put ew17 s91
  refine lv_aload_n hx hb dX2_forget_28 rfl (lv_at hl 0 rfl) ?_
  refine lv_bipush (v := 10) hx hb dX2_forget_29 (by decide) ?_
  refine y_put (ref := "NoteHouse$Law") F hP hD hS k18 rfl (fun _ h => List.mem_cons_of_mem _ (List.mem_append_right _ (h))) tyX2_ok nmX2 1 (Nat.le_of_ble_eq_true rfl) (List.mem_cons_of_mem _ (List.mem_append_left _ (List.mem_of_getElem? (i := 1) rfl))) rfl rfl rfl rfl (Nat.le_of_ble_eq_true rfl) dX2_forget_31 (fun w21 ew22 H locs hP hD hS => ?_)
  have k23 : wd_at w21 lw (.inr (2, [.ref bl, .int 10, .int tt])) := wd_at.ps ew22 k18
  have k24 := wd_at.pt ew22 k19 (wd_nk k19 k18 rfl)
  have kp25 := kp20.put ew22 s90
  refine lv_aload_n hx hb dX2_forget_34 rfl (lv_at hl 0 rfl) ?_
  refine lv_iconst (v := 0) hx hb dX2_forget_35 (by decide) ?_
  refine y_put (ref := "NoteHouse$Law") F hP hD hS k23 rfl (fun _ h => List.mem_cons_of_mem _ (List.mem_append_right _ (h))) tyX2_ok nmX2 2 (Nat.le_of_ble_eq_true rfl) (List.mem_cons_of_mem _ (List.mem_append_left _ (List.mem_of_getElem? (i := 2) rfl))) rfl rfl rfl rfl (Nat.le_of_ble_eq_true rfl) dX2_forget_36 (fun w26 ew27 H locs hP hD hS => ?_)
  have k28 : wd_at w26 lw (.inr (2, [.ref bl, .int 10, .int 0])) := wd_at.ps ew27 k23
  have k29 := wd_at.pt ew27 k24 (wd_nk k24 k23 rfl)
  have kp30 := kp25.put ew27 s90
  exact y_vr K hP hD hS (Nat.le_of_ble_eq_true rfl) (Nat.le_of_ble_eq_true rfl) rfl dX2_forget_39 (⟨upd (upd (upd (upd bf (0 : Int32).toNatClampNeg 1) (1 : Int32).toNatClampNeg 1) (2 : Int32).toNatClampNeg 0) (3 : Int32).toNatClampNeg 2, rfl, lwR0 bf, kp30, k28, k29⟩)
set_option maxHeartbeats 4000000 in
set_option maxRecDepth 100000 in
theorem g_learnHand (l : Launch) (D : va_G) (cy : Nat → ClassId) (sk sv : Nat → Nat) (w : Wd) (lw bl : Nat) (t b n a0 : Nat) (ff tt : Int32) (f : Nat → Int32) (c90 : wd_at w lw (.inr (2, [.ref bl, .int ff, .int tt]))) (c91 : wd_at w t (.inr (7, [.ref b, .int (nI n), .int (nI a0)]))) (c92 : wd_at w b (.inl (cy 0, 300, .inl f)))  (S : Nat → Prop) (s90 : S t) (s91 : S lw) (hn : n ≤ 300) (ha : a0 ≤ n) : Ct l D cy sk sv yX2_learnHand wsX2_learnHand ({ frames := 2, cells := 0, slots := 0, locals := 45 }) [.ref lw, .ref t] w (fun v w1 => ∃ (a1 : Nat) (ff1 : Int32) (r1 : Int32), v = some (.int r1) ∧ (r1 = nI (hdF f n a0)) ∧ (a0 ≤ a1) ∧ (a1 ≤ n) ∧ (hdF f n a0 = 0 → a1 = tnA f n a0 2 ∧ ff1 = tnR f n a0 2) ∧ wd_kp S w w1 ∧ wd_at w1 t (.inr (7, [.ref b, .int (nI n), .int (nI a1)])) ∧ wd_at w1 lw (.inr (2, [.ref bl, .int ff1, .int tt]))) := by
  refine Ct.by (cc := cX2_learnHand) (maxL := 3) (ret := (some .int)) (by decide +kernel) rfl (Nat.le_of_ble_eq_true rfl) ?_
  intro p e s m args below meth c A Q F hnm K ls hl
  have F : wd_Fx p s m args meth c cX2_learnHand 3 wsX2_learnHand RX2 D cy sk sv A := F
  have hl : lv_has ls 3 [(0, .ref lw), (1, .ref t)] := hl
  have hx := F.1.1
  have hb := F.1.2.1
  have hown := F.1.2.2.2.1
  have hts := F.1.2.2.2.2
  intro H locs hP hD hS
  have kp0 : wd_kp S w w := wd_kp.rf
  refine lv_aload_n hx hb dX2_learnHand_0 rfl (lv_at hl 1 rfl) ?_
  refine lv_iconst (v := 2) hx hb dX2_learnHand_1 (by decide) ?_
  refine x_callV (n := 1) (As := [.int 2]) (rest := []) F hP hD hS (g_takeNumber l D cy sk sv w t b n a0 2 f c91 c92 (fun b => b = t) rfl (by omega) (by omega) (by omega)) gX2_learnHand_X7_takeNumber rfl rfl (by decide +kernel) ⟨(Nat.le_of_ble_eq_true rfl), (Nat.le_of_ble_eq_true rfl)⟩ rfl hl.1 (Nat.le_of_ble_eq_true rfl) c91 rfl dX2_learnHand_2 rfl ⟨(Nat.le_of_ble_eq_true rfl), (Nat.le_of_ble_eq_true rfl)⟩ (fun v2 w3 hp1 H locs hP hD hS => ?_)
  obtain ⟨ax4, rx5, rfl, rfl, rfl, hz6, hz7, kq9, k8⟩ := hp1
  have k10 := kq9.2 _ _ c90 (fun q9 : lw = t => (wd_nk c90 c91 rfl) q9)
  have k11 := kq9.2 _ _ c92 (fun q9 : b = t => (wd_nk c92 c91 rfl) q9)
  have kp12 := kp0.tr kq9 (fun b9 hm q9 => (fun q9 => q9 ▸ s90) q9)
  refine W.eq (g2 := F0 m 5 ls [.int (tnR f n a0 2)]) rfl (W.widen (k := 0) (n := 0) (Nat.le_of_ble_eq_true rfl) (Nat.le_of_ble_eq_true rfl) ?_)
  refine lv_istore_n (lv' := [(2, .int (tnR f n a0 2)), (0, .ref lw), (1, .ref t)]) hx hb dX2_learnHand_5 rfl hl (by decide) rfl (fun ls hl => ?_)
  refine lv_iload_n hx hb dX2_learnHand_6 rfl (lv_at hl 0 rfl) ?_
  refine lv_if_ge (tgt := 26) hx hb dX2_learnHand_7 (by decide) (fun cg => ?_) (fun cg => ?_)
  · refine lv_aload_n hx hb dX2_learnHand_26 rfl (lv_at hl 1 rfl) ?_
    refine lv_iload_n hx hb dX2_learnHand_27 rfl (lv_at hl 0 rfl) ?_
    refine y_put (ref := "NoteHouse$Law") F hP hD hS k10 rfl (fun _ h => List.mem_cons_of_mem _ (List.mem_append_left _ (List.mem_append_right _ (h)))) tyX2_ok nmX2 1 (Nat.le_of_ble_eq_true rfl) (List.mem_cons_of_mem _ (List.mem_append_left _ (List.mem_append_left _ (List.mem_of_getElem? (i := 0) rfl)))) rfl rfl rfl rfl (Nat.le_of_ble_eq_true rfl) dX2_learnHand_28 (fun w13 ew14 H locs hP hD hS => ?_)
    have k15 : wd_at w13 lw (.inr (2, [.ref bl, .int (tnR f n a0 2), .int tt])) := wd_at.ps ew14 k10
    have k16 := wd_at.pt ew14 k8 (wd_nk k8 k10 rfl)
    have k17 := wd_at.pt ew14 k11 (wd_nk k11 k10 rfl)
    have kp18 := kp12.put ew14 s91
    refine lv_iconst (v := 0) hx hb dX2_learnHand_31 (by decide) ?_
    have h0 : ¬ tnR f n a0 2 < 0 := Int32.not_lt.mpr cg
    exact y_ir K hP hD hS (Nat.le_of_ble_eq_true rfl) (Nat.le_of_ble_eq_true rfl) (ty := .int) rfl rfl dX2_learnHand_32 (⟨(tnA f n a0 2), (tnR f n a0 2), 0, rfl, by unfold hdF; rw [if_neg h0]; rfl, by omega, by omega, fun _ => ⟨rfl, rfl⟩, kp18, k16, k15⟩)
  · refine lv_aload_n hx hb dX2_learnHand_10 rfl (lv_at hl 2 rfl) ?_
    refine lv_iload_n hx hb dX2_learnHand_11 rfl (lv_at hl 0 rfl) ?_
    refine lv_bipush (v := (-2)) hx hb dX2_learnHand_12 (by decide) ?_
    refine lv_icmp_ne (tgt := 21) hx hb dX2_learnHand_14 (by decide) (fun c2 => ?_) (fun c2 => ?_)
    · refine lv_iconst (v := 0) hx hb dX2_learnHand_21 (by decide) ?_
      refine x_callV (n := 1) (As := [.int 0]) (rest := []) F hP hD hS (g_faultHere l D cy sk sv w3 t b n (tnA f n a0 2) 0 f k8 k11 (fun b => b = t) rfl (by omega) (by omega)) gX2_learnHand_X7_faultHere rfl rfl (by decide +kernel) ⟨(Nat.le_of_ble_eq_true rfl), (Nat.le_of_ble_eq_true rfl)⟩ rfl hl.1 (Nat.le_of_ble_eq_true rfl) k8 rfl dX2_learnHand_22 rfl ⟨(Nat.le_of_ble_eq_true rfl), (Nat.le_of_ble_eq_true rfl)⟩ (fun v20 w21 hp19 H locs hP hD hS => ?_)
      obtain ⟨ax22, rfl, rfl, hz23, hz24, kq26, k25⟩ := hp19
      have k27 := kq26.2 _ _ k10 (fun q9 : lw = t => (wd_nk k10 k8 rfl) q9)
      have k28 := kq26.2 _ _ k11 (fun q9 : b = t => (wd_nk k11 k8 rfl) q9)
      have kp29 := kp12.tr kq26 (fun b9 hm q9 => (fun q9 => q9 ▸ s90) q9)
      refine W.eq (g2 := F0 m 25 ls [.int (nI (1 + 4 * (nx f n (tnA f n a0 2)) + 0))]) rfl (W.widen (k := 0) (n := 0) (Nat.le_of_ble_eq_true rfl) (Nat.le_of_ble_eq_true rfl) ?_)
      have h0 : tnR f n a0 2 < 0 := Int32.not_le.mp cg
      exact y_ir K hP hD hS (Nat.le_of_ble_eq_true rfl) (Nat.le_of_ble_eq_true rfl) (ty := .int) rfl rfl dX2_learnHand_25 (⟨(nx f n (tnA f n a0 2)), ff, nI (1 + 4 * (nx f n (tnA f n a0 2)) + 0), rfl, by rw [tnA_neg ha (by omega) h0, nx_nx ha]; unfold hdF; rw [if_pos h0, if_neg c2], by omega, by omega, fun q => absurd q (by unfold hdF; rw [if_pos h0]; omega), kp29, k25, k27⟩)
    · refine lv_iconst (v := 1) hx hb dX2_learnHand_17 (by decide) ?_
      refine lv_goto (tgt := 22) hx hb dX2_learnHand_18 (by decide) ?_
      refine x_callV (n := 1) (As := [.int 1]) (rest := []) F hP hD hS (g_faultHere l D cy sk sv w3 t b n (tnA f n a0 2) 1 f k8 k11 (fun b => b = t) rfl (by omega) (by omega)) gX2_learnHand_X7_faultHere rfl rfl (by decide +kernel) ⟨(Nat.le_of_ble_eq_true rfl), (Nat.le_of_ble_eq_true rfl)⟩ rfl hl.1 (Nat.le_of_ble_eq_true rfl) k8 rfl dX2_learnHand_22 rfl ⟨(Nat.le_of_ble_eq_true rfl), (Nat.le_of_ble_eq_true rfl)⟩ (fun v31 w32 hp30 H locs hP hD hS => ?_)
      obtain ⟨ax33, rfl, rfl, hz34, hz35, kq37, k36⟩ := hp30
      have k38 := kq37.2 _ _ k10 (fun q9 : lw = t => (wd_nk k10 k8 rfl) q9)
      have k39 := kq37.2 _ _ k11 (fun q9 : b = t => (wd_nk k11 k8 rfl) q9)
      have kp40 := kp12.tr kq37 (fun b9 hm q9 => (fun q9 => q9 ▸ s90) q9)
      refine W.eq (g2 := F0 m 25 ls [.int (nI (1 + 4 * (nx f n (tnA f n a0 2)) + 1))]) rfl (W.widen (k := 0) (n := 0) (Nat.le_of_ble_eq_true rfl) (Nat.le_of_ble_eq_true rfl) ?_)
      have h0 : tnR f n a0 2 < 0 := Int32.not_le.mp cg
      exact y_ir K hP hD hS (Nat.le_of_ble_eq_true rfl) (Nat.le_of_ble_eq_true rfl) (ty := .int) rfl rfl dX2_learnHand_25 (⟨(nx f n (tnA f n a0 2)), ff, nI (1 + 4 * (nx f n (tnA f n a0 2)) + 1), rfl, by rw [tnA_neg ha (by omega) h0, nx_nx ha]; unfold hdF; rw [if_pos h0, if_pos c2], by omega, by omega, fun q => absurd q (by unfold hdF; rw [if_pos h0]; omega), kp40, k36, k38⟩)
set_option maxHeartbeats 4000000 in
set_option maxRecDepth 100000 in
theorem g_learnBearer (l : Launch) (D : va_G) (cy : Nat → ClassId) (sk sv : Nat → Nat) (w : Wd) (lw bl : Nat) (t b n a0 cl : Nat) (ff tt : Int32) (f bf : Nat → Int32) (c90 : wd_at w lw (.inr (2, [.ref bl, .int ff, .int tt]))) (c91 : wd_at w bl (.inl (cy 2, 4, .inl bf))) (c92 : wd_at w t (.inr (7, [.ref b, .int (nI n), .int (nI a0)]))) (c93 : wd_at w b (.inl (cy 0, 300, .inl f)))  (S : Nat → Prop) (s90 : S t) (s91 : S bl) (hn : n ≤ 300) (ha : a0 ≤ n) (hcl : cl < 4) : Ct l D cy sk sv yX2_learnBearer wsX2_learnBearer ({ frames := 7, cells := 0, slots := 0, locals := 159 }) [.ref lw, .ref t, .int (nI cl)] w (fun v w1 => ∃ (a1 : Nat) (bf1 : Nat → Int32) (r1 : Int32), v = some (.int r1) ∧ (r1 = nI (brF f n a0)) ∧ (a0 ≤ a1) ∧ (a1 ≤ n) ∧ (brF f n a0 = 0 → a1 = twA f n a0 5 ∧ bf1 = upd bf (nI cl).toNatClampNeg (twR f n a0 5)) ∧ wd_kp S w w1 ∧ wd_at w1 t (.inr (7, [.ref b, .int (nI n), .int (nI a1)])) ∧ wd_at w1 bl (.inl (cy 2, 4, .inl bf1))) := by
  refine Ct.by (cc := cX2_learnBearer) (maxL := 4) (ret := (some .int)) (by decide +kernel) rfl (Nat.le_of_ble_eq_true rfl) ?_
  intro p e s m args below meth c A Q F hnm K ls hl
  have F : wd_Fx p s m args meth c cX2_learnBearer 4 wsX2_learnBearer RX2 D cy sk sv A := F
  have hl : lv_has ls 4 [(0, .ref lw), (1, .ref t), (2, .int (nI cl))] := hl
  have hx := F.1.1
  have hb := F.1.2.1
  have hown := F.1.2.2.2.1
  have hts := F.1.2.2.2.2
  intro H locs hP hD hS
  have kp0 : wd_kp S w w := wd_kp.rf
  refine lv_aload_n hx hb dX2_learnBearer_0 rfl (lv_at hl 1 rfl) ?_
  refine x_ldcS F (i := 5) (tx := "house town half") (by decide +kernel) dX2_learnBearer_1 ?_
  refine x_callV (n := 1) (As := [.ref (sk 5)]) (rest := []) F hP hD hS (g_takeWord l D cy sk sv w t b n a0 5 f c92 c93 (fun b => b = t) rfl (by omega) (by omega) (by omega)) gX2_learnBearer_X7_takeWord rfl rfl (by decide +kernel) ⟨(Nat.le_of_ble_eq_true rfl), (Nat.le_of_ble_eq_true rfl)⟩ rfl hl.1 (Nat.le_of_ble_eq_true rfl) c92 rfl dX2_learnBearer_3 rfl ⟨(Nat.le_of_ble_eq_true rfl), (Nat.le_of_ble_eq_true rfl)⟩ (fun v2 w3 hp1 H locs hP hD hS => ?_)
  obtain ⟨ax4, rx5, rfl, rfl, hz6, hz7, hz8, hz9, kq11, k10⟩ := hp1
  have k12 := kq11.2 _ _ c90 (fun q9 : lw = t => (wd_nk c90 c92 rfl) q9)
  have k13 := kq11.2 _ _ c91 (fun q9 : bl = t => (wd_nk c91 c92 rfl) q9)
  have k14 := kq11.2 _ _ c93 (fun q9 : b = t => (wd_nk c93 c92 rfl) q9)
  have kp15 := kp0.tr kq11 (fun b9 hm q9 => (fun q9 => q9 ▸ s90) q9)
  refine W.eq (g2 := F0 m 6 ls [.int rx5]) rfl (W.widen (k := 0) (n := 0) (Nat.le_of_ble_eq_true rfl) (Nat.le_of_ble_eq_true rfl) ?_)
  refine lv_istore_n (lv' := [(3, .int rx5), (0, .ref lw), (1, .ref t), (2, .int (nI cl))]) hx hb dX2_learnBearer_6 rfl hl (by decide) rfl (fun ls hl => ?_)
  refine lv_iload_n hx hb dX2_learnBearer_7 rfl (lv_at hl 0 rfl) ?_
  refine lv_iconst (v := (-1)) hx hb dX2_learnBearer_8 (by decide) ?_
  refine lv_icmp_ne (tgt := 18) hx hb dX2_learnBearer_9 (by decide) (fun cn => ?_) (fun cn => ?_)
  · refine lv_aload_n hx hb dX2_learnBearer_18 rfl (lv_at hl 1 rfl) ?_
    refine x_get (ref := "NoteHouse$Law") F hP k12 rfl (fun _ h => List.mem_cons_of_mem _ (List.mem_append_left _ (List.mem_append_right _ (h)))) 0 (Nat.le_of_ble_eq_true rfl) (List.mem_cons_of_mem _ (List.mem_append_left _ (List.mem_append_left _ (List.mem_append_left _ (List.mem_of_getElem? (i := 0) rfl))))) rfl rfl dX2_learnBearer_19 ?_
    refine lv_iload_n hx hb dX2_learnBearer_22 rfl (lv_at hl 3 rfl) ?_
    refine lv_iload_n hx hb dX2_learnBearer_23 rfl (lv_at hl 0 rfl) ?_
    refine y_iast F hP hD hS k13 (vp_in_nI (n := cl) (N := 4) (by omega) (by decide)) dX2_learnBearer_24 (fun w16 ew17 H locs hP hD hS => ?_)
    have k18 := wd_at.pt ew17 k12 (wd_nk k12 k13 rfl)
    have k19 : wd_at w16 bl (.inl (cy 2, 4, .inl (upd bf (nI cl).toNatClampNeg rx5))) := wd_at.ps ew17 k13
    have k20 := wd_at.pt ew17 k10 (wd_nk k10 k13 rfl)
    have k21 := wd_at.pt ew17 k14 (wd_nk k14 k13 rfl)
    have kp22 := kp15.put ew17 s91
    refine lv_iconst (v := 0) hx hb dX2_learnBearer_25 (by decide) ?_
    have hk : ¬ twK f n a0 5 = 3 := fun q => cn (hz8.trans ((twR_no (B := f) (n := n) (a := a0) (i := 5) (by decide)).mpr q))
    exact y_ir K hP hD hS (Nat.le_of_ble_eq_true rfl) (Nat.le_of_ble_eq_true rfl) (ty := .int) rfl rfl dX2_learnBearer_26 (⟨(twA f n a0 5), upd bf (nI cl).toNatClampNeg rx5, 0, rfl, by unfold brF; rw [if_neg hk]; rfl, by omega, by omega, fun _ => ⟨rfl, by rw [hz8]⟩, kp22, k20, k19⟩)
  · refine lv_aload_n hx hb dX2_learnBearer_12 rfl (lv_at hl 2 rfl) ?_
    refine lv_iconst (v := 0) hx hb dX2_learnBearer_13 (by decide) ?_
    refine x_callV (n := 1) (As := [.int 0]) (rest := []) F hP hD hS (g_faultHere l D cy sk sv w3 t b n (twA f n a0 5) 0 f k10 k14 (fun b => b = t) rfl (by omega) (by omega)) gX2_learnBearer_X7_faultHere rfl rfl (by decide +kernel) ⟨(Nat.le_of_ble_eq_true rfl), (Nat.le_of_ble_eq_true rfl)⟩ rfl hl.1 (Nat.le_of_ble_eq_true rfl) k10 rfl dX2_learnBearer_14 rfl ⟨(Nat.le_of_ble_eq_true rfl), (Nat.le_of_ble_eq_true rfl)⟩ (fun v24 w25 hp23 H locs hP hD hS => ?_)
    obtain ⟨ax26, rfl, rfl, hz27, hz28, kq30, k29⟩ := hp23
    have k31 := kq30.2 _ _ k12 (fun q9 : lw = t => (wd_nk k12 k10 rfl) q9)
    have k32 := kq30.2 _ _ k13 (fun q9 : bl = t => (wd_nk k13 k10 rfl) q9)
    have k33 := kq30.2 _ _ k14 (fun q9 : b = t => (wd_nk k14 k10 rfl) q9)
    have kp34 := kp15.tr kq30 (fun b9 hm q9 => (fun q9 => q9 ▸ s90) q9)
    refine W.eq (g2 := F0 m 17 ls [.int (nI (1 + 4 * (nx f n (twA f n a0 5)) + 0))]) rfl (W.widen (k := 0) (n := 0) (Nat.le_of_ble_eq_true rfl) (Nat.le_of_ble_eq_true rfl) ?_)
    have hk : twK f n a0 5 = (WL 5).length := (twR_no (B := f) (n := n) (a := a0) (i := 5) (by decide)).mp (hz8.symm.trans cn)
    have hk3 : twK f n a0 5 = 3 := hk
    exact y_ir K hP hD hS (Nat.le_of_ble_eq_true rfl) (Nat.le_of_ble_eq_true rfl) (ty := .int) rfl rfl dX2_learnBearer_17 (⟨(nx f n (twA f n a0 5)), bf, nI (1 + 4 * (nx f n (twA f n a0 5)) + 0), rfl, by rw [twA_no hk, nx_nx ha]; unfold brF; rw [if_pos hk3], by omega, by omega, fun q => absurd q (by unfold brF; rw [if_pos hk3]; omega), kp34, k29, k32⟩)
set_option maxHeartbeats 4000000 in
set_option maxRecDepth 100000 in
theorem g_learnClause (l : Launch) (D : va_G) (cy : Nat → ClassId) (sk sv : Nat → Nat) (w : Wd) (lw bl : Nat) (t b n a0 mt : Nat) (ff : Int32) (f bf bb : Nat → Int32) (c90 : wd_at w lw (.inr (2, [.ref bl, .int ff, .int (nI mt)]))) (c91 : wd_at w bl (.inl (cy 2, 4, .inl bf))) (c92 : wd_at w t (.inr (7, [.ref b, .int (nI n), .int (nI a0)]))) (c93 : wd_at w b (.inl (cy 0, 300, .inl f)))  (S : Nat → Prop) (s90 : S t) (s91 : S lw) (s92 : S bl) (hn : n ≤ 300) (ha : a0 ≤ n) (hmt : mt < 32) (hlw : lwR bf ff bb) : Ct l D cy sk sv yX2_learnClause wsX2_learnClause ({ frames := 8, cells := 0, slots := 0, locals := 182 }) [.ref lw, .ref t] w (fun v w1 => ∃ (a1 : Nat) (ff1 : Int32) (tt1 : Int32) (bf1 : Nat → Int32) (r1 : Int32), v = some (.int r1) ∧ (r1 = nI (clF f n a0 mt)) ∧ (a0 ≤ a1) ∧ (a1 ≤ n) ∧ (clF f n a0 mt = 0 → a1 = clA f n a0 ∧ tt1 = nI (clM f n a0 mt) ∧ lwR bf1 ff1 (clB f n a0 bb)) ∧ wd_kp S w w1 ∧ wd_at w1 t (.inr (7, [.ref b, .int (nI n), .int (nI a1)])) ∧ wd_at w1 lw (.inr (2, [.ref bl, .int ff1, .int tt1])) ∧ wd_at w1 bl (.inl (cy 2, 4, .inl bf1))) := by
  refine Ct.by (cc := cX2_learnClause) (maxL := 4) (ret := (some .int)) (by decide +kernel) rfl (Nat.le_of_ble_eq_true rfl) ?_
  intro p e s m args below meth c A Q F hnm K ls hl
  have F : wd_Fx p s m args meth c cX2_learnClause 4 wsX2_learnClause RX2 D cy sk sv A := F
  have hl : lv_has ls 4 [(0, .ref lw), (1, .ref t)] := hl
  have hx := F.1.1
  have hb := F.1.2.1
  have hown := F.1.2.2.2.1
  have hts := F.1.2.2.2.2
  intro H locs hP hD hS
  have kp0 : wd_kp S w w := wd_kp.rf
  refine lv_aload_n hx hb dX2_learnClause_0 rfl (lv_at hl 1 rfl) ?_
  refine x_callV (n := 0) (As := []) (rest := []) F hP hD hS (g_nextPlace l D cy sk sv w t b n a0 f c92 c93 (fun b => b = t) rfl (by omega) (by omega)) gX2_learnClause_X7_nextPlace rfl rfl (by decide +kernel) ⟨(Nat.le_of_ble_eq_true rfl), (Nat.le_of_ble_eq_true rfl)⟩ rfl hl.1 (Nat.le_of_ble_eq_true rfl) c92 rfl dX2_learnClause_1 rfl ⟨(Nat.le_of_ble_eq_true rfl), (Nat.le_of_ble_eq_true rfl)⟩ (fun v2 w3 hp1 H locs hP hD hS => ?_)
  obtain ⟨ax4, rfl, rfl, hz5, hz6, kq8, k7⟩ := hp1
  have k9 := kq8.2 _ _ c90 (fun q9 : lw = t => (wd_nk c90 c92 rfl) q9)
  have k10 := kq8.2 _ _ c91 (fun q9 : bl = t => (wd_nk c91 c92 rfl) q9)
  have k11 := kq8.2 _ _ c93 (fun q9 : b = t => (wd_nk c93 c92 rfl) q9)
  have kp12 := kp0.tr kq8 (fun b9 hm q9 => (fun q9 => q9 ▸ s90) q9)
  refine W.eq (g2 := F0 m 4 ls [.int (nI (nx f n a0))]) rfl (W.widen (k := 0) (n := 0) (Nat.le_of_ble_eq_true rfl) (Nat.le_of_ble_eq_true rfl) ?_)
  refine lv_istore_n (lv' := [(2, .int (nI (nx f n a0))), (0, .ref lw), (1, .ref t)]) hx hb dX2_learnClause_4 rfl hl (by decide) rfl (fun ls hl => ?_)
  refine lv_aload_n hx hb dX2_learnClause_5 rfl (lv_at hl 2 rfl) ?_
  refine x_ldcS F (i := 4) (tx := "stopped forged twice over hand") (by decide +kernel) dX2_learnClause_6 ?_
  refine x_callV (n := 1) (As := [.ref (sk 4)]) (rest := []) F hP hD hS (g_takeWord l D cy sk sv w3 t b n (nx f n a0) 4 f k7 k11 (fun b => b = t) rfl (by omega) (by omega) (by omega)) gX2_learnClause_X7_takeWord rfl rfl (by decide +kernel) ⟨(Nat.le_of_ble_eq_true rfl), (Nat.le_of_ble_eq_true rfl)⟩ rfl hl.1 (Nat.le_of_ble_eq_true rfl) k7 rfl dX2_learnClause_8 rfl ⟨(Nat.le_of_ble_eq_true rfl), (Nat.le_of_ble_eq_true rfl)⟩ (fun v14 w15 hp13 H locs hP hD hS => ?_)
  obtain ⟨ax16, rx17, rfl, rfl, hz18, hz19, hz20, hz21, kq23, k22⟩ := hp13
  have k24 := kq23.2 _ _ k9 (fun q9 : lw = t => (wd_nk k9 k7 rfl) q9)
  have k25 := kq23.2 _ _ k10 (fun q9 : bl = t => (wd_nk k10 k7 rfl) q9)
  have k26 := kq23.2 _ _ k11 (fun q9 : b = t => (wd_nk k11 k7 rfl) q9)
  have kp27 := kp12.tr kq23 (fun b9 hm q9 => (fun q9 => q9 ▸ s90) q9)
  refine W.eq (g2 := F0 m 11 ls [.int rx17]) rfl (W.widen (k := 0) (n := 0) (Nat.le_of_ble_eq_true rfl) (Nat.le_of_ble_eq_true rfl) ?_)
  refine lv_istore_n (lv' := [(3, .int rx17), (2, .int (nI (nx f n a0))), (0, .ref lw), (1, .ref t)]) hx hb dX2_learnClause_11 rfl hl (by decide) rfl (fun ls hl => ?_)
  refine lv_iload_n hx hb dX2_learnClause_12 rfl (lv_at hl 0 rfl) ?_
  refine lv_iconst (v := (-1)) hx hb dX2_learnClause_13 (by decide) ?_
  refine lv_icmp_ne (tgt := 23) hx hb dX2_learnClause_14 (by decide) (fun cn => ?_) (fun cn => ?_)
  · have hk5 : ¬ (clK f n a0) = 5 := fun q => cn (hz20.trans ((twR_no (B := f) (n := n) (a := nx f n a0) (i := 4) (by decide)).mpr q))
    have hkl : (clK f n a0) < 5 := by have h9 := clK_le (B := f) (n := n) (a := a0); omega
    have euu : rx17 = nI (clK f n a0) := hz20.trans (twR_yes (B := f) (n := n) (a := nx f n a0) (i := 4) hk5)
    subst euu
    refine lv_aload_n hx hb dX2_learnClause_23 rfl (lv_at hl 2 rfl) ?_
    refine x_get (ref := "NoteHouse$Law") F hP k24 rfl (fun _ h => List.mem_cons_of_mem _ (List.mem_append_left _ (List.mem_append_right _ (h)))) 2 (Nat.le_of_ble_eq_true rfl) (List.mem_cons_of_mem _ (List.mem_append_left _ (List.mem_append_left _ (List.mem_append_left _ (List.mem_of_getElem? (i := 0) rfl))))) rfl rfl dX2_learnClause_24 ?_
    refine lv_iconst (v := 1) hx hb dX2_learnClause_27 (by decide) ?_
    refine lv_iload_n hx hb dX2_learnClause_28 rfl (lv_at hl 0 rfl) ?_
    refine lv_ishl hx hb dX2_learnClause_29 ?_
    refine lv_iand hx hb dX2_learnClause_30 ?_
    refine lv_if_eq (tgt := 40) hx hb dX2_learnClause_31 (by decide) (fun c_28 => ?_) (fun c_28 => ?_)
    · have ht : mt.testBit (clK f n a0) = false := (bt_a mt hmt _ hkl).mp c_28
      refine lv_aload_n hx hb dX2_learnClause_40 rfl (lv_at hl 2 rfl) ?_
      refine lv_dup hx hb dX2_learnClause_41 rfl ?_
      refine x_get (ref := "NoteHouse$Law") F hP k24 rfl (fun _ h => List.mem_cons_of_mem _ (List.mem_append_left _ (List.mem_append_right _ (h)))) 2 (Nat.le_of_ble_eq_true rfl) (List.mem_cons_of_mem _ (List.mem_append_left _ (List.mem_append_left _ (List.mem_append_left _ (List.mem_of_getElem? (i := 0) rfl))))) rfl rfl dX2_learnClause_42 ?_
      refine lv_iconst (v := 1) hx hb dX2_learnClause_45 (by decide) ?_
      refine lv_iload_n hx hb dX2_learnClause_46 rfl (lv_at hl 0 rfl) ?_
      refine lv_ishl hx hb dX2_learnClause_47 ?_
      refine lv_ior hx hb dX2_learnClause_48 ?_
      rw [show ((nI mt) ||| (1 <<< ((nI (clK f n a0)) &&& 31)) : Int32) = nI (mt ||| 1 <<< (clK f n a0)) from bt_o mt hmt _ hkl]
      refine y_put (ref := "NoteHouse$Law") F hP hD hS k24 rfl (fun _ h => List.mem_cons_of_mem _ (List.mem_append_left _ (List.mem_append_right _ (h)))) tyX2_ok nmX2 2 (Nat.le_of_ble_eq_true rfl) (List.mem_cons_of_mem _ (List.mem_append_left _ (List.mem_append_left _ (List.mem_append_left _ (List.mem_of_getElem? (i := 0) rfl))))) rfl rfl rfl rfl (Nat.le_of_ble_eq_true rfl) dX2_learnClause_49 (fun w29 ew30 H locs hP hD hS => ?_)
      have k31 : wd_at w29 lw (.inr (2, [.ref bl, .int ff, .int (nI (mt ||| 1 <<< (clK f n a0)))])) := wd_at.ps ew30 k24
      have k32 := wd_at.pt ew30 k25 (wd_nk k25 k24 rfl)
      have k33 := wd_at.pt ew30 k22 (wd_nk k22 k24 rfl)
      have k34 := wd_at.pt ew30 k26 (wd_nk k26 k24 rfl)
      have kp35 := kp27.put ew30 s91
      refine lv_iload_n hx hb dX2_learnClause_52 rfl (lv_at hl 0 rfl) ?_
      refine lv_iconst (v := 4) hx hb dX2_learnClause_53 (by decide) ?_
      refine lv_icmp_ne (tgt := 65) hx hb dX2_learnClause_54 (by decide) (fun c_36 => ?_) (fun c_36 => ?_)
      · have h4 : ¬ (clK f n a0) = 4 := fun q => c_36 (by rw [q]; rfl)
        have hu4 : (clK f n a0) < 4 := by omega
        refine lv_aload_n hx hb dX2_learnClause_65 rfl (lv_at hl 2 rfl) ?_
        refine lv_aload_n hx hb dX2_learnClause_66 rfl (lv_at hl 3 rfl) ?_
        refine lv_iload_n hx hb dX2_learnClause_67 rfl (lv_at hl 0 rfl) ?_
        refine x_callV (n := 2) (As := [.ref t, .int (nI (clK f n a0))]) (rest := []) F hP hD hS (g_learnBearer l D cy sk sv w29 lw bl t b n (twA f n (nx f n a0) 4) (clK f n a0) ff (nI (mt ||| 1 <<< (clK f n a0))) f bf k31 k32 k33 k34 (fun b => b = t ∨ b = bl) (Or.inl rfl) (Or.inr rfl) (by omega) (by omega) (by omega)) gX2_learnClause_X2_learnBearer rfl rfl (by decide +kernel) ⟨(Nat.le_of_ble_eq_true rfl), (Nat.le_of_ble_eq_true rfl)⟩ rfl hl.1 (Nat.le_of_ble_eq_true rfl) k31 rfl dX2_learnClause_68 rfl ⟨(Nat.le_of_ble_eq_true rfl), (Nat.le_of_ble_eq_true rfl)⟩ (fun v38 w39 hp37 H locs hP hD hS => ?_)
        obtain ⟨ax40, bfx41, rx42, rfl, rfl, hz43, hz44, hz45, kq48, k46, k47⟩ := hp37
        have k49 := kq48.2 _ _ k31 (fun q9 => Or.elim q9 (wd_nk k31 k33 rfl) (fun q9 : lw = bl => (wd_nk k31 k32 rfl) q9))
        have k50 := kq48.2 _ _ k34 (fun q9 => Or.elim q9 (wd_nk k34 k33 rfl) (fun q9 : b = bl => (wd_nk k34 k32 rfl) q9))
        have kp51 := kp35.tr kq48 (fun b9 hm q9 => (fun q9 => Or.elim q9 (fun q9 => q9 ▸ s90) (fun q9 => q9 ▸ s92)) q9)
        refine W.eq (g2 := F0 m 71 ls [.int (nI (brF f n (twA f n (nx f n a0) 4)))]) rfl (W.widen (k := 0) (n := 0) (Nat.le_of_ble_eq_true rfl) (Nat.le_of_ble_eq_true rfl) ?_)
        have hcl : clF f n a0 mt = brF f n (clQ f n a0) := by unfold clF; rw [if_neg hk5, ht, if_neg Bool.false_ne_true, if_neg h4]
        exact y_ir K hP hD hS (Nat.le_of_ble_eq_true rfl) (Nat.le_of_ble_eq_true rfl) (ty := .int) rfl rfl dX2_learnClause_71 (⟨ax40, ff, nI (mt ||| 1 <<< (clK f n a0)), bfx41, (nI (brF f n (twA f n (nx f n a0) 4))), rfl, congrArg nI hcl.symm, by omega, by omega, fun q => by obtain ⟨e1, e2⟩ := hz45 (hcl.symm.trans q); refine ⟨?_, rfl, ?_⟩; rw [e1]; unfold clA; rw [if_neg h4]; rfl; rw [e2]; unfold clB; rw [if_neg h4]; exact hlw.b (by omega), kp51, k46, k49, k47⟩)
      · have h4 : (clK f n a0) = 4 := (nI_eq (a := (clK f n a0)) (b := 4) (by omega) (by omega)).mp c_36
        refine lv_aload_n hx hb dX2_learnClause_57 rfl (lv_at hl 2 rfl) ?_
        refine lv_aload_n hx hb dX2_learnClause_58 rfl (lv_at hl 3 rfl) ?_
        refine x_callV (n := 1) (As := [.ref t]) (rest := []) F hP hD hS (g_learnHand l D cy sk sv w29 lw bl t b n (twA f n (nx f n a0) 4) ff (nI (mt ||| 1 <<< (clK f n a0))) f k31 k33 k34 (fun b => b = t ∨ b = lw) (Or.inl rfl) (Or.inr rfl) (by omega) (by omega)) gX2_learnClause_X2_learnHand rfl rfl (by decide +kernel) ⟨(Nat.le_of_ble_eq_true rfl), (Nat.le_of_ble_eq_true rfl)⟩ rfl hl.1 (Nat.le_of_ble_eq_true rfl) k31 rfl dX2_learnClause_59 rfl ⟨(Nat.le_of_ble_eq_true rfl), (Nat.le_of_ble_eq_true rfl)⟩ (fun v53 w54 hp52 H locs hP hD hS => ?_)
        obtain ⟨ax55, ffx56, rx57, rfl, rfl, hz58, hz59, hz60, kq63, k61, k62⟩ := hp52
        have k64 := kq63.2 _ _ k32 (fun q9 => Or.elim q9 (wd_nk k32 k33 rfl) (fun q9 : bl = lw => (wd_nk k32 k31 rfl) q9))
        have k65 := kq63.2 _ _ k34 (fun q9 => Or.elim q9 (wd_nk k34 k33 rfl) (fun q9 : b = lw => (wd_nk k34 k31 rfl) q9))
        have kp66 := kp35.tr kq63 (fun b9 hm q9 => (fun q9 => Or.elim q9 (fun q9 => q9 ▸ s90) (fun q9 => q9 ▸ s91)) q9)
        refine W.eq (g2 := F0 m 62 ls [.int (nI (hdF f n (twA f n (nx f n a0) 4)))]) rfl (W.widen (k := 0) (n := 0) (Nat.le_of_ble_eq_true rfl) (Nat.le_of_ble_eq_true rfl) ?_)
        refine lv_goto (tgt := 71) hx hb dX2_learnClause_62 (by decide) ?_
        have hcl : clF f n a0 mt = hdF f n (clQ f n a0) := by unfold clF; rw [if_neg hk5, ht, if_neg Bool.false_ne_true, if_pos h4]
        exact y_ir K hP hD hS (Nat.le_of_ble_eq_true rfl) (Nat.le_of_ble_eq_true rfl) (ty := .int) rfl rfl dX2_learnClause_71 (⟨ax55, ffx56, (nI (mt ||| 1 <<< (clK f n a0))), bf, (nI (hdF f n (twA f n (nx f n a0) 4))), rfl, congrArg nI hcl.symm, by omega, by omega, fun q => by obtain ⟨e1, e2⟩ := hz60 (hcl.symm.trans q); refine ⟨?_, rfl, ?_⟩; rw [e1]; unfold clA; rw [if_pos h4]; rfl; rw [e2]; unfold clB; rw [if_pos h4]; exact hlw.h, kp66, k61, k62, k64⟩)
    · have ht : mt.testBit (clK f n a0) = true := by cases h9 : mt.testBit (clK f n a0) with | true => rfl | false => exact absurd ((bt_a mt hmt _ hkl).mpr h9) c_28
      refine lv_iload_n hx hb dX2_learnClause_34 rfl (lv_at hl 1 rfl) ?_
      refine lv_iconst (v := 2) hx hb dX2_learnClause_35 (by decide) ?_
      refine x_callSN (host := RX10) (n := 2) (As := [.int (nI (nx f n a0)), .int 2]) (rest := []) F hP hD hS (g_faultAt l D cy sk sv w15 (nx f n a0) 2) gX2_learnClause_X10_faultAt_n30 rfl (by decide +kernel) (List.mem_cons_of_mem _ (List.mem_append_left _ (List.mem_append_left _ (List.mem_append_left _ (List.mem_of_getElem? (i := 19) rfl))))) (List.mem_cons_of_mem _ (List.mem_append_left _ (List.mem_append_left _ (List.mem_append_right _ (List.mem_append_right _ (List.mem_append_right _ (List.mem_append_left _ (List.mem_of_getElem? (i := 6) rfl)))))))) (by decide +kernel) ⟨(Nat.le_of_ble_eq_true rfl), (Nat.le_of_ble_eq_true rfl)⟩ rfl hl.1 (Nat.le_of_ble_eq_true rfl) dX2_learnClause_36 rfl ⟨(Nat.le_of_ble_eq_true rfl), (Nat.le_of_ble_eq_true rfl)⟩ (fun v68 w69 hp67 H locs hP hD hS => ?_)
      obtain ⟨rfl, rfl⟩ := hp67
      refine W.eq (g2 := F0 m 39 ls [.int (nI (1 + 4 * (nx f n a0) + 2))]) rfl (W.widen (k := 0) (n := 0) (Nat.le_of_ble_eq_true rfl) (Nat.le_of_ble_eq_true rfl) ?_)
      exact y_ir K hP hD hS (Nat.le_of_ble_eq_true rfl) (Nat.le_of_ble_eq_true rfl) (ty := .int) rfl rfl dX2_learnClause_39 (⟨(twA f n (nx f n a0) 4), ff, nI mt, bf, nI (1 + 4 * (nx f n a0) + 2), rfl, by unfold clF; rw [if_neg hk5, ht, if_pos rfl], by omega, by omega, fun q => absurd q (by unfold clF; rw [if_neg hk5, ht, if_pos rfl]; omega), kp27, k22, k24, k25⟩)
  · have hk5 : (clK f n a0) = 5 := (twR_no (B := f) (n := n) (a := nx f n a0) (i := 4) (by decide)).mp (hz20.symm.trans cn)
    refine lv_iload_n hx hb dX2_learnClause_17 rfl (lv_at hl 1 rfl) ?_
    refine lv_iconst (v := 0) hx hb dX2_learnClause_18 (by decide) ?_
    refine x_callSN (host := RX10) (n := 2) (As := [.int (nI (nx f n a0)), .int 0]) (rest := []) F hP hD hS (g_faultAt l D cy sk sv w15 (nx f n a0) 0) gX2_learnClause_X10_faultAt_n30 rfl (by decide +kernel) (List.mem_cons_of_mem _ (List.mem_append_left _ (List.mem_append_left _ (List.mem_append_left _ (List.mem_of_getElem? (i := 19) rfl))))) (List.mem_cons_of_mem _ (List.mem_append_left _ (List.mem_append_left _ (List.mem_append_right _ (List.mem_append_right _ (List.mem_append_right _ (List.mem_append_left _ (List.mem_of_getElem? (i := 6) rfl)))))))) (by decide +kernel) ⟨(Nat.le_of_ble_eq_true rfl), (Nat.le_of_ble_eq_true rfl)⟩ rfl hl.1 (Nat.le_of_ble_eq_true rfl) dX2_learnClause_19 rfl ⟨(Nat.le_of_ble_eq_true rfl), (Nat.le_of_ble_eq_true rfl)⟩ (fun v71 w72 hp70 H locs hP hD hS => ?_)
    obtain ⟨rfl, rfl⟩ := hp70
    refine W.eq (g2 := F0 m 22 ls [.int (nI (1 + 4 * (nx f n a0) + 0))]) rfl (W.widen (k := 0) (n := 0) (Nat.le_of_ble_eq_true rfl) (Nat.le_of_ble_eq_true rfl) ?_)
    exact y_ir K hP hD hS (Nat.le_of_ble_eq_true rfl) (Nat.le_of_ble_eq_true rfl) (ty := .int) rfl rfl dX2_learnClause_22 (⟨(twA f n (nx f n a0) 4), ff, nI mt, bf, nI (1 + 4 * (nx f n a0) + 0), rfl, by unfold clF; rw [if_pos hk5], by omega, by omega, fun q => absurd q (by unfold clF; rw [if_pos hk5]; omega), kp27, k22, k24, k25⟩)
set_option maxHeartbeats 4000000 in
set_option maxRecDepth 100000 in
theorem g_lawLearn (l : Launch) (D : va_G) (cy : Nat → ClassId) (sk sv : Nat → Nat) (w : Wd) (lw bl : Nat) (t b n : Nat) (ff tt a0 : Int32) (f bf : Nat → Int32) (c90 : wd_at w lw (.inr (2, [.ref bl, .int ff, .int tt]))) (c91 : wd_at w bl (.inl (cy 2, 4, .inl bf))) (c92 : wd_at w t (.inr (7, [.ref b, .int (nI n), .int a0]))) (c93 : wd_at w b (.inl (cy 0, 300, .inl f)))  (S : Nat → Prop) (s90 : S t) (s91 : S lw) (s92 : S bl) (hn : n ≤ 300) : Ct l D cy sk sv yX2_learn wsX2_learn ({ frames := 9, cells := 0, slots := 0, locals := 205 }) [.ref lw, .ref t] w (fun v w1 => ∃ (a1 : Int32) (ff1 : Int32) (tt1 : Int32) (bf1 : Nat → Int32) (r1 : Int32), v = some (.int r1) ∧ (r1 = lawA f n) ∧ ((lawT f n).1 = 0 → lwR bf1 ff1 (lawT f n).2) ∧ wd_kp S w w1 ∧ wd_at w1 t (.inr (7, [.ref b, .int (nI n), .int a1])) ∧ wd_at w1 lw (.inr (2, [.ref bl, .int ff1, .int tt1])) ∧ wd_at w1 bl (.inl (cy 2, 4, .inl bf1))) := by
  refine Ct.by (cc := cX2_learn) (maxL := 4) (ret := (some .int)) (by decide +kernel) rfl (Nat.le_of_ble_eq_true rfl) ?_
  intro p e s m args below meth c A Q F hnm K ls hl
  have F : wd_Fx p s m args meth c cX2_learn 4 wsX2_learn RX2 D cy sk sv A := F
  have hl : lv_has ls 4 [(0, .ref lw), (1, .ref t)] := hl
  have hx := F.1.1
  have hb := F.1.2.1
  have hown := F.1.2.2.2.1
  have hts := F.1.2.2.2.2
  intro H locs hP hD hS
  have kp0 : wd_kp S w w := wd_kp.rf
  refine lv_aload_n hx hb dX2_learn_0 rfl (lv_at hl 0 rfl) ?_
  refine x_callV (n := 0) (As := []) (rest := []) F hP hD hS (g_forget l D cy sk sv w lw bl bf ff tt c90 c91 (fun b => b = lw ∨ b = bl) (Or.inl rfl) (Or.inr rfl)) gX2_learn_X2_forget rfl rfl (by decide +kernel) ⟨(Nat.le_of_ble_eq_true rfl), (Nat.le_of_ble_eq_true rfl)⟩ rfl hl.1 (Nat.le_of_ble_eq_true rfl) c90 rfl dX2_learn_1 rfl ⟨(Nat.le_of_ble_eq_true rfl), (Nat.le_of_ble_eq_true rfl)⟩ (fun v2 w3 hp1 H locs hP hD hS => ?_)
  obtain ⟨bfx4, rfl, hz5, kq8, k6, k7⟩ := hp1
  have k9 := kq8.2 _ _ c92 (fun q9 => Or.elim q9 (wd_nk c92 c90 rfl) (fun q9 : t = bl => (wd_nk c92 c91 rfl) q9))
  have k10 := kq8.2 _ _ c93 (fun q9 => Or.elim q9 (wd_nk c93 c90 rfl) (fun q9 : b = bl => (wd_nk c93 c91 rfl) q9))
  have kp11 := kp0.tr kq8 (fun b9 hm q9 => (fun q9 => Or.elim q9 (fun q9 => q9 ▸ s91) (fun q9 => q9 ▸ s92)) q9)
  refine W.eq (g2 := F0 m 4 ls []) rfl (W.widen (k := 0) (n := 0) (Nat.le_of_ble_eq_true rfl) (Nat.le_of_ble_eq_true rfl) ?_)
  refine lv_aload_n hx hb dX2_learn_4 rfl (lv_at hl 1 rfl) ?_
  refine x_get (ref := "NoteHouse$Tape") F hP k9 rfl (fun _ h => List.mem_cons_of_mem _ (List.mem_append_left _ (List.mem_append_right _ (h)))) 1 (Nat.le_of_ble_eq_true rfl) (List.mem_cons_of_mem _ (List.mem_append_left _ (List.mem_append_left _ (List.mem_append_left _ (List.mem_of_getElem? (i := 0) rfl))))) rfl rfl dX2_learn_5 ?_
  refine lv_sipush (v := 200) hx hb dX2_learn_8 (by decide) ?_
  refine lv_icmp_le (tgt := 22) hx hb dX2_learn_11 (by decide) (fun c_12 => ?_) (fun c_12 => ?_)
  · have h200 : ¬ 200 < n := Nat.not_lt.mpr ((nI_leI (a := n) (b := 200) (by omega) (by omega)).mp c_12)
    refine lv_aload_n hx hb dX2_learn_22 rfl (lv_at hl 1 rfl) ?_
    refine x_callV (n := 0) (As := []) (rest := []) F hP hD hS (g_rewind l D cy sk sv w3 t b n a0 k9 (fun b => b = t) rfl) gX2_learn_X7_rewind rfl rfl (by decide +kernel) ⟨(Nat.le_of_ble_eq_true rfl), (Nat.le_of_ble_eq_true rfl)⟩ rfl hl.1 (Nat.le_of_ble_eq_true rfl) k9 rfl dX2_learn_23 rfl ⟨(Nat.le_of_ble_eq_true rfl), (Nat.le_of_ble_eq_true rfl)⟩ (fun v14 w15 hp13 H locs hP hD hS => ?_)
    obtain ⟨rfl, kq17, k16⟩ := hp13
    have k18 := kq17.2 _ _ k6 (fun q9 : lw = t => (wd_nk k6 k9 rfl) q9)
    have k19 := kq17.2 _ _ k7 (fun q9 : bl = t => (wd_nk k7 k9 rfl) q9)
    have k20 := kq17.2 _ _ k10 (fun q9 : b = t => (wd_nk k10 k9 rfl) q9)
    have kp21 := kp11.tr kq17 (fun b9 hm q9 => (fun q9 => q9 ▸ s90) q9)
    refine W.eq (g2 := F0 m 26 ls []) rfl (W.widen (k := 0) (n := 0) (Nat.le_of_ble_eq_true rfl) (Nat.le_of_ble_eq_true rfl) ?_)
    refine lv_aload_n hx hb dX2_learn_26 rfl (lv_at hl 1 rfl) ?_
    refine x_callV (n := 0) (As := []) (rest := []) F hP hD hS (g_isOver l D cy sk sv w15 t b n 0 f k16 k20 (fun b => b = t) rfl (by omega) (by omega)) gX2_learn_X7_isOver rfl rfl (by decide +kernel) ⟨(Nat.le_of_ble_eq_true rfl), (Nat.le_of_ble_eq_true rfl)⟩ rfl hl.1 (Nat.le_of_ble_eq_true rfl) k16 rfl dX2_learn_27 rfl ⟨(Nat.le_of_ble_eq_true rfl), (Nat.le_of_ble_eq_true rfl)⟩ (fun v23 w24 hp22 H locs hP hD hS => ?_)
    obtain ⟨ax25, rx26, rfl, rfl, rfl, hz27, hz28, hz29, kq31, k30⟩ := hp22
    have k32 := kq31.2 _ _ k18 (fun q9 : lw = t => (wd_nk k18 k16 rfl) q9)
    have k33 := kq31.2 _ _ k19 (fun q9 : bl = t => (wd_nk k19 k16 rfl) q9)
    have k34 := kq31.2 _ _ k20 (fun q9 : b = t => (wd_nk k20 k16 rfl) q9)
    have kp35 := kp21.tr kq31 (fun b9 hm q9 => (fun q9 => q9 ▸ s90) q9)
    refine W.eq (g2 := F0 m 30 ls [.int (ovr f n 0)]) rfl (W.widen (k := 0) (n := 0) (Nat.le_of_ble_eq_true rfl) (Nat.le_of_ble_eq_true rfl) ?_)
    refine lv_if_eq (tgt := 35) hx hb dX2_learn_30 (by decide) (fun c_36 => ?_) (fun c_36 => ?_)
    · have hnx : nx f n 0 < n := ovr_0.mp c_36
      refine lv_iconst (v := 0) hx hb dX2_learn_35 (by decide) ?_
      refine lv_istore_n (lv' := [(2, .int 0), (0, .ref lw), (1, .ref t)]) hx hb dX2_learn_36 rfl hl (by decide) rfl (fun ls hl => ?_)
      have lp37 : ∀ (N : Nat) (k : Nat) (a2 : Nat) (ff2 : Int32) (mt2 : Nat) (bf2 : Nat → Int32) (bb2 : Nat → Int32) (w37 : Wd), (k + N = 6) → (a2 ≤ n) → (mt2 < 32) → (bc5 mt2 = k) → (lwR bf2 ff2 bb2) → (lawG f n (6 - k) a2 mt2 bb2 = lawT f n) → (wd_at w37 lw (.inr (2, [.ref bl, .int ff2, .int (nI mt2)]))) → (wd_at w37 bl (.inl (cy 2, 4, .inl bf2))) → (wd_at w37 t (.inr (7, [.ref b, .int (nI n), .int (nI a2)]))) → (wd_at w37 b (.inl (cy 0, 300, .inl f))) → (wd_kp S w w37) → ∀ (ls : Array Slot), lv_has ls 4 [(0, .ref lw), (1, .ref t), (2, .int (nI k))] → Wv p l e ({ frames := 9, cells := 0, slots := 0, locals := 205 }) s m args below meth c D A (0) (0) Q w37 (F0 m 37 ls []) := by
        intro N
        induction N with
        | zero =>
          intro k a2 ff2 mt2 bf2 bb2 w37 hN37 ha2 hm2 hbk hlw2 hG k38 k39 k40 k41 kp42 ls hl H locs hP hD hS
          exact absurd (bt_5 mt2 hm2) (by omega)
        | succ N ih37 =>
          intro k a2 ff2 mt2 bf2 bb2 w37 hN37 ha2 hm2 hbk hlw2 hG k38 k39 k40 k41 kp42 ls hl H locs hP hD hS
          refine lv_iload_n hx hb dX2_learn_37 rfl (lv_at hl 2 rfl) ?_
          refine lv_iconst (v := 5) hx hb dX2_learn_38 (by decide) ?_
          refine lv_icmp_gt (tgt := 84) hx hb dX2_learn_39 (by decide) (fun c_43 => absurd c_43 (nI_nlt (a := 5) (b := k) (by omega) (by omega))) (fun c_43 => ?_)
          refine lv_aload_n hx hb dX2_learn_42 rfl (lv_at hl 0 rfl) ?_
          refine lv_aload_n hx hb dX2_learn_43 rfl (lv_at hl 1 rfl) ?_
          refine x_callV (n := 1) (As := [.ref t]) (rest := []) F hP hD hS (g_learnClause l D cy sk sv w37 lw bl t b n a2 mt2 ff2 f bf2 bb2 k38 k39 k40 k41 (fun b => b = t ∨ b = lw ∨ b = bl) (Or.inl rfl) (Or.inr (Or.inl rfl)) (Or.inr (Or.inr rfl)) (by omega) (by omega) (by omega) (by assumption)) gX2_learn_X2_learnClause rfl rfl (by decide +kernel) ⟨(Nat.le_of_ble_eq_true rfl), (Nat.le_of_ble_eq_true rfl)⟩ rfl hl.1 (Nat.le_of_ble_eq_true rfl) k38 rfl dX2_learn_44 rfl ⟨(Nat.le_of_ble_eq_true rfl), (Nat.le_of_ble_eq_true rfl)⟩ (fun v45 w46 hp44 H locs hP hD hS => ?_)
          obtain ⟨ax47, ffx48, ttx49, bfx50, rx51, rfl, rfl, hz52, hz53, hz54, kq58, k55, k56, k57⟩ := hp44
          have k59 := kq58.2 _ _ k41 (fun q9 => Or.elim q9 (wd_nk k41 k40 rfl) (fun q9 => Or.elim q9 (wd_nk k41 k38 rfl) (fun q9 : b = bl => (wd_nk k41 k39 rfl) q9)))
          have kp60 := kp42.tr kq58 (fun b9 hm q9 => (fun q9 => Or.elim q9 (fun q9 => q9 ▸ s90) (fun q9 => Or.elim q9 (fun q9 => q9 ▸ s91) (fun q9 => q9 ▸ s92))) q9)
          refine W.eq (g2 := F0 m 47 ls [.int (nI (clF f n a2 mt2))]) rfl (W.widen (k := 0) (n := 0) (Nat.le_of_ble_eq_true rfl) (Nat.le_of_ble_eq_true rfl) ?_)
          refine lv_istore_n (lv' := [(3, .int (nI (clF f n a2 mt2))), (0, .ref lw), (1, .ref t), (2, .int (nI k))]) hx hb dX2_learn_47 rfl hl (by decide) rfl (fun ls hl => ?_)
          refine lv_iload_n hx hb dX2_learn_48 rfl (lv_at hl 0 rfl) ?_
          refine lv_if_eq (tgt := 54) hx hb dX2_learn_49 (by decide) (fun c_61 => ?_) (fun c_61 => ?_)
          · have hf0 : clF f n a2 mt2 = 0 := (nI_eq (a := clF f n a2 mt2) (b := 0) (by have h9 := clF_lt (B := f) (m := mt2) ha2; omega) (by omega)).mp c_61
            obtain ⟨ea9, et9, hlw3⟩ := hz54 hf0
            subst ea9
            subst et9
            refine lv_aload_n hx hb dX2_learn_54 rfl (lv_at hl 2 rfl) ?_
            refine x_callV (n := 0) (As := []) (rest := []) F hP hD hS (g_isOver l D cy sk sv w46 t b n (clA f n a2) f k55 k59 (fun b => b = t) rfl (by omega) (by omega)) gX2_learn_X7_isOver rfl rfl (by decide +kernel) ⟨(Nat.le_of_ble_eq_true rfl), (Nat.le_of_ble_eq_true rfl)⟩ rfl hl.1 (Nat.le_of_ble_eq_true rfl) k55 rfl dX2_learn_55 rfl ⟨(Nat.le_of_ble_eq_true rfl), (Nat.le_of_ble_eq_true rfl)⟩ (fun v63 w64 hp62 H locs hP hD hS => ?_)
            obtain ⟨ax65, rx66, rfl, rfl, rfl, hz67, hz68, hz69, kq71, k70⟩ := hp62
            have k72 := kq71.2 _ _ k56 (fun q9 : lw = t => (wd_nk k56 k55 rfl) q9)
            have k73 := kq71.2 _ _ k57 (fun q9 : bl = t => (wd_nk k57 k55 rfl) q9)
            have k74 := kq71.2 _ _ k59 (fun q9 : b = t => (wd_nk k59 k55 rfl) q9)
            have kp75 := kp60.tr kq71 (fun b9 hm q9 => (fun q9 => q9 ▸ s90) q9)
            refine W.eq (g2 := F0 m 58 ls [.int (ovr f n (clA f n a2))]) rfl (W.widen (k := 0) (n := 0) (Nat.le_of_ble_eq_true rfl) (Nat.le_of_ble_eq_true rfl) ?_)
            refine lv_if_eq (tgt := 63) hx hb dX2_learn_58 (by decide) (fun c_76 => ?_) (fun c_76 => ?_)
            · have hlt : nx f n (clA f n a2) < n := ovr_0.mp c_76
              have hnn : nx f n (nx f n (clA f n a2)) = nx f n (clA f n a2) := nx_nx (by omega)
              refine lv_aload_n hx hb dX2_learn_63 rfl (lv_at hl 2 rfl) ?_
              refine lv_bipush (v := 59) hx hb dX2_learn_64 (by decide) ?_
              refine x_callV (n := 1) (As := [.int 59]) (rest := []) F hP hD hS (g_takes l D cy sk sv w64 t b n (nx f n (clA f n a2)) f 59 k70 k74 (fun b => b = t) rfl (by omega) (by omega)) gX2_learn_X7_takes rfl rfl (by decide +kernel) ⟨(Nat.le_of_ble_eq_true rfl), (Nat.le_of_ble_eq_true rfl)⟩ rfl hl.1 (Nat.le_of_ble_eq_true rfl) k70 rfl dX2_learn_66 rfl ⟨(Nat.le_of_ble_eq_true rfl), (Nat.le_of_ble_eq_true rfl)⟩ (fun v78 w79 hp77 H locs hP hD hS => ?_)
              obtain ⟨ax80, rx81, rfl, rfl, rfl, hz82, hz83, hz84, kq86, k85⟩ := hp77
              have k87 := kq86.2 _ _ k72 (fun q9 : lw = t => (wd_nk k72 k70 rfl) q9)
              have k88 := kq86.2 _ _ k73 (fun q9 : bl = t => (wd_nk k73 k70 rfl) q9)
              have k89 := kq86.2 _ _ k74 (fun q9 : b = t => (wd_nk k74 k70 rfl) q9)
              have kp90 := kp75.tr kq86 (fun b9 hm q9 => (fun q9 => q9 ▸ s90) q9)
              refine W.eq (g2 := F0 m 69 ls [.int (tkR f n (nx f n (clA f n a2)) 59)]) rfl (W.widen (k := 0) (n := 0) (Nat.le_of_ble_eq_true rfl) (Nat.le_of_ble_eq_true rfl) ?_)
              refine lv_if_ne (tgt := 78) hx hb dX2_learn_69 (by decide) (fun c_91 => ?_) (fun c_91 => ?_)
              · have ht59 : nx f n (nx f n (clA f n a2)) < n ∧ f (nx f n (nx f n (clA f n a2))) = 59 := Classical.byContradiction (fun q => c_91 (tkR_0.mpr q))
                have h59 : f (nx f n (clA f n a2)) = 59 := by have h9 := ht59.2; rw [hnn] at h9; exact h9
                refine lv_iinc (v := nI (k + 1)) (lv' := [(2, .int (nI (k + 1))), (3, .int (nI (clF f n a2 mt2))), (0, .ref lw), (1, .ref t)]) hx hb dX2_learn_78 hl (k := 3) rfl (nI_1 k) (by decide) rfl (fun ls hl => ?_)
                refine lv_goto (tgt := 37) hx hb dX2_learn_81 (by decide) ?_
                exact ih37 (k + 1) (tkA f n (nx f n (clA f n a2)) 59) ffx48 (clM f n a2 mt2) bfx50 (clB f n a2 bb2) w79 (by omega) (by omega) ((clM_s hm2 hf0).1) (by rw [(clM_s hm2 hf0).2, hbk]) hlw3 (by rw [tkA_y ht59, hnn, show 6 - (k + 1) = N by omega, ← lawG_s hf0 hlt h59, ← hG, show 6 - k = N + 1 by omega]) k87 k88 k85 k89 kp90 ls (lv_sub hl [2, 3, 0] rfl) H locs hP hD hS
              · have ht59 : ¬ (nx f n (nx f n (clA f n a2)) < n ∧ f (nx f n (nx f n (clA f n a2))) = 59) := tkR_0.mp c_91
                have h59 : ¬ f (nx f n (clA f n a2)) = 59 := fun q => ht59 (by rw [hnn]; exact ⟨hlt, q⟩)
                refine lv_aload_n hx hb dX2_learn_72 rfl (lv_at hl 2 rfl) ?_
                refine lv_iconst (v := 0) hx hb dX2_learn_73 (by decide) ?_
                refine x_callV (n := 1) (As := [.int 0]) (rest := []) F hP hD hS (g_faultHere l D cy sk sv w79 t b n (tkA f n (nx f n (clA f n a2)) 59) 0 f k85 k89 (fun b => b = t) rfl (by omega) (by omega)) gX2_learn_X7_faultHere rfl rfl (by decide +kernel) ⟨(Nat.le_of_ble_eq_true rfl), (Nat.le_of_ble_eq_true rfl)⟩ rfl hl.1 (Nat.le_of_ble_eq_true rfl) k85 rfl dX2_learn_74 rfl ⟨(Nat.le_of_ble_eq_true rfl), (Nat.le_of_ble_eq_true rfl)⟩ (fun v93 w94 hp92 H locs hP hD hS => ?_)
                obtain ⟨ax95, rfl, rfl, hz96, hz97, kq99, k98⟩ := hp92
                have k100 := kq99.2 _ _ k87 (fun q9 : lw = t => (wd_nk k87 k85 rfl) q9)
                have k101 := kq99.2 _ _ k88 (fun q9 : bl = t => (wd_nk k88 k85 rfl) q9)
                have k102 := kq99.2 _ _ k89 (fun q9 : b = t => (wd_nk k89 k85 rfl) q9)
                have kp103 := kp90.tr kq99 (fun b9 hm q9 => (fun q9 => q9 ▸ s90) q9)
                refine W.eq (g2 := F0 m 77 ls [.int (nI (1 + 4 * (nx f n (tkA f n (nx f n (clA f n a2)) 59)) + 0))]) rfl (W.widen (k := 0) (n := 0) (Nat.le_of_ble_eq_true rfl) (Nat.le_of_ble_eq_true rfl) ?_)
                have hT9 : lawT f n = (1 + 4 * nx f n (clA f n a2) + 0, bb2) := by rw [← hG, show 6 - k = N + 1 by omega]; exact lawG_f hf0 hlt h59
                exact y_ir K hP hD hS (Nat.le_of_ble_eq_true rfl) (Nat.le_of_ble_eq_true rfl) (ty := .int) rfl rfl dX2_learn_77 (⟨nI (nx f n (tkA f n (nx f n (clA f n a2)) 59)), ffx48, (nI (clM f n a2 mt2)), bfx50, nI (1 + 4 * (nx f n (tkA f n (nx f n (clA f n a2)) 59)) + 0), rfl, by unfold lawA; rw [hT9, tkA_n ht59, hnn, hnn], fun q => absurd q (by rw [hT9]; show ¬ (1 + 4 * nx f n (clA f n a2) + 0 = 0); omega), kp103, k98, k100, k101⟩)
            · have hlt : ¬ nx f n (clA f n a2) < n := fun q => c_76 (ovr_0.mpr q)
              refine lv_iconst (v := 0) hx hb dX2_learn_61 (by decide) ?_
              have hT9 : lawT f n = (0, clB f n a2 bb2) := by rw [← hG, show 6 - k = N + 1 by omega]; exact lawG_e hf0 hlt
              exact y_ir K hP hD hS (Nat.le_of_ble_eq_true rfl) (Nat.le_of_ble_eq_true rfl) (ty := .int) rfl rfl dX2_learn_62 (⟨nI (nx f n (clA f n a2)), ffx48, (nI (clM f n a2 mt2)), bfx50, 0, rfl, by unfold lawA; rw [hT9]; rfl, fun _ => by rw [hT9]; exact hlw3, kp75, k70, k72, k73⟩)
          · have hf0 : ¬ clF f n a2 mt2 = 0 := fun q => c_61 (by rw [q]; rfl)
            refine lv_iload_n hx hb dX2_learn_52 rfl (lv_at hl 0 rfl) ?_
            have hT9 : lawT f n = (clF f n a2 mt2, bb2) := by rw [← hG, show 6 - k = N + 1 by omega]; exact lawG_n hf0
            exact y_ir K hP hD hS (Nat.le_of_ble_eq_true rfl) (Nat.le_of_ble_eq_true rfl) (ty := .int) rfl rfl dX2_learn_53 (⟨nI ax47, ffx48, ttx49, bfx50, (nI (clF f n a2 mt2)), rfl, by unfold lawA; rw [hT9], fun q => absurd q (by rw [hT9]; exact hf0), kp60, k55, k56, k57⟩)
      exact lp37 _ 0 (nx f n 0) 10 0 bfx4 law0 w24 (Nat.zero_add 6) (by omega) (by decide) rfl (by assumption) ((lawT_3 h200 hnx).symm) k32 k33 k30 k34 kp35 ls (lv_sub hl [1, 2, 0] rfl) H locs hP hD hS
    · have hnx : ¬ nx f n 0 < n := fun q => c_36 (ovr_0.mpr q)
      refine lv_iconst (v := 0) hx hb dX2_learn_33 (by decide) ?_
      have hT9 : lawT f n = (0, law0) := lawT_2 h200 hnx
      exact y_ir K hP hD hS (Nat.le_of_ble_eq_true rfl) (Nat.le_of_ble_eq_true rfl) (ty := .int) rfl rfl dX2_learn_34 (⟨nI (nx f n 0), 10, nI 0, bfx4, 0, rfl, by unfold lawA; rw [hT9]; rfl, fun _ => by rw [hT9]; assumption, kp35, k30, k32, k33⟩)
  · have h200 : 200 < n := Nat.lt_of_not_le (fun q => c_12 (nI_le (b := 200) q (by omega)))
    refine lv_sipush (v := 200) hx hb dX2_learn_14 (by decide) ?_
    refine lv_iconst (v := 0) hx hb dX2_learn_17 (by decide) ?_
    refine x_callSN (host := RX10) (n := 2) (As := [.int 200, .int 0]) (rest := []) F hP hD hS (g_faultAt l D cy sk sv w3 200 0) gX2_learn_X10_faultAt_n30 rfl (by decide +kernel) (List.mem_cons_of_mem _ (List.mem_append_left _ (List.mem_append_left _ (List.mem_append_left _ (List.mem_of_getElem? (i := 10) rfl))))) (List.mem_cons_of_mem _ (List.mem_append_left _ (List.mem_append_left _ (List.mem_append_left _ (List.mem_of_getElem? (i := 9) rfl))))) (by decide +kernel) ⟨(Nat.le_of_ble_eq_true rfl), (Nat.le_of_ble_eq_true rfl)⟩ rfl hl.1 (Nat.le_of_ble_eq_true rfl) dX2_learn_18 rfl ⟨(Nat.le_of_ble_eq_true rfl), (Nat.le_of_ble_eq_true rfl)⟩ (fun v105 w106 hp104 H locs hP hD hS => ?_)
    obtain ⟨rfl, rfl⟩ := hp104
    refine W.eq (g2 := F0 m 21 ls [.int (nI (1 + 4 * 200 + 0))]) rfl (W.widen (k := 0) (n := 0) (Nat.le_of_ble_eq_true rfl) (Nat.le_of_ble_eq_true rfl) ?_)
    have hT9 : lawT f n = (801, law0) := lawT_1 h200
    exact y_ir K hP hD hS (Nat.le_of_ble_eq_true rfl) (Nat.le_of_ble_eq_true rfl) (ty := .int) rfl rfl dX2_learn_21 (⟨a0, 10, nI 0, bfx4, nI (1 + 4 * 200 + 0), rfl, by unfold lawA; rw [hT9], fun q => absurd q (by rw [hT9]; decide), kp11, k9, k6, k7⟩)
set_option maxHeartbeats 4000000 in
set_option maxRecDepth 100000 in
theorem g_houseShare (l : Launch) (D : va_G) (cy : Nat → ClassId) (sk sv : Nat → Nat) (w : Wd) (lw bl : Nat) (kd : Nat) (ff tt x : Int32) (bf : Nat → Int32) (c90 : wd_at w lw (.inr (2, [.ref bl, .int ff, .int tt]))) (c91 : wd_at w bl (.inl (cy 2, 4, .inl bf)))  (hkd : kd ≤ 4) : Ct l D cy sk sv yX2_houseShare wsX2_houseShare ({ frames := 0, cells := 0, slots := 0, locals := 0 }) [.ref lw, .int (nI kd), .int x] w (fun v w1 => ∃ (r1 : Int32), v = some (.int r1) ∧ w = w1) := by
  refine Ct.by (cc := cX2_houseShare) (maxL := 4) (ret := (some .int)) (by decide +kernel) rfl (Nat.le_of_ble_eq_true rfl) ?_
  intro p e s m args below meth c A Q F hnm K ls hl
  have F : wd_Fx p s m args meth c cX2_houseShare 4 wsX2_houseShare RX2 D cy sk sv A := F
  have hl : lv_has ls 4 [(0, .ref lw), (1, .int (nI kd)), (2, .int x)] := hl
  have hx := F.1.1
  have hb := F.1.2.1
  have hown := F.1.2.2.2.1
  have hts := F.1.2.2.2.2
  intro H locs hP hD hS
  refine lv_iload_n hx hb dX2_houseShare_0 rfl (lv_at hl 1 rfl) ?_
  refine lv_if_ne (tgt := 8) hx hb dX2_houseShare_1 (by decide) (fun c_1 => ?_) (fun c_1 => ?_)
  · have hk0 : 0 < kd := Nat.pos_of_ne_zero (fun q => c_1 (by rw [q]; rfl))
    refine lv_aload_n hx hb dX2_houseShare_8 rfl (lv_at hl 0 rfl) ?_
    refine x_get (ref := "NoteHouse$Law") F hP c90 rfl (fun _ h => List.mem_cons_of_mem _ (List.mem_append_right _ (h))) 0 (Nat.le_of_ble_eq_true rfl) (List.mem_cons_of_mem _ (List.mem_append_left _ (List.mem_of_getElem? (i := 0) rfl))) rfl rfl dX2_houseShare_9 ?_
    refine lv_iload_n hx hb dX2_houseShare_12 rfl (lv_at hl 1 rfl) ?_
    refine lv_iconst (v := 1) hx hb dX2_houseShare_13 (by decide) ?_
    refine lv_isub hx hb dX2_houseShare_14 ?_
    rw [show ((nI kd) - 1 : Int32) = nI (kd - 1) from pk_sub (a := kd) (b := 1) (by omega)]
    refine x_iald F hP c91 (vp_in_nI (n := (kd - 1)) (N := 4) (by omega) (by decide)) dX2_houseShare_15 ?_
    refine lv_istore_n (lv' := [(3, .int (bf (nI (kd - 1)).toNatClampNeg)), (0, .ref lw), (1, .int (nI kd)), (2, .int x)]) hx hb dX2_houseShare_16 rfl hl (by decide) rfl (fun ls hl => ?_)
    refine lv_iload_n hx hb dX2_houseShare_17 rfl (lv_at hl 0 rfl) ?_
    refine lv_iconst (v := 2) hx hb dX2_houseShare_18 (by decide) ?_
    refine lv_icmp_ne (tgt := 26) hx hb dX2_houseShare_19 (by decide) (fun c_2 => ?_) (fun c_2 => ?_)
    · refine lv_iload_n hx hb dX2_houseShare_26 rfl (lv_at hl 0 rfl) ?_
      refine lv_if_ne (tgt := 34) hx hb dX2_houseShare_27 (by decide) (fun c_3 => ?_) (fun c_3 => ?_)
      · refine lv_iconst (v := 0) hx hb dX2_houseShare_34 (by decide) ?_
        exact y_ir K hP hD hS (Nat.le_of_ble_eq_true rfl) (Nat.le_of_ble_eq_true rfl) (ty := .int) rfl rfl dX2_houseShare_35 (⟨0, rfl, rfl⟩)
      · refine lv_iload_n hx hb dX2_houseShare_30 rfl (lv_at hl 3 rfl) ?_
        refine lv_goto (tgt := 35) hx hb dX2_houseShare_31 (by decide) ?_
        exact y_ir K hP hD hS (Nat.le_of_ble_eq_true rfl) (Nat.le_of_ble_eq_true rfl) (ty := .int) rfl rfl dX2_houseShare_35 (⟨x, rfl, rfl⟩)
    · refine lv_iload_n hx hb dX2_houseShare_22 rfl (lv_at hl 3 rfl) ?_
      refine lv_iconst (v := 2) hx hb dX2_houseShare_23 (by decide) ?_
      refine lv_idiv hx hb dX2_houseShare_24 (by decide) ?_
      exact y_ir K hP hD hS (Nat.le_of_ble_eq_true rfl) (Nat.le_of_ble_eq_true rfl) (ty := .int) rfl rfl dX2_houseShare_25 (⟨x / 2, rfl, rfl⟩)
  · refine lv_iconst (v := 0) hx hb dX2_houseShare_4 (by decide) ?_
    refine lv_goto (tgt := 16) hx hb dX2_houseShare_5 (by decide) ?_
    refine lv_istore_n (lv' := [(3, .int 0), (0, .ref lw), (1, .int (nI kd)), (2, .int x)]) hx hb dX2_houseShare_16 rfl hl (by decide) rfl (fun ls hl => ?_)
    refine lv_iload_n hx hb dX2_houseShare_17 rfl (lv_at hl 0 rfl) ?_
    refine lv_iconst (v := 2) hx hb dX2_houseShare_18 (by decide) ?_
    refine lv_icmp_ne (tgt := 26) hx hb dX2_houseShare_19 (by decide) (fun c_4 => ?_) (fun c_4 => absurd c_4 (show ¬ (0 : Int32) = (2 : Int32) by decide))
    refine lv_iload_n hx hb dX2_houseShare_26 rfl (lv_at hl 0 rfl) ?_
    refine lv_if_ne (tgt := 34) hx hb dX2_houseShare_27 (by decide) (fun c_5 => absurd (show (0 : Int32) = (0 : Int32) by decide) c_5) (fun c_5 => ?_)
    refine lv_iload_n hx hb dX2_houseShare_30 rfl (lv_at hl 3 rfl) ?_
    refine lv_goto (tgt := 35) hx hb dX2_houseShare_31 (by decide) ?_
    exact y_ir K hP hD hS (Nat.le_of_ble_eq_true rfl) (Nat.le_of_ble_eq_true rfl) (ty := .int) rfl rfl dX2_houseShare_35 (⟨x, rfl, rfl⟩)
set_option maxHeartbeats 4000000 in
set_option maxRecDepth 100000 in
theorem g_unlikeness (l : Launch) (D : va_G) (cy : Nat → ClassId) (sk sv : Nat → Nat) (w : Wd) (x y : Int32)    : Ct l D cy sk sv yX10_unlikeness wsX10_unlikeness ({ frames := 1, cells := 0, slots := 0, locals := 16 }) [.int x, .int y] w (fun v w1 => ∃ (r1 : Int32), v = some (.int r1) ∧ (r1 = unlI x y) ∧ w = w1) := by
  refine Ct.by (cc := cX10_unlikeness) (maxL := 6) (ret := (some .int)) (by decide +kernel) rfl (Nat.le_of_ble_eq_true rfl) ?_
  intro p e s m args below meth c A Q F hnm K ls hl
  have F : wd_Fx p s m args meth c cX10_unlikeness 6 wsX10_unlikeness RX10 D cy sk sv A := F
  have hl : lv_has ls 6 [(0, .int x), (1, .int y)] := hl
  have hx := F.1.1
  have hb := F.1.2.1
  have hown := F.1.2.2.2.1
  have hts := F.1.2.2.2.2
  intro H locs hP hD hS
  refine lv_iconst (v := 0) hx hb dX10_unlikeness_0 (by decide) ?_
  refine lv_istore_n (lv' := [(2, .int 0), (0, .int x), (1, .int y)]) hx hb dX10_unlikeness_1 rfl hl (by decide) rfl (fun ls hl => ?_)
  refine lv_iload_n hx hb dX10_unlikeness_2 rfl (lv_at hl 1 rfl) ?_
  refine lv_istore_n (lv' := [(3, .int x), (2, .int 0), (0, .int x), (1, .int y)]) hx hb dX10_unlikeness_3 rfl hl (by decide) rfl (fun ls hl => ?_)
  refine lv_iload_n hx hb dX10_unlikeness_4 rfl (lv_at hl 3 rfl) ?_
  refine lv_istore (lv' := [(4, .int y), (3, .int x), (2, .int 0), (0, .int x), (1, .int y)]) hx hb dX10_unlikeness_5 hl (by decide) rfl (fun ls hl => ?_)
  refine lv_iconst (v := 0) hx hb dX10_unlikeness_7 (by decide) ?_
  refine lv_istore (lv' := [(5, .int 0), (4, .int y), (3, .int x), (2, .int 0), (0, .int x), (1, .int y)]) hx hb dX10_unlikeness_8 hl (by decide) rfl (fun ls hl => ?_)
  have lp10 : ∀ (N : Nat) (k : Nat) (u0 : Int32) (u1 : Int32) (u2 : Int32), (k + N = 5) → (unl (5 - k) u0 u1 u2 = unlI x y) → ∀ (ls : Array Slot), lv_has ls 6 [(0, .int x), (1, .int y), (2, .int u0), (3, .int u1), (4, .int u2), (5, .int (nI k))] → Wv p l e ({ frames := 1, cells := 0, slots := 0, locals := 16 }) s m args below meth c D A (0) (0) Q w (F0 m 10 ls []) := by
    intro N
    induction N with
    | zero =>
      intro k u0 u1 u2 hN10 hul ls hl H locs hP hD hS
      refine lv_iload hx hb dX10_unlikeness_10 (lv_at hl 5 rfl) ?_
      refine lv_iconst (v := 5) hx hb dX10_unlikeness_12 (by decide) ?_
      refine lv_icmp_ge (tgt := 50) hx hb dX10_unlikeness_13 (by decide) (fun c_2 => ?_) (fun c_2 => absurd (nI_le (a := 5) (b := k) (by omega) (by omega)) c_2)
      refine lv_iload_n hx hb dX10_unlikeness_50 rfl (lv_at hl 2 rfl) ?_
      exact y_ir K hP hD hS (Nat.le_of_ble_eq_true rfl) (Nat.le_of_ble_eq_true rfl) (ty := .int) rfl rfl dX10_unlikeness_51 (⟨u0, rfl, by rw [← hul, show 5 - k = 0 by omega]; rfl, rfl⟩)
    | succ N ih10 =>
      intro k u0 u1 u2 hN10 hul ls hl H locs hP hD hS
      refine lv_iload hx hb dX10_unlikeness_10 (lv_at hl 5 rfl) ?_
      refine lv_iconst (v := 5) hx hb dX10_unlikeness_12 (by decide) ?_
      refine lv_icmp_ge (tgt := 50) hx hb dX10_unlikeness_13 (by decide) (fun c_3 => absurd c_3 (nI_ge (a := k) (b := 5) (by omega) (by omega))) (fun c_3 => ?_)
      refine lv_iload_n hx hb dX10_unlikeness_16 rfl (lv_at hl 2 rfl) ?_
      refine lv_iload_n hx hb dX10_unlikeness_17 rfl (lv_at hl 3 rfl) ?_
      refine lv_bipush (v := 10) hx hb dX10_unlikeness_18 (by decide) ?_
      refine lv_irem hx hb dX10_unlikeness_20 (by decide) ?_
      refine lv_iload hx hb dX10_unlikeness_21 (lv_at hl 4 rfl) ?_
      refine lv_bipush (v := 10) hx hb dX10_unlikeness_23 (by decide) ?_
      refine lv_irem hx hb dX10_unlikeness_25 (by decide) ?_
      refine lv_isub hx hb dX10_unlikeness_26 ?_
      refine va_mabs hx hb (F.1.2.2.1.trans hl.1.symm) hown (hts _ (List.mem_cons_of_mem _ (List.mem_of_getElem? (i := 0) rfl))) (hts _ (List.mem_cons_of_mem _ (List.mem_of_getElem? (i := 1) rfl))) (hts _ (List.mem_cons_of_mem _ (List.mem_of_getElem? (i := 2) rfl))) (hts _ (List.mem_cons_of_mem _ (List.mem_of_getElem? (i := 3) rfl))) (Nat.le_of_ble_eq_true rfl) (Nat.le_of_ble_eq_true rfl) (Nat.le_of_ble_eq_true rfl) (Nat.le_of_ble_eq_true rfl) dX10_unlikeness_27 ?_
      refine lv_iadd hx hb dX10_unlikeness_30 ?_
      refine lv_istore_n (lv' := [(2, .int (u0 + (if 0 ≤ (u1 - u1 / 10 * 10) - (u2 - u2 / 10 * 10) then (u1 - u1 / 10 * 10) - (u2 - u2 / 10 * 10) else 0 - ((u1 - u1 / 10 * 10) - (u2 - u2 / 10 * 10))))), (0, .int x), (1, .int y), (3, .int u1), (4, .int u2), (5, .int (nI k))]) hx hb dX10_unlikeness_31 rfl hl (by decide) rfl (fun ls hl => ?_)
      refine lv_iload_n hx hb dX10_unlikeness_32 rfl (lv_at hl 3 rfl) ?_
      refine lv_bipush (v := 10) hx hb dX10_unlikeness_33 (by decide) ?_
      refine lv_idiv hx hb dX10_unlikeness_35 (by decide) ?_
      refine lv_istore_n (lv' := [(3, .int (u1 / 10)), (2, .int (u0 + (if 0 ≤ (u1 - u1 / 10 * 10) - (u2 - u2 / 10 * 10) then (u1 - u1 / 10 * 10) - (u2 - u2 / 10 * 10) else 0 - ((u1 - u1 / 10 * 10) - (u2 - u2 / 10 * 10))))), (0, .int x), (1, .int y), (4, .int u2), (5, .int (nI k))]) hx hb dX10_unlikeness_36 rfl hl (by decide) rfl (fun ls hl => ?_)
      refine lv_iload hx hb dX10_unlikeness_37 (lv_at hl 4 rfl) ?_
      refine lv_bipush (v := 10) hx hb dX10_unlikeness_39 (by decide) ?_
      refine lv_idiv hx hb dX10_unlikeness_41 (by decide) ?_
      refine lv_istore (lv' := [(4, .int (u2 / 10)), (3, .int (u1 / 10)), (2, .int (u0 + (if 0 ≤ (u1 - u1 / 10 * 10) - (u2 - u2 / 10 * 10) then (u1 - u1 / 10 * 10) - (u2 - u2 / 10 * 10) else 0 - ((u1 - u1 / 10 * 10) - (u2 - u2 / 10 * 10))))), (0, .int x), (1, .int y), (5, .int (nI k))]) hx hb dX10_unlikeness_42 hl (by decide) rfl (fun ls hl => ?_)
      refine lv_iinc (v := nI (k + 1)) (lv' := [(5, .int (nI (k + 1))), (4, .int (u2 / 10)), (3, .int (u1 / 10)), (2, .int (u0 + (if 0 ≤ (u1 - u1 / 10 * 10) - (u2 - u2 / 10 * 10) then (u1 - u1 / 10 * 10) - (u2 - u2 / 10 * 10) else 0 - ((u1 - u1 / 10 * 10) - (u2 - u2 / 10 * 10))))), (0, .int x), (1, .int y)]) hx hb dX10_unlikeness_44 hl (k := 5) rfl (nI_1 k) (by decide) rfl (fun ls hl => ?_)
      refine lv_goto (tgt := 10) hx hb dX10_unlikeness_47 (by decide) ?_
      exact ih10 (k + 1) (u0 + (if 0 ≤ (u1 - u1 / 10 * 10) - (u2 - u2 / 10 * 10) then (u1 - u1 / 10 * 10) - (u2 - u2 / 10 * 10) else 0 - ((u1 - u1 / 10 * 10) - (u2 - u2 / 10 * 10)))) (u1 / 10) (u2 / 10)  (by omega) (by rw [show 5 - (k + 1) = N by omega, ← hul, show 5 - k = N + 1 by omega, unl_s]; rfl)   ls (lv_sub hl [4, 5, 3, 2, 1, 0] rfl) H locs hP hD hS
  exact lp10 _ 0 0 x y  (Nat.zero_add 5) rfl   ls (lv_sub hl [4, 5, 3, 2, 1, 0] rfl) H locs hP hD hS
