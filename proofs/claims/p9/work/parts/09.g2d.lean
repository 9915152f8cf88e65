set_option maxHeartbeats 4000000 in
set_option maxRecDepth 100000 in
theorem g_step (l : Launch) (D : va_G) (cy : Nat → ClassId) (sk sv : Nat → Nat) (w : Wd) (y b0 b1 b2 b3 : Nat) (i j : Nat) (u : Int32) (f g : Nat → Int32) (c90 : wd_at w y (.inr (9, [.ref b0, .ref b1, .ref b2, .ref b3]))) (c91 : wd_at w b0 (.inl (cy 2, 144, .inl f))) (c92 : wd_at w b1 (.inl (cy 2, 144, .inl g)))  (hi : i < 12) (hj : j < 12) : Ct l D cy sk sv yX9_step wsX9_step ({ frames := 1, cells := 0, slots := 0, locals := 15 }) [.ref y, .int (nI i), .int (nI j), .int u] w (fun v w1 => ∃ (r1 : Int32), v = some (.int r1) ∧ w = w1) := by
  refine Ct.by (cc := cX9_step) (maxL := 5) (ret := (some .int)) (by decide +kernel) rfl (Nat.le_of_ble_eq_true rfl) ?_
  intro p e s m args below meth c A Q F hnm K ls hl
  have F : wd_Fx p s m args meth c cX9_step 5 wsX9_step RX9 D cy sk sv A := F
  have hl : lv_has ls 5 [(0, .ref y), (1, .int (nI i)), (2, .int (nI j)), (3, .int u)] := hl
  have hx := F.1.1
  have hb := F.1.2.1
  have hown := F.1.2.2.2.1
  have hts := F.1.2.2.2.2
  intro H locs hP hD hS
  refine lv_aload_n hx hb dX9_step_0 rfl (lv_at hl 0 rfl) ?_
  refine x_get (ref := "NoteHouse$Ways") F hP c90 rfl (fun _ h => List.mem_cons_of_mem _ (List.mem_append_right _ (h))) 0 (Nat.le_of_ble_eq_true rfl) (List.mem_cons_of_mem _ (List.mem_append_left _ (List.mem_of_getElem? (i := 0) rfl))) rfl rfl dX9_step_1 ?_
  refine lv_iload_n hx hb dX9_step_4 rfl (lv_at hl 1 rfl) ?_
  refine lv_bipush (v := 12) hx hb dX9_step_5 (by decide) ?_
  refine lv_imul hx hb dX9_step_7 ?_
  rw [show ((nI i) * 12 : Int32) = nI (i * 12) from pk_mul i 12]
  refine lv_iload_n hx hb dX9_step_8 rfl (lv_at hl 2 rfl) ?_
  refine lv_iadd hx hb dX9_step_9 ?_
  rw [show ((nI (i * 12)) + (nI j) : Int32) = nI ((i * 12) + j) from nI_add (i * 12) j]
  refine x_iald F hP c91 (vp_in_nI (n := ((i * 12) + j)) (N := 144) (by omega) (by decide)) dX9_step_10 ?_
  refine lv_istore (lv' := [(4, .int (f (nI ((i * 12) + j)).toNatClampNeg)), (0, .ref y), (1, .int (nI i)), (2, .int (nI j)), (3, .int u)]) hx hb dX9_step_11 hl (by decide) rfl (fun ls hl => ?_)
  refine lv_iload_n hx hb dX9_step_13 rfl (lv_at hl 4 rfl) ?_
  refine lv_if_eq (tgt := 36) hx hb dX9_step_14 (by decide) (fun c_1 => ?_) (fun c_1 => ?_)
  · refine lv_iload hx hb dX9_step_36 (lv_at hl 0 rfl) ?_
    exact y_ir K hP hD hS (Nat.le_of_ble_eq_true rfl) (Nat.le_of_ble_eq_true rfl) (ty := .int) rfl rfl dX9_step_38 (⟨f (nI ((i * 12) + j)).toNatClampNeg, rfl, rfl⟩)
  · refine lv_iload hx hb dX9_step_17 (lv_at hl 0 rfl) ?_
    refine lv_aload_n hx hb dX9_step_19 rfl (lv_at hl 1 rfl) ?_
    refine x_get (ref := "NoteHouse$Ways") F hP c90 rfl (fun _ h => List.mem_cons_of_mem _ (List.mem_append_right _ (h))) 1 (Nat.le_of_ble_eq_true rfl) (List.mem_cons_of_mem _ (List.mem_append_left _ (List.mem_of_getElem? (i := 1) rfl))) rfl rfl dX9_step_20 ?_
    refine lv_iload_n hx hb dX9_step_23 rfl (lv_at hl 2 rfl) ?_
    refine lv_bipush (v := 12) hx hb dX9_step_24 (by decide) ?_
    refine lv_imul hx hb dX9_step_26 ?_
    rw [show ((nI i) * 12 : Int32) = nI (i * 12) from pk_mul i 12]
    refine lv_iload_n hx hb dX9_step_27 rfl (lv_at hl 3 rfl) ?_
    refine lv_iadd hx hb dX9_step_28 ?_
    rw [show ((nI (i * 12)) + (nI j) : Int32) = nI ((i * 12) + j) from nI_add (i * 12) j]
    refine x_iald F hP c92 (vp_in_nI (n := ((i * 12) + j)) (N := 144) (by omega) (by decide)) dX9_step_29 ?_
    refine va_mmin hx hb (F.1.2.2.1.trans hl.1.symm) hown (hts _ (List.mem_cons_of_mem _ (List.mem_append_left _ (List.mem_of_getElem? (i := 2) rfl)))) (hts _ (List.mem_cons_of_mem _ (List.mem_append_left _ (List.mem_of_getElem? (i := 3) rfl)))) (hts _ (List.mem_cons_of_mem _ (List.mem_append_left _ (List.mem_of_getElem? (i := 4) rfl)))) (hts _ (List.mem_cons_of_mem _ (List.mem_append_left _ (List.mem_of_getElem? (i := 5) rfl)))) (Nat.le_of_ble_eq_true rfl) (Nat.le_of_ble_eq_true rfl) (Nat.le_of_ble_eq_true rfl) (Nat.le_of_ble_eq_true rfl) dX9_step_30 ?_
    refine lv_goto (tgt := 38) hx hb dX9_step_33 (by decide) ?_
    exact y_ir K hP hD hS (Nat.le_of_ble_eq_true rfl) (Nat.le_of_ble_eq_true rfl) (ty := .int) rfl rfl dX9_step_38 (⟨(if g (nI ((i * 12) + j)).toNatClampNeg < f (nI ((i * 12) + j)).toNatClampNeg then g (nI ((i * 12) + j)).toNatClampNeg else f (nI ((i * 12) + j)).toNatClampNeg), rfl, rfl⟩)
set_option maxHeartbeats 4000000 in
set_option maxRecDepth 100000 in
theorem g_nearestAhead (l : Launch) (D : va_G) (cy : Nat → ClassId) (sk sv : Nat → Nat) (w : Wd) (y b0 b1 b2 b3 : Nat) (f h : Nat → Int32) (c90 : wd_at w y (.inr (9, [.ref b0, .ref b1, .ref b2, .ref b3]))) (c91 : wd_at w b2 (.inl (cy 2, 12, .inl f))) (c92 : wd_at w b3 (.inl (cy 4, 12, .inl h)))   : Ct l D cy sk sv yX9_nearestAhead wsX9_nearestAhead ({ frames := 0, cells := 0, slots := 0, locals := 0 }) [.ref y] w (fun v w1 => ∃ (r1 : Int32), v = some (.int r1) ∧ (r1 = -1 ∨ ∃ k, k < 12 ∧ r1 = nI k) ∧ w = w1) := by
  refine Ct.by (cc := cX9_nearestAhead) (maxL := 3) (ret := (some .int)) (by decide +kernel) rfl (Nat.le_of_ble_eq_true rfl) ?_
  intro p e s m args below meth c A Q F hnm K ls hl
  have F : wd_Fx p s m args meth c cX9_nearestAhead 3 wsX9_nearestAhead RX9 D cy sk sv A := F
  have hl : lv_has ls 3 [(0, .ref y)] := hl
  have hx := F.1.1
  have hb := F.1.2.1
  have hown := F.1.2.2.2.1
  have hts := F.1.2.2.2.2
  intro H locs hP hD hS
  refine lv_iconst (v := (-1)) hx hb dX9_nearestAhead_0 (by decide) ?_
  refine lv_istore_n (lv' := [(1, .int (-1)), (0, .ref y)]) hx hb dX9_nearestAhead_1 rfl hl (by decide) rfl (fun ls hl => ?_)
  refine lv_iconst (v := 0) hx hb dX9_nearestAhead_2 (by decide) ?_
  refine lv_istore_n (lv' := [(2, .int 0), (1, .int (-1)), (0, .ref y)]) hx hb dX9_nearestAhead_3 rfl hl (by decide) rfl (fun ls hl => ?_)
  have lp4 : ∀ (N : Nat) (j : Nat) (nr : Int32), (j + N = 12) → (nr = -1 ∨ ∃ k, k < 12 ∧ nr = nI k) → ∀ (ls : Array Slot), lv_has ls 3 [(0, .ref y), (1, .int nr), (2, .int (nI j))] → Wv p l e ({ frames := 0, cells := 0, slots := 0, locals := 0 }) s m args below meth c D A (0) (0) Q w (F0 m 4 ls []) := by
    intro N
    induction N with
    | zero =>
      intro j nr hN4 hnr ls hl H locs hP hD hS
      refine lv_iload_n hx hb dX9_nearestAhead_4 rfl (lv_at hl 2 rfl) ?_
      refine lv_bipush (v := 12) hx hb dX9_nearestAhead_5 (by decide) ?_
      refine lv_icmp_ge (tgt := 58) hx hb dX9_nearestAhead_7 (by decide) (fun c_2 => ?_) (fun c_2 => absurd (nI_le (a := 12) (b := j) (by omega) (by omega)) c_2)
      refine lv_iload_n hx hb dX9_nearestAhead_58 rfl (lv_at hl 1 rfl) ?_
      exact y_ir K hP hD hS (Nat.le_of_ble_eq_true rfl) (Nat.le_of_ble_eq_true rfl) (ty := .int) rfl rfl dX9_nearestAhead_59 (⟨nr, rfl, hnr, rfl⟩)
    | succ N ih4 =>
      intro j nr hN4 hnr ls hl H locs hP hD hS
      refine lv_iload_n hx hb dX9_nearestAhead_4 rfl (lv_at hl 2 rfl) ?_
      refine lv_bipush (v := 12) hx hb dX9_nearestAhead_5 (by decide) ?_
      refine lv_icmp_ge (tgt := 58) hx hb dX9_nearestAhead_7 (by decide) (fun c_3 => absurd c_3 (nI_ge (a := j) (b := 12) (by omega) (by omega))) (fun c_3 => ?_)
      refine lv_aload_n hx hb dX9_nearestAhead_10 rfl (lv_at hl 0 rfl) ?_
      refine x_get (ref := "NoteHouse$Ways") F hP c90 rfl (fun _ h => List.mem_cons_of_mem _ (List.mem_append_right _ (h))) 3 (Nat.le_of_ble_eq_true rfl) (List.mem_cons_of_mem _ (List.mem_append_left _ (List.mem_of_getElem? (i := 0) rfl))) rfl rfl dX9_nearestAhead_11 ?_
      refine lv_iload_n hx hb dX9_nearestAhead_14 rfl (lv_at hl 2 rfl) ?_
      refine x_zald F hP c92 (vp_in_nI (n := j) (N := 12) (by omega) (by decide)) dX9_nearestAhead_15 ?_
      refine lv_if_ne (tgt := 52) hx hb dX9_nearestAhead_16 (by decide) (fun c_4 => ?_) (fun c_4 => ?_)
      · refine lv_iinc (v := nI (j + 1)) (lv' := [(2, .int (nI (j + 1))), (0, .ref y), (1, .int nr)]) hx hb dX9_nearestAhead_52 hl (k := 2) rfl (nI_1 j) (by decide) rfl (fun ls hl => ?_)
        refine lv_goto (tgt := 4) hx hb dX9_nearestAhead_55 (by decide) ?_
        exact ih4 (j + 1) nr  (by omega) hnr   ls (lv_sub hl [1, 2, 0] rfl) H locs hP hD hS
      · refine lv_aload_n hx hb dX9_nearestAhead_19 rfl (lv_at hl 0 rfl) ?_
        refine x_get (ref := "NoteHouse$Ways") F hP c90 rfl (fun _ h => List.mem_cons_of_mem _ (List.mem_append_right _ (h))) 2 (Nat.le_of_ble_eq_true rfl) (List.mem_cons_of_mem _ (List.mem_append_left _ (List.mem_of_getElem? (i := 1) rfl))) rfl rfl dX9_nearestAhead_20 ?_
        refine lv_iload_n hx hb dX9_nearestAhead_23 rfl (lv_at hl 2 rfl) ?_
        refine x_iald F hP c91 (vp_in_nI (n := j) (N := 12) (by omega) (by decide)) dX9_nearestAhead_24 ?_
        refine lv_ldc (v := 1000000) hx hb hown (hts _ (List.mem_cons_of_mem _ (List.mem_append_left _ (List.mem_of_getElem? (i := 2) rfl)))) dX9_nearestAhead_25 ?_
        refine lv_icmp_ge (tgt := 52) hx hb dX9_nearestAhead_27 (by decide) (fun c_5 => ?_) (fun c_5 => ?_)
        · refine lv_iinc (v := nI (j + 1)) (lv' := [(2, .int (nI (j + 1))), (0, .ref y), (1, .int nr)]) hx hb dX9_nearestAhead_52 hl (k := 2) rfl (nI_1 j) (by decide) rfl (fun ls hl => ?_)
          refine lv_goto (tgt := 4) hx hb dX9_nearestAhead_55 (by decide) ?_
          exact ih4 (j + 1) nr  (by omega) hnr   ls (lv_sub hl [1, 2, 0] rfl) H locs hP hD hS
        · refine lv_iload_n hx hb dX9_nearestAhead_30 rfl (lv_at hl 1 rfl) ?_
          refine lv_iconst (v := (-1)) hx hb dX9_nearestAhead_31 (by decide) ?_
          refine lv_icmp_eq (tgt := 50) hx hb dX9_nearestAhead_32 (by decide) (fun c_6 => ?_) (fun c_6 => ?_)
          · refine lv_iload_n hx hb dX9_nearestAhead_50 rfl (lv_at hl 2 rfl) ?_
            refine lv_istore_n (lv' := [(1, .int (nI j)), (0, .ref y), (2, .int (nI j))]) hx hb dX9_nearestAhead_51 rfl hl (by decide) rfl (fun ls hl => ?_)
            refine lv_iinc (v := nI (j + 1)) (lv' := [(2, .int (nI (j + 1))), (1, .int (nI j)), (0, .ref y)]) hx hb dX9_nearestAhead_52 hl (k := 2) rfl (nI_1 j) (by decide) rfl (fun ls hl => ?_)
            refine lv_goto (tgt := 4) hx hb dX9_nearestAhead_55 (by decide) ?_
            exact ih4 (j + 1) (nI j)  (by omega) (Or.inr ⟨j, by omega, rfl⟩)   ls (lv_sub hl [2, 1, 0] rfl) H locs hP hD hS
          · obtain ⟨k9, hk9, ek9⟩ := hnr.resolve_left c_6
            refine lv_aload_n hx hb dX9_nearestAhead_35 rfl (lv_at hl 0 rfl) ?_
            refine x_get (ref := "NoteHouse$Ways") F hP c90 rfl (fun _ h => List.mem_cons_of_mem _ (List.mem_append_right _ (h))) 2 (Nat.le_of_ble_eq_true rfl) (List.mem_cons_of_mem _ (List.mem_append_left _ (List.mem_of_getElem? (i := 1) rfl))) rfl rfl dX9_nearestAhead_36 ?_
            refine lv_iload_n hx hb dX9_nearestAhead_39 rfl (lv_at hl 2 rfl) ?_
            refine x_iald F hP c91 (vp_in_nI (n := j) (N := 12) (by omega) (by decide)) dX9_nearestAhead_40 ?_
            refine lv_aload_n hx hb dX9_nearestAhead_41 rfl (lv_at hl 0 rfl) ?_
            refine x_get (ref := "NoteHouse$Ways") F hP c90 rfl (fun _ h => List.mem_cons_of_mem _ (List.mem_append_right _ (h))) 2 (Nat.le_of_ble_eq_true rfl) (List.mem_cons_of_mem _ (List.mem_append_left _ (List.mem_of_getElem? (i := 1) rfl))) rfl rfl dX9_nearestAhead_42 ?_
            refine lv_iload_n hx hb dX9_nearestAhead_45 rfl (lv_at hl 1 rfl) ?_
            refine x_iald F hP c91 (by rw [ek9]; exact vp_in_nI hk9 (by decide)) dX9_nearestAhead_46 ?_
            refine lv_icmp_ge (tgt := 52) hx hb dX9_nearestAhead_47 (by decide) (fun c_7 => ?_) (fun c_7 => ?_)
            · refine lv_iinc (v := nI (j + 1)) (lv' := [(2, .int (nI (j + 1))), (0, .ref y), (1, .int nr)]) hx hb dX9_nearestAhead_52 hl (k := 2) rfl (nI_1 j) (by decide) rfl (fun ls hl => ?_)
              refine lv_goto (tgt := 4) hx hb dX9_nearestAhead_55 (by decide) ?_
              exact ih4 (j + 1) nr  (by omega) hnr   ls (lv_sub hl [1, 2, 0] rfl) H locs hP hD hS
            · refine lv_iload_n hx hb dX9_nearestAhead_50 rfl (lv_at hl 2 rfl) ?_
              refine lv_istore_n (lv' := [(1, .int (nI j)), (0, .ref y), (2, .int (nI j))]) hx hb dX9_nearestAhead_51 rfl hl (by decide) rfl (fun ls hl => ?_)
              refine lv_iinc (v := nI (j + 1)) (lv' := [(2, .int (nI (j + 1))), (1, .int (nI j)), (0, .ref y)]) hx hb dX9_nearestAhead_52 hl (k := 2) rfl (nI_1 j) (by decide) rfl (fun ls hl => ?_)
              refine lv_goto (tgt := 4) hx hb dX9_nearestAhead_55 (by decide) ?_
              exact ih4 (j + 1) (nI j)  (by omega) (Or.inr ⟨j, by omega, rfl⟩)   ls (lv_sub hl [2, 1, 0] rfl) H locs hP hD hS
  exact lp4 _ 0 (-1)  (Nat.zero_add 12) (Or.inl rfl)   ls (lv_sub hl [2, 1, 0] rfl) H locs hP hD hS
set_option maxHeartbeats 4000000 in
set_option maxRecDepth 100000 in
theorem g_quickest (l : Launch) (D : va_G) (cy : Nat → ClassId) (sk sv : Nat → Nat) (w : Wd) (y b0 b1 b2 b3 : Nat) (fr u : Int32) (f0 f1 f2 f3 : Nat → Int32) (c90 : wd_at w y (.inr (9, [.ref b0, .ref b1, .ref b2, .ref b3]))) (c91 : wd_at w b0 (.inl (cy 2, 144, .inl f0))) (c92 : wd_at w b1 (.inl (cy 2, 144, .inl f1))) (c93 : wd_at w b2 (.inl (cy 2, 12, .inl f2))) (c94 : wd_at w b3 (.inl (cy 4, 12, .inl f3)))  (S : Nat → Prop) (s90 : S b2) (s91 : S b3) (nb2b3 : b2 ≠ b3) : Ct l D cy sk sv yX9_quickest wsX9_quickest ({ frames := 2, cells := 0, slots := 0, locals := 39 }) [.ref y, .int fr, .int u] w (fun v w1 => ∃ (d1 : Nat → Int32) (p1 : Nat → Int32), v = some (.ref b2) ∧ wd_kp S w w1 ∧ wd_at w1 b2 (.inl (cy 2, 12, .inl d1)) ∧ wd_at w1 b3 (.inl (cy 4, 12, .inl p1))) := by
  refine Ct.by (cc := cX9_quickest) (maxL := 6) (ret := (some (.array .int))) (by decide +kernel) rfl (Nat.le_of_ble_eq_true rfl) ?_
  intro p e s m args below meth c A Q F hnm K ls hl
  have F : wd_Fx p s m args meth c cX9_quickest 6 wsX9_quickest RX9 D cy sk sv A := F
  have hl : lv_has ls 6 [(0, .ref y), (1, .int fr), (2, .int u)] := hl
  have hx := F.1.1
  have hb := F.1.2.1
  have hown := F.1.2.2.2.1
  have hts := F.1.2.2.2.2
  intro H locs hP hD hS
  have kp0 : wd_kp S w w := wd_kp.rf
  refine lv_iconst (v := 0) hx hb dX9_quickest_0 (by decide) ?_
  refine lv_istore_n (lv' := [(3, .int 0), (0, .ref y), (1, .int fr), (2, .int u)]) hx hb dX9_quickest_1 rfl hl (by decide) rfl (fun ls hl => ?_)
  have lp2 : ∀ (N : Nat) (j : Nat) (d2 : Nat → Int32) (p2 : Nat → Int32) (w1 : Wd), (j + N = 12) → (wd_at w1 y (.inr (9, [.ref b0, .ref b1, .ref b2, .ref b3]))) → (wd_at w1 b0 (.inl (cy 2, 144, .inl f0))) → (wd_at w1 b1 (.inl (cy 2, 144, .inl f1))) → (wd_at w1 b2 (.inl (cy 2, 12, .inl d2))) → (wd_at w1 b3 (.inl (cy 4, 12, .inl p2))) → (wd_kp S w w1) → ∀ (ls : Array Slot), lv_has ls 6 [(0, .ref y), (1, .int fr), (2, .int u), (3, .int (nI j))] → Wv p l e ({ frames := 2, cells := 0, slots := 0, locals := 39 }) s m args below meth c D A (0) (0) Q w1 (F0 m 2 ls []) := by
    intro N
    induction N with
    | zero =>
      intro j d2 p2 w1 hN2 k2 k3 k4 k5 k6 kp7 ls hl H locs hP hD hS
      refine lv_iload_n hx hb dX9_quickest_2 rfl (lv_at hl 3 rfl) ?_
      refine lv_bipush (v := 12) hx hb dX9_quickest_3 (by decide) ?_
      refine lv_icmp_ge (tgt := 38) hx hb dX9_quickest_5 (by decide) (fun c_8 => ?_) (fun c_8 => absurd (nI_le (a := 12) (b := j) (by omega) (by omega)) c_8)
      refine lv_iconst (v := 0) hx hb dX9_quickest_38 (by decide) ?_
      refine lv_istore_n (lv' := [(3, .int 0), (0, .ref y), (1, .int fr), (2, .int u)]) hx hb dX9_quickest_39 rfl hl (by decide) rfl (fun ls hl => ?_)
      have lp40 : ∀ (N : Nat) (k : Nat) (d3 : Nat → Int32) (p3 : Nat → Int32) (w9 : Wd), (k + N = 12) → (wd_at w9 y (.inr (9, [.ref b0, .ref b1, .ref b2, .ref b3]))) → (wd_at w9 b0 (.inl (cy 2, 144, .inl f0))) → (wd_at w9 b1 (.inl (cy 2, 144, .inl f1))) → (wd_at w9 b2 (.inl (cy 2, 12, .inl d3))) → (wd_at w9 b3 (.inl (cy 4, 12, .inl p3))) → (wd_kp S w w9) → ∀ (ls : Array Slot), lv_has ls 6 [(0, .ref y), (1, .int fr), (2, .int u), (3, .int (nI k))] → Wv p l e ({ frames := 2, cells := 0, slots := 0, locals := 39 }) s m args below meth c D A (0) (0) Q w9 (F0 m 40 ls []) := by
        intro N
        induction N with
        | zero =>
          intro k d3 p3 w9 hN40 k10 k11 k12 k13 k14 kp15 ls hl H locs hP hD hS
          refine lv_iload_n hx hb dX9_quickest_40 rfl (lv_at hl 3 rfl) ?_
          refine lv_bipush (v := 12) hx hb dX9_quickest_41 (by decide) ?_
          refine lv_icmp_ge (tgt := 127) hx hb dX9_quickest_43 (by decide) (fun c_16 => ?_) (fun c_16 => absurd (nI_le (a := 12) (b := k) (by omega) (by omega)) c_16)
          refine lv_aload_n hx hb dX9_quickest_127 rfl (lv_at hl 0 rfl) ?_
          refine x_get (ref := "NoteHouse$Ways") F hP k10 rfl (fun _ h => List.mem_cons_of_mem _ (List.mem_append_right _ (h))) 2 (Nat.le_of_ble_eq_true rfl) (List.mem_cons_of_mem _ (List.mem_append_left _ (List.mem_of_getElem? (i := 0) rfl))) rfl rfl dX9_quickest_128 ?_
          exact y_ar K hP hD hS (Nat.le_of_ble_eq_true rfl) (Nat.le_of_ble_eq_true rfl) rfl (Or.inr ⟨_, rfl⟩) (Or.inr ⟨_, rfl⟩) dX9_quickest_131 (⟨d3, p3, rfl, kp15, k13, k14⟩)
        | succ N ih40 =>
          intro k d3 p3 w9 hN40 k10 k11 k12 k13 k14 kp15 ls hl H locs hP hD hS
          refine lv_iload_n hx hb dX9_quickest_40 rfl (lv_at hl 3 rfl) ?_
          refine lv_bipush (v := 12) hx hb dX9_quickest_41 (by decide) ?_
          refine lv_icmp_ge (tgt := 127) hx hb dX9_quickest_43 (by decide) (fun c_17 => absurd c_17 (nI_ge (a := k) (b := 12) (by omega) (by omega))) (fun c_17 => ?_)
          refine lv_aload_n hx hb dX9_quickest_46 rfl (lv_at hl 0 rfl) ?_
          refine x_callV (n := 0) (As := []) (rest := []) F hP hD hS (g_nearestAhead l D cy sk sv w9 y b0 b1 b2 b3 d3 p3 k10 k13 k14) gX9_quickest_X9_nearestAhead rfl rfl (by decide +kernel) ⟨(Nat.le_of_ble_eq_true rfl), (Nat.le_of_ble_eq_true rfl)⟩ rfl hl.1 (Nat.le_of_ble_eq_true rfl) k10 rfl dX9_quickest_47 rfl ⟨(Nat.le_of_ble_eq_true rfl), (Nat.le_of_ble_eq_true rfl)⟩ (fun v19 w20 hp18 H locs hP hD hS => ?_)
          obtain ⟨rx21, rfl, hz22, rfl⟩ := hp18
          refine W.eq (g2 := F0 m 50 ls [.int rx21]) rfl (W.widen (k := 0) (n := 0) (Nat.le_of_ble_eq_true rfl) (Nat.le_of_ble_eq_true rfl) ?_)
          refine lv_istore (lv' := [(4, .int rx21), (0, .ref y), (1, .int fr), (2, .int u), (3, .int (nI k))]) hx hb dX9_quickest_50 hl (by decide) rfl (fun ls hl => ?_)
          refine lv_iload hx hb dX9_quickest_52 (lv_at hl 0 rfl) ?_
          refine lv_iconst (v := (-1)) hx hb dX9_quickest_54 (by decide) ?_
          refine lv_icmp_ne (tgt := 63) hx hb dX9_quickest_55 (by decide) (fun c_23 => ?_) (fun c_23 => ?_)
          · obtain ⟨k9, hk9, ek9⟩ := (hz22).resolve_left c_23
            subst ek9
            refine lv_aload_n hx hb dX9_quickest_63 rfl (lv_at hl 1 rfl) ?_
            refine x_get (ref := "NoteHouse$Ways") F hP k10 rfl (fun _ h => List.mem_cons_of_mem _ (List.mem_append_right _ (h))) 3 (Nat.le_of_ble_eq_true rfl) (List.mem_cons_of_mem _ (List.mem_append_left _ (List.mem_of_getElem? (i := 2) rfl))) rfl rfl dX9_quickest_64 ?_
            refine lv_iload hx hb dX9_quickest_67 (lv_at hl 0 rfl) ?_
            refine lv_iconst (v := 1) hx hb dX9_quickest_69 (by decide) ?_
            refine y_zast F hP hD hS k14 (vp_in_nI (n := k9) (N := 12) (by omega) (by decide)) dX9_quickest_70 (fun w24 ew25 H locs hP hD hS => ?_)
            have k26 := wd_at.pt ew25 k10 (wd_nk k10 k14 rfl)
            have k27 := wd_at.pt ew25 k11 (wd_nk k11 k14 rfl)
            have k28 := wd_at.pt ew25 k12 (wd_nk k12 k14 rfl)
            have k29 := wd_at.pt ew25 k13 nb2b3
            have k30 : wd_at w24 b3 (.inl (cy 4, 12, .inl (upd p3 (nI k9).toNatClampNeg (vp_nar .boolean 1)))) := wd_at.ps ew25 k14
            have kp31 := kp15.put ew25 s91
            refine lv_iconst (v := 0) hx hb dX9_quickest_71 (by decide) ?_
            refine lv_istore (lv' := [(5, .int 0), (4, .int (nI k9)), (0, .ref y), (1, .int fr), (2, .int u), (3, .int (nI k))]) hx hb dX9_quickest_72 hl (by decide) rfl (fun ls hl => ?_)
            have lp74 : ∀ (N : Nat) (j2 : Nat) (d4 : Nat → Int32) (w32 : Wd), (j2 + N = 12) → (wd_at w32 y (.inr (9, [.ref b0, .ref b1, .ref b2, .ref b3]))) → (wd_at w32 b0 (.inl (cy 2, 144, .inl f0))) → (wd_at w32 b1 (.inl (cy 2, 144, .inl f1))) → (wd_at w32 b2 (.inl (cy 2, 12, .inl d4))) → (wd_at w32 b3 (.inl (cy 4, 12, .inl (upd p3 (nI k9).toNatClampNeg (vp_nar .boolean 1))))) → (wd_kp S w w32) → ∀ (ls : Array Slot), lv_has ls 6 [(0, .ref y), (1, .int fr), (2, .int u), (3, .int (nI k)), (4, .int (nI k9)), (5, .int (nI j2))] → Wv p l e ({ frames := 2, cells := 0, slots := 0, locals := 39 }) s m args below meth c D A (0) (0) Q w32 (F0 m 74 ls []) := by
              intro N
              induction N with
              | zero =>
                intro j2 d4 w32 hN74 k33 k34 k35 k36 k37 kp38 ls hl H locs hP hD hS
                refine lv_iload hx hb dX9_quickest_74 (lv_at hl 5 rfl) ?_
                refine lv_bipush (v := 12) hx hb dX9_quickest_76 (by decide) ?_
                refine lv_icmp_ge (tgt := 121) hx hb dX9_quickest_78 (by decide) (fun c_39 => ?_) (fun c_39 => absurd (nI_le (a := 12) (b := j2) (by omega) (by omega)) c_39)
                refine lv_iinc (v := nI (k + 1)) (lv' := [(3, .int (nI (k + 1))), (0, .ref y), (1, .int fr), (2, .int u), (4, .int (nI k9)), (5, .int (nI j2))]) hx hb dX9_quickest_121 hl (k := 3) rfl (nI_1 k) (by decide) rfl (fun ls hl => ?_)
                refine lv_goto (tgt := 40) hx hb dX9_quickest_124 (by decide) ?_
                exact ih40 (k + 1) d4 (upd p3 (nI k9).toNatClampNeg (vp_nar .boolean 1)) w32 (by omega)  k33 k34 k35 k36 k37 kp38 ls (lv_sub hl [1, 2, 3, 0] rfl) H locs hP hD hS
              | succ N ih74 =>
                intro j2 d4 w32 hN74 k33 k34 k35 k36 k37 kp38 ls hl H locs hP hD hS
                refine lv_iload hx hb dX9_quickest_74 (lv_at hl 5 rfl) ?_
                refine lv_bipush (v := 12) hx hb dX9_quickest_76 (by decide) ?_
                refine lv_icmp_ge (tgt := 121) hx hb dX9_quickest_78 (by decide) (fun c_40 => absurd c_40 (nI_ge (a := j2) (b := 12) (by omega) (by omega))) (fun c_40 => ?_)
                refine lv_aload_n hx hb dX9_quickest_81 rfl (lv_at hl 0 rfl) ?_
                refine x_get (ref := "NoteHouse$Ways") F hP k33 rfl (fun _ h => List.mem_cons_of_mem _ (List.mem_append_right _ (h))) 2 (Nat.le_of_ble_eq_true rfl) (List.mem_cons_of_mem _ (List.mem_append_left _ (List.mem_of_getElem? (i := 0) rfl))) rfl rfl dX9_quickest_82 ?_
                refine lv_iload hx hb dX9_quickest_85 (lv_at hl 5 rfl) ?_
                refine lv_aload_n hx hb dX9_quickest_87 rfl (lv_at hl 0 rfl) ?_
                refine x_get (ref := "NoteHouse$Ways") F hP k33 rfl (fun _ h => List.mem_cons_of_mem _ (List.mem_append_right _ (h))) 2 (Nat.le_of_ble_eq_true rfl) (List.mem_cons_of_mem _ (List.mem_append_left _ (List.mem_of_getElem? (i := 0) rfl))) rfl rfl dX9_quickest_88 ?_
                refine lv_iload hx hb dX9_quickest_91 (lv_at hl 5 rfl) ?_
                refine x_iald F hP k36 (vp_in_nI (n := j2) (N := 12) (by omega) (by decide)) dX9_quickest_93 ?_
                refine lv_aload_n hx hb dX9_quickest_94 rfl (lv_at hl 0 rfl) ?_
                refine x_get (ref := "NoteHouse$Ways") F hP k33 rfl (fun _ h => List.mem_cons_of_mem _ (List.mem_append_right _ (h))) 2 (Nat.le_of_ble_eq_true rfl) (List.mem_cons_of_mem _ (List.mem_append_left _ (List.mem_of_getElem? (i := 0) rfl))) rfl rfl dX9_quickest_95 ?_
                refine lv_iload hx hb dX9_quickest_98 (lv_at hl 4 rfl) ?_
                refine x_iald F hP k36 (vp_in_nI (n := k9) (N := 12) (by omega) (by decide)) dX9_quickest_100 ?_
                refine lv_aload_n hx hb dX9_quickest_101 rfl (lv_at hl 0 rfl) ?_
                refine lv_iload hx hb dX9_quickest_102 (lv_at hl 4 rfl) ?_
                refine lv_iload hx hb dX9_quickest_104 (lv_at hl 5 rfl) ?_
                refine lv_iload_n hx hb dX9_quickest_106 rfl (lv_at hl 2 rfl) ?_
                refine x_callV (n := 3) (As := [.int (nI k9), .int (nI j2), .int u]) (rest := [.int (d4 (nI k9).toNatClampNeg), .int (d4 (nI j2).toNatClampNeg), .int (nI j2), .ref b2]) F hP hD hS (g_step l D cy sk sv w32 y b0 b1 b2 b3 k9 j2 u f0 f1 k33 k34 k35 (by omega) (by omega)) gX9_quickest_X9_step rfl rfl (by decide +kernel) ⟨(Nat.le_of_ble_eq_true rfl), (Nat.le_of_ble_eq_true rfl)⟩ rfl hl.1 (Nat.le_of_ble_eq_true rfl) k33 rfl dX9_quickest_107 rfl ⟨(Nat.le_of_ble_eq_true rfl), (Nat.le_of_ble_eq_true rfl)⟩ (fun v42 w43 hp41 H locs hP hD hS => ?_)
                obtain ⟨rx44, rfl, rfl⟩ := hp41
                refine W.eq (g2 := F0 m 110 ls [.int rx44, .int (d4 (nI k9).toNatClampNeg), .int (d4 (nI j2).toNatClampNeg), .int (nI j2), .ref b2]) rfl (W.widen (k := 0) (n := 0) (Nat.le_of_ble_eq_true rfl) (Nat.le_of_ble_eq_true rfl) ?_)
                refine lv_iadd hx hb dX9_quickest_110 ?_
                refine va_mmin hx hb (F.1.2.2.1.trans hl.1.symm) hown (hts _ (List.mem_cons_of_mem _ (List.mem_append_left _ (List.mem_of_getElem? (i := 3) rfl)))) (hts _ (List.mem_cons_of_mem _ (List.mem_append_left _ (List.mem_of_getElem? (i := 4) rfl)))) (hts _ (List.mem_cons_of_mem _ (List.mem_append_left _ (List.mem_of_getElem? (i := 5) rfl)))) (hts _ (List.mem_cons_of_mem _ (List.mem_append_left _ (List.mem_of_getElem? (i := 6) rfl)))) (Nat.le_of_ble_eq_true rfl) (Nat.le_of_ble_eq_true rfl) (Nat.le_of_ble_eq_true rfl) (Nat.le_of_ble_eq_true rfl) dX9_quickest_111 ?_
                refine y_iast F hP hD hS k36 (vp_in_nI (n := j2) (N := 12) (by omega) (by decide)) dX9_quickest_114 (fun w45 ew46 H locs hP hD hS => ?_)
                have k47 := wd_at.pt ew46 k33 (wd_nk k33 k36 rfl)
                have k48 := wd_at.pt ew46 k34 (wd_nk k34 k36 rfl)
                have k49 := wd_at.pt ew46 k35 (wd_nk k35 k36 rfl)
                have k50 : wd_at w45 b2 (.inl (cy 2, 12, .inl (upd d4 (nI j2).toNatClampNeg (if (d4 (nI k9).toNatClampNeg) + rx44 < d4 (nI j2).toNatClampNeg then (d4 (nI k9).toNatClampNeg) + rx44 else d4 (nI j2).toNatClampNeg)))) := wd_at.ps ew46 k36
                have k51 := wd_at.pt ew46 k37 (Ne.symm nb2b3)
                have kp52 := kp38.put ew46 s90
                refine lv_iinc (v := nI (j2 + 1)) (lv' := [(5, .int (nI (j2 + 1))), (0, .ref y), (1, .int fr), (2, .int u), (3, .int (nI k)), (4, .int (nI k9))]) hx hb dX9_quickest_115 hl (k := 5) rfl (nI_1 j2) (by decide) rfl (fun ls hl => ?_)
                refine lv_goto (tgt := 74) hx hb dX9_quickest_118 (by decide) ?_
                exact ih74 (j2 + 1) (upd d4 (nI j2).toNatClampNeg (if (d4 (nI k9).toNatClampNeg) + rx44 < d4 (nI j2).toNatClampNeg then (d4 (nI k9).toNatClampNeg) + rx44 else d4 (nI j2).toNatClampNeg)) w45 (by omega)  k47 k48 k49 k50 k51 kp52 ls (lv_sub hl [1, 2, 3, 4, 5, 0] rfl) H locs hP hD hS
            exact lp74 _ 0 d3 w24 (Nat.zero_add 12)  k26 k27 k28 k29 k30 kp31 ls (lv_sub hl [2, 3, 4, 5, 1, 0] rfl) H locs hP hD hS
          · refine lv_aload_n hx hb dX9_quickest_58 rfl (lv_at hl 1 rfl) ?_
            refine x_get (ref := "NoteHouse$Ways") F hP k10 rfl (fun _ h => List.mem_cons_of_mem _ (List.mem_append_right _ (h))) 2 (Nat.le_of_ble_eq_true rfl) (List.mem_cons_of_mem _ (List.mem_append_left _ (List.mem_of_getElem? (i := 0) rfl))) rfl rfl dX9_quickest_59 ?_
            exact y_ar K hP hD hS (Nat.le_of_ble_eq_true rfl) (Nat.le_of_ble_eq_true rfl) rfl (Or.inr ⟨_, rfl⟩) (Or.inr ⟨_, rfl⟩) dX9_quickest_62 (⟨d3, p3, rfl, kp15, k13, k14⟩)
      exact lp40 _ 0 d2 p2 w1 (Nat.zero_add 12)  k2 k3 k4 k5 k6 kp7 ls (lv_sub hl [1, 2, 3, 0] rfl) H locs hP hD hS
    | succ N ih2 =>
      intro j d2 p2 w1 hN2 k2 k3 k4 k5 k6 kp7 ls hl H locs hP hD hS
      refine lv_iload_n hx hb dX9_quickest_2 rfl (lv_at hl 3 rfl) ?_
      refine lv_bipush (v := 12) hx hb dX9_quickest_3 (by decide) ?_
      refine lv_icmp_ge (tgt := 38) hx hb dX9_quickest_5 (by decide) (fun c_53 => absurd c_53 (nI_ge (a := j) (b := 12) (by omega) (by omega))) (fun c_53 => ?_)
      refine lv_aload_n hx hb dX9_quickest_8 rfl (lv_at hl 0 rfl) ?_
      refine x_get (ref := "NoteHouse$Ways") F hP k2 rfl (fun _ h => List.mem_cons_of_mem _ (List.mem_append_right _ (h))) 2 (Nat.le_of_ble_eq_true rfl) (List.mem_cons_of_mem _ (List.mem_append_left _ (List.mem_of_getElem? (i := 0) rfl))) rfl rfl dX9_quickest_9 ?_
      refine lv_iload_n hx hb dX9_quickest_12 rfl (lv_at hl 3 rfl) ?_
      refine lv_iload_n hx hb dX9_quickest_13 rfl (lv_at hl 3 rfl) ?_
      refine lv_iload_n hx hb dX9_quickest_14 rfl (lv_at hl 1 rfl) ?_
      refine lv_icmp_ne (tgt := 22) hx hb dX9_quickest_15 (by decide) (fun c_54 => ?_) (fun c_54 => ?_)
      · refine lv_ldc (v := 1000000) hx hb hown (hts _ (List.mem_cons_of_mem _ (List.mem_append_left _ (List.mem_of_getElem? (i := 1) rfl)))) dX9_quickest_22 ?_
        refine y_iast F hP hD hS k5 (vp_in_nI (n := j) (N := 12) (by omega) (by decide)) dX9_quickest_24 (fun w55 ew56 H locs hP hD hS => ?_)
        have k57 := wd_at.pt ew56 k2 (wd_nk k2 k5 rfl)
        have k58 := wd_at.pt ew56 k3 (wd_nk k3 k5 rfl)
        have k59 := wd_at.pt ew56 k4 (wd_nk k4 k5 rfl)
        have k60 : wd_at w55 b2 (.inl (cy 2, 12, .inl (upd d2 (nI j).toNatClampNeg 1000000))) := wd_at.ps ew56 k5
        have k61 := wd_at.pt ew56 k6 (Ne.symm nb2b3)
        have kp62 := kp7.put ew56 s90
        refine lv_aload_n hx hb dX9_quickest_25 rfl (lv_at hl 0 rfl) ?_
        refine x_get (ref := "NoteHouse$Ways") F hP k57 rfl (fun _ h => List.mem_cons_of_mem _ (List.mem_append_right _ (h))) 3 (Nat.le_of_ble_eq_true rfl) (List.mem_cons_of_mem _ (List.mem_append_left _ (List.mem_of_getElem? (i := 2) rfl))) rfl rfl dX9_quickest_26 ?_
        refine lv_iload_n hx hb dX9_quickest_29 rfl (lv_at hl 3 rfl) ?_
        refine lv_iconst (v := 0) hx hb dX9_quickest_30 (by decide) ?_
        refine y_zast F hP hD hS k61 (vp_in_nI (n := j) (N := 12) (by omega) (by decide)) dX9_quickest_31 (fun w63 ew64 H locs hP hD hS => ?_)
        have k65 := wd_at.pt ew64 k57 (wd_nk k57 k61 rfl)
        have k66 := wd_at.pt ew64 k58 (wd_nk k58 k61 rfl)
        have k67 := wd_at.pt ew64 k59 (wd_nk k59 k61 rfl)
        have k68 := wd_at.pt ew64 k60 nb2b3
        have k69 : wd_at w63 b3 (.inl (cy 4, 12, .inl (upd p2 (nI j).toNatClampNeg (vp_nar .boolean 0)))) := wd_at.ps ew64 k61
        have kp70 := kp62.put ew64 s91
        refine lv_iinc (v := nI (j + 1)) (lv' := [(3, .int (nI (j + 1))), (0, .ref y), (1, .int fr), (2, .int u)]) hx hb dX9_quickest_32 hl (k := 3) rfl (nI_1 j) (by decide) rfl (fun ls hl => ?_)
        refine lv_goto (tgt := 2) hx hb dX9_quickest_35 (by decide) ?_
        exact ih2 (j + 1) (upd d2 (nI j).toNatClampNeg 1000000) (upd p2 (nI j).toNatClampNeg (vp_nar .boolean 0)) w63 (by omega)  k65 k66 k67 k68 k69 kp70 ls (lv_sub hl [1, 2, 3, 0] rfl) H locs hP hD hS
      · refine lv_iconst (v := 0) hx hb dX9_quickest_18 (by decide) ?_
        refine lv_goto (tgt := 24) hx hb dX9_quickest_19 (by decide) ?_
        refine y_iast F hP hD hS k5 (vp_in_nI (n := j) (N := 12) (by omega) (by decide)) dX9_quickest_24 (fun w71 ew72 H locs hP hD hS => ?_)
        have k73 := wd_at.pt ew72 k2 (wd_nk k2 k5 rfl)
        have k74 := wd_at.pt ew72 k3 (wd_nk k3 k5 rfl)
        have k75 := wd_at.pt ew72 k4 (wd_nk k4 k5 rfl)
        have k76 : wd_at w71 b2 (.inl (cy 2, 12, .inl (upd d2 (nI j).toNatClampNeg 0))) := wd_at.ps ew72 k5
        have k77 := wd_at.pt ew72 k6 (Ne.symm nb2b3)
        have kp78 := kp7.put ew72 s90
        refine lv_aload_n hx hb dX9_quickest_25 rfl (lv_at hl 0 rfl) ?_
        refine x_get (ref := "NoteHouse$Ways") F hP k73 rfl (fun _ h => List.mem_cons_of_mem _ (List.mem_append_right _ (h))) 3 (Nat.le_of_ble_eq_true rfl) (List.mem_cons_of_mem _ (List.mem_append_left _ (List.mem_of_getElem? (i := 2) rfl))) rfl rfl dX9_quickest_26 ?_
        refine lv_iload_n hx hb dX9_quickest_29 rfl (lv_at hl 3 rfl) ?_
        refine lv_iconst (v := 0) hx hb dX9_quickest_30 (by decide) ?_
        refine y_zast F hP hD hS k77 (vp_in_nI (n := j) (N := 12) (by omega) (by decide)) dX9_quickest_31 (fun w79 ew80 H locs hP hD hS => ?_)
        have k81 := wd_at.pt ew80 k73 (wd_nk k73 k77 rfl)
        have k82 := wd_at.pt ew80 k74 (wd_nk k74 k77 rfl)
        have k83 := wd_at.pt ew80 k75 (wd_nk k75 k77 rfl)
        have k84 := wd_at.pt ew80 k76 nb2b3
        have k85 : wd_at w79 b3 (.inl (cy 4, 12, .inl (upd p2 (nI j).toNatClampNeg (vp_nar .boolean 0)))) := wd_at.ps ew80 k77
        have kp86 := kp78.put ew80 s91
        refine lv_iinc (v := nI (j + 1)) (lv' := [(3, .int (nI (j + 1))), (0, .ref y), (1, .int fr), (2, .int u)]) hx hb dX9_quickest_32 hl (k := 3) rfl (nI_1 j) (by decide) rfl (fun ls hl => ?_)
        refine lv_goto (tgt := 2) hx hb dX9_quickest_35 (by decide) ?_
        exact ih2 (j + 1) (upd d2 (nI j).toNatClampNeg 0) (upd p2 (nI j).toNatClampNeg (vp_nar .boolean 0)) w79 (by omega)  k81 k82 k83 k84 k85 kp86 ls (lv_sub hl [1, 2, 3, 0] rfl) H locs hP hD hS
  exact lp2 _ 0 f2 f3 w (Nat.zero_add 12)  c90 c91 c92 c93 c94 kp0 ls (lv_sub hl [1, 2, 3, 0] rfl) H locs hP hD hS
set_option maxHeartbeats 4000000 in
set_option maxRecDepth 100000 in
theorem g_letterDays (l : Launch) (D : va_G) (cy : Nat → ClassId) (sk sv : Nat → Nat) (w : Wd) (y b0 b1 b2 b3 : Nat) (fr : Int32) (f0 f1 f2 f3 : Nat → Int32) (c90 : wd_at w y (.inr (9, [.ref b0, .ref b1, .ref b2, .ref b3]))) (c91 : wd_at w b0 (.inl (cy 2, 144, .inl f0))) (c92 : wd_at w b1 (.inl (cy 2, 144, .inl f1))) (c93 : wd_at w b2 (.inl (cy 2, 12, .inl f2))) (c94 : wd_at w b3 (.inl (cy 4, 12, .inl f3)))  (S : Nat → Prop) (s90 : S b2) (s91 : S b3) (nb2b3 : b2 ≠ b3) : Ct l D cy sk sv yX9_letterDays wsX9_letterDays ({ frames := 3, cells := 0, slots := 0, locals := 64 }) [.ref y, .int fr] w (fun v w1 => ∃ (d1 : Nat → Int32) (p1 : Nat → Int32), v = some (.ref b2) ∧ wd_kp S w w1 ∧ wd_at w1 b2 (.inl (cy 2, 12, .inl d1)) ∧ wd_at w1 b3 (.inl (cy 4, 12, .inl p1))) := by
  refine Ct.by (cc := cX9_letterDays) (maxL := 2) (ret := (some (.array .int))) (by decide +kernel) rfl (Nat.le_of_ble_eq_true rfl) ?_
  intro p e s m args below meth c A Q F hnm K ls hl
  have F : wd_Fx p s m args meth c cX9_letterDays 2 wsX9_letterDays RX9 D cy sk sv A := F
  have hl : lv_has ls 2 [(0, .ref y), (1, .int fr)] := hl
  have hx := F.1.1
  have hb := F.1.2.1
  have hown := F.1.2.2.2.1
  have hts := F.1.2.2.2.2
  intro H locs hP hD hS
  have kp0 : wd_kp S w w := wd_kp.rf
  refine lv_aload_n hx hb dX9_letterDays_0 rfl (lv_at hl 0 rfl) ?_
  refine lv_iload_n hx hb dX9_letterDays_1 rfl (lv_at hl 1 rfl) ?_
  refine lv_iconst (v := 0) hx hb dX9_letterDays_2 (by decide) ?_
  refine x_callV (n := 2) (As := [.int fr, .int 0]) (rest := []) F hP hD hS (g_quickest l D cy sk sv w y b0 b1 b2 b3 fr 0 f0 f1 f2 f3 c90 c91 c92 c93 c94 (fun b => b = b2 ∨ b = b3) (Or.inl rfl) (Or.inr rfl) nb2b3) gX9_letterDays_X9_quickest rfl rfl (by decide +kernel) ⟨(Nat.le_of_ble_eq_true rfl), (Nat.le_of_ble_eq_true rfl)⟩ rfl hl.1 (Nat.le_of_ble_eq_true rfl) c90 rfl dX9_letterDays_3 rfl ⟨(Nat.le_of_ble_eq_true rfl), (Nat.le_of_ble_eq_true rfl)⟩ (fun v2 w3 hp1 H locs hP hD hS => ?_)
  obtain ⟨dx4, px5, rfl, kq8, k6, k7⟩ := hp1
  have k9 := kq8.2 _ _ c90 (fun q9 => Or.elim q9 (wd_nk c90 c93 rfl) (fun q9 : y = b3 => (wd_nk c90 c94 rfl) q9))
  have k10 := kq8.2 _ _ c91 (fun q9 => Or.elim q9 (wd_nk c91 c93 rfl) (fun q9 : b0 = b3 => (wd_nk c91 c94 rfl) q9))
  have k11 := kq8.2 _ _ c92 (fun q9 => Or.elim q9 (wd_nk c92 c93 rfl) (fun q9 : b1 = b3 => (wd_nk c92 c94 rfl) q9))
  have kp12 := kp0.tr kq8 (fun b9 hm q9 => (fun q9 => Or.elim q9 (fun q9 => q9 ▸ s90) (fun q9 => q9 ▸ s91)) q9)
  refine W.eq (g2 := F0 m 6 ls [.ref b2]) rfl (W.widen (k := 0) (n := 0) (Nat.le_of_ble_eq_true rfl) (Nat.le_of_ble_eq_true rfl) ?_)
  exact y_ar K hP hD hS (Nat.le_of_ble_eq_true rfl) (Nat.le_of_ble_eq_true rfl) rfl (Or.inr ⟨_, rfl⟩) (Or.inr ⟨_, rfl⟩) dX9_letterDays_6 (⟨dx4, px5, rfl, kp12, k6, k7⟩)
set_option maxHeartbeats 4000000 in
set_option maxRecDepth 100000 in
theorem g_newsDays (l : Launch) (D : va_G) (cy : Nat → ClassId) (sk sv : Nat → Nat) (w : Wd) (y b0 b1 b2 b3 : Nat) (fr : Int32) (f0 f1 f2 f3 : Nat → Int32) (c90 : wd_at w y (.inr (9, [.ref b0, .ref b1, .ref b2, .ref b3]))) (c91 : wd_at w b0 (.inl (cy 2, 144, .inl f0))) (c92 : wd_at w b1 (.inl (cy 2, 144, .inl f1))) (c93 : wd_at w b2 (.inl (cy 2, 12, .inl f2))) (c94 : wd_at w b3 (.inl (cy 4, 12, .inl f3)))  (S : Nat → Prop) (s90 : S b2) (s91 : S b3) (nb2b3 : b2 ≠ b3) : Ct l D cy sk sv yX9_newsDays wsX9_newsDays ({ frames := 3, cells := 0, slots := 0, locals := 64 }) [.ref y, .int fr] w (fun v w1 => ∃ (d1 : Nat → Int32) (p1 : Nat → Int32), v = some (.ref b2) ∧ wd_kp S w w1 ∧ wd_at w1 b2 (.inl (cy 2, 12, .inl d1)) ∧ wd_at w1 b3 (.inl (cy 4, 12, .inl p1))) := by
  refine Ct.by (cc := cX9_newsDays) (maxL := 2) (ret := (some (.array .int))) (by decide +kernel) rfl (Nat.le_of_ble_eq_true rfl) ?_
  intro p e s m args below meth c A Q F hnm K ls hl
  have F : wd_Fx p s m args meth c cX9_newsDays 2 wsX9_newsDays RX9 D cy sk sv A := F
  have hl : lv_has ls 2 [(0, .ref y), (1, .int fr)] := hl
  have hx := F.1.1
  have hb := F.1.2.1
  have hown := F.1.2.2.2.1
  have hts := F.1.2.2.2.2
  intro H locs hP hD hS
  have kp0 : wd_kp S w w := wd_kp.rf
  refine lv_aload_n hx hb dX9_newsDays_0 rfl (lv_at hl 0 rfl) ?_
  refine lv_iload_n hx hb dX9_newsDays_1 rfl (lv_at hl 1 rfl) ?_
  refine lv_iconst (v := 1) hx hb dX9_newsDays_2 (by decide) ?_
  refine x_callV (n := 2) (As := [.int fr, .int 1]) (rest := []) F hP hD hS (g_quickest l D cy sk sv w y b0 b1 b2 b3 fr 1 f0 f1 f2 f3 c90 c91 c92 c93 c94 (fun b => b = b2 ∨ b = b3) (Or.inl rfl) (Or.inr rfl) nb2b3) gX9_newsDays_X9_quickest rfl rfl (by decide +kernel) ⟨(Nat.le_of_ble_eq_true rfl), (Nat.le_of_ble_eq_true rfl)⟩ rfl hl.1 (Nat.le_of_ble_eq_true rfl) c90 rfl dX9_newsDays_3 rfl ⟨(Nat.le_of_ble_eq_true rfl), (Nat.le_of_ble_eq_true rfl)⟩ (fun v2 w3 hp1 H locs hP hD hS => ?_)
  obtain ⟨dx4, px5, rfl, kq8, k6, k7⟩ := hp1
  have k9 := kq8.2 _ _ c90 (fun q9 => Or.elim q9 (wd_nk c90 c93 rfl) (fun q9 : y = b3 => (wd_nk c90 c94 rfl) q9))
  have k10 := kq8.2 _ _ c91 (fun q9 => Or.elim q9 (wd_nk c91 c93 rfl) (fun q9 : b0 = b3 => (wd_nk c91 c94 rfl) q9))
  have k11 := kq8.2 _ _ c92 (fun q9 => Or.elim q9 (wd_nk c92 c93 rfl) (fun q9 : b1 = b3 => (wd_nk c92 c94 rfl) q9))
  have kp12 := kp0.tr kq8 (fun b9 hm q9 => (fun q9 => Or.elim q9 (fun q9 => q9 ▸ s90) (fun q9 => q9 ▸ s91)) q9)
  refine W.eq (g2 := F0 m 6 ls [.ref b2]) rfl (W.widen (k := 0) (n := 0) (Nat.le_of_ble_eq_true rfl) (Nat.le_of_ble_eq_true rfl) ?_)
  exact y_ar K hP hD hS (Nat.le_of_ble_eq_true rfl) (Nat.le_of_ble_eq_true rfl) rfl (Or.inr ⟨_, rfl⟩) (Or.inr ⟨_, rfl⟩) dX9_newsDays_6 (⟨dx4, px5, rfl, kp12, k6, k7⟩)
set_option maxHeartbeats 4000000 in
set_option maxRecDepth 100000 in
theorem g_join (l : Launch) (D : va_G) (cy : Nat → ClassId) (sk sv : Nat → Nat) (w : Wd) (y b0 b1 b2 b3 : Nat) (i j : Nat) (u n : Int32) (f g : Nat → Int32) (c90 : wd_at w y (.inr (9, [.ref b0, .ref b1, .ref b2, .ref b3]))) (c91 : wd_at w b0 (.inl (cy 2, 144, .inl f))) (c92 : wd_at w b1 (.inl (cy 2, 144, .inl g)))  (S : Nat → Prop) (s90 : S b0) (s91 : S b1) (hi : i < 12) (hj : j < 12) (nb0b1 : b0 ≠ b1) : Ct l D cy sk sv yX9_join wsX9_join ({ frames := 0, cells := 0, slots := 0, locals := 0 }) [.ref y, .int (nI i), .int (nI j), .int u, .int n] w (fun v w1 => ∃ (f1 : Nat → Int32) (g1 : Nat → Int32), v = none ∧ wd_kp S w w1 ∧ wd_at w1 b0 (.inl (cy 2, 144, .inl f1)) ∧ wd_at w1 b1 (.inl (cy 2, 144, .inl g1))) := by
  refine Ct.by (cc := cX9_join) (maxL := 6) (ret := none) (by decide +kernel) rfl (Nat.le_of_ble_eq_true rfl) ?_
  intro p e s m args below meth c A Q F hnm K ls hl
  have F : wd_Fx p s m args meth c cX9_join 6 wsX9_join RX9 D cy sk sv A := F
  have hl : lv_has ls 6 [(0, .ref y), (1, .int (nI i)), (2, .int (nI j)), (3, .int u), (4, .int n)] := hl
  have hx := F.1.1
  have hb := F.1.2.1
  have hown := F.1.2.2.2.1
  have hts := F.1.2.2.2.2
  intro H locs hP hD hS
  have kp0 : wd_kp S w w := wd_kp.rf
  refine lv_iload_n hx hb dX9_join_0 rfl (lv_at hl 3 rfl) ?_
  refine lv_if_eq (tgt := 11) hx hb dX9_join_1 (by decide) (fun c_1 => ?_) (fun c_1 => ?_)
  · refine lv_aload_n hx hb dX9_join_11 rfl (lv_at hl 0 rfl) ?_
    refine x_get (ref := "NoteHouse$Ways") F hP c90 rfl (fun _ h => List.mem_cons_of_mem _ (List.mem_append_right _ (h))) 0 (Nat.le_of_ble_eq_true rfl) (List.mem_cons_of_mem _ (List.mem_append_left _ (List.mem_of_getElem? (i := 1) rfl))) rfl rfl dX9_join_12 ?_
    refine lv_astore (lv' := [(5, .ref b0), (0, .ref y), (1, .int (nI i)), (2, .int (nI j)), (3, .int u), (4, .int n)]) hx hb dX9_join_15 hl (by decide) rfl (fun ls hl => ?_)
    refine lv_aload hx hb dX9_join_17 (lv_at hl 0 rfl) ?_
    refine lv_iload_n hx hb dX9_join_19 rfl (lv_at hl 2 rfl) ?_
    refine lv_bipush (v := 12) hx hb dX9_join_20 (by decide) ?_
    refine lv_imul hx hb dX9_join_22 ?_
    rw [show ((nI i) * 12 : Int32) = nI (i * 12) from pk_mul i 12]
    refine lv_iload_n hx hb dX9_join_23 rfl (lv_at hl 3 rfl) ?_
    refine lv_iadd hx hb dX9_join_24 ?_
    rw [show ((nI (i * 12)) + (nI j) : Int32) = nI ((i * 12) + j) from nI_add (i * 12) j]
    refine lv_iload hx hb dX9_join_25 (lv_at hl 5 rfl) ?_
    refine y_iast F hP hD hS c91 (vp_in_nI (n := ((i * 12) + j)) (N := 144) (by omega) (by decide)) dX9_join_27 (fun w2 ew3 H locs hP hD hS => ?_)
    have k4 := wd_at.pt ew3 c90 (wd_nk c90 c91 rfl)
    have k5 : wd_at w2 b0 (.inl (cy 2, 144, .inl (upd f (nI ((i * 12) + j)).toNatClampNeg n))) := wd_at.ps ew3 c91
    have k6 := wd_at.pt ew3 c92 (Ne.symm nb0b1)
    have kp7 := kp0.put ew3 s90
    refine lv_aload hx hb dX9_join_28 (lv_at hl 0 rfl) ?_
    refine lv_iload_n hx hb dX9_join_30 rfl (lv_at hl 3 rfl) ?_
    refine lv_bipush (v := 12) hx hb dX9_join_31 (by decide) ?_
    refine lv_imul hx hb dX9_join_33 ?_
    rw [show ((nI j) * 12 : Int32) = nI (j * 12) from pk_mul j 12]
    refine lv_iload_n hx hb dX9_join_34 rfl (lv_at hl 2 rfl) ?_
    refine lv_iadd hx hb dX9_join_35 ?_
    rw [show ((nI (j * 12)) + (nI i) : Int32) = nI ((j * 12) + i) from nI_add (j * 12) i]
    refine lv_iload hx hb dX9_join_36 (lv_at hl 5 rfl) ?_
    refine y_iast F hP hD hS k5 (vp_in_nI (n := ((j * 12) + i)) (N := 144) (by omega) (by decide)) dX9_join_38 (fun w8 ew9 H locs hP hD hS => ?_)
    have k10 := wd_at.pt ew9 k4 (wd_nk k4 k5 rfl)
    have k11 : wd_at w8 b0 (.inl (cy 2, 144, .inl (upd (upd f (nI ((i * 12) + j)).toNatClampNeg n) (nI ((j * 12) + i)).toNatClampNeg n))) := wd_at.ps ew9 k5
    have k12 := wd_at.pt ew9 k6 (Ne.symm nb0b1)
    have kp13 := kp7.put ew9 s90
    exact y_vr K hP hD hS (Nat.le_of_ble_eq_true rfl) (Nat.le_of_ble_eq_true rfl) rfl dX9_join_39 (⟨upd (upd f (nI ((i * 12) + j)).toNatClampNeg n) (nI ((j * 12) + i)).toNatClampNeg n, g, rfl, kp13, k11, k12⟩)
  · refine lv_aload_n hx hb dX9_join_4 rfl (lv_at hl 0 rfl) ?_
    refine x_get (ref := "NoteHouse$Ways") F hP c90 rfl (fun _ h => List.mem_cons_of_mem _ (List.mem_append_right _ (h))) 1 (Nat.le_of_ble_eq_true rfl) (List.mem_cons_of_mem _ (List.mem_append_left _ (List.mem_of_getElem? (i := 0) rfl))) rfl rfl dX9_join_5 ?_
    refine lv_goto (tgt := 15) hx hb dX9_join_8 (by decide) ?_
    refine lv_astore (lv' := [(5, .ref b1), (0, .ref y), (1, .int (nI i)), (2, .int (nI j)), (3, .int u), (4, .int n)]) hx hb dX9_join_15 hl (by decide) rfl (fun ls hl => ?_)
    refine lv_aload hx hb dX9_join_17 (lv_at hl 0 rfl) ?_
    refine lv_iload_n hx hb dX9_join_19 rfl (lv_at hl 2 rfl) ?_
    refine lv_bipush (v := 12) hx hb dX9_join_20 (by decide) ?_
    refine lv_imul hx hb dX9_join_22 ?_
    rw [show ((nI i) * 12 : Int32) = nI (i * 12) from pk_mul i 12]
    refine lv_iload_n hx hb dX9_join_23 rfl (lv_at hl 3 rfl) ?_
    refine lv_iadd hx hb dX9_join_24 ?_
    rw [show ((nI (i * 12)) + (nI j) : Int32) = nI ((i * 12) + j) from nI_add (i * 12) j]
    refine lv_iload hx hb dX9_join_25 (lv_at hl 5 rfl) ?_
    refine y_iast F hP hD hS c92 (vp_in_nI (n := ((i * 12) + j)) (N := 144) (by omega) (by decide)) dX9_join_27 (fun w14 ew15 H locs hP hD hS => ?_)
    have k16 := wd_at.pt ew15 c90 (wd_nk c90 c92 rfl)
    have k17 := wd_at.pt ew15 c91 nb0b1
    have k18 : wd_at w14 b1 (.inl (cy 2, 144, .inl (upd g (nI ((i * 12) + j)).toNatClampNeg n))) := wd_at.ps ew15 c92
    have kp19 := kp0.put ew15 s91
    refine lv_aload hx hb dX9_join_28 (lv_at hl 0 rfl) ?_
    refine lv_iload_n hx hb dX9_join_30 rfl (lv_at hl 3 rfl) ?_
    refine lv_bipush (v := 12) hx hb dX9_join_31 (by decide) ?_
    refine lv_imul hx hb dX9_join_33 ?_
    rw [show ((nI j) * 12 : Int32) = nI (j * 12) from pk_mul j 12]
    refine lv_iload_n hx hb dX9_join_34 rfl (lv_at hl 2 rfl) ?_
    refine lv_iadd hx hb dX9_join_35 ?_
    rw [show ((nI (j * 12)) + (nI i) : Int32) = nI ((j * 12) + i) from nI_add (j * 12) i]
    refine lv_iload hx hb dX9_join_36 (lv_at hl 5 rfl) ?_
    refine y_iast F hP hD hS k18 (vp_in_nI (n := ((j * 12) + i)) (N := 144) (by omega) (by decide)) dX9_join_38 (fun w20 ew21 H locs hP hD hS => ?_)
    have k22 := wd_at.pt ew21 k16 (wd_nk k16 k18 rfl)
    have k23 := wd_at.pt ew21 k17 nb0b1
    have k24 : wd_at w20 b1 (.inl (cy 2, 144, .inl (upd (upd g (nI ((i * 12) + j)).toNatClampNeg n) (nI ((j * 12) + i)).toNatClampNeg n))) := wd_at.ps ew21 k18
    have kp25 := kp19.put ew21 s91
    exact y_vr K hP hD hS (Nat.le_of_ble_eq_true rfl) (Nat.le_of_ble_eq_true rfl) rfl dX9_join_39 (⟨f, upd (upd g (nI ((i * 12) + j)).toNatClampNeg n) (nI ((j * 12) + i)).toNatClampNeg n, rfl, kp25, k23, k24⟩)
set_option maxHeartbeats 4000000 in
set_option maxRecDepth 100000 in
theorem g_isBook (l : Launch) (D : va_G) (cy : Nat → ClassId) (sk sv : Nat → Nat) (w : Wd) (q : Nat) (lv wo hd gd dy no tp : Int32) (c90 : wd_at w q (.inr (3, [.int lv, .int wo, .int hd, .int gd, .int dy, .int no, .int tp])))   : Ct l D cy sk sv yX3_isBook wsX3_isBook ({ frames := 0, cells := 0, slots := 0, locals := 0 }) [.ref q] w (fun v w1 => ∃ (r1 : Int32), v = some (.int r1) ∧ (r1 = 0 ∨ r1 = 1) ∧ (r1 = 0 → ¬ 0 < lv) ∧ (¬ r1 = 0 → 0 < lv) ∧ w = w1) := by
  refine Ct.by (cc := cX3_isBook) (maxL := 1) (ret := (some .boolean)) (by decide +kernel) rfl (Nat.le_of_ble_eq_true rfl) ?_
  intro p e s m args below meth c A Q F hnm K ls hl
  have F : wd_Fx p s m args meth c cX3_isBook 1 wsX3_isBook RX3 D cy sk sv A := F
  have hl : lv_has ls 1 [(0, .ref q)] := hl
  have hx := F.1.1
  have hb := F.1.2.1
  have hown := F.1.2.2.2.1
  have hts := F.1.2.2.2.2
  intro H locs hP hD hS
  refine lv_aload_n hx hb dX3_isBook_0 rfl (lv_at hl 0 rfl) ?_
  refine x_get (ref := "NoteHouse$Paper") F hP c90 rfl (fun _ h => List.mem_cons_of_mem _ (List.mem_append_right _ (h))) 0 (Nat.le_of_ble_eq_true rfl) (List.mem_cons_of_mem _ (List.mem_append_left _ (List.mem_of_getElem? (i := 0) rfl))) rfl rfl dX3_isBook_1 ?_
  refine lv_if_le (tgt := 11) hx hb dX3_isBook_4 (by decide) (fun c_1 => ?_) (fun c_1 => ?_)
  · refine lv_iconst (v := 0) hx hb dX3_isBook_11 (by decide) ?_
    exact y_ir K hP hD hS (Nat.le_of_ble_eq_true rfl) (Nat.le_of_ble_eq_true rfl) (ty := .boolean) rfl rfl dX3_isBook_12 (⟨0, rfl, Or.inl rfl, fun _ h => absurd (Int32.lt_of_lt_of_le h c_1) Int32.lt_irrefl, fun h => absurd rfl h, rfl⟩)
  · refine lv_iconst (v := 1) hx hb dX3_isBook_7 (by decide) ?_
    refine lv_goto (tgt := 12) hx hb dX3_isBook_8 (by decide) ?_
    exact y_ir K hP hD hS (Nat.le_of_ble_eq_true rfl) (Nat.le_of_ble_eq_true rfl) (ty := .boolean) rfl rfl dX3_isBook_12 (⟨1, rfl, Or.inr rfl, fun h => absurd h (by decide), fun _ => Int32.not_le.mp c_1, rfl⟩)
def lf (x lv : Int32) : Int32 := if x < 0 then 0 else if lv ≤ x then 0 else 1
theorem lf_b (x lv : Int32) : narrow .boolean (.int (lf x lv)) = .int (lf x lv) := by unfold lf; split; exact rfl; split <;> exact rfl
set_option maxHeartbeats 4000000 in
set_option maxRecDepth 100000 in
theorem g_hasLeaf (l : Launch) (D : va_G) (cy : Nat → ClassId) (sk sv : Nat → Nat) (w : Wd) (q : Nat) (x lv wo hd gd dy no tp : Int32) (c90 : wd_at w q (.inr (3, [.int lv, .int wo, .int hd, .int gd, .int dy, .int no, .int tp])))   : Ct l D cy sk sv yX3_hasLeaf wsX3_hasLeaf ({ frames := 0, cells := 0, slots := 0, locals := 0 }) [.ref q, .int x] w (fun v w1 => v = some (.int (lf x lv)) ∧ w = w1) := by
  refine Ct.by (cc := cX3_hasLeaf) (maxL := 2) (ret := (some .boolean)) (by decide +kernel) rfl (Nat.le_of_ble_eq_true rfl) ?_
  intro p e s m args below meth c A Q F hnm K ls hl
  have F : wd_Fx p s m args meth c cX3_hasLeaf 2 wsX3_hasLeaf RX3 D cy sk sv A := F
  have hl : lv_has ls 2 [(0, .ref q), (1, .int x)] := hl
  have hx := F.1.1
  have hb := F.1.2.1
  have hown := F.1.2.2.2.1
  have hts := F.1.2.2.2.2
  intro H locs hP hD hS
  refine lv_iload_n hx hb dX3_hasLeaf_0 rfl (lv_at hl 1 rfl) ?_
  refine lv_if_lt (tgt := 16) hx hb dX3_hasLeaf_1 (by decide) (fun c_1 => ?_) (fun c_1 => ?_)
  · refine lv_iconst (v := 0) hx hb dX3_hasLeaf_16 (by decide) ?_
    exact y_ir K hP hD hS (Nat.le_of_ble_eq_true rfl) (Nat.le_of_ble_eq_true rfl) (ty := .boolean) rfl rfl dX3_hasLeaf_17 (⟨by simp [lf, c_1], rfl⟩)
  · refine lv_iload_n hx hb dX3_hasLeaf_4 rfl (lv_at hl 1 rfl) ?_
    refine lv_aload_n hx hb dX3_hasLeaf_5 rfl (lv_at hl 0 rfl) ?_
    refine x_get (ref := "NoteHouse$Paper") F hP c90 rfl (fun _ h => List.mem_cons_of_mem _ (List.mem_append_right _ (h))) 0 (Nat.le_of_ble_eq_true rfl) (List.mem_cons_of_mem _ (List.mem_append_left _ (List.mem_of_getElem? (i := 0) rfl))) rfl rfl dX3_hasLeaf_6 ?_
    refine lv_icmp_ge (tgt := 16) hx hb dX3_hasLeaf_9 (by decide) (fun c_2 => ?_) (fun c_2 => ?_)
    · refine lv_iconst (v := 0) hx hb dX3_hasLeaf_16 (by decide) ?_
      exact y_ir K hP hD hS (Nat.le_of_ble_eq_true rfl) (Nat.le_of_ble_eq_true rfl) (ty := .boolean) rfl rfl dX3_hasLeaf_17 (⟨by simp [lf, c_1, c_2], rfl⟩)
    · refine lv_iconst (v := 1) hx hb dX3_hasLeaf_12 (by decide) ?_
      refine lv_goto (tgt := 17) hx hb dX3_hasLeaf_13 (by decide) ?_
      exact y_ir K hP hD hS (Nat.le_of_ble_eq_true rfl) (Nat.le_of_ble_eq_true rfl) (ty := .boolean) rfl rfl dX3_hasLeaf_17 (⟨by simp [lf, c_1, c_2], rfl⟩)
set_option maxHeartbeats 4000000 in
set_option maxRecDepth 100000 in
theorem g_canBeShown (l : Launch) (D : va_G) (cy : Nat → ClassId) (sk sv : Nat → Nat) (w : Wd) (q : Nat) (x y lv wo hd gd dy no tp : Int32) (c90 : wd_at w q (.inr (3, [.int lv, .int wo, .int hd, .int gd, .int dy, .int no, .int tp])))   : Ct l D cy sk sv yX3_canBeShown wsX3_canBeShown ({ frames := 1, cells := 0, slots := 0, locals := 22 }) [.ref q, .int x, .int y] w (fun v w1 => ∃ (r1 : Int32), v = some (.int r1) ∧ (r1 = 0 ∨ r1 = 1) ∧ w = w1) := by
  refine Ct.by (cc := cX3_canBeShown) (maxL := 3) (ret := (some .boolean)) (by decide +kernel) rfl (Nat.le_of_ble_eq_true rfl) ?_
  intro p e s m args below meth c A Q F hnm K ls hl
  have F : wd_Fx p s m args meth c cX3_canBeShown 3 wsX3_canBeShown RX3 D cy sk sv A := F
  have hl : lv_has ls 3 [(0, .ref q), (1, .int x), (2, .int y)] := hl
  have hx := F.1.1
  have hb := F.1.2.1
  have hown := F.1.2.2.2.1
  have hts := F.1.2.2.2.2
  intro H locs hP hD hS
  refine lv_aload_n hx hb dX3_canBeShown_0 rfl (lv_at hl 0 rfl) ?_
  refine x_callV (n := 0) (As := []) (rest := []) F hP hD hS (g_isBook l D cy sk sv w q lv wo hd gd dy no tp c90) gX3_canBeShown_X3_isBook rfl rfl (by decide +kernel) ⟨(Nat.le_of_ble_eq_true rfl), (Nat.le_of_ble_eq_true rfl)⟩ rfl hl.1 (Nat.le_of_ble_eq_true rfl) c90 rfl dX3_canBeShown_1 rfl ⟨(Nat.le_of_ble_eq_true rfl), (Nat.le_of_ble_eq_true rfl)⟩ (fun v2 w3 hp1 H locs hP hD hS => ?_)
  obtain ⟨rx4, rfl, hz5, hz6, hz7, rfl⟩ := hp1
  refine W.eq (g2 := F0 m 4 ls [.int rx4]) rfl (W.widen (k := 0) (n := 0) (Nat.le_of_ble_eq_true rfl) (Nat.le_of_ble_eq_true rfl) ?_)
  refine lv_if_eq (tgt := 15) hx hb dX3_canBeShown_4 (by decide) (fun c_8 => ?_) (fun c_8 => ?_)
  · refine lv_iload_n hx hb dX3_canBeShown_15 rfl (lv_at hl 1 rfl) ?_
    refine lv_iconst (v := (-1)) hx hb dX3_canBeShown_16 (by decide) ?_
    refine lv_icmp_ne (tgt := 34) hx hb dX3_canBeShown_17 (by decide) (fun c_9 => ?_) (fun c_9 => ?_)
    · refine lv_iconst (v := 0) hx hb dX3_canBeShown_34 (by decide) ?_
      exact y_ir K hP hD hS (Nat.le_of_ble_eq_true rfl) (Nat.le_of_ble_eq_true rfl) (ty := .boolean) rfl rfl dX3_canBeShown_35 (⟨0, rfl, Or.inl rfl, rfl⟩)
    · refine lv_iload_n hx hb dX3_canBeShown_20 rfl (lv_at hl 2 rfl) ?_
      refine lv_iconst (v := 1) hx hb dX3_canBeShown_21 (by decide) ?_
      refine lv_ldc (v := 100000) hx hb hown (hts _ (List.mem_cons_of_mem _ (List.mem_append_left _ (List.mem_of_getElem? (i := 0) rfl)))) dX3_canBeShown_22 ?_
      refine x_callSN (host := RX10) (n := 3) (As := [.int y, .int 1, .int 100000]) (rest := []) F hP hD hS (g_isWithin l D cy sk sv w y 1 100000) gX3_canBeShown_X10_isWithin_n42 rfl (by decide +kernel) (List.mem_cons_of_mem _ (List.mem_append_left _ (List.mem_of_getElem? (i := 12) rfl))) (List.mem_cons_of_mem _ (List.mem_append_left _ (List.mem_of_getElem? (i := 11) rfl))) (by decide +kernel) ⟨(Nat.le_of_ble_eq_true rfl), (Nat.le_of_ble_eq_true rfl)⟩ rfl hl.1 (Nat.le_of_ble_eq_true rfl) dX3_canBeShown_24 rfl ⟨(Nat.le_of_ble_eq_true rfl), (Nat.le_of_ble_eq_true rfl)⟩ (fun v11 w12 hp10 H locs hP hD hS => ?_)
      obtain ⟨rfl, rfl⟩ := hp10
      refine W.eq (g2 := F0 m 27 ls [.int (wi y 1 100000)]) rfl (W.widen (k := 0) (n := 0) (Nat.le_of_ble_eq_true rfl) (Nat.le_of_ble_eq_true rfl) ?_)
      refine lv_if_eq (tgt := 34) hx hb dX3_canBeShown_27 (by decide) (fun c_13 => ?_) (fun c_13 => ?_)
      · refine lv_iconst (v := 0) hx hb dX3_canBeShown_34 (by decide) ?_
        exact y_ir K hP hD hS (Nat.le_of_ble_eq_true rfl) (Nat.le_of_ble_eq_true rfl) (ty := .boolean) rfl rfl dX3_canBeShown_35 (⟨0, rfl, Or.inl rfl, rfl⟩)
      · refine lv_iconst (v := 1) hx hb dX3_canBeShown_30 (by decide) ?_
        refine lv_goto (tgt := 35) hx hb dX3_canBeShown_31 (by decide) ?_
        exact y_ir K hP hD hS (Nat.le_of_ble_eq_true rfl) (Nat.le_of_ble_eq_true rfl) (ty := .boolean) rfl rfl dX3_canBeShown_35 (⟨1, rfl, Or.inr rfl, rfl⟩)
  · refine lv_aload_n hx hb dX3_canBeShown_7 rfl (lv_at hl 0 rfl) ?_
    refine lv_iload_n hx hb dX3_canBeShown_8 rfl (lv_at hl 1 rfl) ?_
    refine x_callV (n := 1) (As := [.int x]) (rest := []) F hP hD hS (g_hasLeaf l D cy sk sv w q x lv wo hd gd dy no tp c90) gX3_canBeShown_X3_hasLeaf rfl rfl (by decide +kernel) ⟨(Nat.le_of_ble_eq_true rfl), (Nat.le_of_ble_eq_true rfl)⟩ rfl hl.1 (Nat.le_of_ble_eq_true rfl) c90 rfl dX3_canBeShown_9 rfl ⟨(Nat.le_of_ble_eq_true rfl), (Nat.le_of_ble_eq_true rfl)⟩ (fun v15 w16 hp14 H locs hP hD hS => ?_)
    obtain ⟨rfl, rfl⟩ := hp14
    refine W.eq (g2 := F0 m 12 ls [.int (lf x lv)]) rfl (W.widen (k := 0) (n := 0) (Nat.le_of_ble_eq_true rfl) (Nat.le_of_ble_eq_true rfl) ?_)
    refine lv_goto (tgt := 35) hx hb dX3_canBeShown_12 (by decide) ?_
    exact y_ir K hP hD hS (Nat.le_of_ble_eq_true rfl) (Nat.le_of_ble_eq_true rfl) (ty := .boolean) rfl (lf_b _ _) dX3_canBeShown_35 (⟨lf x lv, rfl, (by unfold lf; split; exact Or.inl rfl; split; exact Or.inl rfl; exact Or.inr rfl), rfl⟩)
set_option maxHeartbeats 4000000 in
set_option maxRecDepth 100000 in
theorem g_holdsAgainst (l : Launch) (D : va_G) (cy : Nat → ClassId) (sk sv : Nat → Nat) (w : Wd) (q sr z tw : Nat) (p0 l0 pp le am hh dd ru de cp ld : Int32) (f : Nat → Int32) (c90 : wd_at w q (.inr (6, [.int p0, .int l0, .ref sr]))) (c91 : wd_at w sr (.inl (cy 2, 12, .inl f))) (c92 : wd_at w z (.inr (5, [.int (nI tw), .int pp, .int le, .int am, .int hh, .int dd, .int ru, .int de, .int cp, .int ld])))  (htw : tw < 12) : Ct l D cy sk sv yX6_holdsAgainst wsX6_holdsAgainst ({ frames := 1, cells := 0, slots := 0, locals := 21 }) [.ref q, .ref z] w (fun v w1 => ∃ (r1 : Int32), v = some (.int r1) ∧ (r1 = 0 ∨ r1 = 1) ∧ w = w1) := by
  refine Ct.by (cc := cX6_holdsAgainst) (maxL := 2) (ret := (some .boolean)) (by decide +kernel) rfl (Nat.le_of_ble_eq_true rfl) ?_
  intro p e s m args below meth c A Q F hnm K ls hl
  have F : wd_Fx p s m args meth c cX6_holdsAgainst 2 wsX6_holdsAgainst RX6 D cy sk sv A := F
  have hl : lv_has ls 2 [(0, .ref q), (1, .ref z)] := hl
  have hx := F.1.1
  have hb := F.1.2.1
  have hown := F.1.2.2.2.1
  have hts := F.1.2.2.2.2
  intro H locs hP hD hS
  refine lv_aload_n hx hb dX6_holdsAgainst_0 rfl (lv_at hl 0 rfl) ?_
  refine x_get (ref := "NoteHouse$Stop") F hP c90 rfl (fun _ h => List.mem_cons_of_mem _ (List.mem_append_left _ (List.mem_append_right _ (h)))) 0 (Nat.le_of_ble_eq_true rfl) (List.mem_cons_of_mem _ (List.mem_append_left _ (List.mem_append_left _ (List.mem_of_getElem? (i := 0) rfl)))) rfl rfl dX6_holdsAgainst_1 ?_
  refine lv_aload_n hx hb dX6_holdsAgainst_4 rfl (lv_at hl 1 rfl) ?_
  refine x_get (ref := "NoteHouse$Shown") F hP c92 rfl (fun _ h => List.mem_cons_of_mem _ (List.mem_append_right _ (h))) 1 (Nat.le_of_ble_eq_true rfl) (List.mem_cons_of_mem _ (List.mem_append_left _ (List.mem_append_left _ (List.mem_of_getElem? (i := 1) rfl)))) rfl rfl dX6_holdsAgainst_5 ?_
  refine lv_icmp_ne (tgt := 53) hx hb dX6_holdsAgainst_8 (by decide) (fun c_1 => ?_) (fun c_1 => ?_)
  · refine lv_iconst (v := 0) hx hb dX6_holdsAgainst_53 (by decide) ?_
    exact y_ir K hP hD hS (Nat.le_of_ble_eq_true rfl) (Nat.le_of_ble_eq_true rfl) (ty := .boolean) rfl rfl dX6_holdsAgainst_54 (⟨0, rfl, Or.inl rfl, rfl⟩)
  · refine lv_aload_n hx hb dX6_holdsAgainst_11 rfl (lv_at hl 0 rfl) ?_
    refine x_get (ref := "NoteHouse$Stop") F hP c90 rfl (fun _ h => List.mem_cons_of_mem _ (List.mem_append_left _ (List.mem_append_right _ (h)))) 1 (Nat.le_of_ble_eq_true rfl) (List.mem_cons_of_mem _ (List.mem_append_left _ (List.mem_append_left _ (List.mem_of_getElem? (i := 2) rfl)))) rfl rfl dX6_holdsAgainst_12 ?_
    refine lv_iconst (v := (-1)) hx hb dX6_holdsAgainst_15 (by decide) ?_
    refine lv_icmp_eq (tgt := 30) hx hb dX6_holdsAgainst_16 (by decide) (fun c_2 => ?_) (fun c_2 => ?_)
    · refine lv_aload_n hx hb dX6_holdsAgainst_30 rfl (lv_at hl 0 rfl) ?_
      refine x_get (ref := "NoteHouse$Stop") F hP c90 rfl (fun _ h => List.mem_cons_of_mem _ (List.mem_append_left _ (List.mem_append_right _ (h)))) 2 (Nat.le_of_ble_eq_true rfl) (List.mem_cons_of_mem _ (List.mem_append_left _ (List.mem_append_left _ (List.mem_of_getElem? (i := 4) rfl)))) rfl rfl dX6_holdsAgainst_31 ?_
      refine lv_aload_n hx hb dX6_holdsAgainst_34 rfl (lv_at hl 1 rfl) ?_
      refine x_get (ref := "NoteHouse$Shown") F hP c92 rfl (fun _ h => List.mem_cons_of_mem _ (List.mem_append_right _ (h))) 0 (Nat.le_of_ble_eq_true rfl) (List.mem_cons_of_mem _ (List.mem_append_left _ (List.mem_append_left _ (List.mem_of_getElem? (i := 5) rfl)))) rfl rfl dX6_holdsAgainst_35 ?_
      refine x_iald F hP c91 (vp_in_nI (n := tw) (N := 12) (by omega) (by decide)) dX6_holdsAgainst_38 ?_
      refine lv_aload_n hx hb dX6_holdsAgainst_39 rfl (lv_at hl 1 rfl) ?_
      refine x_get (ref := "NoteHouse$Shown") F hP c92 rfl (fun _ h => List.mem_cons_of_mem _ (List.mem_append_right _ (h))) 5 (Nat.le_of_ble_eq_true rfl) (List.mem_cons_of_mem _ (List.mem_append_left _ (List.mem_append_left _ (List.mem_of_getElem? (i := 6) rfl)))) rfl rfl dX6_holdsAgainst_40 ?_
      refine x_callSN (host := RX10) (n := 2) (As := [.int (f (nI tw).toNatClampNeg), .int dd]) (rest := []) F hP hD hS (g_hasCome l D cy sk sv w (f (nI tw).toNatClampNeg) dd) gX6_holdsAgainst_X10_hasCome_n33 rfl (by decide +kernel) (List.mem_cons_of_mem _ (List.mem_append_left _ (List.mem_append_left _ (List.mem_of_getElem? (i := 8) rfl)))) (List.mem_cons_of_mem _ (List.mem_append_left _ (List.mem_append_left _ (List.mem_of_getElem? (i := 7) rfl)))) (by decide +kernel) ⟨(Nat.le_of_ble_eq_true rfl), (Nat.le_of_ble_eq_true rfl)⟩ rfl hl.1 (Nat.le_of_ble_eq_true rfl) dX6_holdsAgainst_43 rfl ⟨(Nat.le_of_ble_eq_true rfl), (Nat.le_of_ble_eq_true rfl)⟩ (fun v4 w5 hp3 H locs hP hD hS => ?_)
      obtain ⟨rx6, rfl, hz7, rfl⟩ := hp3
      refine W.eq (g2 := F0 m 46 ls [.int rx6]) rfl (W.widen (k := 0) (n := 0) (Nat.le_of_ble_eq_true rfl) (Nat.le_of_ble_eq_true rfl) ?_)
      refine lv_if_eq (tgt := 53) hx hb dX6_holdsAgainst_46 (by decide) (fun c_8 => ?_) (fun c_8 => ?_)
      · refine lv_iconst (v := 0) hx hb dX6_holdsAgainst_53 (by decide) ?_
        exact y_ir K hP hD hS (Nat.le_of_ble_eq_true rfl) (Nat.le_of_ble_eq_true rfl) (ty := .boolean) rfl rfl dX6_holdsAgainst_54 (⟨0, rfl, Or.inl rfl, rfl⟩)
      · refine lv_iconst (v := 1) hx hb dX6_holdsAgainst_49 (by decide) ?_
        refine lv_goto (tgt := 54) hx hb dX6_holdsAgainst_50 (by decide) ?_
        exact y_ir K hP hD hS (Nat.le_of_ble_eq_true rfl) (Nat.le_of_ble_eq_true rfl) (ty := .boolean) rfl rfl dX6_holdsAgainst_54 (⟨1, rfl, Or.inr rfl, rfl⟩)
    · refine lv_aload_n hx hb dX6_holdsAgainst_19 rfl (lv_at hl 0 rfl) ?_
      refine x_get (ref := "NoteHouse$Stop") F hP c90 rfl (fun _ h => List.mem_cons_of_mem _ (List.mem_append_left _ (List.mem_append_right _ (h)))) 1 (Nat.le_of_ble_eq_true rfl) (List.mem_cons_of_mem _ (List.mem_append_left _ (List.mem_append_left _ (List.mem_of_getElem? (i := 2) rfl)))) rfl rfl dX6_holdsAgainst_20 ?_
      refine lv_aload_n hx hb dX6_holdsAgainst_23 rfl (lv_at hl 1 rfl) ?_
      refine x_get (ref := "NoteHouse$Shown") F hP c92 rfl (fun _ h => List.mem_cons_of_mem _ (List.mem_append_right _ (h))) 2 (Nat.le_of_ble_eq_true rfl) (List.mem_cons_of_mem _ (List.mem_append_left _ (List.mem_append_left _ (List.mem_of_getElem? (i := 3) rfl)))) rfl rfl dX6_holdsAgainst_24 ?_
      refine lv_icmp_ne (tgt := 53) hx hb dX6_holdsAgainst_27 (by decide) (fun c_9 => ?_) (fun c_9 => ?_)
      · refine lv_iconst (v := 0) hx hb dX6_holdsAgainst_53 (by decide) ?_
        exact y_ir K hP hD hS (Nat.le_of_ble_eq_true rfl) (Nat.le_of_ble_eq_true rfl) (ty := .boolean) rfl rfl dX6_holdsAgainst_54 (⟨0, rfl, Or.inl rfl, rfl⟩)
      · refine lv_aload_n hx hb dX6_holdsAgainst_30 rfl (lv_at hl 0 rfl) ?_
        refine x_get (ref := "NoteHouse$Stop") F hP c90 rfl (fun _ h => List.mem_cons_of_mem _ (List.mem_append_left _ (List.mem_append_right _ (h)))) 2 (Nat.le_of_ble_eq_true rfl) (List.mem_cons_of_mem _ (List.mem_append_left _ (List.mem_append_left _ (List.mem_of_getElem? (i := 4) rfl)))) rfl rfl dX6_holdsAgainst_31 ?_
        refine lv_aload_n hx hb dX6_holdsAgainst_34 rfl (lv_at hl 1 rfl) ?_
        refine x_get (ref := "NoteHouse$Shown") F hP c92 rfl (fun _ h => List.mem_cons_of_mem _ (List.mem_append_right _ (h))) 0 (Nat.le_of_ble_eq_true rfl) (List.mem_cons_of_mem _ (List.mem_append_left _ (List.mem_append_left _ (List.mem_of_getElem? (i := 5) rfl)))) rfl rfl dX6_holdsAgainst_35 ?_
        refine x_iald F hP c91 (vp_in_nI (n := tw) (N := 12) (by omega) (by decide)) dX6_holdsAgainst_38 ?_
        refine lv_aload_n hx hb dX6_holdsAgainst_39 rfl (lv_at hl 1 rfl) ?_
        refine x_get (ref := "NoteHouse$Shown") F hP c92 rfl (fun _ h => List.mem_cons_of_mem _ (List.mem_append_right _ (h))) 5 (Nat.le_of_ble_eq_true rfl) (List.mem_cons_of_mem _ (List.mem_append_left _ (List.mem_append_left _ (List.mem_of_getElem? (i := 6) rfl)))) rfl rfl dX6_holdsAgainst_40 ?_
        refine x_callSN (host := RX10) (n := 2) (As := [.int (f (nI tw).toNatClampNeg), .int dd]) (rest := []) F hP hD hS (g_hasCome l D cy sk sv w (f (nI tw).toNatClampNeg) dd) gX6_holdsAgainst_X10_hasCome_n33 rfl (by decide +kernel) (List.mem_cons_of_mem _ (List.mem_append_left _ (List.mem_append_left _ (List.mem_of_getElem? (i := 8) rfl)))) (List.mem_cons_of_mem _ (List.mem_append_left _ (List.mem_append_left _ (List.mem_of_getElem? (i := 7) rfl)))) (by decide +kernel) ⟨(Nat.le_of_ble_eq_true rfl), (Nat.le_of_ble_eq_true rfl)⟩ rfl hl.1 (Nat.le_of_ble_eq_true rfl) dX6_holdsAgainst_43 rfl ⟨(Nat.le_of_ble_eq_true rfl), (Nat.le_of_ble_eq_true rfl)⟩ (fun v11 w12 hp10 H locs hP hD hS => ?_)
        obtain ⟨rx13, rfl, hz14, rfl⟩ := hp10
        refine W.eq (g2 := F0 m 46 ls [.int rx13]) rfl (W.widen (k := 0) (n := 0) (Nat.le_of_ble_eq_true rfl) (Nat.le_of_ble_eq_true rfl) ?_)
        refine lv_if_eq (tgt := 53) hx hb dX6_holdsAgainst_46 (by decide) (fun c_15 => ?_) (fun c_15 => ?_)
        · refine lv_iconst (v := 0) hx hb dX6_holdsAgainst_53 (by decide) ?_
          exact y_ir K hP hD hS (Nat.le_of_ble_eq_true rfl) (Nat.le_of_ble_eq_true rfl) (ty := .boolean) rfl rfl dX6_holdsAgainst_54 (⟨0, rfl, Or.inl rfl, rfl⟩)
        · refine lv_iconst (v := 1) hx hb dX6_holdsAgainst_49 (by decide) ?_
          refine lv_goto (tgt := 54) hx hb dX6_holdsAgainst_50 (by decide) ?_
          exact y_ir K hP hD hS (Nat.le_of_ble_eq_true rfl) (Nat.le_of_ble_eq_true rfl) (ty := .boolean) rfl rfl dX6_holdsAgainst_54 (⟨1, rfl, Or.inr rfl, rfl⟩)
set_option maxHeartbeats 4000000 in
set_option maxRecDepth 100000 in
theorem g_advice_init (l : Launch) (D : va_G) (cy : Nat → ClassId) (sk sv : Nat → Nat) (w : Wd) (q : Nat) (x y z : Int32) (c90 : wd_at w q (.inr (0, [.int 0, .int 0, .int 0, .int 0])))  (S : Nat → Prop) (s90 : S q)  : Ct l D cy sk sv yX0_init wsX0_init ({ frames := 1, cells := 0, slots := 0, locals := 12 }) [.ref q, .int x, .int y, .int z] w (fun v w1 => v = none ∧ wd_kp S w w1 ∧ wd_at w1 q (.inr (0, [.int x, .int y, .int z, .int 0]))) := by
  refine Ct.by (cc := cX0_init) (maxL := 4) (ret := none) (by decide +kernel) rfl (Nat.le_of_ble_eq_true rfl) ?_
  intro p e s m args below meth c A Q F hnm K ls hl
  have F : wd_Fx p s m args meth c cX0_init 4 wsX0_init RX0 D cy sk sv A := F
  have hl : lv_has ls 4 [(0, .ref q), (1, .int x), (2, .int y), (3, .int z)] := hl
  have hx := F.1.1
  have hb := F.1.2.1
  have hown := F.1.2.2.2.1
  have hts := F.1.2.2.2.2
  intro H locs hP hD hS
  have kp0 : wd_kp S w w := wd_kp.rf
  refine lv_aload_n hx hb dX0_init_0 rfl (lv_at hl 0 rfl) ?_
  refine x_objInit F (List.mem_cons_of_mem _ (List.mem_append_left _ (List.mem_of_getElem? (i := 0) rfl))) (List.mem_cons_of_mem _ (List.mem_append_left _ (List.mem_of_getElem? (i := 1) rfl))) (List.mem_cons_of_mem _ (List.mem_append_left _ (List.mem_of_getElem? (i := 2) rfl))) hl.1 dX0_init_1 (Nat.le_of_ble_eq_true rfl) (Nat.le_of_ble_eq_true rfl) ?_
  refine lv_aload_n hx hb dX0_init_4 rfl (lv_at hl 0 rfl) ?_
  refine lv_iconst (v := 0) hx hb dX0_init_5 (by decide) ?_
  refine y_put (ref := "NoteHouse$Advice") F hP hD hS c90 rfl (fun _ h => List.mem_cons_of_mem _ (List.mem_append_right _ (h))) tyX0_ok nmX0 3 (Nat.le_of_ble_eq_true rfl) (List.mem_cons_of_mem _ (List.mem_append_left _ (List.mem_of_getElem? (i := 3) rfl))) rfl rfl rfl rfl (Nat.le_of_ble_eq_true rfl) dX0_init_6 (fun w1 ew2 H locs hP hD hS => ?_)
  have k3 : wd_at w1 q (.inr (0, [.int 0, .int 0, .int 0, .int 0])) := wd_at.ps ew2 c90
  have kp4 := kp0.put ew2 s90
  refine lv_aload_n hx hb dX0_init_9 rfl (lv_at hl 0 rfl) ?_
  refine lv_iload_n hx hb dX0_init_10 rfl (lv_at hl 1 rfl) ?_
  refine y_putF (ref := "NoteHouse$Advice") F hP hD hS k3 rfl (fun _ h => List.mem_cons_of_mem _ (List.mem_append_right _ (h))) tyX0_ok nmX0 hnm 0 (Nat.le_of_ble_eq_true rfl) (List.mem_cons_of_mem _ (List.mem_append_left _ (List.mem_of_getElem? (i := 4) rfl))) rfl rfl rfl rfl rfl (Nat.le_of_ble_eq_true rfl) dX0_init_11 (fun w5 ew6 H locs hP hD hS => ?_)
  have k7 : wd_at w5 q (.inr (0, [.int x, .int 0, .int 0, .int 0])) := wd_at.ps ew6 k3
  have kp8 := kp4.put ew6 s90
  refine lv_aload_n hx hb dX0_init_14 rfl (lv_at hl 0 rfl) ?_
  refine lv_iload_n hx hb dX0_init_15 rfl (lv_at hl 2 rfl) ?_
  refine y_putF (ref := "NoteHouse$Advice") F hP hD hS k7 rfl (fun _ h => List.mem_cons_of_mem _ (List.mem_append_right _ (h))) tyX0_ok nmX0 hnm 1 (Nat.le_of_ble_eq_true rfl) (List.mem_cons_of_mem _ (List.mem_append_left _ (List.mem_of_getElem? (i := 5) rfl))) rfl rfl rfl rfl rfl (Nat.le_of_ble_eq_true rfl) dX0_init_16 (fun w9 ew10 H locs hP hD hS => ?_)
  have k11 : wd_at w9 q (.inr (0, [.int x, .int y, .int 0, .int 0])) := wd_at.ps ew10 k7
  have kp12 := kp8.put ew10 s90
  refine lv_aload_n hx hb dX0_init_19 rfl (lv_at hl 0 rfl) ?_
  refine lv_iload_n hx hb dX0_init_20 rfl (lv_at hl 3 rfl) ?_
  refine y_put (ref := "NoteHouse$Advice") F hP hD hS k11 rfl (fun _ h => List.mem_cons_of_mem _ (List.mem_append_right _ (h))) tyX0_ok nmX0 2 (Nat.le_of_ble_eq_true rfl) (List.mem_cons_of_mem _ (List.mem_append_left _ (List.mem_of_getElem? (i := 6) rfl))) rfl rfl rfl rfl (Nat.le_of_ble_eq_true rfl) dX0_init_21 (fun w13 ew14 H locs hP hD hS => ?_)
  have k15 : wd_at w13 q (.inr (0, [.int x, .int y, .int z, .int 0])) := wd_at.ps ew14 k11
  have kp16 := kp12.put ew14 s90
  exact y_vr K hP hD hS (Nat.le_of_ble_eq_true rfl) (Nat.le_of_ble_eq_true rfl) rfl dX0_init_24 (⟨rfl, kp16, k15⟩)
set_option maxHeartbeats 4000000 in
set_option maxRecDepth 100000 in
theorem g_paper_init (l : Launch) (D : va_G) (cy : Nat → ClassId) (sk sv : Nat → Nat) (w : Wd) (q : Nat) (x y z u v1 : Int32) (c90 : wd_at w q (.inr (3, [.int 0, .int 0, .int 0, .int 0, .int 0, .int 0, .int 0])))  (S : Nat → Prop) (s90 : S q)  : Ct l D cy sk sv yX3_init wsX3_init ({ frames := 1, cells := 0, slots := 0, locals := 12 }) [.ref q, .int x, .int y, .int z, .int u, .int v1] w (fun v w1 => v = none ∧ wd_kp S w w1 ∧ wd_at w1 q (.inr (3, [.int x, .int y, .int z, .int u, .int v1, .int 0, .int 0]))) := by
  refine Ct.by (cc := cX3_init) (maxL := 6) (ret := none) (by decide +kernel) rfl (Nat.le_of_ble_eq_true rfl) ?_
  intro p e s m args below meth c A Q F hnm K ls hl
  have F : wd_Fx p s m args meth c cX3_init 6 wsX3_init RX3 D cy sk sv A := F
  have hl : lv_has ls 6 [(0, .ref q), (1, .int x), (2, .int y), (3, .int z), (4, .int u), (5, .int v1)] := hl
  have hx := F.1.1
  have hb := F.1.2.1
  have hown := F.1.2.2.2.1
  have hts := F.1.2.2.2.2
  intro H locs hP hD hS
  have kp0 : wd_kp S w w := wd_kp.rf
  refine lv_aload_n hx hb dX3_init_0 rfl (lv_at hl 0 rfl) ?_
  refine x_objInit F (List.mem_cons_of_mem _ (List.mem_append_left _ (List.mem_of_getElem? (i := 0) rfl))) (List.mem_cons_of_mem _ (List.mem_append_left _ (List.mem_of_getElem? (i := 1) rfl))) (List.mem_cons_of_mem _ (List.mem_append_left _ (List.mem_of_getElem? (i := 2) rfl))) hl.1 dX3_init_1 (Nat.le_of_ble_eq_true rfl) (Nat.le_of_ble_eq_true rfl) ?_
  refine lv_aload_n hx hb dX3_init_4 rfl (lv_at hl 0 rfl) ?_
  refine lv_iconst (v := 0) hx hb dX3_init_5 (by decide) ?_
  refine y_put (ref := "NoteHouse$Paper") F hP hD hS c90 rfl (fun _ h => List.mem_cons_of_mem _ (List.mem_append_right _ (h))) tyX3_ok nmX3 5 (Nat.le_of_ble_eq_true rfl) (List.mem_cons_of_mem _ (List.mem_append_left _ (List.mem_of_getElem? (i := 3) rfl))) rfl rfl rfl rfl (Nat.le_of_ble_eq_true rfl) dX3_init_6 (fun w1 ew2 H locs hP hD hS => ?_)
  have k3 : wd_at w1 q (.inr (3, [.int 0, .int 0, .int 0, .int 0, .int 0, .int 0, .int 0])) := wd_at.ps ew2 c90
  have kp4 := kp0.put ew2 s90
  refine lv_aload_n hx hb dX3_init_9 rfl (lv_at hl 0 rfl) ?_
  refine lv_iconst (v := 0) hx hb dX3_init_10 (by decide) ?_
  refine y_put (ref := "NoteHouse$Paper") F hP hD hS k3 rfl (fun _ h => List.mem_cons_of_mem _ (List.mem_append_right _ (h))) tyX3_ok nmX3 6 (Nat.le_of_ble_eq_true rfl) (List.mem_cons_of_mem _ (List.mem_append_left _ (List.mem_of_getElem? (i := 4) rfl))) rfl rfl rfl rfl (Nat.le_of_ble_eq_true rfl) dX3_init_11 (fun w5 ew6 H locs hP hD hS => ?_)
  have k7 : wd_at w5 q (.inr (3, [.int 0, .int 0, .int 0, .int 0, .int 0, .int 0, .int 0])) := wd_at.ps ew6 k3
  have kp8 := kp4.put ew6 s90
  refine lv_aload_n hx hb dX3_init_14 rfl (lv_at hl 0 rfl) ?_
  refine lv_iload_n hx hb dX3_init_15 rfl (lv_at hl 1 rfl) ?_
  refine y_putF (ref := "NoteHouse$Paper") F hP hD hS k7 rfl (fun _ h => List.mem_cons_of_mem _ (List.mem_append_right _ (h))) tyX3_ok nmX3 hnm 0 (Nat.le_of_ble_eq_true rfl) (List.mem_cons_of_mem _ (List.mem_append_left _ (List.mem_of_getElem? (i := 5) rfl))) rfl rfl rfl rfl rfl (Nat.le_of_ble_eq_true rfl) dX3_init_16 (fun w9 ew10 H locs hP hD hS => ?_)
  have k11 : wd_at w9 q (.inr (3, [.int x, .int 0, .int 0, .int 0, .int 0, .int 0, .int 0])) := wd_at.ps ew10 k7
  have kp12 := kp8.put ew10 s90
  refine lv_aload_n hx hb dX3_init_19 rfl (lv_at hl 0 rfl) ?_
  refine lv_iload_n hx hb dX3_init_20 rfl (lv_at hl 2 rfl) ?_
  refine y_putF (ref := "NoteHouse$Paper") F hP hD hS k11 rfl (fun _ h => List.mem_cons_of_mem _ (List.mem_append_right _ (h))) tyX3_ok nmX3 hnm 1 (Nat.le_of_ble_eq_true rfl) (List.mem_cons_of_mem _ (List.mem_append_left _ (List.mem_of_getElem? (i := 6) rfl))) rfl rfl rfl rfl rfl (Nat.le_of_ble_eq_true rfl) dX3_init_21 (fun w13 ew14 H locs hP hD hS => ?_)
  have k15 : wd_at w13 q (.inr (3, [.int x, .int y, .int 0, .int 0, .int 0, .int 0, .int 0])) := wd_at.ps ew14 k11
  have kp16 := kp12.put ew14 s90
  refine lv_aload_n hx hb dX3_init_24 rfl (lv_at hl 0 rfl) ?_
  refine lv_iload_n hx hb dX3_init_25 rfl (lv_at hl 3 rfl) ?_
  refine y_putF (ref := "NoteHouse$Paper") F hP hD hS k15 rfl (fun _ h => List.mem_cons_of_mem _ (List.mem_append_right _ (h))) tyX3_ok nmX3 hnm 2 (Nat.le_of_ble_eq_true rfl) (List.mem_cons_of_mem _ (List.mem_append_left _ (List.mem_of_getElem? (i := 7) rfl))) rfl rfl rfl rfl rfl (Nat.le_of_ble_eq_true rfl) dX3_init_26 (fun w17 ew18 H locs hP hD hS => ?_)
  have k19 : wd_at w17 q (.inr (3, [.int x, .int y, .int z, .int 0, .int 0, .int 0, .int 0])) := wd_at.ps ew18 k15
  have kp20 := kp16.put ew18 s90
  refine lv_aload_n hx hb dX3_init_29 rfl (lv_at hl 0 rfl) ?_
  refine lv_iload hx hb dX3_init_30 (lv_at hl 4 rfl) ?_
  refine y_putF (ref := "NoteHouse$Paper") F hP hD hS k19 rfl (fun _ h => List.mem_cons_of_mem _ (List.mem_append_right _ (h))) tyX3_ok nmX3 hnm 3 (Nat.le_of_ble_eq_true rfl) (List.mem_cons_of_mem _ (List.mem_append_left _ (List.mem_of_getElem? (i := 8) rfl))) rfl rfl rfl rfl rfl (Nat.le_of_ble_eq_true rfl) dX3_init_32 (fun w21 ew22 H locs hP hD hS => ?_)
  have k23 : wd_at w21 q (.inr (3, [.int x, .int y, .int z, .int u, .int 0, .int 0, .int 0])) := wd_at.ps ew22 k19
  have kp24 := kp20.put ew22 s90
  refine lv_aload_n hx hb dX3_init_35 rfl (lv_at hl 0 rfl) ?_
  refine lv_iload hx hb dX3_init_36 (lv_at hl 5 rfl) ?_
  refine y_putF (ref := "NoteHouse$Paper") F hP hD hS k23 rfl (fun _ h => List.mem_cons_of_mem _ (List.mem_append_right _ (h))) tyX3_ok nmX3 hnm 4 (Nat.le_of_ble_eq_true rfl) (List.mem_cons_of_mem _ (List.mem_append_left _ (List.mem_of_getElem? (i := 9) rfl))) rfl rfl rfl rfl rfl (Nat.le_of_ble_eq_true rfl) dX3_init_38 (fun w25 ew26 H locs hP hD hS => ?_)
  have k27 : wd_at w25 q (.inr (3, [.int x, .int y, .int z, .int u, .int v1, .int 0, .int 0])) := wd_at.ps ew26 k23
  have kp28 := kp24.put ew26 s90
  exact y_vr K hP hD hS (Nat.le_of_ble_eq_true rfl) (Nat.le_of_ble_eq_true rfl) rfl dX3_init_41 (⟨rfl, kp28, k27⟩)
set_option maxHeartbeats 4000000 in
set_option maxRecDepth 100000 in
theorem g_shown_init (l : Launch) (D : va_G) (cy : Nat → ClassId) (sk sv : Nat → Nat) (w : Wd) (q : Nat) (x y z u v1 y2 : Int32) (c90 : wd_at w q (.inr (5, [.int 0, .int 0, .int 0, .int 0, .int 0, .int 0, .int 0, .int 0, .int 0, .int 0])))  (S : Nat → Prop) (s90 : S q)  : Ct l D cy sk sv yX5_init wsX5_init ({ frames := 1, cells := 0, slots := 0, locals := 12 }) [.ref q, .int x, .int y, .int z, .int u, .int v1, .int y2] w (fun v w1 => v = none ∧ wd_kp S w w1 ∧ wd_at w1 q (.inr (5, [.int x, .int y, .int z, .int u, .int v1, .int y2, .int (-1), .int 1, .int 0, .int (-1)]))) := by
  refine Ct.by (cc := cX5_init) (maxL := 7) (ret := none) (by decide +kernel) rfl (Nat.le_of_ble_eq_true rfl) ?_
  intro p e s m args below meth c A Q F hnm K ls hl
  have F : wd_Fx p s m args meth c cX5_init 7 wsX5_init RX5 D cy sk sv A := F
  have hl : lv_has ls 7 [(0, .ref q), (1, .int x), (2, .int y), (3, .int z), (4, .int u), (5, .int v1), (6, .int y2)] := hl
  have hx := F.1.1
  have hb := F.1.2.1
  have hown := F.1.2.2.2.1
  have hts := F.1.2.2.2.2
  intro H locs hP hD hS
  have kp0 : wd_kp S w w := wd_kp.rf
  refine lv_aload_n hx hb dX5_init_0 rfl (lv_at hl 0 rfl) ?_
  refine x_objInit F (List.mem_cons_of_mem _ (List.mem_append_left _ (List.mem_of_getElem? (i := 0) rfl))) (List.mem_cons_of_mem _ (List.mem_append_left _ (List.mem_of_getElem? (i := 1) rfl))) (List.mem_cons_of_mem _ (List.mem_append_left _ (List.mem_of_getElem? (i := 2) rfl))) hl.1 dX5_init_1 (Nat.le_of_ble_eq_true rfl) (Nat.le_of_ble_eq_true rfl) ?_
  refine lv_aload_n hx hb dX5_init_4 rfl (lv_at hl 0 rfl) ?_
  refine lv_iconst (v := (-1)) hx hb dX5_init_5 (by decide) ?_
  refine y_put (ref := "NoteHouse$Shown") F hP hD hS c90 rfl (fun _ h => List.mem_cons_of_mem _ (List.mem_append_right _ (h))) tyX5_ok nmX5 6 (Nat.le_of_ble_eq_true rfl) (List.mem_cons_of_mem _ (List.mem_append_left _ (List.mem_of_getElem? (i := 3) rfl))) rfl rfl rfl rfl (Nat.le_of_ble_eq_true rfl) dX5_init_6 (fun w1 ew2 H locs hP hD hS => ?_)
  have k3 : wd_at w1 q (.inr (5, [.int 0, .int 0, .int 0, .int 0, .int 0, .int 0, .int (-1), .int 0, .int 0, .int 0])) := wd_at.ps ew2 c90
  have kp4 := kp0.put ew2 s90
  refine lv_aload_n hx hb dX5_init_9 rfl (lv_at hl 0 rfl) ?_
  refine lv_iconst (v := 1) hx hb dX5_init_10 (by decide) ?_
  refine y_put (ref := "NoteHouse$Shown") F hP hD hS k3 rfl (fun _ h => List.mem_cons_of_mem _ (List.mem_append_right _ (h))) tyX5_ok nmX5 7 (Nat.le_of_ble_eq_true rfl) (List.mem_cons_of_mem _ (List.mem_append_left _ (List.mem_of_getElem? (i := 4) rfl))) rfl rfl rfl rfl (Nat.le_of_ble_eq_true rfl) dX5_init_11 (fun w5 ew6 H locs hP hD hS => ?_)
  have k7 : wd_at w5 q (.inr (5, [.int 0, .int 0, .int 0, .int 0, .int 0, .int 0, .int (-1), .int 1, .int 0, .int 0])) := wd_at.ps ew6 k3
  have kp8 := kp4.put ew6 s90
  refine lv_aload_n hx hb dX5_init_14 rfl (lv_at hl 0 rfl) ?_
  refine lv_iconst (v := 0) hx hb dX5_init_15 (by decide) ?_
  refine y_put (ref := "NoteHouse$Shown") F hP hD hS k7 rfl (fun _ h => List.mem_cons_of_mem _ (List.mem_append_right _ (h))) tyX5_ok nmX5 8 (Nat.le_of_ble_eq_true rfl) (List.mem_cons_of_mem _ (List.mem_append_left _ (List.mem_of_getElem? (i := 5) rfl))) rfl rfl rfl rfl (Nat.le_of_ble_eq_true rfl) dX5_init_16 (fun w9 ew10 H locs hP hD hS => ?_)
  have k11 : wd_at w9 q (.inr (5, [.int 0, .int 0, .int 0, .int 0, .int 0, .int 0, .int (-1), .int 1, .int 0, .int 0])) := wd_at.ps ew10 k7
  have kp12 := kp8.put ew10 s90
  refine lv_aload_n hx hb dX5_init_19 rfl (lv_at hl 0 rfl) ?_
  refine lv_iconst (v := (-1)) hx hb dX5_init_20 (by decide) ?_
  refine y_put (ref := "NoteHouse$Shown") F hP hD hS k11 rfl (fun _ h => List.mem_cons_of_mem _ (List.mem_append_right _ (h))) tyX5_ok nmX5 9 (Nat.le_of_ble_eq_true rfl) (List.mem_cons_of_mem _ (List.mem_append_left _ (List.mem_of_getElem? (i := 6) rfl))) rfl rfl rfl rfl (Nat.le_of_ble_eq_true rfl) dX5_init_21 (fun w13 ew14 H locs hP hD hS => ?_)
  have k15 : wd_at w13 q (.inr (5, [.int 0, .int 0, .int 0, .int 0, .int 0, .int 0, .int (-1), .int 1, .int 0, .int (-1)])) := wd_at.ps ew14 k11
  have kp16 := kp12.put ew14 s90
  refine lv_aload_n hx hb dX5_init_24 rfl (lv_at hl 0 rfl) ?_
  refine lv_iload_n hx hb dX5_init_25 rfl (lv_at hl 1 rfl) ?_
  refine y_putF (ref := "NoteHouse$Shown") F hP hD hS k15 rfl (fun _ h => List.mem_cons_of_mem _ (List.mem_append_right _ (h))) tyX5_ok nmX5 hnm 0 (Nat.le_of_ble_eq_true rfl) (List.mem_cons_of_mem _ (List.mem_append_left _ (List.mem_of_getElem? (i := 7) rfl))) rfl rfl rfl rfl rfl (Nat.le_of_ble_eq_true rfl) dX5_init_26 (fun w17 ew18 H locs hP hD hS => ?_)
  have k19 : wd_at w17 q (.inr (5, [.int x, .int 0, .int 0, .int 0, .int 0, .int 0, .int (-1), .int 1, .int 0, .int (-1)])) := wd_at.ps ew18 k15
  have kp20 := kp16.put ew18 s90
  refine lv_aload_n hx hb dX5_init_29 rfl (lv_at hl 0 rfl) ?_
  refine lv_iload_n hx hb dX5_init_30 rfl (lv_at hl 2 rfl) ?_
  refine y_putF (ref := "NoteHouse$Shown") F hP hD hS k19 rfl (fun _ h => List.mem_cons_of_mem _ (List.mem_append_right _ (h))) tyX5_ok nmX5 hnm 1 (Nat.le_of_ble_eq_true rfl) (List.mem_cons_of_mem _ (List.mem_append_left _ (List.mem_of_getElem? (i := 8) rfl))) rfl rfl rfl rfl rfl (Nat.le_of_ble_eq_true rfl) dX5_init_31 (fun w21 ew22 H locs hP hD hS => ?_)
  have k23 : wd_at w21 q (.inr (5, [.int x, .int y, .int 0, .int 0, .int 0, .int 0, .int (-1), .int 1, .int 0, .int (-1)])) := wd_at.ps ew22 k19
  have kp24 := kp20.put ew22 s90
  refine lv_aload_n hx hb dX5_init_34 rfl (lv_at hl 0 rfl) ?_
  refine lv_iload_n hx hb dX5_init_35 rfl (lv_at hl 3 rfl) ?_
  refine y_putF (ref := "NoteHouse$Shown") F hP hD hS k23 rfl (fun _ h => List.mem_cons_of_mem _ (List.mem_append_right _ (h))) tyX5_ok nmX5 hnm 2 (Nat.le_of_ble_eq_true rfl) (List.mem_cons_of_mem _ (List.mem_append_left _ (List.mem_of_getElem? (i := 9) rfl))) rfl rfl rfl rfl rfl (Nat.le_of_ble_eq_true rfl) dX5_init_36 (fun w25 ew26 H locs hP hD hS => ?_)
  have k27 : wd_at w25 q (.inr (5, [.int x, .int y, .int z, .int 0, .int 0, .int 0, .int (-1), .int 1, .int 0, .int (-1)])) := wd_at.ps ew26 k23
  have kp28 := kp24.put ew26 s90
  refine lv_aload_n hx hb dX5_init_39 rfl (lv_at hl 0 rfl) ?_
  refine lv_iload hx hb dX5_init_40 (lv_at hl 4 rfl) ?_
  refine y_putF (ref := "NoteHouse$Shown") F hP hD hS k27 rfl (fun _ h => List.mem_cons_of_mem _ (List.mem_append_right _ (h))) tyX5_ok nmX5 hnm 3 (Nat.le_of_ble_eq_true rfl) (List.mem_cons_of_mem _ (List.mem_append_left _ (List.mem_of_getElem? (i := 10) rfl))) rfl rfl rfl rfl rfl (Nat.le_of_ble_eq_true rfl) dX5_init_42 (fun w29 ew30 H locs hP hD hS => ?_)
  have k31 : wd_at w29 q (.inr (5, [.int x, .int y, .int z, .int u, .int 0, .int 0, .int (-1), .int 1, .int 0, .int (-1)])) := wd_at.ps ew30 k27
  have kp32 := kp28.put ew30 s90
  refine lv_aload_n hx hb dX5_init_45 rfl (lv_at hl 0 rfl) ?_
  refine lv_iload hx hb dX5_init_46 (lv_at hl 5 rfl) ?_
  refine y_putF (ref := "NoteHouse$Shown") F hP hD hS k31 rfl (fun _ h => List.mem_cons_of_mem _ (List.mem_append_right _ (h))) tyX5_ok nmX5 hnm 4 (Nat.le_of_ble_eq_true rfl) (List.mem_cons_of_mem _ (List.mem_append_left _ (List.mem_of_getElem? (i := 11) rfl))) rfl rfl rfl rfl rfl (Nat.le_of_ble_eq_true rfl) dX5_init_48 (fun w33 ew34 H locs hP hD hS => ?_)
  have k35 : wd_at w33 q (.inr (5, [.int x, .int y, .int z, .int u, .int v1, .int 0, .int (-1), .int 1, .int 0, .int (-1)])) := wd_at.ps ew34 k31
  have kp36 := kp32.put ew34 s90
  refine lv_aload_n hx hb dX5_init_51 rfl (lv_at hl 0 rfl) ?_
  refine lv_iload hx hb dX5_init_52 (lv_at hl 6 rfl) ?_
  refine y_putF (ref := "NoteHouse$Shown") F hP hD hS k35 rfl (fun _ h => List.mem_cons_of_mem _ (List.mem_append_right _ (h))) tyX5_ok nmX5 hnm 5 (Nat.le_of_ble_eq_true rfl) (List.mem_cons_of_mem _ (List.mem_append_left _ (List.mem_of_getElem? (i := 12) rfl))) rfl rfl rfl rfl rfl (Nat.le_of_ble_eq_true rfl) dX5_init_54 (fun w37 ew38 H locs hP hD hS => ?_)
  have k39 : wd_at w37 q (.inr (5, [.int x, .int y, .int z, .int u, .int v1, .int y2, .int (-1), .int 1, .int 0, .int (-1)])) := wd_at.ps ew38 k35
  have kp40 := kp36.put ew38 s90
  exact y_vr K hP hD hS (Nat.le_of_ble_eq_true rfl) (Nat.le_of_ble_eq_true rfl) rfl dX5_init_57 (⟨rfl, kp40, k39⟩)
