theorem fl_s {i n : Nat} {g : Nat → Int32} {x : Int32} (hi : i < n) (hn : n < 2 ^ 31) (hg : ∀ j, j < i → g j = x) : ∀ j, j < i + 1 → upd g (nI i).toNatClampNeg x j = x := by
  intro j hj
  rw [nI_clamp (by omega)]
  by_cases h : j = i
  · rw [h, pk_us]
  · rw [pk_un h]; exact hg j (by omega)
theorem fl_l {i n : Nat} {g : Nat → Int64} {x : Int64} (hi : i < n) (hn : n < 2 ^ 31) (hg : ∀ j, j < i → g j = x) : ∀ j, j < i + 1 → vp_updL g (nI i).toNatClampNeg x j = x := by
  intro j hj
  rw [nI_clamp (by omega)]
  by_cases h : j = i
  · rw [h, pk_uLs]
  · rw [pk_uLn h]; exact hg j (by omega)
set_option maxHeartbeats 4000000 in
set_option maxRecDepth 100000 in
theorem g_fillI (l : Launch) (D : va_G) (cy : Nat → ClassId) (sk sv : Nat → Nat) (w : Wd) (ar nn : Nat) (f : Nat → Int32) (x : Int32) (c90 : wd_at w ar (.inl (cy 2, nn, .inl f)))  (S : Nat → Prop) (s90 : S ar) (hnn : nn < 2 ^ 31) : Ct l D cy sk sv yJ7_fill_53178 wsJ7_fill_53178 ({ frames := 0, cells := 0, slots := 0, locals := 0 }) [.ref ar, .int x] w (fun v w1 => ∃ (g : Nat → Int32), v = none ∧ (∀ j, j < nn → g j = x) ∧ wd_kp S w w1 ∧ wd_at w1 ar (.inl (cy 2, nn, .inl g))) := by
  refine Ct.by (cc := cJ7_fill_53178) (maxL := 4) (ret := none) (by decide +kernel) rfl (Nat.le_of_ble_eq_true rfl) ?_
  intro p e s m args below meth c A Q F hnm K ls hl
  have F : wd_Fx p s m args meth c cJ7_fill_53178 4 wsJ7_fill_53178 RJ7 D cy sk sv A := F
  have hl : lv_has ls 4 [(0, .ref ar), (1, .int x)] := hl
  have hx := F.1.1
  have hb := F.1.2.1
  have hown := F.1.2.2.2.1
  have hts := F.1.2.2.2.2
  intro H locs hP hD hS
  have kp0 : wd_kp S w w := wd_kp.rf
  refine lv_iconst (v := 0) hx hb dJ7_fill_53178_0 (by decide) ?_
  refine lv_istore_n (lv' := [(2, .int 0), (0, .ref ar), (1, .int x)]) hx hb dJ7_fill_53178_1 rfl hl (by decide) rfl (fun ls hl => ?_)
  refine lv_aload_n hx hb dJ7_fill_53178_2 rfl (lv_at hl 1 rfl) ?_
  refine x_alen F hP c90 rfl (v := nI nn) rfl dJ7_fill_53178_3 ?_
  refine lv_istore_n (lv' := [(3, .int (nI nn)), (2, .int 0), (0, .ref ar), (1, .int x)]) hx hb dJ7_fill_53178_4 rfl hl (by decide) rfl (fun ls hl => ?_)
  have lp5 : ∀ (N : Nat) (i : Nat) (g : Nat → Int32) (w1 : Wd), (i + N = nn) → (∀ j, j < i → g j = x) → (wd_at w1 ar (.inl (cy 2, nn, .inl g))) → (wd_kp S w w1) → ∀ (ls : Array Slot), lv_has ls 4 [(0, .ref ar), (1, .int x), (2, .int (nI i)), (3, .int (nI nn))] → Wv p l e ({ frames := 0, cells := 0, slots := 0, locals := 0 }) s m args below meth c D A (0) (0) Q w1 (F0 m 5 ls []) := by
    intro N
    induction N with
    | zero =>
      intro i g w1 hN5 hg k2 kp3 ls hl H locs hP hD hS
      refine lv_iload_n hx hb dJ7_fill_53178_5 rfl (lv_at hl 2 rfl) ?_
      refine lv_iload_n hx hb dJ7_fill_53178_6 rfl (lv_at hl 3 rfl) ?_
      refine lv_icmp_ge (tgt := 20) hx hb dJ7_fill_53178_7 (by decide) (fun c_4 => ?_) (fun c_4 => absurd (nI_le (a := nn) (b := i) (by omega) (by omega)) c_4)
      exact y_vr K hP hD hS (Nat.le_of_ble_eq_true rfl) (Nat.le_of_ble_eq_true rfl) rfl dJ7_fill_53178_20 (⟨g, rfl, fun j hj => hg j (by omega), kp3, k2⟩)
    | succ N ih5 =>
      intro i g w1 hN5 hg k2 kp3 ls hl H locs hP hD hS
      refine lv_iload_n hx hb dJ7_fill_53178_5 rfl (lv_at hl 2 rfl) ?_
      refine lv_iload_n hx hb dJ7_fill_53178_6 rfl (lv_at hl 3 rfl) ?_
      refine lv_icmp_ge (tgt := 20) hx hb dJ7_fill_53178_7 (by decide) (fun c_5 => absurd c_5 (nI_ge (a := i) (b := nn) (by omega) (by omega))) (fun c_5 => ?_)
      refine lv_aload_n hx hb dJ7_fill_53178_10 rfl (lv_at hl 0 rfl) ?_
      refine lv_iload_n hx hb dJ7_fill_53178_11 rfl (lv_at hl 2 rfl) ?_
      refine lv_iload_n hx hb dJ7_fill_53178_12 rfl (lv_at hl 1 rfl) ?_
      refine y_iast F hP hD hS k2 (vp_in_nI (n := i) (by omega) hnn) dJ7_fill_53178_13 (fun w6 ew7 H locs hP hD hS => ?_)
      have k8 : wd_at w6 ar (.inl (cy 2, nn, .inl (upd g (nI i).toNatClampNeg x))) := wd_at.ps ew7 k2
      have kp9 := kp3.put ew7 s90
      refine lv_iinc (v := nI (i + 1)) (lv' := [(2, .int (nI (i + 1))), (0, .ref ar), (1, .int x), (3, .int (nI nn))]) hx hb dJ7_fill_53178_14 hl (k := 2) rfl (nI_1 i) (by decide) rfl (fun ls hl => ?_)
      refine lv_goto (tgt := 5) hx hb dJ7_fill_53178_17 (by decide) ?_
      exact ih5 (i + 1) (upd g (nI i).toNatClampNeg x) w6 (by omega) (fl_s (i := i) (n := nn) (by omega) hnn hg) k8 kp9 ls (lv_sub hl [1, 2, 0, 3] rfl) H locs hP hD hS
  exact lp5 _ 0 f w (Nat.zero_add nn) (fun j hj => absurd hj (Nat.not_lt_zero j)) c90 kp0 ls (lv_sub hl [2, 3, 1, 0] rfl) H locs hP hD hS
set_option maxHeartbeats 4000000 in
set_option maxRecDepth 100000 in
theorem g_fillL (l : Launch) (D : va_G) (cy : Nat → ClassId) (sk sv : Nat → Nat) (w : Wd) (ar nn : Nat) (f : Nat → Int64) (x : Int64) (c90 : wd_at w ar (.inl (cy 3, nn, .inr (.inl f))))  (S : Nat → Prop) (s90 : S ar) (hnn : nn < 2 ^ 31) : Ct l D cy sk sv yJ7_fill_d0a16 wsJ7_fill_d0a16 ({ frames := 0, cells := 0, slots := 0, locals := 0 }) [.ref ar, .long x] w (fun v w1 => ∃ (g : Nat → Int64), v = none ∧ (∀ j, j < nn → g j = x) ∧ wd_kp S w w1 ∧ wd_at w1 ar (.inl (cy 3, nn, .inr (.inl g)))) := by
  refine Ct.by (cc := cJ7_fill_d0a16) (maxL := 5) (ret := none) (by decide +kernel) rfl (Nat.le_of_ble_eq_true rfl) ?_
  intro p e s m args below meth c A Q F hnm K ls hl
  have F : wd_Fx p s m args meth c cJ7_fill_d0a16 5 wsJ7_fill_d0a16 RJ7 D cy sk sv A := F
  have hl : lv_has ls 5 [(0, .ref ar), (1, .long x)] := hl
  have hx := F.1.1
  have hb := F.1.2.1
  have hown := F.1.2.2.2.1
  have hts := F.1.2.2.2.2
  intro H locs hP hD hS
  have kp0 : wd_kp S w w := wd_kp.rf
  refine lv_iconst (v := 0) hx hb dJ7_fill_d0a16_0 (by decide) ?_
  refine lv_istore_n (lv' := [(3, .int 0), (0, .ref ar), (1, .long x)]) hx hb dJ7_fill_d0a16_1 rfl hl (by decide) rfl (fun ls hl => ?_)
  refine lv_aload_n hx hb dJ7_fill_d0a16_2 rfl (lv_at hl 1 rfl) ?_
  refine x_alen F hP c90 rfl (v := nI nn) rfl dJ7_fill_d0a16_3 ?_
  refine lv_istore (lv' := [(4, .int (nI nn)), (3, .int 0), (0, .ref ar), (1, .long x)]) hx hb dJ7_fill_d0a16_4 hl (by decide) rfl (fun ls hl => ?_)
  have lp6 : ∀ (N : Nat) (i : Nat) (g : Nat → Int64) (w1 : Wd), (i + N = nn) → (∀ j, j < i → g j = x) → (wd_at w1 ar (.inl (cy 3, nn, .inr (.inl g)))) → (wd_kp S w w1) → ∀ (ls : Array Slot), lv_has ls 5 [(0, .ref ar), (1, .long x), (3, .int (nI i)), (4, .int (nI nn))] → Wv p l e ({ frames := 0, cells := 0, slots := 0, locals := 0 }) s m args below meth c D A (0) (0) Q w1 (F0 m 6 ls []) := by
    intro N
    induction N with
    | zero =>
      intro i g w1 hN6 hg k2 kp3 ls hl H locs hP hD hS
      refine lv_iload_n hx hb dJ7_fill_d0a16_6 rfl (lv_at hl 2 rfl) ?_
      refine lv_iload hx hb dJ7_fill_d0a16_7 (lv_at hl 3 rfl) ?_
      refine lv_icmp_ge (tgt := 22) hx hb dJ7_fill_d0a16_9 (by decide) (fun c_4 => ?_) (fun c_4 => absurd (nI_le (a := nn) (b := i) (by omega) (by omega)) c_4)
      exact y_vr K hP hD hS (Nat.le_of_ble_eq_true rfl) (Nat.le_of_ble_eq_true rfl) rfl dJ7_fill_d0a16_22 (⟨g, rfl, fun j hj => hg j (by omega), kp3, k2⟩)
    | succ N ih6 =>
      intro i g w1 hN6 hg k2 kp3 ls hl H locs hP hD hS
      refine lv_iload_n hx hb dJ7_fill_d0a16_6 rfl (lv_at hl 2 rfl) ?_
      refine lv_iload hx hb dJ7_fill_d0a16_7 (lv_at hl 3 rfl) ?_
      refine lv_icmp_ge (tgt := 22) hx hb dJ7_fill_d0a16_9 (by decide) (fun c_5 => absurd c_5 (nI_ge (a := i) (b := nn) (by omega) (by omega))) (fun c_5 => ?_)
      refine lv_aload_n hx hb dJ7_fill_d0a16_12 rfl (lv_at hl 0 rfl) ?_
      refine lv_iload_n hx hb dJ7_fill_d0a16_13 rfl (lv_at hl 2 rfl) ?_
      refine lv_lload_n hx hb dJ7_fill_d0a16_14 rfl (lv_at hl 1 rfl) ?_
      refine y_last F hP hD hS k2 (vp_in_nI (n := i) (by omega) hnn) dJ7_fill_d0a16_15 (fun w6 ew7 H locs hP hD hS => ?_)
      have k8 : wd_at w6 ar (.inl (cy 3, nn, .inr (.inl (vp_updL g (nI i).toNatClampNeg x)))) := wd_at.ps ew7 k2
      have kp9 := kp3.put ew7 s90
      refine lv_iinc (v := nI (i + 1)) (lv' := [(3, .int (nI (i + 1))), (0, .ref ar), (1, .long x), (4, .int (nI nn))]) hx hb dJ7_fill_d0a16_16 hl (k := 2) rfl (nI_1 i) (by decide) rfl (fun ls hl => ?_)
      refine lv_goto (tgt := 6) hx hb dJ7_fill_d0a16_19 (by decide) ?_
      exact ih6 (i + 1) (vp_updL g (nI i).toNatClampNeg x) w6 (by omega) (fl_l (i := i) (n := nn) (by omega) hnn hg) k8 kp9 ls (lv_sub hl [1, 2, 0, 3] rfl) H locs hP hD hS
  exact lp6 _ 0 f w (Nat.zero_add nn) (fun j hj => absurd hj (Nat.not_lt_zero j)) c90 kp0 ls (lv_sub hl [2, 3, 1, 0] rfl) H locs hP hD hS
set_option maxHeartbeats 4000000 in
set_option maxRecDepth 100000 in
theorem g_open (l : Launch) (D : va_G) (cy : Nat → ClassId) (sk sv : Nat → Nat) (w : Wd) (y l0 l1 l2 l3 l4 l5 l6 l7 : Nat) (gc sz : Int32) (f : Nat → Int32) (d : Nat → Int64) (c90 : wd_at w y (.inr (4, [.ref l0, .ref l1, .ref l2, .ref l3, .ref l4, .ref l5, .ref l6, .ref l7, .int gc, .int sz]))) (c91 : wd_at w l0 (.inl (cy 2, 200, .inl f))) (c92 : wd_at w l2 (.inl (cy 3, 12, .inr (.inl d))))  (S : Nat → Prop) (s90 : S y) (s91 : S l0) (s92 : S l2)  : Ct l D cy sk sv yX4_open wsX4_open ({ frames := 1, cells := 0, slots := 0, locals := 24 }) [.ref y] w (fun v w1 => ∃ (f1 : Nat → Int32) (d1 : Nat → Int64), v = none ∧ wd_kp S w w1 ∧ wd_at w1 y (.inr (4, [.ref l0, .ref l1, .ref l2, .ref l3, .ref l4, .ref l5, .ref l6, .ref l7, .int 0, .int 0])) ∧ wd_at w1 l0 (.inl (cy 2, 200, .inl f1)) ∧ wd_at w1 l2 (.inl (cy 3, 12, .inr (.inl d1)))) := by
  refine Ct.by (cc := cX4_open) (maxL := 1) (ret := none) (by decide +kernel) rfl (Nat.le_of_ble_eq_true rfl) ?_
  intro p e s m args below meth c A Q F hnm K ls hl
  have F : wd_Fx p s m args meth c cX4_open 1 wsX4_open RX4 D cy sk sv A := F
  have hl : lv_has ls 1 [(0, .ref y)] := hl
  have hx := F.1.1
  have hb := F.1.2.1
  have hown := F.1.2.2.2.1
  have hts := F.1.2.2.2.2
  intro H locs hP hD hS
  have kp0 : wd_kp S w w := wd_kp.rf
  refine lv_aload_n hx hb dX4_open_0 rfl (lv_at hl 0 rfl) ?_
  refine x_get (ref := "NoteHouse$Settlement") F hP c90 rfl (fun _ h => List.mem_cons_of_mem _ (List.mem_append_right _ (h))) 0 (Nat.le_of_ble_eq_true rfl) (List.mem_cons_of_mem _ (List.mem_append_left _ (List.mem_of_getElem? (i := 0) rfl))) rfl rfl dX4_open_1 ?_
  refine lv_iconst (v := (-1)) hx hb dX4_open_4 (by decide) ?_
  refine x_callS (n := 2) (As := [.ref l0, .int (-1)]) (rest := []) F hP hD hS (g_fillI l D cy sk sv w l0 200 f (-1) c91 (fun b => b = l0) rfl (by decide)) gX4_open_J7_fill_53178 rfl (by decide +kernel) ⟨(Nat.le_of_ble_eq_true rfl), (Nat.le_of_ble_eq_true rfl)⟩ rfl hl.1 (Nat.le_of_ble_eq_true rfl) dX4_open_5 rfl ⟨(Nat.le_of_ble_eq_true rfl), (Nat.le_of_ble_eq_true rfl)⟩ (fun v2 w3 hp1 H locs hP hD hS => ?_)
  obtain ⟨gx4, rfl, hz5, kq7, k6⟩ := hp1
  have k8 := kq7.2 _ _ c90 (fun q9 : y = l0 => (wd_nk c90 c91 rfl) q9)
  have k9 := kq7.2 _ _ c92 (fun q9 : l2 = l0 => (wd_nk c92 c91 rfl) q9)
  have kp10 := kp0.tr kq7 (fun b9 hm q9 => (fun q9 => q9 ▸ s91) q9)
  refine W.eq (g2 := F0 m 8 ls []) rfl (W.widen (k := 0) (n := 0) (Nat.le_of_ble_eq_true rfl) (Nat.le_of_ble_eq_true rfl) ?_)
  refine lv_aload_n hx hb dX4_open_8 rfl (lv_at hl 0 rfl) ?_
  refine x_get (ref := "NoteHouse$Settlement") F hP k8 rfl (fun _ h => List.mem_cons_of_mem _ (List.mem_append_right _ (h))) 2 (Nat.le_of_ble_eq_true rfl) (List.mem_cons_of_mem _ (List.mem_append_left _ (List.mem_of_getElem? (i := 1) rfl))) rfl rfl dX4_open_9 ?_
  refine lv_lconst (v := 0) hx hb dX4_open_12 (by decide) ?_
  refine x_callS (n := 2) (As := [.ref l2, .long 0]) (rest := []) F hP hD hS (g_fillL l D cy sk sv w3 l2 12 d 0 k9 (fun b => b = l2) rfl (by decide)) gX4_open_J7_fill_d0a16 rfl (by decide +kernel) ⟨(Nat.le_of_ble_eq_true rfl), (Nat.le_of_ble_eq_true rfl)⟩ rfl hl.1 (Nat.le_of_ble_eq_true rfl) dX4_open_13 rfl ⟨(Nat.le_of_ble_eq_true rfl), (Nat.le_of_ble_eq_true rfl)⟩ (fun v12 w13 hp11 H locs hP hD hS => ?_)
  obtain ⟨gx14, rfl, hz15, kq17, k16⟩ := hp11
  have k18 := kq17.2 _ _ k8 (fun q9 : y = l2 => (wd_nk k8 k9 rfl) q9)
  have k19 := kq17.2 _ _ k6 (fun q9 : l0 = l2 => (wd_nk k6 k9 rfl) q9)
  have kp20 := kp10.tr kq17 (fun b9 hm q9 => (fun q9 => q9 ▸ s92) q9)
  refine W.eq (g2 := F0 m 16 ls []) rfl (W.widen (k := 0) (n := 0) (Nat.le_of_ble_eq_true rfl) (Nat.le_of_ble_eq_true rfl) ?_)
  refine lv_aload_n hx hb dX4_open_16 rfl (lv_at hl 0 rfl) ?_
  refine lv_iconst (v := 0) hx hb dX4_open_17 (by decide) ?_
  refine y_put (ref := "NoteHouse$Settlement") F hP hD hS k18 rfl (fun _ h => List.mem_cons_of_mem _ (List.mem_append_right _ (h))) tyX4_ok nmX4 8 (Nat.le_of_ble_eq_true rfl) (List.mem_cons_of_mem _ (List.mem_append_left _ (List.mem_of_getElem? (i := 2) rfl))) rfl rfl rfl rfl (Nat.le_of_ble_eq_true rfl) dX4_open_18 (fun w21 ew22 H locs hP hD hS => ?_)
  have k23 : wd_at w21 y (.inr (4, [.ref l0, .ref l1, .ref l2, .ref l3, .ref l4, .ref l5, .ref l6, .ref l7, .int 0, .int sz])) := wd_at.ps ew22 k18
  have k24 := wd_at.pt ew22 k19 (wd_nk k19 k18 rfl)
  have k25 := wd_at.pt ew22 k16 (wd_nk k16 k18 rfl)
  have kp26 := kp20.put ew22 s90
  refine lv_aload_n hx hb dX4_open_21 rfl (lv_at hl 0 rfl) ?_
  refine lv_iconst (v := 0) hx hb dX4_open_22 (by decide) ?_
  refine y_put (ref := "NoteHouse$Settlement") F hP hD hS k23 rfl (fun _ h => List.mem_cons_of_mem _ (List.mem_append_right _ (h))) tyX4_ok nmX4 9 (Nat.le_of_ble_eq_true rfl) (List.mem_cons_of_mem _ (List.mem_append_left _ (List.mem_of_getElem? (i := 3) rfl))) rfl rfl rfl rfl (Nat.le_of_ble_eq_true rfl) dX4_open_23 (fun w27 ew28 H locs hP hD hS => ?_)
  have k29 : wd_at w27 y (.inr (4, [.ref l0, .ref l1, .ref l2, .ref l3, .ref l4, .ref l5, .ref l6, .ref l7, .int 0, .int 0])) := wd_at.ps ew28 k23
  have k30 := wd_at.pt ew28 k24 (wd_nk k24 k23 rfl)
  have k31 := wd_at.pt ew28 k25 (wd_nk k25 k23 rfl)
  have kp32 := kp26.put ew28 s90
  exact y_vr K hP hD hS (Nat.le_of_ble_eq_true rfl) (Nat.le_of_ble_eq_true rfl) rfl dX4_open_26 (⟨gx4, gx14, rfl, kp32, k29, k30, k31⟩)
set_option maxHeartbeats 4000000 in
set_option maxRecDepth 100000 in
theorem g_paperAt (l : Launch) (D : va_G) (cy : Nat → ClassId) (sk sv : Nat → Nat) (w : Wd) (x a0 a1 a2 a3 a4 a5 a6 a7 a8 a9 a10 a11 pc ac sc sh : Nat) (td : Int32) (x0 : Int32) (tg : Nat → Nat) (pf : Nat → Option Nat) (pa : Nat → Nat) (plv pwo phd pgd pdy pno ptp : Nat → Int32) (c90 : wd_at w x (.inr (10, [.ref a0, .ref a1, .ref a2, .ref a3, .ref a4, .ref a5, .ref a6, .ref a7, .ref a8, .ref a9, .ref a10, .ref a11, .int td, .int (nI pc), .int (nI ac), .int (nI sc), .int (nI sh)]))) (c91 : wd_at w a2 (.inl (cy 6, 30, .inr (.inr (.inr (.inr pf)))))) (hP9 : ∀ k9, k9 < pc → pf k9 = some (pa k9) ∧ wd_at w (pa k9) (.inr (3, [.int (plv k9), .int (pwo k9), .int (phd k9), .int (pgd k9), .int (pdy k9), .int (pno k9), .int (ptp k9)])) ∧ tg (pa k9) = 3000 + k9) (hct : pc ≤ 30) : Ct l D cy sk sv yX10_paperAt wsX10_paperAt ({ frames := 0, cells := 0, slots := 0, locals := 0 }) [.ref x, .int x0] w (fun v w1 => ((v = some .null ∧ (x0 < 0 ∨ nI pc ≤ x0)) ∨ ∃ j, j < pc ∧ x0 = nI j ∧ v = some (.ref (pa j))) ∧ w = w1) := by
  refine Ct.by (cc := cX10_paperAt) (maxL := 2) (ret := (some (.object "NoteHouse$Paper"))) (by decide +kernel) rfl (Nat.le_of_ble_eq_true rfl) ?_
  intro p e s m args below meth c A Q F hnm K ls hl
  have F : wd_Fx p s m args meth c cX10_paperAt 2 wsX10_paperAt RX10 D cy sk sv A := F
  have hl : lv_has ls 2 [(0, .ref x), (1, .int x0)] := hl
  have hx := F.1.1
  have hb := F.1.2.1
  have hown := F.1.2.2.2.1
  have hts := F.1.2.2.2.2
  intro H locs hP hD hS
  refine lv_iload_n hx hb dX10_paperAt_0 rfl (lv_at hl 1 rfl) ?_
  refine lv_if_lt (tgt := 21) hx hb dX10_paperAt_1 (by decide) (fun c_0 => ?_) (fun c_0 => ?_)
  · refine lv_null hx hb dX10_paperAt_21 ?_
    exact y_ar K hP hD hS (Nat.le_of_ble_eq_true rfl) (Nat.le_of_ble_eq_true rfl) rfl (Or.inl ⟨_, rfl⟩) (Or.inl rfl) dX10_paperAt_22 (⟨Or.inl ⟨rfl, Or.inl c_0⟩, rfl⟩)
  · refine lv_iload_n hx hb dX10_paperAt_4 rfl (lv_at hl 1 rfl) ?_
    refine lv_aload_n hx hb dX10_paperAt_5 rfl (lv_at hl 0 rfl) ?_
    refine x_get (ref := "NoteHouse") F hP c90 rfl (fun _ h => List.mem_cons_of_mem _ (List.mem_append_right _ (h))) 13 (Nat.le_of_ble_eq_true rfl) (List.mem_cons_of_mem _ (List.mem_append_left _ (List.mem_of_getElem? (i := 0) rfl))) rfl rfl dX10_paperAt_6 ?_
    refine lv_icmp_ge (tgt := 21) hx hb dX10_paperAt_9 (by decide) (fun c_1 => ?_) (fun c_1 => ?_)
    · refine lv_null hx hb dX10_paperAt_21 ?_
      exact y_ar K hP hD hS (Nat.le_of_ble_eq_true rfl) (Nat.le_of_ble_eq_true rfl) rfl (Or.inl ⟨_, rfl⟩) (Or.inl rfl) dX10_paperAt_22 (⟨Or.inl ⟨rfl, Or.inr c_1⟩, rfl⟩)
    · obtain ⟨jx, hjx, ejx⟩ := nI_of c_0
      have hlx : jx < pc := nI_lt_of (by rw [← ejx]; exact c_1) (by omega)
      refine lv_aload_n hx hb dX10_paperAt_12 rfl (lv_at hl 0 rfl) ?_
      refine x_get (ref := "NoteHouse") F hP c90 rfl (fun _ h => List.mem_cons_of_mem _ (List.mem_append_right _ (h))) 2 (Nat.le_of_ble_eq_true rfl) (List.mem_cons_of_mem _ (List.mem_append_left _ (List.mem_of_getElem? (i := 1) rfl))) rfl rfl dX10_paperAt_13 ?_
      refine lv_iload_n hx hb dX10_paperAt_16 rfl (lv_at hl 1 rfl) ?_
      refine x_aald F hP c91 rfl (by rw [ejx]; exact vp_in_nI (by omega) (by decide)) dX10_paperAt_17 ?_
      rw [ejx, nI_clamp (n := jx) (by omega), (hP9 jx hlx).1]
      refine W.eq (g2 := F0 m _ ls [.ref (pa jx)]) rfl ?_
      refine lv_goto (tgt := 22) hx hb dX10_paperAt_18 (by decide) ?_
      exact y_ar K hP hD hS (Nat.le_of_ble_eq_true rfl) (Nat.le_of_ble_eq_true rfl) rfl (Or.inl ⟨_, rfl⟩) (Or.inr ⟨_, rfl⟩) dX10_paperAt_22 (⟨Or.inr ⟨jx, hlx, ejx, rfl⟩, rfl⟩)
set_option maxHeartbeats 4000000 in
set_option maxRecDepth 100000 in
theorem g_adviceAt (l : Launch) (D : va_G) (cy : Nat → ClassId) (sk sv : Nat → Nat) (w : Wd) (x a0 a1 a2 a3 a4 a5 a6 a7 a8 a9 a10 a11 pc ac sc sh : Nat) (td : Int32) (x0 : Int32) (tg : Nat → Nat) (af : Nat → Option Nat) (ad : Nat → Nat) (av0 av1 av2 av3 : Nat → Int32) (c90 : wd_at w x (.inr (10, [.ref a0, .ref a1, .ref a2, .ref a3, .ref a4, .ref a5, .ref a6, .ref a7, .ref a8, .ref a9, .ref a10, .ref a11, .int td, .int (nI pc), .int (nI ac), .int (nI sc), .int (nI sh)]))) (c91 : wd_at w a3 (.inl (cy 5, 60, .inr (.inr (.inr (.inr af)))))) (hA9 : ∀ k9, k9 < ac → af k9 = some (ad k9) ∧ wd_at w (ad k9) (.inr (0, [.int (av0 k9), .int (av1 k9), .int (av2 k9), .int (av3 k9)])) ∧ tg (ad k9) = 4000 + k9) (hct : ac ≤ 60) : Ct l D cy sk sv yX10_adviceAt wsX10_adviceAt ({ frames := 0, cells := 0, slots := 0, locals := 0 }) [.ref x, .int x0] w (fun v w1 => ((v = some .null ∧ (x0 < 0 ∨ nI ac ≤ x0)) ∨ ∃ j, j < ac ∧ x0 = nI j ∧ v = some (.ref (ad j))) ∧ w = w1) := by
  refine Ct.by (cc := cX10_adviceAt) (maxL := 2) (ret := (some (.object "NoteHouse$Advice"))) (by decide +kernel) rfl (Nat.le_of_ble_eq_true rfl) ?_
  intro p e s m args below meth c A Q F hnm K ls hl
  have F : wd_Fx p s m args meth c cX10_adviceAt 2 wsX10_adviceAt RX10 D cy sk sv A := F
  have hl : lv_has ls 2 [(0, .ref x), (1, .int x0)] := hl
  have hx := F.1.1
  have hb := F.1.2.1
  have hown := F.1.2.2.2.1
  have hts := F.1.2.2.2.2
  intro H locs hP hD hS
  refine lv_iload_n hx hb dX10_adviceAt_0 rfl (lv_at hl 1 rfl) ?_
  refine lv_if_lt (tgt := 21) hx hb dX10_adviceAt_1 (by decide) (fun c_0 => ?_) (fun c_0 => ?_)
  · refine lv_null hx hb dX10_adviceAt_21 ?_
    exact y_ar K hP hD hS (Nat.le_of_ble_eq_true rfl) (Nat.le_of_ble_eq_true rfl) rfl (Or.inl ⟨_, rfl⟩) (Or.inl rfl) dX10_adviceAt_22 (⟨Or.inl ⟨rfl, Or.inl c_0⟩, rfl⟩)
  · refine lv_iload_n hx hb dX10_adviceAt_4 rfl (lv_at hl 1 rfl) ?_
    refine lv_aload_n hx hb dX10_adviceAt_5 rfl (lv_at hl 0 rfl) ?_
    refine x_get (ref := "NoteHouse") F hP c90 rfl (fun _ h => List.mem_cons_of_mem _ (List.mem_append_right _ (h))) 14 (Nat.le_of_ble_eq_true rfl) (List.mem_cons_of_mem _ (List.mem_append_left _ (List.mem_of_getElem? (i := 0) rfl))) rfl rfl dX10_adviceAt_6 ?_
    refine lv_icmp_ge (tgt := 21) hx hb dX10_adviceAt_9 (by decide) (fun c_1 => ?_) (fun c_1 => ?_)
    · refine lv_null hx hb dX10_adviceAt_21 ?_
      exact y_ar K hP hD hS (Nat.le_of_ble_eq_true rfl) (Nat.le_of_ble_eq_true rfl) rfl (Or.inl ⟨_, rfl⟩) (Or.inl rfl) dX10_adviceAt_22 (⟨Or.inl ⟨rfl, Or.inr c_1⟩, rfl⟩)
    · obtain ⟨jx, hjx, ejx⟩ := nI_of c_0
      have hlx : jx < ac := nI_lt_of (by rw [← ejx]; exact c_1) (by omega)
      refine lv_aload_n hx hb dX10_adviceAt_12 rfl (lv_at hl 0 rfl) ?_
      refine x_get (ref := "NoteHouse") F hP c90 rfl (fun _ h => List.mem_cons_of_mem _ (List.mem_append_right _ (h))) 3 (Nat.le_of_ble_eq_true rfl) (List.mem_cons_of_mem _ (List.mem_append_left _ (List.mem_of_getElem? (i := 1) rfl))) rfl rfl dX10_adviceAt_13 ?_
      refine lv_iload_n hx hb dX10_adviceAt_16 rfl (lv_at hl 1 rfl) ?_
      refine x_aald F hP c91 rfl (by rw [ejx]; exact vp_in_nI (by omega) (by decide)) dX10_adviceAt_17 ?_
      rw [ejx, nI_clamp (n := jx) (by omega), (hA9 jx hlx).1]
      refine W.eq (g2 := F0 m _ ls [.ref (ad jx)]) rfl ?_
      refine lv_goto (tgt := 22) hx hb dX10_adviceAt_18 (by decide) ?_
      exact y_ar K hP hD hS (Nat.le_of_ble_eq_true rfl) (Nat.le_of_ble_eq_true rfl) rfl (Or.inl ⟨_, rfl⟩) (Or.inr ⟨_, rfl⟩) dX10_adviceAt_22 (⟨Or.inr ⟨jx, hlx, ejx, rfl⟩, rfl⟩)
set_option maxHeartbeats 4000000 in
set_option maxRecDepth 100000 in
theorem g_stopAt (l : Launch) (D : va_G) (cy : Nat → ClassId) (sk sv : Nat → Nat) (w : Wd) (x a0 a1 a2 a3 a4 a5 a6 a7 a8 a9 a10 a11 pc ac sc sh : Nat) (td : Int32) (x0 : Int32) (tg : Nat → Nat) (zf : Nat → Option Nat) (so sr : Nat → Nat) (sp0 sp1 : Nat → Int32) (sd : Nat → Nat → Int32) (c90 : wd_at w x (.inr (10, [.ref a0, .ref a1, .ref a2, .ref a3, .ref a4, .ref a5, .ref a6, .ref a7, .ref a8, .ref a9, .ref a10, .ref a11, .int td, .int (nI pc), .int (nI ac), .int (nI sc), .int (nI sh)]))) (c91 : wd_at w a4 (.inl (cy 8, 60, .inr (.inr (.inr (.inr zf)))))) (hS9 : ∀ k9, k9 < sc → zf k9 = some (so k9) ∧ wd_at w (so k9) (.inr (6, [.int (sp0 k9), .int (sp1 k9), .ref (sr k9)])) ∧ tg (so k9) = 5000 + k9 ∧ wd_at w (sr k9) (.inl (cy 2, 12, .inl (sd k9))) ∧ tg (sr k9) = 6000 + k9) (hct : sc ≤ 60) : Ct l D cy sk sv yX10_stopAt wsX10_stopAt ({ frames := 0, cells := 0, slots := 0, locals := 0 }) [.ref x, .int x0] w (fun v w1 => ((v = some .null ∧ (x0 < 0 ∨ nI sc ≤ x0)) ∨ ∃ j, j < sc ∧ x0 = nI j ∧ v = some (.ref (so j))) ∧ w = w1) := by
  refine Ct.by (cc := cX10_stopAt) (maxL := 2) (ret := (some (.object "NoteHouse$Stop"))) (by decide +kernel) rfl (Nat.le_of_ble_eq_true rfl) ?_
  intro p e s m args below meth c A Q F hnm K ls hl
  have F : wd_Fx p s m args meth c cX10_stopAt 2 wsX10_stopAt RX10 D cy sk sv A := F
  have hl : lv_has ls 2 [(0, .ref x), (1, .int x0)] := hl
  have hx := F.1.1
  have hb := F.1.2.1
  have hown := F.1.2.2.2.1
  have hts := F.1.2.2.2.2
  intro H locs hP hD hS
  refine lv_iload_n hx hb dX10_stopAt_0 rfl (lv_at hl 1 rfl) ?_
  refine lv_if_lt (tgt := 21) hx hb dX10_stopAt_1 (by decide) (fun c_0 => ?_) (fun c_0 => ?_)
  · refine lv_null hx hb dX10_stopAt_21 ?_
    exact y_ar K hP hD hS (Nat.le_of_ble_eq_true rfl) (Nat.le_of_ble_eq_true rfl) rfl (Or.inl ⟨_, rfl⟩) (Or.inl rfl) dX10_stopAt_22 (⟨Or.inl ⟨rfl, Or.inl c_0⟩, rfl⟩)
  · refine lv_iload_n hx hb dX10_stopAt_4 rfl (lv_at hl 1 rfl) ?_
    refine lv_aload_n hx hb dX10_stopAt_5 rfl (lv_at hl 0 rfl) ?_
    refine x_get (ref := "NoteHouse") F hP c90 rfl (fun _ h => List.mem_cons_of_mem _ (List.mem_append_right _ (h))) 15 (Nat.le_of_ble_eq_true rfl) (List.mem_cons_of_mem _ (List.mem_append_left _ (List.mem_of_getElem? (i := 0) rfl))) rfl rfl dX10_stopAt_6 ?_
    refine lv_icmp_ge (tgt := 21) hx hb dX10_stopAt_9 (by decide) (fun c_1 => ?_) (fun c_1 => ?_)
    · refine lv_null hx hb dX10_stopAt_21 ?_
      exact y_ar K hP hD hS (Nat.le_of_ble_eq_true rfl) (Nat.le_of_ble_eq_true rfl) rfl (Or.inl ⟨_, rfl⟩) (Or.inl rfl) dX10_stopAt_22 (⟨Or.inl ⟨rfl, Or.inr c_1⟩, rfl⟩)
    · obtain ⟨jx, hjx, ejx⟩ := nI_of c_0
      have hlx : jx < sc := nI_lt_of (by rw [← ejx]; exact c_1) (by omega)
      refine lv_aload_n hx hb dX10_stopAt_12 rfl (lv_at hl 0 rfl) ?_
      refine x_get (ref := "NoteHouse") F hP c90 rfl (fun _ h => List.mem_cons_of_mem _ (List.mem_append_right _ (h))) 4 (Nat.le_of_ble_eq_true rfl) (List.mem_cons_of_mem _ (List.mem_append_left _ (List.mem_of_getElem? (i := 1) rfl))) rfl rfl dX10_stopAt_13 ?_
      refine lv_iload_n hx hb dX10_stopAt_16 rfl (lv_at hl 1 rfl) ?_
      refine x_aald F hP c91 rfl (by rw [ejx]; exact vp_in_nI (by omega) (by decide)) dX10_stopAt_17 ?_
      rw [ejx, nI_clamp (n := jx) (by omega), (hS9 jx hlx).1]
      refine W.eq (g2 := F0 m _ ls [.ref (so jx)]) rfl ?_
      refine lv_goto (tgt := 22) hx hb dX10_stopAt_18 (by decide) ?_
      exact y_ar K hP hD hS (Nat.le_of_ble_eq_true rfl) (Nat.le_of_ble_eq_true rfl) rfl (Or.inl ⟨_, rfl⟩) (Or.inr ⟨_, rfl⟩) dX10_stopAt_22 (⟨Or.inr ⟨jx, hlx, ejx, rfl⟩, rfl⟩)
set_option maxHeartbeats 4000000 in
set_option maxRecDepth 100000 in
theorem g_shownAt (l : Launch) (D : va_G) (cy : Nat → ClassId) (sk sv : Nat → Nat) (w : Wd) (x a0 a1 a2 a3 a4 a5 a6 a7 a8 a9 a10 a11 pc ac sc sh : Nat) (td : Int32) (x0 : Int32) (tg : Nat → Nat) (hf : Nat → Option Nat) (sw hto : Nat → Nat) (hpp hle ham hhh hdd hru hde hcp hld : Nat → Int32) (c90 : wd_at w x (.inr (10, [.ref a0, .ref a1, .ref a2, .ref a3, .ref a4, .ref a5, .ref a6, .ref a7, .ref a8, .ref a9, .ref a10, .ref a11, .int td, .int (nI pc), .int (nI ac), .int (nI sc), .int (nI sh)]))) (c91 : wd_at w a5 (.inl (cy 7, 200, .inr (.inr (.inr (.inr hf)))))) (hH9 : ∀ k9, k9 < sh → (hf k9 = some (sw k9) ∧ hto k9 < 12) ∧ wd_at w (sw k9) (.inr (5, [.int (nI (hto k9)), .int (hpp k9), .int (hle k9), .int (ham k9), .int (hhh k9), .int (hdd k9), .int (hru k9), .int (hde k9), .int (hcp k9), .int (hld k9)])) ∧ tg (sw k9) = 7000 + k9) (hct : sh ≤ 200) : Ct l D cy sk sv yX10_shownAt wsX10_shownAt ({ frames := 0, cells := 0, slots := 0, locals := 0 }) [.ref x, .int x0] w (fun v w1 => ((v = some .null ∧ (x0 < 0 ∨ nI sh ≤ x0)) ∨ ∃ j, j < sh ∧ x0 = nI j ∧ v = some (.ref (sw j))) ∧ w = w1) := by
  refine Ct.by (cc := cX10_shownAt) (maxL := 2) (ret := (some (.object "NoteHouse$Shown"))) (by decide +kernel) rfl (Nat.le_of_ble_eq_true rfl) ?_
  intro p e s m args below meth c A Q F hnm K ls hl
  have F : wd_Fx p s m args meth c cX10_shownAt 2 wsX10_shownAt RX10 D cy sk sv A := F
  have hl : lv_has ls 2 [(0, .ref x), (1, .int x0)] := hl
  have hx := F.1.1
  have hb := F.1.2.1
  have hown := F.1.2.2.2.1
  have hts := F.1.2.2.2.2
  intro H locs hP hD hS
  refine lv_iload_n hx hb dX10_shownAt_0 rfl (lv_at hl 1 rfl) ?_
  refine lv_if_lt (tgt := 21) hx hb dX10_shownAt_1 (by decide) (fun c_0 => ?_) (fun c_0 => ?_)
  · refine lv_null hx hb dX10_shownAt_21 ?_
    exact y_ar K hP hD hS (Nat.le_of_ble_eq_true rfl) (Nat.le_of_ble_eq_true rfl) rfl (Or.inl ⟨_, rfl⟩) (Or.inl rfl) dX10_shownAt_22 (⟨Or.inl ⟨rfl, Or.inl c_0⟩, rfl⟩)
  · refine lv_iload_n hx hb dX10_shownAt_4 rfl (lv_at hl 1 rfl) ?_
    refine lv_aload_n hx hb dX10_shownAt_5 rfl (lv_at hl 0 rfl) ?_
    refine x_get (ref := "NoteHouse") F hP c90 rfl (fun _ h => List.mem_cons_of_mem _ (List.mem_append_right _ (h))) 16 (Nat.le_of_ble_eq_true rfl) (List.mem_cons_of_mem _ (List.mem_append_left _ (List.mem_of_getElem? (i := 0) rfl))) rfl rfl dX10_shownAt_6 ?_
    refine lv_icmp_ge (tgt := 21) hx hb dX10_shownAt_9 (by decide) (fun c_1 => ?_) (fun c_1 => ?_)
    · refine lv_null hx hb dX10_shownAt_21 ?_
      exact y_ar K hP hD hS (Nat.le_of_ble_eq_true rfl) (Nat.le_of_ble_eq_true rfl) rfl (Or.inl ⟨_, rfl⟩) (Or.inl rfl) dX10_shownAt_22 (⟨Or.inl ⟨rfl, Or.inr c_1⟩, rfl⟩)
    · obtain ⟨jx, hjx, ejx⟩ := nI_of c_0
      have hlx : jx < sh := nI_lt_of (by rw [← ejx]; exact c_1) (by omega)
      refine lv_aload_n hx hb dX10_shownAt_12 rfl (lv_at hl 0 rfl) ?_
      refine x_get (ref := "NoteHouse") F hP c90 rfl (fun _ h => List.mem_cons_of_mem _ (List.mem_append_right _ (h))) 5 (Nat.le_of_ble_eq_true rfl) (List.mem_cons_of_mem _ (List.mem_append_left _ (List.mem_of_getElem? (i := 1) rfl))) rfl rfl dX10_shownAt_13 ?_
      refine lv_iload_n hx hb dX10_shownAt_16 rfl (lv_at hl 1 rfl) ?_
      refine x_aald F hP c91 rfl (by rw [ejx]; exact vp_in_nI (by omega) (by decide)) dX10_shownAt_17 ?_
      rw [ejx, nI_clamp (n := jx) (by omega), ((hH9 jx hlx).1).1]
      refine W.eq (g2 := F0 m _ ls [.ref (sw jx)]) rfl ?_
      refine lv_goto (tgt := 22) hx hb dX10_shownAt_18 (by decide) ?_
      exact y_ar K hP hD hS (Nat.le_of_ble_eq_true rfl) (Nat.le_of_ble_eq_true rfl) rfl (Or.inl ⟨_, rfl⟩) (Or.inr ⟨_, rfl⟩) dX10_shownAt_22 (⟨Or.inr ⟨jx, hlx, ejx, rfl⟩, rfl⟩)
