theorem fl_s {i n : Nat} {g : Nat → Int32} {x : Int32} (hi : i < n) (hn : n < 2 ^ 31) (hg : ∀ j, j < i → g j = x) : ∀ j, j < i + 1 → upd g (nI i).toNatClampNeg x j = x := by
  intro j hj
  rw [nI_clamp (by omega)]
  by_cases h : j = i
  · rw [h, pk_us]
  · rw [pk_un h]; exact hg j (by omega)
theorem fl_l {i n : Nat} {g : Nat → Int64} {x : Int64} (hi : i < n) (hn : n < 2 ^ 31) (hg : ∀ j, j < i → g j = x) : ∀ j, j < i + 1 → vp_updL g (nI i).toNatClampNeg x j = x := by
  intro j hj
  rw [nI_clamp (by omega)]
  by_cases h : j = i
  · rw [h, pk_uLs]
  · rw [pk_uLn h]; exact hg j (by omega)
set_option maxHeartbeats 4000000 in
set_option maxRecDepth 100000 in
theorem c_J7_fill_53178 (l : Launch) (D : va_G) (cy : Nat → ClassId) (w : Wd) (a n : Nat) (f : Nat → Int32) (x : Int32) (ha : wd_at w a (.inl (cy 2, n, .inl f)))  (S : Nat → Prop) (sa : S a) (hn : n < 2 ^ 31) : Ct l D cy yJ7_fill_53178 wsJ7_fill_53178 ({ frames := 0, cells := 0, slots := 0, locals := 0 }) [.ref a, .int x] w (fun v w1 => v = none ∧ wd_kp S w w1 ∧ ∃ g : Nat → Int32, (∀ j, j < n → g j = x) ∧ wd_at w1 a (.inl (cy 2, n, .inl g))) := by
  refine Ct.by (cc := cJ7_fill_53178) (maxL := 4) (ret := none) (by decide +kernel) rfl (Nat.le_of_ble_eq_true rfl) ?_
  intro p e s m args below meth c A Q F hnm K ls hl
  have F : wd_Fx p s m args meth c cJ7_fill_53178 4 wsJ7_fill_53178 RJ7 D cy A := F
  have hl : lv_has ls 4 [(0, .ref a), (1, .int x)] := hl
  have hx := F.1.1
  have hb := F.1.2.1
  have hown := F.1.2.2.2.1
  have hts := F.1.2.2.2.2
  intro H locs hP hD hS
  have kp0 : wd_kp S w w := wd_kp.rf
  refine lv_iconst (v := 0) hx hb dJ7_fill_53178_0 (by decide) ?_
  refine lv_istore_n (lv' := [(2, .int 0), (0, .ref a), (1, .int x)]) hx hb dJ7_fill_53178_1 rfl hl (by decide) rfl (fun ls hl => ?_)
  refine lv_aload_n hx hb dJ7_fill_53178_2 rfl (lv_at hl 1 rfl) ?_
  refine x_alen F hP ha rfl (v := nI n) rfl dJ7_fill_53178_3 ?_
  refine lv_istore_n (lv' := [(3, .int (nI n)), (2, .int 0), (0, .ref a), (1, .int x)]) hx hb dJ7_fill_53178_4 rfl hl (by decide) rfl (fun ls hl => ?_)
  have lp5 : ∀ (N : Nat) (i : Nat) (g : Nat → Int32) (w1 : Wd), (i + N = n) → (∀ j, j < i → g j = x) → (wd_at w1 a (.inl (cy 2, n, .inl g))) → (wd_kp S w w1) → ∀ (ls : Array Slot), lv_has ls 4 [(0, .ref a), (1, .int x), (2, .int (nI i)), (3, .int (nI n))] → Wv p l e ({ frames := 0, cells := 0, slots := 0, locals := 0 }) s m args below meth c D A 0 0 Q w1 (F0 m 5 ls []) := by
    intro N
    induction N with
    | zero =>
      intro i g w1 hN5 hg k2 kp3 ls hl H locs hP hD hS
      refine lv_iload_n hx hb dJ7_fill_53178_5 rfl (lv_at hl 2 rfl) ?_
      refine lv_iload_n hx hb dJ7_fill_53178_6 rfl (lv_at hl 3 rfl) ?_
      refine lv_icmp_ge (tgt := 20) hx hb dJ7_fill_53178_7 (by decide) (fun c_4 => ?_) (fun c_4 => absurd (nI_le (a := n) (b := i) (by omega) (by omega)) c_4)
      exact y_vr K hP hD hS (Nat.le_of_ble_eq_true rfl) (Nat.le_of_ble_eq_true rfl) rfl dJ7_fill_53178_20 (⟨rfl, kp3, g, fun j hj => hg j (by omega), k2⟩)
    | succ N ih5 =>
      intro i g w1 hN5 hg k2 kp3 ls hl H locs hP hD hS
      refine lv_iload_n hx hb dJ7_fill_53178_5 rfl (lv_at hl 2 rfl) ?_
      refine lv_iload_n hx hb dJ7_fill_53178_6 rfl (lv_at hl 3 rfl) ?_
      refine lv_icmp_ge (tgt := 20) hx hb dJ7_fill_53178_7 (by decide) (fun c_5 => absurd c_5 (nI_ge (a := i) (b := n) (by omega) (by omega))) (fun c_5 => ?_)
      refine lv_aload_n hx hb dJ7_fill_53178_10 rfl (lv_at hl 0 rfl) ?_
      refine lv_iload_n hx hb dJ7_fill_53178_11 rfl (lv_at hl 2 rfl) ?_
      refine lv_iload_n hx hb dJ7_fill_53178_12 rfl (lv_at hl 1 rfl) ?_
      refine y_iast F hP hD hS k2 (vp_in_nI (n := i) (by omega) hn) dJ7_fill_53178_13 (fun w6 ew7 H locs hP hD hS => ?_)
      have k8 : wd_at w6 a (.inl (cy 2, n, .inl (upd g (nI i).toNatClampNeg x))) := wd_at.ps ew7 k2
      have kp9 := kp3.put ew7 sa
      refine lv_iinc (v := nI (i + 1)) (lv' := [(2, .int (nI (i + 1))), (0, .ref a), (1, .int x), (3, .int (nI n))]) hx hb dJ7_fill_53178_14 hl (k := 2) rfl (nI_1 i) (by decide) rfl (fun ls hl => ?_)
      refine lv_goto (tgt := 5) hx hb dJ7_fill_53178_17 (by decide) ?_
      exact ih5 (i + 1) (upd g (nI i).toNatClampNeg x) w6 (by omega) (fl_s (i := i) (n := n) (by omega) hn hg) k8 kp9 ls (lv_sub hl [1, 2, 0, 3] rfl) H locs hP hD hS
  exact lp5 _ 0 f w (Nat.zero_add n) (fun j hj => absurd hj (Nat.not_lt_zero j)) ha kp0 ls (lv_sub hl [2, 3, 1, 0] rfl) H locs hP hD hS
set_option maxHeartbeats 4000000 in
set_option maxRecDepth 100000 in
theorem c_J7_fill_d0a16 (l : Launch) (D : va_G) (cy : Nat → ClassId) (w : Wd) (a n : Nat) (f : Nat → Int64) (x : Int64) (ha : wd_at w a (.inl (cy 3, n, .inr (.inl f))))  (S : Nat → Prop) (sa : S a) (hn : n < 2 ^ 31) : Ct l D cy yJ7_fill_d0a16 wsJ7_fill_d0a16 ({ frames := 0, cells := 0, slots := 0, locals := 0 }) [.ref a, .long x] w (fun v w1 => v = none ∧ wd_kp S w w1 ∧ ∃ g : Nat → Int64, (∀ j, j < n → g j = x) ∧ wd_at w1 a (.inl (cy 3, n, .inr (.inl g)))) := by
  refine Ct.by (cc := cJ7_fill_d0a16) (maxL := 5) (ret := none) (by decide +kernel) rfl (Nat.le_of_ble_eq_true rfl) ?_
  intro p e s m args below meth c A Q F hnm K ls hl
  have F : wd_Fx p s m args meth c cJ7_fill_d0a16 5 wsJ7_fill_d0a16 RJ7 D cy A := F
  have hl : lv_has ls 5 [(0, .ref a), (1, .long x)] := hl
  have hx := F.1.1
  have hb := F.1.2.1
  have hown := F.1.2.2.2.1
  have hts := F.1.2.2.2.2
  intro H locs hP hD hS
  have kp0 : wd_kp S w w := wd_kp.rf
  refine lv_iconst (v := 0) hx hb dJ7_fill_d0a16_0 (by decide) ?_
  refine lv_istore_n (lv' := [(3, .int 0), (0, .ref a), (1, .long x)]) hx hb dJ7_fill_d0a16_1 rfl hl (by decide) rfl (fun ls hl => ?_)
  refine lv_aload_n hx hb dJ7_fill_d0a16_2 rfl (lv_at hl 1 rfl) ?_
  refine x_alen F hP ha rfl (v := nI n) rfl dJ7_fill_d0a16_3 ?_
  refine lv_istore (lv' := [(4, .int (nI n)), (3, .int 0), (0, .ref a), (1, .long x)]) hx hb dJ7_fill_d0a16_4 hl (by decide) rfl (fun ls hl => ?_)
  have lp6 : ∀ (N : Nat) (i : Nat) (g : Nat → Int64) (w1 : Wd), (i + N = n) → (∀ j, j < i → g j = x) → (wd_at w1 a (.inl (cy 3, n, .inr (.inl g)))) → (wd_kp S w w1) → ∀ (ls : Array Slot), lv_has ls 5 [(0, .ref a), (1, .long x), (3, .int (nI i)), (4, .int (nI n))] → Wv p l e ({ frames := 0, cells := 0, slots := 0, locals := 0 }) s m args below meth c D A 0 0 Q w1 (F0 m 6 ls []) := by
    intro N
    induction N with
    | zero =>
      intro i g w1 hN6 hg k2 kp3 ls hl H locs hP hD hS
      refine lv_iload_n hx hb dJ7_fill_d0a16_6 rfl (lv_at hl 2 rfl) ?_
      refine lv_iload hx hb dJ7_fill_d0a16_7 (lv_at hl 3 rfl) ?_
      refine lv_icmp_ge (tgt := 22) hx hb dJ7_fill_d0a16_9 (by decide) (fun c_4 => ?_) (fun c_4 => absurd (nI_le (a := n) (b := i) (by omega) (by omega)) c_4)
      exact y_vr K hP hD hS (Nat.le_of_ble_eq_true rfl) (Nat.le_of_ble_eq_true rfl) rfl dJ7_fill_d0a16_22 (⟨rfl, kp3, g, fun j hj => hg j (by omega), k2⟩)
    | succ N ih6 =>
      intro i g w1 hN6 hg k2 kp3 ls hl H locs hP hD hS
      refine lv_iload_n hx hb dJ7_fill_d0a16_6 rfl (lv_at hl 2 rfl) ?_
      refine lv_iload hx hb dJ7_fill_d0a16_7 (lv_at hl 3 rfl) ?_
      refine lv_icmp_ge (tgt := 22) hx hb dJ7_fill_d0a16_9 (by decide) (fun c_5 => absurd c_5 (nI_ge (a := i) (b := n) (by omega) (by omega))) (fun c_5 => ?_)
      refine lv_aload_n hx hb dJ7_fill_d0a16_12 rfl (lv_at hl 0 rfl) ?_
      refine lv_iload_n hx hb dJ7_fill_d0a16_13 rfl (lv_at hl 2 rfl) ?_
      refine lv_lload_n hx hb dJ7_fill_d0a16_14 rfl (lv_at hl 1 rfl) ?_
      refine y_last F hP hD hS k2 (vp_in_nI (n := i) (by omega) hn) dJ7_fill_d0a16_15 (fun w6 ew7 H locs hP hD hS => ?_)
      have k8 : wd_at w6 a (.inl (cy 3, n, .inr (.inl (vp_updL g (nI i).toNatClampNeg x)))) := wd_at.ps ew7 k2
      have kp9 := kp3.put ew7 sa
      refine lv_iinc (v := nI (i + 1)) (lv' := [(3, .int (nI (i + 1))), (0, .ref a), (1, .long x), (4, .int (nI n))]) hx hb dJ7_fill_d0a16_16 hl (k := 2) rfl (nI_1 i) (by decide) rfl (fun ls hl => ?_)
      refine lv_goto (tgt := 6) hx hb dJ7_fill_d0a16_19 (by decide) ?_
      exact ih6 (i + 1) (vp_updL g (nI i).toNatClampNeg x) w6 (by omega) (fl_l (i := i) (n := n) (by omega) hn hg) k8 kp9 ls (lv_sub hl [1, 2, 0, 3] rfl) H locs hP hD hS
  exact lp6 _ 0 f w (Nat.zero_add n) (fun j hj => absurd hj (Nat.not_lt_zero j)) ha kp0 ls (lv_sub hl [2, 3, 1, 0] rfl) H locs hP hD hS
set_option maxHeartbeats 4000000 in
set_option maxRecDepth 100000 in
theorem c_X7_rewind (l : Launch) (D : va_G) (cy : Nat → ClassId) (w : Wd) (t b : Nat) (at0 : Int32) (hc : wd_at w t (.inr (7, [.ref b, .int 0, .int at0])))  (S : Nat → Prop) (st : S t)  : Ct l D cy yX7_rewind wsX7_rewind ({ frames := 0, cells := 0, slots := 0, locals := 0 }) [.ref t] w (fun v w1 => v = none ∧ wd_kp S w w1 ∧ wd_at w1 t (.inr (7, [.ref b, .int 0, .int 0]))) := by
  refine Ct.by (cc := cX7_rewind) (maxL := 1) (ret := none) (by decide +kernel) rfl (Nat.le_of_ble_eq_true rfl) ?_
  intro p e s m args below meth c A Q F hnm K ls hl
  have F : wd_Fx p s m args meth c cX7_rewind 1 wsX7_rewind RX7 D cy A := F
  have hl : lv_has ls 1 [(0, .ref t)] := hl
  have hx := F.1.1
  have hb := F.1.2.1
  have hown := F.1.2.2.2.1
  have hts := F.1.2.2.2.2
  intro H locs hP hD hS
  have kp0 : wd_kp S w w := wd_kp.rf
  refine lv_aload_n hx hb dX7_rewind_0 rfl (lv_at hl 0 rfl) ?_
  refine lv_iconst (v := 0) hx hb dX7_rewind_1 (by decide) ?_
  refine y_put (ref := "NoteHouse$Tape") F hP hD hS hc rfl (fun _ h => List.mem_cons_of_mem _ (List.mem_append_right _ (h))) tyX7_ok nmX7 2 (Nat.le_of_ble_eq_true rfl) (List.mem_cons_of_mem _ (List.mem_append_left _ (List.mem_of_getElem? (i := 0) rfl))) rfl rfl rfl rfl (Nat.le_of_ble_eq_true rfl) dX7_rewind_2 (fun w1 ew2 H locs hP hD hS => ?_)
  have k3 : wd_at w1 t (.inr (7, [.ref b, .int 0, .int 0])) := wd_at.ps ew2 hc
  have kp4 := kp0.put ew2 st
  exact y_vr K hP hD hS (Nat.le_of_ble_eq_true rfl) (Nat.le_of_ble_eq_true rfl) rfl dX7_rewind_5 (⟨rfl, kp4, k3⟩)
set_option maxHeartbeats 4000000 in
set_option maxRecDepth 100000 in
theorem c_X7_nextPlace (l : Launch) (D : va_G) (cy : Nat → ClassId) (w : Wd) (t b : Nat) (hc : wd_at w t (.inr (7, [.ref b, .int 0, .int 0])))   : Ct l D cy yX7_nextPlace wsX7_nextPlace ({ frames := 0, cells := 0, slots := 0, locals := 0 }) [.ref t] w (fun v w1 => v = some (.int 0) ∧ w = w1) := by
  refine Ct.by (cc := cX7_nextPlace) (maxL := 1) (ret := (some .int)) (by decide +kernel) rfl (Nat.le_of_ble_eq_true rfl) ?_
  intro p e s m args below meth c A Q F hnm K ls hl
  have F : wd_Fx p s m args meth c cX7_nextPlace 1 wsX7_nextPlace RX7 D cy A := F
  have hl : lv_has ls 1 [(0, .ref t)] := hl
  have hx := F.1.1
  have hb := F.1.2.1
  have hown := F.1.2.2.2.1
  have hts := F.1.2.2.2.2
  intro H locs hP hD hS
  refine lv_aload_n hx hb dX7_nextPlace_0 rfl (lv_at hl 0 rfl) ?_
  refine x_get (ref := "NoteHouse$Tape") F hP hc rfl (fun _ h => List.mem_cons_of_mem _ (List.mem_append_right _ (h))) 2 (Nat.le_of_ble_eq_true rfl) (List.mem_cons_of_mem _ (List.mem_append_left _ (List.mem_of_getElem? (i := 0) rfl))) rfl rfl dX7_nextPlace_1 ?_
  refine lv_aload_n hx hb dX7_nextPlace_4 rfl (lv_at hl 0 rfl) ?_
  refine x_get (ref := "NoteHouse$Tape") F hP hc rfl (fun _ h => List.mem_cons_of_mem _ (List.mem_append_right _ (h))) 1 (Nat.le_of_ble_eq_true rfl) (List.mem_cons_of_mem _ (List.mem_append_left _ (List.mem_of_getElem? (i := 1) rfl))) rfl rfl dX7_nextPlace_5 ?_
  refine lv_icmp_ge (tgt := 38) hx hb dX7_nextPlace_8 (by decide) (fun c_1 => ?_) (fun c_1 => absurd (show (0 : Int32) ≤ (0 : Int32) by decide) c_1)
  refine lv_aload_n hx hb dX7_nextPlace_38 rfl (lv_at hl 0 rfl) ?_
  refine x_get (ref := "NoteHouse$Tape") F hP hc rfl (fun _ h => List.mem_cons_of_mem _ (List.mem_append_right _ (h))) 2 (Nat.le_of_ble_eq_true rfl) (List.mem_cons_of_mem _ (List.mem_append_left _ (List.mem_of_getElem? (i := 0) rfl))) rfl rfl dX7_nextPlace_39 ?_
  exact y_ir K hP hD hS (Nat.le_of_ble_eq_true rfl) (Nat.le_of_ble_eq_true rfl) (ty := .int) rfl rfl dX7_nextPlace_42 (⟨rfl, rfl⟩)
set_option maxHeartbeats 4000000 in
set_option maxRecDepth 100000 in
theorem c_X7_isOver (l : Launch) (D : va_G) (cy : Nat → ClassId) (w : Wd) (t b : Nat) (hc : wd_at w t (.inr (7, [.ref b, .int 0, .int 0])))   : Ct l D cy yX7_isOver wsX7_isOver ({ frames := 1, cells := 0, slots := 0, locals := 20 }) [.ref t] w (fun v w1 => v = some (.int 1) ∧ w = w1) := by
  refine Ct.by (cc := cX7_isOver) (maxL := 1) (ret := (some .boolean)) (by decide +kernel) rfl (Nat.le_of_ble_eq_true rfl) ?_
  intro p e s m args below meth c A Q F hnm K ls hl
  have F : wd_Fx p s m args meth c cX7_isOver 1 wsX7_isOver RX7 D cy A := F
  have hl : lv_has ls 1 [(0, .ref t)] := hl
  have hx := F.1.1
  have hb := F.1.2.1
  have hown := F.1.2.2.2.1
  have hts := F.1.2.2.2.2
  intro H locs hP hD hS
  refine lv_aload_n hx hb dX7_isOver_0 rfl (lv_at hl 0 rfl) ?_
  refine x_callV (n := 0) (As := []) (rest := []) F hP hD hS (c_X7_nextPlace l D cy w t b hc) gX7_isOver_X7_nextPlace rfl rfl (by decide +kernel) ⟨(Nat.le_of_ble_eq_true rfl), (Nat.le_of_ble_eq_true rfl)⟩ rfl hl.1 (Nat.le_of_ble_eq_true rfl) hc rfl dX7_isOver_1 rfl ⟨(Nat.le_of_ble_eq_true rfl), (Nat.le_of_ble_eq_true rfl)⟩ (fun v2 w3 hp1 H locs hP hD hS => ?_)
  obtain ⟨rfl, rfl⟩ := hp1
  refine W.eq (g2 := F0 m 4 ls [.int 0]) rfl (W.widen (k := 0) (n := 0) (Nat.le_of_ble_eq_true rfl) (Nat.le_of_ble_eq_true rfl) ?_)
  refine lv_aload_n hx hb dX7_isOver_4 rfl (lv_at hl 0 rfl) ?_
  refine x_get (ref := "NoteHouse$Tape") F hP hc rfl (fun _ h => List.mem_cons_of_mem _ (List.mem_append_right _ (h))) 1 (Nat.le_of_ble_eq_true rfl) (List.mem_cons_of_mem _ (List.mem_append_left _ (List.mem_of_getElem? (i := 0) rfl))) rfl rfl dX7_isOver_5 ?_
  refine lv_icmp_lt (tgt := 15) hx hb dX7_isOver_8 (by decide) (fun c_4 => absurd c_4 (show ¬ (0 : Int32) < (0 : Int32) by decide)) (fun c_4 => ?_)
  refine lv_iconst (v := 1) hx hb dX7_isOver_11 (by decide) ?_
  refine lv_goto (tgt := 16) hx hb dX7_isOver_12 (by decide) ?_
  exact y_ir K hP hD hS (Nat.le_of_ble_eq_true rfl) (Nat.le_of_ble_eq_true rfl) (ty := .boolean) rfl rfl dX7_isOver_16 (⟨rfl, rfl⟩)
set_option maxHeartbeats 4000000 in
set_option maxRecDepth 100000 in
theorem c_X1_learn (l : Launch) (D : va_G) (cy : Nat → ClassId) (w : Wd) (q g0 g1 g2 g3 g4 t b : Nat) (r at0 : Int32) (hq : wd_at w q (.inr (1, [.ref g0, .ref g1, .ref g2, .ref g3, .ref g4, .int r]))) (hc : wd_at w t (.inr (7, [.ref b, .int 0, .int at0])))  (S : Nat → Prop) (sq : S q) (st : S t)  : Ct l D cy yX1_learn wsX1_learn ({ frames := 2, cells := 0, slots := 0, locals := 40 }) [.ref q, .ref t] w (fun v w1 => v = some (.int 0) ∧ wd_kp S w w1 ∧ wd_at w1 q (.inr (1, [.ref g0, .ref g1, .ref g2, .ref g3, .ref g4, .int 0])) ∧ wd_at w1 t (.inr (7, [.ref b, .int 0, .int 0]))) := by
  refine Ct.by (cc := cX1_learn) (maxL := 4) (ret := (some .int)) (by decide +kernel) rfl (Nat.le_of_ble_eq_true rfl) ?_
  intro p e s m args below meth c A Q F hnm K ls hl
  have F : wd_Fx p s m args meth c cX1_learn 4 wsX1_learn RX1 D cy A := F
  have hl : lv_has ls 4 [(0, .ref q), (1, .ref t)] := hl
  have hx := F.1.1
  have hb := F.1.2.1
  have hown := F.1.2.2.2.1
  have hts := F.1.2.2.2.2
  intro H locs hP hD hS
  have kp0 : wd_kp S w w := wd_kp.rf
  refine lv_aload_n hx hb dX1_learn_0 rfl (lv_at hl 0 rfl) ?_
  refine lv_iconst (v := 0) hx hb dX1_learn_1 (by decide) ?_
  refine y_put (ref := "NoteHouse$Agent") F hP hD hS hq rfl (fun _ h => List.mem_cons_of_mem _ (List.mem_append_left _ (List.mem_append_right _ (h)))) tyX1_ok nmX1 5 (Nat.le_of_ble_eq_true rfl) (List.mem_cons_of_mem _ (List.mem_append_left _ (List.mem_append_left _ (List.mem_append_left _ (List.mem_of_getElem? (i := 0) rfl))))) rfl rfl rfl rfl (Nat.le_of_ble_eq_true rfl) dX1_learn_2 (fun w1 ew2 H locs hP hD hS => ?_)
  have k3 : wd_at w1 q (.inr (1, [.ref g0, .ref g1, .ref g2, .ref g3, .ref g4, .int 0])) := wd_at.ps ew2 hq
  have k4 := wd_at.pt ew2 hc (wd_nk hc hq rfl)
  have kp5 := kp0.put ew2 sq
  refine lv_aload_n hx hb dX1_learn_5 rfl (lv_at hl 1 rfl) ?_
  refine x_callV (n := 0) (As := []) (rest := []) F hP hD hS (c_X7_rewind l D cy w1 t b at0 k4 (fun b => b = t) rfl) gX1_learn_X7_rewind rfl rfl (by decide +kernel) ⟨(Nat.le_of_ble_eq_true rfl), (Nat.le_of_ble_eq_true rfl)⟩ rfl hl.1 (Nat.le_of_ble_eq_true rfl) k4 rfl dX1_learn_6 rfl ⟨(Nat.le_of_ble_eq_true rfl), (Nat.le_of_ble_eq_true rfl)⟩ (fun v7 w8 hp6 H locs hP hD hS => ?_)
  obtain ⟨rfl, hp6, k9⟩ := hp6
  have k10 := hp6.2 _ _ k3 (fun q : q = t => (wd_nk k3 k4 rfl) q)
  have kp11 := kp5.tr hp6 (fun b hm q => (fun q => q ▸ st) q)
  refine W.eq (g2 := F0 m 9 ls []) rfl (W.widen (k := 0) (n := 0) (Nat.le_of_ble_eq_true rfl) (Nat.le_of_ble_eq_true rfl) ?_)
  refine lv_aload_n hx hb dX1_learn_9 rfl (lv_at hl 1 rfl) ?_
  refine x_callV (n := 0) (As := []) (rest := []) F hP hD hS (c_X7_isOver l D cy w8 t b k9) gX1_learn_X7_isOver rfl rfl (by decide +kernel) ⟨(Nat.le_of_ble_eq_true rfl), (Nat.le_of_ble_eq_true rfl)⟩ rfl hl.1 (Nat.le_of_ble_eq_true rfl) k9 rfl dX1_learn_10 rfl ⟨(Nat.le_of_ble_eq_true rfl), (Nat.le_of_ble_eq_true rfl)⟩ (fun v13 w14 hp12 H locs hP hD hS => ?_)
  obtain ⟨rfl, rfl⟩ := hp12
  refine W.eq (g2 := F0 m 13 ls [.int 1]) rfl (W.widen (k := 0) (n := 0) (Nat.le_of_ble_eq_true rfl) (Nat.le_of_ble_eq_true rfl) ?_)
  refine lv_if_eq (tgt := 18) hx hb dX1_learn_13 (by decide) (fun c_15 => absurd c_15 (show ¬ (1 : Int32) = (0 : Int32) by decide)) (fun c_15 => ?_)
  refine lv_iconst (v := 0) hx hb dX1_learn_16 (by decide) ?_
  exact y_ir K hP hD hS (Nat.le_of_ble_eq_true rfl) (Nat.le_of_ble_eq_true rfl) (ty := .int) rfl rfl dX1_learn_17 (⟨rfl, kp11, k10, k9⟩)
set_option maxHeartbeats 4000000 in
set_option maxRecDepth 100000 in
theorem c_X10_text (l : Launch) (D : va_G) (cy : Nat → ClassId) (w : Wd) (x a0 a1 a2 a3 a4 a5 a6 a7 a8 a9 a10 a11 : Nat) (tf : Nat → Option Nat) (tn ag : Nat → Nat) (b6 g0 g1 g2 g3 g4 : Nat) (r at0 : Int32) (t : Int32) (hc : wd_at w x (.inr (10, [.ref a0, .ref a1, .ref a2, .ref a3, .ref a4, .ref a5, .ref a6, .ref a7, .ref a8, .ref a9, .ref a10, .ref a11, .int 0, .int 0, .int 0, .int 0, .int 0]))) (ha1 : wd_at w a1 (.inl (cy 9, 12, .inr (.inr (.inr (.inr tf)))))) (hc6 : wd_at w a6 (.inr (7, [.ref b6, .int 0, .int at0]))) (ha9 : wd_at w a9 (.inr (1, [.ref g0, .ref g1, .ref g2, .ref g3, .ref g4, .int r]))) (ht : ∀ i, i < 12 → tf i = some (tn i) ∧ wd_at w (tn i) (.inr (8, [.int 0, .int 1000, .int 0, .ref (ag i)]))) (S : Nat → Prop) (sx : S x) (s6 : S a6) (s9 : S a9)  (hst : ∀ i, i < 12 → S (tn i)) : Ct l D cy yX10_text wsX10_text ({ frames := 3, cells := 0, slots := 0, locals := 63 }) [.ref x, .int t] w (fun v w1 => v = some (.int (sp_text t)) ∧ wd_kp S w w1) := by
  refine Ct.by (cc := cX10_text) (maxL := 4) (ret := (some .int)) (by decide +kernel) rfl (Nat.le_of_ble_eq_true rfl) ?_
  intro p e s m args below meth c A Q F hnm K ls hl
  have F : wd_Fx p s m args meth c cX10_text 4 wsX10_text RX10 D cy A := F
  have hl : lv_has ls 4 [(0, .ref x), (1, .int t)] := hl
  have hx := F.1.1
  have hb := F.1.2.1
  have hown := F.1.2.2.2.1
  have hts := F.1.2.2.2.2
  intro H locs hP hD hS
  have kp0 : wd_kp S w w := wd_kp.rf
  refine lv_iload_n hx hb dX10_text_0 rfl (lv_at hl 1 rfl) ?_
  refine x_callS (n := 1) (As := [.int t]) (rest := []) F hP hD hS (c_X10_isTown l D cy w t) gX10_text_X10_isTown rfl (by decide +kernel) ⟨(Nat.le_of_ble_eq_true rfl), (Nat.le_of_ble_eq_true rfl)⟩ rfl hl.1 (Nat.le_of_ble_eq_true rfl) dX10_text_1 rfl ⟨(Nat.le_of_ble_eq_true rfl), (Nat.le_of_ble_eq_true rfl)⟩ (fun v2 w3 hp1 H locs hP hD hS => ?_)
  obtain ⟨rfl, rfl⟩ := hp1
  refine W.eq (g2 := F0 m 4 ls [.int (wi t 0 11)]) rfl (W.widen (k := 0) (n := 0) (Nat.le_of_ble_eq_true rfl) (Nat.le_of_ble_eq_true rfl) ?_)
  refine lv_if_ne (tgt := 9) hx hb dX10_text_4 (by decide) (fun c_1 => ?_) (fun c_1 => ?_)
  · obtain ⟨j, hj, -, hjc⟩ := wi_t c_1
    have hT := (ht j hj).2
    refine lv_aload_n hx hb dX10_text_9 rfl (lv_at hl 0 rfl) ?_
    refine x_get (ref := "NoteHouse") F hP hc rfl (fun _ h => List.mem_cons_of_mem _ (List.mem_append_left _ (List.mem_append_left _ (List.mem_append_left _ (List.mem_append_right _ (h)))))) 9 (Nat.le_of_ble_eq_true rfl) (List.mem_cons_of_mem _ (List.mem_append_left _ (List.mem_append_left _ (List.mem_append_left _ (List.mem_append_left _ (List.mem_append_left _ (List.mem_of_getElem? (i := 0) rfl))))))) rfl rfl dX10_text_10 ?_
    refine lv_aload_n hx hb dX10_text_13 rfl (lv_at hl 0 rfl) ?_
    refine x_get (ref := "NoteHouse") F hP hc rfl (fun _ h => List.mem_cons_of_mem _ (List.mem_append_left _ (List.mem_append_left _ (List.mem_append_left _ (List.mem_append_right _ (h)))))) 6 (Nat.le_of_ble_eq_true rfl) (List.mem_cons_of_mem _ (List.mem_append_left _ (List.mem_append_left _ (List.mem_append_left _ (List.mem_append_left _ (List.mem_append_left _ (List.mem_of_getElem? (i := 1) rfl))))))) rfl rfl dX10_text_14 ?_
    refine x_callV (n := 1) (As := [.ref a6]) (rest := []) F hP hD hS (c_X1_learn l D cy w a9 g0 g1 g2 g3 g4 a6 b6 r at0 ha9 hc6 (fun b => b = a9 ∨ b = a6) (Or.inl rfl) (Or.inr rfl)) gX10_text_X1_learn rfl rfl (by decide +kernel) ⟨(Nat.le_of_ble_eq_true rfl), (Nat.le_of_ble_eq_true rfl)⟩ rfl hl.1 (Nat.le_of_ble_eq_true rfl) ha9 rfl dX10_text_17 rfl ⟨(Nat.le_of_ble_eq_true rfl), (Nat.le_of_ble_eq_true rfl)⟩ (fun v5 w6 hp4 H locs hP hD hS => ?_)
    obtain ⟨rfl, hp4, k7, k8⟩ := hp4
    have k9 := hp4.2 _ _ hc (fun q => Or.elim q (wd_nk hc ha9 rfl) (fun q : x = a6 => (wd_nk hc hc6 rfl) q))
    have k10 := hp4.2 _ _ ha1 (fun q => Or.elim q (wd_nk ha1 ha9 rfl) (fun q : a1 = a6 => (wd_nk ha1 hc6 rfl) q))
    have k11 := hp4.2 _ _ hT (fun q => Or.elim q (wd_nk hT ha9 rfl) (fun q : (tn j) = a6 => (wd_nk hT hc6 rfl) q))
    have fm12 : ∀ i, i < 12 → tf i = some (tn i) ∧ wd_at w6 (tn i) (.inr (8, [.int 0, .int 1000, .int 0, .ref (ag i)])) := fun i hi9 => ⟨(ht i hi9).1, hp4.2 _ _ (ht i hi9).2 (fun q => Or.elim q (wd_nk (ht i hi9).2 ha9 rfl) (wd_nk (ht i hi9).2 hc6 rfl))⟩
    have kp13 := kp0.tr hp4 (fun b hm q => (fun q => Or.elim q (fun q => q ▸ s9) (fun q => q ▸ s6)) q)
    refine W.eq (g2 := F0 m 20 ls [.int 0]) rfl (W.widen (k := 0) (n := 0) (Nat.le_of_ble_eq_true rfl) (Nat.le_of_ble_eq_true rfl) ?_)
    refine lv_istore_n (lv' := [(2, .int 0), (0, .ref x), (1, .int t)]) hx hb dX10_text_20 rfl hl (by decide) rfl (fun ls hl => ?_)
    refine lv_aload_n hx hb dX10_text_21 rfl (lv_at hl 1 rfl) ?_
    refine x_get (ref := "NoteHouse") F hP k9 rfl (fun _ h => List.mem_cons_of_mem _ (List.mem_append_left _ (List.mem_append_left _ (List.mem_append_left _ (List.mem_append_right _ (h)))))) 6 (Nat.le_of_ble_eq_true rfl) (List.mem_cons_of_mem _ (List.mem_append_left _ (List.mem_append_left _ (List.mem_append_left _ (List.mem_append_left _ (List.mem_append_left _ (List.mem_of_getElem? (i := 1) rfl))))))) rfl rfl dX10_text_22 ?_
    refine lv_iconst (v := 0) hx hb dX10_text_25 (by decide) ?_
    refine y_put (ref := "NoteHouse$Tape") F hP hD hS k8 rfl (fun _ h => List.mem_cons_of_mem _ (List.mem_append_left _ (List.mem_append_left _ (List.mem_append_right _ (h))))) tyX7_ok nmX7 1 (Nat.le_of_ble_eq_true rfl) (List.mem_cons_of_mem _ (List.mem_append_left _ (List.mem_append_left _ (List.mem_append_left _ (List.mem_append_left _ (List.mem_append_left _ (List.mem_of_getElem? (i := 2) rfl))))))) rfl rfl rfl rfl (Nat.le_of_ble_eq_true rfl) dX10_text_26 (fun w14 ew15 H locs hP hD hS => ?_)
    have k16 := wd_at.pt ew15 k9 (wd_nk k9 k8 rfl)
    have k17 := wd_at.pt ew15 k10 (wd_nk k10 k8 rfl)
    have k18 : wd_at w14 a6 (.inr (7, [.ref b6, .int 0, .int 0])) := wd_at.ps ew15 k8
    have k19 := wd_at.pt ew15 k7 (wd_nk k7 k8 rfl)
    have k20 := wd_at.pt ew15 k11 (wd_nk k11 k8 rfl)
    have fm21 : ∀ i, i < 12 → tf i = some (tn i) ∧ wd_at w14 (tn i) (.inr (8, [.int 0, .int 1000, .int 0, .ref (ag i)])) := fun i hi9 => ⟨(fm12 i hi9).1, wd_at.pt ew15 (fm12 i hi9).2 (wd_nk (fm12 i hi9).2 k8 rfl)⟩
    have kp22 := kp13.put ew15 s6
    refine lv_iload_n hx hb dX10_text_29 rfl (lv_at hl 0 rfl) ?_
    refine lv_if_eq (tgt := 38) hx hb dX10_text_30 (by decide) (fun c_23 => ?_) (fun c_23 => absurd (show (0 : Int32) = (0 : Int32) by decide) c_23)
    refine lv_aload_n hx hb dX10_text_38 rfl (lv_at hl 1 rfl) ?_
    refine x_get (ref := "NoteHouse") F hP k16 rfl (fun _ h => List.mem_cons_of_mem _ (List.mem_append_left _ (List.mem_append_left _ (List.mem_append_left _ (List.mem_append_right _ (h)))))) 1 (Nat.le_of_ble_eq_true rfl) (List.mem_cons_of_mem _ (List.mem_append_left _ (List.mem_append_left _ (List.mem_append_left _ (List.mem_append_left _ (List.mem_append_left _ (List.mem_of_getElem? (i := 3) rfl))))))) rfl rfl dX10_text_39 ?_
    refine lv_iload_n hx hb dX10_text_42 rfl (lv_at hl 2 rfl) ?_
    refine x_aald F hP k17 rfl (wi_v c_1) dX10_text_43 ?_
    rw [hjc, (ht j hj).1]
    refine W.eq (g2 := F0 m _ ls [.ref (tn j)]) rfl ?_
    refine x_get (ref := "NoteHouse$Town") F hP k20 rfl (fun _ h => List.mem_cons_of_mem _ (List.mem_append_left _ (List.mem_append_right _ (h)))) 3 (Nat.le_of_ble_eq_true rfl) (List.mem_cons_of_mem _ (List.mem_append_left _ (List.mem_append_left _ (List.mem_append_left _ (List.mem_append_left _ (List.mem_append_left _ (List.mem_of_getElem? (i := 4) rfl))))))) rfl rfl dX10_text_44 ?_
    refine lv_astore_n (lv' := [(3, .ref (ag j)), (2, .int 0), (0, .ref x), (1, .int t)]) hx hb dX10_text_47 rfl hl (by decide) rfl (fun ls hl => ?_)
    refine lv_aload_n hx hb dX10_text_48 rfl (lv_at hl 2 rfl) ?_
    refine x_get (ref := "NoteHouse") F hP k16 rfl (fun _ h => List.mem_cons_of_mem _ (List.mem_append_left _ (List.mem_append_left _ (List.mem_append_left _ (List.mem_append_right _ (h)))))) 1 (Nat.le_of_ble_eq_true rfl) (List.mem_cons_of_mem _ (List.mem_append_left _ (List.mem_append_left _ (List.mem_append_left _ (List.mem_append_left _ (List.mem_append_left _ (List.mem_of_getElem? (i := 3) rfl))))))) rfl rfl dX10_text_49 ?_
    refine lv_iload_n hx hb dX10_text_52 rfl (lv_at hl 3 rfl) ?_
    refine x_aald F hP k17 rfl (wi_v c_1) dX10_text_53 ?_
    rw [hjc, (ht j hj).1]
    refine W.eq (g2 := F0 m _ ls [.ref (tn j)]) rfl ?_
    refine lv_aload_n hx hb dX10_text_54 rfl (lv_at hl 2 rfl) ?_
    refine x_get (ref := "NoteHouse") F hP k16 rfl (fun _ h => List.mem_cons_of_mem _ (List.mem_append_left _ (List.mem_append_left _ (List.mem_append_left _ (List.mem_append_right _ (h)))))) 9 (Nat.le_of_ble_eq_true rfl) (List.mem_cons_of_mem _ (List.mem_append_left _ (List.mem_append_left _ (List.mem_append_left _ (List.mem_append_left _ (List.mem_append_left _ (List.mem_of_getElem? (i := 0) rfl))))))) rfl rfl dX10_text_55 ?_
    refine y_put (ref := "NoteHouse$Town") F hP hD hS k20 rfl (fun _ h => List.mem_cons_of_mem _ (List.mem_append_left _ (List.mem_append_right _ (h)))) tyX8_ok nmX8 3 (Nat.le_of_ble_eq_true rfl) (List.mem_cons_of_mem _ (List.mem_append_left _ (List.mem_append_left _ (List.mem_append_left _ (List.mem_append_left _ (List.mem_append_left _ (List.mem_of_getElem? (i := 4) rfl))))))) rfl rfl rfl rfl (Nat.le_of_ble_eq_true rfl) dX10_text_58 (fun w24 ew25 H locs hP hD hS => ?_)
    have k26 := wd_at.pt ew25 k16 (wd_nk k16 k20 rfl)
    have k27 := wd_at.pt ew25 k17 (wd_nk k17 k20 rfl)
    have k28 := wd_at.pt ew25 k18 (wd_nk k18 k20 rfl)
    have k29 := wd_at.pt ew25 k19 (wd_nk k19 k20 rfl)
    have k30 : wd_at w24 (tn j) (.inr (8, [.int 0, .int 1000, .int 0, .ref a9])) := wd_at.ps ew25 k20
    have kp31 := kp22.put ew25 (hst j hj)
    refine lv_aload_n hx hb dX10_text_61 rfl (lv_at hl 2 rfl) ?_
    refine lv_aload_n hx hb dX10_text_62 rfl (lv_at hl 0 rfl) ?_
    refine y_put (ref := "NoteHouse") F hP hD hS k26 rfl (fun _ h => List.mem_cons_of_mem _ (List.mem_append_left _ (List.mem_append_left _ (List.mem_append_left _ (List.mem_append_right _ (h)))))) tyX10_ok nmX10 9 (Nat.le_of_ble_eq_true rfl) (List.mem_cons_of_mem _ (List.mem_append_left _ (List.mem_append_left _ (List.mem_append_left _ (List.mem_append_left _ (List.mem_append_left _ (List.mem_of_getElem? (i := 0) rfl))))))) rfl rfl rfl rfl (Nat.le_of_ble_eq_true rfl) dX10_text_63 (fun w32 ew33 H locs hP hD hS => ?_)
    have k34 : wd_at w32 x (.inr (10, [.ref a0, .ref a1, .ref a2, .ref a3, .ref a4, .ref a5, .ref a6, .ref a7, .ref a8, .ref (ag j), .ref a10, .ref a11, .int 0, .int 0, .int 0, .int 0, .int 0])) := wd_at.ps ew33 k26
    have k35 := wd_at.pt ew33 k27 (wd_nk k27 k26 rfl)
    have k36 := wd_at.pt ew33 k28 (wd_nk k28 k26 rfl)
    have k37 := wd_at.pt ew33 k29 (wd_nk k29 k26 rfl)
    have k38 := wd_at.pt ew33 k30 (wd_nk k30 k26 rfl)
    have kp39 := kp31.put ew33 sx
    refine lv_aload_n hx hb dX10_text_66 rfl (lv_at hl 2 rfl) ?_
    refine x_get (ref := "NoteHouse") F hP k34 rfl (fun _ h => List.mem_cons_of_mem _ (List.mem_append_left _ (List.mem_append_left _ (List.mem_append_left _ (List.mem_append_right _ (h)))))) 1 (Nat.le_of_ble_eq_true rfl) (List.mem_cons_of_mem _ (List.mem_append_left _ (List.mem_append_left _ (List.mem_append_left _ (List.mem_append_left _ (List.mem_append_left _ (List.mem_of_getElem? (i := 3) rfl))))))) rfl rfl dX10_text_67 ?_
    refine lv_iload_n hx hb dX10_text_70 rfl (lv_at hl 3 rfl) ?_
    refine x_aald F hP k35 rfl (wi_v c_1) dX10_text_71 ?_
    rw [hjc, (ht j hj).1]
    refine W.eq (g2 := F0 m _ ls [.ref (tn j)]) rfl ?_
    refine x_get (ref := "NoteHouse$Town") F hP k38 rfl (fun _ h => List.mem_cons_of_mem _ (List.mem_append_left _ (List.mem_append_right _ (h)))) 3 (Nat.le_of_ble_eq_true rfl) (List.mem_cons_of_mem _ (List.mem_append_left _ (List.mem_append_left _ (List.mem_append_left _ (List.mem_append_left _ (List.mem_append_left _ (List.mem_of_getElem? (i := 4) rfl))))))) rfl rfl dX10_text_72 ?_
    refine x_get (ref := "NoteHouse$Agent") F hP k37 rfl (fun _ h => List.mem_cons_of_mem _ (List.mem_append_right _ (h))) 5 (Nat.le_of_ble_eq_true rfl) (List.mem_cons_of_mem _ (List.mem_append_left _ (List.mem_append_left _ (List.mem_append_left _ (List.mem_append_left _ (List.mem_append_left _ (List.mem_of_getElem? (i := 5) rfl))))))) rfl rfl dX10_text_75 ?_
    exact y_ir K hP hD hS (Nat.le_of_ble_eq_true rfl) (Nat.le_of_ble_eq_true rfl) (ty := .int) rfl rfl dX10_text_78 (⟨by simp [sp_text, c_1], kp39⟩)
  · refine lv_iconst (v := (-1)) hx hb dX10_text_7 (by decide) ?_
    exact y_ir K hP hD hS (Nat.le_of_ble_eq_true rfl) (Nat.le_of_ble_eq_true rfl) (ty := .int) rfl rfl dX10_text_8 (⟨by simp [sp_text, c_1], kp0⟩)
set_option maxHeartbeats 4000000 in
set_option maxRecDepth 100000 in
theorem c_X2_forget (l : Launch) (D : va_G) (cy : Nat → ClassId) (w : Wd) (q bl : Nat) (f : Nat → Int32) (ff tt : Int32) (hq : wd_at w q (.inr (2, [.ref bl, .int ff, .int tt]))) (hbl : wd_at w bl (.inl (cy 2, 4, .inl f)))  (S : Nat → Prop) (sq : S q) (sb : S bl)  : Ct l D cy yX2_forget wsX2_forget ({ frames := 0, cells := 0, slots := 0, locals := 0 }) [.ref q] w (fun v w1 => v = none ∧ wd_kp S w w1 ∧ wd_at w1 q (.inr (2, [.ref bl, .int 10, .int 0])) ∧ ∃ g : Nat → Int32, (g 0 = 1 ∧ g 1 = 1 ∧ g 2 = 0 ∧ g 3 = 2) ∧ wd_at w1 bl (.inl (cy 2, 4, .inl g))) := by
  refine Ct.by (cc := cX2_forget) (maxL := 1) (ret := none) (by decide +kernel) rfl (Nat.le_of_ble_eq_true rfl) ?_
  intro p e s m args below meth c A Q F hnm K ls hl
  have F : wd_Fx p s m args meth c cX2_forget 1 wsX2_forget RX2 D cy A := F
  have hl : lv_has ls 1 [(0, .ref q)] := hl
  have hx := F.1.1
  have hb := F.1.2.1
  have hown := F.1.2.2.2.1
  have hts := F.1.2.2.2.2
  intro H locs hP hD hS
  have kp0 : wd_kp S w w := wd_kp.rf
  refine lv_aload_n hx hb dX2_forget_0 rfl (lv_at hl 0 rfl) ?_
  refine x_get (ref := "NoteHouse$Law") F hP hq rfl (fun _ h => List.mem_cons_of_mem _ (List.mem_append_right _ (h))) 0 (Nat.le_of_ble_eq_true rfl) (List.mem_cons_of_mem _ (List.mem_append_left _ (List.mem_of_getElem? (i := 0) rfl))) rfl rfl dX2_forget_1 ?_
  refine lv_iconst (v := 0) hx hb dX2_forget_4 (by decide) ?_
  refine lv_iconst (v := 1) hx hb dX2_forget_5 (by decide) ?_
  refine y_iast F hP hD hS hbl (vp_in_iff.mpr ⟨by decide, by decide⟩) dX2_forget_6 (fun w1 ew2 H locs hP hD hS => ?_)
  have k3 := wd_at.pt ew2 hq (wd_nk hq hbl rfl)
  have k4 : wd_at w1 bl (.inl (cy 2, 4, .inl (upd f (0 : Int32).toNatClampNeg 1))) := wd_at.ps ew2 hbl
  have kp5 := kp0.put ew2 sb
  refine lv_aload_n hx hb dX2_forget_7 rfl (lv_at hl 0 rfl) ?_
  refine x_get (ref := "NoteHouse$Law") F hP k3 rfl (fun _ h => List.mem_cons_of_mem _ (List.mem_append_right _ (h))) 0 (Nat.le_of_ble_eq_true rfl) (List.mem_cons_of_mem _ (List.mem_append_left _ (List.mem_of_getElem? (i := 0) rfl))) rfl rfl dX2_forget_8 ?_
  refine lv_iconst (v := 1) hx hb dX2_forget_11 (by decide) ?_
  refine lv_iconst (v := 1) hx hb dX2_forget_12 (by decide) ?_
  refine y_iast F hP hD hS k4 (vp_in_iff.mpr ⟨by decide, by decide⟩) dX2_forget_13 (fun w6 ew7 H locs hP hD hS => ?_)
  have k8 := wd_at.pt ew7 k3 (wd_nk k3 k4 rfl)
  have k9 : wd_at w6 bl (.inl (cy 2, 4, .inl (upd (upd f (0 : Int32).toNatClampNeg 1) (1 : Int32).toNatClampNeg 1))) := wd_at.ps ew7 k4
  have kp10 := kp5.put ew7 sb
  refine lv_aload_n hx hb dX2_forget_14 rfl (lv_at hl 0 rfl) ?_
  refine x_get (ref := "NoteHouse$Law") F hP k8 rfl (fun _ h => List.mem_cons_of_mem _ (List.mem_append_right _ (h))) 0 (Nat.le_of_ble_eq_true rfl) (List.mem_cons_of_mem _ (List.mem_append_left _ (List.mem_of_getElem? (i := 0) rfl))) rfl rfl dX2_forget_15 ?_
  refine lv_iconst (v := 2) hx hb dX2_forget_18 (by decide) ?_
  refine lv_iconst (v := 0) hx hb dX2_forget_19 (by decide) ?_
  refine y_iast F hP hD hS k9 (vp_in_iff.mpr ⟨by decide, by decide⟩) dX2_forget_20 (fun w11 ew12 H locs hP hD hS => ?_)
  have k13 := wd_at.pt ew12 k8 (wd_nk k8 k9 rfl)
  have k14 : wd_at w11 bl (.inl (cy 2, 4, .inl (upd (upd (upd f (0 : Int32).toNatClampNeg 1) (1 : Int32).toNatClampNeg 1) (2 : Int32).toNatClampNeg 0))) := wd_at.ps ew12 k9
  have kp15 := kp10.put ew12 sb
  refine lv_aload_n hx hb dX2_forget_21 rfl (lv_at hl 0 rfl) ?_
  refine x_get (ref := "NoteHouse$Law") F hP k13 rfl (fun _ h => List.mem_cons_of_mem _ (List.mem_append_right _ (h))) 0 (Nat.le_of_ble_eq_true rfl) (List.mem_cons_of_mem _ (List.mem_append_left _ (List.mem_of_getElem? (i := 0) rfl))) rfl rfl dX2_forget_22 ?_
  refine lv_iconst (v := 3) hx hb dX2_forget_25 (by decide) ?_
  refine lv_iconst (v := 2) hx hb dX2_forget_26 (by decide) ?_
  refine y_iast F hP hD hS k14 (vp_in_iff.mpr ⟨by decide, by decide⟩) dX2_forget_27 (fun w16 ew17 H locs hP hD hS => ?_)
  have k18 := wd_at.pt ew17 k13 (wd_nk k13 k14 rfl)
  have k19 : wd_at w16 bl (.inl (cy 2, 4, .inl (upd (upd (upd (upd f (0 : Int32).toNatClampNeg 1) (1 : Int32).toNatClampNeg 1) (2 : Int32).toNatClampNeg 0) (3 : Int32).toNatClampNeg 2))) := wd_at.ps ew17 k14
  have kp20 := kp15.put ew17 sb
  refine lv_aload_n hx hb dX2_forget_28 rfl (lv_at hl 0 rfl) ?_
  refine lv_bipush (v := 10) hx hb dX2_forget_29 (by decide) ?_
  refine y_put (ref := "NoteHouse$Law") F hP hD hS k18 rfl (fun _ h => List.mem_cons_of_mem _ (List.mem_append_right _ (h))) tyX2_ok nmX2 1 (Nat.le_of_ble_eq_true rfl) (List.mem_cons_of_mem _ (List.mem_append_left _ (List.mem_of_getElem? (i := 1) rfl))) rfl rfl rfl rfl (Nat.le_of_ble_eq_true rfl) dX2_forget_31 (fun w21 ew22 H locs hP hD hS => ?_)
  have k23 : wd_at w21 q (.inr (2, [.ref bl, .int 10, .int tt])) := wd_at.ps ew22 k18
  have k24 := wd_at.pt ew22 k19 (wd_nk k19 k18 rfl)
  have kp25 := kp20.put ew22 sq
  refine lv_aload_n hx hb dX2_forget_34 rfl (lv_at hl 0 rfl) ?_
  refine lv_iconst (v := 0) hx hb dX2_forget_35 (by decide) ?_
  refine y_put (ref := "NoteHouse$Law") F hP hD hS k23 rfl (fun _ h => List.mem_cons_of_mem _ (List.mem_append_right _ (h))) tyX2_ok nmX2 2 (Nat.le_of_ble_eq_true rfl) (List.mem_cons_of_mem _ (List.mem_append_left _ (List.mem_of_getElem? (i := 2) rfl))) rfl rfl rfl rfl (Nat.le_of_ble_eq_true rfl) dX2_forget_36 (fun w26 ew27 H locs hP hD hS => ?_)
  have k28 : wd_at w26 q (.inr (2, [.ref bl, .int 10, .int 0])) := wd_at.ps ew27 k23
  have k29 := wd_at.pt ew27 k24 (wd_nk k24 k23 rfl)
  have kp30 := kp25.put ew27 sq
  exact y_vr K hP hD hS (Nat.le_of_ble_eq_true rfl) (Nat.le_of_ble_eq_true rfl) rfl dX2_forget_39 (⟨rfl, kp30, k28, _, ⟨rfl, rfl, rfl, rfl⟩, k29⟩)
set_option maxHeartbeats 4000000 in
set_option maxRecDepth 100000 in
theorem c_X2_learn (l : Launch) (D : va_G) (cy : Nat → ClassId) (w : Wd) (q bl t b : Nat) (f : Nat → Int32) (ff tt at0 : Int32) (hq : wd_at w q (.inr (2, [.ref bl, .int ff, .int tt]))) (hbl : wd_at w bl (.inl (cy 2, 4, .inl f))) (hc : wd_at w t (.inr (7, [.ref b, .int 0, .int at0])))  (S : Nat → Prop) (sq : S q) (sb : S bl) (st : S t)  : Ct l D cy yX2_learn wsX2_learn ({ frames := 2, cells := 0, slots := 0, locals := 40 }) [.ref q, .ref t] w (fun v w1 => v = some (.int 0) ∧ wd_kp S w w1 ∧ wd_at w1 t (.inr (7, [.ref b, .int 0, .int 0]))) := by
  refine Ct.by (cc := cX2_learn) (maxL := 4) (ret := (some .int)) (by decide +kernel) rfl (Nat.le_of_ble_eq_true rfl) ?_
  intro p e s m args below meth c A Q F hnm K ls hl
  have F : wd_Fx p s m args meth c cX2_learn 4 wsX2_learn RX2 D cy A := F
  have hl : lv_has ls 4 [(0, .ref q), (1, .ref t)] := hl
  have hx := F.1.1
  have hb := F.1.2.1
  have hown := F.1.2.2.2.1
  have hts := F.1.2.2.2.2
  intro H locs hP hD hS
  have kp0 : wd_kp S w w := wd_kp.rf
  refine lv_aload_n hx hb dX2_learn_0 rfl (lv_at hl 0 rfl) ?_
  refine x_callV (n := 0) (As := []) (rest := []) F hP hD hS (c_X2_forget l D cy w q bl f ff tt hq hbl (fun b => b = q ∨ b = bl) (Or.inl rfl) (Or.inr rfl)) gX2_learn_X2_forget rfl rfl (by decide +kernel) ⟨(Nat.le_of_ble_eq_true rfl), (Nat.le_of_ble_eq_true rfl)⟩ rfl hl.1 (Nat.le_of_ble_eq_true rfl) hq rfl dX2_learn_1 rfl ⟨(Nat.le_of_ble_eq_true rfl), (Nat.le_of_ble_eq_true rfl)⟩ (fun v2 w3 hp1 H locs hP hD hS => ?_)
  obtain ⟨rfl, hp1, k6, g4, hg5, k7⟩ := hp1
  have k8 := hp1.2 _ _ hc (fun q => Or.elim q (wd_nk hc hq rfl) (fun q : t = bl => (wd_nk hc hbl rfl) q))
  have kp9 := kp0.tr hp1 (fun b hm q => (fun q => Or.elim q (fun q => q ▸ sq) (fun q => q ▸ sb)) q)
  refine W.eq (g2 := F0 m 4 ls []) rfl (W.widen (k := 0) (n := 0) (Nat.le_of_ble_eq_true rfl) (Nat.le_of_ble_eq_true rfl) ?_)
  refine lv_aload_n hx hb dX2_learn_4 rfl (lv_at hl 1 rfl) ?_
  refine x_get (ref := "NoteHouse$Tape") F hP k8 rfl (fun _ h => List.mem_cons_of_mem _ (List.mem_append_left _ (List.mem_append_right _ (h)))) 1 (Nat.le_of_ble_eq_true rfl) (List.mem_cons_of_mem _ (List.mem_append_left _ (List.mem_append_left _ (List.mem_append_left _ (List.mem_of_getElem? (i := 0) rfl))))) rfl rfl dX2_learn_5 ?_
  refine lv_sipush (v := 200) hx hb dX2_learn_8 (by decide) ?_
  refine lv_icmp_le (tgt := 22) hx hb dX2_learn_11 (by decide) (fun c_10 => ?_) (fun c_10 => absurd (show (0 : Int32) ≤ (200 : Int32) by decide) c_10)
  refine lv_aload_n hx hb dX2_learn_22 rfl (lv_at hl 1 rfl) ?_
  refine x_callV (n := 0) (As := []) (rest := []) F hP hD hS (c_X7_rewind l D cy w3 t b at0 k8 (fun b => b = t) rfl) gX2_learn_X7_rewind rfl rfl (by decide +kernel) ⟨(Nat.le_of_ble_eq_true rfl), (Nat.le_of_ble_eq_true rfl)⟩ rfl hl.1 (Nat.le_of_ble_eq_true rfl) k8 rfl dX2_learn_23 rfl ⟨(Nat.le_of_ble_eq_true rfl), (Nat.le_of_ble_eq_true rfl)⟩ (fun v12 w13 hp11 H locs hP hD hS => ?_)
  obtain ⟨rfl, hp11, k14⟩ := hp11
  have k15 := hp11.2 _ _ k6 (fun q : q = t => (wd_nk k6 k8 rfl) q)
  have k16 := hp11.2 _ _ k7 (fun q : bl = t => (wd_nk k7 k8 rfl) q)
  have kp17 := kp9.tr hp11 (fun b hm q => (fun q => q ▸ st) q)
  refine W.eq (g2 := F0 m 26 ls []) rfl (W.widen (k := 0) (n := 0) (Nat.le_of_ble_eq_true rfl) (Nat.le_of_ble_eq_true rfl) ?_)
  refine lv_aload_n hx hb dX2_learn_26 rfl (lv_at hl 1 rfl) ?_
  refine x_callV (n := 0) (As := []) (rest := []) F hP hD hS (c_X7_isOver l D cy w13 t b k14) gX2_learn_X7_isOver rfl rfl (by decide +kernel) ⟨(Nat.le_of_ble_eq_true rfl), (Nat.le_of_ble_eq_true rfl)⟩ rfl hl.1 (Nat.le_of_ble_eq_true rfl) k14 rfl dX2_learn_27 rfl ⟨(Nat.le_of_ble_eq_true rfl), (Nat.le_of_ble_eq_true rfl)⟩ (fun v19 w20 hp18 H locs hP hD hS => ?_)
  obtain ⟨rfl, rfl⟩ := hp18
  refine W.eq (g2 := F0 m 30 ls [.int 1]) rfl (W.widen (k := 0) (n := 0) (Nat.le_of_ble_eq_true rfl) (Nat.le_of_ble_eq_true rfl) ?_)
  refine lv_if_eq (tgt := 35) hx hb dX2_learn_30 (by decide) (fun c_21 => absurd c_21 (show ¬ (1 : Int32) = (0 : Int32) by decide)) (fun c_21 => ?_)
  refine lv_iconst (v := 0) hx hb dX2_learn_33 (by decide) ?_
  exact y_ir K hP hD hS (Nat.le_of_ble_eq_true rfl) (Nat.le_of_ble_eq_true rfl) (ty := .int) rfl rfl dX2_learn_34 (⟨rfl, kp17, k14⟩)
set_option maxHeartbeats 4000000 in
set_option maxRecDepth 100000 in
theorem c_X10_law (l : Launch) (D : va_G) (cy : Nat → ClassId) (w : Wd) (x a0 a1 a2 a3 a4 a5 a6 a7 a8 a9 a10 a11 : Nat) (b6 bl : Nat) (f : Nat → Int32) (ff tt at0 : Int32) (hc : wd_at w x (.inr (10, [.ref a0, .ref a1, .ref a2, .ref a3, .ref a4, .ref a5, .ref a6, .ref a7, .ref a8, .ref a9, .ref a10, .ref a11, .int 0, .int 0, .int 0, .int 0, .int 0]))) (hc6 : wd_at w a6 (.inr (7, [.ref b6, .int 0, .int at0]))) (ha11 : wd_at w a11 (.inr (2, [.ref bl, .int ff, .int tt]))) (hbl : wd_at w bl (.inl (cy 2, 4, .inl f)))  (S : Nat → Prop) (sx : S x) (s6 : S a6) (s11 : S a11) (sb : S bl)  : Ct l D cy yX10_law wsX10_law ({ frames := 3, cells := 0, slots := 0, locals := 63 }) [.ref x] w (fun v w1 => v = some (.int 0) ∧ wd_kp S w w1) := by
  refine Ct.by (cc := cX10_law) (maxL := 3) (ret := (some .int)) (by decide +kernel) rfl (Nat.le_of_ble_eq_true rfl) ?_
  intro p e s m args below meth c A Q F hnm K ls hl
  have F : wd_Fx p s m args meth c cX10_law 3 wsX10_law RX10 D cy A := F
  have hl : lv_has ls 3 [(0, .ref x)] := hl
  have hx := F.1.1
  have hb := F.1.2.1
  have hown := F.1.2.2.2.1
  have hts := F.1.2.2.2.2
  intro H locs hP hD hS
  have kp0 : wd_kp S w w := wd_kp.rf
  refine lv_aload_n hx hb dX10_law_0 rfl (lv_at hl 0 rfl) ?_
  refine x_get (ref := "NoteHouse") F hP hc rfl (fun _ h => List.mem_cons_of_mem _ (List.mem_append_left _ (List.mem_append_left _ (List.mem_append_right _ (h))))) 11 (Nat.le_of_ble_eq_true rfl) (List.mem_cons_of_mem _ (List.mem_append_left _ (List.mem_append_left _ (List.mem_append_left _ (List.mem_append_left _ (List.mem_of_getElem? (i := 0) rfl)))))) rfl rfl dX10_law_1 ?_
  refine lv_aload_n hx hb dX10_law_4 rfl (lv_at hl 0 rfl) ?_
  refine x_get (ref := "NoteHouse") F hP hc rfl (fun _ h => List.mem_cons_of_mem _ (List.mem_append_left _ (List.mem_append_left _ (List.mem_append_right _ (h))))) 6 (Nat.le_of_ble_eq_true rfl) (List.mem_cons_of_mem _ (List.mem_append_left _ (List.mem_append_left _ (List.mem_append_left _ (List.mem_append_left _ (List.mem_of_getElem? (i := 1) rfl)))))) rfl rfl dX10_law_5 ?_
  refine x_callV (n := 1) (As := [.ref a6]) (rest := []) F hP hD hS (c_X2_learn l D cy w a11 bl a6 b6 f ff tt at0 ha11 hbl hc6 (fun b => b = a11 ∨ b = bl ∨ b = a6) (Or.inl rfl) (Or.inr (Or.inl rfl)) (Or.inr (Or.inr rfl))) gX10_law_X2_learn rfl rfl (by decide +kernel) ⟨(Nat.le_of_ble_eq_true rfl), (Nat.le_of_ble_eq_true rfl)⟩ rfl hl.1 (Nat.le_of_ble_eq_true rfl) ha11 rfl dX10_law_8 rfl ⟨(Nat.le_of_ble_eq_true rfl), (Nat.le_of_ble_eq_true rfl)⟩ (fun v2 w3 hp1 H locs hP hD hS => ?_)
  obtain ⟨rfl, hp1, k4⟩ := hp1
  have k5 := hp1.2 _ _ hc (fun q => Or.elim q (wd_nk hc ha11 rfl) (fun q => Or.elim q (wd_nk hc hbl rfl) (fun q : x = a6 => (wd_nk hc hc6 rfl) q)))
  have kp6 := kp0.tr hp1 (fun b hm q => (fun q => Or.elim q (fun q => q ▸ s11) (fun q => Or.elim q (fun q => q ▸ sb) (fun q => q ▸ s6))) q)
  refine W.eq (g2 := F0 m 11 ls [.int 0]) rfl (W.widen (k := 0) (n := 0) (Nat.le_of_ble_eq_true rfl) (Nat.le_of_ble_eq_true rfl) ?_)
  refine lv_istore_n (lv' := [(1, .int 0), (0, .ref x)]) hx hb dX10_law_11 rfl hl (by decide) rfl (fun ls hl => ?_)
  refine lv_aload_n hx hb dX10_law_12 rfl (lv_at hl 1 rfl) ?_
  refine x_get (ref := "NoteHouse") F hP k5 rfl (fun _ h => List.mem_cons_of_mem _ (List.mem_append_left _ (List.mem_append_left _ (List.mem_append_right _ (h))))) 6 (Nat.le_of_ble_eq_true rfl) (List.mem_cons_of_mem _ (List.mem_append_left _ (List.mem_append_left _ (List.mem_append_left _ (List.mem_append_left _ (List.mem_of_getElem? (i := 1) rfl)))))) rfl rfl dX10_law_13 ?_
  refine lv_iconst (v := 0) hx hb dX10_law_16 (by decide) ?_
  refine y_put (ref := "NoteHouse$Tape") F hP hD hS k4 rfl (fun _ h => List.mem_cons_of_mem _ (List.mem_append_left _ (List.mem_append_right _ (h)))) tyX7_ok nmX7 1 (Nat.le_of_ble_eq_true rfl) (List.mem_cons_of_mem _ (List.mem_append_left _ (List.mem_append_left _ (List.mem_append_left _ (List.mem_append_left _ (List.mem_of_getElem? (i := 2) rfl)))))) rfl rfl rfl rfl (Nat.le_of_ble_eq_true rfl) dX10_law_17 (fun w7 ew8 H locs hP hD hS => ?_)
  have k9 := wd_at.pt ew8 k5 (wd_nk k5 k4 rfl)
  have k10 : wd_at w7 a6 (.inr (7, [.ref b6, .int 0, .int 0])) := wd_at.ps ew8 k4
  have kp11 := kp6.put ew8 s6
  refine lv_iload_n hx hb dX10_law_20 rfl (lv_at hl 0 rfl) ?_
  refine lv_if_eq (tgt := 26) hx hb dX10_law_21 (by decide) (fun c_12 => ?_) (fun c_12 => absurd (show (0 : Int32) = (0 : Int32) by decide) c_12)
  refine lv_aload_n hx hb dX10_law_26 rfl (lv_at hl 1 rfl) ?_
  refine x_get (ref := "NoteHouse") F hP k9 rfl (fun _ h => List.mem_cons_of_mem _ (List.mem_append_left _ (List.mem_append_left _ (List.mem_append_right _ (h))))) 10 (Nat.le_of_ble_eq_true rfl) (List.mem_cons_of_mem _ (List.mem_append_left _ (List.mem_append_left _ (List.mem_append_left _ (List.mem_append_left _ (List.mem_of_getElem? (i := 3) rfl)))))) rfl rfl dX10_law_27 ?_
  refine lv_astore_n (lv' := [(2, .ref a10), (1, .int 0), (0, .ref x)]) hx hb dX10_law_30 rfl hl (by decide) rfl (fun ls hl => ?_)
  refine lv_aload_n hx hb dX10_law_31 rfl (lv_at hl 2 rfl) ?_
  refine lv_aload_n hx hb dX10_law_32 rfl (lv_at hl 2 rfl) ?_
  refine x_get (ref := "NoteHouse") F hP k9 rfl (fun _ h => List.mem_cons_of_mem _ (List.mem_append_left _ (List.mem_append_left _ (List.mem_append_right _ (h))))) 11 (Nat.le_of_ble_eq_true rfl) (List.mem_cons_of_mem _ (List.mem_append_left _ (List.mem_append_left _ (List.mem_append_left _ (List.mem_append_left _ (List.mem_of_getElem? (i := 0) rfl)))))) rfl rfl dX10_law_33 ?_
  refine y_put (ref := "NoteHouse") F hP hD hS k9 rfl (fun _ h => List.mem_cons_of_mem _ (List.mem_append_left _ (List.mem_append_left _ (List.mem_append_right _ (h))))) tyX10_ok nmX10 10 (Nat.le_of_ble_eq_true rfl) (List.mem_cons_of_mem _ (List.mem_append_left _ (List.mem_append_left _ (List.mem_append_left _ (List.mem_append_left _ (List.mem_of_getElem? (i := 3) rfl)))))) rfl rfl rfl rfl (Nat.le_of_ble_eq_true rfl) dX10_law_36 (fun w13 ew14 H locs hP hD hS => ?_)
  have k15 : wd_at w13 x (.inr (10, [.ref a0, .ref a1, .ref a2, .ref a3, .ref a4, .ref a5, .ref a6, .ref a7, .ref a8, .ref a9, .ref a11, .ref a11, .int 0, .int 0, .int 0, .int 0, .int 0])) := wd_at.ps ew14 k9
  have k16 := wd_at.pt ew14 k10 (wd_nk k10 k9 rfl)
  have kp17 := kp11.put ew14 sx
  refine lv_aload_n hx hb dX10_law_39 rfl (lv_at hl 2 rfl) ?_
  refine lv_aload_n hx hb dX10_law_40 rfl (lv_at hl 0 rfl) ?_
  refine y_put (ref := "NoteHouse") F hP hD hS k15 rfl (fun _ h => List.mem_cons_of_mem _ (List.mem_append_left _ (List.mem_append_left _ (List.mem_append_right _ (h))))) tyX10_ok nmX10 11 (Nat.le_of_ble_eq_true rfl) (List.mem_cons_of_mem _ (List.mem_append_left _ (List.mem_append_left _ (List.mem_append_left _ (List.mem_append_left _ (List.mem_of_getElem? (i := 0) rfl)))))) rfl rfl rfl rfl (Nat.le_of_ble_eq_true rfl) dX10_law_41 (fun w18 ew19 H locs hP hD hS => ?_)
  have k20 : wd_at w18 x (.inr (10, [.ref a0, .ref a1, .ref a2, .ref a3, .ref a4, .ref a5, .ref a6, .ref a7, .ref a8, .ref a9, .ref a11, .ref a10, .int 0, .int 0, .int 0, .int 0, .int 0])) := wd_at.ps ew19 k15
  have k21 := wd_at.pt ew19 k16 (wd_nk k16 k15 rfl)
  have kp22 := kp17.put ew19 sx
  refine lv_iconst (v := 0) hx hb dX10_law_44 (by decide) ?_
  exact y_ir K hP hD hS (Nat.le_of_ble_eq_true rfl) (Nat.le_of_ble_eq_true rfl) (ty := .int) rfl rfl dX10_law_45 (⟨rfl, kp22⟩)
theorem hd_in {k : Int32} (h : ¬ k < 0) (h2 : ¬ 200 ≤ k) : vp_in k 200 := by
  obtain ⟨j, hj, rfl⟩ := nI_of h
  exact vp_in_nI (Nat.lt_of_not_le (fun q => h2 (nI_le (a := 200) (b := j) q (by omega)))) (by decide)
theorem hd_g {k : Int32} {g : Nat → Int32} (h : ¬ k < 0) (h2 : ¬ 200 ≤ k) (hg : ∀ j, j < 200 → g j = -1) : g k.toNatClampNeg = -1 := by
  obtain ⟨j, hj, rfl⟩ := nI_of h
  rw [nI_clamp hj]
  exact hg j (Nat.lt_of_not_le (fun q => h2 (nI_le (a := 200) (b := j) q (by omega))))
set_option maxHeartbeats 4000000 in
set_option maxRecDepth 100000 in
theorem c_X4_holds (l : Launch) (D : va_G) (cy : Nat → ClassId) (w : Wd) (y l0 l1 l2 l3 l4 l5 l6 l7 : Nat) (g : Nat → Int32) (k : Int32) (hy : wd_at w y (.inr (4, [.ref l0, .ref l1, .ref l2, .ref l3, .ref l4, .ref l5, .ref l6, .ref l7, .int 0, .int 0]))) (h0 : wd_at w l0 (.inl (cy 2, 200, .inl g)))  (hg : ∀ j, j < 200 → g j = -1) : Ct l D cy yX4_holds wsX4_holds ({ frames := 0, cells := 0, slots := 0, locals := 0 }) [.ref y, .int k] w (fun v w1 => v = some (.int 0) ∧ w = w1) := by
  refine Ct.by (cc := cX4_holds) (maxL := 2) (ret := (some .boolean)) (by decide +kernel) rfl (Nat.le_of_ble_eq_true rfl) ?_
  intro p e s m args below meth c A Q F hnm K ls hl
  have F : wd_Fx p s m args meth c cX4_holds 2 wsX4_holds RX4 D cy A := F
  have hl : lv_has ls 2 [(0, .ref y), (1, .int k)] := hl
  have hx := F.1.1
  have hb := F.1.2.1
  have hown := F.1.2.2.2.1
  have hts := F.1.2.2.2.2
  intro H locs hP hD hS
  refine lv_iload_n hx hb dX4_holds_0 rfl (lv_at hl 1 rfl) ?_
  refine lv_if_lt (tgt := 25) hx hb dX4_holds_1 (by decide) (fun c_1 => ?_) (fun c_1 => ?_)
  · refine lv_iconst (v := 0) hx hb dX4_holds_25 (by decide) ?_
    exact y_ir K hP hD hS (Nat.le_of_ble_eq_true rfl) (Nat.le_of_ble_eq_true rfl) (ty := .boolean) rfl rfl dX4_holds_26 (⟨rfl, rfl⟩)
  · refine lv_iload_n hx hb dX4_holds_4 rfl (lv_at hl 1 rfl) ?_
    refine lv_sipush (v := 200) hx hb dX4_holds_5 (by decide) ?_
    refine lv_icmp_ge (tgt := 25) hx hb dX4_holds_8 (by decide) (fun c_2 => ?_) (fun c_2 => ?_)
    · refine lv_iconst (v := 0) hx hb dX4_holds_25 (by decide) ?_
      exact y_ir K hP hD hS (Nat.le_of_ble_eq_true rfl) (Nat.le_of_ble_eq_true rfl) (ty := .boolean) rfl rfl dX4_holds_26 (⟨rfl, rfl⟩)
    · refine lv_aload_n hx hb dX4_holds_11 rfl (lv_at hl 0 rfl) ?_
      refine x_get (ref := "NoteHouse$Settlement") F hP hy rfl (fun _ h => List.mem_cons_of_mem _ (List.mem_append_right _ (h))) 0 (Nat.le_of_ble_eq_true rfl) (List.mem_cons_of_mem _ (List.mem_append_left _ (List.mem_of_getElem? (i := 0) rfl))) rfl rfl dX4_holds_12 ?_
      refine lv_iload_n hx hb dX4_holds_15 rfl (lv_at hl 1 rfl) ?_
      refine x_iald F hP h0 (hd_in c_1 c_2) dX4_holds_16 ?_
      rw [hd_g c_1 c_2 hg]
      refine lv_iconst (v := (-1)) hx hb dX4_holds_17 (by decide) ?_
      refine lv_icmp_eq (tgt := 25) hx hb dX4_holds_18 (by decide) (fun c_1 => ?_) (fun c_1 => absurd (show (-1 : Int32) = (-1 : Int32) by decide) c_1)
      refine lv_iconst (v := 0) hx hb dX4_holds_25 (by decide) ?_
      exact y_ir K hP hD hS (Nat.le_of_ble_eq_true rfl) (Nat.le_of_ble_eq_true rfl) (ty := .boolean) rfl rfl dX4_holds_26 (⟨rfl, rfl⟩)
set_option maxHeartbeats 4000000 in
set_option maxRecDepth 100000 in
theorem c_X10_settled (l : Launch) (D : va_G) (cy : Nat → ClassId) (w : Wd) (x a0 a1 a2 a3 a4 a5 a6 a7 a8 a9 a10 a11 : Nat) (l0 l1 l2 l3 l4 l5 l6 l7 : Nat) (g : Nat → Int32) (k u : Int32) (hc : wd_at w x (.inr (10, [.ref a0, .ref a1, .ref a2, .ref a3, .ref a4, .ref a5, .ref a6, .ref a7, .ref a8, .ref a9, .ref a10, .ref a11, .int 0, .int 0, .int 0, .int 0, .int 0]))) (ha7 : wd_at w a7 (.inr (4, [.ref l0, .ref l1, .ref l2, .ref l3, .ref l4, .ref l5, .ref l6, .ref l7, .int 0, .int 0]))) (hl0 : wd_at w l0 (.inl (cy 2, 200, .inl g)))  (hg : ∀ j, j < 200 → g j = -1) : Ct l D cy yX10_settled wsX10_settled ({ frames := 1, cells := 0, slots := 0, locals := 21 }) [.ref x, .int k, .int u] w (fun v w1 => v = some (.int (-1)) ∧ w = w1) := by
  refine Ct.by (cc := cX10_settled) (maxL := 3) (ret := (some .int)) (by decide +kernel) rfl (Nat.le_of_ble_eq_true rfl) ?_
  intro p e s m args below meth c A Q F hnm K ls hl
  have F : wd_Fx p s m args meth c cX10_settled 3 wsX10_settled RX10 D cy A := F
  have hl : lv_has ls 3 [(0, .ref x), (1, .int k), (2, .int u)] := hl
  have hx := F.1.1
  have hb := F.1.2.1
  have hown := F.1.2.2.2.1
  have hts := F.1.2.2.2.2
  intro H locs hP hD hS
  refine lv_aload_n hx hb dX10_settled_0 rfl (lv_at hl 0 rfl) ?_
  refine x_get (ref := "NoteHouse") F hP hc rfl (fun _ h => List.mem_cons_of_mem _ (List.mem_append_left _ (List.mem_append_right _ (h)))) 7 (Nat.le_of_ble_eq_true rfl) (List.mem_cons_of_mem _ (List.mem_append_left _ (List.mem_append_left _ (List.mem_of_getElem? (i := 0) rfl)))) rfl rfl dX10_settled_1 ?_
  refine lv_iload_n hx hb dX10_settled_4 rfl (lv_at hl 1 rfl) ?_
  refine x_callV (n := 1) (As := [.int k]) (rest := []) F hP hD hS (c_X4_holds l D cy w a7 l0 l1 l2 l3 l4 l5 l6 l7 g k ha7 hl0 hg) gX10_settled_X4_holds rfl rfl (by decide +kernel) ⟨(Nat.le_of_ble_eq_true rfl), (Nat.le_of_ble_eq_true rfl)⟩ rfl hl.1 (Nat.le_of_ble_eq_true rfl) ha7 rfl dX10_settled_5 rfl ⟨(Nat.le_of_ble_eq_true rfl), (Nat.le_of_ble_eq_true rfl)⟩ (fun v2 w3 hp1 H locs hP hD hS => ?_)
  obtain ⟨rfl, rfl⟩ := hp1
  refine W.eq (g2 := F0 m 8 ls [.int 0]) rfl (W.widen (k := 0) (n := 0) (Nat.le_of_ble_eq_true rfl) (Nat.le_of_ble_eq_true rfl) ?_)
  refine lv_if_ne (tgt := 13) hx hb dX10_settled_8 (by decide) (fun c_4 => absurd (show (0 : Int32) = (0 : Int32) by decide) c_4) (fun c_4 => ?_)
  refine lv_iconst (v := (-1)) hx hb dX10_settled_11 (by decide) ?_
  exact y_ir K hP hD hS (Nat.le_of_ble_eq_true rfl) (Nat.le_of_ble_eq_true rfl) (ty := .int) rfl rfl dX10_settled_12 (⟨rfl, rfl⟩)
set_option maxHeartbeats 4000000 in
set_option maxRecDepth 100000 in
theorem c_X10_due (l : Launch) (D : va_G) (cy : Nat → ClassId) (w : Wd) (x a0 a1 a2 a3 a4 a5 a6 a7 a8 a9 a10 a11 : Nat) (l0 l1 l2 l3 l4 l5 l6 l7 : Nat) (g : Nat → Int64) (t : Int32) (hc : wd_at w x (.inr (10, [.ref a0, .ref a1, .ref a2, .ref a3, .ref a4, .ref a5, .ref a6, .ref a7, .ref a8, .ref a9, .ref a10, .ref a11, .int 0, .int 0, .int 0, .int 0, .int 0]))) (ha7 : wd_at w a7 (.inr (4, [.ref l0, .ref l1, .ref l2, .ref l3, .ref l4, .ref l5, .ref l6, .ref l7, .int 0, .int 0]))) (hl2 : wd_at w l2 (.inl (cy 3, 12, .inr (.inl g))))  (hg : ∀ j, j < 12 → g j = 0) : Ct l D cy yX10_due wsX10_due ({ frames := 2, cells := 0, slots := 0, locals := 42 }) [.ref x, .int t] w (fun v w1 => v = some (.long 0) ∧ w = w1) := by
  refine Ct.by (cc := cX10_due) (maxL := 2) (ret := (some .long)) (by decide +kernel) rfl (Nat.le_of_ble_eq_true rfl) ?_
  intro p e s m args below meth c A Q F hnm K ls hl
  have F : wd_Fx p s m args meth c cX10_due 2 wsX10_due RX10 D cy A := F
  have hl : lv_has ls 2 [(0, .ref x), (1, .int t)] := hl
  have hx := F.1.1
  have hb := F.1.2.1
  have hown := F.1.2.2.2.1
  have hts := F.1.2.2.2.2
  intro H locs hP hD hS
  refine lv_iload_n hx hb dX10_due_0 rfl (lv_at hl 1 rfl) ?_
  refine x_callS (n := 1) (As := [.int t]) (rest := []) F hP hD hS (c_X10_isTown l D cy w t) gX10_due_X10_isTown rfl (by decide +kernel) ⟨(Nat.le_of_ble_eq_true rfl), (Nat.le_of_ble_eq_true rfl)⟩ rfl hl.1 (Nat.le_of_ble_eq_true rfl) dX10_due_1 rfl ⟨(Nat.le_of_ble_eq_true rfl), (Nat.le_of_ble_eq_true rfl)⟩ (fun v2 w3 hp1 H locs hP hD hS => ?_)
  obtain ⟨rfl, rfl⟩ := hp1
  refine W.eq (g2 := F0 m 4 ls [.int (wi t 0 11)]) rfl (W.widen (k := 0) (n := 0) (Nat.le_of_ble_eq_true rfl) (Nat.le_of_ble_eq_true rfl) ?_)
  refine lv_if_eq (tgt := 19) hx hb dX10_due_4 (by decide) (fun c_1 => ?_) (fun c_1 => ?_)
  · refine lv_lconst (v := 0) hx hb dX10_due_19 (by decide) ?_
    exact y_lr K hP hD hS (Nat.le_of_ble_eq_true rfl) (Nat.le_of_ble_eq_true rfl) rfl dX10_due_20 (⟨rfl, rfl⟩)
  · refine lv_aload_n hx hb dX10_due_7 rfl (lv_at hl 0 rfl) ?_
    refine x_get (ref := "NoteHouse") F hP hc rfl (fun _ h => List.mem_cons_of_mem _ (List.mem_append_left _ (List.mem_append_right _ (h)))) 7 (Nat.le_of_ble_eq_true rfl) (List.mem_cons_of_mem _ (List.mem_append_left _ (List.mem_append_left _ (List.mem_of_getElem? (i := 0) rfl)))) rfl rfl dX10_due_8 ?_
    refine x_get (ref := "NoteHouse$Settlement") F hP ha7 rfl (fun _ h => List.mem_cons_of_mem _ (List.mem_append_right _ (h))) 2 (Nat.le_of_ble_eq_true rfl) (List.mem_cons_of_mem _ (List.mem_append_left _ (List.mem_append_left _ (List.mem_of_getElem? (i := 1) rfl)))) rfl rfl dX10_due_11 ?_
    refine lv_iload_n hx hb dX10_due_14 rfl (lv_at hl 1 rfl) ?_
    refine x_lald F hP hl2 (wi_v c_1) dX10_due_15 ?_
    obtain ⟨j, hj, -, hjc⟩ := wi_t c_1
    rw [hjc, hg j hj]
    refine lv_goto (tgt := 20) hx hb dX10_due_16 (by decide) ?_
    exact y_lr K hP hD hS (Nat.le_of_ble_eq_true rfl) (Nat.le_of_ble_eq_true rfl) rfl dX10_due_20 (⟨rfl, rfl⟩)
set_option maxHeartbeats 4000000 in
set_option maxRecDepth 100000 in
theorem c_X10_netted (l : Launch) (D : va_G) (cy : Nat → ClassId) (w : Wd) (x a0 a1 a2 a3 a4 a5 a6 a7 a8 a9 a10 a11 : Nat) (l0 l1 l2 l3 l4 l5 l6 l7 : Nat) (k u : Int32) (hc : wd_at w x (.inr (10, [.ref a0, .ref a1, .ref a2, .ref a3, .ref a4, .ref a5, .ref a6, .ref a7, .ref a8, .ref a9, .ref a10, .ref a11, .int 0, .int 0, .int 0, .int 0, .int 0]))) (ha7 : wd_at w a7 (.inr (4, [.ref l0, .ref l1, .ref l2, .ref l3, .ref l4, .ref l5, .ref l6, .ref l7, .int 0, .int 0])))   : Ct l D cy yX10_netted wsX10_netted ({ frames := 0, cells := 0, slots := 0, locals := 0 }) [.ref x, .int k, .int u] w (fun v w1 => v = some (.long (-1)) ∧ w = w1) := by
  refine Ct.by (cc := cX10_netted) (maxL := 3) (ret := (some .long)) (by decide +kernel) rfl (Nat.le_of_ble_eq_true rfl) ?_
  intro p e s m args below meth c A Q F hnm K ls hl
  have F : wd_Fx p s m args meth c cX10_netted 3 wsX10_netted RX10 D cy A := F
  have hl : lv_has ls 3 [(0, .ref x), (1, .int k), (2, .int u)] := hl
  have hx := F.1.1
  have hb := F.1.2.1
  have hown := F.1.2.2.2.1
  have hts := F.1.2.2.2.2
  intro H locs hP hD hS
  refine lv_iload_n hx hb dX10_netted_0 rfl (lv_at hl 1 rfl) ?_
  refine lv_if_lt (tgt := 15) hx hb dX10_netted_1 (by decide) (fun c_0 => ?_) (fun c_0 => ?_)
  · refine lv_ldc2 (v := (-1)) hx hb hown (hts _ (List.mem_cons_of_mem _ (List.mem_append_left _ (List.mem_append_left _ (List.mem_of_getElem? (i := 2) rfl))))) dX10_netted_15 ?_
    exact y_lr K hP hD hS (Nat.le_of_ble_eq_true rfl) (Nat.le_of_ble_eq_true rfl) rfl dX10_netted_18 (⟨rfl, rfl⟩)
  · refine lv_iload_n hx hb dX10_netted_4 rfl (lv_at hl 1 rfl) ?_
    refine lv_aload_n hx hb dX10_netted_5 rfl (lv_at hl 0 rfl) ?_
    refine x_get (ref := "NoteHouse") F hP hc rfl (fun _ h => List.mem_cons_of_mem _ (List.mem_append_left _ (List.mem_append_right _ (h)))) 7 (Nat.le_of_ble_eq_true rfl) (List.mem_cons_of_mem _ (List.mem_append_left _ (List.mem_append_left _ (List.mem_of_getElem? (i := 0) rfl)))) rfl rfl dX10_netted_6 ?_
    refine x_get (ref := "NoteHouse$Settlement") F hP ha7 rfl (fun _ h => List.mem_cons_of_mem _ (List.mem_append_right _ (h))) 8 (Nat.le_of_ble_eq_true rfl) (List.mem_cons_of_mem _ (List.mem_append_left _ (List.mem_append_left _ (List.mem_of_getElem? (i := 1) rfl)))) rfl rfl dX10_netted_9 ?_
    refine lv_icmp_lt (tgt := 19) hx hb dX10_netted_12 (by decide) (fun c_1 => absurd c_1 c_0) (fun c_1 => ?_)
    refine lv_ldc2 (v := (-1)) hx hb hown (hts _ (List.mem_cons_of_mem _ (List.mem_append_left _ (List.mem_append_left _ (List.mem_of_getElem? (i := 2) rfl))))) dX10_netted_15 ?_
    exact y_lr K hP hD hS (Nat.le_of_ble_eq_true rfl) (Nat.le_of_ble_eq_true rfl) rfl dX10_netted_18 (⟨rfl, rfl⟩)
theorem wi_1021 {n : Int32} (h : ¬ wi n 10 21 = 0) : vp_in (n - 10) 12 := by
  obtain ⟨j, hj, e, -⟩ := wi_10 h
  rw [e]; exact vp_in_nI hj (by decide)
theorem ct_30 {n : Int32} (h : wi n 30 33 = 0) : ¬ n = 30 ∧ ¬ n = 31 ∧ ¬ n = 32 ∧ ¬ n = 33 :=
  ⟨fun q => by rw [q] at h; exact absurd h (by decide), fun q => by rw [q] at h; exact absurd h (by decide), fun q => by rw [q] at h; exact absurd h (by decide), fun q => by rw [q] at h; exact absurd h (by decide)⟩
set_option maxHeartbeats 4000000 in
set_option maxRecDepth 100000 in
theorem c_X10_count (l : Launch) (D : va_G) (cy : Nat → ClassId) (w : Wd) (x a0 a1 a2 a3 a4 a5 a6 a7 a8 a9 a10 a11 : Nat) (tf : Nat → Option Nat) (tn ag : Nat → Nat) (gg : Nat → Nat → Nat) (l0 l1 l2 l3 l4 l5 l6 l7 : Nat) (b6 bl : Nat) (at0 : Int32) (f : Nat → Int32) (k : Int32) (hc : wd_at w x (.inr (10, [.ref a0, .ref a1, .ref a2, .ref a3, .ref a4, .ref a5, .ref a6, .ref a7, .ref a8, .ref a9, .ref a10, .ref a11, .int 0, .int 0, .int 0, .int 0, .int 0]))) (ha1 : wd_at w a1 (.inl (cy 9, 12, .inr (.inr (.inr (.inr tf)))))) (hc6 : wd_at w a6 (.inr (7, [.ref b6, .int 0, .int at0]))) (ha7 : wd_at w a7 (.inr (4, [.ref l0, .ref l1, .ref l2, .ref l3, .ref l4, .ref l5, .ref l6, .ref l7, .int 0, .int 0]))) (ha10 : wd_at w a10 (.inr (2, [.ref bl, .int 10, .int 0]))) (hbl : wd_at w bl (.inl (cy 2, 4, .inl f))) (ht : ∀ i, i < 12 → tf i = some (tn i) ∧ wd_at w (tn i) (.inr (8, [.int 0, .int 1000, .int 0, .ref (ag i)]))) (hag : ∀ i, i < 12 → wd_at w (ag i) (.inr (1, [.ref (gg i 0), .ref (gg i 1), .ref (gg i 2), .ref (gg i 3), .ref (gg i 4), .int 0]))) (hbf : f 0 = 1 ∧ f 1 = 1 ∧ f 2 = 0 ∧ f 3 = 2) : Ct l D cy yX10_count wsX10_count ({ frames := 1, cells := 0, slots := 0, locals := 22 }) [.ref x, .int k] w (fun v w1 => v = some (.int (sp_count k)) ∧ w = w1) := by
  refine Ct.by (cc := cX10_count) (maxL := 2) (ret := (some .int)) (by decide +kernel) rfl (Nat.le_of_ble_eq_true rfl) ?_
  intro p e s m args below meth c A Q F hnm K ls hl
  have F : wd_Fx p s m args meth c cX10_count 2 wsX10_count RX10 D cy A := F
  have hl : lv_has ls 2 [(0, .ref x), (1, .int k)] := hl
  have hx := F.1.1
  have hb := F.1.2.1
  have hown := F.1.2.2.2.1
  have hts := F.1.2.2.2.2
  intro H locs hP hD hS
  refine lv_iload_n hx hb dX10_count_0 rfl (lv_at hl 1 rfl) ?_
  refine lv_bipush (v := 10) hx hb dX10_count_1 (by decide) ?_
  refine lv_bipush (v := 21) hx hb dX10_count_3 (by decide) ?_
  refine x_callS (n := 3) (As := [.int k, .int 10, .int 21]) (rest := []) F hP hD hS (c_X10_isWithin l D cy w k 10 21) gX10_count_X10_isWithin rfl (by decide +kernel) ⟨(Nat.le_of_ble_eq_true rfl), (Nat.le_of_ble_eq_true rfl)⟩ rfl hl.1 (Nat.le_of_ble_eq_true rfl) dX10_count_5 rfl ⟨(Nat.le_of_ble_eq_true rfl), (Nat.le_of_ble_eq_true rfl)⟩ (fun v2 w3 hp1 H locs hP hD hS => ?_)
  obtain ⟨rfl, rfl⟩ := hp1
  refine W.eq (g2 := F0 m 8 ls [.int (wi k 10 21)]) rfl (W.widen (k := 0) (n := 0) (Nat.le_of_ble_eq_true rfl) (Nat.le_of_ble_eq_true rfl) ?_)
  refine lv_if_eq (tgt := 27) hx hb dX10_count_8 (by decide) (fun c_1 => ?_) (fun c_1 => ?_)
  · refine lv_iload_n hx hb dX10_count_27 rfl (lv_at hl 1 rfl) ?_
    refine lv_bipush (v := 30) hx hb dX10_count_28 (by decide) ?_
    refine lv_bipush (v := 33) hx hb dX10_count_30 (by decide) ?_
    refine x_callS (n := 3) (As := [.int k, .int 30, .int 33]) (rest := []) F hP hD hS (c_X10_isWithin l D cy w k 30 33) gX10_count_X10_isWithin rfl (by decide +kernel) ⟨(Nat.le_of_ble_eq_true rfl), (Nat.le_of_ble_eq_true rfl)⟩ rfl hl.1 (Nat.le_of_ble_eq_true rfl) dX10_count_32 rfl ⟨(Nat.le_of_ble_eq_true rfl), (Nat.le_of_ble_eq_true rfl)⟩ (fun v5 w6 hp4 H locs hP hD hS => ?_)
    obtain ⟨rfl, rfl⟩ := hp4
    refine W.eq (g2 := F0 m 35 ls [.int (wi k 30 33)]) rfl (W.widen (k := 0) (n := 0) (Nat.le_of_ble_eq_true rfl) (Nat.le_of_ble_eq_true rfl) ?_)
    refine lv_if_eq (tgt := 51) hx hb dX10_count_35 (by decide) (fun c_2 => ?_) (fun c_2 => ?_)
    · refine lv_iload_n hx hb dX10_count_51 rfl (lv_at hl 1 rfl) ?_
      by_cases c_7 : k = 0
      · refine lv_lookup (off := 76) (tgt := 128) hx hb dX10_count_52 (by decide) (by rw [c_7]; decide) (by decide) ?_
        refine lv_aload_n hx hb dX10_count_128 rfl (lv_at hl 0 rfl) ?_
        refine x_get (ref := "NoteHouse") F hP hc rfl (fun _ h => List.mem_cons_of_mem _ (List.mem_append_left _ (List.mem_append_left _ (List.mem_append_left _ (List.mem_append_left _ (List.mem_append_left _ (List.mem_append_right _ (h)))))))) 12 (Nat.le_of_ble_eq_true rfl) (List.mem_cons_of_mem _ (List.mem_append_left _ (List.mem_append_left _ (List.mem_append_left _ (List.mem_append_left _ (List.mem_append_left _ (List.mem_append_left _ (List.mem_of_getElem? (i := 5) rfl)))))))) rfl rfl dX10_count_129 ?_
        exact y_ir K hP hD hS (Nat.le_of_ble_eq_true rfl) (Nat.le_of_ble_eq_true rfl) (ty := .int) rfl rfl dX10_count_132 (⟨by rw [c_7]; decide, rfl⟩)
      by_cases c_8 : k = 1
      · refine lv_lookup (off := 81) (tgt := 133) hx hb dX10_count_52 (by decide) (by rw [c_8]; decide) (by decide) ?_
        refine lv_aload_n hx hb dX10_count_133 rfl (lv_at hl 0 rfl) ?_
        refine x_get (ref := "NoteHouse") F hP hc rfl (fun _ h => List.mem_cons_of_mem _ (List.mem_append_left _ (List.mem_append_left _ (List.mem_append_left _ (List.mem_append_left _ (List.mem_append_left _ (List.mem_append_right _ (h)))))))) 13 (Nat.le_of_ble_eq_true rfl) (List.mem_cons_of_mem _ (List.mem_append_left _ (List.mem_append_left _ (List.mem_append_left _ (List.mem_append_left _ (List.mem_append_left _ (List.mem_append_left _ (List.mem_of_getElem? (i := 6) rfl)))))))) rfl rfl dX10_count_134 ?_
        exact y_ir K hP hD hS (Nat.le_of_ble_eq_true rfl) (Nat.le_of_ble_eq_true rfl) (ty := .int) rfl rfl dX10_count_137 (⟨by rw [c_8]; decide, rfl⟩)
      by_cases c_9 : k = 2
      · refine lv_lookup (off := 86) (tgt := 138) hx hb dX10_count_52 (by decide) (by rw [c_9]; decide) (by decide) ?_
        refine lv_aload_n hx hb dX10_count_138 rfl (lv_at hl 0 rfl) ?_
        refine x_get (ref := "NoteHouse") F hP hc rfl (fun _ h => List.mem_cons_of_mem _ (List.mem_append_left _ (List.mem_append_left _ (List.mem_append_left _ (List.mem_append_left _ (List.mem_append_left _ (List.mem_append_right _ (h)))))))) 14 (Nat.le_of_ble_eq_true rfl) (List.mem_cons_of_mem _ (List.mem_append_left _ (List.mem_append_left _ (List.mem_append_left _ (List.mem_append_left _ (List.mem_append_left _ (List.mem_append_left _ (List.mem_of_getElem? (i := 7) rfl)))))))) rfl rfl dX10_count_139 ?_
        exact y_ir K hP hD hS (Nat.le_of_ble_eq_true rfl) (Nat.le_of_ble_eq_true rfl) (ty := .int) rfl rfl dX10_count_142 (⟨by rw [c_9]; decide, rfl⟩)
      by_cases c_10 : k = 3
      · refine lv_lookup (off := 91) (tgt := 143) hx hb dX10_count_52 (by decide) (by rw [c_10]; decide) (by decide) ?_
        refine lv_aload_n hx hb dX10_count_143 rfl (lv_at hl 0 rfl) ?_
        refine x_get (ref := "NoteHouse") F hP hc rfl (fun _ h => List.mem_cons_of_mem _ (List.mem_append_left _ (List.mem_append_left _ (List.mem_append_left _ (List.mem_append_left _ (List.mem_append_left _ (List.mem_append_right _ (h)))))))) 15 (Nat.le_of_ble_eq_true rfl) (List.mem_cons_of_mem _ (List.mem_append_left _ (List.mem_append_left _ (List.mem_append_left _ (List.mem_append_left _ (List.mem_append_left _ (List.mem_append_left _ (List.mem_of_getElem? (i := 8) rfl)))))))) rfl rfl dX10_count_144 ?_
        exact y_ir K hP hD hS (Nat.le_of_ble_eq_true rfl) (Nat.le_of_ble_eq_true rfl) (ty := .int) rfl rfl dX10_count_147 (⟨by rw [c_10]; decide, rfl⟩)
      by_cases c_11 : k = 4
      · refine lv_lookup (off := 96) (tgt := 148) hx hb dX10_count_52 (by decide) (by rw [c_11]; decide) (by decide) ?_
        refine lv_aload_n hx hb dX10_count_148 rfl (lv_at hl 0 rfl) ?_
        refine x_get (ref := "NoteHouse") F hP hc rfl (fun _ h => List.mem_cons_of_mem _ (List.mem_append_left _ (List.mem_append_left _ (List.mem_append_left _ (List.mem_append_left _ (List.mem_append_left _ (List.mem_append_right _ (h)))))))) 16 (Nat.le_of_ble_eq_true rfl) (List.mem_cons_of_mem _ (List.mem_append_left _ (List.mem_append_left _ (List.mem_append_left _ (List.mem_append_left _ (List.mem_append_left _ (List.mem_append_left _ (List.mem_of_getElem? (i := 9) rfl)))))))) rfl rfl dX10_count_149 ?_
        exact y_ir K hP hD hS (Nat.le_of_ble_eq_true rfl) (Nat.le_of_ble_eq_true rfl) (ty := .int) rfl rfl dX10_count_152 (⟨by rw [c_11]; decide, rfl⟩)
      by_cases c_12 : k = 5
      · refine lv_lookup (off := 101) (tgt := 153) hx hb dX10_count_52 (by decide) (by rw [c_12]; decide) (by decide) ?_
        refine lv_aload_n hx hb dX10_count_153 rfl (lv_at hl 0 rfl) ?_
        refine x_get (ref := "NoteHouse") F hP hc rfl (fun _ h => List.mem_cons_of_mem _ (List.mem_append_left _ (List.mem_append_left _ (List.mem_append_left _ (List.mem_append_left _ (List.mem_append_left _ (List.mem_append_right _ (h)))))))) 6 (Nat.le_of_ble_eq_true rfl) (List.mem_cons_of_mem _ (List.mem_append_left _ (List.mem_append_left _ (List.mem_append_left _ (List.mem_append_left _ (List.mem_append_left _ (List.mem_append_left _ (List.mem_of_getElem? (i := 10) rfl)))))))) rfl rfl dX10_count_154 ?_
        refine x_get (ref := "NoteHouse$Tape") F hP hc6 rfl (fun _ h => List.mem_cons_of_mem _ (List.mem_append_left _ (List.mem_append_right _ (h)))) 1 (Nat.le_of_ble_eq_true rfl) (List.mem_cons_of_mem _ (List.mem_append_left _ (List.mem_append_left _ (List.mem_append_left _ (List.mem_append_left _ (List.mem_append_left _ (List.mem_append_left _ (List.mem_of_getElem? (i := 11) rfl)))))))) rfl rfl dX10_count_157 ?_
        exact y_ir K hP hD hS (Nat.le_of_ble_eq_true rfl) (Nat.le_of_ble_eq_true rfl) (ty := .int) rfl rfl dX10_count_160 (⟨by rw [c_12]; decide, rfl⟩)
      by_cases c_13 : k = 6
      · refine lv_lookup (off := 109) (tgt := 161) hx hb dX10_count_52 (by decide) (by rw [c_13]; decide) (by decide) ?_
        refine lv_aload_n hx hb dX10_count_161 rfl (lv_at hl 0 rfl) ?_
        refine x_get (ref := "NoteHouse") F hP hc rfl (fun _ h => List.mem_cons_of_mem _ (List.mem_append_left _ (List.mem_append_left _ (List.mem_append_left _ (List.mem_append_left _ (List.mem_append_left _ (List.mem_append_right _ (h)))))))) 7 (Nat.le_of_ble_eq_true rfl) (List.mem_cons_of_mem _ (List.mem_append_left _ (List.mem_append_left _ (List.mem_append_left _ (List.mem_append_left _ (List.mem_append_left _ (List.mem_append_left _ (List.mem_of_getElem? (i := 12) rfl)))))))) rfl rfl dX10_count_162 ?_
        refine x_get (ref := "NoteHouse$Settlement") F hP ha7 rfl (fun _ h => List.mem_cons_of_mem _ (List.mem_append_right _ (h))) 8 (Nat.le_of_ble_eq_true rfl) (List.mem_cons_of_mem _ (List.mem_append_left _ (List.mem_append_left _ (List.mem_append_left _ (List.mem_append_left _ (List.mem_append_left _ (List.mem_append_left _ (List.mem_of_getElem? (i := 13) rfl)))))))) rfl rfl dX10_count_165 ?_
        exact y_ir K hP hD hS (Nat.le_of_ble_eq_true rfl) (Nat.le_of_ble_eq_true rfl) (ty := .int) rfl rfl dX10_count_168 (⟨by rw [c_13]; decide, rfl⟩)
      by_cases c_14 : k = 34
      · refine lv_lookup (off := 117) (tgt := 169) hx hb dX10_count_52 (by decide) (by rw [c_14]; decide) (by decide) ?_
        refine lv_aload_n hx hb dX10_count_169 rfl (lv_at hl 0 rfl) ?_
        refine x_get (ref := "NoteHouse") F hP hc rfl (fun _ h => List.mem_cons_of_mem _ (List.mem_append_left _ (List.mem_append_left _ (List.mem_append_left _ (List.mem_append_left _ (List.mem_append_left _ (List.mem_append_right _ (h)))))))) 10 (Nat.le_of_ble_eq_true rfl) (List.mem_cons_of_mem _ (List.mem_append_left _ (List.mem_append_left _ (List.mem_append_left _ (List.mem_append_left _ (List.mem_append_left _ (List.mem_append_left _ (List.mem_of_getElem? (i := 3) rfl)))))))) rfl rfl dX10_count_170 ?_
        refine x_get (ref := "NoteHouse$Law") F hP ha10 rfl (fun _ h => List.mem_cons_of_mem _ (List.mem_append_left _ (List.mem_append_left _ (List.mem_append_right _ (h))))) 1 (Nat.le_of_ble_eq_true rfl) (List.mem_cons_of_mem _ (List.mem_append_left _ (List.mem_append_left _ (List.mem_append_left _ (List.mem_append_left _ (List.mem_append_left _ (List.mem_append_left _ (List.mem_of_getElem? (i := 14) rfl)))))))) rfl rfl dX10_count_173 ?_
        exact y_ir K hP hD hS (Nat.le_of_ble_eq_true rfl) (Nat.le_of_ble_eq_true rfl) (ty := .int) rfl rfl dX10_count_176 (⟨by rw [c_14]; decide, rfl⟩)
      refine lv_lookup (off := 125) (tgt := 177) hx hb dX10_count_52 (by decide) (show Op.lookupswitch.offset [(0, 76), (1, 81), (2, 86), (3, 91), (4, 96), (5, 101), (6, 109), (34, 117)] 125 k.toInt = 125 from ((lv_osw c_7 (show (0 : Int32).toInt = 0 by decide)).trans ((lv_osw c_8 (show (1 : Int32).toInt = 1 by decide)).trans ((lv_osw c_9 (show (2 : Int32).toInt = 2 by decide)).trans ((lv_osw c_10 (show (3 : Int32).toInt = 3 by decide)).trans ((lv_osw c_11 (show (4 : Int32).toInt = 4 by decide)).trans ((lv_osw c_12 (show (5 : Int32).toInt = 5 by decide)).trans ((lv_osw c_13 (show (6 : Int32).toInt = 6 by decide)).trans ((lv_osw c_14 (show (34 : Int32).toInt = 34 by decide)).trans rfl))))))))) (by decide) ?_
      refine lv_iconst (v := (-1)) hx hb dX10_count_177 (by decide) ?_
      exact y_ir K hP hD hS (Nat.le_of_ble_eq_true rfl) (Nat.le_of_ble_eq_true rfl) (ty := .int) rfl rfl dX10_count_178 (⟨by obtain ⟨e0, e1, e2, e3⟩ := ct_30 c_2; simp [sp_count, e0, e1, e2, e3, c_1, c_7, c_8, c_9, c_10, c_11, c_12, c_13, c_14], rfl⟩)
    · refine lv_aload_n hx hb dX10_count_38 rfl (lv_at hl 0 rfl) ?_
      refine x_get (ref := "NoteHouse") F hP hc rfl (fun _ h => List.mem_cons_of_mem _ (List.mem_append_left _ (List.mem_append_left _ (List.mem_append_left _ (List.mem_append_left _ (List.mem_append_left _ (List.mem_append_right _ (h)))))))) 10 (Nat.le_of_ble_eq_true rfl) (List.mem_cons_of_mem _ (List.mem_append_left _ (List.mem_append_left _ (List.mem_append_left _ (List.mem_append_left _ (List.mem_append_left _ (List.mem_append_left _ (List.mem_of_getElem? (i := 3) rfl)))))))) rfl rfl dX10_count_39 ?_
      refine x_get (ref := "NoteHouse$Law") F hP ha10 rfl (fun _ h => List.mem_cons_of_mem _ (List.mem_append_left _ (List.mem_append_left _ (List.mem_append_right _ (h))))) 0 (Nat.le_of_ble_eq_true rfl) (List.mem_cons_of_mem _ (List.mem_append_left _ (List.mem_append_left _ (List.mem_append_left _ (List.mem_append_left _ (List.mem_append_left _ (List.mem_append_left _ (List.mem_of_getElem? (i := 4) rfl)))))))) rfl rfl dX10_count_42 ?_
      refine lv_iload_n hx hb dX10_count_45 rfl (lv_at hl 1 rfl) ?_
      refine lv_bipush (v := 30) hx hb dX10_count_46 (by decide) ?_
      refine lv_isub hx hb dX10_count_48 ?_
      refine x_iald F hP hbl (wi_30v c_2) dX10_count_49 ?_
      exact y_ir K hP hD hS (Nat.le_of_ble_eq_true rfl) (Nat.le_of_ble_eq_true rfl) (ty := .int) rfl rfl dX10_count_50 (⟨by rw [ct_b c_2 hbf], rfl⟩)
  · obtain ⟨j, hj, -, hjc⟩ := wi_10 c_1
    have hT := (ht j hj).2
    have hV := vp_in_nI hj (N := 12) (by decide)
    have hAg := hag j hj
    refine lv_aload_n hx hb dX10_count_11 rfl (lv_at hl 0 rfl) ?_
    refine x_get (ref := "NoteHouse") F hP hc rfl (fun _ h => List.mem_cons_of_mem _ (List.mem_append_left _ (List.mem_append_left _ (List.mem_append_left _ (List.mem_append_left _ (List.mem_append_left _ (List.mem_append_right _ (h)))))))) 1 (Nat.le_of_ble_eq_true rfl) (List.mem_cons_of_mem _ (List.mem_append_left _ (List.mem_append_left _ (List.mem_append_left _ (List.mem_append_left _ (List.mem_append_left _ (List.mem_append_left _ (List.mem_of_getElem? (i := 0) rfl)))))))) rfl rfl dX10_count_12 ?_
    refine lv_iload_n hx hb dX10_count_15 rfl (lv_at hl 1 rfl) ?_
    refine lv_bipush (v := 10) hx hb dX10_count_16 (by decide) ?_
    refine lv_isub hx hb dX10_count_18 ?_
    refine x_aald F hP ha1 rfl (wi_1021 c_1) dX10_count_19 ?_
    rw [hjc, (ht j hj).1]
    refine W.eq (g2 := F0 m _ ls [.ref (tn j)]) rfl ?_
    refine x_get (ref := "NoteHouse$Town") F hP hT rfl (fun _ h => List.mem_cons_of_mem _ (List.mem_append_left _ (List.mem_append_left _ (List.mem_append_left _ (List.mem_append_left _ (List.mem_append_right _ (h))))))) 3 (Nat.le_of_ble_eq_true rfl) (List.mem_cons_of_mem _ (List.mem_append_left _ (List.mem_append_left _ (List.mem_append_left _ (List.mem_append_left _ (List.mem_append_left _ (List.mem_append_left _ (List.mem_of_getElem? (i := 1) rfl)))))))) rfl rfl dX10_count_20 ?_
    refine x_get (ref := "NoteHouse$Agent") F hP hAg rfl (fun _ h => List.mem_cons_of_mem _ (List.mem_append_left _ (List.mem_append_left _ (List.mem_append_left _ (List.mem_append_right _ (h)))))) 5 (Nat.le_of_ble_eq_true rfl) (List.mem_cons_of_mem _ (List.mem_append_left _ (List.mem_append_left _ (List.mem_append_left _ (List.mem_append_left _ (List.mem_append_left _ (List.mem_append_left _ (List.mem_of_getElem? (i := 2) rfl)))))))) rfl rfl dX10_count_23 ?_
    exact y_ir K hP hD hS (Nat.le_of_ble_eq_true rfl) (Nat.le_of_ble_eq_true rfl) (ty := .int) rfl rfl dX10_count_26 (⟨by simp [sp_count, c_1], rfl⟩)
theorem y_copyl {p : Program} {l : Launch} {e : Env} {R : Room} {s : State} {m : MethodId} {args : Array Value} {below : List Frame} {meth : Method} {c : Code} {H : Heap} {locs : List Loc} {cells slots : Nat} {Q : State → Prop} {cc : ByteArray} {pc nL : Nat} {ls : Array Slot} {rest : List Value} {D : va_G} {cy : Nat → ClassId} {A : Nat → Prop} {a : Nat} {w : Wd} {Ts : List Cond} {own : String} (F : wd_Fx p s m args meth c cc nL Ts own D cy A) (hP : va_P D vwCl (wd_pl w) H) (hD : va_D A (wd_pl w)) (hS : va_S A s.heap H locs) {a0 n0 n1 index : Nat} {f g : Nat → Int64} (h0 : wd_at w a0 (.inl (cy 3, n0, .inr (.inl f)))) (h1 : wd_at w a (.inl (cy 3, n1, .inr (.inl g)))) (hlink : Cond.methodLink own index arraycopyName ∈ Ts) (hnat : Cond.native arraycopyName ∈ Ts) (hstat : Cond.static arraycopyName ∈ Ts) (hini : Cond.initialized "java/lang/System" ∈ Ts) (hls : ls.size = nL) {sp dp n : Int32} (e1 : ¬ sp < 0) (e2 : ¬ dp < 0) (e3 : ¬ n < 0) (e4 : sp.toNatClampNeg + n.toNatClampNeg ≤ n0) (e5 : dp.toNatClampNeg + n.toNatClampNeg ≤ n1) (hframes : 1 ≤ R.frames) (hlocals : (rest.map fun v => v.category).sum + (nativeFrameWords "java/lang/System" "arraycopy" 5 + 11) ≤ R.locals) (hdg : decode cc pc = .ok (.invokestatic index, 3))
    (kk : ∀ (w1 : Wd), w1 = wd_put w a (.inl (cy 3, n1, .inr (.inl (va_cpy f g sp.toNatClampNeg dp.toNatClampNeg n.toNatClampNeg)))) → ∀ (H1 : Heap) (locs1 : List Loc), va_P D vwCl (wd_pl w1) H1 → va_D A (wd_pl w1) → va_S A s.heap H1 locs1 → W p l e R s m args below meth c H1 locs1 cells slots Q (F0 m (pc + 3) ls rest)) : W p l e R s m args below meth c H locs cells slots Q (F0 m pc ls (.int n :: .int dp :: .ref a :: .int sp :: .ref a0 :: rest)) := by
  obtain ⟨⟨hx, hb, hml, hown, hts⟩, hG, hA, hlk⟩ := F
  obtain ⟨q0, hq0⟩ := wd_get h0
  obtain ⟨q1, hq1⟩ := wd_get h1
  refine va_copyl hx hb (hml.trans hls.symm) hown (hts _ hlink) (hts _ hnat) (hts _ hstat) (hts _ hini) hG.1 hP hD hS q0 q1 3 3 hq0 hq1 rfl rfl rfl e1 e2 e3 e4 e5 (fun _ _ => rfl) hframes hlocals hdg (fun H1 locs1 hP1 hD1 hS1 => ?_)
  rw [wd_set hD h1 hq1] at hP1 hD1
  exact kk _ rfl H1 locs1 hP1 hD1 hS1
theorem ze_l {g : Nat → Int64} {k : Nat} (hg : ∀ j, j < 12 → g j = 0) : ∀ j, j < 12 → vp_updL g k 0 j = 0 := by
  intro j hj
  by_cases h : j = k
  · rw [h, pk_uLs]
  · rw [pk_uLn h]; exact hg j hj
theorem ze_c {f g : Nat → Int64} (hf : ∀ j, j < 12 → f j = 0) : ∀ j, j < 12 → va_cpy f g (0 : Int32).toNatClampNeg (0 : Int32).toNatClampNeg (12 : Int32).toNatClampNeg j = 0 := by
  intro j hj
  rw [show (0 : Int32).toNatClampNeg = 0 from by decide, show (12 : Int32).toNatClampNeg = 12 from by decide, pk_cpy_in (Nat.zero_le j) (by omega)]
  exact hf _ (by omega)
set_option maxHeartbeats 4000000 in
set_option maxRecDepth 100000 in
theorem c_X4_open (l : Launch) (D : va_G) (cy : Nat → ClassId) (w : Wd) (y l0 l1 l2 l3 l4 l5 l6 l7 : Nat) (u0 u1 : Int32) (f : Nat → Int32) (d : Nat → Int64) (hy : wd_at w y (.inr (4, [.ref l0, .ref l1, .ref l2, .ref l3, .ref l4, .ref l5, .ref l6, .ref l7, .int u0, .int u1]))) (h0 : wd_at w l0 (.inl (cy 2, 200, .inl f))) (h2 : wd_at w l2 (.inl (cy 3, 12, .inr (.inl d))))  (S : Nat → Prop) (sy : S y) (s0 : S l0) (s2 : S l2)  : Ct l D cy yX4_open wsX4_open ({ frames := 1, cells := 0, slots := 0, locals := 24 }) [.ref y] w (fun v w1 => v = none ∧ wd_kp S w w1 ∧ wd_at w1 y (.inr (4, [.ref l0, .ref l1, .ref l2, .ref l3, .ref l4, .ref l5, .ref l6, .ref l7, .int 0, .int 0])) ∧ ∃ g : Nat → Int64, (∀ j, j < 12 → g j = 0) ∧ wd_at w1 l2 (.inl (cy 3, 12, .inr (.inl g)))) := by
  refine Ct.by (cc := cX4_open) (maxL := 1) (ret := none) (by decide +kernel) rfl (Nat.le_of_ble_eq_true rfl) ?_
  intro p e s m args below meth c A Q F hnm K ls hl
  have F : wd_Fx p s m args meth c cX4_open 1 wsX4_open RX4 D cy A := F
  have hl : lv_has ls 1 [(0, .ref y)] := hl
  have hx := F.1.1
  have hb := F.1.2.1
  have hown := F.1.2.2.2.1
  have hts := F.1.2.2.2.2
  intro H locs hP hD hS
  have kp0 : wd_kp S w w := wd_kp.rf
  refine lv_aload_n hx hb dX4_open_0 rfl (lv_at hl 0 rfl) ?_
  refine x_get (ref := "NoteHouse$Settlement") F hP hy rfl (fun _ h => List.mem_cons_of_mem _ (List.mem_append_right _ (h))) 0 (Nat.le_of_ble_eq_true rfl) (List.mem_cons_of_mem _ (List.mem_append_left _ (List.mem_of_getElem? (i := 0) rfl))) rfl rfl dX4_open_1 ?_
  refine lv_iconst (v := (-1)) hx hb dX4_open_4 (by decide) ?_
  refine x_callS (n := 2) (As := [.ref l0, .int (-1)]) (rest := []) F hP hD hS (c_J7_fill_53178 l D cy w l0 200 f (-1) h0 (fun b => b = l0) rfl (by decide)) gX4_open_J7_fill_53178 rfl (by decide +kernel) ⟨(Nat.le_of_ble_eq_true rfl), (Nat.le_of_ble_eq_true rfl)⟩ rfl hl.1 (Nat.le_of_ble_eq_true rfl) dX4_open_5 rfl ⟨(Nat.le_of_ble_eq_true rfl), (Nat.le_of_ble_eq_true rfl)⟩ (fun v2 w3 hp1 H locs hP hD hS => ?_)
  obtain ⟨rfl, hp1, g4, hg5, k6⟩ := hp1
  have k7 := hp1.2 _ _ hy (fun q : y = l0 => (wd_nk hy h0 rfl) q)
  have k8 := hp1.2 _ _ h2 (fun q : l2 = l0 => (wd_nk h2 h0 rfl) q)
  have kp9 := kp0.tr hp1 (fun b hm q => (fun q => q ▸ s0) q)
  refine W.eq (g2 := F0 m 8 ls []) rfl (W.widen (k := 0) (n := 0) (Nat.le_of_ble_eq_true rfl) (Nat.le_of_ble_eq_true rfl) ?_)
  refine lv_aload_n hx hb dX4_open_8 rfl (lv_at hl 0 rfl) ?_
  refine x_get (ref := "NoteHouse$Settlement") F hP k7 rfl (fun _ h => List.mem_cons_of_mem _ (List.mem_append_right _ (h))) 2 (Nat.le_of_ble_eq_true rfl) (List.mem_cons_of_mem _ (List.mem_append_left _ (List.mem_of_getElem? (i := 1) rfl))) rfl rfl dX4_open_9 ?_
  refine lv_lconst (v := 0) hx hb dX4_open_12 (by decide) ?_
  refine x_callS (n := 2) (As := [.ref l2, .long 0]) (rest := []) F hP hD hS (c_J7_fill_d0a16 l D cy w3 l2 12 d 0 k8 (fun b => b = l2) rfl (by decide)) gX4_open_J7_fill_d0a16 rfl (by decide +kernel) ⟨(Nat.le_of_ble_eq_true rfl), (Nat.le_of_ble_eq_true rfl)⟩ rfl hl.1 (Nat.le_of_ble_eq_true rfl) dX4_open_13 rfl ⟨(Nat.le_of_ble_eq_true rfl), (Nat.le_of_ble_eq_true rfl)⟩ (fun v11 w12 hp10 H locs hP hD hS => ?_)
  obtain ⟨rfl, hp10, g13, hg14, k15⟩ := hp10
  have k16 := hp10.2 _ _ k7 (fun q : y = l2 => (wd_nk k7 k8 rfl) q)
  have k17 := hp10.2 _ _ k6 (fun q : l0 = l2 => (wd_nk k6 k8 rfl) q)
  have kp18 := kp9.tr hp10 (fun b hm q => (fun q => q ▸ s2) q)
  refine W.eq (g2 := F0 m 16 ls []) rfl (W.widen (k := 0) (n := 0) (Nat.le_of_ble_eq_true rfl) (Nat.le_of_ble_eq_true rfl) ?_)
  refine lv_aload_n hx hb dX4_open_16 rfl (lv_at hl 0 rfl) ?_
  refine lv_iconst (v := 0) hx hb dX4_open_17 (by decide) ?_
  refine y_put (ref := "NoteHouse$Settlement") F hP hD hS k16 rfl (fun _ h => List.mem_cons_of_mem _ (List.mem_append_right _ (h))) tyX4_ok nmX4 8 (Nat.le_of_ble_eq_true rfl) (List.mem_cons_of_mem _ (List.mem_append_left _ (List.mem_of_getElem? (i := 2) rfl))) rfl rfl rfl rfl (Nat.le_of_ble_eq_true rfl) dX4_open_18 (fun w19 ew20 H locs hP hD hS => ?_)
  have k21 : wd_at w19 y (.inr (4, [.ref l0, .ref l1, .ref l2, .ref l3, .ref l4, .ref l5, .ref l6, .ref l7, .int 0, .int u1])) := wd_at.ps ew20 k16
  have k22 := wd_at.pt ew20 k17 (wd_nk k17 k16 rfl)
  have k23 := wd_at.pt ew20 k15 (wd_nk k15 k16 rfl)
  have kp24 := kp18.put ew20 sy
  refine lv_aload_n hx hb dX4_open_21 rfl (lv_at hl 0 rfl) ?_
  refine lv_iconst (v := 0) hx hb dX4_open_22 (by decide) ?_
  refine y_put (ref := "NoteHouse$Settlement") F hP hD hS k21 rfl (fun _ h => List.mem_cons_of_mem _ (List.mem_append_right _ (h))) tyX4_ok nmX4 9 (Nat.le_of_ble_eq_true rfl) (List.mem_cons_of_mem _ (List.mem_append_left _ (List.mem_of_getElem? (i := 3) rfl))) rfl rfl rfl rfl (Nat.le_of_ble_eq_true rfl) dX4_open_23 (fun w25 ew26 H locs hP hD hS => ?_)
  have k27 : wd_at w25 y (.inr (4, [.ref l0, .ref l1, .ref l2, .ref l3, .ref l4, .ref l5, .ref l6, .ref l7, .int 0, .int 0])) := wd_at.ps ew26 k21
  have k28 := wd_at.pt ew26 k22 (wd_nk k22 k21 rfl)
  have k29 := wd_at.pt ew26 k23 (wd_nk k23 k21 rfl)
  have kp30 := kp24.put ew26 sy
  exact y_vr K hP hD hS (Nat.le_of_ble_eq_true rfl) (Nat.le_of_ble_eq_true rfl) rfl dX4_open_26 (⟨rfl, kp30, k27, _, hg14, k29⟩)
set_option maxHeartbeats 4000000 in
set_option maxRecDepth 100000 in
theorem c_X4_netAmongTowns (l : Launch) (D : va_G) (cy : Nat → ClassId) (w : Wd) (y l0 l1 l2 l3 l4 l5 l6 l7 a1 : Nat) (tf : Nat → Option Nat) (tn ag : Nat → Nat) (r0 : Nat → Int64) (co : Int32) (hy : wd_at w y (.inr (4, [.ref l0, .ref l1, .ref l2, .ref l3, .ref l4, .ref l5, .ref l6, .ref l7, .int 0, .int 0]))) (h3 : wd_at w l3 (.inl (cy 3, 12, .inr (.inl r0)))) (ha1 : wd_at w a1 (.inl (cy 9, 12, .inr (.inr (.inr (.inr tf)))))) (ht : ∀ i, i < 12 → tf i = some (tn i) ∧ wd_at w (tn i) (.inr (8, [.int 0, .int 1000, .int 0, .ref (ag i)]))) (hr0 : ∀ j, j < 12 → r0 j = 0) : Ct l D cy yX4_netAmongTowns wsX4_netAmongTowns ({ frames := 0, cells := 0, slots := 0, locals := 0 }) [.ref y, .ref a1, .int co] w (fun v w1 => v = none ∧ w = w1) := by
  refine Ct.by (cc := cX4_netAmongTowns) (maxL := 8) (ret := none) (by decide +kernel) rfl (Nat.le_of_ble_eq_true rfl) ?_
  intro p e s m args below meth c A Q F hnm K ls hl
  have F : wd_Fx p s m args meth c cX4_netAmongTowns 8 wsX4_netAmongTowns RX4 D cy A := F
  have hl : lv_has ls 8 [(0, .ref y), (1, .ref a1), (2, .int co)] := hl
  have hx := F.1.1
  have hb := F.1.2.1
  have hown := F.1.2.2.2.1
  have hts := F.1.2.2.2.2
  intro H locs hP hD hS
  refine lv_iconst (v := 0) hx hb dX4_netAmongTowns_0 (by decide) ?_
  refine lv_istore_n (lv' := [(3, .int 0), (0, .ref y), (1, .ref a1), (2, .int co)]) hx hb dX4_netAmongTowns_1 rfl hl (by decide) rfl (fun ls hl => ?_)
  have lp2 : ∀ (N : Nat) (i : Nat), (i + N = 12) → ∀ (ls : Array Slot), lv_has ls 8 [(0, .ref y), (1, .ref a1), (2, .int co), (3, .int (nI i))] → Wv p l e ({ frames := 0, cells := 0, slots := 0, locals := 0 }) s m args below meth c D A 0 0 Q w (F0 m 2 ls []) := by
    intro N
    induction N with
    | zero =>
      intro i hN2 ls hl H locs hP hD hS
      refine lv_iload_n hx hb dX4_netAmongTowns_2 rfl (lv_at hl 3 rfl) ?_
      refine lv_bipush (v := 12) hx hb dX4_netAmongTowns_3 (by decide) ?_
      refine lv_icmp_ge (tgt := 138) hx hb dX4_netAmongTowns_5 (by decide) (fun c_2 => ?_) (fun c_2 => absurd (nI_le (a := 12) (b := i) (by omega) (by omega)) c_2)
      exact y_vr K hP hD hS (Nat.le_of_ble_eq_true rfl) (Nat.le_of_ble_eq_true rfl) rfl dX4_netAmongTowns_138 (⟨rfl, rfl⟩)
    | succ N ih2 =>
      intro i hN2 ls hl H locs hP hD hS
      refine lv_iload_n hx hb dX4_netAmongTowns_2 rfl (lv_at hl 3 rfl) ?_
      refine lv_bipush (v := 12) hx hb dX4_netAmongTowns_3 (by decide) ?_
      refine lv_icmp_ge (tgt := 138) hx hb dX4_netAmongTowns_5 (by decide) (fun c_3 => absurd c_3 (nI_ge (a := i) (b := 12) (by omega) (by decide))) (fun c_3 => ?_)
      refine lv_iconst (v := 0) hx hb dX4_netAmongTowns_8 (by decide) ?_
      refine lv_istore (lv' := [(4, .int 0), (0, .ref y), (1, .ref a1), (2, .int co), (3, .int (nI i))]) hx hb dX4_netAmongTowns_9 hl (by decide) rfl (fun ls hl => ?_)
      have lp11 : ∀ (N : Nat) (j : Nat), (j + N = 12) → ∀ (ls : Array Slot), lv_has ls 8 [(0, .ref y), (1, .ref a1), (2, .int co), (3, .int (nI i)), (4, .int (nI j))] → Wv p l e ({ frames := 0, cells := 0, slots := 0, locals := 0 }) s m args below meth c D A 0 0 Q w (F0 m 11 ls []) := by
        intro N
        induction N with
        | zero =>
          intro j hN11 ls hl H locs hP hD hS
          refine lv_iload hx hb dX4_netAmongTowns_11 (lv_at hl 4 rfl) ?_
          refine lv_bipush (v := 12) hx hb dX4_netAmongTowns_13 (by decide) ?_
          refine lv_icmp_ge (tgt := 132) hx hb dX4_netAmongTowns_15 (by decide) (fun c_5 => ?_) (fun c_5 => absurd (nI_le (a := 12) (b := j) (by omega) (by omega)) c_5)
          refine lv_iinc (v := nI (i + 1)) (lv' := [(3, .int (nI (i + 1))), (0, .ref y), (1, .ref a1), (2, .int co), (4, .int (nI j))]) hx hb dX4_netAmongTowns_132 hl (k := 3) rfl (nI_1 i) (by decide) rfl (fun ls hl => ?_)
          refine lv_goto (tgt := 2) hx hb dX4_netAmongTowns_135 (by decide) ?_
          exact ih2 (i + 1)  (by omega)    ls (lv_sub hl [1, 2, 3, 0] rfl) H locs hP hD hS
        | succ N ih11 =>
          intro j hN11 ls hl H locs hP hD hS
          refine lv_iload hx hb dX4_netAmongTowns_11 (lv_at hl 4 rfl) ?_
          refine lv_bipush (v := 12) hx hb dX4_netAmongTowns_13 (by decide) ?_
          refine lv_icmp_ge (tgt := 132) hx hb dX4_netAmongTowns_15 (by decide) (fun c_6 => absurd c_6 (nI_ge (a := j) (b := 12) (by omega) (by decide))) (fun c_6 => ?_)
          refine lv_aload_n hx hb dX4_netAmongTowns_18 rfl (lv_at hl 1 rfl) ?_
          refine lv_iload_n hx hb dX4_netAmongTowns_19 rfl (lv_at hl 3 rfl) ?_
          refine x_aald F hP ha1 rfl (vp_in_nI (n := i) (N := 12) (by omega) (by decide)) dX4_netAmongTowns_20 ?_
          rw [nI_clamp (n := i) (by omega), (ht i (by omega)).1]
          refine W.eq (g2 := F0 m _ ls [.ref (tn i)]) rfl ?_
          have k7 := (ht i (by omega)).2
          refine x_get (ref := "NoteHouse$Town") F hP k7 rfl (fun _ h => List.mem_cons_of_mem _ (List.mem_append_left _ (List.mem_append_right _ (h)))) 0 (Nat.le_of_ble_eq_true rfl) (List.mem_cons_of_mem _ (List.mem_append_left _ (List.mem_append_left _ (List.mem_of_getElem? (i := 0) rfl)))) rfl rfl dX4_netAmongTowns_21 ?_
          refine lv_iload_n hx hb dX4_netAmongTowns_24 rfl (lv_at hl 2 rfl) ?_
          refine lv_icmp_ne (tgt := 43) hx hb dX4_netAmongTowns_25 (by decide) (fun c_8 => ?_) (fun c_8 => ?_)
          · refine lv_iconst (v := 0) hx hb dX4_netAmongTowns_43 (by decide) ?_
            refine lv_istore (lv' := [(5, .int 0), (0, .ref y), (1, .ref a1), (2, .int co), (3, .int (nI i)), (4, .int (nI j))]) hx hb dX4_netAmongTowns_44 hl (by decide) rfl (fun ls hl => ?_)
            refine lv_iload hx hb dX4_netAmongTowns_46 (lv_at hl 0 rfl) ?_
            refine lv_if_eq (tgt := 126) hx hb dX4_netAmongTowns_48 (by decide) (fun c_9 => ?_) (fun c_9 => absurd (show (0 : Int32) = (0 : Int32) by decide) c_9)
            refine lv_iinc (v := nI (j + 1)) (lv' := [(4, .int (nI (j + 1))), (5, .int 0), (0, .ref y), (1, .ref a1), (2, .int co), (3, .int (nI i))]) hx hb dX4_netAmongTowns_126 hl (k := 5) rfl (nI_1 j) (by decide) rfl (fun ls hl => ?_)
            refine lv_goto (tgt := 11) hx hb dX4_netAmongTowns_129 (by decide) ?_
            exact ih11 (j + 1)  (by omega)    ls (lv_sub hl [2, 3, 4, 5, 0] rfl) H locs hP hD hS
          · refine lv_aload_n hx hb dX4_netAmongTowns_28 rfl (lv_at hl 1 rfl) ?_
            refine lv_iload hx hb dX4_netAmongTowns_29 (lv_at hl 4 rfl) ?_
            refine x_aald F hP ha1 rfl (vp_in_nI (n := j) (N := 12) (by omega) (by decide)) dX4_netAmongTowns_31 ?_
            rw [nI_clamp (n := j) (by omega), (ht j (by omega)).1]
            refine W.eq (g2 := F0 m _ ls [.ref (tn j)]) rfl ?_
            have k10 := (ht j (by omega)).2
            refine x_get (ref := "NoteHouse$Town") F hP k10 rfl (fun _ h => List.mem_cons_of_mem _ (List.mem_append_left _ (List.mem_append_right _ (h)))) 0 (Nat.le_of_ble_eq_true rfl) (List.mem_cons_of_mem _ (List.mem_append_left _ (List.mem_append_left _ (List.mem_of_getElem? (i := 0) rfl)))) rfl rfl dX4_netAmongTowns_32 ?_
            refine lv_iload_n hx hb dX4_netAmongTowns_35 rfl (lv_at hl 2 rfl) ?_
            refine lv_icmp_ne (tgt := 43) hx hb dX4_netAmongTowns_36 (by decide) (fun c_11 => ?_) (fun c_11 => ?_)
            · refine lv_iconst (v := 0) hx hb dX4_netAmongTowns_43 (by decide) ?_
              refine lv_istore (lv' := [(5, .int 0), (0, .ref y), (1, .ref a1), (2, .int co), (3, .int (nI i)), (4, .int (nI j))]) hx hb dX4_netAmongTowns_44 hl (by decide) rfl (fun ls hl => ?_)
              refine lv_iload hx hb dX4_netAmongTowns_46 (lv_at hl 0 rfl) ?_
              refine lv_if_eq (tgt := 126) hx hb dX4_netAmongTowns_48 (by decide) (fun c_12 => ?_) (fun c_12 => absurd (show (0 : Int32) = (0 : Int32) by decide) c_12)
              refine lv_iinc (v := nI (j + 1)) (lv' := [(4, .int (nI (j + 1))), (5, .int 0), (0, .ref y), (1, .ref a1), (2, .int co), (3, .int (nI i))]) hx hb dX4_netAmongTowns_126 hl (k := 5) rfl (nI_1 j) (by decide) rfl (fun ls hl => ?_)
              refine lv_goto (tgt := 11) hx hb dX4_netAmongTowns_129 (by decide) ?_
              exact ih11 (j + 1)  (by omega)    ls (lv_sub hl [2, 3, 4, 5, 0] rfl) H locs hP hD hS
            · refine lv_iconst (v := 1) hx hb dX4_netAmongTowns_39 (by decide) ?_
              refine lv_goto (tgt := 44) hx hb dX4_netAmongTowns_40 (by decide) ?_
              refine lv_istore (lv' := [(5, .int 1), (0, .ref y), (1, .ref a1), (2, .int co), (3, .int (nI i)), (4, .int (nI j))]) hx hb dX4_netAmongTowns_44 hl (by decide) rfl (fun ls hl => ?_)
              refine lv_iload hx hb dX4_netAmongTowns_46 (lv_at hl 0 rfl) ?_
              refine lv_if_eq (tgt := 126) hx hb dX4_netAmongTowns_48 (by decide) (fun c_13 => absurd c_13 (show ¬ (1 : Int32) = (0 : Int32) by decide)) (fun c_13 => ?_)
              refine lv_aload_n hx hb dX4_netAmongTowns_51 rfl (lv_at hl 1 rfl) ?_
              refine x_get (ref := "NoteHouse$Settlement") F hP hy rfl (fun _ h => List.mem_cons_of_mem _ (List.mem_append_right _ (h))) 3 (Nat.le_of_ble_eq_true rfl) (List.mem_cons_of_mem _ (List.mem_append_left _ (List.mem_append_left _ (List.mem_of_getElem? (i := 1) rfl)))) rfl rfl dX4_netAmongTowns_52 ?_
              refine lv_iload_n hx hb dX4_netAmongTowns_55 rfl (lv_at hl 4 rfl) ?_
              refine x_lald F hP h3 (vp_in_nI (n := i) (N := 12) (by omega) (by decide)) dX4_netAmongTowns_56 ?_
              rw [nI_clamp (n := i) (by omega), hr0 i (by omega)]
              refine lv_lconst (v := 0) hx hb dX4_netAmongTowns_57 (by decide) ?_
              refine W.lcmp hx hb dX4_netAmongTowns_58 ?_
              rw [show lg_cmp 0 0 = 0 from by decide]
              refine lv_if_ge (tgt := 126) hx hb dX4_netAmongTowns_59 (by decide) (fun c_14 => ?_) (fun c_14 => absurd (show (0 : Int32) ≤ (0 : Int32) by decide) c_14)
              refine lv_iinc (v := nI (j + 1)) (lv' := [(4, .int (nI (j + 1))), (5, .int 1), (0, .ref y), (1, .ref a1), (2, .int co), (3, .int (nI i))]) hx hb dX4_netAmongTowns_126 hl (k := 5) rfl (nI_1 j) (by decide) rfl (fun ls hl => ?_)
              refine lv_goto (tgt := 11) hx hb dX4_netAmongTowns_129 (by decide) ?_
              exact ih11 (j + 1)  (by omega)    ls (lv_sub hl [2, 3, 4, 5, 0] rfl) H locs hP hD hS
      exact lp11 _ 0  (Nat.zero_add 12)    ls (lv_sub hl [1, 2, 3, 4, 0] rfl) H locs hP hD hS
  exact lp2 _ 0  (Nat.zero_add 12)    ls (lv_sub hl [1, 2, 3, 0] rfl) H locs hP hD hS
set_option maxHeartbeats 4000000 in
set_option maxRecDepth 100000 in
theorem c_X4_netWithHouse (l : Launch) (D : va_G) (cy : Nat → ClassId) (w : Wd) (y l0 l1 l2 l3 l4 l5 l6 l7 a1 : Nat) (tf : Nat → Option Nat) (tn ag : Nat → Nat) (r0 : Nat → Int64) (co : Int32) (hy : wd_at w y (.inr (4, [.ref l0, .ref l1, .ref l2, .ref l3, .ref l4, .ref l5, .ref l6, .ref l7, .int 0, .int 0]))) (h3 : wd_at w l3 (.inl (cy 3, 12, .inr (.inl r0)))) (ha1 : wd_at w a1 (.inl (cy 9, 12, .inr (.inr (.inr (.inr tf)))))) (ht : ∀ i, i < 12 → tf i = some (tn i) ∧ wd_at w (tn i) (.inr (8, [.int 0, .int 1000, .int 0, .ref (ag i)]))) (hr0 : ∀ j, j < 12 → r0 j = 0) : Ct l D cy yX4_netWithHouse wsX4_netWithHouse ({ frames := 0, cells := 0, slots := 0, locals := 0 }) [.ref y, .ref a1, .int co] w (fun v w1 => v = none ∧ w = w1) := by
  refine Ct.by (cc := cX4_netWithHouse) (maxL := 4) (ret := none) (by decide +kernel) rfl (Nat.le_of_ble_eq_true rfl) ?_
  intro p e s m args below meth c A Q F hnm K ls hl
  have F : wd_Fx p s m args meth c cX4_netWithHouse 4 wsX4_netWithHouse RX4 D cy A := F
  have hl : lv_has ls 4 [(0, .ref y), (1, .ref a1), (2, .int co)] := hl
  have hx := F.1.1
  have hb := F.1.2.1
  have hown := F.1.2.2.2.1
  have hts := F.1.2.2.2.2
  intro H locs hP hD hS
  refine lv_iconst (v := 0) hx hb dX4_netWithHouse_0 (by decide) ?_
  refine lv_istore_n (lv' := [(3, .int 0), (0, .ref y), (1, .ref a1), (2, .int co)]) hx hb dX4_netWithHouse_1 rfl hl (by decide) rfl (fun ls hl => ?_)
  have lp2 : ∀ (N : Nat) (i : Nat), (i + N = 12) → ∀ (ls : Array Slot), lv_has ls 4 [(0, .ref y), (1, .ref a1), (2, .int co), (3, .int (nI i))] → Wv p l e ({ frames := 0, cells := 0, slots := 0, locals := 0 }) s m args below meth c D A 0 0 Q w (F0 m 2 ls []) := by
    intro N
    induction N with
    | zero =>
      intro i hN2 ls hl H locs hP hD hS
      refine lv_iload_n hx hb dX4_netWithHouse_2 rfl (lv_at hl 3 rfl) ?_
      refine lv_bipush (v := 12) hx hb dX4_netWithHouse_3 (by decide) ?_
      refine lv_icmp_ge (tgt := 85) hx hb dX4_netWithHouse_5 (by decide) (fun c_2 => ?_) (fun c_2 => absurd (nI_le (a := 12) (b := i) (by omega) (by omega)) c_2)
      exact y_vr K hP hD hS (Nat.le_of_ble_eq_true rfl) (Nat.le_of_ble_eq_true rfl) rfl dX4_netWithHouse_85 (⟨rfl, rfl⟩)
    | succ N ih2 =>
      intro i hN2 ls hl H locs hP hD hS
      refine lv_iload_n hx hb dX4_netWithHouse_2 rfl (lv_at hl 3 rfl) ?_
      refine lv_bipush (v := 12) hx hb dX4_netWithHouse_3 (by decide) ?_
      refine lv_icmp_ge (tgt := 85) hx hb dX4_netWithHouse_5 (by decide) (fun c_3 => absurd c_3 (nI_ge (a := i) (b := 12) (by omega) (by decide))) (fun c_3 => ?_)
      refine lv_aload_n hx hb dX4_netWithHouse_8 rfl (lv_at hl 1 rfl) ?_
      refine lv_iload_n hx hb dX4_netWithHouse_9 rfl (lv_at hl 3 rfl) ?_
      refine x_aald F hP ha1 rfl (vp_in_nI (n := i) (N := 12) (by omega) (by decide)) dX4_netWithHouse_10 ?_
      rw [nI_clamp (n := i) (by omega), (ht i (by omega)).1]
      refine W.eq (g2 := F0 m _ ls [.ref (tn i)]) rfl ?_
      have k4 := (ht i (by omega)).2
      refine x_get (ref := "NoteHouse$Town") F hP k4 rfl (fun _ h => List.mem_cons_of_mem _ (List.mem_append_left _ (List.mem_append_right _ (h)))) 0 (Nat.le_of_ble_eq_true rfl) (List.mem_cons_of_mem _ (List.mem_append_left _ (List.mem_append_left _ (List.mem_of_getElem? (i := 0) rfl)))) rfl rfl dX4_netWithHouse_11 ?_
      refine lv_iload_n hx hb dX4_netWithHouse_14 rfl (lv_at hl 2 rfl) ?_
      refine lv_icmp_ne (tgt := 43) hx hb dX4_netWithHouse_15 (by decide) (fun c_5 => ?_) (fun c_5 => ?_)
      · refine lv_aload_n hx hb dX4_netWithHouse_43 rfl (lv_at hl 1 rfl) ?_
        refine lv_iload_n hx hb dX4_netWithHouse_44 rfl (lv_at hl 3 rfl) ?_
        refine x_aald F hP ha1 rfl (vp_in_nI (n := i) (N := 12) (by omega) (by decide)) dX4_netWithHouse_45 ?_
        rw [nI_clamp (n := i) (by omega), (ht i (by omega)).1]
        refine W.eq (g2 := F0 m _ ls [.ref (tn i)]) rfl ?_
        have k6 := (ht i (by omega)).2
        refine x_get (ref := "NoteHouse$Town") F hP k6 rfl (fun _ h => List.mem_cons_of_mem _ (List.mem_append_left _ (List.mem_append_right _ (h)))) 0 (Nat.le_of_ble_eq_true rfl) (List.mem_cons_of_mem _ (List.mem_append_left _ (List.mem_append_left _ (List.mem_of_getElem? (i := 0) rfl)))) rfl rfl dX4_netWithHouse_46 ?_
        refine lv_iload_n hx hb dX4_netWithHouse_49 rfl (lv_at hl 2 rfl) ?_
        refine lv_icmp_ne (tgt := 79) hx hb dX4_netWithHouse_50 (by decide) (fun c_7 => ?_) (fun c_7 => ?_)
        · refine lv_iinc (v := nI (i + 1)) (lv' := [(3, .int (nI (i + 1))), (0, .ref y), (1, .ref a1), (2, .int co)]) hx hb dX4_netWithHouse_79 hl (k := 3) rfl (nI_1 i) (by decide) rfl (fun ls hl => ?_)
          refine lv_goto (tgt := 2) hx hb dX4_netWithHouse_82 (by decide) ?_
          exact ih2 (i + 1)  (by omega)    ls (lv_sub hl [1, 2, 3, 0] rfl) H locs hP hD hS
        · refine lv_aload_n hx hb dX4_netWithHouse_53 rfl (lv_at hl 0 rfl) ?_
          refine x_get (ref := "NoteHouse$Settlement") F hP hy rfl (fun _ h => List.mem_cons_of_mem _ (List.mem_append_right _ (h))) 3 (Nat.le_of_ble_eq_true rfl) (List.mem_cons_of_mem _ (List.mem_append_left _ (List.mem_append_left _ (List.mem_of_getElem? (i := 1) rfl)))) rfl rfl dX4_netWithHouse_54 ?_
          refine lv_iload_n hx hb dX4_netWithHouse_57 rfl (lv_at hl 3 rfl) ?_
          refine x_lald F hP h3 (vp_in_nI (n := i) (N := 12) (by omega) (by decide)) dX4_netWithHouse_58 ?_
          rw [nI_clamp (n := i) (by omega), hr0 i (by omega)]
          refine lv_lconst (v := 0) hx hb dX4_netWithHouse_59 (by decide) ?_
          refine W.lcmp hx hb dX4_netWithHouse_60 ?_
          rw [show lg_cmp 0 0 = 0 from by decide]
          refine lv_if_ge (tgt := 79) hx hb dX4_netWithHouse_61 (by decide) (fun c_8 => ?_) (fun c_8 => absurd (show (0 : Int32) ≤ (0 : Int32) by decide) c_8)
          refine lv_iinc (v := nI (i + 1)) (lv' := [(3, .int (nI (i + 1))), (0, .ref y), (1, .ref a1), (2, .int co)]) hx hb dX4_netWithHouse_79 hl (k := 3) rfl (nI_1 i) (by decide) rfl (fun ls hl => ?_)
          refine lv_goto (tgt := 2) hx hb dX4_netWithHouse_82 (by decide) ?_
          exact ih2 (i + 1)  (by omega)    ls (lv_sub hl [1, 2, 3, 0] rfl) H locs hP hD hS
      · refine lv_aload_n hx hb dX4_netWithHouse_18 rfl (lv_at hl 0 rfl) ?_
        refine x_get (ref := "NoteHouse$Settlement") F hP hy rfl (fun _ h => List.mem_cons_of_mem _ (List.mem_append_right _ (h))) 3 (Nat.le_of_ble_eq_true rfl) (List.mem_cons_of_mem _ (List.mem_append_left _ (List.mem_append_left _ (List.mem_of_getElem? (i := 1) rfl)))) rfl rfl dX4_netWithHouse_19 ?_
        refine lv_iload_n hx hb dX4_netWithHouse_22 rfl (lv_at hl 3 rfl) ?_
        refine x_lald F hP h3 (vp_in_nI (n := i) (N := 12) (by omega) (by decide)) dX4_netWithHouse_23 ?_
        rw [nI_clamp (n := i) (by omega), hr0 i (by omega)]
        refine lv_lconst (v := 0) hx hb dX4_netWithHouse_24 (by decide) ?_
        refine W.lcmp hx hb dX4_netWithHouse_25 ?_
        rw [show lg_cmp 0 0 = 0 from by decide]
        refine lv_if_le (tgt := 43) hx hb dX4_netWithHouse_26 (by decide) (fun c_9 => ?_) (fun c_9 => absurd (show (0 : Int32) ≤ (0 : Int32) by decide) c_9)
        refine lv_aload_n hx hb dX4_netWithHouse_43 rfl (lv_at hl 1 rfl) ?_
        refine lv_iload_n hx hb dX4_netWithHouse_44 rfl (lv_at hl 3 rfl) ?_
        refine x_aald F hP ha1 rfl (vp_in_nI (n := i) (N := 12) (by omega) (by decide)) dX4_netWithHouse_45 ?_
        rw [nI_clamp (n := i) (by omega), (ht i (by omega)).1]
        refine W.eq (g2 := F0 m _ ls [.ref (tn i)]) rfl ?_
        have k10 := (ht i (by omega)).2
        refine x_get (ref := "NoteHouse$Town") F hP k10 rfl (fun _ h => List.mem_cons_of_mem _ (List.mem_append_left _ (List.mem_append_right _ (h)))) 0 (Nat.le_of_ble_eq_true rfl) (List.mem_cons_of_mem _ (List.mem_append_left _ (List.mem_append_left _ (List.mem_of_getElem? (i := 0) rfl)))) rfl rfl dX4_netWithHouse_46 ?_
        refine lv_iload_n hx hb dX4_netWithHouse_49 rfl (lv_at hl 2 rfl) ?_
        refine lv_icmp_ne (tgt := 79) hx hb dX4_netWithHouse_50 (by decide) (fun c_11 => ?_) (fun c_11 => ?_)
        · refine lv_iinc (v := nI (i + 1)) (lv' := [(3, .int (nI (i + 1))), (0, .ref y), (1, .ref a1), (2, .int co)]) hx hb dX4_netWithHouse_79 hl (k := 3) rfl (nI_1 i) (by decide) rfl (fun ls hl => ?_)
          refine lv_goto (tgt := 2) hx hb dX4_netWithHouse_82 (by decide) ?_
          exact ih2 (i + 1)  (by omega)    ls (lv_sub hl [1, 2, 3, 0] rfl) H locs hP hD hS
        · refine lv_aload_n hx hb dX4_netWithHouse_53 rfl (lv_at hl 0 rfl) ?_
          refine x_get (ref := "NoteHouse$Settlement") F hP hy rfl (fun _ h => List.mem_cons_of_mem _ (List.mem_append_right _ (h))) 3 (Nat.le_of_ble_eq_true rfl) (List.mem_cons_of_mem _ (List.mem_append_left _ (List.mem_append_left _ (List.mem_of_getElem? (i := 1) rfl)))) rfl rfl dX4_netWithHouse_54 ?_
          refine lv_iload_n hx hb dX4_netWithHouse_57 rfl (lv_at hl 3 rfl) ?_
          refine x_lald F hP h3 (vp_in_nI (n := i) (N := 12) (by omega) (by decide)) dX4_netWithHouse_58 ?_
          rw [nI_clamp (n := i) (by omega), hr0 i (by omega)]
          refine lv_lconst (v := 0) hx hb dX4_netWithHouse_59 (by decide) ?_
          refine W.lcmp hx hb dX4_netWithHouse_60 ?_
          rw [show lg_cmp 0 0 = 0 from by decide]
          refine lv_if_ge (tgt := 79) hx hb dX4_netWithHouse_61 (by decide) (fun c_12 => ?_) (fun c_12 => absurd (show (0 : Int32) ≤ (0 : Int32) by decide) c_12)
          refine lv_iinc (v := nI (i + 1)) (lv' := [(3, .int (nI (i + 1))), (0, .ref y), (1, .ref a1), (2, .int co)]) hx hb dX4_netWithHouse_79 hl (k := 3) rfl (nI_1 i) (by decide) rfl (fun ls hl => ?_)
          refine lv_goto (tgt := 2) hx hb dX4_netWithHouse_82 (by decide) ?_
          exact ih2 (i + 1)  (by omega)    ls (lv_sub hl [1, 2, 3, 0] rfl) H locs hP hD hS
  exact lp2 _ 0  (Nat.zero_add 12)    ls (lv_sub hl [1, 2, 3, 0] rfl) H locs hP hD hS
set_option maxHeartbeats 4000000 in
set_option maxRecDepth 100000 in
theorem c_X4_netAll (l : Launch) (D : va_G) (cy : Nat → ClassId) (w : Wd) (y l0 l1 l2 l3 l4 l5 l6 l7 a1 : Nat) (tf : Nat → Option Nat) (tn ag : Nat → Nat) (d r0 : Nat → Int64) (hy : wd_at w y (.inr (4, [.ref l0, .ref l1, .ref l2, .ref l3, .ref l4, .ref l5, .ref l6, .ref l7, .int 0, .int 0]))) (h2 : wd_at w l2 (.inl (cy 3, 12, .inr (.inl d)))) (h3 : wd_at w l3 (.inl (cy 3, 12, .inr (.inl r0)))) (ha1 : wd_at w a1 (.inl (cy 9, 12, .inr (.inr (.inr (.inr tf)))))) (ht : ∀ i, i < 12 → tf i = some (tn i) ∧ wd_at w (tn i) (.inr (8, [.int 0, .int 1000, .int 0, .ref (ag i)]))) (S : Nat → Prop) (s3 : S l3) (hd0 : ∀ j, j < 12 → d j = 0) (n23 : l2 ≠ l3) : Ct l D cy yX4_netAll wsX4_netAll ({ frames := 1, cells := 0, slots := 0, locals := 40 }) [.ref y, .ref a1] w (fun v w1 => v = none ∧ wd_kp S w w1 ∧ wd_at w1 y (.inr (4, [.ref l0, .ref l1, .ref l2, .ref l3, .ref l4, .ref l5, .ref l6, .ref l7, .int 0, .int 0]))) := by
  refine Ct.by (cc := cX4_netAll) (maxL := 3) (ret := none) (by decide +kernel) rfl (Nat.le_of_ble_eq_true rfl) ?_
  intro p e s m args below meth c A Q F hnm K ls hl
  have F : wd_Fx p s m args meth c cX4_netAll 3 wsX4_netAll RX4 D cy A := F
  have hl : lv_has ls 3 [(0, .ref y), (1, .ref a1)] := hl
  have hx := F.1.1
  have hb := F.1.2.1
  have hown := F.1.2.2.2.1
  have hts := F.1.2.2.2.2
  intro H locs hP hD hS
  have kp0 : wd_kp S w w := wd_kp.rf
  refine lv_aload_n hx hb dX4_netAll_0 rfl (lv_at hl 0 rfl) ?_
  refine x_get (ref := "NoteHouse$Settlement") F hP hy rfl (fun _ h => List.mem_cons_of_mem _ (List.mem_append_left _ (List.mem_append_right _ (h)))) 2 (Nat.le_of_ble_eq_true rfl) (List.mem_cons_of_mem _ (List.mem_append_left _ (List.mem_append_left _ (List.mem_append_left _ (List.mem_of_getElem? (i := 0) rfl))))) rfl rfl dX4_netAll_1 ?_
  refine lv_iconst (v := 0) hx hb dX4_netAll_4 (by decide) ?_
  refine lv_aload_n hx hb dX4_netAll_5 rfl (lv_at hl 0 rfl) ?_
  refine x_get (ref := "NoteHouse$Settlement") F hP hy rfl (fun _ h => List.mem_cons_of_mem _ (List.mem_append_left _ (List.mem_append_right _ (h)))) 3 (Nat.le_of_ble_eq_true rfl) (List.mem_cons_of_mem _ (List.mem_append_left _ (List.mem_append_left _ (List.mem_append_left _ (List.mem_of_getElem? (i := 1) rfl))))) rfl rfl dX4_netAll_6 ?_
  refine lv_iconst (v := 0) hx hb dX4_netAll_9 (by decide) ?_
  refine lv_bipush (v := 12) hx hb dX4_netAll_10 (by decide) ?_
  refine y_copyl F hP hD hS h2 h3 (List.mem_cons_of_mem _ (List.mem_append_left _ (List.mem_append_left _ (List.mem_append_left _ (List.mem_of_getElem? (i := 2) rfl))))) (List.mem_cons_of_mem _ (List.mem_append_left _ (List.mem_append_left _ (List.mem_append_left _ (List.mem_of_getElem? (i := 3) rfl))))) (List.mem_cons_of_mem _ (List.mem_append_left _ (List.mem_append_left _ (List.mem_append_left _ (List.mem_of_getElem? (i := 4) rfl))))) (List.mem_cons_of_mem _ (List.mem_append_left _ (List.mem_append_left _ (List.mem_append_left _ (List.mem_of_getElem? (i := 5) rfl))))) hl.1 (by decide) (by decide) (by decide) (by decide) (by decide) (Nat.le_of_ble_eq_true rfl) (Nat.le_of_ble_eq_true rfl) dX4_netAll_12 (fun w1 ew2 H locs hP hD hS => ?_)
  have k3 := wd_at.pt ew2 hy (wd_nk hy h3 rfl)
  have k4 := wd_at.pt ew2 h2 n23
  have k5 : wd_at w1 l3 (.inl (cy 3, 12, .inr (.inl (va_cpy d r0 (0 : Int32).toNatClampNeg (0 : Int32).toNatClampNeg (12 : Int32).toNatClampNeg)))) := wd_at.ps ew2 h3
  have k6 := wd_at.pt ew2 ha1 (wd_nk ha1 h3 rfl)
  have fm7 : ∀ i, i < 12 → tf i = some (tn i) ∧ wd_at w1 (tn i) (.inr (8, [.int 0, .int 1000, .int 0, .ref (ag i)])) := fun i hi9 => ⟨(ht i hi9).1, wd_at.pt ew2 (ht i hi9).2 (wd_nk (ht i hi9).2 h3 rfl)⟩
  have kp8 := kp0.put ew2 s3
  refine lv_iconst (v := 0) hx hb dX4_netAll_15 (by decide) ?_
  refine lv_istore_n (lv' := [(2, .int 0), (0, .ref y), (1, .ref a1)]) hx hb dX4_netAll_16 rfl hl (by decide) rfl (fun ls hl => ?_)
  have lp17 : ∀ (N : Nat) (i : Nat), (i + N = 4) → ∀ (ls : Array Slot), lv_has ls 3 [(0, .ref y), (1, .ref a1), (2, .int (nI i))] → Wv p l e ({ frames := 1, cells := 0, slots := 0, locals := 40 }) s m args below meth c D A 0 0 Q w1 (F0 m 17 ls []) := by
    intro N
    induction N with
    | zero =>
      intro i hN17 ls hl H locs hP hD hS
      refine lv_iload_n hx hb dX4_netAll_17 rfl (lv_at hl 2 rfl) ?_
      refine lv_iconst (v := 4) hx hb dX4_netAll_18 (by decide) ?_
      refine lv_icmp_ge (tgt := 40) hx hb dX4_netAll_19 (by decide) (fun c_10 => ?_) (fun c_10 => absurd (nI_le (a := 4) (b := i) (by omega) (by omega)) c_10)
      exact y_vr K hP hD hS (Nat.le_of_ble_eq_true rfl) (Nat.le_of_ble_eq_true rfl) rfl dX4_netAll_40 (⟨rfl, kp8, k3⟩)
    | succ N ih17 =>
      intro i hN17 ls hl H locs hP hD hS
      refine lv_iload_n hx hb dX4_netAll_17 rfl (lv_at hl 2 rfl) ?_
      refine lv_iconst (v := 4) hx hb dX4_netAll_18 (by decide) ?_
      refine lv_icmp_ge (tgt := 40) hx hb dX4_netAll_19 (by decide) (fun c_11 => absurd c_11 (nI_ge (a := i) (b := 4) (by omega) (by decide))) (fun c_11 => ?_)
      refine lv_aload_n hx hb dX4_netAll_22 rfl (lv_at hl 0 rfl) ?_
      refine lv_aload_n hx hb dX4_netAll_23 rfl (lv_at hl 1 rfl) ?_
      refine lv_iload_n hx hb dX4_netAll_24 rfl (lv_at hl 2 rfl) ?_
      refine x_callV (n := 2) (As := [.ref a1, .int (nI i)]) (rest := []) F hP hD hS (c_X4_netAmongTowns l D cy w1 y l0 l1 l2 l3 l4 l5 l6 l7 a1 tf tn ag (va_cpy d r0 (0 : Int32).toNatClampNeg (0 : Int32).toNatClampNeg (12 : Int32).toNatClampNeg) (nI i) k3 k5 k6 fm7 (ze_c hd0)) gX4_netAll_X4_netAmongTowns rfl rfl (by decide +kernel) ⟨(Nat.le_of_ble_eq_true rfl), (Nat.le_of_ble_eq_true rfl)⟩ rfl hl.1 (Nat.le_of_ble_eq_true rfl) k3 rfl dX4_netAll_25 rfl ⟨(Nat.le_of_ble_eq_true rfl), (Nat.le_of_ble_eq_true rfl)⟩ (fun v13 w14 hp12 H locs hP hD hS => ?_)
      obtain ⟨rfl, rfl⟩ := hp12
      refine W.eq (g2 := F0 m 28 ls []) rfl (W.widen (k := 0) (n := 0) (Nat.le_of_ble_eq_true rfl) (Nat.le_of_ble_eq_true rfl) ?_)
      refine lv_aload_n hx hb dX4_netAll_28 rfl (lv_at hl 0 rfl) ?_
      refine lv_aload_n hx hb dX4_netAll_29 rfl (lv_at hl 1 rfl) ?_
      refine lv_iload_n hx hb dX4_netAll_30 rfl (lv_at hl 2 rfl) ?_
      refine x_callV (n := 2) (As := [.ref a1, .int (nI i)]) (rest := []) F hP hD hS (c_X4_netWithHouse l D cy w1 y l0 l1 l2 l3 l4 l5 l6 l7 a1 tf tn ag (va_cpy d r0 (0 : Int32).toNatClampNeg (0 : Int32).toNatClampNeg (12 : Int32).toNatClampNeg) (nI i) k3 k5 k6 fm7 (ze_c hd0)) gX4_netAll_X4_netWithHouse rfl rfl (by decide +kernel) ⟨(Nat.le_of_ble_eq_true rfl), (Nat.le_of_ble_eq_true rfl)⟩ rfl hl.1 (Nat.le_of_ble_eq_true rfl) k3 rfl dX4_netAll_31 rfl ⟨(Nat.le_of_ble_eq_true rfl), (Nat.le_of_ble_eq_true rfl)⟩ (fun v16 w17 hp15 H locs hP hD hS => ?_)
      obtain ⟨rfl, rfl⟩ := hp15
      refine W.eq (g2 := F0 m 34 ls []) rfl (W.widen (k := 0) (n := 0) (Nat.le_of_ble_eq_true rfl) (Nat.le_of_ble_eq_true rfl) ?_)
      refine lv_iinc (v := nI (i + 1)) (lv' := [(2, .int (nI (i + 1))), (0, .ref y), (1, .ref a1)]) hx hb dX4_netAll_34 hl (k := 2) rfl (nI_1 i) (by decide) rfl (fun ls hl => ?_)
      refine lv_goto (tgt := 17) hx hb dX4_netAll_37 (by decide) ?_
      exact ih17 (i + 1)  (by omega)    ls (lv_sub hl [1, 2, 0] rfl) H locs hP hD hS
  exact lp17 _ 0  (Nat.zero_add 4)    ls (lv_sub hl [1, 2, 0] rfl) H locs hP hD hS
set_option maxHeartbeats 4000000 in
set_option maxRecDepth 100000 in
theorem c_X10_settle (l : Launch) (D : va_G) (cy : Nat → ClassId) (w : Wd) (x a0 a1 a2 a3 a4 a5 a6 a7 a8 a9 a10 a11 : Nat) (l0 l1 l2 l3 l4 l5 l6 l7 : Nat) (tf : Nat → Option Nat) (tn ag : Nat → Nat) (u0 u1 : Int32) (f : Nat → Int32) (d r0 : Nat → Int64) (k : Int32) (hc : wd_at w x (.inr (10, [.ref a0, .ref a1, .ref a2, .ref a3, .ref a4, .ref a5, .ref a6, .ref a7, .ref a8, .ref a9, .ref a10, .ref a11, .int 0, .int 0, .int 0, .int 0, .int 0]))) (ha1 : wd_at w a1 (.inl (cy 9, 12, .inr (.inr (.inr (.inr tf)))))) (ha7 : wd_at w a7 (.inr (4, [.ref l0, .ref l1, .ref l2, .ref l3, .ref l4, .ref l5, .ref l6, .ref l7, .int u0, .int u1]))) (h0 : wd_at w l0 (.inl (cy 2, 200, .inl f))) (h2 : wd_at w l2 (.inl (cy 3, 12, .inr (.inl d)))) (h3 : wd_at w l3 (.inl (cy 3, 12, .inr (.inl r0)))) (ht : ∀ i, i < 12 → tf i = some (tn i) ∧ wd_at w (tn i) (.inr (8, [.int 0, .int 1000, .int 0, .ref (ag i)]))) (S : Nat → Prop) (s7 : S a7) (s0 : S l0) (s2 : S l2) (s3 : S l3) (n23 : l2 ≠ l3) : Ct l D cy yX10_settle wsX10_settle ({ frames := 2, cells := 0, slots := 0, locals := 62 }) [.ref x, .int k] w (fun v w1 => v = some (.int (sp_settle k)) ∧ wd_kp S w w1) := by
  refine Ct.by (cc := cX10_settle) (maxL := 5) (ret := (some .int)) (by decide +kernel) rfl (Nat.le_of_ble_eq_true rfl) ?_
  intro p e s m args below meth c A Q F hnm K ls hl
  have F : wd_Fx p s m args meth c cX10_settle 5 wsX10_settle RX10 D cy A := F
  have hl : lv_has ls 5 [(0, .ref x), (1, .int k)] := hl
  have hx := F.1.1
  have hb := F.1.2.1
  have hown := F.1.2.2.2.1
  have hts := F.1.2.2.2.2
  intro H locs hP hD hS
  have kp0 : wd_kp S w w := wd_kp.rf
  refine lv_iload_n hx hb dX10_settle_0 rfl (lv_at hl 1 rfl) ?_
  refine lv_iconst (v := 0) hx hb dX10_settle_1 (by decide) ?_
  refine lv_sipush (v := 3000) hx hb dX10_settle_2 (by decide) ?_
  refine x_callS (n := 3) (As := [.int k, .int 0, .int 3000]) (rest := []) F hP hD hS (c_X10_isWithin l D cy w k 0 3000) gX10_settle_X10_isWithin rfl (by decide +kernel) ⟨(Nat.le_of_ble_eq_true rfl), (Nat.le_of_ble_eq_true rfl)⟩ rfl hl.1 (Nat.le_of_ble_eq_true rfl) dX10_settle_5 rfl ⟨(Nat.le_of_ble_eq_true rfl), (Nat.le_of_ble_eq_true rfl)⟩ (fun v2 w3 hp1 H locs hP hD hS => ?_)
  obtain ⟨rfl, rfl⟩ := hp1
  refine W.eq (g2 := F0 m 8 ls [.int (wi k 0 3000)]) rfl (W.widen (k := 0) (n := 0) (Nat.le_of_ble_eq_true rfl) (Nat.le_of_ble_eq_true rfl) ?_)
  refine lv_if_ne (tgt := 13) hx hb dX10_settle_8 (by decide) (fun c_4 => ?_) (fun c_4 => ?_)
  · refine lv_aload_n hx hb dX10_settle_13 rfl (lv_at hl 0 rfl) ?_
    refine x_get (ref := "NoteHouse") F hP hc rfl (fun _ h => List.mem_cons_of_mem _ (List.mem_append_left _ (List.mem_append_left _ (List.mem_append_left _ (List.mem_append_left _ (List.mem_append_left _ (List.mem_append_left _ (List.mem_append_right _ (h))))))))) 7 (Nat.le_of_ble_eq_true rfl) (List.mem_cons_of_mem _ (List.mem_append_left _ (List.mem_append_left _ (List.mem_append_left _ (List.mem_append_left _ (List.mem_append_left _ (List.mem_append_left _ (List.mem_append_left _ (List.mem_append_left _ (List.mem_of_getElem? (i := 0) rfl)))))))))) rfl rfl dX10_settle_14 ?_
    refine x_callV (n := 0) (As := []) (rest := []) F hP hD hS (c_X4_open l D cy w a7 l0 l1 l2 l3 l4 l5 l6 l7 u0 u1 f d ha7 h0 h2 (fun b => b = a7 ∨ b = l0 ∨ b = l2) (Or.inl rfl) (Or.inr (Or.inl rfl)) (Or.inr (Or.inr rfl))) gX10_settle_X4_open rfl rfl (by decide +kernel) ⟨(Nat.le_of_ble_eq_true rfl), (Nat.le_of_ble_eq_true rfl)⟩ rfl hl.1 (Nat.le_of_ble_eq_true rfl) ha7 rfl dX10_settle_17 rfl ⟨(Nat.le_of_ble_eq_true rfl), (Nat.le_of_ble_eq_true rfl)⟩ (fun v6 w7 hp5 H locs hP hD hS => ?_)
    obtain ⟨rfl, hp5, k10, g8, hg9, k11⟩ := hp5
    have k12 := hp5.2 _ _ hc (fun q => Or.elim q (wd_nk hc ha7 rfl) (fun q => Or.elim q (wd_nk hc h0 rfl) (fun q : x = l2 => (wd_nk hc h2 rfl) q)))
    have k13 := hp5.2 _ _ ha1 (fun q => Or.elim q (wd_nk ha1 ha7 rfl) (fun q => Or.elim q (wd_nk ha1 h0 rfl) (fun q : a1 = l2 => (wd_nk ha1 h2 rfl) q)))
    have k14 := hp5.2 _ _ h3 (fun q => Or.elim q (wd_nk h3 ha7 rfl) (fun q => Or.elim q (wd_nk h3 h0 rfl) (fun q : l3 = l2 => (Ne.symm n23) q)))
    have fm15 : ∀ i, i < 12 → tf i = some (tn i) ∧ wd_at w7 (tn i) (.inr (8, [.int 0, .int 1000, .int 0, .ref (ag i)])) := fun i hi9 => ⟨(ht i hi9).1, hp5.2 _ _ (ht i hi9).2 (fun q => Or.elim q (wd_nk (ht i hi9).2 ha7 rfl) (fun q => Or.elim q (wd_nk (ht i hi9).2 h0 rfl) (wd_nk (ht i hi9).2 h2 rfl)))⟩
    have kp16 := kp0.tr hp5 (fun b hm q => (fun q => Or.elim q (fun q => q ▸ s7) (fun q => Or.elim q (fun q => q ▸ s0) (fun q => q ▸ s2))) q)
    refine W.eq (g2 := F0 m 20 ls []) rfl (W.widen (k := 0) (n := 0) (Nat.le_of_ble_eq_true rfl) (Nat.le_of_ble_eq_true rfl) ?_)
    refine lv_iconst (v := 0) hx hb dX10_settle_20 (by decide) ?_
    refine lv_istore_n (lv' := [(2, .int 0), (0, .ref x), (1, .int k)]) hx hb dX10_settle_21 rfl hl (by decide) rfl (fun ls hl => ?_)
    refine lv_iload_n hx hb dX10_settle_22 rfl (lv_at hl 0 rfl) ?_
    refine lv_aload_n hx hb dX10_settle_23 rfl (lv_at hl 1 rfl) ?_
    refine x_get (ref := "NoteHouse") F hP k12 rfl (fun _ h => List.mem_cons_of_mem _ (List.mem_append_left _ (List.mem_append_left _ (List.mem_append_left _ (List.mem_append_left _ (List.mem_append_left _ (List.mem_append_left _ (List.mem_append_right _ (h))))))))) 16 (Nat.le_of_ble_eq_true rfl) (List.mem_cons_of_mem _ (List.mem_append_left _ (List.mem_append_left _ (List.mem_append_left _ (List.mem_append_left _ (List.mem_append_left _ (List.mem_append_left _ (List.mem_append_left _ (List.mem_append_left _ (List.mem_of_getElem? (i := 1) rfl)))))))))) rfl rfl dX10_settle_24 ?_
    refine lv_icmp_ge (tgt := 96) hx hb dX10_settle_27 (by decide) (fun c_17 => ?_) (fun c_17 => absurd (show (0 : Int32) ≤ (0 : Int32) by decide) c_17)
    refine lv_iconst (v := 0) hx hb dX10_settle_96 (by decide) ?_
    refine lv_istore_n (lv' := [(2, .int 0), (0, .ref x), (1, .int k)]) hx hb dX10_settle_97 rfl hl (by decide) rfl (fun ls hl => ?_)
    have lp98 : ∀ (N : Nat) (i : Nat) (dd : Nat → Int64) (w18 : Wd), (i + N = 12) → (∀ j, j < 12 → dd j = 0) → (wd_at w18 x (.inr (10, [.ref a0, .ref a1, .ref a2, .ref a3, .ref a4, .ref a5, .ref a6, .ref a7, .ref a8, .ref a9, .ref a10, .ref a11, .int 0, .int 0, .int 0, .int 0, .int 0]))) → (wd_at w18 a1 (.inl (cy 9, 12, .inr (.inr (.inr (.inr tf)))))) → (wd_at w18 a7 (.inr (4, [.ref l0, .ref l1, .ref l2, .ref l3, .ref l4, .ref l5, .ref l6, .ref l7, .int 0, .int 0]))) → (wd_at w18 l2 (.inl (cy 3, 12, .inr (.inl dd)))) → (wd_at w18 l3 (.inl (cy 3, 12, .inr (.inl r0)))) → (∀ i, i < 12 → tf i = some (tn i) ∧ wd_at w18 (tn i) (.inr (8, [.int 0, .int 1000, .int 0, .ref (ag i)]))) → (wd_kp S w w18) → ∀ (ls : Array Slot), lv_has ls 5 [(0, .ref x), (1, .int k), (2, .int (nI i))] → Wv p l e ({ frames := 2, cells := 0, slots := 0, locals := 62 }) s m args below meth c D A 0 0 Q w18 (F0 m 98 ls []) := by
      intro N
      induction N with
      | zero =>
        intro i dd w18 hN98 hdd k19 k20 k21 k22 k23 fm24 kp25 ls hl H locs hP hD hS
        refine lv_iload_n hx hb dX10_settle_98 rfl (lv_at hl 2 rfl) ?_
        refine lv_bipush (v := 12) hx hb dX10_settle_99 (by decide) ?_
        refine lv_icmp_ge (tgt := 132) hx hb dX10_settle_101 (by decide) (fun c_26 => ?_) (fun c_26 => absurd (nI_le (a := 12) (b := i) (by omega) (by omega)) c_26)
        refine lv_aload_n hx hb dX10_settle_132 rfl (lv_at hl 0 rfl) ?_
        refine x_get (ref := "NoteHouse") F hP k19 rfl (fun _ h => List.mem_cons_of_mem _ (List.mem_append_left _ (List.mem_append_left _ (List.mem_append_left _ (List.mem_append_left _ (List.mem_append_left _ (List.mem_append_left _ (List.mem_append_right _ (h))))))))) 7 (Nat.le_of_ble_eq_true rfl) (List.mem_cons_of_mem _ (List.mem_append_left _ (List.mem_append_left _ (List.mem_append_left _ (List.mem_append_left _ (List.mem_append_left _ (List.mem_append_left _ (List.mem_append_left _ (List.mem_append_left _ (List.mem_of_getElem? (i := 0) rfl)))))))))) rfl rfl dX10_settle_133 ?_
        refine lv_aload_n hx hb dX10_settle_136 rfl (lv_at hl 0 rfl) ?_
        refine x_get (ref := "NoteHouse") F hP k19 rfl (fun _ h => List.mem_cons_of_mem _ (List.mem_append_left _ (List.mem_append_left _ (List.mem_append_left _ (List.mem_append_left _ (List.mem_append_left _ (List.mem_append_left _ (List.mem_append_right _ (h))))))))) 1 (Nat.le_of_ble_eq_true rfl) (List.mem_cons_of_mem _ (List.mem_append_left _ (List.mem_append_left _ (List.mem_append_left _ (List.mem_append_left _ (List.mem_append_left _ (List.mem_append_left _ (List.mem_append_left _ (List.mem_append_left _ (List.mem_of_getElem? (i := 9) rfl)))))))))) rfl rfl dX10_settle_137 ?_
        refine x_callV (n := 1) (As := [.ref a1]) (rest := []) F hP hD hS (c_X4_netAll l D cy w18 a7 l0 l1 l2 l3 l4 l5 l6 l7 a1 tf tn ag dd r0 k21 k22 k23 k20 fm24 (fun b => b = l3) rfl hdd n23) gX10_settle_X4_netAll rfl rfl (by decide +kernel) ⟨(Nat.le_of_ble_eq_true rfl), (Nat.le_of_ble_eq_true rfl)⟩ rfl hl.1 (Nat.le_of_ble_eq_true rfl) k21 rfl dX10_settle_140 rfl ⟨(Nat.le_of_ble_eq_true rfl), (Nat.le_of_ble_eq_true rfl)⟩ (fun v28 w29 hp27 H locs hP hD hS => ?_)
        obtain ⟨rfl, hp27, k30⟩ := hp27
        have k31 := hp27.2 _ _ k19 (fun q : x = l3 => (wd_nk k19 k23 rfl) q)
        have k32 := hp27.2 _ _ k20 (fun q : a1 = l3 => (wd_nk k20 k23 rfl) q)
        have k33 := hp27.2 _ _ k21 (fun q : a7 = l3 => (wd_nk k21 k23 rfl) q)
        have k34 := hp27.2 _ _ k22 (fun q : l2 = l3 => n23 q)
        have fm35 : ∀ i, i < 12 → tf i = some (tn i) ∧ wd_at w29 (tn i) (.inr (8, [.int 0, .int 1000, .int 0, .ref (ag i)])) := fun i hi9 => ⟨(fm24 i hi9).1, hp27.2 _ _ (fm24 i hi9).2 (wd_nk (fm24 i hi9).2 k23 rfl)⟩
        have kp36 := kp25.tr hp27 (fun b hm q => (fun q => q ▸ s3) q)
        refine W.eq (g2 := F0 m 143 ls []) rfl (W.widen (k := 0) (n := 0) (Nat.le_of_ble_eq_true rfl) (Nat.le_of_ble_eq_true rfl) ?_)
        refine lv_aload_n hx hb dX10_settle_143 rfl (lv_at hl 0 rfl) ?_
        refine x_get (ref := "NoteHouse") F hP k31 rfl (fun _ h => List.mem_cons_of_mem _ (List.mem_append_left _ (List.mem_append_left _ (List.mem_append_left _ (List.mem_append_left _ (List.mem_append_left _ (List.mem_append_left _ (List.mem_append_right _ (h))))))))) 7 (Nat.le_of_ble_eq_true rfl) (List.mem_cons_of_mem _ (List.mem_append_left _ (List.mem_append_left _ (List.mem_append_left _ (List.mem_append_left _ (List.mem_append_left _ (List.mem_append_left _ (List.mem_append_left _ (List.mem_append_left _ (List.mem_of_getElem? (i := 0) rfl)))))))))) rfl rfl dX10_settle_144 ?_
        refine x_get (ref := "NoteHouse$Settlement") F hP k33 rfl (fun _ h => List.mem_cons_of_mem _ (List.mem_append_left _ (List.mem_append_left _ (List.mem_append_left _ (List.mem_append_left _ (List.mem_append_right _ (h))))))) 9 (Nat.le_of_ble_eq_true rfl) (List.mem_cons_of_mem _ (List.mem_append_left _ (List.mem_append_left _ (List.mem_append_left _ (List.mem_append_left _ (List.mem_append_left _ (List.mem_append_left _ (List.mem_append_left _ (List.mem_append_left _ (List.mem_of_getElem? (i := 11) rfl)))))))))) rfl rfl dX10_settle_147 ?_
        exact y_ir K hP hD hS (Nat.le_of_ble_eq_true rfl) (Nat.le_of_ble_eq_true rfl) (ty := .int) rfl rfl dX10_settle_150 (⟨by simp [sp_settle, c_4], kp36⟩)
      | succ N ih98 =>
        intro i dd w18 hN98 hdd k19 k20 k21 k22 k23 fm24 kp25 ls hl H locs hP hD hS
        refine lv_iload_n hx hb dX10_settle_98 rfl (lv_at hl 2 rfl) ?_
        refine lv_bipush (v := 12) hx hb dX10_settle_99 (by decide) ?_
        refine lv_icmp_ge (tgt := 132) hx hb dX10_settle_101 (by decide) (fun c_37 => absurd c_37 (nI_ge (a := i) (b := 12) (by omega) (by decide))) (fun c_37 => ?_)
        refine lv_aload_n hx hb dX10_settle_104 rfl (lv_at hl 0 rfl) ?_
        refine x_get (ref := "NoteHouse") F hP k19 rfl (fun _ h => List.mem_cons_of_mem _ (List.mem_append_left _ (List.mem_append_left _ (List.mem_append_left _ (List.mem_append_left _ (List.mem_append_left _ (List.mem_append_left _ (List.mem_append_right _ (h))))))))) 7 (Nat.le_of_ble_eq_true rfl) (List.mem_cons_of_mem _ (List.mem_append_left _ (List.mem_append_left _ (List.mem_append_left _ (List.mem_append_left _ (List.mem_append_left _ (List.mem_append_left _ (List.mem_append_left _ (List.mem_append_left _ (List.mem_of_getElem? (i := 0) rfl)))))))))) rfl rfl dX10_settle_105 ?_
        refine x_get (ref := "NoteHouse$Settlement") F hP k21 rfl (fun _ h => List.mem_cons_of_mem _ (List.mem_append_left _ (List.mem_append_left _ (List.mem_append_left _ (List.mem_append_left _ (List.mem_append_right _ (h))))))) 2 (Nat.le_of_ble_eq_true rfl) (List.mem_cons_of_mem _ (List.mem_append_left _ (List.mem_append_left _ (List.mem_append_left _ (List.mem_append_left _ (List.mem_append_left _ (List.mem_append_left _ (List.mem_append_left _ (List.mem_append_left _ (List.mem_of_getElem? (i := 8) rfl)))))))))) rfl rfl dX10_settle_108 ?_
        refine lv_iload_n hx hb dX10_settle_111 rfl (lv_at hl 2 rfl) ?_
        refine lv_dup2_11 hx hb dX10_settle_112 rfl rfl ?_
        refine x_lald F hP k22 (vp_in_nI (n := i) (N := 12) (by omega) (by decide)) dX10_settle_113 ?_
        rw [nI_clamp (n := i) (by omega), hdd i (by omega)]
        refine lv_aload_n hx hb dX10_settle_114 rfl (lv_at hl 0 rfl) ?_
        refine x_get (ref := "NoteHouse") F hP k19 rfl (fun _ h => List.mem_cons_of_mem _ (List.mem_append_left _ (List.mem_append_left _ (List.mem_append_left _ (List.mem_append_left _ (List.mem_append_left _ (List.mem_append_left _ (List.mem_append_right _ (h))))))))) 1 (Nat.le_of_ble_eq_true rfl) (List.mem_cons_of_mem _ (List.mem_append_left _ (List.mem_append_left _ (List.mem_append_left _ (List.mem_append_left _ (List.mem_append_left _ (List.mem_append_left _ (List.mem_append_left _ (List.mem_append_left _ (List.mem_of_getElem? (i := 9) rfl)))))))))) rfl rfl dX10_settle_115 ?_
        refine lv_iload_n hx hb dX10_settle_118 rfl (lv_at hl 2 rfl) ?_
        refine x_aald F hP k20 rfl (vp_in_nI (n := i) (N := 12) (by omega) (by decide)) dX10_settle_119 ?_
        rw [nI_clamp (n := i) (by omega), (fm24 i (by omega)).1]
        refine W.eq (g2 := F0 m _ ls [.ref (tn i), .long 0, .int (nI i), .ref l2]) rfl ?_
        have k38 := (fm24 i (by omega)).2
        refine x_get (ref := "NoteHouse$Town") F hP k38 rfl (fun _ h => List.mem_cons_of_mem _ (List.mem_append_left _ (List.mem_append_left _ (List.mem_append_left _ (List.mem_append_right _ (h)))))) 2 (Nat.le_of_ble_eq_true rfl) (List.mem_cons_of_mem _ (List.mem_append_left _ (List.mem_append_left _ (List.mem_append_left _ (List.mem_append_left _ (List.mem_append_left _ (List.mem_append_left _ (List.mem_append_left _ (List.mem_append_left _ (List.mem_of_getElem? (i := 10) rfl)))))))))) rfl rfl dX10_settle_120 ?_
        refine lv_i2l (v := 0) hx hb dX10_settle_123 (by decide) ?_
        refine lv_lsub hx hb dX10_settle_124 ?_
        rw [show (0 - 0 : Int64) = 0 from by decide]
        refine y_last F hP hD hS k22 (vp_in_nI (n := i) (N := 12) (by omega) (by decide)) dX10_settle_125 (fun w39 ew40 H locs hP hD hS => ?_)
        have k41 := wd_at.pt ew40 k19 (wd_nk k19 k22 rfl)
        have k42 := wd_at.pt ew40 k20 (wd_nk k20 k22 rfl)
        have k43 := wd_at.pt ew40 k21 (wd_nk k21 k22 rfl)
        have k44 : wd_at w39 l2 (.inl (cy 3, 12, .inr (.inl (vp_updL dd (nI i).toNatClampNeg 0)))) := wd_at.ps ew40 k22
        have k45 := wd_at.pt ew40 k23 (Ne.symm n23)
        have k46 := wd_at.pt ew40 k38 (wd_nk k38 k22 rfl)
        have fm47 : ∀ i, i < 12 → tf i = some (tn i) ∧ wd_at w39 (tn i) (.inr (8, [.int 0, .int 1000, .int 0, .ref (ag i)])) := fun i hi9 => ⟨(fm24 i hi9).1, wd_at.pt ew40 (fm24 i hi9).2 (wd_nk (fm24 i hi9).2 k22 rfl)⟩
        have kp48 := kp25.put ew40 s2
        refine lv_iinc (v := nI (i + 1)) (lv' := [(2, .int (nI (i + 1))), (0, .ref x), (1, .int k)]) hx hb dX10_settle_126 hl (k := 2) rfl (nI_1 i) (by decide) rfl (fun ls hl => ?_)
        refine lv_goto (tgt := 98) hx hb dX10_settle_129 (by decide) ?_
        exact ih98 (i + 1) (vp_updL dd (nI i).toNatClampNeg 0) w39 (by omega) (ze_l hdd) k41 k42 k43 k44 k45 fm47 kp48 ls (lv_sub hl [1, 2, 0] rfl) H locs hP hD hS
    exact lp98 _ 0 g8 w7 (Nat.zero_add 12) hg9 k12 k13 k10 k11 k14 fm15 kp16 ls (lv_sub hl [1, 2, 0] rfl) H locs hP hD hS
  · refine lv_iconst (v := (-1)) hx hb dX10_settle_11 (by decide) ?_
    exact y_ir K hP hD hS (Nat.le_of_ble_eq_true rfl) (Nat.le_of_ble_eq_true rfl) (ty := .int) rfl rfl dX10_settle_12 (⟨by simp [sp_settle, c_4], kp0⟩)
