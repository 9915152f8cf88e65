theorem nI_lt_of {a n : Nat} (h : ¬ nI n ≤ nI a) (hb : a < 2 ^ 31) : a < n := Nat.lt_of_not_le (fun q => h (nI_le q hb))
theorem nb01 {r : Int32} (h : r = 0 ∨ r = 1) : narrow .boolean (.int r) = .int r := by rcases h with rfl | rfl <;> rfl
def st_bl (i k : Nat) : Nat := ((st_byt.getD i []).take k).countP (fun z => z == 32)
theorem bl_s : ∀ i, i < 23 → ∀ j, j < 46 → ((st_byt.getD i []).getD j 0 = 32 → st_bl i (j + 1) = st_bl i j + 1) ∧ st_bl i j ≤ st_bl i (j + 1) := by decide +kernel
theorem bl_e : ∀ i, i < 23 → ∀ j, j < 46 → j ≤ st_len.getD i 0 → st_bl i j ≤ st_bl i (st_len.getD i 0) := by decide +kernel
theorem st_46 : ∀ i, i < 23 → st_len.getD i 0 < 46 := by decide +kernel
set_option maxHeartbeats 4000000 in
set_option maxRecDepth 100000 in
theorem g_rewind (l : Launch) (D : va_G) (cy : Nat → ClassId) (sk sv : Nat → Nat) (w : Wd) (t b n : Nat) (a0 : Int32) (c90 : wd_at w t (.inr (7, [.ref b, .int (nI n), .int a0])))  (S : Nat → Prop) (s90 : S t)  : Ct l D cy sk sv yX7_rewind wsX7_rewind ({ frames := 0, cells := 0, slots := 0, locals := 0 }) [.ref t] w (fun v w1 => v = none ∧ wd_kp S w w1 ∧ wd_at w1 t (.inr (7, [.ref b, .int (nI n), .int (nI 0)]))) := by
  refine Ct.by (cc := cX7_rewind) (maxL := 1) (ret := none) (by decide +kernel) rfl (Nat.le_of_ble_eq_true rfl) ?_
  intro p e s m args below meth c A Q F hnm K ls hl
  have F : wd_Fx p s m args meth c cX7_rewind 1 wsX7_rewind RX7 D cy sk sv A := F
  have hl : lv_has ls 1 [(0, .ref t)] := hl
  have hx := F.1.1
  have hb := F.1.2.1
  have hown := F.1.2.2.2.1
  have hts := F.1.2.2.2.2
  intro H locs hP hD hS
  have kp0 : wd_kp S w w := wd_kp.rf
  refine lv_aload_n hx hb dX7_rewind_0 rfl (lv_at hl 0 rfl) ?_
  refine lv_iconst (v := 0) hx hb dX7_rewind_1 (by decide) ?_
  refine y_put (ref := "NoteHouse$Tape") F hP hD hS c90 rfl (fun _ h => List.mem_cons_of_mem _ (List.mem_append_right _ (h))) tyX7_ok nmX7 2 (Nat.le_of_ble_eq_true rfl) (List.mem_cons_of_mem _ (List.mem_append_left _ (List.mem_of_getElem? (i := 0) rfl))) rfl rfl rfl rfl (Nat.le_of_ble_eq_true rfl) dX7_rewind_2 (fun w1 ew2 H locs hP hD hS => ?_)
  have k3 : wd_at w1 t (.inr (7, [.ref b, .int (nI n), .int 0])) := wd_at.ps ew2 c90
  have kp4 := kp0.put ew2 s90
  exact y_vr K hP hD hS (Nat.le_of_ble_eq_true rfl) (Nat.le_of_ble_eq_true rfl) rfl dX7_rewind_5 (⟨rfl, kp4, k3⟩)
set_option maxHeartbeats 4000000 in
set_option maxRecDepth 100000 in
theorem g_nextPlace (l : Launch) (D : va_G) (cy : Nat → ClassId) (sk sv : Nat → Nat) (w : Wd) (t b n a0 : Nat) (f : Nat → Int32) (c90 : wd_at w t (.inr (7, [.ref b, .int (nI n), .int (nI a0)]))) (c91 : wd_at w b (.inl (cy 0, 300, .inl f)))  (S : Nat → Prop) (s90 : S t) (hn : n ≤ 300) (ha : a0 ≤ n) : Ct l D cy sk sv yX7_nextPlace wsX7_nextPlace ({ frames := 0, cells := 0, slots := 0, locals := 0 }) [.ref t] w (fun v w1 => ∃ (a1 : Nat), v = some (.int (nI a1)) ∧ (a0 ≤ a1) ∧ (a1 ≤ n) ∧ wd_kp S w w1 ∧ wd_at w1 t (.inr (7, [.ref b, .int (nI n), .int (nI a1)]))) := by
  refine Ct.by (cc := cX7_nextPlace) (maxL := 1) (ret := (some .int)) (by decide +kernel) rfl (Nat.le_of_ble_eq_true rfl) ?_
  intro p e s m args below meth c A Q F hnm K ls hl
  have F : wd_Fx p s m args meth c cX7_nextPlace 1 wsX7_nextPlace RX7 D cy sk sv A := F
  have hl : lv_has ls 1 [(0, .ref t)] := hl
  have hx := F.1.1
  have hb := F.1.2.1
  have hown := F.1.2.2.2.1
  have hts := F.1.2.2.2.2
  intro H locs hP hD hS
  have kp0 : wd_kp S w w := wd_kp.rf
  have lp0 : ∀ (N : Nat) (a : Nat) (w1 : Wd), (a + N = n) → (a0 ≤ a) → (wd_at w1 t (.inr (7, [.ref b, .int (nI n), .int (nI a)]))) → (wd_at w1 b (.inl (cy 0, 300, .inl f))) → (wd_kp S w w1) → ∀ (ls : Array Slot), lv_has ls 1 [(0, .ref t)] → Wv p l e ({ frames := 0, cells := 0, slots := 0, locals := 0 }) s m args below meth c D A (0) (0) Q w1 (F0 m 0 ls []) := by
    intro N
    induction N with
    | zero =>
      intro a w1 hN0 h0 k2 k3 kp4 ls hl H locs hP hD hS
      refine lv_aload_n hx hb dX7_nextPlace_0 rfl (lv_at hl 0 rfl) ?_
      refine x_get (ref := "NoteHouse$Tape") F hP k2 rfl (fun _ h => List.mem_cons_of_mem _ (List.mem_append_right _ (h))) 2 (Nat.le_of_ble_eq_true rfl) (List.mem_cons_of_mem _ (List.mem_append_left _ (List.mem_of_getElem? (i := 0) rfl))) rfl rfl dX7_nextPlace_1 ?_
      refine lv_aload_n hx hb dX7_nextPlace_4 rfl (lv_at hl 0 rfl) ?_
      refine x_get (ref := "NoteHouse$Tape") F hP k2 rfl (fun _ h => List.mem_cons_of_mem _ (List.mem_append_right _ (h))) 1 (Nat.le_of_ble_eq_true rfl) (List.mem_cons_of_mem _ (List.mem_append_left _ (List.mem_of_getElem? (i := 1) rfl))) rfl rfl dX7_nextPlace_5 ?_
      refine lv_icmp_ge (tgt := 38) hx hb dX7_nextPlace_8 (by decide) (fun c_5 => ?_) (fun c_5 => absurd (nI_le (a := n) (b := a) (by omega) (by omega)) c_5)
      refine lv_aload_n hx hb dX7_nextPlace_38 rfl (lv_at hl 0 rfl) ?_
      refine x_get (ref := "NoteHouse$Tape") F hP k2 rfl (fun _ h => List.mem_cons_of_mem _ (List.mem_append_right _ (h))) 2 (Nat.le_of_ble_eq_true rfl) (List.mem_cons_of_mem _ (List.mem_append_left _ (List.mem_of_getElem? (i := 0) rfl))) rfl rfl dX7_nextPlace_39 ?_
      exact y_ir K hP hD hS (Nat.le_of_ble_eq_true rfl) (Nat.le_of_ble_eq_true rfl) (ty := .int) rfl rfl dX7_nextPlace_42 (⟨a, rfl, by omega, by omega, kp4, k2⟩)
    | succ N ih0 =>
      intro a w1 hN0 h0 k2 k3 kp4 ls hl H locs hP hD hS
      refine lv_aload_n hx hb dX7_nextPlace_0 rfl (lv_at hl 0 rfl) ?_
      refine x_get (ref := "NoteHouse$Tape") F hP k2 rfl (fun _ h => List.mem_cons_of_mem _ (List.mem_append_right _ (h))) 2 (Nat.le_of_ble_eq_true rfl) (List.mem_cons_of_mem _ (List.mem_append_left _ (List.mem_of_getElem? (i := 0) rfl))) rfl rfl dX7_nextPlace_1 ?_
      refine lv_aload_n hx hb dX7_nextPlace_4 rfl (lv_at hl 0 rfl) ?_
      refine x_get (ref := "NoteHouse$Tape") F hP k2 rfl (fun _ h => List.mem_cons_of_mem _ (List.mem_append_right _ (h))) 1 (Nat.le_of_ble_eq_true rfl) (List.mem_cons_of_mem _ (List.mem_append_left _ (List.mem_of_getElem? (i := 1) rfl))) rfl rfl dX7_nextPlace_5 ?_
      refine lv_icmp_ge (tgt := 38) hx hb dX7_nextPlace_8 (by decide) (fun c_6 => absurd c_6 (nI_ge (a := a) (b := n) (by omega) (by omega))) (fun c_6 => ?_)
      refine lv_aload_n hx hb dX7_nextPlace_11 rfl (lv_at hl 0 rfl) ?_
      refine x_get (ref := "NoteHouse$Tape") F hP k2 rfl (fun _ h => List.mem_cons_of_mem _ (List.mem_append_right _ (h))) 0 (Nat.le_of_ble_eq_true rfl) (List.mem_cons_of_mem _ (List.mem_append_left _ (List.mem_of_getElem? (i := 2) rfl))) rfl rfl dX7_nextPlace_12 ?_
      refine lv_aload_n hx hb dX7_nextPlace_15 rfl (lv_at hl 0 rfl) ?_
      refine x_get (ref := "NoteHouse$Tape") F hP k2 rfl (fun _ h => List.mem_cons_of_mem _ (List.mem_append_right _ (h))) 2 (Nat.le_of_ble_eq_true rfl) (List.mem_cons_of_mem _ (List.mem_append_left _ (List.mem_of_getElem? (i := 0) rfl))) rfl rfl dX7_nextPlace_16 ?_
      refine x_bald F hP k3 (vp_in_nI (n := a) (N := 300) (by omega) (by decide)) dX7_nextPlace_19 ?_
      refine lv_bipush (v := 32) hx hb dX7_nextPlace_20 (by decide) ?_
      refine lv_icmp_ne (tgt := 38) hx hb dX7_nextPlace_22 (by decide) (fun c_7 => ?_) (fun c_7 => ?_)
      · refine lv_aload_n hx hb dX7_nextPlace_38 rfl (lv_at hl 0 rfl) ?_
        refine x_get (ref := "NoteHouse$Tape") F hP k2 rfl (fun _ h => List.mem_cons_of_mem _ (List.mem_append_right _ (h))) 2 (Nat.le_of_ble_eq_true rfl) (List.mem_cons_of_mem _ (List.mem_append_left _ (List.mem_of_getElem? (i := 0) rfl))) rfl rfl dX7_nextPlace_39 ?_
        exact y_ir K hP hD hS (Nat.le_of_ble_eq_true rfl) (Nat.le_of_ble_eq_true rfl) (ty := .int) rfl rfl dX7_nextPlace_42 (⟨a, rfl, by omega, by omega, kp4, k2⟩)
      · refine lv_aload_n hx hb dX7_nextPlace_25 rfl (lv_at hl 0 rfl) ?_
        refine lv_dup hx hb dX7_nextPlace_26 rfl ?_
        refine x_get (ref := "NoteHouse$Tape") F hP k2 rfl (fun _ h => List.mem_cons_of_mem _ (List.mem_append_right _ (h))) 2 (Nat.le_of_ble_eq_true rfl) (List.mem_cons_of_mem _ (List.mem_append_left _ (List.mem_of_getElem? (i := 0) rfl))) rfl rfl dX7_nextPlace_27 ?_
        refine lv_iconst (v := 1) hx hb dX7_nextPlace_30 (by decide) ?_
        refine lv_iadd hx hb dX7_nextPlace_31 ?_
        rw [show ((nI a) + 1 : Int32) = nI (a + 1) from nI_add a 1]
        refine y_put (ref := "NoteHouse$Tape") F hP hD hS k2 rfl (fun _ h => List.mem_cons_of_mem _ (List.mem_append_right _ (h))) tyX7_ok nmX7 2 (Nat.le_of_ble_eq_true rfl) (List.mem_cons_of_mem _ (List.mem_append_left _ (List.mem_of_getElem? (i := 0) rfl))) rfl rfl rfl rfl (Nat.le_of_ble_eq_true rfl) dX7_nextPlace_32 (fun w8 ew9 H locs hP hD hS => ?_)
        have k10 : wd_at w8 t (.inr (7, [.ref b, .int (nI n), .int (nI (a + 1))])) := wd_at.ps ew9 k2
        have k11 := wd_at.pt ew9 k3 (wd_nk k3 k2 rfl)
        have kp12 := kp4.put ew9 s90
        refine lv_goto (tgt := 0) hx hb dX7_nextPlace_35 (by decide) ?_
        exact ih0 (a + 1) w8 (by omega) (by omega) k10 k11 kp12 ls (lv_sub hl [0] rfl) H locs hP hD hS
  exact lp0 (n - a0) a0 w (by omega) (Nat.le_refl a0) c90 c91 kp0 ls (lv_sub hl [0] rfl) H locs hP hD hS
set_option maxHeartbeats 4000000 in
set_option maxRecDepth 100000 in
theorem g_isOver (l : Launch) (D : va_G) (cy : Nat → ClassId) (sk sv : Nat → Nat) (w : Wd) (t b n a0 : Nat) (f : Nat → Int32) (c90 : wd_at w t (.inr (7, [.ref b, .int (nI n), .int (nI a0)]))) (c91 : wd_at w b (.inl (cy 0, 300, .inl f)))  (S : Nat → Prop) (s90 : S t) (hn : n ≤ 300) (ha : a0 ≤ n) : Ct l D cy sk sv yX7_isOver wsX7_isOver ({ frames := 1, cells := 0, slots := 0, locals := 20 }) [.ref t] w (fun v w1 => ∃ (a1 : Nat) (r1 : Int32), v = some (.int r1) ∧ (a0 ≤ a1) ∧ (a1 ≤ n) ∧ (r1 = 0 ∨ r1 = 1) ∧ wd_kp S w w1 ∧ wd_at w1 t (.inr (7, [.ref b, .int (nI n), .int (nI a1)]))) := by
  refine Ct.by (cc := cX7_isOver) (maxL := 1) (ret := (some .boolean)) (by decide +kernel) rfl (Nat.le_of_ble_eq_true rfl) ?_
  intro p e s m args below meth c A Q F hnm K ls hl
  have F : wd_Fx p s m args meth c cX7_isOver 1 wsX7_isOver RX7 D cy sk sv A := F
  have hl : lv_has ls 1 [(0, .ref t)] := hl
  have hx := F.1.1
  have hb := F.1.2.1
  have hown := F.1.2.2.2.1
  have hts := F.1.2.2.2.2
  intro H locs hP hD hS
  have kp0 : wd_kp S w w := wd_kp.rf
  refine lv_aload_n hx hb dX7_isOver_0 rfl (lv_at hl 0 rfl) ?_
  refine x_callV (n := 0) (As := []) (rest := []) F hP hD hS (g_nextPlace l D cy sk sv w t b n a0 f c90 c91 (fun b => b = t) rfl (by omega) (by omega)) gX7_isOver_X7_nextPlace rfl rfl (by decide +kernel) ⟨(Nat.le_of_ble_eq_true rfl), (Nat.le_of_ble_eq_true rfl)⟩ rfl hl.1 (Nat.le_of_ble_eq_true rfl) c90 rfl dX7_isOver_1 rfl ⟨(Nat.le_of_ble_eq_true rfl), (Nat.le_of_ble_eq_true rfl)⟩ (fun v2 w3 hp1 H locs hP hD hS => ?_)
  obtain ⟨ax4, rfl, hz5, hz6, kq8, k7⟩ := hp1
  have k9 := kq8.2 _ _ c91 (fun q9 : b = t => (wd_nk c91 c90 rfl) q9)
  have kp10 := kp0.tr kq8 (fun b9 hm q9 => (fun q9 => q9 ▸ s90) q9)
  refine W.eq (g2 := F0 m 4 ls [.int (nI ax4)]) rfl (W.widen (k := 0) (n := 0) (Nat.le_of_ble_eq_true rfl) (Nat.le_of_ble_eq_true rfl) ?_)
  refine lv_aload_n hx hb dX7_isOver_4 rfl (lv_at hl 0 rfl) ?_
  refine x_get (ref := "NoteHouse$Tape") F hP k7 rfl (fun _ h => List.mem_cons_of_mem _ (List.mem_append_right _ (h))) 1 (Nat.le_of_ble_eq_true rfl) (List.mem_cons_of_mem _ (List.mem_append_left _ (List.mem_of_getElem? (i := 0) rfl))) rfl rfl dX7_isOver_5 ?_
  refine lv_icmp_lt (tgt := 15) hx hb dX7_isOver_8 (by decide) (fun c_11 => ?_) (fun c_11 => ?_)
  · refine lv_iconst (v := 0) hx hb dX7_isOver_15 (by decide) ?_
    exact y_ir K hP hD hS (Nat.le_of_ble_eq_true rfl) (Nat.le_of_ble_eq_true rfl) (ty := .boolean) rfl rfl dX7_isOver_16 (⟨ax4, 0, rfl, by omega, by omega, Or.inl rfl, kp10, k7⟩)
  · refine lv_iconst (v := 1) hx hb dX7_isOver_11 (by decide) ?_
    refine lv_goto (tgt := 16) hx hb dX7_isOver_12 (by decide) ?_
    exact y_ir K hP hD hS (Nat.le_of_ble_eq_true rfl) (Nat.le_of_ble_eq_true rfl) (ty := .boolean) rfl rfl dX7_isOver_16 (⟨ax4, 1, rfl, by omega, by omega, Or.inr rfl, kp10, k7⟩)
set_option maxHeartbeats 4000000 in
set_option maxRecDepth 100000 in
theorem g_faultAt (l : Launch) (D : va_G) (cy : Nat → ClassId) (sk sv : Nat → Nat) (w : Wd) (p1 k : Nat)    : Ct l D cy sk sv yX10_faultAt wsX10_faultAt ({ frames := 0, cells := 0, slots := 0, locals := 0 }) [.int (nI p1), .int (nI k)] w (fun v w1 => v = some (.int (nI (1 + 4 * p1 + k))) ∧ w = w1) := by
  refine Ct.by (cc := cX10_faultAt) (maxL := 2) (ret := (some .int)) (by decide +kernel) rfl (Nat.le_of_ble_eq_true rfl) ?_
  intro p e s m args below meth c A Q F hnm K ls hl
  have F : wd_Fx p s m args meth c cX10_faultAt 2 wsX10_faultAt RX10 D cy sk sv A := F
  have hl : lv_has ls 2 [(0, .int (nI p1)), (1, .int (nI k))] := hl
  have hx := F.1.1
  have hb := F.1.2.1
  have hown := F.1.2.2.2.1
  have hts := F.1.2.2.2.2
  intro H locs hP hD hS
  refine lv_iconst (v := 1) hx hb dX10_faultAt_0 (by decide) ?_
  refine lv_iconst (v := 4) hx hb dX10_faultAt_1 (by decide) ?_
  refine lv_iload_n hx hb dX10_faultAt_2 rfl (lv_at hl 0 rfl) ?_
  refine lv_imul hx hb dX10_faultAt_3 ?_
  rw [show (4 * (nI p1) : Int32) = nI (4 * p1) from pk_mul 4 p1]
  refine lv_iadd hx hb dX10_faultAt_4 ?_
  rw [show (1 + (nI (4 * p1)) : Int32) = nI (1 + (4 * p1)) from nI_add 1 (4 * p1)]
  refine lv_iload_n hx hb dX10_faultAt_5 rfl (lv_at hl 1 rfl) ?_
  refine lv_iadd hx hb dX10_faultAt_6 ?_
  rw [show ((nI (1 + (4 * p1))) + (nI k) : Int32) = nI ((1 + (4 * p1)) + k) from nI_add (1 + (4 * p1)) k]
  exact y_ir K hP hD hS (Nat.le_of_ble_eq_true rfl) (Nat.le_of_ble_eq_true rfl) (ty := .int) rfl rfl dX10_faultAt_7 (⟨rfl, rfl⟩)
set_option maxHeartbeats 4000000 in
set_option maxRecDepth 100000 in
theorem g_faultHere (l : Launch) (D : va_G) (cy : Nat → ClassId) (sk sv : Nat → Nat) (w : Wd) (t b n a0 k : Nat) (f : Nat → Int32) (c90 : wd_at w t (.inr (7, [.ref b, .int (nI n), .int (nI a0)]))) (c91 : wd_at w b (.inl (cy 0, 300, .inl f)))  (S : Nat → Prop) (s90 : S t) (hn : n ≤ 300) (ha : a0 ≤ n) : Ct l D cy sk sv yX7_faultHere wsX7_faultHere ({ frames := 1, cells := 0, slots := 0, locals := 21 }) [.ref t, .int (nI k)] w (fun v w1 => ∃ (a1 : Nat), v = some (.int (nI (1 + 4 * a1 + k))) ∧ (a0 ≤ a1) ∧ (a1 ≤ n) ∧ wd_kp S w w1 ∧ wd_at w1 t (.inr (7, [.ref b, .int (nI n), .int (nI a1)]))) := by
  refine Ct.by (cc := cX7_faultHere) (maxL := 2) (ret := (some .int)) (by decide +kernel) rfl (Nat.le_of_ble_eq_true rfl) ?_
  intro p e s m args below meth c A Q F hnm K ls hl
  have F : wd_Fx p s m args meth c cX7_faultHere 2 wsX7_faultHere RX7 D cy sk sv A := F
  have hl : lv_has ls 2 [(0, .ref t), (1, .int (nI k))] := hl
  have hx := F.1.1
  have hb := F.1.2.1
  have hown := F.1.2.2.2.1
  have hts := F.1.2.2.2.2
  intro H locs hP hD hS
  have kp0 : wd_kp S w w := wd_kp.rf
  refine lv_aload_n hx hb dX7_faultHere_0 rfl (lv_at hl 0 rfl) ?_
  refine x_callV (n := 0) (As := []) (rest := []) F hP hD hS (g_nextPlace l D cy sk sv w t b n a0 f c90 c91 (fun b => b = t) rfl (by omega) (by omega)) gX7_faultHere_X7_nextPlace rfl rfl (by decide +kernel) ⟨(Nat.le_of_ble_eq_true rfl), (Nat.le_of_ble_eq_true rfl)⟩ rfl hl.1 (Nat.le_of_ble_eq_true rfl) c90 rfl dX7_faultHere_1 rfl ⟨(Nat.le_of_ble_eq_true rfl), (Nat.le_of_ble_eq_true rfl)⟩ (fun v2 w3 hp1 H locs hP hD hS => ?_)
  obtain ⟨ax4, rfl, hz5, hz6, kq8, k7⟩ := hp1
  have k9 := kq8.2 _ _ c91 (fun q9 : b = t => (wd_nk c91 c90 rfl) q9)
  have kp10 := kp0.tr kq8 (fun b9 hm q9 => (fun q9 => q9 ▸ s90) q9)
  refine W.eq (g2 := F0 m 4 ls [.int (nI ax4)]) rfl (W.widen (k := 0) (n := 0) (Nat.le_of_ble_eq_true rfl) (Nat.le_of_ble_eq_true rfl) ?_)
  refine lv_iload_n hx hb dX7_faultHere_4 rfl (lv_at hl 1 rfl) ?_
  refine x_callSN (host := RX10) (n := 2) (As := [.int (nI ax4), .int (nI k)]) (rest := []) F hP hD hS (g_faultAt l D cy sk sv w3 ax4 k) gX7_faultHere_X10_faultAt_n26 rfl (by decide +kernel) (List.mem_cons_of_mem _ (List.mem_append_left _ (List.mem_of_getElem? (i := 9) rfl))) (List.mem_cons_of_mem _ (List.mem_append_left _ (List.mem_of_getElem? (i := 8) rfl))) (by decide +kernel) ⟨(Nat.le_of_ble_eq_true rfl), (Nat.le_of_ble_eq_true rfl)⟩ rfl hl.1 (Nat.le_of_ble_eq_true rfl) dX7_faultHere_5 rfl ⟨(Nat.le_of_ble_eq_true rfl), (Nat.le_of_ble_eq_true rfl)⟩ (fun v12 w13 hp11 H locs hP hD hS => ?_)
  obtain ⟨rfl, rfl⟩ := hp11
  refine W.eq (g2 := F0 m 8 ls [.int (nI (1 + 4 * ax4 + k))]) rfl (W.widen (k := 0) (n := 0) (Nat.le_of_ble_eq_true rfl) (Nat.le_of_ble_eq_true rfl) ?_)
  exact y_ir K hP hD hS (Nat.le_of_ble_eq_true rfl) (Nat.le_of_ble_eq_true rfl) (ty := .int) rfl rfl dX7_faultHere_8 (⟨ax4, rfl, by omega, by omega, kp10, k7⟩)
set_option maxHeartbeats 4000000 in
set_option maxRecDepth 100000 in
theorem g_takes (l : Launch) (D : va_G) (cy : Nat → ClassId) (sk sv : Nat → Nat) (w : Wd) (t b n a0 : Nat) (f : Nat → Int32) (x : Int32) (c90 : wd_at w t (.inr (7, [.ref b, .int (nI n), .int (nI a0)]))) (c91 : wd_at w b (.inl (cy 0, 300, .inl f)))  (S : Nat → Prop) (s90 : S t) (hn : n ≤ 300) (ha : a0 ≤ n) : Ct l D cy sk sv yX7_takes wsX7_takes ({ frames := 1, cells := 0, slots := 0, locals := 20 }) [.ref t, .int x] w (fun v w1 => ∃ (a1 : Nat) (r1 : Int32), v = some (.int r1) ∧ (a0 ≤ a1) ∧ (a1 ≤ n) ∧ (r1 = 0 ∨ r1 = 1) ∧ wd_kp S w w1 ∧ wd_at w1 t (.inr (7, [.ref b, .int (nI n), .int (nI a1)]))) := by
  refine Ct.by (cc := cX7_takes) (maxL := 2) (ret := (some .boolean)) (by decide +kernel) rfl (Nat.le_of_ble_eq_true rfl) ?_
  intro p e s m args below meth c A Q F hnm K ls hl
  have F : wd_Fx p s m args meth c cX7_takes 2 wsX7_takes RX7 D cy sk sv A := F
  have hl : lv_has ls 2 [(0, .ref t), (1, .int x)] := hl
  have hx := F.1.1
  have hb := F.1.2.1
  have hown := F.1.2.2.2.1
  have hts := F.1.2.2.2.2
  intro H locs hP hD hS
  have kp0 : wd_kp S w w := wd_kp.rf
  refine lv_aload_n hx hb dX7_takes_0 rfl (lv_at hl 0 rfl) ?_
  refine x_callV (n := 0) (As := []) (rest := []) F hP hD hS (g_nextPlace l D cy sk sv w t b n a0 f c90 c91 (fun b => b = t) rfl (by omega) (by omega)) gX7_takes_X7_nextPlace rfl rfl (by decide +kernel) ⟨(Nat.le_of_ble_eq_true rfl), (Nat.le_of_ble_eq_true rfl)⟩ rfl hl.1 (Nat.le_of_ble_eq_true rfl) c90 rfl dX7_takes_1 rfl ⟨(Nat.le_of_ble_eq_true rfl), (Nat.le_of_ble_eq_true rfl)⟩ (fun v2 w3 hp1 H locs hP hD hS => ?_)
  obtain ⟨ax4, rfl, hz5, hz6, kq8, k7⟩ := hp1
  have k9 := kq8.2 _ _ c91 (fun q9 : b = t => (wd_nk c91 c90 rfl) q9)
  have kp10 := kp0.tr kq8 (fun b9 hm q9 => (fun q9 => q9 ▸ s90) q9)
  refine W.eq (g2 := F0 m 4 ls [.int (nI ax4)]) rfl (W.widen (k := 0) (n := 0) (Nat.le_of_ble_eq_true rfl) (Nat.le_of_ble_eq_true rfl) ?_)
  refine lv_aload_n hx hb dX7_takes_4 rfl (lv_at hl 0 rfl) ?_
  refine x_get (ref := "NoteHouse$Tape") F hP k7 rfl (fun _ h => List.mem_cons_of_mem _ (List.mem_append_right _ (h))) 1 (Nat.le_of_ble_eq_true rfl) (List.mem_cons_of_mem _ (List.mem_append_left _ (List.mem_of_getElem? (i := 0) rfl))) rfl rfl dX7_takes_5 ?_
  refine lv_icmp_ge (tgt := 24) hx hb dX7_takes_8 (by decide) (fun c_11 => ?_) (fun c_11 => ?_)
  · refine lv_iconst (v := 0) hx hb dX7_takes_24 (by decide) ?_
    exact y_ir K hP hD hS (Nat.le_of_ble_eq_true rfl) (Nat.le_of_ble_eq_true rfl) (ty := .boolean) rfl rfl dX7_takes_25 (⟨ax4, 0, rfl, by omega, by omega, Or.inl rfl, kp10, k7⟩)
  · have hlt9 := nI_lt_of c_11 (by omega)
    refine lv_aload_n hx hb dX7_takes_11 rfl (lv_at hl 0 rfl) ?_
    refine x_get (ref := "NoteHouse$Tape") F hP k7 rfl (fun _ h => List.mem_cons_of_mem _ (List.mem_append_right _ (h))) 0 (Nat.le_of_ble_eq_true rfl) (List.mem_cons_of_mem _ (List.mem_append_left _ (List.mem_of_getElem? (i := 1) rfl))) rfl rfl dX7_takes_12 ?_
    refine lv_aload_n hx hb dX7_takes_15 rfl (lv_at hl 0 rfl) ?_
    refine x_get (ref := "NoteHouse$Tape") F hP k7 rfl (fun _ h => List.mem_cons_of_mem _ (List.mem_append_right _ (h))) 2 (Nat.le_of_ble_eq_true rfl) (List.mem_cons_of_mem _ (List.mem_append_left _ (List.mem_of_getElem? (i := 2) rfl))) rfl rfl dX7_takes_16 ?_
    refine x_bald F hP k9 (vp_in_nI (n := ax4) (N := 300) (by omega) (by decide)) dX7_takes_19 ?_
    refine lv_iload_n hx hb dX7_takes_20 rfl (lv_at hl 1 rfl) ?_
    refine lv_icmp_eq (tgt := 26) hx hb dX7_takes_21 (by decide) (fun c_12 => ?_) (fun c_12 => ?_)
    · refine lv_aload_n hx hb dX7_takes_26 rfl (lv_at hl 0 rfl) ?_
      refine lv_dup hx hb dX7_takes_27 rfl ?_
      refine x_get (ref := "NoteHouse$Tape") F hP k7 rfl (fun _ h => List.mem_cons_of_mem _ (List.mem_append_right _ (h))) 2 (Nat.le_of_ble_eq_true rfl) (List.mem_cons_of_mem _ (List.mem_append_left _ (List.mem_of_getElem? (i := 2) rfl))) rfl rfl dX7_takes_28 ?_
      refine lv_iconst (v := 1) hx hb dX7_takes_31 (by decide) ?_
      refine lv_iadd hx hb dX7_takes_32 ?_
      rw [show ((nI ax4) + 1 : Int32) = nI (ax4 + 1) from nI_add ax4 1]
      refine y_put (ref := "NoteHouse$Tape") F hP hD hS k7 rfl (fun _ h => List.mem_cons_of_mem _ (List.mem_append_right _ (h))) tyX7_ok nmX7 2 (Nat.le_of_ble_eq_true rfl) (List.mem_cons_of_mem _ (List.mem_append_left _ (List.mem_of_getElem? (i := 2) rfl))) rfl rfl rfl rfl (Nat.le_of_ble_eq_true rfl) dX7_takes_33 (fun w13 ew14 H locs hP hD hS => ?_)
      have k15 : wd_at w13 t (.inr (7, [.ref b, .int (nI n), .int (nI (ax4 + 1))])) := wd_at.ps ew14 k7
      have k16 := wd_at.pt ew14 k9 (wd_nk k9 k7 rfl)
      have kp17 := kp10.put ew14 s90
      refine lv_iconst (v := 1) hx hb dX7_takes_36 (by decide) ?_
      exact y_ir K hP hD hS (Nat.le_of_ble_eq_true rfl) (Nat.le_of_ble_eq_true rfl) (ty := .boolean) rfl rfl dX7_takes_37 (⟨(ax4 + 1), 1, rfl, by omega, by omega, Or.inr rfl, kp17, k15⟩)
    · refine lv_iconst (v := 0) hx hb dX7_takes_24 (by decide) ?_
      exact y_ir K hP hD hS (Nat.le_of_ble_eq_true rfl) (Nat.le_of_ble_eq_true rfl) (ty := .boolean) rfl rfl dX7_takes_25 (⟨ax4, 0, rfl, by omega, by omega, Or.inl rfl, kp10, k7⟩)
set_option maxHeartbeats 4000000 in
set_option maxRecDepth 100000 in
theorem g_wordSize (l : Launch) (D : va_G) (cy : Nat → ClassId) (sk sv : Nat → Nat) (w : Wd) (t b n q : Nat) (a0 : Int32) (f : Nat → Int32) (c90 : wd_at w t (.inr (7, [.ref b, .int (nI n), .int a0]))) (c91 : wd_at w b (.inl (cy 0, 300, .inl f)))  (hn : n ≤ 300) (hq0 : q ≤ n) : Ct l D cy sk sv yX7_wordSize wsX7_wordSize ({ frames := 1, cells := 0, slots := 0, locals := 22 }) [.ref t, .int (nI q)] w (fun v w1 => ∃ (z : Nat), v = some (.int (nI z)) ∧ (q + z ≤ n) ∧ w = w1) := by
  refine Ct.by (cc := cX7_wordSize) (maxL := 3) (ret := (some .int)) (by decide +kernel) rfl (Nat.le_of_ble_eq_true rfl) ?_
  intro p e s m args below meth c A Q F hnm K ls hl
  have F : wd_Fx p s m args meth c cX7_wordSize 3 wsX7_wordSize RX7 D cy sk sv A := F
  have hl : lv_has ls 3 [(0, .ref t), (1, .int (nI q))] := hl
  have hx := F.1.1
  have hb := F.1.2.1
  have hown := F.1.2.2.2.1
  have hts := F.1.2.2.2.2
  intro H locs hP hD hS
  refine lv_iload_n hx hb dX7_wordSize_0 rfl (lv_at hl 1 rfl) ?_
  refine lv_istore_n (lv' := [(2, .int (nI q)), (0, .ref t), (1, .int (nI q))]) hx hb dX7_wordSize_1 rfl hl (by decide) rfl (fun ls hl => ?_)
  have lp2 : ∀ (N : Nat) (j : Nat), (j + N = n) → (q ≤ j) → ∀ (ls : Array Slot), lv_has ls 3 [(0, .ref t), (1, .int (nI q)), (2, .int (nI j))] → Wv p l e ({ frames := 1, cells := 0, slots := 0, locals := 22 }) s m args below meth c D A (0) (0) Q w (F0 m 2 ls []) := by
    intro N
    induction N with
    | zero =>
      intro j hN2 hq ls hl H locs hP hD hS
      refine lv_iload_n hx hb dX7_wordSize_2 rfl (lv_at hl 2 rfl) ?_
      refine lv_aload_n hx hb dX7_wordSize_3 rfl (lv_at hl 0 rfl) ?_
      refine x_get (ref := "NoteHouse$Tape") F hP c90 rfl (fun _ h => List.mem_cons_of_mem _ (List.mem_append_right _ (h))) 1 (Nat.le_of_ble_eq_true rfl) (List.mem_cons_of_mem _ (List.mem_append_left _ (List.mem_of_getElem? (i := 0) rfl))) rfl rfl dX7_wordSize_4 ?_
      refine lv_icmp_ge (tgt := 32) hx hb dX7_wordSize_7 (by decide) (fun c_2 => ?_) (fun c_2 => absurd (nI_le (a := n) (b := j) (by omega) (by omega)) c_2)
      refine lv_iload_n hx hb dX7_wordSize_32 rfl (lv_at hl 2 rfl) ?_
      refine lv_iload_n hx hb dX7_wordSize_33 rfl (lv_at hl 1 rfl) ?_
      refine lv_isub hx hb dX7_wordSize_34 ?_
      rw [show ((nI j) - (nI q) : Int32) = nI (j - q) from pk_sub (a := j) (b := q) (by omega)]
      exact y_ir K hP hD hS (Nat.le_of_ble_eq_true rfl) (Nat.le_of_ble_eq_true rfl) (ty := .int) rfl rfl dX7_wordSize_35 (⟨(j - q), rfl, by omega, rfl⟩)
    | succ N ih2 =>
      intro j hN2 hq ls hl H locs hP hD hS
      refine lv_iload_n hx hb dX7_wordSize_2 rfl (lv_at hl 2 rfl) ?_
      refine lv_aload_n hx hb dX7_wordSize_3 rfl (lv_at hl 0 rfl) ?_
      refine x_get (ref := "NoteHouse$Tape") F hP c90 rfl (fun _ h => List.mem_cons_of_mem _ (List.mem_append_right _ (h))) 1 (Nat.le_of_ble_eq_true rfl) (List.mem_cons_of_mem _ (List.mem_append_left _ (List.mem_of_getElem? (i := 0) rfl))) rfl rfl dX7_wordSize_4 ?_
      refine lv_icmp_ge (tgt := 32) hx hb dX7_wordSize_7 (by decide) (fun c_3 => absurd c_3 (nI_ge (a := j) (b := n) (by omega) (by omega))) (fun c_3 => ?_)
      refine lv_aload_n hx hb dX7_wordSize_10 rfl (lv_at hl 0 rfl) ?_
      refine x_get (ref := "NoteHouse$Tape") F hP c90 rfl (fun _ h => List.mem_cons_of_mem _ (List.mem_append_right _ (h))) 0 (Nat.le_of_ble_eq_true rfl) (List.mem_cons_of_mem _ (List.mem_append_left _ (List.mem_of_getElem? (i := 1) rfl))) rfl rfl dX7_wordSize_11 ?_
      refine lv_iload_n hx hb dX7_wordSize_14 rfl (lv_at hl 2 rfl) ?_
      refine x_bald F hP c91 (vp_in_nI (n := j) (N := 300) (by omega) (by decide)) dX7_wordSize_15 ?_
      refine lv_bipush (v := 97) hx hb dX7_wordSize_16 (by decide) ?_
      refine lv_bipush (v := 122) hx hb dX7_wordSize_18 (by decide) ?_
      refine x_callSN (host := RX10) (n := 3) (As := [.int (f (nI j).toNatClampNeg), .int 97, .int 122]) (rest := []) F hP hD hS (g_isWithin l D cy sk sv w (f (nI j).toNatClampNeg) 97 122) gX7_wordSize_X10_isWithin_n38 rfl (by decide +kernel) (List.mem_cons_of_mem _ (List.mem_append_left _ (List.mem_of_getElem? (i := 3) rfl))) (List.mem_cons_of_mem _ (List.mem_append_left _ (List.mem_of_getElem? (i := 2) rfl))) (by decide +kernel) ⟨(Nat.le_of_ble_eq_true rfl), (Nat.le_of_ble_eq_true rfl)⟩ rfl hl.1 (Nat.le_of_ble_eq_true rfl) dX7_wordSize_20 rfl ⟨(Nat.le_of_ble_eq_true rfl), (Nat.le_of_ble_eq_true rfl)⟩ (fun v5 w6 hp4 H locs hP hD hS => ?_)
      obtain ⟨rfl, rfl⟩ := hp4
      refine W.eq (g2 := F0 m 23 ls [.int (wi (f (nI j).toNatClampNeg) 97 122)]) rfl (W.widen (k := 0) (n := 0) (Nat.le_of_ble_eq_true rfl) (Nat.le_of_ble_eq_true rfl) ?_)
      refine lv_if_eq (tgt := 32) hx hb dX7_wordSize_23 (by decide) (fun c_7 => ?_) (fun c_7 => ?_)
      · refine lv_iload_n hx hb dX7_wordSize_32 rfl (lv_at hl 2 rfl) ?_
        refine lv_iload_n hx hb dX7_wordSize_33 rfl (lv_at hl 1 rfl) ?_
        refine lv_isub hx hb dX7_wordSize_34 ?_
        rw [show ((nI j) - (nI q) : Int32) = nI (j - q) from pk_sub (a := j) (b := q) (by omega)]
        exact y_ir K hP hD hS (Nat.le_of_ble_eq_true rfl) (Nat.le_of_ble_eq_true rfl) (ty := .int) rfl rfl dX7_wordSize_35 (⟨(j - q), rfl, by omega, rfl⟩)
      · refine lv_iinc (v := nI (j + 1)) (lv' := [(2, .int (nI (j + 1))), (0, .ref t), (1, .int (nI q))]) hx hb dX7_wordSize_26 hl (k := 2) rfl (nI_1 j) (by decide) rfl (fun ls hl => ?_)
        refine lv_goto (tgt := 2) hx hb dX7_wordSize_29 (by decide) ?_
        exact ih2 (j + 1)  (by omega) (by omega)   ls (lv_sub hl [1, 2, 0] rfl) H locs hP hD hS
  exact lp2 (n - q) q  (by omega) (Nat.le_refl q)   ls (lv_sub hl [1, 2, 0] rfl) H locs hP hD hS
set_option maxHeartbeats 4000000 in
set_option maxRecDepth 100000 in
theorem g_isSame (l : Launch) (D : va_G) (cy : Nat → ClassId) (sk sv : Nat → Nat) (w : Wd) (t b i g q z : Nat) (n0 a0 : Int32) (f : Nat → Int32) (c90 : wd_at w t (.inr (7, [.ref b, .int n0, .int a0]))) (c91 : wd_at w b (.inl (cy 0, 300, .inl f)))  (hi : i < 23) (hg : g + z ≤ st_len.getD i 0) (hq : q + z ≤ 300) : Ct l D cy sk sv yX7_isSame wsX7_isSame ({ frames := 4, cells := 0, slots := 0, locals := 85 }) [.ref t, .ref (sk i), .int (nI g), .int (nI q), .int (nI z)] w (fun v w1 => ∃ (r1 : Int32), v = some (.int r1) ∧ (r1 = 0 ∨ r1 = 1) ∧ w = w1) := by
  refine Ct.by (cc := cX7_isSame) (maxL := 6) (ret := (some .boolean)) (by decide +kernel) rfl (Nat.le_of_ble_eq_true rfl) ?_
  intro p e s m args below meth c A Q F hnm K ls hl
  have F : wd_Fx p s m args meth c cX7_isSame 6 wsX7_isSame RX7 D cy sk sv A := F
  have hl : lv_has ls 6 [(0, .ref t), (1, .ref (sk i)), (2, .int (nI g)), (3, .int (nI q)), (4, .int (nI z))] := hl
  have hx := F.1.1
  have hb := F.1.2.1
  have hown := F.1.2.2.2.1
  have hts := F.1.2.2.2.2
  intro H locs hP hD hS
  have h46 := st_46 i hi
  refine lv_iconst (v := 0) hx hb dX7_isSame_0 (by decide) ?_
  refine lv_istore (lv' := [(5, .int 0), (0, .ref t), (1, .ref (sk i)), (2, .int (nI g)), (3, .int (nI q)), (4, .int (nI z))]) hx hb dX7_isSame_1 hl (by decide) rfl (fun ls hl => ?_)
  have lp3 : ∀ (N : Nat) (j : Nat), (j + N = z) → ∀ (ls : Array Slot), lv_has ls 6 [(0, .ref t), (1, .ref (sk i)), (2, .int (nI g)), (3, .int (nI q)), (4, .int (nI z)), (5, .int (nI j))] → Wv p l e ({ frames := 4, cells := 0, slots := 0, locals := 85 }) s m args below meth c D A (0) (0) Q w (F0 m 3 ls []) := by
    intro N
    induction N with
    | zero =>
      intro j hN3 ls hl H locs hP hD hS
      refine lv_iload hx hb dX7_isSame_3 (lv_at hl 5 rfl) ?_
      refine lv_iload hx hb dX7_isSame_5 (lv_at hl 4 rfl) ?_
      refine lv_icmp_ge (tgt := 38) hx hb dX7_isSame_7 (by decide) (fun c_2 => ?_) (fun c_2 => absurd (nI_le (a := z) (b := j) (by omega) (by omega)) c_2)
      refine lv_iconst (v := 1) hx hb dX7_isSame_38 (by decide) ?_
      exact y_ir K hP hD hS (Nat.le_of_ble_eq_true rfl) (Nat.le_of_ble_eq_true rfl) (ty := .boolean) rfl rfl dX7_isSame_39 (⟨1, rfl, Or.inr rfl, rfl⟩)
    | succ N ih3 =>
      intro j hN3 ls hl H locs hP hD hS
      refine lv_iload hx hb dX7_isSame_3 (lv_at hl 5 rfl) ?_
      refine lv_iload hx hb dX7_isSame_5 (lv_at hl 4 rfl) ?_
      refine lv_icmp_ge (tgt := 38) hx hb dX7_isSame_7 (by decide) (fun c_3 => absurd c_3 (nI_ge (a := j) (b := z) (by omega) (by omega))) (fun c_3 => ?_)
      refine lv_aload_n hx hb dX7_isSame_10 rfl (lv_at hl 1 rfl) ?_
      refine lv_iload_n hx hb dX7_isSame_11 rfl (lv_at hl 2 rfl) ?_
      refine lv_iload hx hb dX7_isSame_12 (lv_at hl 5 rfl) ?_
      refine lv_iadd hx hb dX7_isSame_14 ?_
      rw [show ((nI g) + (nI j) : Int32) = nI (g + j) from nI_add g j]
      refine x_callVs (n := 1) (As := [.int (nI (g + j))]) (rest := []) F hP hD hS (by omega) (g_charAt l D cy sk sv w i (g + j) (by omega) (by omega)) gX7_isSame_J0_charAt_5068e rfl rfl (by decide +kernel) ⟨(Nat.le_of_ble_eq_true rfl), (Nat.le_of_ble_eq_true rfl)⟩ rfl hl.1 (Nat.le_of_ble_eq_true rfl) dX7_isSame_15 rfl ⟨(Nat.le_of_ble_eq_true rfl), (Nat.le_of_ble_eq_true rfl)⟩ (fun v5 w6 hp4 H locs hP hD hS => ?_)
      obtain ⟨rfl, rfl⟩ := hp4
      refine W.eq (g2 := F0 m 18 ls [.int ((st_byt.getD i []).getD (g + j) 0)]) rfl (W.widen (k := 0) (n := 0) (Nat.le_of_ble_eq_true rfl) (Nat.le_of_ble_eq_true rfl) ?_)
      refine lv_aload_n hx hb dX7_isSame_18 rfl (lv_at hl 0 rfl) ?_
      refine x_get (ref := "NoteHouse$Tape") F hP c90 rfl (fun _ h => List.mem_cons_of_mem _ (List.mem_append_right _ (h))) 0 (Nat.le_of_ble_eq_true rfl) (List.mem_cons_of_mem _ (List.mem_append_left _ (List.mem_append_left _ (List.mem_of_getElem? (i := 0) rfl)))) rfl rfl dX7_isSame_19 ?_
      refine lv_iload_n hx hb dX7_isSame_22 rfl (lv_at hl 3 rfl) ?_
      refine lv_iload hx hb dX7_isSame_23 (lv_at hl 5 rfl) ?_
      refine lv_iadd hx hb dX7_isSame_25 ?_
      rw [show ((nI q) + (nI j) : Int32) = nI (q + j) from nI_add q j]
      refine x_bald F hP c91 (vp_in_nI (n := (q + j)) (N := 300) (by omega) (by decide)) dX7_isSame_26 ?_
      refine lv_icmp_eq (tgt := 32) hx hb dX7_isSame_27 (by decide) (fun c_7 => ?_) (fun c_7 => ?_)
      · refine lv_iinc (v := nI (j + 1)) (lv' := [(5, .int (nI (j + 1))), (0, .ref t), (1, .ref (sk i)), (2, .int (nI g)), (3, .int (nI q)), (4, .int (nI z))]) hx hb dX7_isSame_32 hl (k := 5) rfl (nI_1 j) (by decide) rfl (fun ls hl => ?_)
        refine lv_goto (tgt := 3) hx hb dX7_isSame_35 (by decide) ?_
        exact ih3 (j + 1)  (by omega)    ls (lv_sub hl [1, 2, 3, 4, 5, 0] rfl) H locs hP hD hS
      · refine lv_iconst (v := 0) hx hb dX7_isSame_30 (by decide) ?_
        exact y_ir K hP hD hS (Nat.le_of_ble_eq_true rfl) (Nat.le_of_ble_eq_true rfl) (ty := .boolean) rfl rfl dX7_isSame_31 (⟨0, rfl, Or.inl rfl, rfl⟩)
  exact lp3 _ 0  (Nat.zero_add z)    ls (lv_sub hl [1, 2, 3, 4, 5, 0] rfl) H locs hP hD hS
set_option maxHeartbeats 4000000 in
set_option maxRecDepth 100000 in
theorem g_indexInList (l : Launch) (D : va_G) (cy : Nat → ClassId) (sk sv : Nat → Nat) (w : Wd) (t b i q z : Nat) (n0 a0 : Int32) (f : Nat → Int32) (c90 : wd_at w t (.inr (7, [.ref b, .int n0, .int a0]))) (c91 : wd_at w b (.inl (cy 0, 300, .inl f)))  (hi : i < 23) (hq : q + z ≤ 300) : Ct l D cy sk sv yX7_indexInList wsX7_indexInList ({ frames := 5, cells := 0, slots := 0, locals := 110 }) [.ref t, .ref (sk i), .int (nI q), .int (nI z)] w (fun v w1 => ∃ (r1 : Int32), v = some (.int r1) ∧ ((r1 = -1 ∨ ∃ u, u ≤ st_bl i (st_len.getD i 0) ∧ r1 = nI u)) ∧ w = w1) := by
  refine Ct.by (cc := cX7_indexInList) (maxL := 7) (ret := (some .int)) (by decide +kernel) rfl (Nat.le_of_ble_eq_true rfl) ?_
  intro p e s m args below meth c A Q F hnm K ls hl
  have F : wd_Fx p s m args meth c cX7_indexInList 7 wsX7_indexInList RX7 D cy sk sv A := F
  have hl : lv_has ls 7 [(0, .ref t), (1, .ref (sk i)), (2, .int (nI q)), (3, .int (nI z))] := hl
  have hx := F.1.1
  have hb := F.1.2.1
  have hown := F.1.2.2.2.1
  have hts := F.1.2.2.2.2
  intro H locs hP hD hS
  have h46 := st_46 i hi
  refine lv_iconst (v := 0) hx hb dX7_indexInList_0 (by decide) ?_
  refine lv_istore (lv' := [(4, .int 0), (0, .ref t), (1, .ref (sk i)), (2, .int (nI q)), (3, .int (nI z))]) hx hb dX7_indexInList_1 hl (by decide) rfl (fun ls hl => ?_)
  refine lv_iconst (v := 0) hx hb dX7_indexInList_3 (by decide) ?_
  refine lv_istore (lv' := [(5, .int 0), (4, .int 0), (0, .ref t), (1, .ref (sk i)), (2, .int (nI q)), (3, .int (nI z))]) hx hb dX7_indexInList_4 hl (by decide) rfl (fun ls hl => ?_)
  refine lv_iconst (v := 0) hx hb dX7_indexInList_6 (by decide) ?_
  refine lv_istore (lv' := [(6, .int 0), (5, .int 0), (4, .int 0), (0, .ref t), (1, .ref (sk i)), (2, .int (nI q)), (3, .int (nI z))]) hx hb dX7_indexInList_7 hl (by decide) rfl (fun ls hl => ?_)
  have lp9 : ∀ (N : Nat) (j : Nat) (u : Nat) (g : Nat), (j + N = st_len.getD i 0 + 1) → (g ≤ j) → (j ≤ st_len.getD i 0 → u ≤ st_bl i j) → ∀ (ls : Array Slot), lv_has ls 7 [(0, .ref t), (1, .ref (sk i)), (2, .int (nI q)), (3, .int (nI z)), (4, .int (nI u)), (5, .int (nI g)), (6, .int (nI j))] → Wv p l e ({ frames := 5, cells := 0, slots := 0, locals := 110 }) s m args below meth c D A (0) (0) Q w (F0 m 9 ls []) := by
    intro N
    induction N with
    | zero =>
      intro j u g hN9 hg hu ls hl H locs hP hD hS
      refine lv_iload hx hb dX7_indexInList_9 (lv_at hl 6 rfl) ?_
      refine lv_aload_n hx hb dX7_indexInList_11 rfl (lv_at hl 1 rfl) ?_
      refine x_callVs (n := 0) (As := []) (rest := [.int (nI j)]) F hP hD hS (by omega) (g_length l D cy sk sv w i (by omega)) gX7_indexInList_J0_length_8abf5 rfl rfl (by decide +kernel) ⟨(Nat.le_of_ble_eq_true rfl), (Nat.le_of_ble_eq_true rfl)⟩ rfl hl.1 (Nat.le_of_ble_eq_true rfl) dX7_indexInList_12 rfl ⟨(Nat.le_of_ble_eq_true rfl), (Nat.le_of_ble_eq_true rfl)⟩ (fun v3 w4 hp2 H locs hP hD hS => ?_)
      obtain ⟨rfl, rfl⟩ := hp2
      refine W.eq (g2 := F0 m 15 ls [.int (nI (st_len.getD i 0)), .int (nI j)]) rfl (W.widen (k := 0) (n := 0) (Nat.le_of_ble_eq_true rfl) (Nat.le_of_ble_eq_true rfl) ?_)
      refine lv_icmp_gt (tgt := 77) hx hb dX7_indexInList_15 (by decide) (fun c_5 => ?_) (fun c_5 => absurd (nI_lt (a := st_len.getD i 0) (b := j) (by omega) (by omega)) c_5)
      refine lv_iconst (v := (-1)) hx hb dX7_indexInList_77 (by decide) ?_
      exact y_ir K hP hD hS (Nat.le_of_ble_eq_true rfl) (Nat.le_of_ble_eq_true rfl) (ty := .int) rfl rfl dX7_indexInList_78 (⟨(-1), rfl, Or.inl rfl, rfl⟩)
    | succ N ih9 =>
      intro j u g hN9 hg hu ls hl H locs hP hD hS
      refine lv_iload hx hb dX7_indexInList_9 (lv_at hl 6 rfl) ?_
      refine lv_aload_n hx hb dX7_indexInList_11 rfl (lv_at hl 1 rfl) ?_
      refine x_callVs (n := 0) (As := []) (rest := [.int (nI j)]) F hP hD hS (by omega) (g_length l D cy sk sv w i (by omega)) gX7_indexInList_J0_length_8abf5 rfl rfl (by decide +kernel) ⟨(Nat.le_of_ble_eq_true rfl), (Nat.le_of_ble_eq_true rfl)⟩ rfl hl.1 (Nat.le_of_ble_eq_true rfl) dX7_indexInList_12 rfl ⟨(Nat.le_of_ble_eq_true rfl), (Nat.le_of_ble_eq_true rfl)⟩ (fun v7 w8 hp6 H locs hP hD hS => ?_)
      obtain ⟨rfl, rfl⟩ := hp6
      refine W.eq (g2 := F0 m 15 ls [.int (nI (st_len.getD i 0)), .int (nI j)]) rfl (W.widen (k := 0) (n := 0) (Nat.le_of_ble_eq_true rfl) (Nat.le_of_ble_eq_true rfl) ?_)
      refine lv_icmp_gt (tgt := 77) hx hb dX7_indexInList_15 (by decide) (fun c_9 => absurd c_9 (nI_nlt (a := st_len.getD i 0) (b := j) (by omega) (by omega))) (fun c_9 => ?_)
      refine lv_iload hx hb dX7_indexInList_18 (lv_at hl 6 rfl) ?_
      refine lv_aload_n hx hb dX7_indexInList_20 rfl (lv_at hl 1 rfl) ?_
      refine x_callVs (n := 0) (As := []) (rest := [.int (nI j)]) F hP hD hS (by omega) (g_length l D cy sk sv w i (by omega)) gX7_indexInList_J0_length_8abf5 rfl rfl (by decide +kernel) ⟨(Nat.le_of_ble_eq_true rfl), (Nat.le_of_ble_eq_true rfl)⟩ rfl hl.1 (Nat.le_of_ble_eq_true rfl) dX7_indexInList_21 rfl ⟨(Nat.le_of_ble_eq_true rfl), (Nat.le_of_ble_eq_true rfl)⟩ (fun v11 w12 hp10 H locs hP hD hS => ?_)
      obtain ⟨rfl, rfl⟩ := hp10
      refine W.eq (g2 := F0 m 24 ls [.int (nI (st_len.getD i 0)), .int (nI j)]) rfl (W.widen (k := 0) (n := 0) (Nat.le_of_ble_eq_true rfl) (Nat.le_of_ble_eq_true rfl) ?_)
      refine lv_icmp_eq (tgt := 38) hx hb dX7_indexInList_24 (by decide) (fun c_13 => ?_) (fun c_13 => ?_)
      · have hjl : j = st_len.getD i 0 := (nI_eq (by omega) (by omega)).mp c_13
        refine lv_iload hx hb dX7_indexInList_38 (lv_at hl 6 rfl) ?_
        refine lv_iload hx hb dX7_indexInList_40 (lv_at hl 5 rfl) ?_
        refine lv_isub hx hb dX7_indexInList_42 ?_
        rw [show ((nI j) - (nI g) : Int32) = nI (j - g) from pk_sub (a := j) (b := g) (by omega)]
        refine lv_iload_n hx hb dX7_indexInList_43 rfl (lv_at hl 3 rfl) ?_
        refine lv_icmp_ne (tgt := 62) hx hb dX7_indexInList_44 (by decide) (fun c_14 => ?_) (fun c_14 => ?_)
        · refine lv_iinc (v := nI (u + 1)) (lv' := [(4, .int (nI (u + 1))), (0, .ref t), (1, .ref (sk i)), (2, .int (nI q)), (3, .int (nI z)), (5, .int (nI g)), (6, .int (nI j))]) hx hb dX7_indexInList_62 hl (k := 4) rfl (nI_1 u) (by decide) rfl (fun ls hl => ?_)
          refine lv_iload hx hb dX7_indexInList_65 (lv_at hl 6 rfl) ?_
          refine lv_iconst (v := 1) hx hb dX7_indexInList_67 (by decide) ?_
          refine lv_iadd hx hb dX7_indexInList_68 ?_
          rw [show ((nI j) + 1 : Int32) = nI (j + 1) from nI_add j 1]
          refine lv_istore (lv' := [(5, .int (nI (j + 1))), (4, .int (nI (u + 1))), (0, .ref t), (1, .ref (sk i)), (2, .int (nI q)), (3, .int (nI z)), (6, .int (nI j))]) hx hb dX7_indexInList_69 hl (by decide) rfl (fun ls hl => ?_)
          refine lv_iinc (v := nI (j + 1)) (lv' := [(6, .int (nI (j + 1))), (5, .int (nI (j + 1))), (4, .int (nI (u + 1))), (0, .ref t), (1, .ref (sk i)), (2, .int (nI q)), (3, .int (nI z))]) hx hb dX7_indexInList_71 hl (k := 6) rfl (nI_1 j) (by decide) rfl (fun ls hl => ?_)
          refine lv_goto (tgt := 9) hx hb dX7_indexInList_74 (by decide) ?_
          exact ih9 (j + 1) (u + 1) (j + 1)  (by omega) (by omega) (fun h9 => by omega)   ls (lv_sub hl [3, 4, 5, 6, 2, 1, 0] rfl) H locs hP hD hS
        · have hzz : j - g = z := (nI_eq (by omega) (by omega)).mp c_14
          refine lv_aload_n hx hb dX7_indexInList_47 rfl (lv_at hl 0 rfl) ?_
          refine lv_aload_n hx hb dX7_indexInList_48 rfl (lv_at hl 1 rfl) ?_
          refine lv_iload hx hb dX7_indexInList_49 (lv_at hl 5 rfl) ?_
          refine lv_iload_n hx hb dX7_indexInList_51 rfl (lv_at hl 2 rfl) ?_
          refine lv_iload_n hx hb dX7_indexInList_52 rfl (lv_at hl 3 rfl) ?_
          refine x_callV (n := 4) (As := [.ref (sk i), .int (nI g), .int (nI q), .int (nI z)]) (rest := []) F hP hD hS (g_isSame l D cy sk sv w t b i g q z n0 a0 f c90 c91 (by omega) (by omega) (by omega)) gX7_indexInList_X7_isSame rfl rfl (by decide +kernel) ⟨(Nat.le_of_ble_eq_true rfl), (Nat.le_of_ble_eq_true rfl)⟩ rfl hl.1 (Nat.le_of_ble_eq_true rfl) c90 rfl dX7_indexInList_53 rfl ⟨(Nat.le_of_ble_eq_true rfl), (Nat.le_of_ble_eq_true rfl)⟩ (fun v16 w17 hp15 H locs hP hD hS => ?_)
          obtain ⟨rx18, rfl, hz19, rfl⟩ := hp15
          refine W.eq (g2 := F0 m 56 ls [.int rx18]) rfl (W.widen (k := 0) (n := 0) (Nat.le_of_ble_eq_true rfl) (Nat.le_of_ble_eq_true rfl) ?_)
          refine lv_if_eq (tgt := 62) hx hb dX7_indexInList_56 (by decide) (fun c_20 => ?_) (fun c_20 => ?_)
          · refine lv_iinc (v := nI (u + 1)) (lv' := [(4, .int (nI (u + 1))), (0, .ref t), (1, .ref (sk i)), (2, .int (nI q)), (3, .int (nI z)), (5, .int (nI g)), (6, .int (nI j))]) hx hb dX7_indexInList_62 hl (k := 4) rfl (nI_1 u) (by decide) rfl (fun ls hl => ?_)
            refine lv_iload hx hb dX7_indexInList_65 (lv_at hl 6 rfl) ?_
            refine lv_iconst (v := 1) hx hb dX7_indexInList_67 (by decide) ?_
            refine lv_iadd hx hb dX7_indexInList_68 ?_
            rw [show ((nI j) + 1 : Int32) = nI (j + 1) from nI_add j 1]
            refine lv_istore (lv' := [(5, .int (nI (j + 1))), (4, .int (nI (u + 1))), (0, .ref t), (1, .ref (sk i)), (2, .int (nI q)), (3, .int (nI z)), (6, .int (nI j))]) hx hb dX7_indexInList_69 hl (by decide) rfl (fun ls hl => ?_)
            refine lv_iinc (v := nI (j + 1)) (lv' := [(6, .int (nI (j + 1))), (5, .int (nI (j + 1))), (4, .int (nI (u + 1))), (0, .ref t), (1, .ref (sk i)), (2, .int (nI q)), (3, .int (nI z))]) hx hb dX7_indexInList_71 hl (k := 6) rfl (nI_1 j) (by decide) rfl (fun ls hl => ?_)
            refine lv_goto (tgt := 9) hx hb dX7_indexInList_74 (by decide) ?_
            exact ih9 (j + 1) (u + 1) (j + 1)  (by omega) (by omega) (fun h9 => by omega)   ls (lv_sub hl [3, 4, 5, 6, 2, 1, 0] rfl) H locs hP hD hS
          · refine lv_iload hx hb dX7_indexInList_59 (lv_at hl 4 rfl) ?_
            exact y_ir K hP hD hS (Nat.le_of_ble_eq_true rfl) (Nat.le_of_ble_eq_true rfl) (ty := .int) rfl rfl dX7_indexInList_61 (⟨nI u, rfl, Or.inr ⟨u, Nat.le_trans (hu (by omega)) (bl_e i hi j (by omega) (by omega)), rfl⟩, rfl⟩)
      · have hjl : j < st_len.getD i 0 := by have h9 : ¬ j = st_len.getD i 0 := fun q => c_13 ((nI_eq (by omega) (by omega)).mpr q); omega
        refine lv_aload_n hx hb dX7_indexInList_27 rfl (lv_at hl 1 rfl) ?_
        refine lv_iload hx hb dX7_indexInList_28 (lv_at hl 6 rfl) ?_
        refine x_callVs (n := 1) (As := [.int (nI j)]) (rest := []) F hP hD hS (by omega) (g_charAt l D cy sk sv w i j (by omega) (by omega)) gX7_indexInList_J0_charAt_5068e rfl rfl (by decide +kernel) ⟨(Nat.le_of_ble_eq_true rfl), (Nat.le_of_ble_eq_true rfl)⟩ rfl hl.1 (Nat.le_of_ble_eq_true rfl) dX7_indexInList_30 rfl ⟨(Nat.le_of_ble_eq_true rfl), (Nat.le_of_ble_eq_true rfl)⟩ (fun v22 w23 hp21 H locs hP hD hS => ?_)
        obtain ⟨rfl, rfl⟩ := hp21
        refine W.eq (g2 := F0 m 33 ls [.int ((st_byt.getD i []).getD j 0)]) rfl (W.widen (k := 0) (n := 0) (Nat.le_of_ble_eq_true rfl) (Nat.le_of_ble_eq_true rfl) ?_)
        refine lv_bipush (v := 32) hx hb dX7_indexInList_33 (by decide) ?_
        refine lv_icmp_ne (tgt := 71) hx hb dX7_indexInList_35 (by decide) (fun c_24 => ?_) (fun c_24 => ?_)
        · refine lv_iinc (v := nI (j + 1)) (lv' := [(6, .int (nI (j + 1))), (0, .ref t), (1, .ref (sk i)), (2, .int (nI q)), (3, .int (nI z)), (4, .int (nI u)), (5, .int (nI g))]) hx hb dX7_indexInList_71 hl (k := 6) rfl (nI_1 j) (by decide) rfl (fun ls hl => ?_)
          refine lv_goto (tgt := 9) hx hb dX7_indexInList_74 (by decide) ?_
          exact ih9 (j + 1) u g  (by omega) (by omega) (fun h9 => Nat.le_trans (hu (by omega)) (bl_s i hi j (by omega)).2)   ls (lv_sub hl [1, 2, 3, 4, 5, 6, 0] rfl) H locs hP hD hS
        · have hbl := c_24
          refine lv_iload hx hb dX7_indexInList_38 (lv_at hl 6 rfl) ?_
          refine lv_iload hx hb dX7_indexInList_40 (lv_at hl 5 rfl) ?_
          refine lv_isub hx hb dX7_indexInList_42 ?_
          rw [show ((nI j) - (nI g) : Int32) = nI (j - g) from pk_sub (a := j) (b := g) (by omega)]
          refine lv_iload_n hx hb dX7_indexInList_43 rfl (lv_at hl 3 rfl) ?_
          refine lv_icmp_ne (tgt := 62) hx hb dX7_indexInList_44 (by decide) (fun c_25 => ?_) (fun c_25 => ?_)
          · refine lv_iinc (v := nI (u + 1)) (lv' := [(4, .int (nI (u + 1))), (0, .ref t), (1, .ref (sk i)), (2, .int (nI q)), (3, .int (nI z)), (5, .int (nI g)), (6, .int (nI j))]) hx hb dX7_indexInList_62 hl (k := 4) rfl (nI_1 u) (by decide) rfl (fun ls hl => ?_)
            refine lv_iload hx hb dX7_indexInList_65 (lv_at hl 6 rfl) ?_
            refine lv_iconst (v := 1) hx hb dX7_indexInList_67 (by decide) ?_
            refine lv_iadd hx hb dX7_indexInList_68 ?_
            rw [show ((nI j) + 1 : Int32) = nI (j + 1) from nI_add j 1]
            refine lv_istore (lv' := [(5, .int (nI (j + 1))), (4, .int (nI (u + 1))), (0, .ref t), (1, .ref (sk i)), (2, .int (nI q)), (3, .int (nI z)), (6, .int (nI j))]) hx hb dX7_indexInList_69 hl (by decide) rfl (fun ls hl => ?_)
            refine lv_iinc (v := nI (j + 1)) (lv' := [(6, .int (nI (j + 1))), (5, .int (nI (j + 1))), (4, .int (nI (u + 1))), (0, .ref t), (1, .ref (sk i)), (2, .int (nI q)), (3, .int (nI z))]) hx hb dX7_indexInList_71 hl (k := 6) rfl (nI_1 j) (by decide) rfl (fun ls hl => ?_)
            refine lv_goto (tgt := 9) hx hb dX7_indexInList_74 (by decide) ?_
            exact ih9 (j + 1) (u + 1) (j + 1)  (by omega) (by omega) (fun h9 => by have h8 := (bl_s i hi j (by omega)).1 hbl; have h7 := hu (by omega); omega)   ls (lv_sub hl [3, 4, 5, 6, 2, 1, 0] rfl) H locs hP hD hS
          · have hzz : j - g = z := (nI_eq (by omega) (by omega)).mp c_25
            refine lv_aload_n hx hb dX7_indexInList_47 rfl (lv_at hl 0 rfl) ?_
            refine lv_aload_n hx hb dX7_indexInList_48 rfl (lv_at hl 1 rfl) ?_
            refine lv_iload hx hb dX7_indexInList_49 (lv_at hl 5 rfl) ?_
            refine lv_iload_n hx hb dX7_indexInList_51 rfl (lv_at hl 2 rfl) ?_
            refine lv_iload_n hx hb dX7_indexInList_52 rfl (lv_at hl 3 rfl) ?_
            refine x_callV (n := 4) (As := [.ref (sk i), .int (nI g), .int (nI q), .int (nI z)]) (rest := []) F hP hD hS (g_isSame l D cy sk sv w t b i g q z n0 a0 f c90 c91 (by omega) (by omega) (by omega)) gX7_indexInList_X7_isSame rfl rfl (by decide +kernel) ⟨(Nat.le_of_ble_eq_true rfl), (Nat.le_of_ble_eq_true rfl)⟩ rfl hl.1 (Nat.le_of_ble_eq_true rfl) c90 rfl dX7_indexInList_53 rfl ⟨(Nat.le_of_ble_eq_true rfl), (Nat.le_of_ble_eq_true rfl)⟩ (fun v27 w28 hp26 H locs hP hD hS => ?_)
            obtain ⟨rx29, rfl, hz30, rfl⟩ := hp26
            refine W.eq (g2 := F0 m 56 ls [.int rx29]) rfl (W.widen (k := 0) (n := 0) (Nat.le_of_ble_eq_true rfl) (Nat.le_of_ble_eq_true rfl) ?_)
            refine lv_if_eq (tgt := 62) hx hb dX7_indexInList_56 (by decide) (fun c_31 => ?_) (fun c_31 => ?_)
            · refine lv_iinc (v := nI (u + 1)) (lv' := [(4, .int (nI (u + 1))), (0, .ref t), (1, .ref (sk i)), (2, .int (nI q)), (3, .int (nI z)), (5, .int (nI g)), (6, .int (nI j))]) hx hb dX7_indexInList_62 hl (k := 4) rfl (nI_1 u) (by decide) rfl (fun ls hl => ?_)
              refine lv_iload hx hb dX7_indexInList_65 (lv_at hl 6 rfl) ?_
              refine lv_iconst (v := 1) hx hb dX7_indexInList_67 (by decide) ?_
              refine lv_iadd hx hb dX7_indexInList_68 ?_
              rw [show ((nI j) + 1 : Int32) = nI (j + 1) from nI_add j 1]
              refine lv_istore (lv' := [(5, .int (nI (j + 1))), (4, .int (nI (u + 1))), (0, .ref t), (1, .ref (sk i)), (2, .int (nI q)), (3, .int (nI z)), (6, .int (nI j))]) hx hb dX7_indexInList_69 hl (by decide) rfl (fun ls hl => ?_)
              refine lv_iinc (v := nI (j + 1)) (lv' := [(6, .int (nI (j + 1))), (5, .int (nI (j + 1))), (4, .int (nI (u + 1))), (0, .ref t), (1, .ref (sk i)), (2, .int (nI q)), (3, .int (nI z))]) hx hb dX7_indexInList_71 hl (k := 6) rfl (nI_1 j) (by decide) rfl (fun ls hl => ?_)
              refine lv_goto (tgt := 9) hx hb dX7_indexInList_74 (by decide) ?_
              exact ih9 (j + 1) (u + 1) (j + 1)  (by omega) (by omega) (fun h9 => by have h8 := (bl_s i hi j (by omega)).1 hbl; have h7 := hu (by omega); omega)   ls (lv_sub hl [3, 4, 5, 6, 2, 1, 0] rfl) H locs hP hD hS
            · refine lv_iload hx hb dX7_indexInList_59 (lv_at hl 4 rfl) ?_
              exact y_ir K hP hD hS (Nat.le_of_ble_eq_true rfl) (Nat.le_of_ble_eq_true rfl) (ty := .int) rfl rfl dX7_indexInList_61 (⟨nI u, rfl, Or.inr ⟨u, Nat.le_trans (hu (by omega)) (bl_e i hi j (by omega) (by omega)), rfl⟩, rfl⟩)
  exact lp9 _ 0 0 0  (Nat.zero_add _) (Nat.le_refl 0) (fun _ => Nat.zero_le _)   ls (lv_sub hl [3, 4, 5, 6, 2, 1, 0] rfl) H locs hP hD hS
set_option maxHeartbeats 4000000 in
set_option maxRecDepth 100000 in
theorem g_takeWord (l : Launch) (D : va_G) (cy : Nat → ClassId) (sk sv : Nat → Nat) (w : Wd) (t b n a0 i : Nat) (f : Nat → Int32) (c90 : wd_at w t (.inr (7, [.ref b, .int (nI n), .int (nI a0)]))) (c91 : wd_at w b (.inl (cy 0, 300, .inl f)))  (S : Nat → Prop) (s90 : S t) (hn : n ≤ 300) (ha : a0 ≤ n) (hi : i < 23) : Ct l D cy sk sv yX7_takeWord wsX7_takeWord ({ frames := 6, cells := 0, slots := 0, locals := 136 }) [.ref t, .ref (sk i)] w (fun v w1 => ∃ (a1 : Nat) (r1 : Int32), v = some (.int r1) ∧ (a0 ≤ a1) ∧ (a1 ≤ n) ∧ ((r1 = -1 ∨ ∃ u, u ≤ st_bl i (st_len.getD i 0) ∧ r1 = nI u)) ∧ wd_kp S w w1 ∧ wd_at w1 t (.inr (7, [.ref b, .int (nI n), .int (nI a1)]))) := by
  refine Ct.by (cc := cX7_takeWord) (maxL := 4) (ret := (some .int)) (by decide +kernel) rfl (Nat.le_of_ble_eq_true rfl) ?_
  intro p e s m args below meth c A Q F hnm K ls hl
  have F : wd_Fx p s m args meth c cX7_takeWord 4 wsX7_takeWord RX7 D cy sk sv A := F
  have hl : lv_has ls 4 [(0, .ref t), (1, .ref (sk i))] := hl
  have hx := F.1.1
  have hb := F.1.2.1
  have hown := F.1.2.2.2.1
  have hts := F.1.2.2.2.2
  intro H locs hP hD hS
  have kp0 : wd_kp S w w := wd_kp.rf
  refine lv_aload_n hx hb dX7_takeWord_0 rfl (lv_at hl 0 rfl) ?_
  refine lv_aload_n hx hb dX7_takeWord_1 rfl (lv_at hl 0 rfl) ?_
  refine x_callV (n := 0) (As := []) (rest := [.ref t]) F hP hD hS (g_nextPlace l D cy sk sv w t b n a0 f c90 c91 (fun b => b = t) rfl (by omega) (by omega)) gX7_takeWord_X7_nextPlace rfl rfl (by decide +kernel) ⟨(Nat.le_of_ble_eq_true rfl), (Nat.le_of_ble_eq_true rfl)⟩ rfl hl.1 (Nat.le_of_ble_eq_true rfl) c90 rfl dX7_takeWord_2 rfl ⟨(Nat.le_of_ble_eq_true rfl), (Nat.le_of_ble_eq_true rfl)⟩ (fun v2 w3 hp1 H locs hP hD hS => ?_)
  obtain ⟨ax4, rfl, hz5, hz6, kq8, k7⟩ := hp1
  have k9 := kq8.2 _ _ c91 (fun q9 : b = t => (wd_nk c91 c90 rfl) q9)
  have kp10 := kp0.tr kq8 (fun b9 hm q9 => (fun q9 => q9 ▸ s90) q9)
  refine W.eq (g2 := F0 m 5 ls [.int (nI ax4), .ref t]) rfl (W.widen (k := 0) (n := 0) (Nat.le_of_ble_eq_true rfl) (Nat.le_of_ble_eq_true rfl) ?_)
  refine x_callV (n := 1) (As := [.int (nI ax4)]) (rest := []) F hP hD hS (g_wordSize l D cy sk sv w3 t b n ax4 (nI ax4) f k7 k9 (by omega) (by omega)) gX7_takeWord_X7_wordSize rfl rfl (by decide +kernel) ⟨(Nat.le_of_ble_eq_true rfl), (Nat.le_of_ble_eq_true rfl)⟩ rfl hl.1 (Nat.le_of_ble_eq_true rfl) k7 rfl dX7_takeWord_5 rfl ⟨(Nat.le_of_ble_eq_true rfl), (Nat.le_of_ble_eq_true rfl)⟩ (fun v12 w13 hp11 H locs hP hD hS => ?_)
  obtain ⟨zx14, rfl, hz15, rfl⟩ := hp11
  refine W.eq (g2 := F0 m 8 ls [.int (nI zx14)]) rfl (W.widen (k := 0) (n := 0) (Nat.le_of_ble_eq_true rfl) (Nat.le_of_ble_eq_true rfl) ?_)
  refine lv_istore_n (lv' := [(2, .int (nI zx14)), (0, .ref t), (1, .ref (sk i))]) hx hb dX7_takeWord_8 rfl hl (by decide) rfl (fun ls hl => ?_)
  refine lv_iload_n hx hb dX7_takeWord_9 rfl (lv_at hl 0 rfl) ?_
  refine lv_if_ne (tgt := 17) hx hb dX7_takeWord_10 (by decide) (fun c_16 => ?_) (fun c_16 => ?_)
  · refine lv_aload_n hx hb dX7_takeWord_17 rfl (lv_at hl 1 rfl) ?_
    refine lv_aload_n hx hb dX7_takeWord_18 rfl (lv_at hl 2 rfl) ?_
    refine lv_aload_n hx hb dX7_takeWord_19 rfl (lv_at hl 1 rfl) ?_
    refine x_get (ref := "NoteHouse$Tape") F hP k7 rfl (fun _ h => List.mem_cons_of_mem _ (List.mem_append_right _ (h))) 2 (Nat.le_of_ble_eq_true rfl) (List.mem_cons_of_mem _ (List.mem_append_left _ (List.mem_append_left _ (List.mem_of_getElem? (i := 0) rfl)))) rfl rfl dX7_takeWord_20 ?_
    refine lv_iload_n hx hb dX7_takeWord_23 rfl (lv_at hl 0 rfl) ?_
    refine x_callV (n := 3) (As := [.ref (sk i), .int (nI ax4), .int (nI zx14)]) (rest := []) F hP hD hS (g_indexInList l D cy sk sv w3 t b i ax4 zx14 (nI n) (nI ax4) f k7 k9 (by omega) (by omega)) gX7_takeWord_X7_indexInList rfl rfl (by decide +kernel) ⟨(Nat.le_of_ble_eq_true rfl), (Nat.le_of_ble_eq_true rfl)⟩ rfl hl.1 (Nat.le_of_ble_eq_true rfl) k7 rfl dX7_takeWord_24 rfl ⟨(Nat.le_of_ble_eq_true rfl), (Nat.le_of_ble_eq_true rfl)⟩ (fun v18 w19 hp17 H locs hP hD hS => ?_)
    obtain ⟨rx20, rfl, hz21, rfl⟩ := hp17
    refine W.eq (g2 := F0 m 27 ls [.int rx20]) rfl (W.widen (k := 0) (n := 0) (Nat.le_of_ble_eq_true rfl) (Nat.le_of_ble_eq_true rfl) ?_)
    refine lv_istore_n (lv' := [(3, .int rx20), (2, .int (nI zx14)), (0, .ref t), (1, .ref (sk i))]) hx hb dX7_takeWord_27 rfl hl (by decide) rfl (fun ls hl => ?_)
    refine lv_iload_n hx hb dX7_takeWord_28 rfl (lv_at hl 0 rfl) ?_
    refine lv_iconst (v := (-1)) hx hb dX7_takeWord_29 (by decide) ?_
    refine lv_icmp_eq (tgt := 43) hx hb dX7_takeWord_30 (by decide) (fun c_22 => ?_) (fun c_22 => ?_)
    · refine lv_iload_n hx hb dX7_takeWord_43 rfl (lv_at hl 0 rfl) ?_
      exact y_ir K hP hD hS (Nat.le_of_ble_eq_true rfl) (Nat.le_of_ble_eq_true rfl) (ty := .int) rfl rfl dX7_takeWord_44 (⟨ax4, rx20, rfl, by omega, by omega, hz21, kp10, k7⟩)
    · refine lv_aload_n hx hb dX7_takeWord_33 rfl (lv_at hl 2 rfl) ?_
      refine lv_dup hx hb dX7_takeWord_34 rfl ?_
      refine x_get (ref := "NoteHouse$Tape") F hP k7 rfl (fun _ h => List.mem_cons_of_mem _ (List.mem_append_right _ (h))) 2 (Nat.le_of_ble_eq_true rfl) (List.mem_cons_of_mem _ (List.mem_append_left _ (List.mem_append_left _ (List.mem_of_getElem? (i := 0) rfl)))) rfl rfl dX7_takeWord_35 ?_
      refine lv_iload_n hx hb dX7_takeWord_38 rfl (lv_at hl 1 rfl) ?_
      refine lv_iadd hx hb dX7_takeWord_39 ?_
      rw [show ((nI ax4) + (nI zx14) : Int32) = nI (ax4 + zx14) from nI_add ax4 zx14]
      refine y_put (ref := "NoteHouse$Tape") F hP hD hS k7 rfl (fun _ h => List.mem_cons_of_mem _ (List.mem_append_right _ (h))) tyX7_ok nmX7 2 (Nat.le_of_ble_eq_true rfl) (List.mem_cons_of_mem _ (List.mem_append_left _ (List.mem_append_left _ (List.mem_of_getElem? (i := 0) rfl)))) rfl rfl rfl rfl (Nat.le_of_ble_eq_true rfl) dX7_takeWord_40 (fun w23 ew24 H locs hP hD hS => ?_)
      have k25 : wd_at w23 t (.inr (7, [.ref b, .int (nI n), .int (nI (ax4 + zx14))])) := wd_at.ps ew24 k7
      have k26 := wd_at.pt ew24 k9 (wd_nk k9 k7 rfl)
      have kp27 := kp10.put ew24 s90
      refine lv_iload_n hx hb dX7_takeWord_43 rfl (lv_at hl 0 rfl) ?_
      exact y_ir K hP hD hS (Nat.le_of_ble_eq_true rfl) (Nat.le_of_ble_eq_true rfl) (ty := .int) rfl rfl dX7_takeWord_44 (⟨(ax4 + zx14), rx20, rfl, by omega, by omega, hz21, kp27, k25⟩)
  · refine lv_iconst (v := (-1)) hx hb dX7_takeWord_13 (by decide) ?_
    refine lv_goto (tgt := 27) hx hb dX7_takeWord_14 (by decide) ?_
    refine lv_istore_n (lv' := [(3, .int (-1)), (2, .int (nI zx14)), (0, .ref t), (1, .ref (sk i))]) hx hb dX7_takeWord_27 rfl hl (by decide) rfl (fun ls hl => ?_)
    refine lv_iload_n hx hb dX7_takeWord_28 rfl (lv_at hl 0 rfl) ?_
    refine lv_iconst (v := (-1)) hx hb dX7_takeWord_29 (by decide) ?_
    refine lv_icmp_eq (tgt := 43) hx hb dX7_takeWord_30 (by decide) (fun c_28 => ?_) (fun c_28 => absurd (show (-1 : Int32) = (-1 : Int32) by decide) c_28)
    refine lv_iload_n hx hb dX7_takeWord_43 rfl (lv_at hl 0 rfl) ?_
    exact y_ir K hP hD hS (Nat.le_of_ble_eq_true rfl) (Nat.le_of_ble_eq_true rfl) (ty := .int) rfl rfl dX7_takeWord_44 (⟨ax4, (-1), rfl, by omega, by omega, Or.inl rfl, kp10, k7⟩)
set_option maxHeartbeats 4000000 in
set_option maxRecDepth 100000 in
theorem g_takeNumber (l : Launch) (D : va_G) (cy : Nat → ClassId) (sk sv : Nat → Nat) (w : Wd) (t b n a0 : Nat) (f : Nat → Int32) (x : Int32) (c90 : wd_at w t (.inr (7, [.ref b, .int (nI n), .int (nI a0)]))) (c91 : wd_at w b (.inl (cy 0, 300, .inl f)))  (S : Nat → Prop) (s90 : S t) (hn : n ≤ 300) (ha : a0 ≤ n) : Ct l D cy sk sv yX7_takeNumber wsX7_takeNumber ({ frames := 1, cells := 0, slots := 0, locals := 22 }) [.ref t, .int x] w (fun v w1 => ∃ (a1 : Nat) (r1 : Int32), v = some (.int r1) ∧ (a0 ≤ a1) ∧ (a1 ≤ n) ∧ wd_kp S w w1 ∧ wd_at w1 t (.inr (7, [.ref b, .int (nI n), .int (nI a1)]))) := by
  refine Ct.by (cc := cX7_takeNumber) (maxL := 4) (ret := (some .int)) (by decide +kernel) rfl (Nat.le_of_ble_eq_true rfl) ?_
  intro p e s m args below meth c A Q F hnm K ls hl
  have F : wd_Fx p s m args meth c cX7_takeNumber 4 wsX7_takeNumber RX7 D cy sk sv A := F
  have hl : lv_has ls 4 [(0, .ref t), (1, .int x)] := hl
  have hx := F.1.1
  have hb := F.1.2.1
  have hown := F.1.2.2.2.1
  have hts := F.1.2.2.2.2
  intro H locs hP hD hS
  have kp0 : wd_kp S w w := wd_kp.rf
  refine lv_aload_n hx hb dX7_takeNumber_0 rfl (lv_at hl 0 rfl) ?_
  refine x_callV (n := 0) (As := []) (rest := []) F hP hD hS (g_nextPlace l D cy sk sv w t b n a0 f c90 c91 (fun b => b = t) rfl (by omega) (by omega)) gX7_takeNumber_X7_nextPlace rfl rfl (by decide +kernel) ⟨(Nat.le_of_ble_eq_true rfl), (Nat.le_of_ble_eq_true rfl)⟩ rfl hl.1 (Nat.le_of_ble_eq_true rfl) c90 rfl dX7_takeNumber_1 rfl ⟨(Nat.le_of_ble_eq_true rfl), (Nat.le_of_ble_eq_true rfl)⟩ (fun v2 w3 hp1 H locs hP hD hS => ?_)
  obtain ⟨ax4, rfl, hz5, hz6, kq8, k7⟩ := hp1
  have k9 := kq8.2 _ _ c91 (fun q9 : b = t => (wd_nk c91 c90 rfl) q9)
  have kp10 := kp0.tr kq8 (fun b9 hm q9 => (fun q9 => q9 ▸ s90) q9)
  refine W.eq (g2 := F0 m 4 ls [.int (nI ax4)]) rfl (W.widen (k := 0) (n := 0) (Nat.le_of_ble_eq_true rfl) (Nat.le_of_ble_eq_true rfl) ?_)
  refine lv_istore_n (lv' := [(2, .int (nI ax4)), (0, .ref t), (1, .int x)]) hx hb dX7_takeNumber_4 rfl hl (by decide) rfl (fun ls hl => ?_)
  refine lv_iconst (v := 0) hx hb dX7_takeNumber_5 (by decide) ?_
  refine lv_istore_n (lv' := [(3, .int 0), (2, .int (nI ax4)), (0, .ref t), (1, .int x)]) hx hb dX7_takeNumber_6 rfl hl (by decide) rfl (fun ls hl => ?_)
  have lp7 : ∀ (N : Nat) (j : Nat) (u : Int32), (j + N = n) → (ax4 ≤ j) → ∀ (ls : Array Slot), lv_has ls 4 [(0, .ref t), (1, .int x), (2, .int (nI j)), (3, .int u)] → Wv p l e ({ frames := 1, cells := 0, slots := 0, locals := 22 }) s m args below meth c D A (0) (0) Q w3 (F0 m 7 ls []) := by
    intro N
    induction N with
    | zero =>
      intro j u hN7 hj ls hl H locs hP hD hS
      refine lv_iload_n hx hb dX7_takeNumber_7 rfl (lv_at hl 2 rfl) ?_
      refine lv_aload_n hx hb dX7_takeNumber_8 rfl (lv_at hl 0 rfl) ?_
      refine x_get (ref := "NoteHouse$Tape") F hP k7 rfl (fun _ h => List.mem_cons_of_mem _ (List.mem_append_right _ (h))) 1 (Nat.le_of_ble_eq_true rfl) (List.mem_cons_of_mem _ (List.mem_append_left _ (List.mem_of_getElem? (i := 0) rfl))) rfl rfl dX7_takeNumber_9 ?_
      refine lv_icmp_ge (tgt := 65) hx hb dX7_takeNumber_12 (by decide) (fun c_12 => ?_) (fun c_12 => absurd (nI_le (a := n) (b := j) (by omega) (by omega)) c_12)
      refine lv_iload_n hx hb dX7_takeNumber_65 rfl (lv_at hl 2 rfl) ?_
      refine lv_aload_n hx hb dX7_takeNumber_66 rfl (lv_at hl 0 rfl) ?_
      refine x_get (ref := "NoteHouse$Tape") F hP k7 rfl (fun _ h => List.mem_cons_of_mem _ (List.mem_append_right _ (h))) 2 (Nat.le_of_ble_eq_true rfl) (List.mem_cons_of_mem _ (List.mem_append_left _ (List.mem_of_getElem? (i := 2) rfl))) rfl rfl dX7_takeNumber_67 ?_
      refine lv_icmp_ne (tgt := 75) hx hb dX7_takeNumber_70 (by decide) (fun c_13 => ?_) (fun c_13 => ?_)
      · refine lv_aload_n hx hb dX7_takeNumber_75 rfl (lv_at hl 0 rfl) ?_
        refine lv_iload_n hx hb dX7_takeNumber_76 rfl (lv_at hl 2 rfl) ?_
        refine y_put (ref := "NoteHouse$Tape") F hP hD hS k7 rfl (fun _ h => List.mem_cons_of_mem _ (List.mem_append_right _ (h))) tyX7_ok nmX7 2 (Nat.le_of_ble_eq_true rfl) (List.mem_cons_of_mem _ (List.mem_append_left _ (List.mem_of_getElem? (i := 2) rfl))) rfl rfl rfl rfl (Nat.le_of_ble_eq_true rfl) dX7_takeNumber_77 (fun w14 ew15 H locs hP hD hS => ?_)
        have k16 : wd_at w14 t (.inr (7, [.ref b, .int (nI n), .int (nI j)])) := wd_at.ps ew15 k7
        have k17 := wd_at.pt ew15 k9 (wd_nk k9 k7 rfl)
        have kp18 := kp10.put ew15 s90
        refine lv_iload_n hx hb dX7_takeNumber_80 rfl (lv_at hl 3 rfl) ?_
        exact y_ir K hP hD hS (Nat.le_of_ble_eq_true rfl) (Nat.le_of_ble_eq_true rfl) (ty := .int) rfl rfl dX7_takeNumber_81 (⟨j, u, rfl, by omega, by omega, kp18, k16⟩)
      · refine lv_iconst (v := (-1)) hx hb dX7_takeNumber_73 (by decide) ?_
        exact y_ir K hP hD hS (Nat.le_of_ble_eq_true rfl) (Nat.le_of_ble_eq_true rfl) (ty := .int) rfl rfl dX7_takeNumber_74 (⟨ax4, (-1), rfl, by omega, by omega, kp10, k7⟩)
    | succ N ih7 =>
      intro j u hN7 hj ls hl H locs hP hD hS
      refine lv_iload_n hx hb dX7_takeNumber_7 rfl (lv_at hl 2 rfl) ?_
      refine lv_aload_n hx hb dX7_takeNumber_8 rfl (lv_at hl 0 rfl) ?_
      refine x_get (ref := "NoteHouse$Tape") F hP k7 rfl (fun _ h => List.mem_cons_of_mem _ (List.mem_append_right _ (h))) 1 (Nat.le_of_ble_eq_true rfl) (List.mem_cons_of_mem _ (List.mem_append_left _ (List.mem_of_getElem? (i := 0) rfl))) rfl rfl dX7_takeNumber_9 ?_
      refine lv_icmp_ge (tgt := 65) hx hb dX7_takeNumber_12 (by decide) (fun c_19 => absurd c_19 (nI_ge (a := j) (b := n) (by omega) (by omega))) (fun c_19 => ?_)
      refine lv_aload_n hx hb dX7_takeNumber_15 rfl (lv_at hl 0 rfl) ?_
      refine x_get (ref := "NoteHouse$Tape") F hP k7 rfl (fun _ h => List.mem_cons_of_mem _ (List.mem_append_right _ (h))) 0 (Nat.le_of_ble_eq_true rfl) (List.mem_cons_of_mem _ (List.mem_append_left _ (List.mem_of_getElem? (i := 1) rfl))) rfl rfl dX7_takeNumber_16 ?_
      refine lv_iload_n hx hb dX7_takeNumber_19 rfl (lv_at hl 2 rfl) ?_
      refine x_bald F hP k9 (vp_in_nI (n := j) (N := 300) (by omega) (by decide)) dX7_takeNumber_20 ?_
      refine lv_bipush (v := 48) hx hb dX7_takeNumber_21 (by decide) ?_
      refine lv_bipush (v := 57) hx hb dX7_takeNumber_23 (by decide) ?_
      refine x_callSN (host := RX10) (n := 3) (As := [.int (f (nI j).toNatClampNeg), .int 48, .int 57]) (rest := []) F hP hD hS (g_isWithin l D cy sk sv w3 (f (nI j).toNatClampNeg) 48 57) gX7_takeNumber_X10_isWithin_n38 rfl (by decide +kernel) (List.mem_cons_of_mem _ (List.mem_append_left _ (List.mem_of_getElem? (i := 9) rfl))) (List.mem_cons_of_mem _ (List.mem_append_left _ (List.mem_of_getElem? (i := 8) rfl))) (by decide +kernel) ⟨(Nat.le_of_ble_eq_true rfl), (Nat.le_of_ble_eq_true rfl)⟩ rfl hl.1 (Nat.le_of_ble_eq_true rfl) dX7_takeNumber_25 rfl ⟨(Nat.le_of_ble_eq_true rfl), (Nat.le_of_ble_eq_true rfl)⟩ (fun v21 w22 hp20 H locs hP hD hS => ?_)
      obtain ⟨rfl, rfl⟩ := hp20
      refine W.eq (g2 := F0 m 28 ls [.int (wi (f (nI j).toNatClampNeg) 48 57)]) rfl (W.widen (k := 0) (n := 0) (Nat.le_of_ble_eq_true rfl) (Nat.le_of_ble_eq_true rfl) ?_)
      refine lv_if_eq (tgt := 65) hx hb dX7_takeNumber_28 (by decide) (fun c_23 => ?_) (fun c_23 => ?_)
      · refine lv_iload_n hx hb dX7_takeNumber_65 rfl (lv_at hl 2 rfl) ?_
        refine lv_aload_n hx hb dX7_takeNumber_66 rfl (lv_at hl 0 rfl) ?_
        refine x_get (ref := "NoteHouse$Tape") F hP k7 rfl (fun _ h => List.mem_cons_of_mem _ (List.mem_append_right _ (h))) 2 (Nat.le_of_ble_eq_true rfl) (List.mem_cons_of_mem _ (List.mem_append_left _ (List.mem_of_getElem? (i := 2) rfl))) rfl rfl dX7_takeNumber_67 ?_
        refine lv_icmp_ne (tgt := 75) hx hb dX7_takeNumber_70 (by decide) (fun c_24 => ?_) (fun c_24 => ?_)
        · refine lv_aload_n hx hb dX7_takeNumber_75 rfl (lv_at hl 0 rfl) ?_
          refine lv_iload_n hx hb dX7_takeNumber_76 rfl (lv_at hl 2 rfl) ?_
          refine y_put (ref := "NoteHouse$Tape") F hP hD hS k7 rfl (fun _ h => List.mem_cons_of_mem _ (List.mem_append_right _ (h))) tyX7_ok nmX7 2 (Nat.le_of_ble_eq_true rfl) (List.mem_cons_of_mem _ (List.mem_append_left _ (List.mem_of_getElem? (i := 2) rfl))) rfl rfl rfl rfl (Nat.le_of_ble_eq_true rfl) dX7_takeNumber_77 (fun w25 ew26 H locs hP hD hS => ?_)
          have k27 : wd_at w25 t (.inr (7, [.ref b, .int (nI n), .int (nI j)])) := wd_at.ps ew26 k7
          have k28 := wd_at.pt ew26 k9 (wd_nk k9 k7 rfl)
          have kp29 := kp10.put ew26 s90
          refine lv_iload_n hx hb dX7_takeNumber_80 rfl (lv_at hl 3 rfl) ?_
          exact y_ir K hP hD hS (Nat.le_of_ble_eq_true rfl) (Nat.le_of_ble_eq_true rfl) (ty := .int) rfl rfl dX7_takeNumber_81 (⟨j, u, rfl, by omega, by omega, kp29, k27⟩)
        · refine lv_iconst (v := (-1)) hx hb dX7_takeNumber_73 (by decide) ?_
          exact y_ir K hP hD hS (Nat.le_of_ble_eq_true rfl) (Nat.le_of_ble_eq_true rfl) (ty := .int) rfl rfl dX7_takeNumber_74 (⟨ax4, (-1), rfl, by omega, by omega, kp10, k7⟩)
      · refine lv_iload_n hx hb dX7_takeNumber_31 rfl (lv_at hl 2 rfl) ?_
        refine lv_aload_n hx hb dX7_takeNumber_32 rfl (lv_at hl 0 rfl) ?_
        refine x_get (ref := "NoteHouse$Tape") F hP k7 rfl (fun _ h => List.mem_cons_of_mem _ (List.mem_append_right _ (h))) 2 (Nat.le_of_ble_eq_true rfl) (List.mem_cons_of_mem _ (List.mem_append_left _ (List.mem_of_getElem? (i := 2) rfl))) rfl rfl dX7_takeNumber_33 ?_
        refine lv_isub hx hb dX7_takeNumber_36 ?_
        refine lv_iload_n hx hb dX7_takeNumber_37 rfl (lv_at hl 1 rfl) ?_
        refine lv_icmp_lt (tgt := 44) hx hb dX7_takeNumber_38 (by decide) (fun c_30 => ?_) (fun c_30 => ?_)
        · refine lv_iload_n hx hb dX7_takeNumber_44 rfl (lv_at hl 3 rfl) ?_
          refine lv_bipush (v := 10) hx hb dX7_takeNumber_45 (by decide) ?_
          refine lv_imul hx hb dX7_takeNumber_47 ?_
          refine lv_aload_n hx hb dX7_takeNumber_48 rfl (lv_at hl 0 rfl) ?_
          refine x_get (ref := "NoteHouse$Tape") F hP k7 rfl (fun _ h => List.mem_cons_of_mem _ (List.mem_append_right _ (h))) 0 (Nat.le_of_ble_eq_true rfl) (List.mem_cons_of_mem _ (List.mem_append_left _ (List.mem_of_getElem? (i := 1) rfl))) rfl rfl dX7_takeNumber_49 ?_
          refine lv_iload_n hx hb dX7_takeNumber_52 rfl (lv_at hl 2 rfl) ?_
          refine x_bald F hP k9 (vp_in_nI (n := j) (N := 300) (by omega) (by decide)) dX7_takeNumber_53 ?_
          refine lv_iadd hx hb dX7_takeNumber_54 ?_
          refine lv_bipush (v := 48) hx hb dX7_takeNumber_55 (by decide) ?_
          refine lv_isub hx hb dX7_takeNumber_57 ?_
          refine lv_istore_n (lv' := [(3, .int (((u * 10) + (f (nI j).toNatClampNeg)) - 48)), (0, .ref t), (1, .int x), (2, .int (nI j))]) hx hb dX7_takeNumber_58 rfl hl (by decide) rfl (fun ls hl => ?_)
          refine lv_iinc (v := nI (j + 1)) (lv' := [(2, .int (nI (j + 1))), (3, .int (((u * 10) + (f (nI j).toNatClampNeg)) - 48)), (0, .ref t), (1, .int x)]) hx hb dX7_takeNumber_59 hl (k := 3) rfl (nI_1 j) (by decide) rfl (fun ls hl => ?_)
          refine lv_goto (tgt := 7) hx hb dX7_takeNumber_62 (by decide) ?_
          exact ih7 (j + 1) (((u * 10) + (f (nI j).toNatClampNeg)) - 48)  (by omega) (by omega)   ls (lv_sub hl [2, 3, 0, 1] rfl) H locs hP hD hS
        · refine lv_bipush (v := (-2)) hx hb dX7_takeNumber_41 (by decide) ?_
          exact y_ir K hP hD hS (Nat.le_of_ble_eq_true rfl) (Nat.le_of_ble_eq_true rfl) (ty := .int) rfl rfl dX7_takeNumber_43 (⟨ax4, (-2), rfl, by omega, by omega, kp10, k7⟩)
  exact lp7 (n - ax4) ax4 0  (by omega) (Nat.le_refl _)   ls (lv_sub hl [2, 3, 1, 0] rfl) H locs hP hD hS
set_option maxHeartbeats 4000000 in
set_option maxRecDepth 100000 in
theorem g_hasCome (l : Launch) (D : va_G) (cy : Nat → ClassId) (sk sv : Nat → Nat) (w : Wd) (x y : Int32)    : Ct l D cy sk sv yX10_hasCome wsX10_hasCome ({ frames := 0, cells := 0, slots := 0, locals := 0 }) [.int x, .int y] w (fun v w1 => ∃ (r1 : Int32), v = some (.int r1) ∧ (r1 = 0 ∨ r1 = 1) ∧ w = w1) := by
  refine Ct.by (cc := cX10_hasCome) (maxL := 2) (ret := (some .boolean)) (by decide +kernel) rfl (Nat.le_of_ble_eq_true rfl) ?_
  intro p e s m args below meth c A Q F hnm K ls hl
  have F : wd_Fx p s m args meth c cX10_hasCome 2 wsX10_hasCome RX10 D cy sk sv A := F
  have hl : lv_has ls 2 [(0, .int x), (1, .int y)] := hl
  have hx := F.1.1
  have hb := F.1.2.1
  have hown := F.1.2.2.2.1
  have hts := F.1.2.2.2.2
  intro H locs hP hD hS
  refine lv_iload_n hx hb dX10_hasCome_0 rfl (lv_at hl 0 rfl) ?_
  refine lv_iconst (v := (-1)) hx hb dX10_hasCome_1 (by decide) ?_
  refine lv_icmp_eq (tgt := 14) hx hb dX10_hasCome_2 (by decide) (fun c_1 => ?_) (fun c_1 => ?_)
  · refine lv_iconst (v := 0) hx hb dX10_hasCome_14 (by decide) ?_
    exact y_ir K hP hD hS (Nat.le_of_ble_eq_true rfl) (Nat.le_of_ble_eq_true rfl) (ty := .boolean) rfl rfl dX10_hasCome_15 (⟨0, rfl, Or.inl rfl, rfl⟩)
  · refine lv_iload_n hx hb dX10_hasCome_5 rfl (lv_at hl 0 rfl) ?_
    refine lv_iload_n hx hb dX10_hasCome_6 rfl (lv_at hl 1 rfl) ?_
    refine lv_icmp_gt (tgt := 14) hx hb dX10_hasCome_7 (by decide) (fun c_2 => ?_) (fun c_2 => ?_)
    · refine lv_iconst (v := 0) hx hb dX10_hasCome_14 (by decide) ?_
      exact y_ir K hP hD hS (Nat.le_of_ble_eq_true rfl) (Nat.le_of_ble_eq_true rfl) (ty := .boolean) rfl rfl dX10_hasCome_15 (⟨0, rfl, Or.inl rfl, rfl⟩)
    · refine lv_iconst (v := 1) hx hb dX10_hasCome_10 (by decide) ?_
      refine lv_goto (tgt := 15) hx hb dX10_hasCome_11 (by decide) ?_
      exact y_ir K hP hD hS (Nat.le_of_ble_eq_true rfl) (Nat.le_of_ble_eq_true rfl) (ty := .boolean) rfl rfl dX10_hasCome_15 (⟨1, rfl, Or.inr rfl, rfl⟩)
