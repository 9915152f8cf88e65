/-! ===== what the methods answer on a fresh house ===== -/
def wi (n lo hi : Int32) : Int32 := if n < lo then 0 else if n ≤ hi then 1 else 0
theorem wi_b (n lo hi : Int32) : narrow .boolean (.int (wi n lo hi)) = .int (wi n lo hi) := by unfold wi; split; exact rfl; split <;> exact rfl
theorem wi_n {n lo hi : Int32} (h : ¬ wi n lo hi = 0) : ¬ n < lo ∧ n ≤ hi := by
  unfold wi at h
  by_cases h1 : n < lo
  · rw [if_pos h1] at h; exact absurd rfl h
  · rw [if_neg h1] at h
    by_cases h2 : n ≤ hi
    · exact ⟨h1, h2⟩
    · rw [if_neg h2] at h; exact absurd rfl h
theorem wi_t {n : Int32} (h : ¬ wi n 0 11 = 0) : ∃ j : Nat, j < 12 ∧ n = nI j ∧ n.toNatClampNeg = j := by
  obtain ⟨h1, h2⟩ := wi_n h
  obtain ⟨j, hj, rfl⟩ := nI_of2 (M := 11) (n := 11) (by decide) h1 h2
  exact ⟨j, by omega, rfl, nI_clamp (by omega)⟩
theorem wi_2 {a b : Int32} (ha : ¬ wi a 0 11 = 0) (hb : ¬ wi b 0 11 = 0) : vp_in (a * 12 + b) 144 := by
  obtain ⟨i, hi, rfl, -⟩ := wi_t ha
  obtain ⟨j, hj, rfl, -⟩ := wi_t hb
  rw [show (12 : Int32) = nI 12 from rfl, pk_mul, nI_add]
  exact vp_in_nI (by omega) (by decide)
def sp_way (a b d : Int32) : Int32 := if wi a 0 11 = 0 then 0 else if wi b 0 11 = 0 then 0 else if a = b then 0 else if wi d 0 99 = 0 then 0 else 1
def sp_rate (t c r : Int32) : Int32 := if wi t 0 11 = 0 then 0 else if wi c 0 3 = 0 then 0 else if wi r 1 100000 = 0 then 0 else 1
def sp_add (h g : Int32) : Int32 := if wi h 0 99999 = 0 then (-1) else if wi g 1 2000 = 0 then (-1) else 0
def sp_book (n w h g : Int32) : Int32 := if wi n 1 20 = 0 then (-1) else if wi w 1 10000 = 0 then (-1) else sp_add h g
def sp_credit (n h g : Int32) : Int32 := if wi n 1 100000 = 0 then (-1) else sp_add h g
def sp_end (n : Int32) : Int32 := if n < 0 then (-1) else if n ≤ 0 then n else (-1)
def sp_text (t : Int32) : Int32 := if wi t 0 11 = 0 then (-1) else 0
def sp_send (t c : Int32) : Int32 := if wi t 0 11 = 0 then (-1) else if t = 0 then (-1) else if wi c 1 1000000 = 0 then (-1) else c
def sp_settle (k : Int32) : Int32 := if wi k 0 3000 = 0 then (-1) else 0
def sp_count (k : Int32) : Int32 := if ¬ wi k 10 21 = 0 then 0 else if k = 30 then 1 else if k = 31 then 1 else if k = 32 then 0 else if k = 33 then 2 else if k = 34 then 10 else if k = 0 then 0 else if k = 1 then 0 else if k = 2 then 0 else if k = 3 then 0 else if k = 4 then 0 else if k = 5 then 0 else if k = 6 then 0 else (-1)
set_option maxHeartbeats 4000000 in
set_option maxRecDepth 100000 in
theorem c_X10_isWithin (l : Launch) (D : va_G) (cy : Nat → ClassId) (w : Wd) (n lo hi : Int32)   : Ct l D cy yX10_isWithin wsX10_isWithin ({ frames := 0, cells := 0, slots := 0, locals := 0 }) [.int n, .int lo, .int hi] w (fun v w1 => v = some (.int (wi n lo hi)) ∧ w = w1) := by
  refine Ct.by (cc := cX10_isWithin) (maxL := 3) (ret := (some .boolean)) (by decide +kernel) rfl (Nat.le_of_ble_eq_true rfl) ?_
  intro p e s m args below meth c A Q F hnm K ls hl
  have F : wd_Fx p s m args meth c cX10_isWithin 3 wsX10_isWithin RX10 D cy A := F
  have hl : lv_has ls 3 [(0, .int n), (1, .int lo), (2, .int hi)] := hl
  have hx := F.1.1
  have hb := F.1.2.1
  have hown := F.1.2.2.2.1
  have hts := F.1.2.2.2.2
  intro H locs hP hD hS
  refine lv_iload_n hx hb dX10_isWithin_0 rfl (lv_at hl 0 rfl) ?_
  refine lv_iload_n hx hb dX10_isWithin_1 rfl (lv_at hl 1 rfl) ?_
  refine lv_icmp_lt (tgt := 14) hx hb dX10_isWithin_2 (by decide) (fun c_1 => ?_) (fun c_1 => ?_)
  · refine lv_iconst (v := 0) hx hb dX10_isWithin_14 (by decide) ?_
    exact y_ir K hP hD hS (Nat.le_of_ble_eq_true rfl) (Nat.le_of_ble_eq_true rfl) (ty := .boolean) rfl rfl dX10_isWithin_15 (⟨by simp [wi, c_1], rfl⟩)
  · refine lv_iload_n hx hb dX10_isWithin_5 rfl (lv_at hl 0 rfl) ?_
    refine lv_iload_n hx hb dX10_isWithin_6 rfl (lv_at hl 2 rfl) ?_
    refine lv_icmp_gt (tgt := 14) hx hb dX10_isWithin_7 (by decide) (fun c_2 => ?_) (fun c_2 => ?_)
    · refine lv_iconst (v := 0) hx hb dX10_isWithin_14 (by decide) ?_
      exact y_ir K hP hD hS (Nat.le_of_ble_eq_true rfl) (Nat.le_of_ble_eq_true rfl) (ty := .boolean) rfl rfl dX10_isWithin_15 (⟨by simp [wi, c_1, c_2], rfl⟩)
    · refine lv_iconst (v := 1) hx hb dX10_isWithin_10 (by decide) ?_
      refine lv_goto (tgt := 15) hx hb dX10_isWithin_11 (by decide) ?_
      exact y_ir K hP hD hS (Nat.le_of_ble_eq_true rfl) (Nat.le_of_ble_eq_true rfl) (ty := .boolean) rfl rfl dX10_isWithin_15 (⟨by simp [wi, c_1, c_2], rfl⟩)
set_option maxHeartbeats 4000000 in
set_option maxRecDepth 100000 in
theorem c_X11_in (l : Launch) (D : va_G) (cy : Nat → ClassId) (w : Wd) (n lo hi : Int32)   : Ct l D cy yX11_in wsX11_in ({ frames := 0, cells := 0, slots := 0, locals := 0 }) [.int n, .int lo, .int hi] w (fun v w1 => v = some (.int (wi n lo hi)) ∧ w = w1) := by
  refine Ct.by (cc := cX11_in) (maxL := 3) (ret := (some .boolean)) (by decide +kernel) rfl (Nat.le_of_ble_eq_true rfl) ?_
  intro p e s m args below meth c A Q F hnm K ls hl
  have F : wd_Fx p s m args meth c cX11_in 3 wsX11_in RX11 D cy A := F
  have hl : lv_has ls 3 [(0, .int n), (1, .int lo), (2, .int hi)] := hl
  have hx := F.1.1
  have hb := F.1.2.1
  have hown := F.1.2.2.2.1
  have hts := F.1.2.2.2.2
  intro H locs hP hD hS
  refine lv_iload_n hx hb dX11_in_0 rfl (lv_at hl 0 rfl) ?_
  refine lv_iload_n hx hb dX11_in_1 rfl (lv_at hl 1 rfl) ?_
  refine lv_icmp_lt (tgt := 14) hx hb dX11_in_2 (by decide) (fun c_1 => ?_) (fun c_1 => ?_)
  · refine lv_iconst (v := 0) hx hb dX11_in_14 (by decide) ?_
    exact y_ir K hP hD hS (Nat.le_of_ble_eq_true rfl) (Nat.le_of_ble_eq_true rfl) (ty := .boolean) rfl rfl dX11_in_15 (⟨by simp [wi, c_1], rfl⟩)
  · refine lv_iload_n hx hb dX11_in_5 rfl (lv_at hl 0 rfl) ?_
    refine lv_iload_n hx hb dX11_in_6 rfl (lv_at hl 2 rfl) ?_
    refine lv_icmp_gt (tgt := 14) hx hb dX11_in_7 (by decide) (fun c_2 => ?_) (fun c_2 => ?_)
    · refine lv_iconst (v := 0) hx hb dX11_in_14 (by decide) ?_
      exact y_ir K hP hD hS (Nat.le_of_ble_eq_true rfl) (Nat.le_of_ble_eq_true rfl) (ty := .boolean) rfl rfl dX11_in_15 (⟨by simp [wi, c_1, c_2], rfl⟩)
    · refine lv_iconst (v := 1) hx hb dX11_in_10 (by decide) ?_
      refine lv_goto (tgt := 15) hx hb dX11_in_11 (by decide) ?_
      exact y_ir K hP hD hS (Nat.le_of_ble_eq_true rfl) (Nat.le_of_ble_eq_true rfl) (ty := .boolean) rfl rfl dX11_in_15 (⟨by simp [wi, c_1, c_2], rfl⟩)
set_option maxHeartbeats 4000000 in
set_option maxRecDepth 100000 in
theorem c_X10_isTown (l : Launch) (D : va_G) (cy : Nat → ClassId) (w : Wd) (n : Int32)   : Ct l D cy yX10_isTown wsX10_isTown ({ frames := 1, cells := 0, slots := 0, locals := 22 }) [.int n] w (fun v w1 => v = some (.int (wi n 0 11)) ∧ w = w1) := by
  refine Ct.by (cc := cX10_isTown) (maxL := 1) (ret := (some .boolean)) (by decide +kernel) rfl (Nat.le_of_ble_eq_true rfl) ?_
  intro p e s m args below meth c A Q F hnm K ls hl
  have F : wd_Fx p s m args meth c cX10_isTown 1 wsX10_isTown RX10 D cy A := F
  have hl : lv_has ls 1 [(0, .int n)] := hl
  have hx := F.1.1
  have hb := F.1.2.1
  have hown := F.1.2.2.2.1
  have hts := F.1.2.2.2.2
  intro H locs hP hD hS
  refine lv_iload_n hx hb dX10_isTown_0 rfl (lv_at hl 0 rfl) ?_
  refine lv_iconst (v := 0) hx hb dX10_isTown_1 (by decide) ?_
  refine lv_bipush (v := 11) hx hb dX10_isTown_2 (by decide) ?_
  refine x_callS (As := [.int n, .int 0, .int 11]) (rest := []) F hP hD hS (c_X10_isWithin l D cy w n 0 11) gX10_isTown_X10_isWithin rfl (by decide +kernel) ⟨(Nat.le_of_ble_eq_true rfl), (Nat.le_of_ble_eq_true rfl)⟩ rfl hl.1 (Nat.le_of_ble_eq_true rfl) dX10_isTown_4 rfl ⟨(Nat.le_of_ble_eq_true rfl), (Nat.le_of_ble_eq_true rfl)⟩ (fun v2 w3 hp1 H locs hP hD hS => ?_)
  obtain ⟨rfl, rfl⟩ := hp1
  refine W.eq (g2 := F0 m 7 ls [.int (wi n 0 11)]) rfl (W.widen (k := 0) (n := 0) (Nat.le_of_ble_eq_true rfl) (Nat.le_of_ble_eq_true rfl) ?_)
  exact y_ir K hP hD hS (Nat.le_of_ble_eq_true rfl) (Nat.le_of_ble_eq_true rfl) (ty := .boolean) rfl (wi_b _ _ _) dX10_isTown_7 (⟨rfl, rfl⟩)
set_option maxHeartbeats 4000000 in
set_option maxRecDepth 100000 in
theorem c_X10_isHand (l : Launch) (D : va_G) (cy : Nat → ClassId) (w : Wd) (n : Int32)   : Ct l D cy yX10_isHand wsX10_isHand ({ frames := 1, cells := 0, slots := 0, locals := 22 }) [.int n] w (fun v w1 => v = some (.int (wi n 0 99999)) ∧ w = w1) := by
  refine Ct.by (cc := cX10_isHand) (maxL := 1) (ret := (some .boolean)) (by decide +kernel) rfl (Nat.le_of_ble_eq_true rfl) ?_
  intro p e s m args below meth c A Q F hnm K ls hl
  have F : wd_Fx p s m args meth c cX10_isHand 1 wsX10_isHand RX10 D cy A := F
  have hl : lv_has ls 1 [(0, .int n)] := hl
  have hx := F.1.1
  have hb := F.1.2.1
  have hown := F.1.2.2.2.1
  have hts := F.1.2.2.2.2
  intro H locs hP hD hS
  refine lv_iload_n hx hb dX10_isHand_0 rfl (lv_at hl 0 rfl) ?_
  refine lv_iconst (v := 0) hx hb dX10_isHand_1 (by decide) ?_
  refine lv_ldcw (v := 99999) hx hb hown (hts _ (List.mem_cons_of_mem _ (List.mem_of_getElem? (i := 0) rfl))) dX10_isHand_2 ?_
  refine x_callS (As := [.int n, .int 0, .int 99999]) (rest := []) F hP hD hS (c_X10_isWithin l D cy w n 0 99999) gX10_isHand_X10_isWithin rfl (by decide +kernel) ⟨(Nat.le_of_ble_eq_true rfl), (Nat.le_of_ble_eq_true rfl)⟩ rfl hl.1 (Nat.le_of_ble_eq_true rfl) dX10_isHand_5 rfl ⟨(Nat.le_of_ble_eq_true rfl), (Nat.le_of_ble_eq_true rfl)⟩ (fun v2 w3 hp1 H locs hP hD hS => ?_)
  obtain ⟨rfl, rfl⟩ := hp1
  refine W.eq (g2 := F0 m 8 ls [.int (wi n 0 99999)]) rfl (W.widen (k := 0) (n := 0) (Nat.le_of_ble_eq_true rfl) (Nat.le_of_ble_eq_true rfl) ?_)
  exact y_ir K hP hD hS (Nat.le_of_ble_eq_true rfl) (Nat.le_of_ble_eq_true rfl) (ty := .boolean) rfl (wi_b _ _ _) dX10_isHand_8 (⟨rfl, rfl⟩)
set_option maxHeartbeats 4000000 in
set_option maxRecDepth 100000 in
theorem c_X10_paperAt (l : Launch) (D : va_G) (cy : Nat → ClassId) (w : Wd) (x a0 a1 a2 a3 a4 a5 a6 a7 a8 a9 a10 a11 : Nat) (k : Int32) (hc : wd_at w x (.inr (10, [.ref a0, .ref a1, .ref a2, .ref a3, .ref a4, .ref a5, .ref a6, .ref a7, .ref a8, .ref a9, .ref a10, .ref a11, .int 0, .int 0, .int 0, .int 0, .int 0])))  : Ct l D cy yX10_paperAt wsX10_paperAt ({ frames := 0, cells := 0, slots := 0, locals := 0 }) [.ref x, .int k] w (fun v w1 => v = some .null ∧ w = w1) := by
  refine Ct.by (cc := cX10_paperAt) (maxL := 2) (ret := (some (.object "NoteHouse$Paper"))) (by decide +kernel) rfl (Nat.le_of_ble_eq_true rfl) ?_
  intro p e s m args below meth c A Q F hnm K ls hl
  have F : wd_Fx p s m args meth c cX10_paperAt 2 wsX10_paperAt RX10 D cy A := F
  have hl : lv_has ls 2 [(0, .ref x), (1, .int k)] := hl
  have hx := F.1.1
  have hb := F.1.2.1
  have hown := F.1.2.2.2.1
  have hts := F.1.2.2.2.2
  intro H locs hP hD hS
  refine lv_iload_n hx hb dX10_paperAt_0 rfl (lv_at hl 1 rfl) ?_
  refine lv_if_lt (tgt := 21) hx hb dX10_paperAt_1 (by decide) (fun c_1 => ?_) (fun c_1 => ?_)
  · refine lv_null hx hb dX10_paperAt_21 ?_
    exact y_ar K hP hD hS (Nat.le_of_ble_eq_true rfl) (Nat.le_of_ble_eq_true rfl) rfl (Or.inl ⟨_, rfl⟩) (Or.inl rfl) dX10_paperAt_22 (⟨rfl, rfl⟩)
  · refine lv_iload_n hx hb dX10_paperAt_4 rfl (lv_at hl 1 rfl) ?_
    refine lv_aload_n hx hb dX10_paperAt_5 rfl (lv_at hl 0 rfl) ?_
    refine x_get (ref := "NoteHouse") F hP hc rfl (fun _ h => List.mem_cons_of_mem _ (List.mem_append_right _ (h))) 13 (Nat.le_of_ble_eq_true rfl) (List.mem_cons_of_mem _ (List.mem_append_left _ (List.mem_of_getElem? (i := 0) rfl))) rfl rfl dX10_paperAt_6 ?_
    refine lv_icmp_ge (tgt := 21) hx hb dX10_paperAt_9 (by decide) (fun c_2 => ?_) (fun c_2 => ?_)
    · refine lv_null hx hb dX10_paperAt_21 ?_
      exact y_ar K hP hD hS (Nat.le_of_ble_eq_true rfl) (Nat.le_of_ble_eq_true rfl) rfl (Or.inl ⟨_, rfl⟩) (Or.inl rfl) dX10_paperAt_22 (⟨rfl, rfl⟩)
    · exact absurd (Int32.not_lt.mp c_1) c_2
set_option maxHeartbeats 4000000 in
set_option maxRecDepth 100000 in
theorem c_X10_adviceAt (l : Launch) (D : va_G) (cy : Nat → ClassId) (w : Wd) (x a0 a1 a2 a3 a4 a5 a6 a7 a8 a9 a10 a11 : Nat) (k : Int32) (hc : wd_at w x (.inr (10, [.ref a0, .ref a1, .ref a2, .ref a3, .ref a4, .ref a5, .ref a6, .ref a7, .ref a8, .ref a9, .ref a10, .ref a11, .int 0, .int 0, .int 0, .int 0, .int 0])))  : Ct l D cy yX10_adviceAt wsX10_adviceAt ({ frames := 0, cells := 0, slots := 0, locals := 0 }) [.ref x, .int k] w (fun v w1 => v = some .null ∧ w = w1) := by
  refine Ct.by (cc := cX10_adviceAt) (maxL := 2) (ret := (some (.object "NoteHouse$Advice"))) (by decide +kernel) rfl (Nat.le_of_ble_eq_true rfl) ?_
  intro p e s m args below meth c A Q F hnm K ls hl
  have F : wd_Fx p s m args meth c cX10_adviceAt 2 wsX10_adviceAt RX10 D cy A := F
  have hl : lv_has ls 2 [(0, .ref x), (1, .int k)] := hl
  have hx := F.1.1
  have hb := F.1.2.1
  have hown := F.1.2.2.2.1
  have hts := F.1.2.2.2.2
  intro H locs hP hD hS
  refine lv_iload_n hx hb dX10_adviceAt_0 rfl (lv_at hl 1 rfl) ?_
  refine lv_if_lt (tgt := 21) hx hb dX10_adviceAt_1 (by decide) (fun c_1 => ?_) (fun c_1 => ?_)
  · refine lv_null hx hb dX10_adviceAt_21 ?_
    exact y_ar K hP hD hS (Nat.le_of_ble_eq_true rfl) (Nat.le_of_ble_eq_true rfl) rfl (Or.inl ⟨_, rfl⟩) (Or.inl rfl) dX10_adviceAt_22 (⟨rfl, rfl⟩)
  · refine lv_iload_n hx hb dX10_adviceAt_4 rfl (lv_at hl 1 rfl) ?_
    refine lv_aload_n hx hb dX10_adviceAt_5 rfl (lv_at hl 0 rfl) ?_
    refine x_get (ref := "NoteHouse") F hP hc rfl (fun _ h => List.mem_cons_of_mem _ (List.mem_append_right _ (h))) 14 (Nat.le_of_ble_eq_true rfl) (List.mem_cons_of_mem _ (List.mem_append_left _ (List.mem_of_getElem? (i := 0) rfl))) rfl rfl dX10_adviceAt_6 ?_
    refine lv_icmp_ge (tgt := 21) hx hb dX10_adviceAt_9 (by decide) (fun c_2 => ?_) (fun c_2 => ?_)
    · refine lv_null hx hb dX10_adviceAt_21 ?_
      exact y_ar K hP hD hS (Nat.le_of_ble_eq_true rfl) (Nat.le_of_ble_eq_true rfl) rfl (Or.inl ⟨_, rfl⟩) (Or.inl rfl) dX10_adviceAt_22 (⟨rfl, rfl⟩)
    · exact absurd (Int32.not_lt.mp c_1) c_2
set_option maxHeartbeats 4000000 in
set_option maxRecDepth 100000 in
theorem c_X10_stopAt (l : Launch) (D : va_G) (cy : Nat → ClassId) (w : Wd) (x a0 a1 a2 a3 a4 a5 a6 a7 a8 a9 a10 a11 : Nat) (k : Int32) (hc : wd_at w x (.inr (10, [.ref a0, .ref a1, .ref a2, .ref a3, .ref a4, .ref a5, .ref a6, .ref a7, .ref a8, .ref a9, .ref a10, .ref a11, .int 0, .int 0, .int 0, .int 0, .int 0])))  : Ct l D cy yX10_stopAt wsX10_stopAt ({ frames := 0, cells := 0, slots := 0, locals := 0 }) [.ref x, .int k] w (fun v w1 => v = some .null ∧ w = w1) := by
  refine Ct.by (cc := cX10_stopAt) (maxL := 2) (ret := (some (.object "NoteHouse$Stop"))) (by decide +kernel) rfl (Nat.le_of_ble_eq_true rfl) ?_
  intro p e s m args below meth c A Q F hnm K ls hl
  have F : wd_Fx p s m args meth c cX10_stopAt 2 wsX10_stopAt RX10 D cy A := F
  have hl : lv_has ls 2 [(0, .ref x), (1, .int k)] := hl
  have hx := F.1.1
  have hb := F.1.2.1
  have hown := F.1.2.2.2.1
  have hts := F.1.2.2.2.2
  intro H locs hP hD hS
  refine lv_iload_n hx hb dX10_stopAt_0 rfl (lv_at hl 1 rfl) ?_
  refine lv_if_lt (tgt := 21) hx hb dX10_stopAt_1 (by decide) (fun c_1 => ?_) (fun c_1 => ?_)
  · refine lv_null hx hb dX10_stopAt_21 ?_
    exact y_ar K hP hD hS (Nat.le_of_ble_eq_true rfl) (Nat.le_of_ble_eq_true rfl) rfl (Or.inl ⟨_, rfl⟩) (Or.inl rfl) dX10_stopAt_22 (⟨rfl, rfl⟩)
  · refine lv_iload_n hx hb dX10_stopAt_4 rfl (lv_at hl 1 rfl) ?_
    refine lv_aload_n hx hb dX10_stopAt_5 rfl (lv_at hl 0 rfl) ?_
    refine x_get (ref := "NoteHouse") F hP hc rfl (fun _ h => List.mem_cons_of_mem _ (List.mem_append_right _ (h))) 15 (Nat.le_of_ble_eq_true rfl) (List.mem_cons_of_mem _ (List.mem_append_left _ (List.mem_of_getElem? (i := 0) rfl))) rfl rfl dX10_stopAt_6 ?_
    refine lv_icmp_ge (tgt := 21) hx hb dX10_stopAt_9 (by decide) (fun c_2 => ?_) (fun c_2 => ?_)
    · refine lv_null hx hb dX10_stopAt_21 ?_
      exact y_ar K hP hD hS (Nat.le_of_ble_eq_true rfl) (Nat.le_of_ble_eq_true rfl) rfl (Or.inl ⟨_, rfl⟩) (Or.inl rfl) dX10_stopAt_22 (⟨rfl, rfl⟩)
    · exact absurd (Int32.not_lt.mp c_1) c_2
set_option maxHeartbeats 4000000 in
set_option maxRecDepth 100000 in
theorem c_X10_shownAt (l : Launch) (D : va_G) (cy : Nat → ClassId) (w : Wd) (x a0 a1 a2 a3 a4 a5 a6 a7 a8 a9 a10 a11 : Nat) (k : Int32) (hc : wd_at w x (.inr (10, [.ref a0, .ref a1, .ref a2, .ref a3, .ref a4, .ref a5, .ref a6, .ref a7, .ref a8, .ref a9, .ref a10, .ref a11, .int 0, .int 0, .int 0, .int 0, .int 0])))  : Ct l D cy yX10_shownAt wsX10_shownAt ({ frames := 0, cells := 0, slots := 0, locals := 0 }) [.ref x, .int k] w (fun v w1 => v = some .null ∧ w = w1) := by
  refine Ct.by (cc := cX10_shownAt) (maxL := 2) (ret := (some (.object "NoteHouse$Shown"))) (by decide +kernel) rfl (Nat.le_of_ble_eq_true rfl) ?_
  intro p e s m args below meth c A Q F hnm K ls hl
  have F : wd_Fx p s m args meth c cX10_shownAt 2 wsX10_shownAt RX10 D cy A := F
  have hl : lv_has ls 2 [(0, .ref x), (1, .int k)] := hl
  have hx := F.1.1
  have hb := F.1.2.1
  have hown := F.1.2.2.2.1
  have hts := F.1.2.2.2.2
  intro H locs hP hD hS
  refine lv_iload_n hx hb dX10_shownAt_0 rfl (lv_at hl 1 rfl) ?_
  refine lv_if_lt (tgt := 21) hx hb dX10_shownAt_1 (by decide) (fun c_1 => ?_) (fun c_1 => ?_)
  · refine lv_null hx hb dX10_shownAt_21 ?_
    exact y_ar K hP hD hS (Nat.le_of_ble_eq_true rfl) (Nat.le_of_ble_eq_true rfl) rfl (Or.inl ⟨_, rfl⟩) (Or.inl rfl) dX10_shownAt_22 (⟨rfl, rfl⟩)
  · refine lv_iload_n hx hb dX10_shownAt_4 rfl (lv_at hl 1 rfl) ?_
    refine lv_aload_n hx hb dX10_shownAt_5 rfl (lv_at hl 0 rfl) ?_
    refine x_get (ref := "NoteHouse") F hP hc rfl (fun _ h => List.mem_cons_of_mem _ (List.mem_append_right _ (h))) 16 (Nat.le_of_ble_eq_true rfl) (List.mem_cons_of_mem _ (List.mem_append_left _ (List.mem_of_getElem? (i := 0) rfl))) rfl rfl dX10_shownAt_6 ?_
    refine lv_icmp_ge (tgt := 21) hx hb dX10_shownAt_9 (by decide) (fun c_2 => ?_) (fun c_2 => ?_)
    · refine lv_null hx hb dX10_shownAt_21 ?_
      exact y_ar K hP hD hS (Nat.le_of_ble_eq_true rfl) (Nat.le_of_ble_eq_true rfl) rfl (Or.inl ⟨_, rfl⟩) (Or.inl rfl) dX10_shownAt_22 (⟨rfl, rfl⟩)
    · exact absurd (Int32.not_lt.mp c_1) c_2
set_option maxHeartbeats 4000000 in
set_option maxRecDepth 100000 in
theorem c_X10_clock (l : Launch) (D : va_G) (cy : Nat → ClassId) (w : Wd) (x a0 a1 a2 a3 a4 a5 a6 a7 a8 a9 a10 a11 : Nat) (n : Int32) (hc : wd_at w x (.inr (10, [.ref a0, .ref a1, .ref a2, .ref a3, .ref a4, .ref a5, .ref a6, .ref a7, .ref a8, .ref a9, .ref a10, .ref a11, .int 0, .int 0, .int 0, .int 0, .int 0]))) (S : Nat → Prop) (sx : S x)  : Ct l D cy yX10_clock wsX10_clock ({ frames := 0, cells := 0, slots := 0, locals := 0 }) [.ref x, .int n] w (fun v w1 => v = some (.int (wi n 0 3000)) ∧ wd_kp S w w1) := by
  refine Ct.by (cc := cX10_clock) (maxL := 2) (ret := (some .boolean)) (by decide +kernel) rfl (Nat.le_of_ble_eq_true rfl) ?_
  intro p e s m args below meth c A Q F hnm K ls hl
  have F : wd_Fx p s m args meth c cX10_clock 2 wsX10_clock RX10 D cy A := F
  have hl : lv_has ls 2 [(0, .ref x), (1, .int n)] := hl
  have hx := F.1.1
  have hb := F.1.2.1
  have hown := F.1.2.2.2.1
  have hts := F.1.2.2.2.2
  intro H locs hP hD hS
  have kp0 : wd_kp S w w := wd_kp.rf
  refine lv_iload_n hx hb dX10_clock_0 rfl (lv_at hl 1 rfl) ?_
  refine lv_aload_n hx hb dX10_clock_1 rfl (lv_at hl 0 rfl) ?_
  refine x_get (ref := "NoteHouse") F hP hc rfl (fun _ h => List.mem_cons_of_mem _ (List.mem_append_right _ (h))) 12 (Nat.le_of_ble_eq_true rfl) (List.mem_cons_of_mem _ (List.mem_append_left _ (List.mem_of_getElem? (i := 0) rfl))) rfl rfl dX10_clock_2 ?_
  refine lv_icmp_lt (tgt := 15) hx hb dX10_clock_5 (by decide) (fun c_1 => ?_) (fun c_1 => ?_)
  · refine lv_iconst (v := 0) hx hb dX10_clock_15 (by decide) ?_
    exact y_ir K hP hD hS (Nat.le_of_ble_eq_true rfl) (Nat.le_of_ble_eq_true rfl) (ty := .boolean) rfl rfl dX10_clock_16 (⟨by simp [wi, c_1], kp0⟩)
  · refine lv_iload_n hx hb dX10_clock_8 rfl (lv_at hl 1 rfl) ?_
    refine lv_sipush (v := 3000) hx hb dX10_clock_9 (by decide) ?_
    refine lv_icmp_le (tgt := 17) hx hb dX10_clock_12 (by decide) (fun c_2 => ?_) (fun c_2 => ?_)
    · refine lv_aload_n hx hb dX10_clock_17 rfl (lv_at hl 0 rfl) ?_
      refine lv_iload_n hx hb dX10_clock_18 rfl (lv_at hl 1 rfl) ?_
      refine y_put (ref := "NoteHouse") F hP hD hS hc rfl (fun _ h => List.mem_cons_of_mem _ (List.mem_append_right _ (h))) tyX10_ok nmX10 12 (Nat.le_of_ble_eq_true rfl) (List.mem_cons_of_mem _ (List.mem_append_left _ (List.mem_of_getElem? (i := 0) rfl))) rfl rfl rfl rfl (Nat.le_of_ble_eq_true rfl) dX10_clock_19 (fun w3 ew4 H locs hP hD hS => ?_)
      have k5 : wd_at w3 x (.inr (10, [.ref a0, .ref a1, .ref a2, .ref a3, .ref a4, .ref a5, .ref a6, .ref a7, .ref a8, .ref a9, .ref a10, .ref a11, .int n, .int 0, .int 0, .int 0, .int 0])) := wd_at.ps ew4 hc
      have kp6 := kp0.put ew4 sx
      refine lv_iconst (v := 1) hx hb dX10_clock_22 (by decide) ?_
      exact y_ir K hP hD hS (Nat.le_of_ble_eq_true rfl) (Nat.le_of_ble_eq_true rfl) (ty := .boolean) rfl rfl dX10_clock_23 (⟨by simp [wi, c_1, c_2], kp6⟩)
    · refine lv_iconst (v := 0) hx hb dX10_clock_15 (by decide) ?_
      exact y_ir K hP hD hS (Nat.le_of_ble_eq_true rfl) (Nat.le_of_ble_eq_true rfl) (ty := .boolean) rfl rfl dX10_clock_16 (⟨by simp [wi, c_1, c_2], kp0⟩)
set_option maxHeartbeats 4000000 in
set_option maxRecDepth 100000 in
theorem c_X9_join (l : Launch) (D : va_G) (cy : Nat → ClassId) (w : Wd) (y b0 b1 b2 b3 : Nat) (f g : Nat → Int32) (a b u n : Int32) (hy : wd_at w y (.inr (9, [.ref b0, .ref b1, .ref b2, .ref b3]))) (h0 : wd_at w b0 (.inl (cy 2, 144, .inl f))) (h1 : wd_at w b1 (.inl (cy 2, 144, .inl g))) (S : Nat → Prop) (s0 : S b0) (s1 : S b1) (nb : b0 ≠ b1) (i1 : vp_in (a * 12 + b) 144) (i2 : vp_in (b * 12 + a) 144) : Ct l D cy yX9_join wsX9_join ({ frames := 0, cells := 0, slots := 0, locals := 0 }) [.ref y, .int a, .int b, .int u, .int n] w (fun v w1 => v = none ∧ wd_kp S w w1) := by
  refine Ct.by (cc := cX9_join) (maxL := 6) (ret := none) (by decide +kernel) rfl (Nat.le_of_ble_eq_true rfl) ?_
  intro p e s m args below meth c A Q F hnm K ls hl
  have F : wd_Fx p s m args meth c cX9_join 6 wsX9_join RX9 D cy A := F
  have hl : lv_has ls 6 [(0, .ref y), (1, .int a), (2, .int b), (3, .int u), (4, .int n)] := hl
  have hx := F.1.1
  have hb := F.1.2.1
  have hown := F.1.2.2.2.1
  have hts := F.1.2.2.2.2
  intro H locs hP hD hS
  have kp0 : wd_kp S w w := wd_kp.rf
  refine lv_iload_n hx hb dX9_join_0 rfl (lv_at hl 3 rfl) ?_
  refine lv_if_eq (tgt := 11) hx hb dX9_join_1 (by decide) (fun c_1 => ?_) (fun c_1 => ?_)
  · refine lv_aload_n hx hb dX9_join_11 rfl (lv_at hl 0 rfl) ?_
    refine x_get (ref := "NoteHouse$Ways") F hP hy rfl (fun _ h => List.mem_cons_of_mem _ (List.mem_append_right _ (h))) 0 (Nat.le_of_ble_eq_true rfl) (List.mem_cons_of_mem _ (List.mem_append_left _ (List.mem_of_getElem? (i := 1) rfl))) rfl rfl dX9_join_12 ?_
    refine lv_astore (lv' := [(5, .ref b0), (0, .ref y), (1, .int a), (2, .int b), (3, .int u), (4, .int n)]) hx hb dX9_join_15 hl (by decide) rfl (fun ls hl => ?_)
    refine lv_aload hx hb dX9_join_17 (lv_at hl 0 rfl) ?_
    refine lv_iload_n hx hb dX9_join_19 rfl (lv_at hl 2 rfl) ?_
    refine lv_bipush (v := 12) hx hb dX9_join_20 (by decide) ?_
    refine lv_imul hx hb dX9_join_22 ?_
    refine lv_iload_n hx hb dX9_join_23 rfl (lv_at hl 3 rfl) ?_
    refine lv_iadd hx hb dX9_join_24 ?_
    refine lv_iload hx hb dX9_join_25 (lv_at hl 5 rfl) ?_
    refine y_iast F hP hD hS h0 i1 dX9_join_27 (fun w2 ew3 H locs hP hD hS => ?_)
    have k4 := wd_at.pt ew3 hy (wd_nk hy h0 rfl)
    have k5 : wd_at w2 b0 (.inl (cy 2, 144, .inl (upd f ((a * 12) + b).toNatClampNeg n))) := wd_at.ps ew3 h0
    have k6 := wd_at.pt ew3 h1 (Ne.symm nb)
    have kp7 := kp0.put ew3 s0
    refine lv_aload hx hb dX9_join_28 (lv_at hl 0 rfl) ?_
    refine lv_iload_n hx hb dX9_join_30 rfl (lv_at hl 3 rfl) ?_
    refine lv_bipush (v := 12) hx hb dX9_join_31 (by decide) ?_
    refine lv_imul hx hb dX9_join_33 ?_
    refine lv_iload_n hx hb dX9_join_34 rfl (lv_at hl 2 rfl) ?_
    refine lv_iadd hx hb dX9_join_35 ?_
    refine lv_iload hx hb dX9_join_36 (lv_at hl 5 rfl) ?_
    refine y_iast F hP hD hS k5 i2 dX9_join_38 (fun w8 ew9 H locs hP hD hS => ?_)
    have k10 := wd_at.pt ew9 k4 (wd_nk k4 k5 rfl)
    have k11 : wd_at w8 b0 (.inl (cy 2, 144, .inl (upd (upd f ((a * 12) + b).toNatClampNeg n) ((b * 12) + a).toNatClampNeg n))) := wd_at.ps ew9 k5
    have k12 := wd_at.pt ew9 k6 (Ne.symm nb)
    have kp13 := kp7.put ew9 s0
    exact y_vr K hP hD hS (Nat.le_of_ble_eq_true rfl) (Nat.le_of_ble_eq_true rfl) rfl dX9_join_39 (⟨rfl, kp13⟩)
  · refine lv_aload_n hx hb dX9_join_4 rfl (lv_at hl 0 rfl) ?_
    refine x_get (ref := "NoteHouse$Ways") F hP hy rfl (fun _ h => List.mem_cons_of_mem _ (List.mem_append_right _ (h))) 1 (Nat.le_of_ble_eq_true rfl) (List.mem_cons_of_mem _ (List.mem_append_left _ (List.mem_of_getElem? (i := 0) rfl))) rfl rfl dX9_join_5 ?_
    refine lv_goto (tgt := 15) hx hb dX9_join_8 (by decide) ?_
    refine lv_astore (lv' := [(5, .ref b1), (0, .ref y), (1, .int a), (2, .int b), (3, .int u), (4, .int n)]) hx hb dX9_join_15 hl (by decide) rfl (fun ls hl => ?_)
    refine lv_aload hx hb dX9_join_17 (lv_at hl 0 rfl) ?_
    refine lv_iload_n hx hb dX9_join_19 rfl (lv_at hl 2 rfl) ?_
    refine lv_bipush (v := 12) hx hb dX9_join_20 (by decide) ?_
    refine lv_imul hx hb dX9_join_22 ?_
    refine lv_iload_n hx hb dX9_join_23 rfl (lv_at hl 3 rfl) ?_
    refine lv_iadd hx hb dX9_join_24 ?_
    refine lv_iload hx hb dX9_join_25 (lv_at hl 5 rfl) ?_
    refine y_iast F hP hD hS h1 i1 dX9_join_27 (fun w14 ew15 H locs hP hD hS => ?_)
    have k16 := wd_at.pt ew15 hy (wd_nk hy h1 rfl)
    have k17 := wd_at.pt ew15 h0 nb
    have k18 : wd_at w14 b1 (.inl (cy 2, 144, .inl (upd g ((a * 12) + b).toNatClampNeg n))) := wd_at.ps ew15 h1
    have kp19 := kp0.put ew15 s1
    refine lv_aload hx hb dX9_join_28 (lv_at hl 0 rfl) ?_
    refine lv_iload_n hx hb dX9_join_30 rfl (lv_at hl 3 rfl) ?_
    refine lv_bipush (v := 12) hx hb dX9_join_31 (by decide) ?_
    refine lv_imul hx hb dX9_join_33 ?_
    refine lv_iload_n hx hb dX9_join_34 rfl (lv_at hl 2 rfl) ?_
    refine lv_iadd hx hb dX9_join_35 ?_
    refine lv_iload hx hb dX9_join_36 (lv_at hl 5 rfl) ?_
    refine y_iast F hP hD hS k18 i2 dX9_join_38 (fun w20 ew21 H locs hP hD hS => ?_)
    have k22 := wd_at.pt ew21 k16 (wd_nk k16 k18 rfl)
    have k23 := wd_at.pt ew21 k17 nb
    have k24 : wd_at w20 b1 (.inl (cy 2, 144, .inl (upd (upd g ((a * 12) + b).toNatClampNeg n) ((b * 12) + a).toNatClampNeg n))) := wd_at.ps ew21 k18
    have kp25 := kp19.put ew21 s1
    exact y_vr K hP hD hS (Nat.le_of_ble_eq_true rfl) (Nat.le_of_ble_eq_true rfl) rfl dX9_join_39 (⟨rfl, kp25⟩)
set_option maxHeartbeats 4000000 in
set_option maxRecDepth 100000 in
theorem c_X10_way (l : Launch) (D : va_G) (cy : Nat → ClassId) (w : Wd) (x a0 a1 a2 a3 a4 a5 a6 a7 a8 a9 a10 a11 : Nat) (b0 b1 b2 b3 : Nat) (f g : Nat → Int32) (a b u n : Int32) (hc : wd_at w x (.inr (10, [.ref a0, .ref a1, .ref a2, .ref a3, .ref a4, .ref a5, .ref a6, .ref a7, .ref a8, .ref a9, .ref a10, .ref a11, .int 0, .int 0, .int 0, .int 0, .int 0]))) (hy : wd_at w a0 (.inr (9, [.ref b0, .ref b1, .ref b2, .ref b3]))) (h0 : wd_at w b0 (.inl (cy 2, 144, .inl f))) (h1 : wd_at w b1 (.inl (cy 2, 144, .inl g))) (S : Nat → Prop) (s0 : S b0) (s1 : S b1) (nb : b0 ≠ b1) : Ct l D cy yX10_way wsX10_way ({ frames := 2, cells := 0, slots := 0, locals := 42 }) [.ref x, .int a, .int b, .int u, .int n] w (fun v w1 => v = some (.int (sp_way a b n)) ∧ wd_kp S w w1) := by
  refine Ct.by (cc := cX10_way) (maxL := 5) (ret := (some .boolean)) (by decide +kernel) rfl (Nat.le_of_ble_eq_true rfl) ?_
  intro p e s m args below meth c A Q F hnm K ls hl
  have F : wd_Fx p s m args meth c cX10_way 5 wsX10_way RX10 D cy A := F
  have hl : lv_has ls 5 [(0, .ref x), (1, .int a), (2, .int b), (3, .int u), (4, .int n)] := hl
  have hx := F.1.1
  have hb := F.1.2.1
  have hown := F.1.2.2.2.1
  have hts := F.1.2.2.2.2
  intro H locs hP hD hS
  have kp0 : wd_kp S w w := wd_kp.rf
  refine lv_iload_n hx hb dX10_way_0 rfl (lv_at hl 1 rfl) ?_
  refine x_callS (As := [.int a]) (rest := []) F hP hD hS (c_X10_isTown l D cy w a) gX10_way_X10_isTown rfl (by decide +kernel) ⟨(Nat.le_of_ble_eq_true rfl), (Nat.le_of_ble_eq_true rfl)⟩ rfl hl.1 (Nat.le_of_ble_eq_true rfl) dX10_way_1 rfl ⟨(Nat.le_of_ble_eq_true rfl), (Nat.le_of_ble_eq_true rfl)⟩ (fun v2 w3 hp1 H locs hP hD hS => ?_)
  obtain ⟨rfl, rfl⟩ := hp1
  refine W.eq (g2 := F0 m 4 ls [.int (wi a 0 11)]) rfl (W.widen (k := 0) (n := 0) (Nat.le_of_ble_eq_true rfl) (Nat.le_of_ble_eq_true rfl) ?_)
  refine lv_if_eq (tgt := 30) hx hb dX10_way_4 (by decide) (fun c_1 => ?_) (fun c_1 => ?_)
  · refine lv_iconst (v := 0) hx hb dX10_way_30 (by decide) ?_
    exact y_ir K hP hD hS (Nat.le_of_ble_eq_true rfl) (Nat.le_of_ble_eq_true rfl) (ty := .boolean) rfl rfl dX10_way_31 (⟨by simp [sp_way, c_1], kp0⟩)
  · refine lv_iload_n hx hb dX10_way_7 rfl (lv_at hl 2 rfl) ?_
    refine x_callS (As := [.int b]) (rest := []) F hP hD hS (c_X10_isTown l D cy w b) gX10_way_X10_isTown rfl (by decide +kernel) ⟨(Nat.le_of_ble_eq_true rfl), (Nat.le_of_ble_eq_true rfl)⟩ rfl hl.1 (Nat.le_of_ble_eq_true rfl) dX10_way_8 rfl ⟨(Nat.le_of_ble_eq_true rfl), (Nat.le_of_ble_eq_true rfl)⟩ (fun v5 w6 hp4 H locs hP hD hS => ?_)
    obtain ⟨rfl, rfl⟩ := hp4
    refine W.eq (g2 := F0 m 11 ls [.int (wi b 0 11)]) rfl (W.widen (k := 0) (n := 0) (Nat.le_of_ble_eq_true rfl) (Nat.le_of_ble_eq_true rfl) ?_)
    refine lv_if_eq (tgt := 30) hx hb dX10_way_11 (by decide) (fun c_2 => ?_) (fun c_2 => ?_)
    · refine lv_iconst (v := 0) hx hb dX10_way_30 (by decide) ?_
      exact y_ir K hP hD hS (Nat.le_of_ble_eq_true rfl) (Nat.le_of_ble_eq_true rfl) (ty := .boolean) rfl rfl dX10_way_31 (⟨by simp [sp_way, c_1, c_2], kp0⟩)
    · refine lv_iload_n hx hb dX10_way_14 rfl (lv_at hl 1 rfl) ?_
      refine lv_iload_n hx hb dX10_way_15 rfl (lv_at hl 2 rfl) ?_
      refine lv_icmp_eq (tgt := 30) hx hb dX10_way_16 (by decide) (fun c_7 => ?_) (fun c_7 => ?_)
      · refine lv_iconst (v := 0) hx hb dX10_way_30 (by decide) ?_
        exact y_ir K hP hD hS (Nat.le_of_ble_eq_true rfl) (Nat.le_of_ble_eq_true rfl) (ty := .boolean) rfl rfl dX10_way_31 (⟨by simp [sp_way, c_1, c_2, c_7], kp0⟩)
      · refine lv_iload hx hb dX10_way_19 (lv_at hl 4 rfl) ?_
        refine lv_iconst (v := 0) hx hb dX10_way_21 (by decide) ?_
        refine lv_bipush (v := 99) hx hb dX10_way_22 (by decide) ?_
        refine x_callS (As := [.int n, .int 0, .int 99]) (rest := []) F hP hD hS (c_X10_isWithin l D cy w n 0 99) gX10_way_X10_isWithin rfl (by decide +kernel) ⟨(Nat.le_of_ble_eq_true rfl), (Nat.le_of_ble_eq_true rfl)⟩ rfl hl.1 (Nat.le_of_ble_eq_true rfl) dX10_way_24 rfl ⟨(Nat.le_of_ble_eq_true rfl), (Nat.le_of_ble_eq_true rfl)⟩ (fun v9 w10 hp8 H locs hP hD hS => ?_)
        obtain ⟨rfl, rfl⟩ := hp8
        refine W.eq (g2 := F0 m 27 ls [.int (wi n 0 99)]) rfl (W.widen (k := 0) (n := 0) (Nat.le_of_ble_eq_true rfl) (Nat.le_of_ble_eq_true rfl) ?_)
        refine lv_if_ne (tgt := 32) hx hb dX10_way_27 (by decide) (fun c_11 => ?_) (fun c_11 => ?_)
        · refine lv_aload_n hx hb dX10_way_32 rfl (lv_at hl 0 rfl) ?_
          refine x_get (ref := "NoteHouse") F hP hc rfl (fun _ h => List.mem_cons_of_mem _ (List.mem_append_left _ (List.mem_append_right _ (h)))) 0 (Nat.le_of_ble_eq_true rfl) (List.mem_cons_of_mem _ (List.mem_append_left _ (List.mem_append_left _ (List.mem_of_getElem? (i := 0) rfl)))) rfl rfl dX10_way_33 ?_
          refine lv_iload_n hx hb dX10_way_36 rfl (lv_at hl 1 rfl) ?_
          refine lv_iload_n hx hb dX10_way_37 rfl (lv_at hl 2 rfl) ?_
          refine lv_iload_n hx hb dX10_way_38 rfl (lv_at hl 3 rfl) ?_
          refine lv_iload hx hb dX10_way_39 (lv_at hl 4 rfl) ?_
          refine x_callV (As := [.int a, .int b, .int u, .int n]) (rest := []) F hP hD hS (c_X9_join l D cy w a0 b0 b1 b2 b3 f g a b u n hy h0 h1 (fun b => b = b0 ∨ b = b1) (Or.inl rfl) (Or.inr rfl) nb (wi_2 c_1 c_2) (wi_2 c_2 c_1)) gX10_way_X9_join rfl rfl (by decide +kernel) ⟨(Nat.le_of_ble_eq_true rfl), (Nat.le_of_ble_eq_true rfl)⟩ rfl hl.1 (Nat.le_of_ble_eq_true rfl) hy rfl dX10_way_41 rfl ⟨(Nat.le_of_ble_eq_true rfl), (Nat.le_of_ble_eq_true rfl)⟩ (fun v13 w14 hp12 H locs hP hD hS => ?_)
          obtain ⟨rfl, hp12⟩ := hp12
          have k15 := hp12.2 _ _ hc (fun q => Or.elim q (wd_nk hc h0 rfl) (fun q : x = b1 => (wd_nk hc h1 rfl) q))
          have k16 := hp12.2 _ _ hy (fun q => Or.elim q (wd_nk hy h0 rfl) (fun q : a0 = b1 => (wd_nk hy h1 rfl) q))
          have kp17 := kp0.tr hp12 (fun b hm q => (fun q => Or.elim q (fun q => q ▸ s0) (fun q => q ▸ s1)) q)
          refine W.eq (g2 := F0 m 44 ls []) rfl (W.widen (k := 0) (n := 0) (Nat.le_of_ble_eq_true rfl) (Nat.le_of_ble_eq_true rfl) ?_)
          refine lv_iconst (v := 1) hx hb dX10_way_44 (by decide) ?_
          exact y_ir K hP hD hS (Nat.le_of_ble_eq_true rfl) (Nat.le_of_ble_eq_true rfl) (ty := .boolean) rfl rfl dX10_way_45 (⟨by simp [sp_way, c_1, c_2, c_7, c_11], kp17⟩)
        · refine lv_iconst (v := 0) hx hb dX10_way_30 (by decide) ?_
          exact y_ir K hP hD hS (Nat.le_of_ble_eq_true rfl) (Nat.le_of_ble_eq_true rfl) (ty := .boolean) rfl rfl dX10_way_31 (⟨by simp [sp_way, c_1, c_2, c_7, c_11], kp0⟩)
