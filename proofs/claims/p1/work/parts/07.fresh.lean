/-! ===== what the methods answer on a fresh house ===== -/
def wi (n lo hi : Int32) : Int32 := if n < lo then 0 else if n ≤ hi then 1 else 0
theorem wi_b (n lo hi : Int32) : narrow .boolean (.int (wi n lo hi)) = .int (wi n lo hi) := by unfold wi; split; exact rfl; split <;> exact rfl
theorem wi_n {n lo hi : Int32} (h : ¬ wi n lo hi = 0) : ¬ n < lo ∧ n ≤ hi := by
  unfold wi at h
  by_cases h1 : n < lo
  · rw [if_pos h1] at h; exact absurd rfl h
  · rw [if_neg h1] at h
    by_cases h2 : n ≤ hi
    · exact ⟨h1, h2⟩
    · rw [if_neg h2] at h; exact absurd rfl h
theorem wi_t {n : Int32} (h : ¬ wi n 0 11 = 0) : ∃ j : Nat, j < 12 ∧ n = nI j ∧ n.toNatClampNeg = j := by
  obtain ⟨h1, h2⟩ := wi_n h
  obtain ⟨j, hj, rfl⟩ := nI_of2 (M := 11) (n := 11) (by decide) h1 h2
  exact ⟨j, by omega, rfl, nI_clamp (by omega)⟩
theorem wi_2 {a b : Int32} (ha : ¬ wi a 0 11 = 0) (hb : ¬ wi b 0 11 = 0) : vp_in (a * 12 + b) 144 := by
  obtain ⟨i, hi, rfl, -⟩ := wi_t ha
  obtain ⟨j, hj, rfl, -⟩ := wi_t hb
  rw [show (12 : Int32) = nI 12 from rfl, pk_mul, nI_add]
  exact vp_in_nI (by omega) (by decide)
def sp_way (a b d : Int32) : Int32 := if wi a 0 11 = 0 then 0 else if wi b 0 11 = 0 then 0 else if a = b then 0 else if wi d 0 99 = 0 then 0 else 1
def sp_rate (t c r : Int32) : Int32 := if wi t 0 11 = 0 then 0 else if wi c 0 3 = 0 then 0 else if wi r 1 100000 = 0 then 0 else 1
def sp_add (h g : Int32) : Int32 := if wi h 0 99999 = 0 then (-1) else if wi g 1 2000 = 0 then (-1) else 0
def sp_book (n w h g : Int32) : Int32 := if wi n 1 20 = 0 then (-1) else if wi w 1 10000 = 0 then (-1) else sp_add h g
def sp_credit (n h g : Int32) : Int32 := if wi n 1 100000 = 0 then (-1) else sp_add h g
def sp_end (n : Int32) : Int32 := if n < 0 then (-1) else if n ≤ 0 then n else (-1)
def sp_text (t : Int32) : Int32 := if wi t 0 11 = 0 then (-1) else 0
def sp_send (t c : Int32) : Int32 := if wi t 0 11 = 0 then (-1) else if t = 0 then (-1) else if wi c 1 1000000 = 0 then (-1) else c
def sp_settle (k : Int32) : Int32 := if wi k 0 3000 = 0 then (-1) else 0
def sp_count (k : Int32) : Int32 := if ¬ wi k 10 21 = 0 then 0 else if k = 30 then 1 else if k = 31 then 1 else if k = 32 then 0 else if k = 33 then 2 else if k = 34 then 10 else if k = 0 then 0 else if k = 1 then 0 else if k = 2 then 0 else if k = 3 then 0 else if k = 4 then 0 else if k = 5 then 0 else if k = 6 then 0 else (-1)
set_option maxHeartbeats 4000000 in
set_option maxRecDepth 100000 in
theorem c_X10_isWithin (l : Launch) (D : va_G) (cy : Nat → ClassId) (w : Wd) (n lo hi : Int32)    : Ct l D cy yX10_isWithin wsX10_isWithin ({ frames := 0, cells := 0, slots := 0, locals := 0 }) [.int n, .int lo, .int hi] w (fun v w1 => v = some (.int (wi n lo hi)) ∧ w = w1) := by
  refine Ct.by (cc := cX10_isWithin) (maxL := 3) (ret := (some .boolean)) (by decide +kernel) rfl (Nat.le_of_ble_eq_true rfl) ?_
  intro p e s m args below meth c A Q F hnm K ls hl
  have F : wd_Fx p s m args meth c cX10_isWithin 3 wsX10_isWithin RX10 D cy A := F
  have hl : lv_has ls 3 [(0, .int n), (1, .int lo), (2, .int hi)] := hl
  have hx := F.1.1
  have hb := F.1.2.1
  have hown := F.1.2.2.2.1
  have hts := F.1.2.2.2.2
  intro H locs hP hD hS
  refine lv_iload_n hx hb dX10_isWithin_0 rfl (lv_at hl 0 rfl) ?_
  refine lv_iload_n hx hb dX10_isWithin_1 rfl (lv_at hl 1 rfl) ?_
  refine lv_icmp_lt (tgt := 14) hx hb dX10_isWithin_2 (by decide) (fun c_1 => ?_) (fun c_1 => ?_)
  · refine lv_iconst (v := 0) hx hb dX10_isWithin_14 (by decide) ?_
    exact y_ir K hP hD hS (Nat.le_of_ble_eq_true rfl) (Nat.le_of_ble_eq_true rfl) (ty := .boolean) rfl rfl dX10_isWithin_15 (⟨by simp [wi, c_1], rfl⟩)
  · refine lv_iload_n hx hb dX10_isWithin_5 rfl (lv_at hl 0 rfl) ?_
    refine lv_iload_n hx hb dX10_isWithin_6 rfl (lv_at hl 2 rfl) ?_
    refine lv_icmp_gt (tgt := 14) hx hb dX10_isWithin_7 (by decide) (fun c_2 => ?_) (fun c_2 => ?_)
    · refine lv_iconst (v := 0) hx hb dX10_isWithin_14 (by decide) ?_
      exact y_ir K hP hD hS (Nat.le_of_ble_eq_true rfl) (Nat.le_of_ble_eq_true rfl) (ty := .boolean) rfl rfl dX10_isWithin_15 (⟨by simp [wi, c_1, c_2], rfl⟩)
    · refine lv_iconst (v := 1) hx hb dX10_isWithin_10 (by decide) ?_
      refine lv_goto (tgt := 15) hx hb dX10_isWithin_11 (by decide) ?_
      exact y_ir K hP hD hS (Nat.le_of_ble_eq_true rfl) (Nat.le_of_ble_eq_true rfl) (ty := .boolean) rfl rfl dX10_isWithin_15 (⟨by simp [wi, c_1, c_2], rfl⟩)
set_option maxHeartbeats 4000000 in
set_option maxRecDepth 100000 in
theorem c_X11_in (l : Launch) (D : va_G) (cy : Nat → ClassId) (w : Wd) (n lo hi : Int32)    : Ct l D cy yX11_in wsX11_in ({ frames := 0, cells := 0, slots := 0, locals := 0 }) [.int n, .int lo, .int hi] w (fun v w1 => v = some (.int (wi n lo hi)) ∧ w = w1) := by
  refine Ct.by (cc := cX11_in) (maxL := 3) (ret := (some .boolean)) (by decide +kernel) rfl (Nat.le_of_ble_eq_true rfl) ?_
  intro p e s m args below meth c A Q F hnm K ls hl
  have F : wd_Fx p s m args meth c cX11_in 3 wsX11_in RX11 D cy A := F
  have hl : lv_has ls 3 [(0, .int n), (1, .int lo), (2, .int hi)] := hl
  have hx := F.1.1
  have hb := F.1.2.1
  have hown := F.1.2.2.2.1
  have hts := F.1.2.2.2.2
  intro H locs hP hD hS
  refine lv_iload_n hx hb dX11_in_0 rfl (lv_at hl 0 rfl) ?_
  refine lv_iload_n hx hb dX11_in_1 rfl (lv_at hl 1 rfl) ?_
  refine lv_icmp_lt (tgt := 14) hx hb dX11_in_2 (by decide) (fun c_1 => ?_) (fun c_1 => ?_)
  · refine lv_iconst (v := 0) hx hb dX11_in_14 (by decide) ?_
    exact y_ir K hP hD hS (Nat.le_of_ble_eq_true rfl) (Nat.le_of_ble_eq_true rfl) (ty := .boolean) rfl rfl dX11_in_15 (⟨by simp [wi, c_1], rfl⟩)
  · refine lv_iload_n hx hb dX11_in_5 rfl (lv_at hl 0 rfl) ?_
    refine lv_iload_n hx hb dX11_in_6 rfl (lv_at hl 2 rfl) ?_
    refine lv_icmp_gt (tgt := 14) hx hb dX11_in_7 (by decide) (fun c_2 => ?_) (fun c_2 => ?_)
    · refine lv_iconst (v := 0) hx hb dX11_in_14 (by decide) ?_
      exact y_ir K hP hD hS (Nat.le_of_ble_eq_true rfl) (Nat.le_of_ble_eq_true rfl) (ty := .boolean) rfl rfl dX11_in_15 (⟨by simp [wi, c_1, c_2], rfl⟩)
    · refine lv_iconst (v := 1) hx hb dX11_in_10 (by decide) ?_
      refine lv_goto (tgt := 15) hx hb dX11_in_11 (by decide) ?_
      exact y_ir K hP hD hS (Nat.le_of_ble_eq_true rfl) (Nat.le_of_ble_eq_true rfl) (ty := .boolean) rfl rfl dX11_in_15 (⟨by simp [wi, c_1, c_2], rfl⟩)
set_option maxHeartbeats 4000000 in
set_option maxRecDepth 100000 in
theorem c_X10_isTown (l : Launch) (D : va_G) (cy : Nat → ClassId) (w : Wd) (n : Int32)    : Ct l D cy yX10_isTown wsX10_isTown ({ frames := 1, cells := 0, slots := 0, locals := 22 }) [.int n] w (fun v w1 => v = some (.int (wi n 0 11)) ∧ w = w1) := by
  refine Ct.by (cc := cX10_isTown) (maxL := 1) (ret := (some .boolean)) (by decide +kernel) rfl (Nat.le_of_ble_eq_true rfl) ?_
  intro p e s m args below meth c A Q F hnm K ls hl
  have F : wd_Fx p s m args meth c cX10_isTown 1 wsX10_isTown RX10 D cy A := F
  have hl : lv_has ls 1 [(0, .int n)] := hl
  have hx := F.1.1
  have hb := F.1.2.1
  have hown := F.1.2.2.2.1
  have hts := F.1.2.2.2.2
  intro H locs hP hD hS
  refine lv_iload_n hx hb dX10_isTown_0 rfl (lv_at hl 0 rfl) ?_
  refine lv_iconst (v := 0) hx hb dX10_isTown_1 (by decide) ?_
  refine lv_bipush (v := 11) hx hb dX10_isTown_2 (by decide) ?_
  refine x_callS (n := 3) (As := [.int n, .int 0, .int 11]) (rest := []) F hP hD hS (c_X10_isWithin l D cy w n 0 11) gX10_isTown_X10_isWithin rfl (by decide +kernel) ⟨(Nat.le_of_ble_eq_true rfl), (Nat.le_of_ble_eq_true rfl)⟩ rfl hl.1 (Nat.le_of_ble_eq_true rfl) dX10_isTown_4 rfl ⟨(Nat.le_of_ble_eq_true rfl), (Nat.le_of_ble_eq_true rfl)⟩ (fun v2 w3 hp1 H locs hP hD hS => ?_)
  obtain ⟨rfl, rfl⟩ := hp1
  refine W.eq (g2 := F0 m 7 ls [.int (wi n 0 11)]) rfl (W.widen (k := 0) (n := 0) (Nat.le_of_ble_eq_true rfl) (Nat.le_of_ble_eq_true rfl) ?_)
  exact y_ir K hP hD hS (Nat.le_of_ble_eq_true rfl) (Nat.le_of_ble_eq_true rfl) (ty := .boolean) rfl (wi_b _ _ _) dX10_isTown_7 (⟨rfl, rfl⟩)
set_option maxHeartbeats 4000000 in
set_option maxRecDepth 100000 in
theorem c_X10_isHand (l : Launch) (D : va_G) (cy : Nat → ClassId) (w : Wd) (n : Int32)    : Ct l D cy yX10_isHand wsX10_isHand ({ frames := 1, cells := 0, slots := 0, locals := 22 }) [.int n] w (fun v w1 => v = some (.int (wi n 0 99999)) ∧ w = w1) := by
  refine Ct.by (cc := cX10_isHand) (maxL := 1) (ret := (some .boolean)) (by decide +kernel) rfl (Nat.le_of_ble_eq_true rfl) ?_
  intro p e s m args below meth c A Q F hnm K ls hl
  have F : wd_Fx p s m args meth c cX10_isHand 1 wsX10_isHand RX10 D cy A := F
  have hl : lv_has ls 1 [(0, .int n)] := hl
  have hx := F.1.1
  have hb := F.1.2.1
  have hown := F.1.2.2.2.1
  have hts := F.1.2.2.2.2
  intro H locs hP hD hS
  refine lv_iload_n hx hb dX10_isHand_0 rfl (lv_at hl 0 rfl) ?_
  refine lv_iconst (v := 0) hx hb dX10_isHand_1 (by decide) ?_
  refine lv_ldcw (v := 99999) hx hb hown (hts _ (List.mem_cons_of_mem _ (List.mem_of_getElem? (i := 0) rfl))) dX10_isHand_2 ?_
  refine x_callS (n := 3) (As := [.int n, .int 0, .int 99999]) (rest := []) F hP hD hS (c_X10_isWithin l D cy w n 0 99999) gX10_isHand_X10_isWithin rfl (by decide +kernel) ⟨(Nat.le_of_ble_eq_true rfl), (Nat.le_of_ble_eq_true rfl)⟩ rfl hl.1 (Nat.le_of_ble_eq_true rfl) dX10_isHand_5 rfl ⟨(Nat.le_of_ble_eq_true rfl), (Nat.le_of_ble_eq_true rfl)⟩ (fun v2 w3 hp1 H locs hP hD hS => ?_)
  obtain ⟨rfl, rfl⟩ := hp1
  refine W.eq (g2 := F0 m 8 ls [.int (wi n 0 99999)]) rfl (W.widen (k := 0) (n := 0) (Nat.le_of_ble_eq_true rfl) (Nat.le_of_ble_eq_true rfl) ?_)
  exact y_ir K hP hD hS (Nat.le_of_ble_eq_true rfl) (Nat.le_of_ble_eq_true rfl) (ty := .boolean) rfl (wi_b _ _ _) dX10_isHand_8 (⟨rfl, rfl⟩)
set_option maxHeartbeats 4000000 in
set_option maxRecDepth 100000 in
theorem c_X10_paperAt (l : Launch) (D : va_G) (cy : Nat → ClassId) (w : Wd) (x a0 a1 a2 a3 a4 a5 a6 a7 a8 a9 a10 a11 : Nat) (k : Int32) (hc : wd_at w x (.inr (10, [.ref a0, .ref a1, .ref a2, .ref a3, .ref a4, .ref a5, .ref a6, .ref a7, .ref a8, .ref a9, .ref a10, .ref a11, .int 0, .int 0, .int 0, .int 0, .int 0])))   : Ct l D cy yX10_paperAt wsX10_paperAt ({ frames := 0, cells := 0, slots := 0, locals := 0 }) [.ref x, .int k] w (fun v w1 => v = some .null ∧ w = w1) := by
  refine Ct.by (cc := cX10_paperAt) (maxL := 2) (ret := (some (.object "NoteHouse$Paper"))) (by decide +kernel) rfl (Nat.le_of_ble_eq_true rfl) ?_
  intro p e s m args below meth c A Q F hnm K ls hl
  have F : wd_Fx p s m args meth c cX10_paperAt 2 wsX10_paperAt RX10 D cy A := F
  have hl : lv_has ls 2 [(0, .ref x), (1, .int k)] := hl
  have hx := F.1.1
  have hb := F.1.2.1
  have hown := F.1.2.2.2.1
  have hts := F.1.2.2.2.2
  intro H locs hP hD hS
  refine lv_iload_n hx hb dX10_paperAt_0 rfl (lv_at hl 1 rfl) ?_
  refine lv_if_lt (tgt := 21) hx hb dX10_paperAt_1 (by decide) (fun c_1 => ?_) (fun c_1 => ?_)
  · refine lv_null hx hb dX10_paperAt_21 ?_
    exact y_ar K hP hD hS (Nat.le_of_ble_eq_true rfl) (Nat.le_of_ble_eq_true rfl) rfl (Or.inl ⟨_, rfl⟩) (Or.inl rfl) dX10_paperAt_22 (⟨rfl, rfl⟩)
  · refine lv_iload_n hx hb dX10_paperAt_4 rfl (lv_at hl 1 rfl) ?_
    refine lv_aload_n hx hb dX10_paperAt_5 rfl (lv_at hl 0 rfl) ?_
    refine x_get (ref := "NoteHouse") F hP hc rfl (fun _ h => List.mem_cons_of_mem _ (List.mem_append_right _ (h))) 13 (Nat.le_of_ble_eq_true rfl) (List.mem_cons_of_mem _ (List.mem_append_left _ (List.mem_of_getElem? (i := 0) rfl))) rfl rfl dX10_paperAt_6 ?_
    refine lv_icmp_ge (tgt := 21) hx hb dX10_paperAt_9 (by decide) (fun c_2 => ?_) (fun c_2 => ?_)
    · refine lv_null hx hb dX10_paperAt_21 ?_
      exact y_ar K hP hD hS (Nat.le_of_ble_eq_true rfl) (Nat.le_of_ble_eq_true rfl) rfl (Or.inl ⟨_, rfl⟩) (Or.inl rfl) dX10_paperAt_22 (⟨rfl, rfl⟩)
    · exact absurd (Int32.not_lt.mp c_1) c_2
set_option maxHeartbeats 4000000 in
set_option maxRecDepth 100000 in
theorem c_X10_adviceAt (l : Launch) (D : va_G) (cy : Nat → ClassId) (w : Wd) (x a0 a1 a2 a3 a4 a5 a6 a7 a8 a9 a10 a11 : Nat) (k : Int32) (hc : wd_at w x (.inr (10, [.ref a0, .ref a1, .ref a2, .ref a3, .ref a4, .ref a5, .ref a6, .ref a7, .ref a8, .ref a9, .ref a10, .ref a11, .int 0, .int 0, .int 0, .int 0, .int 0])))   : Ct l D cy yX10_adviceAt wsX10_adviceAt ({ frames := 0, cells := 0, slots := 0, locals := 0 }) [.ref x, .int k] w (fun v w1 => v = some .null ∧ w = w1) := by
  refine Ct.by (cc := cX10_adviceAt) (maxL := 2) (ret := (some (.object "NoteHouse$Advice"))) (by decide +kernel) rfl (Nat.le_of_ble_eq_true rfl) ?_
  intro p e s m args below meth c A Q F hnm K ls hl
  have F : wd_Fx p s m args meth c cX10_adviceAt 2 wsX10_adviceAt RX10 D cy A := F
  have hl : lv_has ls 2 [(0, .ref x), (1, .int k)] := hl
  have hx := F.1.1
  have hb := F.1.2.1
  have hown := F.1.2.2.2.1
  have hts := F.1.2.2.2.2
  intro H locs hP hD hS
  refine lv_iload_n hx hb dX10_adviceAt_0 rfl (lv_at hl 1 rfl) ?_
  refine lv_if_lt (tgt := 21) hx hb dX10_adviceAt_1 (by decide) (fun c_1 => ?_) (fun c_1 => ?_)
  · refine lv_null hx hb dX10_adviceAt_21 ?_
    exact y_ar K hP hD hS (Nat.le_of_ble_eq_true rfl) (Nat.le_of_ble_eq_true rfl) rfl (Or.inl ⟨_, rfl⟩) (Or.inl rfl) dX10_adviceAt_22 (⟨rfl, rfl⟩)
  · refine lv_iload_n hx hb dX10_adviceAt_4 rfl (lv_at hl 1 rfl) ?_
    refine lv_aload_n hx hb dX10_adviceAt_5 rfl (lv_at hl 0 rfl) ?_
    refine x_get (ref := "NoteHouse") F hP hc rfl (fun _ h => List.mem_cons_of_mem _ (List.mem_append_right _ (h))) 14 (Nat.le_of_ble_eq_true rfl) (List.mem_cons_of_mem _ (List.mem_append_left _ (List.mem_of_getElem? (i := 0) rfl))) rfl rfl dX10_adviceAt_6 ?_
    refine lv_icmp_ge (tgt := 21) hx hb dX10_adviceAt_9 (by decide) (fun c_2 => ?_) (fun c_2 => ?_)
    · refine lv_null hx hb dX10_adviceAt_21 ?_
      exact y_ar K hP hD hS (Nat.le_of_ble_eq_true rfl) (Nat.le_of_ble_eq_true rfl) rfl (Or.inl ⟨_, rfl⟩) (Or.inl rfl) dX10_adviceAt_22 (⟨rfl, rfl⟩)
    · exact absurd (Int32.not_lt.mp c_1) c_2
set_option maxHeartbeats 4000000 in
set_option maxRecDepth 100000 in
theorem c_X10_stopAt (l : Launch) (D : va_G) (cy : Nat → ClassId) (w : Wd) (x a0 a1 a2 a3 a4 a5 a6 a7 a8 a9 a10 a11 : Nat) (k : Int32) (hc : wd_at w x (.inr (10, [.ref a0, .ref a1, .ref a2, .ref a3, .ref a4, .ref a5, .ref a6, .ref a7, .ref a8, .ref a9, .ref a10, .ref a11, .int 0, .int 0, .int 0, .int 0, .int 0])))   : Ct l D cy yX10_stopAt wsX10_stopAt ({ frames := 0, cells := 0, slots := 0, locals := 0 }) [.ref x, .int k] w (fun v w1 => v = some .null ∧ w = w1) := by
  refine Ct.by (cc := cX10_stopAt) (maxL := 2) (ret := (some (.object "NoteHouse$Stop"))) (by decide +kernel) rfl (Nat.le_of_ble_eq_true rfl) ?_
  intro p e s m args below meth c A Q F hnm K ls hl
  have F : wd_Fx p s m args meth c cX10_stopAt 2 wsX10_stopAt RX10 D cy A := F
  have hl : lv_has ls 2 [(0, .ref x), (1, .int k)] := hl
  have hx := F.1.1
  have hb := F.1.2.1
  have hown := F.1.2.2.2.1
  have hts := F.1.2.2.2.2
  intro H locs hP hD hS
  refine lv_iload_n hx hb dX10_stopAt_0 rfl (lv_at hl 1 rfl) ?_
  refine lv_if_lt (tgt := 21) hx hb dX10_stopAt_1 (by decide) (fun c_1 => ?_) (fun c_1 => ?_)
  · refine lv_null hx hb dX10_stopAt_21 ?_
    exact y_ar K hP hD hS (Nat.le_of_ble_eq_true rfl) (Nat.le_of_ble_eq_true rfl) rfl (Or.inl ⟨_, rfl⟩) (Or.inl rfl) dX10_stopAt_22 (⟨rfl, rfl⟩)
  · refine lv_iload_n hx hb dX10_stopAt_4 rfl (lv_at hl 1 rfl) ?_
    refine lv_aload_n hx hb dX10_stopAt_5 rfl (lv_at hl 0 rfl) ?_
    refine x_get (ref := "NoteHouse") F hP hc rfl (fun _ h => List.mem_cons_of_mem _ (List.mem_append_right _ (h))) 15 (Nat.le_of_ble_eq_true rfl) (List.mem_cons_of_mem _ (List.mem_append_left _ (List.mem_of_getElem? (i := 0) rfl))) rfl rfl dX10_stopAt_6 ?_
    refine lv_icmp_ge (tgt := 21) hx hb dX10_stopAt_9 (by decide) (fun c_2 => ?_) (fun c_2 => ?_)
    · refine lv_null hx hb dX10_stopAt_21 ?_
      exact y_ar K hP hD hS (Nat.le_of_ble_eq_true rfl) (Nat.le_of_ble_eq_true rfl) rfl (Or.inl ⟨_, rfl⟩) (Or.inl rfl) dX10_stopAt_22 (⟨rfl, rfl⟩)
    · exact absurd (Int32.not_lt.mp c_1) c_2
set_option maxHeartbeats 4000000 in
set_option maxRecDepth 100000 in
theorem c_X10_shownAt (l : Launch) (D : va_G) (cy : Nat → ClassId) (w : Wd) (x a0 a1 a2 a3 a4 a5 a6 a7 a8 a9 a10 a11 : Nat) (k : Int32) (hc : wd_at w x (.inr (10, [.ref a0, .ref a1, .ref a2, .ref a3, .ref a4, .ref a5, .ref a6, .ref a7, .ref a8, .ref a9, .ref a10, .ref a11, .int 0, .int 0, .int 0, .int 0, .int 0])))   : Ct l D cy yX10_shownAt wsX10_shownAt ({ frames := 0, cells := 0, slots := 0, locals := 0 }) [.ref x, .int k] w (fun v w1 => v = some .null ∧ w = w1) := by
  refine Ct.by (cc := cX10_shownAt) (maxL := 2) (ret := (some (.object "NoteHouse$Shown"))) (by decide +kernel) rfl (Nat.le_of_ble_eq_true rfl) ?_
  intro p e s m args below meth c A Q F hnm K ls hl
  have F : wd_Fx p s m args meth c cX10_shownAt 2 wsX10_shownAt RX10 D cy A := F
  have hl : lv_has ls 2 [(0, .ref x), (1, .int k)] := hl
  have hx := F.1.1
  have hb := F.1.2.1
  have hown := F.1.2.2.2.1
  have hts := F.1.2.2.2.2
  intro H locs hP hD hS
  refine lv_iload_n hx hb dX10_shownAt_0 rfl (lv_at hl 1 rfl) ?_
  refine lv_if_lt (tgt := 21) hx hb dX10_shownAt_1 (by decide) (fun c_1 => ?_) (fun c_1 => ?_)
  · refine lv_null hx hb dX10_shownAt_21 ?_
    exact y_ar K hP hD hS (Nat.le_of_ble_eq_true rfl) (Nat.le_of_ble_eq_true rfl) rfl (Or.inl ⟨_, rfl⟩) (Or.inl rfl) dX10_shownAt_22 (⟨rfl, rfl⟩)
  · refine lv_iload_n hx hb dX10_shownAt_4 rfl (lv_at hl 1 rfl) ?_
    refine lv_aload_n hx hb dX10_shownAt_5 rfl (lv_at hl 0 rfl) ?_
    refine x_get (ref := "NoteHouse") F hP hc rfl (fun _ h => List.mem_cons_of_mem _ (List.mem_append_right _ (h))) 16 (Nat.le_of_ble_eq_true rfl) (List.mem_cons_of_mem _ (List.mem_append_left _ (List.mem_of_getElem? (i := 0) rfl))) rfl rfl dX10_shownAt_6 ?_
    refine lv_icmp_ge (tgt := 21) hx hb dX10_shownAt_9 (by decide) (fun c_2 => ?_) (fun c_2 => ?_)
    · refine lv_null hx hb dX10_shownAt_21 ?_
      exact y_ar K hP hD hS (Nat.le_of_ble_eq_true rfl) (Nat.le_of_ble_eq_true rfl) rfl (Or.inl ⟨_, rfl⟩) (Or.inl rfl) dX10_shownAt_22 (⟨rfl, rfl⟩)
    · exact absurd (Int32.not_lt.mp c_1) c_2
set_option maxHeartbeats 4000000 in
set_option maxRecDepth 100000 in
theorem c_X10_clock (l : Launch) (D : va_G) (cy : Nat → ClassId) (w : Wd) (x a0 a1 a2 a3 a4 a5 a6 a7 a8 a9 a10 a11 : Nat) (n : Int32) (hc : wd_at w x (.inr (10, [.ref a0, .ref a1, .ref a2, .ref a3, .ref a4, .ref a5, .ref a6, .ref a7, .ref a8, .ref a9, .ref a10, .ref a11, .int 0, .int 0, .int 0, .int 0, .int 0])))  (S : Nat → Prop) (sx : S x)  : Ct l D cy yX10_clock wsX10_clock ({ frames := 0, cells := 0, slots := 0, locals := 0 }) [.ref x, .int n] w (fun v w1 => v = some (.int (wi n 0 3000)) ∧ wd_kp S w w1) := by
  refine Ct.by (cc := cX10_clock) (maxL := 2) (ret := (some .boolean)) (by decide +kernel) rfl (Nat.le_of_ble_eq_true rfl) ?_
  intro p e s m args below meth c A Q F hnm K ls hl
  have F : wd_Fx p s m args meth c cX10_clock 2 wsX10_clock RX10 D cy A := F
  have hl : lv_has ls 2 [(0, .ref x), (1, .int n)] := hl
  have hx := F.1.1
  have hb := F.1.2.1
  have hown := F.1.2.2.2.1
  have hts := F.1.2.2.2.2
  intro H locs hP hD hS
  have kp0 : wd_kp S w w := wd_kp.rf
  refine lv_iload_n hx hb dX10_clock_0 rfl (lv_at hl 1 rfl) ?_
  refine lv_aload_n hx hb dX10_clock_1 rfl (lv_at hl 0 rfl) ?_
  refine x_get (ref := "NoteHouse") F hP hc rfl (fun _ h => List.mem_cons_of_mem _ (List.mem_append_right _ (h))) 12 (Nat.le_of_ble_eq_true rfl) (List.mem_cons_of_mem _ (List.mem_append_left _ (List.mem_of_getElem? (i := 0) rfl))) rfl rfl dX10_clock_2 ?_
  refine lv_icmp_lt (tgt := 15) hx hb dX10_clock_5 (by decide) (fun c_1 => ?_) (fun c_1 => ?_)
  · refine lv_iconst (v := 0) hx hb dX10_clock_15 (by decide) ?_
    exact y_ir K hP hD hS (Nat.le_of_ble_eq_true rfl) (Nat.le_of_ble_eq_true rfl) (ty := .boolean) rfl rfl dX10_clock_16 (⟨by simp [wi, c_1], kp0⟩)
  · refine lv_iload_n hx hb dX10_clock_8 rfl (lv_at hl 1 rfl) ?_
    refine lv_sipush (v := 3000) hx hb dX10_clock_9 (by decide) ?_
    refine lv_icmp_le (tgt := 17) hx hb dX10_clock_12 (by decide) (fun c_2 => ?_) (fun c_2 => ?_)
    · refine lv_aload_n hx hb dX10_clock_17 rfl (lv_at hl 0 rfl) ?_
      refine lv_iload_n hx hb dX10_clock_18 rfl (lv_at hl 1 rfl) ?_
      refine y_put (ref := "NoteHouse") F hP hD hS hc rfl (fun _ h => List.mem_cons_of_mem _ (List.mem_append_right _ (h))) tyX10_ok nmX10 12 (Nat.le_of_ble_eq_true rfl) (List.mem_cons_of_mem _ (List.mem_append_left _ (List.mem_of_getElem? (i := 0) rfl))) rfl rfl rfl rfl (Nat.le_of_ble_eq_true rfl) dX10_clock_19 (fun w3 ew4 H locs hP hD hS => ?_)
      have k5 : wd_at w3 x (.inr (10, [.ref a0, .ref a1, .ref a2, .ref a3, .ref a4, .ref a5, .ref a6, .ref a7, .ref a8, .ref a9, .ref a10, .ref a11, .int n, .int 0, .int 0, .int 0, .int 0])) := wd_at.ps ew4 hc
      have kp6 := kp0.put ew4 sx
      refine lv_iconst (v := 1) hx hb dX10_clock_22 (by decide) ?_
      exact y_ir K hP hD hS (Nat.le_of_ble_eq_true rfl) (Nat.le_of_ble_eq_true rfl) (ty := .boolean) rfl rfl dX10_clock_23 (⟨by simp [wi, c_1, c_2], kp6⟩)
    · refine lv_iconst (v := 0) hx hb dX10_clock_15 (by decide) ?_
      exact y_ir K hP hD hS (Nat.le_of_ble_eq_true rfl) (Nat.le_of_ble_eq_true rfl) (ty := .boolean) rfl rfl dX10_clock_16 (⟨by simp [wi, c_1, c_2], kp0⟩)
set_option maxHeartbeats 4000000 in
set_option maxRecDepth 100000 in
theorem c_X9_join (l : Launch) (D : va_G) (cy : Nat → ClassId) (w : Wd) (y b0 b1 b2 b3 : Nat) (f g : Nat → Int32) (a b u n : Int32) (hy : wd_at w y (.inr (9, [.ref b0, .ref b1, .ref b2, .ref b3]))) (h0 : wd_at w b0 (.inl (cy 2, 144, .inl f))) (h1 : wd_at w b1 (.inl (cy 2, 144, .inl g)))  (S : Nat → Prop) (s0 : S b0) (s1 : S b1) (nb : b0 ≠ b1) (i1 : vp_in (a * 12 + b) 144) (i2 : vp_in (b * 12 + a) 144) : Ct l D cy yX9_join wsX9_join ({ frames := 0, cells := 0, slots := 0, locals := 0 }) [.ref y, .int a, .int b, .int u, .int n] w (fun v w1 => v = none ∧ wd_kp S w w1) := by
  refine Ct.by (cc := cX9_join) (maxL := 6) (ret := none) (by decide +kernel) rfl (Nat.le_of_ble_eq_true rfl) ?_
  intro p e s m args below meth c A Q F hnm K ls hl
  have F : wd_Fx p s m args meth c cX9_join 6 wsX9_join RX9 D cy A := F
  have hl : lv_has ls 6 [(0, .ref y), (1, .int a), (2, .int b), (3, .int u), (4, .int n)] := hl
  have hx := F.1.1
  have hb := F.1.2.1
  have hown := F.1.2.2.2.1
  have hts := F.1.2.2.2.2
  intro H locs hP hD hS
  have kp0 : wd_kp S w w := wd_kp.rf
  refine lv_iload_n hx hb dX9_join_0 rfl (lv_at hl 3 rfl) ?_
  refine lv_if_eq (tgt := 11) hx hb dX9_join_1 (by decide) (fun c_1 => ?_) (fun c_1 => ?_)
  · refine lv_aload_n hx hb dX9_join_11 rfl (lv_at hl 0 rfl) ?_
    refine x_get (ref := "NoteHouse$Ways") F hP hy rfl (fun _ h => List.mem_cons_of_mem _ (List.mem_append_right _ (h))) 0 (Nat.le_of_ble_eq_true rfl) (List.mem_cons_of_mem _ (List.mem_append_left _ (List.mem_of_getElem? (i := 1) rfl))) rfl rfl dX9_join_12 ?_
    refine lv_astore (lv' := [(5, .ref b0), (0, .ref y), (1, .int a), (2, .int b), (3, .int u), (4, .int n)]) hx hb dX9_join_15 hl (by decide) rfl (fun ls hl => ?_)
    refine lv_aload hx hb dX9_join_17 (lv_at hl 0 rfl) ?_
    refine lv_iload_n hx hb dX9_join_19 rfl (lv_at hl 2 rfl) ?_
    refine lv_bipush (v := 12) hx hb dX9_join_20 (by decide) ?_
    refine lv_imul hx hb dX9_join_22 ?_
    refine lv_iload_n hx hb dX9_join_23 rfl (lv_at hl 3 rfl) ?_
    refine lv_iadd hx hb dX9_join_24 ?_
    refine lv_iload hx hb dX9_join_25 (lv_at hl 5 rfl) ?_
    refine y_iast F hP hD hS h0 i1 dX9_join_27 (fun w2 ew3 H locs hP hD hS => ?_)
    have k4 := wd_at.pt ew3 hy (wd_nk hy h0 rfl)
    have k5 : wd_at w2 b0 (.inl (cy 2, 144, .inl (upd f ((a * 12) + b).toNatClampNeg n))) := wd_at.ps ew3 h0
    have k6 := wd_at.pt ew3 h1 (Ne.symm nb)
    have kp7 := kp0.put ew3 s0
    refine lv_aload hx hb dX9_join_28 (lv_at hl 0 rfl) ?_
    refine lv_iload_n hx hb dX9_join_30 rfl (lv_at hl 3 rfl) ?_
    refine lv_bipush (v := 12) hx hb dX9_join_31 (by decide) ?_
    refine lv_imul hx hb dX9_join_33 ?_
    refine lv_iload_n hx hb dX9_join_34 rfl (lv_at hl 2 rfl) ?_
    refine lv_iadd hx hb dX9_join_35 ?_
    refine lv_iload hx hb dX9_join_36 (lv_at hl 5 rfl) ?_
    refine y_iast F hP hD hS k5 i2 dX9_join_38 (fun w8 ew9 H locs hP hD hS => ?_)
    have k10 := wd_at.pt ew9 k4 (wd_nk k4 k5 rfl)
    have k11 : wd_at w8 b0 (.inl (cy 2, 144, .inl (upd (upd f ((a * 12) + b).toNatClampNeg n) ((b * 12) + a).toNatClampNeg n))) := wd_at.ps ew9 k5
    have k12 := wd_at.pt ew9 k6 (Ne.symm nb)
    have kp13 := kp7.put ew9 s0
    exact y_vr K hP hD hS (Nat.le_of_ble_eq_true rfl) (Nat.le_of_ble_eq_true rfl) rfl dX9_join_39 (⟨rfl, kp13⟩)
  · refine lv_aload_n hx hb dX9_join_4 rfl (lv_at hl 0 rfl) ?_
    refine x_get (ref := "NoteHouse$Ways") F hP hy rfl (fun _ h => List.mem_cons_of_mem _ (List.mem_append_right _ (h))) 1 (Nat.le_of_ble_eq_true rfl) (List.mem_cons_of_mem _ (List.mem_append_left _ (List.mem_of_getElem? (i := 0) rfl))) rfl rfl dX9_join_5 ?_
    refine lv_goto (tgt := 15) hx hb dX9_join_8 (by decide) ?_
    refine lv_astore (lv' := [(5, .ref b1), (0, .ref y), (1, .int a), (2, .int b), (3, .int u), (4, .int n)]) hx hb dX9_join_15 hl (by decide) rfl (fun ls hl => ?_)
    refine lv_aload hx hb dX9_join_17 (lv_at hl 0 rfl) ?_
    refine lv_iload_n hx hb dX9_join_19 rfl (lv_at hl 2 rfl) ?_
    refine lv_bipush (v := 12) hx hb dX9_join_20 (by decide) ?_
    refine lv_imul hx hb dX9_join_22 ?_
    refine lv_iload_n hx hb dX9_join_23 rfl (lv_at hl 3 rfl) ?_
    refine lv_iadd hx hb dX9_join_24 ?_
    refine lv_iload hx hb dX9_join_25 (lv_at hl 5 rfl) ?_
    refine y_iast F hP hD hS h1 i1 dX9_join_27 (fun w14 ew15 H locs hP hD hS => ?_)
    have k16 := wd_at.pt ew15 hy (wd_nk hy h1 rfl)
    have k17 := wd_at.pt ew15 h0 nb
    have k18 : wd_at w14 b1 (.inl (cy 2, 144, .inl (upd g ((a * 12) + b).toNatClampNeg n))) := wd_at.ps ew15 h1
    have kp19 := kp0.put ew15 s1
    refine lv_aload hx hb dX9_join_28 (lv_at hl 0 rfl) ?_
    refine lv_iload_n hx hb dX9_join_30 rfl (lv_at hl 3 rfl) ?_
    refine lv_bipush (v := 12) hx hb dX9_join_31 (by decide) ?_
    refine lv_imul hx hb dX9_join_33 ?_
    refine lv_iload_n hx hb dX9_join_34 rfl (lv_at hl 2 rfl) ?_
    refine lv_iadd hx hb dX9_join_35 ?_
    refine lv_iload hx hb dX9_join_36 (lv_at hl 5 rfl) ?_
    refine y_iast F hP hD hS k18 i2 dX9_join_38 (fun w20 ew21 H locs hP hD hS => ?_)
    have k22 := wd_at.pt ew21 k16 (wd_nk k16 k18 rfl)
    have k23 := wd_at.pt ew21 k17 nb
    have k24 : wd_at w20 b1 (.inl (cy 2, 144, .inl (upd (upd g ((a * 12) + b).toNatClampNeg n) ((b * 12) + a).toNatClampNeg n))) := wd_at.ps ew21 k18
    have kp25 := kp19.put ew21 s1
    exact y_vr K hP hD hS (Nat.le_of_ble_eq_true rfl) (Nat.le_of_ble_eq_true rfl) rfl dX9_join_39 (⟨rfl, kp25⟩)
set_option maxHeartbeats 4000000 in
set_option maxRecDepth 100000 in
theorem c_X10_way (l : Launch) (D : va_G) (cy : Nat → ClassId) (w : Wd) (x a0 a1 a2 a3 a4 a5 a6 a7 a8 a9 a10 a11 : Nat) (b0 b1 b2 b3 : Nat) (f g : Nat → Int32) (a b u n : Int32) (hc : wd_at w x (.inr (10, [.ref a0, .ref a1, .ref a2, .ref a3, .ref a4, .ref a5, .ref a6, .ref a7, .ref a8, .ref a9, .ref a10, .ref a11, .int 0, .int 0, .int 0, .int 0, .int 0]))) (hy : wd_at w a0 (.inr (9, [.ref b0, .ref b1, .ref b2, .ref b3]))) (h0 : wd_at w b0 (.inl (cy 2, 144, .inl f))) (h1 : wd_at w b1 (.inl (cy 2, 144, .inl g)))  (S : Nat → Prop) (s0 : S b0) (s1 : S b1) (nb : b0 ≠ b1) : Ct l D cy yX10_way wsX10_way ({ frames := 2, cells := 0, slots := 0, locals := 42 }) [.ref x, .int a, .int b, .int u, .int n] w (fun v w1 => v = some (.int (sp_way a b n)) ∧ wd_kp S w w1) := by
  refine Ct.by (cc := cX10_way) (maxL := 5) (ret := (some .boolean)) (by decide +kernel) rfl (Nat.le_of_ble_eq_true rfl) ?_
  intro p e s m args below meth c A Q F hnm K ls hl
  have F : wd_Fx p s m args meth c cX10_way 5 wsX10_way RX10 D cy A := F
  have hl : lv_has ls 5 [(0, .ref x), (1, .int a), (2, .int b), (3, .int u), (4, .int n)] := hl
  have hx := F.1.1
  have hb := F.1.2.1
  have hown := F.1.2.2.2.1
  have hts := F.1.2.2.2.2
  intro H locs hP hD hS
  have kp0 : wd_kp S w w := wd_kp.rf
  refine lv_iload_n hx hb dX10_way_0 rfl (lv_at hl 1 rfl) ?_
  refine x_callS (n := 1) (As := [.int a]) (rest := []) F hP hD hS (c_X10_isTown l D cy w a) gX10_way_X10_isTown rfl (by decide +kernel) ⟨(Nat.le_of_ble_eq_true rfl), (Nat.le_of_ble_eq_true rfl)⟩ rfl hl.1 (Nat.le_of_ble_eq_true rfl) dX10_way_1 rfl ⟨(Nat.le_of_ble_eq_true rfl), (Nat.le_of_ble_eq_true rfl)⟩ (fun v2 w3 hp1 H locs hP hD hS => ?_)
  obtain ⟨rfl, rfl⟩ := hp1
  refine W.eq (g2 := F0 m 4 ls [.int (wi a 0 11)]) rfl (W.widen (k := 0) (n := 0) (Nat.le_of_ble_eq_true rfl) (Nat.le_of_ble_eq_true rfl) ?_)
  refine lv_if_eq (tgt := 30) hx hb dX10_way_4 (by decide) (fun c_1 => ?_) (fun c_1 => ?_)
  · refine lv_iconst (v := 0) hx hb dX10_way_30 (by decide) ?_
    exact y_ir K hP hD hS (Nat.le_of_ble_eq_true rfl) (Nat.le_of_ble_eq_true rfl) (ty := .boolean) rfl rfl dX10_way_31 (⟨by simp [sp_way, c_1], kp0⟩)
  · refine lv_iload_n hx hb dX10_way_7 rfl (lv_at hl 2 rfl) ?_
    refine x_callS (n := 1) (As := [.int b]) (rest := []) F hP hD hS (c_X10_isTown l D cy w b) gX10_way_X10_isTown rfl (by decide +kernel) ⟨(Nat.le_of_ble_eq_true rfl), (Nat.le_of_ble_eq_true rfl)⟩ rfl hl.1 (Nat.le_of_ble_eq_true rfl) dX10_way_8 rfl ⟨(Nat.le_of_ble_eq_true rfl), (Nat.le_of_ble_eq_true rfl)⟩ (fun v5 w6 hp4 H locs hP hD hS => ?_)
    obtain ⟨rfl, rfl⟩ := hp4
    refine W.eq (g2 := F0 m 11 ls [.int (wi b 0 11)]) rfl (W.widen (k := 0) (n := 0) (Nat.le_of_ble_eq_true rfl) (Nat.le_of_ble_eq_true rfl) ?_)
    refine lv_if_eq (tgt := 30) hx hb dX10_way_11 (by decide) (fun c_2 => ?_) (fun c_2 => ?_)
    · refine lv_iconst (v := 0) hx hb dX10_way_30 (by decide) ?_
      exact y_ir K hP hD hS (Nat.le_of_ble_eq_true rfl) (Nat.le_of_ble_eq_true rfl) (ty := .boolean) rfl rfl dX10_way_31 (⟨by simp [sp_way, c_1, c_2], kp0⟩)
    · refine lv_iload_n hx hb dX10_way_14 rfl (lv_at hl 1 rfl) ?_
      refine lv_iload_n hx hb dX10_way_15 rfl (lv_at hl 2 rfl) ?_
      refine lv_icmp_eq (tgt := 30) hx hb dX10_way_16 (by decide) (fun c_7 => ?_) (fun c_7 => ?_)
      · refine lv_iconst (v := 0) hx hb dX10_way_30 (by decide) ?_
        exact y_ir K hP hD hS (Nat.le_of_ble_eq_true rfl) (Nat.le_of_ble_eq_true rfl) (ty := .boolean) rfl rfl dX10_way_31 (⟨by simp [sp_way, c_1, c_2, c_7], kp0⟩)
      · refine lv_iload hx hb dX10_way_19 (lv_at hl 4 rfl) ?_
        refine lv_iconst (v := 0) hx hb dX10_way_21 (by decide) ?_
        refine lv_bipush (v := 99) hx hb dX10_way_22 (by decide) ?_
        refine x_callS (n := 3) (As := [.int n, .int 0, .int 99]) (rest := []) F hP hD hS (c_X10_isWithin l D cy w n 0 99) gX10_way_X10_isWithin rfl (by decide +kernel) ⟨(Nat.le_of_ble_eq_true rfl), (Nat.le_of_ble_eq_true rfl)⟩ rfl hl.1 (Nat.le_of_ble_eq_true rfl) dX10_way_24 rfl ⟨(Nat.le_of_ble_eq_true rfl), (Nat.le_of_ble_eq_true rfl)⟩ (fun v9 w10 hp8 H locs hP hD hS => ?_)
        obtain ⟨rfl, rfl⟩ := hp8
        refine W.eq (g2 := F0 m 27 ls [.int (wi n 0 99)]) rfl (W.widen (k := 0) (n := 0) (Nat.le_of_ble_eq_true rfl) (Nat.le_of_ble_eq_true rfl) ?_)
        refine lv_if_ne (tgt := 32) hx hb dX10_way_27 (by decide) (fun c_11 => ?_) (fun c_11 => ?_)
        · refine lv_aload_n hx hb dX10_way_32 rfl (lv_at hl 0 rfl) ?_
          refine x_get (ref := "NoteHouse") F hP hc rfl (fun _ h => List.mem_cons_of_mem _ (List.mem_append_left _ (List.mem_append_right _ (h)))) 0 (Nat.le_of_ble_eq_true rfl) (List.mem_cons_of_mem _ (List.mem_append_left _ (List.mem_append_left _ (List.mem_of_getElem? (i := 0) rfl)))) rfl rfl dX10_way_33 ?_
          refine lv_iload_n hx hb dX10_way_36 rfl (lv_at hl 1 rfl) ?_
          refine lv_iload_n hx hb dX10_way_37 rfl (lv_at hl 2 rfl) ?_
          refine lv_iload_n hx hb dX10_way_38 rfl (lv_at hl 3 rfl) ?_
          refine lv_iload hx hb dX10_way_39 (lv_at hl 4 rfl) ?_
          refine x_callV (n := 4) (As := [.int a, .int b, .int u, .int n]) (rest := []) F hP hD hS (c_X9_join l D cy w a0 b0 b1 b2 b3 f g a b u n hy h0 h1 (fun b => b = b0 ∨ b = b1) (Or.inl rfl) (Or.inr rfl) nb (wi_2 c_1 c_2) (wi_2 c_2 c_1)) gX10_way_X9_join rfl rfl (by decide +kernel) ⟨(Nat.le_of_ble_eq_true rfl), (Nat.le_of_ble_eq_true rfl)⟩ rfl hl.1 (Nat.le_of_ble_eq_true rfl) hy rfl dX10_way_41 rfl ⟨(Nat.le_of_ble_eq_true rfl), (Nat.le_of_ble_eq_true rfl)⟩ (fun v13 w14 hp12 H locs hP hD hS => ?_)
          obtain ⟨rfl, hp12⟩ := hp12
          have k15 := hp12.2 _ _ hc (fun q => Or.elim q (wd_nk hc h0 rfl) (fun q : x = b1 => (wd_nk hc h1 rfl) q))
          have k16 := hp12.2 _ _ hy (fun q => Or.elim q (wd_nk hy h0 rfl) (fun q : a0 = b1 => (wd_nk hy h1 rfl) q))
          have kp17 := kp0.tr hp12 (fun b hm q => (fun q => Or.elim q (fun q => q ▸ s0) (fun q => q ▸ s1)) q)
          refine W.eq (g2 := F0 m 44 ls []) rfl (W.widen (k := 0) (n := 0) (Nat.le_of_ble_eq_true rfl) (Nat.le_of_ble_eq_true rfl) ?_)
          refine lv_iconst (v := 1) hx hb dX10_way_44 (by decide) ?_
          exact y_ir K hP hD hS (Nat.le_of_ble_eq_true rfl) (Nat.le_of_ble_eq_true rfl) (ty := .boolean) rfl rfl dX10_way_45 (⟨by simp [sp_way, c_1, c_2, c_7, c_11], kp17⟩)
        · refine lv_iconst (v := 0) hx hb dX10_way_30 (by decide) ?_
          exact y_ir K hP hD hS (Nat.le_of_ble_eq_true rfl) (Nat.le_of_ble_eq_true rfl) (ty := .boolean) rfl rfl dX10_way_31 (⟨by simp [sp_way, c_1, c_2, c_7, c_11], kp0⟩)
theorem wi_v {n : Int32} (h : ¬ wi n 0 11 = 0) : vp_in n 12 := by
  obtain ⟨j, hj, rfl, -⟩ := wi_t h
  exact vp_in_nI hj (by decide)
theorem wi_10 {n : Int32} (h : ¬ wi n 10 21 = 0) : ∃ j : Nat, j < 12 ∧ n - 10 = nI j ∧ (n - 10).toNatClampNeg = j := by
  obtain ⟨h1, h2⟩ := wi_n h
  have h0 : ¬ n < 0 := fun q => h1 (Int32.lt_of_lt_of_le q (by decide))
  obtain ⟨j, hj, rfl⟩ := nI_of2 (M := 21) (n := 21) (by decide) h0 h2
  have h3 : 10 ≤ j := Nat.le_of_not_lt (fun q => h1 (nI_lt (a := j) (b := 10) q (by decide)))
  rw [show (10 : Int32) = nI 10 from rfl, pk_sub h3]
  exact ⟨j - 10, by omega, rfl, nI_clamp (by omega)⟩
theorem wi_30 {n : Int32} (h : ¬ wi n 30 33 = 0) : (n = 30 ∨ n = 31 ∨ n = 32 ∨ n = 33) := by
  obtain ⟨h1, h2⟩ := wi_n h
  have h0 : ¬ n < 0 := fun q => h1 (Int32.lt_of_lt_of_le q (by decide))
  obtain ⟨j, hj, rfl⟩ := nI_of2 (M := 33) (n := 33) (by decide) h0 h2
  have h3 : 30 ≤ j := Nat.le_of_not_lt (fun q => h1 (nI_lt (a := j) (b := 30) q (by decide)))
  rcases (show j = 30 ∨ j = 31 ∨ j = 32 ∨ j = 33 by omega) with rfl | rfl | rfl | rfl
  · exact Or.inl rfl
  · exact Or.inr (Or.inl rfl)
  · exact Or.inr (Or.inr (Or.inl rfl))
  · exact Or.inr (Or.inr (Or.inr rfl))
theorem wi_30v {n : Int32} (h : ¬ wi n 30 33 = 0) : vp_in (n - 30) 4 := by
  rcases wi_30 h with rfl | rfl | rfl | rfl <;> exact vp_in_iff.mpr ⟨by decide, by decide⟩
theorem ct_b {n : Int32} {f : Nat → Int32} (h : ¬ wi n 30 33 = 0) (hf : f 0 = 1 ∧ f 1 = 1 ∧ f 2 = 0 ∧ f 3 = 2) : f (n - 30).toNatClampNeg = sp_count n := by
  obtain ⟨f0, f1, f2, f3⟩ := hf
  rcases wi_30 h with rfl | rfl | rfl | rfl
  · rw [show ((30 : Int32) - 30).toNatClampNeg = 0 from by decide, f0]; decide
  · rw [show ((31 : Int32) - 30).toNatClampNeg = 1 from by decide, f1]; decide
  · rw [show ((32 : Int32) - 30).toNatClampNeg = 2 from by decide, f2]; decide
  · rw [show ((33 : Int32) - 30).toNatClampNeg = 3 from by decide, f3]; decide
theorem sd_ok {c : Int32} (h : ¬ wi c 1 1000000 = 0) : (0 : Int32) ≤ 1000000000 - c := by
  obtain ⟨h1, h2⟩ := wi_n h
  have h0 : ¬ c < 0 := fun q => h1 (Int32.lt_of_lt_of_le q (by decide))
  obtain ⟨j, hj, rfl⟩ := nI_of2 (M := 1000000) (n := 1000000) (by decide) h0 h2
  rw [show (1000000000 : Int32) = nI 1000000000 from rfl, pk_sub (by omega)]
  exact nI_pos' (by omega)
theorem sd_le {c : Int32} (h : ¬ wi c 1 1000000 = 0) : ¬ (1000000000 : Int32) < 0 + c := by
  obtain ⟨h1, h2⟩ := wi_n h
  have h0 : ¬ c < 0 := fun q => h1 (Int32.lt_of_lt_of_le q (by decide))
  obtain ⟨j, hj, rfl⟩ := nI_of2 (M := 1000000) (n := 1000000) (by decide) h0 h2
  rw [show (1000000000 : Int32) = nI 1000000000 from rfl, show (0 : Int32) + nI j = nI j from by rw [show (0 : Int32) = nI 0 from rfl, nI_add, Nat.zero_add]]
  exact nI_nlt (by omega) (by omega)
set_option maxHeartbeats 4000000 in
set_option maxRecDepth 100000 in
theorem c_X10_rate (l : Launch) (D : va_G) (cy : Nat → ClassId) (w : Wd) (x a0 a1 a2 a3 a4 a5 a6 a7 a8 a9 a10 a11 : Nat) (tf : Nat → Option Nat) (tn ag : Nat → Nat) (t co r : Int32) (hc : wd_at w x (.inr (10, [.ref a0, .ref a1, .ref a2, .ref a3, .ref a4, .ref a5, .ref a6, .ref a7, .ref a8, .ref a9, .ref a10, .ref a11, .int 0, .int 0, .int 0, .int 0, .int 0]))) (ha1 : wd_at w a1 (.inl (cy 9, 12, .inr (.inr (.inr (.inr tf)))))) (ht : ∀ i, i < 12 → tf i = some (tn i) ∧ wd_at w (tn i) (.inr (8, [.int 0, .int 1000, .int 0, .ref (ag i)]))) (S : Nat → Prop)   (hst : ∀ i, i < 12 → S (tn i)) : Ct l D cy yX10_rate wsX10_rate ({ frames := 2, cells := 0, slots := 0, locals := 42 }) [.ref x, .int t, .int co, .int r] w (fun v w1 => v = some (.int (sp_rate t co r)) ∧ wd_kp S w w1) := by
  refine Ct.by (cc := cX10_rate) (maxL := 4) (ret := (some .boolean)) (by decide +kernel) rfl (Nat.le_of_ble_eq_true rfl) ?_
  intro p e s m args below meth c A Q F hnm K ls hl
  have F : wd_Fx p s m args meth c cX10_rate 4 wsX10_rate RX10 D cy A := F
  have hl : lv_has ls 4 [(0, .ref x), (1, .int t), (2, .int co), (3, .int r)] := hl
  have hx := F.1.1
  have hb := F.1.2.1
  have hown := F.1.2.2.2.1
  have hts := F.1.2.2.2.2
  intro H locs hP hD hS
  have kp0 : wd_kp S w w := wd_kp.rf
  refine lv_iload_n hx hb dX10_rate_0 rfl (lv_at hl 1 rfl) ?_
  refine x_callS (n := 1) (As := [.int t]) (rest := []) F hP hD hS (c_X10_isTown l D cy w t) gX10_rate_X10_isTown rfl (by decide +kernel) ⟨(Nat.le_of_ble_eq_true rfl), (Nat.le_of_ble_eq_true rfl)⟩ rfl hl.1 (Nat.le_of_ble_eq_true rfl) dX10_rate_1 rfl ⟨(Nat.le_of_ble_eq_true rfl), (Nat.le_of_ble_eq_true rfl)⟩ (fun v2 w3 hp1 H locs hP hD hS => ?_)
  obtain ⟨rfl, rfl⟩ := hp1
  refine W.eq (g2 := F0 m 4 ls [.int (wi t 0 11)]) rfl (W.widen (k := 0) (n := 0) (Nat.le_of_ble_eq_true rfl) (Nat.le_of_ble_eq_true rfl) ?_)
  refine lv_if_eq (tgt := 26) hx hb dX10_rate_4 (by decide) (fun c_1 => ?_) (fun c_1 => ?_)
  · refine lv_iconst (v := 0) hx hb dX10_rate_26 (by decide) ?_
    exact y_ir K hP hD hS (Nat.le_of_ble_eq_true rfl) (Nat.le_of_ble_eq_true rfl) (ty := .boolean) rfl rfl dX10_rate_27 (⟨by simp [sp_rate, c_1], kp0⟩)
  · refine lv_iload_n hx hb dX10_rate_7 rfl (lv_at hl 2 rfl) ?_
    refine lv_iconst (v := 0) hx hb dX10_rate_8 (by decide) ?_
    refine lv_iconst (v := 3) hx hb dX10_rate_9 (by decide) ?_
    refine x_callS (n := 3) (As := [.int co, .int 0, .int 3]) (rest := []) F hP hD hS (c_X10_isWithin l D cy w co 0 3) gX10_rate_X10_isWithin rfl (by decide +kernel) ⟨(Nat.le_of_ble_eq_true rfl), (Nat.le_of_ble_eq_true rfl)⟩ rfl hl.1 (Nat.le_of_ble_eq_true rfl) dX10_rate_10 rfl ⟨(Nat.le_of_ble_eq_true rfl), (Nat.le_of_ble_eq_true rfl)⟩ (fun v5 w6 hp4 H locs hP hD hS => ?_)
    obtain ⟨rfl, rfl⟩ := hp4
    refine W.eq (g2 := F0 m 13 ls [.int (wi co 0 3)]) rfl (W.widen (k := 0) (n := 0) (Nat.le_of_ble_eq_true rfl) (Nat.le_of_ble_eq_true rfl) ?_)
    refine lv_if_eq (tgt := 26) hx hb dX10_rate_13 (by decide) (fun c_7 => ?_) (fun c_7 => ?_)
    · refine lv_iconst (v := 0) hx hb dX10_rate_26 (by decide) ?_
      exact y_ir K hP hD hS (Nat.le_of_ble_eq_true rfl) (Nat.le_of_ble_eq_true rfl) (ty := .boolean) rfl rfl dX10_rate_27 (⟨by simp [sp_rate, c_1, c_7], kp0⟩)
    · refine lv_iload_n hx hb dX10_rate_16 rfl (lv_at hl 3 rfl) ?_
      refine lv_iconst (v := 1) hx hb dX10_rate_17 (by decide) ?_
      refine lv_ldc (v := 100000) hx hb hown (hts _ (List.mem_cons_of_mem _ (List.mem_append_left _ (List.mem_append_left _ (List.mem_of_getElem? (i := 0) rfl))))) dX10_rate_18 ?_
      refine x_callS (n := 3) (As := [.int r, .int 1, .int 100000]) (rest := []) F hP hD hS (c_X10_isWithin l D cy w r 1 100000) gX10_rate_X10_isWithin rfl (by decide +kernel) ⟨(Nat.le_of_ble_eq_true rfl), (Nat.le_of_ble_eq_true rfl)⟩ rfl hl.1 (Nat.le_of_ble_eq_true rfl) dX10_rate_20 rfl ⟨(Nat.le_of_ble_eq_true rfl), (Nat.le_of_ble_eq_true rfl)⟩ (fun v9 w10 hp8 H locs hP hD hS => ?_)
      obtain ⟨rfl, rfl⟩ := hp8
      refine W.eq (g2 := F0 m 23 ls [.int (wi r 1 100000)]) rfl (W.widen (k := 0) (n := 0) (Nat.le_of_ble_eq_true rfl) (Nat.le_of_ble_eq_true rfl) ?_)
      refine lv_if_ne (tgt := 28) hx hb dX10_rate_23 (by decide) (fun c_11 => ?_) (fun c_11 => ?_)
      · obtain ⟨j, hj, -, hjc⟩ := wi_t c_1
        have hT := (ht j hj).2
        refine lv_aload_n hx hb dX10_rate_28 rfl (lv_at hl 0 rfl) ?_
        refine x_get (ref := "NoteHouse") F hP hc rfl (fun _ h => List.mem_cons_of_mem _ (List.mem_append_left _ (List.mem_append_right _ (h)))) 1 (Nat.le_of_ble_eq_true rfl) (List.mem_cons_of_mem _ (List.mem_append_left _ (List.mem_append_left _ (List.mem_of_getElem? (i := 1) rfl)))) rfl rfl dX10_rate_29 ?_
        refine lv_iload_n hx hb dX10_rate_32 rfl (lv_at hl 1 rfl) ?_
        refine x_aald F hP ha1 rfl (wi_v c_1) dX10_rate_33 ?_
        rw [hjc, (ht j hj).1]
        refine W.eq (g2 := F0 m _ ls [.ref (tn j)]) rfl ?_
        refine lv_iload_n hx hb dX10_rate_34 rfl (lv_at hl 2 rfl) ?_
        refine y_put (ref := "NoteHouse$Town") F hP hD hS hT rfl (fun _ h => List.mem_cons_of_mem _ (List.mem_append_right _ (h))) tyX8_ok nmX8 0 (Nat.le_of_ble_eq_true rfl) (List.mem_cons_of_mem _ (List.mem_append_left _ (List.mem_append_left _ (List.mem_of_getElem? (i := 2) rfl)))) rfl rfl rfl rfl (Nat.le_of_ble_eq_true rfl) dX10_rate_35 (fun w12 ew13 H locs hP hD hS => ?_)
        have k14 := wd_at.pt ew13 hc (wd_nk hc hT rfl)
        have k15 := wd_at.pt ew13 ha1 (wd_nk ha1 hT rfl)
        have k16 : wd_at w12 (tn j) (.inr (8, [.int co, .int 1000, .int 0, .ref (ag j)])) := wd_at.ps ew13 hT
        have kp17 := kp0.put ew13 (hst j hj)
        refine lv_aload_n hx hb dX10_rate_38 rfl (lv_at hl 0 rfl) ?_
        refine x_get (ref := "NoteHouse") F hP k14 rfl (fun _ h => List.mem_cons_of_mem _ (List.mem_append_left _ (List.mem_append_right _ (h)))) 1 (Nat.le_of_ble_eq_true rfl) (List.mem_cons_of_mem _ (List.mem_append_left _ (List.mem_append_left _ (List.mem_of_getElem? (i := 1) rfl)))) rfl rfl dX10_rate_39 ?_
        refine lv_iload_n hx hb dX10_rate_42 rfl (lv_at hl 1 rfl) ?_
        refine x_aald F hP k15 rfl (wi_v c_1) dX10_rate_43 ?_
        rw [hjc, (ht j hj).1]
        refine W.eq (g2 := F0 m _ ls [.ref (tn j)]) rfl ?_
        refine lv_iload_n hx hb dX10_rate_44 rfl (lv_at hl 3 rfl) ?_
        refine y_put (ref := "NoteHouse$Town") F hP hD hS k16 rfl (fun _ h => List.mem_cons_of_mem _ (List.mem_append_right _ (h))) tyX8_ok nmX8 1 (Nat.le_of_ble_eq_true rfl) (List.mem_cons_of_mem _ (List.mem_append_left _ (List.mem_append_left _ (List.mem_of_getElem? (i := 3) rfl)))) rfl rfl rfl rfl (Nat.le_of_ble_eq_true rfl) dX10_rate_45 (fun w18 ew19 H locs hP hD hS => ?_)
        have k20 := wd_at.pt ew19 k14 (wd_nk k14 k16 rfl)
        have k21 := wd_at.pt ew19 k15 (wd_nk k15 k16 rfl)
        have k22 : wd_at w18 (tn j) (.inr (8, [.int co, .int r, .int 0, .ref (ag j)])) := wd_at.ps ew19 k16
        have kp23 := kp17.put ew19 (hst j hj)
        refine lv_iconst (v := 1) hx hb dX10_rate_48 (by decide) ?_
        exact y_ir K hP hD hS (Nat.le_of_ble_eq_true rfl) (Nat.le_of_ble_eq_true rfl) (ty := .boolean) rfl rfl dX10_rate_49 (⟨by simp [sp_rate, c_1, c_7, c_11], kp23⟩)
      · refine lv_iconst (v := 0) hx hb dX10_rate_26 (by decide) ?_
        exact y_ir K hP hD hS (Nat.le_of_ble_eq_true rfl) (Nat.le_of_ble_eq_true rfl) (ty := .boolean) rfl rfl dX10_rate_27 (⟨by simp [sp_rate, c_1, c_7, c_11], kp0⟩)
set_option maxHeartbeats 4000000 in
set_option maxRecDepth 100000 in
theorem c_X10_send (l : Launch) (D : va_G) (cy : Nat → ClassId) (w : Wd) (x a0 a1 a2 a3 a4 a5 a6 a7 a8 a9 a10 a11 : Nat) (tf : Nat → Option Nat) (tn ag : Nat → Nat) (t co : Int32) (hc : wd_at w x (.inr (10, [.ref a0, .ref a1, .ref a2, .ref a3, .ref a4, .ref a5, .ref a6, .ref a7, .ref a8, .ref a9, .ref a10, .ref a11, .int 0, .int 0, .int 0, .int 0, .int 0]))) (ha1 : wd_at w a1 (.inl (cy 9, 12, .inr (.inr (.inr (.inr tf)))))) (ht : ∀ i, i < 12 → tf i = some (tn i) ∧ wd_at w (tn i) (.inr (8, [.int 0, .int 1000, .int 0, .ref (ag i)]))) (S : Nat → Prop)   (hst : ∀ i, i < 12 → S (tn i)) : Ct l D cy yX10_send wsX10_send ({ frames := 2, cells := 0, slots := 0, locals := 42 }) [.ref x, .int t, .int co] w (fun v w1 => v = some (.int (sp_send t co)) ∧ wd_kp S w w1) := by
  refine Ct.by (cc := cX10_send) (maxL := 3) (ret := (some .int)) (by decide +kernel) rfl (Nat.le_of_ble_eq_true rfl) ?_
  intro p e s m args below meth c A Q F hnm K ls hl
  have F : wd_Fx p s m args meth c cX10_send 3 wsX10_send RX10 D cy A := F
  have hl : lv_has ls 3 [(0, .ref x), (1, .int t), (2, .int co)] := hl
  have hx := F.1.1
  have hb := F.1.2.1
  have hown := F.1.2.2.2.1
  have hts := F.1.2.2.2.2
  intro H locs hP hD hS
  have kp0 : wd_kp S w w := wd_kp.rf
  refine lv_iload_n hx hb dX10_send_0 rfl (lv_at hl 1 rfl) ?_
  refine x_callS (n := 1) (As := [.int t]) (rest := []) F hP hD hS (c_X10_isTown l D cy w t) gX10_send_X10_isTown rfl (by decide +kernel) ⟨(Nat.le_of_ble_eq_true rfl), (Nat.le_of_ble_eq_true rfl)⟩ rfl hl.1 (Nat.le_of_ble_eq_true rfl) dX10_send_1 rfl ⟨(Nat.le_of_ble_eq_true rfl), (Nat.le_of_ble_eq_true rfl)⟩ (fun v2 w3 hp1 H locs hP hD hS => ?_)
  obtain ⟨rfl, rfl⟩ := hp1
  refine W.eq (g2 := F0 m 4 ls [.int (wi t 0 11)]) rfl (W.widen (k := 0) (n := 0) (Nat.le_of_ble_eq_true rfl) (Nat.le_of_ble_eq_true rfl) ?_)
  refine lv_if_eq (tgt := 21) hx hb dX10_send_4 (by decide) (fun c_1 => ?_) (fun c_1 => ?_)
  · refine lv_iconst (v := (-1)) hx hb dX10_send_21 (by decide) ?_
    exact y_ir K hP hD hS (Nat.le_of_ble_eq_true rfl) (Nat.le_of_ble_eq_true rfl) (ty := .int) rfl rfl dX10_send_22 (⟨by simp [sp_send, c_1], kp0⟩)
  · refine lv_iload_n hx hb dX10_send_7 rfl (lv_at hl 1 rfl) ?_
    refine lv_if_eq (tgt := 21) hx hb dX10_send_8 (by decide) (fun c_2 => ?_) (fun c_2 => ?_)
    · refine lv_iconst (v := (-1)) hx hb dX10_send_21 (by decide) ?_
      exact y_ir K hP hD hS (Nat.le_of_ble_eq_true rfl) (Nat.le_of_ble_eq_true rfl) (ty := .int) rfl rfl dX10_send_22 (⟨by simp [sp_send, c_1, c_2], kp0⟩)
    · refine lv_iload_n hx hb dX10_send_11 rfl (lv_at hl 2 rfl) ?_
      refine lv_iconst (v := 1) hx hb dX10_send_12 (by decide) ?_
      refine lv_ldc (v := 1000000) hx hb hown (hts _ (List.mem_cons_of_mem _ (List.mem_append_left _ (List.mem_append_left _ (List.mem_of_getElem? (i := 0) rfl))))) dX10_send_13 ?_
      refine x_callS (n := 3) (As := [.int co, .int 1, .int 1000000]) (rest := []) F hP hD hS (c_X10_isWithin l D cy w co 1 1000000) gX10_send_X10_isWithin rfl (by decide +kernel) ⟨(Nat.le_of_ble_eq_true rfl), (Nat.le_of_ble_eq_true rfl)⟩ rfl hl.1 (Nat.le_of_ble_eq_true rfl) dX10_send_15 rfl ⟨(Nat.le_of_ble_eq_true rfl), (Nat.le_of_ble_eq_true rfl)⟩ (fun v5 w6 hp4 H locs hP hD hS => ?_)
      obtain ⟨rfl, rfl⟩ := hp4
      refine W.eq (g2 := F0 m 18 ls [.int (wi co 1 1000000)]) rfl (W.widen (k := 0) (n := 0) (Nat.le_of_ble_eq_true rfl) (Nat.le_of_ble_eq_true rfl) ?_)
      refine lv_if_ne (tgt := 23) hx hb dX10_send_18 (by decide) (fun c_3 => ?_) (fun c_3 => ?_)
      · obtain ⟨j, hj, -, hjc⟩ := wi_t c_1
        have hT := (ht j hj).2
        refine lv_aload_n hx hb dX10_send_23 rfl (lv_at hl 0 rfl) ?_
        refine x_get (ref := "NoteHouse") F hP hc rfl (fun _ h => List.mem_cons_of_mem _ (List.mem_append_left _ (List.mem_append_right _ (h)))) 1 (Nat.le_of_ble_eq_true rfl) (List.mem_cons_of_mem _ (List.mem_append_left _ (List.mem_append_left _ (List.mem_of_getElem? (i := 1) rfl)))) rfl rfl dX10_send_24 ?_
        refine lv_iload_n hx hb dX10_send_27 rfl (lv_at hl 1 rfl) ?_
        refine x_aald F hP ha1 rfl (wi_v c_1) dX10_send_28 ?_
        rw [hjc, (ht j hj).1]
        refine W.eq (g2 := F0 m _ ls [.ref (tn j)]) rfl ?_
        refine x_get (ref := "NoteHouse$Town") F hP hT rfl (fun _ h => List.mem_cons_of_mem _ (List.mem_append_right _ (h))) 2 (Nat.le_of_ble_eq_true rfl) (List.mem_cons_of_mem _ (List.mem_append_left _ (List.mem_append_left _ (List.mem_of_getElem? (i := 2) rfl)))) rfl rfl dX10_send_29 ?_
        refine lv_ldc (v := 1000000000) hx hb hown (hts _ (List.mem_cons_of_mem _ (List.mem_append_left _ (List.mem_append_left _ (List.mem_of_getElem? (i := 3) rfl))))) dX10_send_32 ?_
        refine lv_iload_n hx hb dX10_send_34 rfl (lv_at hl 2 rfl) ?_
        refine lv_isub hx hb dX10_send_35 ?_
        refine lv_icmp_le (tgt := 41) hx hb dX10_send_36 (by decide) (fun c_7 => ?_) (fun c_7 => absurd (sd_ok c_3) c_7)
        refine lv_aload_n hx hb dX10_send_41 rfl (lv_at hl 0 rfl) ?_
        refine x_get (ref := "NoteHouse") F hP hc rfl (fun _ h => List.mem_cons_of_mem _ (List.mem_append_left _ (List.mem_append_right _ (h)))) 1 (Nat.le_of_ble_eq_true rfl) (List.mem_cons_of_mem _ (List.mem_append_left _ (List.mem_append_left _ (List.mem_of_getElem? (i := 1) rfl)))) rfl rfl dX10_send_42 ?_
        refine lv_iload_n hx hb dX10_send_45 rfl (lv_at hl 1 rfl) ?_
        refine x_aald F hP ha1 rfl (wi_v c_1) dX10_send_46 ?_
        rw [hjc, (ht j hj).1]
        refine W.eq (g2 := F0 m _ ls [.ref (tn j)]) rfl ?_
        refine lv_dup hx hb dX10_send_47 rfl ?_
        refine x_get (ref := "NoteHouse$Town") F hP hT rfl (fun _ h => List.mem_cons_of_mem _ (List.mem_append_right _ (h))) 2 (Nat.le_of_ble_eq_true rfl) (List.mem_cons_of_mem _ (List.mem_append_left _ (List.mem_append_left _ (List.mem_of_getElem? (i := 2) rfl)))) rfl rfl dX10_send_48 ?_
        refine lv_iload_n hx hb dX10_send_51 rfl (lv_at hl 2 rfl) ?_
        refine lv_iadd hx hb dX10_send_52 ?_
        rw [show (0 + co : Int32) = co from by simp]
        refine y_put (ref := "NoteHouse$Town") F hP hD hS hT rfl (fun _ h => List.mem_cons_of_mem _ (List.mem_append_right _ (h))) tyX8_ok nmX8 2 (Nat.le_of_ble_eq_true rfl) (List.mem_cons_of_mem _ (List.mem_append_left _ (List.mem_append_left _ (List.mem_of_getElem? (i := 2) rfl)))) rfl rfl rfl rfl (Nat.le_of_ble_eq_true rfl) dX10_send_53 (fun w8 ew9 H locs hP hD hS => ?_)
        have k10 := wd_at.pt ew9 hc (wd_nk hc hT rfl)
        have k11 := wd_at.pt ew9 ha1 (wd_nk ha1 hT rfl)
        have k12 : wd_at w8 (tn j) (.inr (8, [.int 0, .int 1000, .int co, .ref (ag j)])) := wd_at.ps ew9 hT
        have kp13 := kp0.put ew9 (hst j hj)
        refine lv_aload_n hx hb dX10_send_56 rfl (lv_at hl 0 rfl) ?_
        refine x_get (ref := "NoteHouse") F hP k10 rfl (fun _ h => List.mem_cons_of_mem _ (List.mem_append_left _ (List.mem_append_right _ (h)))) 1 (Nat.le_of_ble_eq_true rfl) (List.mem_cons_of_mem _ (List.mem_append_left _ (List.mem_append_left _ (List.mem_of_getElem? (i := 1) rfl)))) rfl rfl dX10_send_57 ?_
        refine lv_iload_n hx hb dX10_send_60 rfl (lv_at hl 1 rfl) ?_
        refine x_aald F hP k11 rfl (wi_v c_1) dX10_send_61 ?_
        rw [hjc, (ht j hj).1]
        refine W.eq (g2 := F0 m _ ls [.ref (tn j)]) rfl ?_
        refine x_get (ref := "NoteHouse$Town") F hP k12 rfl (fun _ h => List.mem_cons_of_mem _ (List.mem_append_right _ (h))) 2 (Nat.le_of_ble_eq_true rfl) (List.mem_cons_of_mem _ (List.mem_append_left _ (List.mem_append_left _ (List.mem_of_getElem? (i := 2) rfl)))) rfl rfl dX10_send_62 ?_
        exact y_ir K hP hD hS (Nat.le_of_ble_eq_true rfl) (Nat.le_of_ble_eq_true rfl) (ty := .int) rfl rfl dX10_send_65 (⟨by simp [sp_send, c_1, c_2, c_3], kp13⟩)
      · refine lv_iconst (v := (-1)) hx hb dX10_send_21 (by decide) ?_
        exact y_ir K hP hD hS (Nat.le_of_ble_eq_true rfl) (Nat.le_of_ble_eq_true rfl) (ty := .int) rfl rfl dX10_send_22 (⟨by simp [sp_send, c_1, c_2, c_3], kp0⟩)
set_option maxHeartbeats 4000000 in
set_option maxRecDepth 100000 in
theorem c_X10_end (l : Launch) (D : va_G) (cy : Nat → ClassId) (w : Wd) (x a0 a1 a2 a3 a4 a5 a6 a7 a8 a9 a10 a11 : Nat) (b6 : Nat) (at0 : Int32) (n : Int32) (hc : wd_at w x (.inr (10, [.ref a0, .ref a1, .ref a2, .ref a3, .ref a4, .ref a5, .ref a6, .ref a7, .ref a8, .ref a9, .ref a10, .ref a11, .int 0, .int 0, .int 0, .int 0, .int 0]))) (hc6 : wd_at w a6 (.inr (7, [.ref b6, .int 0, .int at0])))  (S : Nat → Prop) (s6 : S a6)  : Ct l D cy yX10_end wsX10_end ({ frames := 0, cells := 0, slots := 0, locals := 0 }) [.ref x, .int n] w (fun v w1 => v = some (.int (sp_end n)) ∧ wd_kp S w w1) := by
  refine Ct.by (cc := cX10_end) (maxL := 2) (ret := (some .int)) (by decide +kernel) rfl (Nat.le_of_ble_eq_true rfl) ?_
  intro p e s m args below meth c A Q F hnm K ls hl
  have F : wd_Fx p s m args meth c cX10_end 2 wsX10_end RX10 D cy A := F
  have hl : lv_has ls 2 [(0, .ref x), (1, .int n)] := hl
  have hx := F.1.1
  have hb := F.1.2.1
  have hown := F.1.2.2.2.1
  have hts := F.1.2.2.2.2
  intro H locs hP hD hS
  have kp0 : wd_kp S w w := wd_kp.rf
  refine lv_iload_n hx hb dX10_end_0 rfl (lv_at hl 1 rfl) ?_
  refine lv_if_lt (tgt := 15) hx hb dX10_end_1 (by decide) (fun c_1 => ?_) (fun c_1 => ?_)
  · refine lv_iconst (v := (-1)) hx hb dX10_end_15 (by decide) ?_
    exact y_ir K hP hD hS (Nat.le_of_ble_eq_true rfl) (Nat.le_of_ble_eq_true rfl) (ty := .int) rfl rfl dX10_end_16 (⟨by simp [sp_end, c_1], kp0⟩)
  · refine lv_iload_n hx hb dX10_end_4 rfl (lv_at hl 1 rfl) ?_
    refine lv_aload_n hx hb dX10_end_5 rfl (lv_at hl 0 rfl) ?_
    refine x_get (ref := "NoteHouse") F hP hc rfl (fun _ h => List.mem_cons_of_mem _ (List.mem_append_left _ (List.mem_append_right _ (h)))) 6 (Nat.le_of_ble_eq_true rfl) (List.mem_cons_of_mem _ (List.mem_append_left _ (List.mem_append_left _ (List.mem_of_getElem? (i := 0) rfl)))) rfl rfl dX10_end_6 ?_
    refine x_get (ref := "NoteHouse$Tape") F hP hc6 rfl (fun _ h => List.mem_cons_of_mem _ (List.mem_append_right _ (h))) 1 (Nat.le_of_ble_eq_true rfl) (List.mem_cons_of_mem _ (List.mem_append_left _ (List.mem_append_left _ (List.mem_of_getElem? (i := 1) rfl)))) rfl rfl dX10_end_9 ?_
    refine lv_icmp_le (tgt := 17) hx hb dX10_end_12 (by decide) (fun c_2 => ?_) (fun c_2 => ?_)
    · refine lv_aload_n hx hb dX10_end_17 rfl (lv_at hl 0 rfl) ?_
      refine x_get (ref := "NoteHouse") F hP hc rfl (fun _ h => List.mem_cons_of_mem _ (List.mem_append_left _ (List.mem_append_right _ (h)))) 6 (Nat.le_of_ble_eq_true rfl) (List.mem_cons_of_mem _ (List.mem_append_left _ (List.mem_append_left _ (List.mem_of_getElem? (i := 0) rfl)))) rfl rfl dX10_end_18 ?_
      refine lv_iload_n hx hb dX10_end_21 rfl (lv_at hl 1 rfl) ?_
      refine y_put (ref := "NoteHouse$Tape") F hP hD hS hc6 rfl (fun _ h => List.mem_cons_of_mem _ (List.mem_append_right _ (h))) tyX7_ok nmX7 1 (Nat.le_of_ble_eq_true rfl) (List.mem_cons_of_mem _ (List.mem_append_left _ (List.mem_append_left _ (List.mem_of_getElem? (i := 1) rfl)))) rfl rfl rfl rfl (Nat.le_of_ble_eq_true rfl) dX10_end_22 (fun w3 ew4 H locs hP hD hS => ?_)
      have k5 := wd_at.pt ew4 hc (wd_nk hc hc6 rfl)
      have k6 : wd_at w3 a6 (.inr (7, [.ref b6, .int n, .int at0])) := wd_at.ps ew4 hc6
      have kp7 := kp0.put ew4 s6
      refine lv_iload_n hx hb dX10_end_25 rfl (lv_at hl 1 rfl) ?_
      exact y_ir K hP hD hS (Nat.le_of_ble_eq_true rfl) (Nat.le_of_ble_eq_true rfl) (ty := .int) rfl rfl dX10_end_26 (⟨by simp [sp_end, c_1, c_2], kp7⟩)
    · refine lv_iconst (v := (-1)) hx hb dX10_end_15 (by decide) ?_
      exact y_ir K hP hD hS (Nat.le_of_ble_eq_true rfl) (Nat.le_of_ble_eq_true rfl) (ty := .int) rfl rfl dX10_end_16 (⟨by simp [sp_end, c_1, c_2], kp0⟩)
set_option maxHeartbeats 4000000 in
set_option maxRecDepth 100000 in
theorem c_X7_hasRoom (l : Launch) (D : va_G) (cy : Nat → ClassId) (w : Wd) (t b : Nat) (at0 : Int32) (hc : wd_at w t (.inr (7, [.ref b, .int 0, .int at0])))   : Ct l D cy yX7_hasRoom wsX7_hasRoom ({ frames := 0, cells := 0, slots := 0, locals := 0 }) [.ref t, .int 20] w (fun v w1 => v = some (.int 1) ∧ w = w1) := by
  refine Ct.by (cc := cX7_hasRoom) (maxL := 2) (ret := (some .boolean)) (by decide +kernel) rfl (Nat.le_of_ble_eq_true rfl) ?_
  intro p e s m args below meth c A Q F hnm K ls hl
  have F : wd_Fx p s m args meth c cX7_hasRoom 2 wsX7_hasRoom RX7 D cy A := F
  have hl : lv_has ls 2 [(0, .ref t), (1, .int 20)] := hl
  have hx := F.1.1
  have hb := F.1.2.1
  have hown := F.1.2.2.2.1
  have hts := F.1.2.2.2.2
  intro H locs hP hD hS
  refine lv_aload_n hx hb dX7_hasRoom_0 rfl (lv_at hl 0 rfl) ?_
  refine x_get (ref := "NoteHouse$Tape") F hP hc rfl (fun _ h => List.mem_cons_of_mem _ (List.mem_append_right _ (h))) 1 (Nat.le_of_ble_eq_true rfl) (List.mem_cons_of_mem _ (List.mem_append_left _ (List.mem_of_getElem? (i := 0) rfl))) rfl rfl dX7_hasRoom_1 ?_
  refine lv_iload_n hx hb dX7_hasRoom_4 rfl (lv_at hl 1 rfl) ?_
  refine lv_iadd hx hb dX7_hasRoom_5 ?_
  rw [show (0 + 20 : Int32) = 20 from by decide]
  refine lv_sipush (v := 300) hx hb dX7_hasRoom_6 (by decide) ?_
  refine lv_icmp_gt (tgt := 16) hx hb dX7_hasRoom_9 (by decide) (fun c_1 => absurd c_1 (show ¬ (300 : Int32) < (20 : Int32) by decide)) (fun c_1 => ?_)
  refine lv_iconst (v := 1) hx hb dX7_hasRoom_12 (by decide) ?_
  refine lv_goto (tgt := 17) hx hb dX7_hasRoom_13 (by decide) ?_
  exact y_ir K hP hD hS (Nat.le_of_ble_eq_true rfl) (Nat.le_of_ble_eq_true rfl) (ty := .boolean) rfl rfl dX7_hasRoom_17 (⟨rfl, rfl⟩)
set_option maxHeartbeats 4000000 in
set_option maxRecDepth 100000 in
theorem c_X7_append (l : Launch) (D : va_G) (cy : Nat → ClassId) (w : Wd) (t b k : Nat) (at0 x : Int32) (f : Nat → Int32) (hc : wd_at w t (.inr (7, [.ref b, .int (nI k), .int at0]))) (hb0 : wd_at w b (.inl (cy 0, 300, .inl f)))  (S : Nat → Prop) (st : S t) (sb : S b) (hk : k + 4 ≤ 300) : Ct l D cy yX7_append wsX7_append ({ frames := 0, cells := 0, slots := 0, locals := 0 }) [.ref t, .int x] w (fun v w1 => v = none ∧ wd_kp S w w1 ∧ ∃ g : Nat → Int32, wd_at w1 t (.inr (7, [.ref b, .int (nI (k + 4)), .int at0])) ∧ wd_at w1 b (.inl (cy 0, 300, .inl g))) := by
  refine Ct.by (cc := cX7_append) (maxL := 3) (ret := none) (by decide +kernel) rfl (Nat.le_of_ble_eq_true rfl) ?_
  intro p e s m args below meth c A Q F hnm K ls hl
  have F : wd_Fx p s m args meth c cX7_append 3 wsX7_append RX7 D cy A := F
  have hl : lv_has ls 3 [(0, .ref t), (1, .int x)] := hl
  have hx := F.1.1
  have hb := F.1.2.1
  have hown := F.1.2.2.2.1
  have hts := F.1.2.2.2.2
  intro H locs hP hD hS
  have kp0 : wd_kp S w w := wd_kp.rf
  refine lv_bipush (v := 24) hx hb dX7_append_0 (by decide) ?_
  refine lv_istore_n (lv' := [(2, .int 24), (0, .ref t), (1, .int x)]) hx hb dX7_append_2 rfl hl (by decide) rfl (fun ls hl => ?_)
  refine lv_iload_n hx hb dX7_append_3 rfl (lv_at hl 0 rfl) ?_
  refine lv_if_lt (tgt := 46) hx hb dX7_append_4 (by decide) (fun c_1 => absurd c_1 (show ¬ (24 : Int32) < (0 : Int32) by decide)) (fun c_1 => ?_)
  refine lv_aload_n hx hb dX7_append_7 rfl (lv_at hl 1 rfl) ?_
  refine x_get (ref := "NoteHouse$Tape") F hP hc rfl (fun _ h => List.mem_cons_of_mem _ (List.mem_append_right _ (h))) 1 (Nat.le_of_ble_eq_true rfl) (List.mem_cons_of_mem _ (List.mem_append_left _ (List.mem_of_getElem? (i := 0) rfl))) rfl rfl dX7_append_8 ?_
  refine lv_sipush (v := 300) hx hb dX7_append_11 (by decide) ?_
  refine lv_icmp_ge (tgt := 46) hx hb dX7_append_14 (by decide) (fun c_2 => absurd c_2 (nI_ge (a := k) (b := 300) (by omega) (by decide))) (fun c_2 => ?_)
  refine lv_aload_n hx hb dX7_append_17 rfl (lv_at hl 1 rfl) ?_
  refine x_get (ref := "NoteHouse$Tape") F hP hc rfl (fun _ h => List.mem_cons_of_mem _ (List.mem_append_right _ (h))) 0 (Nat.le_of_ble_eq_true rfl) (List.mem_cons_of_mem _ (List.mem_append_left _ (List.mem_of_getElem? (i := 1) rfl))) rfl rfl dX7_append_18 ?_
  refine lv_aload_n hx hb dX7_append_21 rfl (lv_at hl 1 rfl) ?_
  refine x_get (ref := "NoteHouse$Tape") F hP hc rfl (fun _ h => List.mem_cons_of_mem _ (List.mem_append_right _ (h))) 1 (Nat.le_of_ble_eq_true rfl) (List.mem_cons_of_mem _ (List.mem_append_left _ (List.mem_of_getElem? (i := 0) rfl))) rfl rfl dX7_append_22 ?_
  refine lv_iload_n hx hb dX7_append_25 rfl (lv_at hl 2 rfl) ?_
  refine lv_iload_n hx hb dX7_append_26 rfl (lv_at hl 0 rfl) ?_
  refine lv_ishr hx hb dX7_append_27 ?_
  refine lv_i2b (v := (x >>> (24 &&& 31)).toInt8.toInt32) hx hb dX7_append_28 (rfl) ?_
  refine y_bast F hP hD hS hb0 (vp_in_nI (n := k) (by omega) (by decide)) dX7_append_29 (fun w3 ew4 H locs hP hD hS => ?_)
  have k5 := wd_at.pt ew4 hc (wd_nk hc hb0 rfl)
  have k6 : wd_at w3 b (.inl (cy 0, 300, .inl (upd f (nI k).toNatClampNeg (vp_nar .byte ((x >>> (24 &&& 31)).toInt8.toInt32))))) := wd_at.ps ew4 hb0
  have kp7 := kp0.put ew4 sb
  refine lv_aload_n hx hb dX7_append_30 rfl (lv_at hl 1 rfl) ?_
  refine lv_dup hx hb dX7_append_31 rfl ?_
  refine x_get (ref := "NoteHouse$Tape") F hP k5 rfl (fun _ h => List.mem_cons_of_mem _ (List.mem_append_right _ (h))) 1 (Nat.le_of_ble_eq_true rfl) (List.mem_cons_of_mem _ (List.mem_append_left _ (List.mem_of_getElem? (i := 0) rfl))) rfl rfl dX7_append_32 ?_
  refine lv_iconst (v := 1) hx hb dX7_append_35 (by decide) ?_
  refine lv_iadd hx hb dX7_append_36 ?_
  rw [show ((nI k) + 1 : Int32) = nI (k + 1) from nI_1 k]
  refine y_put (ref := "NoteHouse$Tape") F hP hD hS k5 rfl (fun _ h => List.mem_cons_of_mem _ (List.mem_append_right _ (h))) tyX7_ok nmX7 1 (Nat.le_of_ble_eq_true rfl) (List.mem_cons_of_mem _ (List.mem_append_left _ (List.mem_of_getElem? (i := 0) rfl))) rfl rfl rfl rfl (Nat.le_of_ble_eq_true rfl) dX7_append_37 (fun w8 ew9 H locs hP hD hS => ?_)
  have k10 : wd_at w8 t (.inr (7, [.ref b, .int (nI (k + 1)), .int at0])) := wd_at.ps ew9 k5
  have k11 := wd_at.pt ew9 k6 (wd_nk k6 k5 rfl)
  have kp12 := kp7.put ew9 st
  refine lv_iinc (v := 16) (lv' := [(2, .int 16), (0, .ref t), (1, .int x)]) hx hb dX7_append_40 hl (k := 0) rfl (by decide) (by decide) rfl (fun ls hl => ?_)
  refine lv_goto (tgt := 3) hx hb dX7_append_43 (by decide) ?_
  refine lv_iload_n hx hb dX7_append_3 rfl (lv_at hl 0 rfl) ?_
  refine lv_if_lt (tgt := 46) hx hb dX7_append_4 (by decide) (fun c_13 => absurd c_13 (show ¬ (16 : Int32) < (0 : Int32) by decide)) (fun c_13 => ?_)
  refine lv_aload_n hx hb dX7_append_7 rfl (lv_at hl 1 rfl) ?_
  refine x_get (ref := "NoteHouse$Tape") F hP k10 rfl (fun _ h => List.mem_cons_of_mem _ (List.mem_append_right _ (h))) 1 (Nat.le_of_ble_eq_true rfl) (List.mem_cons_of_mem _ (List.mem_append_left _ (List.mem_of_getElem? (i := 0) rfl))) rfl rfl dX7_append_8 ?_
  refine lv_sipush (v := 300) hx hb dX7_append_11 (by decide) ?_
  refine lv_icmp_ge (tgt := 46) hx hb dX7_append_14 (by decide) (fun c_14 => absurd c_14 (nI_ge (a := (k + 1)) (b := 300) (by omega) (by decide))) (fun c_14 => ?_)
  refine lv_aload_n hx hb dX7_append_17 rfl (lv_at hl 1 rfl) ?_
  refine x_get (ref := "NoteHouse$Tape") F hP k10 rfl (fun _ h => List.mem_cons_of_mem _ (List.mem_append_right _ (h))) 0 (Nat.le_of_ble_eq_true rfl) (List.mem_cons_of_mem _ (List.mem_append_left _ (List.mem_of_getElem? (i := 1) rfl))) rfl rfl dX7_append_18 ?_
  refine lv_aload_n hx hb dX7_append_21 rfl (lv_at hl 1 rfl) ?_
  refine x_get (ref := "NoteHouse$Tape") F hP k10 rfl (fun _ h => List.mem_cons_of_mem _ (List.mem_append_right _ (h))) 1 (Nat.le_of_ble_eq_true rfl) (List.mem_cons_of_mem _ (List.mem_append_left _ (List.mem_of_getElem? (i := 0) rfl))) rfl rfl dX7_append_22 ?_
  refine lv_iload_n hx hb dX7_append_25 rfl (lv_at hl 2 rfl) ?_
  refine lv_iload_n hx hb dX7_append_26 rfl (lv_at hl 0 rfl) ?_
  refine lv_ishr hx hb dX7_append_27 ?_
  refine lv_i2b (v := (x >>> (16 &&& 31)).toInt8.toInt32) hx hb dX7_append_28 (rfl) ?_
  refine y_bast F hP hD hS k11 (vp_in_nI (n := (k + 1)) (by omega) (by decide)) dX7_append_29 (fun w15 ew16 H locs hP hD hS => ?_)
  have k17 := wd_at.pt ew16 k10 (wd_nk k10 k11 rfl)
  have k18 : wd_at w15 b (.inl (cy 0, 300, .inl (upd (upd f (nI k).toNatClampNeg (vp_nar .byte ((x >>> (24 &&& 31)).toInt8.toInt32))) (nI (k + 1)).toNatClampNeg (vp_nar .byte ((x >>> (16 &&& 31)).toInt8.toInt32))))) := wd_at.ps ew16 k11
  have kp19 := kp12.put ew16 sb
  refine lv_aload_n hx hb dX7_append_30 rfl (lv_at hl 1 rfl) ?_
  refine lv_dup hx hb dX7_append_31 rfl ?_
  refine x_get (ref := "NoteHouse$Tape") F hP k17 rfl (fun _ h => List.mem_cons_of_mem _ (List.mem_append_right _ (h))) 1 (Nat.le_of_ble_eq_true rfl) (List.mem_cons_of_mem _ (List.mem_append_left _ (List.mem_of_getElem? (i := 0) rfl))) rfl rfl dX7_append_32 ?_
  refine lv_iconst (v := 1) hx hb dX7_append_35 (by decide) ?_
  refine lv_iadd hx hb dX7_append_36 ?_
  rw [show ((nI (k + 1)) + 1 : Int32) = nI (k + 2) from nI_1 (k + 1)]
  refine y_put (ref := "NoteHouse$Tape") F hP hD hS k17 rfl (fun _ h => List.mem_cons_of_mem _ (List.mem_append_right _ (h))) tyX7_ok nmX7 1 (Nat.le_of_ble_eq_true rfl) (List.mem_cons_of_mem _ (List.mem_append_left _ (List.mem_of_getElem? (i := 0) rfl))) rfl rfl rfl rfl (Nat.le_of_ble_eq_true rfl) dX7_append_37 (fun w20 ew21 H locs hP hD hS => ?_)
  have k22 : wd_at w20 t (.inr (7, [.ref b, .int (nI (k + 2)), .int at0])) := wd_at.ps ew21 k17
  have k23 := wd_at.pt ew21 k18 (wd_nk k18 k17 rfl)
  have kp24 := kp19.put ew21 st
  refine lv_iinc (v := 8) (lv' := [(2, .int 8), (0, .ref t), (1, .int x)]) hx hb dX7_append_40 hl (k := 0) rfl (by decide) (by decide) rfl (fun ls hl => ?_)
  refine lv_goto (tgt := 3) hx hb dX7_append_43 (by decide) ?_
  refine lv_iload_n hx hb dX7_append_3 rfl (lv_at hl 0 rfl) ?_
  refine lv_if_lt (tgt := 46) hx hb dX7_append_4 (by decide) (fun c_25 => absurd c_25 (show ¬ (8 : Int32) < (0 : Int32) by decide)) (fun c_25 => ?_)
  refine lv_aload_n hx hb dX7_append_7 rfl (lv_at hl 1 rfl) ?_
  refine x_get (ref := "NoteHouse$Tape") F hP k22 rfl (fun _ h => List.mem_cons_of_mem _ (List.mem_append_right _ (h))) 1 (Nat.le_of_ble_eq_true rfl) (List.mem_cons_of_mem _ (List.mem_append_left _ (List.mem_of_getElem? (i := 0) rfl))) rfl rfl dX7_append_8 ?_
  refine lv_sipush (v := 300) hx hb dX7_append_11 (by decide) ?_
  refine lv_icmp_ge (tgt := 46) hx hb dX7_append_14 (by decide) (fun c_26 => absurd c_26 (nI_ge (a := (k + 2)) (b := 300) (by omega) (by decide))) (fun c_26 => ?_)
  refine lv_aload_n hx hb dX7_append_17 rfl (lv_at hl 1 rfl) ?_
  refine x_get (ref := "NoteHouse$Tape") F hP k22 rfl (fun _ h => List.mem_cons_of_mem _ (List.mem_append_right _ (h))) 0 (Nat.le_of_ble_eq_true rfl) (List.mem_cons_of_mem _ (List.mem_append_left _ (List.mem_of_getElem? (i := 1) rfl))) rfl rfl dX7_append_18 ?_
  refine lv_aload_n hx hb dX7_append_21 rfl (lv_at hl 1 rfl) ?_
  refine x_get (ref := "NoteHouse$Tape") F hP k22 rfl (fun _ h => List.mem_cons_of_mem _ (List.mem_append_right _ (h))) 1 (Nat.le_of_ble_eq_true rfl) (List.mem_cons_of_mem _ (List.mem_append_left _ (List.mem_of_getElem? (i := 0) rfl))) rfl rfl dX7_append_22 ?_
  refine lv_iload_n hx hb dX7_append_25 rfl (lv_at hl 2 rfl) ?_
  refine lv_iload_n hx hb dX7_append_26 rfl (lv_at hl 0 rfl) ?_
  refine lv_ishr hx hb dX7_append_27 ?_
  refine lv_i2b (v := (x >>> (8 &&& 31)).toInt8.toInt32) hx hb dX7_append_28 (rfl) ?_
  refine y_bast F hP hD hS k23 (vp_in_nI (n := (k + 2)) (by omega) (by decide)) dX7_append_29 (fun w27 ew28 H locs hP hD hS => ?_)
  have k29 := wd_at.pt ew28 k22 (wd_nk k22 k23 rfl)
  have k30 : wd_at w27 b (.inl (cy 0, 300, .inl (upd (upd (upd f (nI k).toNatClampNeg (vp_nar .byte ((x >>> (24 &&& 31)).toInt8.toInt32))) (nI (k + 1)).toNatClampNeg (vp_nar .byte ((x >>> (16 &&& 31)).toInt8.toInt32))) (nI (k + 2)).toNatClampNeg (vp_nar .byte ((x >>> (8 &&& 31)).toInt8.toInt32))))) := wd_at.ps ew28 k23
  have kp31 := kp24.put ew28 sb
  refine lv_aload_n hx hb dX7_append_30 rfl (lv_at hl 1 rfl) ?_
  refine lv_dup hx hb dX7_append_31 rfl ?_
  refine x_get (ref := "NoteHouse$Tape") F hP k29 rfl (fun _ h => List.mem_cons_of_mem _ (List.mem_append_right _ (h))) 1 (Nat.le_of_ble_eq_true rfl) (List.mem_cons_of_mem _ (List.mem_append_left _ (List.mem_of_getElem? (i := 0) rfl))) rfl rfl dX7_append_32 ?_
  refine lv_iconst (v := 1) hx hb dX7_append_35 (by decide) ?_
  refine lv_iadd hx hb dX7_append_36 ?_
  rw [show ((nI (k + 2)) + 1 : Int32) = nI (k + 3) from nI_1 (k + 2)]
  refine y_put (ref := "NoteHouse$Tape") F hP hD hS k29 rfl (fun _ h => List.mem_cons_of_mem _ (List.mem_append_right _ (h))) tyX7_ok nmX7 1 (Nat.le_of_ble_eq_true rfl) (List.mem_cons_of_mem _ (List.mem_append_left _ (List.mem_of_getElem? (i := 0) rfl))) rfl rfl rfl rfl (Nat.le_of_ble_eq_true rfl) dX7_append_37 (fun w32 ew33 H locs hP hD hS => ?_)
  have k34 : wd_at w32 t (.inr (7, [.ref b, .int (nI (k + 3)), .int at0])) := wd_at.ps ew33 k29
  have k35 := wd_at.pt ew33 k30 (wd_nk k30 k29 rfl)
  have kp36 := kp31.put ew33 st
  refine lv_iinc (v := 0) (lv' := [(2, .int 0), (0, .ref t), (1, .int x)]) hx hb dX7_append_40 hl (k := 0) rfl (by decide) (by decide) rfl (fun ls hl => ?_)
  refine lv_goto (tgt := 3) hx hb dX7_append_43 (by decide) ?_
  refine lv_iload_n hx hb dX7_append_3 rfl (lv_at hl 0 rfl) ?_
  refine lv_if_lt (tgt := 46) hx hb dX7_append_4 (by decide) (fun c_37 => absurd c_37 (show ¬ (0 : Int32) < (0 : Int32) by decide)) (fun c_37 => ?_)
  refine lv_aload_n hx hb dX7_append_7 rfl (lv_at hl 1 rfl) ?_
  refine x_get (ref := "NoteHouse$Tape") F hP k34 rfl (fun _ h => List.mem_cons_of_mem _ (List.mem_append_right _ (h))) 1 (Nat.le_of_ble_eq_true rfl) (List.mem_cons_of_mem _ (List.mem_append_left _ (List.mem_of_getElem? (i := 0) rfl))) rfl rfl dX7_append_8 ?_
  refine lv_sipush (v := 300) hx hb dX7_append_11 (by decide) ?_
  refine lv_icmp_ge (tgt := 46) hx hb dX7_append_14 (by decide) (fun c_38 => absurd c_38 (nI_ge (a := (k + 3)) (b := 300) (by omega) (by decide))) (fun c_38 => ?_)
  refine lv_aload_n hx hb dX7_append_17 rfl (lv_at hl 1 rfl) ?_
  refine x_get (ref := "NoteHouse$Tape") F hP k34 rfl (fun _ h => List.mem_cons_of_mem _ (List.mem_append_right _ (h))) 0 (Nat.le_of_ble_eq_true rfl) (List.mem_cons_of_mem _ (List.mem_append_left _ (List.mem_of_getElem? (i := 1) rfl))) rfl rfl dX7_append_18 ?_
  refine lv_aload_n hx hb dX7_append_21 rfl (lv_at hl 1 rfl) ?_
  refine x_get (ref := "NoteHouse$Tape") F hP k34 rfl (fun _ h => List.mem_cons_of_mem _ (List.mem_append_right _ (h))) 1 (Nat.le_of_ble_eq_true rfl) (List.mem_cons_of_mem _ (List.mem_append_left _ (List.mem_of_getElem? (i := 0) rfl))) rfl rfl dX7_append_22 ?_
  refine lv_iload_n hx hb dX7_append_25 rfl (lv_at hl 2 rfl) ?_
  refine lv_iload_n hx hb dX7_append_26 rfl (lv_at hl 0 rfl) ?_
  refine lv_ishr hx hb dX7_append_27 ?_
  refine lv_i2b (v := (x >>> (0 &&& 31)).toInt8.toInt32) hx hb dX7_append_28 (rfl) ?_
  refine y_bast F hP hD hS k35 (vp_in_nI (n := (k + 3)) (by omega) (by decide)) dX7_append_29 (fun w39 ew40 H locs hP hD hS => ?_)
  have k41 := wd_at.pt ew40 k34 (wd_nk k34 k35 rfl)
  have k42 : wd_at w39 b (.inl (cy 0, 300, .inl (upd (upd (upd (upd f (nI k).toNatClampNeg (vp_nar .byte ((x >>> (24 &&& 31)).toInt8.toInt32))) (nI (k + 1)).toNatClampNeg (vp_nar .byte ((x >>> (16 &&& 31)).toInt8.toInt32))) (nI (k + 2)).toNatClampNeg (vp_nar .byte ((x >>> (8 &&& 31)).toInt8.toInt32))) (nI (k + 3)).toNatClampNeg (vp_nar .byte ((x >>> (0 &&& 31)).toInt8.toInt32))))) := wd_at.ps ew40 k35
  have kp43 := kp36.put ew40 sb
  refine lv_aload_n hx hb dX7_append_30 rfl (lv_at hl 1 rfl) ?_
  refine lv_dup hx hb dX7_append_31 rfl ?_
  refine x_get (ref := "NoteHouse$Tape") F hP k41 rfl (fun _ h => List.mem_cons_of_mem _ (List.mem_append_right _ (h))) 1 (Nat.le_of_ble_eq_true rfl) (List.mem_cons_of_mem _ (List.mem_append_left _ (List.mem_of_getElem? (i := 0) rfl))) rfl rfl dX7_append_32 ?_
  refine lv_iconst (v := 1) hx hb dX7_append_35 (by decide) ?_
  refine lv_iadd hx hb dX7_append_36 ?_
  rw [show ((nI (k + 3)) + 1 : Int32) = nI (k + 4) from nI_1 (k + 3)]
  refine y_put (ref := "NoteHouse$Tape") F hP hD hS k41 rfl (fun _ h => List.mem_cons_of_mem _ (List.mem_append_right _ (h))) tyX7_ok nmX7 1 (Nat.le_of_ble_eq_true rfl) (List.mem_cons_of_mem _ (List.mem_append_left _ (List.mem_of_getElem? (i := 0) rfl))) rfl rfl rfl rfl (Nat.le_of_ble_eq_true rfl) dX7_append_37 (fun w44 ew45 H locs hP hD hS => ?_)
  have k46 : wd_at w44 t (.inr (7, [.ref b, .int (nI (k + 4)), .int at0])) := wd_at.ps ew45 k41
  have k47 := wd_at.pt ew45 k42 (wd_nk k42 k41 rfl)
  have kp48 := kp43.put ew45 st
  refine lv_iinc (v := (-8)) (lv' := [(2, .int (-8)), (0, .ref t), (1, .int x)]) hx hb dX7_append_40 hl (k := 0) rfl (by decide) (by decide) rfl (fun ls hl => ?_)
  refine lv_goto (tgt := 3) hx hb dX7_append_43 (by decide) ?_
  refine lv_iload_n hx hb dX7_append_3 rfl (lv_at hl 0 rfl) ?_
  refine lv_if_lt (tgt := 46) hx hb dX7_append_4 (by decide) (fun c_49 => ?_) (fun c_49 => absurd (show (-8 : Int32) < (0 : Int32) by decide) c_49)
  exact y_vr K hP hD hS (Nat.le_of_ble_eq_true rfl) (Nat.le_of_ble_eq_true rfl) rfl dX7_append_46 (⟨rfl, kp48, _, k46, k47⟩)
set_option maxHeartbeats 4000000 in
set_option maxRecDepth 100000 in
theorem c_X10_feed (l : Launch) (D : va_G) (cy : Nat → ClassId) (w : Wd) (x a0 a1 a2 a3 a4 a5 a6 a7 a8 a9 a10 a11 : Nat) (b6 : Nat) (at0 : Int32) (f : Nat → Int32) (c1 c2 c3 c4 c5 : Int32) (hc : wd_at w x (.inr (10, [.ref a0, .ref a1, .ref a2, .ref a3, .ref a4, .ref a5, .ref a6, .ref a7, .ref a8, .ref a9, .ref a10, .ref a11, .int 0, .int 0, .int 0, .int 0, .int 0]))) (hc6 : wd_at w a6 (.inr (7, [.ref b6, .int 0, .int at0]))) (hb6 : wd_at w b6 (.inl (cy 0, 300, .inl f)))  (S : Nat → Prop) (s6 : S a6) (sb : S b6)  : Ct l D cy yX10_feed wsX10_feed ({ frames := 1, cells := 0, slots := 0, locals := 22 }) [.ref x, .int c1, .int c2, .int c3, .int c4, .int c5] w (fun v w1 => v = some (.int 20) ∧ wd_kp S w w1) := by
  refine Ct.by (cc := cX10_feed) (maxL := 6) (ret := (some .int)) (by decide +kernel) rfl (Nat.le_of_ble_eq_true rfl) ?_
  intro p e s m args below meth c A Q F hnm K ls hl
  have F : wd_Fx p s m args meth c cX10_feed 6 wsX10_feed RX10 D cy A := F
  have hl : lv_has ls 6 [(0, .ref x), (1, .int c1), (2, .int c2), (3, .int c3), (4, .int c4), (5, .int c5)] := hl
  have hx := F.1.1
  have hb := F.1.2.1
  have hown := F.1.2.2.2.1
  have hts := F.1.2.2.2.2
  intro H locs hP hD hS
  have kp0 : wd_kp S w w := wd_kp.rf
  refine lv_aload_n hx hb dX10_feed_0 rfl (lv_at hl 0 rfl) ?_
  refine x_get (ref := "NoteHouse") F hP hc rfl (fun _ h => List.mem_cons_of_mem _ (List.mem_append_left _ (List.mem_append_right _ (h)))) 6 (Nat.le_of_ble_eq_true rfl) (List.mem_cons_of_mem _ (List.mem_append_left _ (List.mem_append_left _ (List.mem_of_getElem? (i := 0) rfl)))) rfl rfl dX10_feed_1 ?_
  refine lv_bipush (v := 20) hx hb dX10_feed_4 (by decide) ?_
  refine x_callV (n := 1) (As := [.int 20]) (rest := []) F hP hD hS (c_X7_hasRoom l D cy w a6 b6 at0 hc6) gX10_feed_X7_hasRoom rfl rfl (by decide +kernel) ⟨(Nat.le_of_ble_eq_true rfl), (Nat.le_of_ble_eq_true rfl)⟩ rfl hl.1 (Nat.le_of_ble_eq_true rfl) hc6 rfl dX10_feed_6 rfl ⟨(Nat.le_of_ble_eq_true rfl), (Nat.le_of_ble_eq_true rfl)⟩ (fun v2 w3 hp1 H locs hP hD hS => ?_)
  obtain ⟨rfl, rfl⟩ := hp1
  refine W.eq (g2 := F0 m 9 ls [.int 1]) rfl (W.widen (k := 0) (n := 0) (Nat.le_of_ble_eq_true rfl) (Nat.le_of_ble_eq_true rfl) ?_)
  refine lv_if_ne (tgt := 14) hx hb dX10_feed_9 (by decide) (fun c_4 => ?_) (fun c_4 => absurd c_4 (show ¬ (1 : Int32) = (0 : Int32) by decide))
  refine lv_aload_n hx hb dX10_feed_14 rfl (lv_at hl 0 rfl) ?_
  refine x_get (ref := "NoteHouse") F hP hc rfl (fun _ h => List.mem_cons_of_mem _ (List.mem_append_left _ (List.mem_append_right _ (h)))) 6 (Nat.le_of_ble_eq_true rfl) (List.mem_cons_of_mem _ (List.mem_append_left _ (List.mem_append_left _ (List.mem_of_getElem? (i := 0) rfl)))) rfl rfl dX10_feed_15 ?_
  refine lv_iload_n hx hb dX10_feed_18 rfl (lv_at hl 1 rfl) ?_
  refine x_callV (n := 1) (As := [.int c1]) (rest := []) F hP hD hS (c_X7_append l D cy w a6 b6 0 at0 c1 f hc6 hb6 (fun b => b = a6 ∨ b = b6) (Or.inl rfl) (Or.inr rfl) (by decide)) gX10_feed_X7_append rfl rfl (by decide +kernel) ⟨(Nat.le_of_ble_eq_true rfl), (Nat.le_of_ble_eq_true rfl)⟩ rfl hl.1 (Nat.le_of_ble_eq_true rfl) hc6 rfl dX10_feed_19 rfl ⟨(Nat.le_of_ble_eq_true rfl), (Nat.le_of_ble_eq_true rfl)⟩ (fun v6 w7 hp5 H locs hP hD hS => ?_)
  obtain ⟨rfl, hp5, g8, k9, k10⟩ := hp5
  have k11 := hp5.2 _ _ hc (fun q => Or.elim q (wd_nk hc hc6 rfl) (fun q : x = b6 => (wd_nk hc hb6 rfl) q))
  have kp12 := kp0.tr hp5 (fun b hm q => (fun q => Or.elim q (fun q => q ▸ s6) (fun q => q ▸ sb)) q)
  refine W.eq (g2 := F0 m 22 ls []) rfl (W.widen (k := 0) (n := 0) (Nat.le_of_ble_eq_true rfl) (Nat.le_of_ble_eq_true rfl) ?_)
  refine lv_aload_n hx hb dX10_feed_22 rfl (lv_at hl 0 rfl) ?_
  refine x_get (ref := "NoteHouse") F hP k11 rfl (fun _ h => List.mem_cons_of_mem _ (List.mem_append_left _ (List.mem_append_right _ (h)))) 6 (Nat.le_of_ble_eq_true rfl) (List.mem_cons_of_mem _ (List.mem_append_left _ (List.mem_append_left _ (List.mem_of_getElem? (i := 0) rfl)))) rfl rfl dX10_feed_23 ?_
  refine lv_iload_n hx hb dX10_feed_26 rfl (lv_at hl 2 rfl) ?_
  refine x_callV (n := 1) (As := [.int c2]) (rest := []) F hP hD hS (c_X7_append l D cy w7 a6 b6 4 at0 c2 g8 k9 k10 (fun b => b = a6 ∨ b = b6) (Or.inl rfl) (Or.inr rfl) (by decide)) gX10_feed_X7_append rfl rfl (by decide +kernel) ⟨(Nat.le_of_ble_eq_true rfl), (Nat.le_of_ble_eq_true rfl)⟩ rfl hl.1 (Nat.le_of_ble_eq_true rfl) k9 rfl dX10_feed_27 rfl ⟨(Nat.le_of_ble_eq_true rfl), (Nat.le_of_ble_eq_true rfl)⟩ (fun v14 w15 hp13 H locs hP hD hS => ?_)
  obtain ⟨rfl, hp13, g16, k17, k18⟩ := hp13
  have k19 := hp13.2 _ _ k11 (fun q => Or.elim q (wd_nk k11 k9 rfl) (fun q : x = b6 => (wd_nk k11 k10 rfl) q))
  have kp20 := kp12.tr hp13 (fun b hm q => (fun q => Or.elim q (fun q => q ▸ s6) (fun q => q ▸ sb)) q)
  refine W.eq (g2 := F0 m 30 ls []) rfl (W.widen (k := 0) (n := 0) (Nat.le_of_ble_eq_true rfl) (Nat.le_of_ble_eq_true rfl) ?_)
  refine lv_aload_n hx hb dX10_feed_30 rfl (lv_at hl 0 rfl) ?_
  refine x_get (ref := "NoteHouse") F hP k19 rfl (fun _ h => List.mem_cons_of_mem _ (List.mem_append_left _ (List.mem_append_right _ (h)))) 6 (Nat.le_of_ble_eq_true rfl) (List.mem_cons_of_mem _ (List.mem_append_left _ (List.mem_append_left _ (List.mem_of_getElem? (i := 0) rfl)))) rfl rfl dX10_feed_31 ?_
  refine lv_iload_n hx hb dX10_feed_34 rfl (lv_at hl 3 rfl) ?_
  refine x_callV (n := 1) (As := [.int c3]) (rest := []) F hP hD hS (c_X7_append l D cy w15 a6 b6 8 at0 c3 g16 k17 k18 (fun b => b = a6 ∨ b = b6) (Or.inl rfl) (Or.inr rfl) (by decide)) gX10_feed_X7_append rfl rfl (by decide +kernel) ⟨(Nat.le_of_ble_eq_true rfl), (Nat.le_of_ble_eq_true rfl)⟩ rfl hl.1 (Nat.le_of_ble_eq_true rfl) k17 rfl dX10_feed_35 rfl ⟨(Nat.le_of_ble_eq_true rfl), (Nat.le_of_ble_eq_true rfl)⟩ (fun v22 w23 hp21 H locs hP hD hS => ?_)
  obtain ⟨rfl, hp21, g24, k25, k26⟩ := hp21
  have k27 := hp21.2 _ _ k19 (fun q => Or.elim q (wd_nk k19 k17 rfl) (fun q : x = b6 => (wd_nk k19 k18 rfl) q))
  have kp28 := kp20.tr hp21 (fun b hm q => (fun q => Or.elim q (fun q => q ▸ s6) (fun q => q ▸ sb)) q)
  refine W.eq (g2 := F0 m 38 ls []) rfl (W.widen (k := 0) (n := 0) (Nat.le_of_ble_eq_true rfl) (Nat.le_of_ble_eq_true rfl) ?_)
  refine lv_aload_n hx hb dX10_feed_38 rfl (lv_at hl 0 rfl) ?_
  refine x_get (ref := "NoteHouse") F hP k27 rfl (fun _ h => List.mem_cons_of_mem _ (List.mem_append_left _ (List.mem_append_right _ (h)))) 6 (Nat.le_of_ble_eq_true rfl) (List.mem_cons_of_mem _ (List.mem_append_left _ (List.mem_append_left _ (List.mem_of_getElem? (i := 0) rfl)))) rfl rfl dX10_feed_39 ?_
  refine lv_iload hx hb dX10_feed_42 (lv_at hl 4 rfl) ?_
  refine x_callV (n := 1) (As := [.int c4]) (rest := []) F hP hD hS (c_X7_append l D cy w23 a6 b6 12 at0 c4 g24 k25 k26 (fun b => b = a6 ∨ b = b6) (Or.inl rfl) (Or.inr rfl) (by decide)) gX10_feed_X7_append rfl rfl (by decide +kernel) ⟨(Nat.le_of_ble_eq_true rfl), (Nat.le_of_ble_eq_true rfl)⟩ rfl hl.1 (Nat.le_of_ble_eq_true rfl) k25 rfl dX10_feed_44 rfl ⟨(Nat.le_of_ble_eq_true rfl), (Nat.le_of_ble_eq_true rfl)⟩ (fun v30 w31 hp29 H locs hP hD hS => ?_)
  obtain ⟨rfl, hp29, g32, k33, k34⟩ := hp29
  have k35 := hp29.2 _ _ k27 (fun q => Or.elim q (wd_nk k27 k25 rfl) (fun q : x = b6 => (wd_nk k27 k26 rfl) q))
  have kp36 := kp28.tr hp29 (fun b hm q => (fun q => Or.elim q (fun q => q ▸ s6) (fun q => q ▸ sb)) q)
  refine W.eq (g2 := F0 m 47 ls []) rfl (W.widen (k := 0) (n := 0) (Nat.le_of_ble_eq_true rfl) (Nat.le_of_ble_eq_true rfl) ?_)
  refine lv_aload_n hx hb dX10_feed_47 rfl (lv_at hl 0 rfl) ?_
  refine x_get (ref := "NoteHouse") F hP k35 rfl (fun _ h => List.mem_cons_of_mem _ (List.mem_append_left _ (List.mem_append_right _ (h)))) 6 (Nat.le_of_ble_eq_true rfl) (List.mem_cons_of_mem _ (List.mem_append_left _ (List.mem_append_left _ (List.mem_of_getElem? (i := 0) rfl)))) rfl rfl dX10_feed_48 ?_
  refine lv_iload hx hb dX10_feed_51 (lv_at hl 5 rfl) ?_
  refine x_callV (n := 1) (As := [.int c5]) (rest := []) F hP hD hS (c_X7_append l D cy w31 a6 b6 16 at0 c5 g32 k33 k34 (fun b => b = a6 ∨ b = b6) (Or.inl rfl) (Or.inr rfl) (by decide)) gX10_feed_X7_append rfl rfl (by decide +kernel) ⟨(Nat.le_of_ble_eq_true rfl), (Nat.le_of_ble_eq_true rfl)⟩ rfl hl.1 (Nat.le_of_ble_eq_true rfl) k33 rfl dX10_feed_53 rfl ⟨(Nat.le_of_ble_eq_true rfl), (Nat.le_of_ble_eq_true rfl)⟩ (fun v38 w39 hp37 H locs hP hD hS => ?_)
  obtain ⟨rfl, hp37, g40, k41, k42⟩ := hp37
  have k43 := hp37.2 _ _ k35 (fun q => Or.elim q (wd_nk k35 k33 rfl) (fun q : x = b6 => (wd_nk k35 k34 rfl) q))
  have kp44 := kp36.tr hp37 (fun b hm q => (fun q => Or.elim q (fun q => q ▸ s6) (fun q => q ▸ sb)) q)
  refine W.eq (g2 := F0 m 56 ls []) rfl (W.widen (k := 0) (n := 0) (Nat.le_of_ble_eq_true rfl) (Nat.le_of_ble_eq_true rfl) ?_)
  refine lv_aload_n hx hb dX10_feed_56 rfl (lv_at hl 0 rfl) ?_
  refine x_get (ref := "NoteHouse") F hP k43 rfl (fun _ h => List.mem_cons_of_mem _ (List.mem_append_left _ (List.mem_append_right _ (h)))) 6 (Nat.le_of_ble_eq_true rfl) (List.mem_cons_of_mem _ (List.mem_append_left _ (List.mem_append_left _ (List.mem_of_getElem? (i := 0) rfl)))) rfl rfl dX10_feed_57 ?_
  refine x_get (ref := "NoteHouse$Tape") F hP k41 rfl (fun _ h => List.mem_cons_of_mem _ (List.mem_append_right _ (h))) 1 (Nat.le_of_ble_eq_true rfl) (List.mem_cons_of_mem _ (List.mem_append_left _ (List.mem_append_left _ (List.mem_of_getElem? (i := 1) rfl)))) rfl rfl dX10_feed_60 ?_
  exact y_ir K hP hD hS (Nat.le_of_ble_eq_true rfl) (Nat.le_of_ble_eq_true rfl) (ty := .int) rfl rfl dX10_feed_63 (⟨rfl, kp44⟩)
set_option maxHeartbeats 4000000 in
set_option maxRecDepth 100000 in
theorem c_X3_init (l : Launch) (D : va_G) (cy : Nat → ClassId) (w : Wd) (q : Nat) (n u h g d : Int32) (hq0 : wd_at w q (.inr (3, [.int 0, .int 0, .int 0, .int 0, .int 0, .int 0, .int 0])))  (S : Nat → Prop) (sq : S q)  : Ct l D cy yX3_init wsX3_init ({ frames := 1, cells := 0, slots := 0, locals := 12 }) [.ref q, .int n, .int u, .int h, .int g, .int d] w (fun v w1 => v = none ∧ wd_kp S w w1 ∧ wd_at w1 q (.inr (3, [.int n, .int u, .int h, .int g, .int d, .int 0, .int 0]))) := by
  refine Ct.by (cc := cX3_init) (maxL := 6) (ret := none) (by decide +kernel) rfl (Nat.le_of_ble_eq_true rfl) ?_
  intro p e s m args below meth c A Q F hnm K ls hl
  have F : wd_Fx p s m args meth c cX3_init 6 wsX3_init RX3 D cy A := F
  have hl : lv_has ls 6 [(0, .ref q), (1, .int n), (2, .int u), (3, .int h), (4, .int g), (5, .int d)] := hl
  have hx := F.1.1
  have hb := F.1.2.1
  have hown := F.1.2.2.2.1
  have hts := F.1.2.2.2.2
  intro H locs hP hD hS
  have kp0 : wd_kp S w w := wd_kp.rf
  refine lv_aload_n hx hb dX3_init_0 rfl (lv_at hl 0 rfl) ?_
  refine x_objInit F (List.mem_cons_of_mem _ (List.mem_append_left _ (List.mem_of_getElem? (i := 0) rfl))) (List.mem_cons_of_mem _ (List.mem_append_left _ (List.mem_of_getElem? (i := 1) rfl))) (List.mem_cons_of_mem _ (List.mem_append_left _ (List.mem_of_getElem? (i := 2) rfl))) hl.1 dX3_init_1 (Nat.le_of_ble_eq_true rfl) (Nat.le_of_ble_eq_true rfl) ?_
  refine lv_aload_n hx hb dX3_init_4 rfl (lv_at hl 0 rfl) ?_
  refine lv_iconst (v := 0) hx hb dX3_init_5 (by decide) ?_
  refine y_put (ref := "NoteHouse$Paper") F hP hD hS hq0 rfl (fun _ h => List.mem_cons_of_mem _ (List.mem_append_right _ (h))) tyX3_ok nmX3 5 (Nat.le_of_ble_eq_true rfl) (List.mem_cons_of_mem _ (List.mem_append_left _ (List.mem_of_getElem? (i := 3) rfl))) rfl rfl rfl rfl (Nat.le_of_ble_eq_true rfl) dX3_init_6 (fun w1 ew2 H locs hP hD hS => ?_)
  have k3 : wd_at w1 q (.inr (3, [.int 0, .int 0, .int 0, .int 0, .int 0, .int 0, .int 0])) := wd_at.ps ew2 hq0
  have kp4 := kp0.put ew2 sq
  refine lv_aload_n hx hb dX3_init_9 rfl (lv_at hl 0 rfl) ?_
  refine lv_iconst (v := 0) hx hb dX3_init_10 (by decide) ?_
  refine y_put (ref := "NoteHouse$Paper") F hP hD hS k3 rfl (fun _ h => List.mem_cons_of_mem _ (List.mem_append_right _ (h))) tyX3_ok nmX3 6 (Nat.le_of_ble_eq_true rfl) (List.mem_cons_of_mem _ (List.mem_append_left _ (List.mem_of_getElem? (i := 4) rfl))) rfl rfl rfl rfl (Nat.le_of_ble_eq_true rfl) dX3_init_11 (fun w5 ew6 H locs hP hD hS => ?_)
  have k7 : wd_at w5 q (.inr (3, [.int 0, .int 0, .int 0, .int 0, .int 0, .int 0, .int 0])) := wd_at.ps ew6 k3
  have kp8 := kp4.put ew6 sq
  refine lv_aload_n hx hb dX3_init_14 rfl (lv_at hl 0 rfl) ?_
  refine lv_iload_n hx hb dX3_init_15 rfl (lv_at hl 1 rfl) ?_
  refine y_putF (ref := "NoteHouse$Paper") F hP hD hS k7 rfl (fun _ h => List.mem_cons_of_mem _ (List.mem_append_right _ (h))) tyX3_ok nmX3 hnm 0 (Nat.le_of_ble_eq_true rfl) (List.mem_cons_of_mem _ (List.mem_append_left _ (List.mem_of_getElem? (i := 5) rfl))) rfl rfl rfl rfl rfl (Nat.le_of_ble_eq_true rfl) dX3_init_16 (fun w9 ew10 H locs hP hD hS => ?_)
  have k11 : wd_at w9 q (.inr (3, [.int n, .int 0, .int 0, .int 0, .int 0, .int 0, .int 0])) := wd_at.ps ew10 k7
  have kp12 := kp8.put ew10 sq
  refine lv_aload_n hx hb dX3_init_19 rfl (lv_at hl 0 rfl) ?_
  refine lv_iload_n hx hb dX3_init_20 rfl (lv_at hl 2 rfl) ?_
  refine y_putF (ref := "NoteHouse$Paper") F hP hD hS k11 rfl (fun _ h => List.mem_cons_of_mem _ (List.mem_append_right _ (h))) tyX3_ok nmX3 hnm 1 (Nat.le_of_ble_eq_true rfl) (List.mem_cons_of_mem _ (List.mem_append_left _ (List.mem_of_getElem? (i := 6) rfl))) rfl rfl rfl rfl rfl (Nat.le_of_ble_eq_true rfl) dX3_init_21 (fun w13 ew14 H locs hP hD hS => ?_)
  have k15 : wd_at w13 q (.inr (3, [.int n, .int u, .int 0, .int 0, .int 0, .int 0, .int 0])) := wd_at.ps ew14 k11
  have kp16 := kp12.put ew14 sq
  refine lv_aload_n hx hb dX3_init_24 rfl (lv_at hl 0 rfl) ?_
  refine lv_iload_n hx hb dX3_init_25 rfl (lv_at hl 3 rfl) ?_
  refine y_putF (ref := "NoteHouse$Paper") F hP hD hS k15 rfl (fun _ h => List.mem_cons_of_mem _ (List.mem_append_right _ (h))) tyX3_ok nmX3 hnm 2 (Nat.le_of_ble_eq_true rfl) (List.mem_cons_of_mem _ (List.mem_append_left _ (List.mem_of_getElem? (i := 7) rfl))) rfl rfl rfl rfl rfl (Nat.le_of_ble_eq_true rfl) dX3_init_26 (fun w17 ew18 H locs hP hD hS => ?_)
  have k19 : wd_at w17 q (.inr (3, [.int n, .int u, .int h, .int 0, .int 0, .int 0, .int 0])) := wd_at.ps ew18 k15
  have kp20 := kp16.put ew18 sq
  refine lv_aload_n hx hb dX3_init_29 rfl (lv_at hl 0 rfl) ?_
  refine lv_iload hx hb dX3_init_30 (lv_at hl 4 rfl) ?_
  refine y_putF (ref := "NoteHouse$Paper") F hP hD hS k19 rfl (fun _ h => List.mem_cons_of_mem _ (List.mem_append_right _ (h))) tyX3_ok nmX3 hnm 3 (Nat.le_of_ble_eq_true rfl) (List.mem_cons_of_mem _ (List.mem_append_left _ (List.mem_of_getElem? (i := 8) rfl))) rfl rfl rfl rfl rfl (Nat.le_of_ble_eq_true rfl) dX3_init_32 (fun w21 ew22 H locs hP hD hS => ?_)
  have k23 : wd_at w21 q (.inr (3, [.int n, .int u, .int h, .int g, .int 0, .int 0, .int 0])) := wd_at.ps ew22 k19
  have kp24 := kp20.put ew22 sq
  refine lv_aload_n hx hb dX3_init_35 rfl (lv_at hl 0 rfl) ?_
  refine lv_iload hx hb dX3_init_36 (lv_at hl 5 rfl) ?_
  refine y_putF (ref := "NoteHouse$Paper") F hP hD hS k23 rfl (fun _ h => List.mem_cons_of_mem _ (List.mem_append_right _ (h))) tyX3_ok nmX3 hnm 4 (Nat.le_of_ble_eq_true rfl) (List.mem_cons_of_mem _ (List.mem_append_left _ (List.mem_of_getElem? (i := 9) rfl))) rfl rfl rfl rfl rfl (Nat.le_of_ble_eq_true rfl) dX3_init_38 (fun w25 ew26 H locs hP hD hS => ?_)
  have k27 : wd_at w25 q (.inr (3, [.int n, .int u, .int h, .int g, .int d, .int 0, .int 0])) := wd_at.ps ew26 k23
  have kp28 := kp24.put ew26 sq
  exact y_vr K hP hD hS (Nat.le_of_ble_eq_true rfl) (Nat.le_of_ble_eq_true rfl) rfl dX3_init_41 (⟨rfl, kp28, k27⟩)
set_option maxHeartbeats 4000000 in
set_option maxRecDepth 100000 in
theorem c_X10_addPaper (l : Launch) (D : va_G) (cy : Nat → ClassId) (w : Wd) (x a0 a1 a2 a3 a4 a5 a6 a7 a8 a9 a10 a11 : Nat) (pf : Nat → Option Nat) (n u h g : Int32) (hc : wd_at w x (.inr (10, [.ref a0, .ref a1, .ref a2, .ref a3, .ref a4, .ref a5, .ref a6, .ref a7, .ref a8, .ref a9, .ref a10, .ref a11, .int 0, .int 0, .int 0, .int 0, .int 0]))) (ha2 : wd_at w a2 (.inl (cy 6, 30, .inr (.inr (.inr (.inr pf))))))  (S : Nat → Prop) (sx : S x) (s2 : S a2)  : Ct l D cy yX10_addPaper wsX10_addPaper ({ frames := 2, cells := 1, slots := 7, locals := 42 }) [.ref x, .int n, .int u, .int h, .int g] w (fun v w1 => v = some (.int (sp_add h g)) ∧ wd_kp S w w1) := by
  refine Ct.by (cc := cX10_addPaper) (maxL := 5) (ret := (some .int)) (by decide +kernel) rfl (Nat.le_of_ble_eq_true rfl) ?_
  intro p e s m args below meth c A Q F hnm K ls hl
  have F : wd_Fx p s m args meth c cX10_addPaper 5 wsX10_addPaper RX10 D cy A := F
  have hl : lv_has ls 5 [(0, .ref x), (1, .int n), (2, .int u), (3, .int h), (4, .int g)] := hl
  have hx := F.1.1
  have hb := F.1.2.1
  have hown := F.1.2.2.2.1
  have hts := F.1.2.2.2.2
  intro H locs hP hD hS
  have kp0 : wd_kp S w w := wd_kp.rf
  refine lv_aload_n hx hb dX10_addPaper_0 rfl (lv_at hl 0 rfl) ?_
  refine x_get (ref := "NoteHouse") F hP hc rfl (fun _ h => List.mem_cons_of_mem _ (List.mem_append_left _ (List.mem_append_right _ (h)))) 13 (Nat.le_of_ble_eq_true rfl) (List.mem_cons_of_mem _ (List.mem_append_left _ (List.mem_append_left _ (List.mem_append_left _ (List.mem_of_getElem? (i := 0) rfl))))) rfl rfl dX10_addPaper_1 ?_
  refine lv_bipush (v := 30) hx hb dX10_addPaper_4 (by decide) ?_
  refine lv_icmp_ge (tgt := 28) hx hb dX10_addPaper_6 (by decide) (fun c_1 => absurd c_1 (show ¬ (30 : Int32) ≤ (0 : Int32) by decide)) (fun c_1 => ?_)
  refine lv_iload_n hx hb dX10_addPaper_9 rfl (lv_at hl 3 rfl) ?_
  refine x_callS (n := 1) (As := [.int h]) (rest := []) F hP hD hS (c_X10_isHand l D cy w h) gX10_addPaper_X10_isHand rfl (by decide +kernel) ⟨(Nat.le_of_ble_eq_true rfl), (Nat.le_of_ble_eq_true rfl)⟩ rfl hl.1 (Nat.le_of_ble_eq_true rfl) dX10_addPaper_10 rfl ⟨(Nat.le_of_ble_eq_true rfl), (Nat.le_of_ble_eq_true rfl)⟩ (fun v3 w4 hp2 H locs hP hD hS => ?_)
  obtain ⟨rfl, rfl⟩ := hp2
  refine W.eq (g2 := F0 m 13 ls [.int (wi h 0 99999)]) rfl (W.widen (k := 0) (n := 0) (Nat.le_of_ble_eq_true rfl) (Nat.le_of_ble_eq_true rfl) ?_)
  refine lv_if_eq (tgt := 28) hx hb dX10_addPaper_13 (by decide) (fun c_5 => ?_) (fun c_5 => ?_)
  · refine lv_iconst (v := (-1)) hx hb dX10_addPaper_28 (by decide) ?_
    exact y_ir K hP hD hS (Nat.le_of_ble_eq_true rfl) (Nat.le_of_ble_eq_true rfl) (ty := .int) rfl rfl dX10_addPaper_29 (⟨by simp [sp_add, c_5], kp0⟩)
  · refine lv_iload hx hb dX10_addPaper_16 (lv_at hl 4 rfl) ?_
    refine lv_iconst (v := 1) hx hb dX10_addPaper_18 (by decide) ?_
    refine lv_sipush (v := 2000) hx hb dX10_addPaper_19 (by decide) ?_
    refine x_callS (n := 3) (As := [.int g, .int 1, .int 2000]) (rest := []) F hP hD hS (c_X10_isWithin l D cy w g 1 2000) gX10_addPaper_X10_isWithin rfl (by decide +kernel) ⟨(Nat.le_of_ble_eq_true rfl), (Nat.le_of_ble_eq_true rfl)⟩ rfl hl.1 (Nat.le_of_ble_eq_true rfl) dX10_addPaper_22 rfl ⟨(Nat.le_of_ble_eq_true rfl), (Nat.le_of_ble_eq_true rfl)⟩ (fun v7 w8 hp6 H locs hP hD hS => ?_)
    obtain ⟨rfl, rfl⟩ := hp6
    refine W.eq (g2 := F0 m 25 ls [.int (wi g 1 2000)]) rfl (W.widen (k := 0) (n := 0) (Nat.le_of_ble_eq_true rfl) (Nat.le_of_ble_eq_true rfl) ?_)
    refine lv_if_ne (tgt := 30) hx hb dX10_addPaper_25 (by decide) (fun c_9 => ?_) (fun c_9 => ?_)
    · refine lv_aload_n hx hb dX10_addPaper_30 rfl (lv_at hl 0 rfl) ?_
      refine x_get (ref := "NoteHouse") F hP hc rfl (fun _ h => List.mem_cons_of_mem _ (List.mem_append_left _ (List.mem_append_right _ (h)))) 2 (Nat.le_of_ble_eq_true rfl) (List.mem_cons_of_mem _ (List.mem_append_left _ (List.mem_append_left _ (List.mem_append_left _ (List.mem_of_getElem? (i := 1) rfl))))) rfl rfl dX10_addPaper_31 ?_
      refine lv_aload_n hx hb dX10_addPaper_34 rfl (lv_at hl 0 rfl) ?_
      refine x_get (ref := "NoteHouse") F hP hc rfl (fun _ h => List.mem_cons_of_mem _ (List.mem_append_left _ (List.mem_append_right _ (h)))) 13 (Nat.le_of_ble_eq_true rfl) (List.mem_cons_of_mem _ (List.mem_append_left _ (List.mem_append_left _ (List.mem_append_left _ (List.mem_of_getElem? (i := 0) rfl))))) rfl rfl dX10_addPaper_35 ?_
      refine y_new (fs := [.int 0, .int 0, .int 0, .int 0, .int 0, .int 0, .int 0]) F hP hD hS (ci := 3) rfl (fun _ h => List.mem_cons_of_mem _ (List.mem_append_right _ (h))) tyX3_ok (List.mem_cons_of_mem _ (List.mem_append_left _ (List.mem_append_left _ (List.mem_append_left _ (List.mem_of_getElem? (i := 2) rfl))))) (List.mem_cons_of_mem _ (List.mem_append_left _ (List.mem_append_left _ (List.mem_append_left _ (List.mem_of_getElem? (i := 3) rfl))))) (List.mem_cons_of_mem _ (List.mem_append_left _ (List.mem_append_left _ (List.mem_append_left _ (List.mem_of_getElem? (i := 4) rfl))))) df_3 (Nat.le_of_ble_eq_true rfl) (Nat.le_of_ble_eq_true rfl) dX10_addPaper_38 (fun q10 w11 ew12 hq13 H hP hD hS => ?_)
      refine W.widen (k := 1) (n := 7) (Nat.le_of_ble_eq_true rfl) (Nat.le_of_ble_eq_true rfl) ?_
      have k14 := wd_at.ad ew12 hq13 hc
      have k15 := wd_at.ad ew12 hq13 ha2
      have k16 : wd_at w11 q10 (.inr (3, [.int 0, .int 0, .int 0, .int 0, .int 0, .int 0, .int 0])) := wd_at.nw ew12
      have kp17 := kp0.add ew12 hq13
      refine lv_dup hx hb dX10_addPaper_41 rfl ?_
      refine lv_iload_n hx hb dX10_addPaper_42 rfl (lv_at hl 1 rfl) ?_
      refine lv_iload_n hx hb dX10_addPaper_43 rfl (lv_at hl 2 rfl) ?_
      refine lv_iload_n hx hb dX10_addPaper_44 rfl (lv_at hl 3 rfl) ?_
      refine lv_iload hx hb dX10_addPaper_45 (lv_at hl 4 rfl) ?_
      refine lv_aload_n hx hb dX10_addPaper_47 rfl (lv_at hl 0 rfl) ?_
      refine x_get (ref := "NoteHouse") F hP k14 rfl (fun _ h => List.mem_cons_of_mem _ (List.mem_append_left _ (List.mem_append_right _ (h)))) 12 (Nat.le_of_ble_eq_true rfl) (List.mem_cons_of_mem _ (List.mem_append_left _ (List.mem_append_left _ (List.mem_append_left _ (List.mem_of_getElem? (i := 5) rfl))))) rfl rfl dX10_addPaper_48 ?_
      refine x_callI (ret := none) (n := 5) (As := [.int n, .int u, .int h, .int g, .int 0]) (rest := [.ref q10, .int 0, .ref a2]) F hP hD hS (c_X3_init l D cy w11 q10 n u h g 0 k16 (fun b => b = q10) rfl) gX10_addPaper_X3_init rfl (List.mem_cons_of_mem _ (List.mem_append_left _ (List.mem_append_left _ (List.mem_append_left _ (List.mem_of_getElem? (i := 4) rfl))))) (List.mem_cons_of_mem _ (List.mem_append_left _ (List.mem_append_left _ (List.mem_append_left _ (List.mem_of_getElem? (i := 14) rfl))))) (List.mem_cons_of_mem _ (List.mem_append_left _ (List.mem_append_left _ (List.mem_append_left _ (List.mem_of_getElem? (i := 15) rfl))))) rfl (by decide +kernel) ⟨(Nat.le_of_ble_eq_true rfl), (Nat.le_of_ble_eq_true rfl)⟩ rfl hl.1 (Nat.le_of_ble_eq_true rfl) dX10_addPaper_51 rfl ⟨(Nat.le_of_ble_eq_true rfl), (Nat.le_of_ble_eq_true rfl)⟩ (fun v19 w20 hp18 H locs hP hD hS => ?_)
      obtain ⟨rfl, hp18, k21⟩ := hp18
      have k22 := hp18.2 _ _ k14 (fun q : x = q10 => (wd_nL hq13 hc) q)
      have k23 := hp18.2 _ _ k15 (fun q : a2 = q10 => (wd_nL hq13 ha2) q)
      have kp24 := kp17.tr hp18 (fun b hm q => (fun q => absurd (q ▸ hm) (kp0.out hq13)) q)
      refine W.eq (g2 := F0 m 54 ls [.ref q10, .int 0, .ref a2]) rfl (W.widen (k := 1) (n := 7) (Nat.le_of_ble_eq_true rfl) (Nat.le_of_ble_eq_true rfl) ?_)
      refine y_aast F hP hD hS k23 rfl k21 rfl (vp_in_iff.mpr ⟨by decide, by decide⟩) dX10_addPaper_54 (fun w25 ew26 H locs hP hD hS => ?_)
      have k27 := wd_at.pt ew26 k22 (wd_nk k22 k23 rfl)
      have k28 : wd_at w25 a2 (.inl (cy 6, 30, .inr (.inr (.inr (.inr (va_up pf (0 : Int32).toNatClampNeg (some q10))))))) := wd_at.ps ew26 k23
      have k29 := wd_at.pt ew26 k21 (Ne.symm (wd_nL hq13 ha2))
      have kp30 := kp24.put ew26 s2
      refine lv_aload_n hx hb dX10_addPaper_55 rfl (lv_at hl 0 rfl) ?_
      refine lv_dup hx hb dX10_addPaper_56 rfl ?_
      refine x_get (ref := "NoteHouse") F hP k27 rfl (fun _ h => List.mem_cons_of_mem _ (List.mem_append_left _ (List.mem_append_right _ (h)))) 13 (Nat.le_of_ble_eq_true rfl) (List.mem_cons_of_mem _ (List.mem_append_left _ (List.mem_append_left _ (List.mem_append_left _ (List.mem_of_getElem? (i := 0) rfl))))) rfl rfl dX10_addPaper_57 ?_
      refine lv_iconst (v := 1) hx hb dX10_addPaper_60 (by decide) ?_
      refine lv_iadd hx hb dX10_addPaper_61 ?_
      rw [show (0 + 1 : Int32) = 1 from by decide]
      refine y_put (ref := "NoteHouse") F hP hD hS k27 rfl (fun _ h => List.mem_cons_of_mem _ (List.mem_append_left _ (List.mem_append_right _ (h)))) tyX10_ok nmX10 13 (Nat.le_of_ble_eq_true rfl) (List.mem_cons_of_mem _ (List.mem_append_left _ (List.mem_append_left _ (List.mem_append_left _ (List.mem_of_getElem? (i := 0) rfl))))) rfl rfl rfl rfl (Nat.le_of_ble_eq_true rfl) dX10_addPaper_62 (fun w31 ew32 H locs hP hD hS => ?_)
      have k33 : wd_at w31 x (.inr (10, [.ref a0, .ref a1, .ref a2, .ref a3, .ref a4, .ref a5, .ref a6, .ref a7, .ref a8, .ref a9, .ref a10, .ref a11, .int 0, .int 1, .int 0, .int 0, .int 0])) := wd_at.ps ew32 k27
      have k34 := wd_at.pt ew32 k28 (wd_nk k28 k27 rfl)
      have k35 := wd_at.pt ew32 k29 (Ne.symm (wd_nL hq13 hc))
      have kp36 := kp30.put ew32 sx
      refine lv_aload_n hx hb dX10_addPaper_65 rfl (lv_at hl 0 rfl) ?_
      refine x_get (ref := "NoteHouse") F hP k33 rfl (fun _ h => List.mem_cons_of_mem _ (List.mem_append_left _ (List.mem_append_right _ (h)))) 13 (Nat.le_of_ble_eq_true rfl) (List.mem_cons_of_mem _ (List.mem_append_left _ (List.mem_append_left _ (List.mem_append_left _ (List.mem_of_getElem? (i := 0) rfl))))) rfl rfl dX10_addPaper_66 ?_
      refine lv_iconst (v := 1) hx hb dX10_addPaper_69 (by decide) ?_
      refine lv_isub hx hb dX10_addPaper_70 ?_
      rw [show (1 - 1 : Int32) = 0 from by decide]
      exact y_ir K hP hD hS (Nat.le_of_ble_eq_true rfl) (Nat.le_of_ble_eq_true rfl) (ty := .int) rfl rfl dX10_addPaper_71 (⟨by simp [sp_add, c_5, c_9], kp36⟩)
    · refine lv_iconst (v := (-1)) hx hb dX10_addPaper_28 (by decide) ?_
      exact y_ir K hP hD hS (Nat.le_of_ble_eq_true rfl) (Nat.le_of_ble_eq_true rfl) (ty := .int) rfl rfl dX10_addPaper_29 (⟨by simp [sp_add, c_5, c_9], kp0⟩)
set_option maxHeartbeats 4000000 in
set_option maxRecDepth 100000 in
theorem c_X10_book (l : Launch) (D : va_G) (cy : Nat → ClassId) (w : Wd) (x a0 a1 a2 a3 a4 a5 a6 a7 a8 a9 a10 a11 : Nat) (pf : Nat → Option Nat) (n u h g : Int32) (hc : wd_at w x (.inr (10, [.ref a0, .ref a1, .ref a2, .ref a3, .ref a4, .ref a5, .ref a6, .ref a7, .ref a8, .ref a9, .ref a10, .ref a11, .int 0, .int 0, .int 0, .int 0, .int 0]))) (ha2 : wd_at w a2 (.inl (cy 6, 30, .inr (.inr (.inr (.inr pf))))))  (S : Nat → Prop) (sx : S x) (s2 : S a2)  : Ct l D cy yX10_book wsX10_book ({ frames := 3, cells := 1, slots := 7, locals := 66 }) [.ref x, .int n, .int u, .int h, .int g] w (fun v w1 => v = some (.int (sp_book n u h g)) ∧ wd_kp S w w1) := by
  refine Ct.by (cc := cX10_book) (maxL := 5) (ret := (some .int)) (by decide +kernel) rfl (Nat.le_of_ble_eq_true rfl) ?_
  intro p e s m args below meth c A Q F hnm K ls hl
  have F : wd_Fx p s m args meth c cX10_book 5 wsX10_book RX10 D cy A := F
  have hl : lv_has ls 5 [(0, .ref x), (1, .int n), (2, .int u), (3, .int h), (4, .int g)] := hl
  have hx := F.1.1
  have hb := F.1.2.1
  have hown := F.1.2.2.2.1
  have hts := F.1.2.2.2.2
  intro H locs hP hD hS
  have kp0 : wd_kp S w w := wd_kp.rf
  refine lv_iload_n hx hb dX10_book_0 rfl (lv_at hl 1 rfl) ?_
  refine lv_iconst (v := 1) hx hb dX10_book_1 (by decide) ?_
  refine lv_bipush (v := 20) hx hb dX10_book_2 (by decide) ?_
  refine x_callS (n := 3) (As := [.int n, .int 1, .int 20]) (rest := []) F hP hD hS (c_X10_isWithin l D cy w n 1 20) gX10_book_X10_isWithin rfl (by decide +kernel) ⟨(Nat.le_of_ble_eq_true rfl), (Nat.le_of_ble_eq_true rfl)⟩ rfl hl.1 (Nat.le_of_ble_eq_true rfl) dX10_book_4 rfl ⟨(Nat.le_of_ble_eq_true rfl), (Nat.le_of_ble_eq_true rfl)⟩ (fun v2 w3 hp1 H locs hP hD hS => ?_)
  obtain ⟨rfl, rfl⟩ := hp1
  refine W.eq (g2 := F0 m 7 ls [.int (wi n 1 20)]) rfl (W.widen (k := 0) (n := 0) (Nat.le_of_ble_eq_true rfl) (Nat.le_of_ble_eq_true rfl) ?_)
  refine lv_if_eq (tgt := 21) hx hb dX10_book_7 (by decide) (fun c_4 => ?_) (fun c_4 => ?_)
  · refine lv_iconst (v := (-1)) hx hb dX10_book_21 (by decide) ?_
    exact y_ir K hP hD hS (Nat.le_of_ble_eq_true rfl) (Nat.le_of_ble_eq_true rfl) (ty := .int) rfl rfl dX10_book_22 (⟨by simp [sp_book, c_4], kp0⟩)
  · refine lv_iload_n hx hb dX10_book_10 rfl (lv_at hl 2 rfl) ?_
    refine lv_iconst (v := 1) hx hb dX10_book_11 (by decide) ?_
    refine lv_sipush (v := 10000) hx hb dX10_book_12 (by decide) ?_
    refine x_callS (n := 3) (As := [.int u, .int 1, .int 10000]) (rest := []) F hP hD hS (c_X10_isWithin l D cy w u 1 10000) gX10_book_X10_isWithin rfl (by decide +kernel) ⟨(Nat.le_of_ble_eq_true rfl), (Nat.le_of_ble_eq_true rfl)⟩ rfl hl.1 (Nat.le_of_ble_eq_true rfl) dX10_book_15 rfl ⟨(Nat.le_of_ble_eq_true rfl), (Nat.le_of_ble_eq_true rfl)⟩ (fun v6 w7 hp5 H locs hP hD hS => ?_)
    obtain ⟨rfl, rfl⟩ := hp5
    refine W.eq (g2 := F0 m 18 ls [.int (wi u 1 10000)]) rfl (W.widen (k := 0) (n := 0) (Nat.le_of_ble_eq_true rfl) (Nat.le_of_ble_eq_true rfl) ?_)
    refine lv_if_ne (tgt := 23) hx hb dX10_book_18 (by decide) (fun c_8 => ?_) (fun c_8 => ?_)
    · refine lv_aload_n hx hb dX10_book_23 rfl (lv_at hl 0 rfl) ?_
      refine lv_iload_n hx hb dX10_book_24 rfl (lv_at hl 1 rfl) ?_
      refine lv_iload_n hx hb dX10_book_25 rfl (lv_at hl 2 rfl) ?_
      refine lv_iload_n hx hb dX10_book_26 rfl (lv_at hl 3 rfl) ?_
      refine lv_iload hx hb dX10_book_27 (lv_at hl 4 rfl) ?_
      refine x_callV (n := 4) (As := [.int n, .int u, .int h, .int g]) (rest := []) F hP hD hS (c_X10_addPaper l D cy w x a0 a1 a2 a3 a4 a5 a6 a7 a8 a9 a10 a11 pf n u h g hc ha2 S sx s2) gX10_book_X10_addPaper rfl rfl (by decide +kernel) ⟨(Nat.le_of_ble_eq_true rfl), (Nat.le_of_ble_eq_true rfl)⟩ rfl hl.1 (Nat.le_of_ble_eq_true rfl) hc rfl dX10_book_29 rfl ⟨(Nat.le_of_ble_eq_true rfl), (Nat.le_of_ble_eq_true rfl)⟩ (fun v10 w11 hp9 H locs hP hD hS => ?_)
      obtain ⟨rfl, kp12⟩ := hp9
      refine W.eq (g2 := F0 m 32 ls [.int (sp_add h g)]) rfl (W.widen (k := 1) (n := 7) (Nat.le_of_ble_eq_true rfl) (Nat.le_of_ble_eq_true rfl) ?_)
      exact y_ir K hP hD hS (Nat.le_of_ble_eq_true rfl) (Nat.le_of_ble_eq_true rfl) (ty := .int) rfl rfl dX10_book_32 (⟨by simp [sp_book, c_4, c_8], kp12⟩)
    · refine lv_iconst (v := (-1)) hx hb dX10_book_21 (by decide) ?_
      exact y_ir K hP hD hS (Nat.le_of_ble_eq_true rfl) (Nat.le_of_ble_eq_true rfl) (ty := .int) rfl rfl dX10_book_22 (⟨by simp [sp_book, c_4, c_8], kp0⟩)
set_option maxHeartbeats 4000000 in
set_option maxRecDepth 100000 in
theorem c_X10_credit (l : Launch) (D : va_G) (cy : Nat → ClassId) (w : Wd) (x a0 a1 a2 a3 a4 a5 a6 a7 a8 a9 a10 a11 : Nat) (pf : Nat → Option Nat) (n h g : Int32) (hc : wd_at w x (.inr (10, [.ref a0, .ref a1, .ref a2, .ref a3, .ref a4, .ref a5, .ref a6, .ref a7, .ref a8, .ref a9, .ref a10, .ref a11, .int 0, .int 0, .int 0, .int 0, .int 0]))) (ha2 : wd_at w a2 (.inl (cy 6, 30, .inr (.inr (.inr (.inr pf))))))  (S : Nat → Prop) (sx : S x) (s2 : S a2)  : Ct l D cy yX10_credit wsX10_credit ({ frames := 3, cells := 1, slots := 7, locals := 66 }) [.ref x, .int n, .int h, .int g] w (fun v w1 => v = some (.int (sp_credit n h g)) ∧ wd_kp S w w1) := by
  refine Ct.by (cc := cX10_credit) (maxL := 4) (ret := (some .int)) (by decide +kernel) rfl (Nat.le_of_ble_eq_true rfl) ?_
  intro p e s m args below meth c A Q F hnm K ls hl
  have F : wd_Fx p s m args meth c cX10_credit 4 wsX10_credit RX10 D cy A := F
  have hl : lv_has ls 4 [(0, .ref x), (1, .int n), (2, .int h), (3, .int g)] := hl
  have hx := F.1.1
  have hb := F.1.2.1
  have hown := F.1.2.2.2.1
  have hts := F.1.2.2.2.2
  intro H locs hP hD hS
  have kp0 : wd_kp S w w := wd_kp.rf
  refine lv_iload_n hx hb dX10_credit_0 rfl (lv_at hl 1 rfl) ?_
  refine lv_iconst (v := 1) hx hb dX10_credit_1 (by decide) ?_
  refine lv_ldc (v := 100000) hx hb hown (hts _ (List.mem_cons_of_mem _ (List.mem_append_left _ (List.mem_append_left _ (List.mem_append_left _ (List.mem_of_getElem? (i := 0) rfl)))))) dX10_credit_2 ?_
  refine x_callS (n := 3) (As := [.int n, .int 1, .int 100000]) (rest := []) F hP hD hS (c_X10_isWithin l D cy w n 1 100000) gX10_credit_X10_isWithin rfl (by decide +kernel) ⟨(Nat.le_of_ble_eq_true rfl), (Nat.le_of_ble_eq_true rfl)⟩ rfl hl.1 (Nat.le_of_ble_eq_true rfl) dX10_credit_4 rfl ⟨(Nat.le_of_ble_eq_true rfl), (Nat.le_of_ble_eq_true rfl)⟩ (fun v2 w3 hp1 H locs hP hD hS => ?_)
  obtain ⟨rfl, rfl⟩ := hp1
  refine W.eq (g2 := F0 m 7 ls [.int (wi n 1 100000)]) rfl (W.widen (k := 0) (n := 0) (Nat.le_of_ble_eq_true rfl) (Nat.le_of_ble_eq_true rfl) ?_)
  refine lv_if_ne (tgt := 12) hx hb dX10_credit_7 (by decide) (fun c_4 => ?_) (fun c_4 => ?_)
  · refine lv_aload_n hx hb dX10_credit_12 rfl (lv_at hl 0 rfl) ?_
    refine lv_iconst (v := 0) hx hb dX10_credit_13 (by decide) ?_
    refine lv_iload_n hx hb dX10_credit_14 rfl (lv_at hl 1 rfl) ?_
    refine lv_iload_n hx hb dX10_credit_15 rfl (lv_at hl 2 rfl) ?_
    refine lv_iload_n hx hb dX10_credit_16 rfl (lv_at hl 3 rfl) ?_
    refine x_callV (n := 4) (As := [.int 0, .int n, .int h, .int g]) (rest := []) F hP hD hS (c_X10_addPaper l D cy w x a0 a1 a2 a3 a4 a5 a6 a7 a8 a9 a10 a11 pf 0 n h g hc ha2 S sx s2) gX10_credit_X10_addPaper rfl rfl (by decide +kernel) ⟨(Nat.le_of_ble_eq_true rfl), (Nat.le_of_ble_eq_true rfl)⟩ rfl hl.1 (Nat.le_of_ble_eq_true rfl) hc rfl dX10_credit_17 rfl ⟨(Nat.le_of_ble_eq_true rfl), (Nat.le_of_ble_eq_true rfl)⟩ (fun v6 w7 hp5 H locs hP hD hS => ?_)
    obtain ⟨rfl, kp8⟩ := hp5
    refine W.eq (g2 := F0 m 20 ls [.int (sp_add h g)]) rfl (W.widen (k := 1) (n := 7) (Nat.le_of_ble_eq_true rfl) (Nat.le_of_ble_eq_true rfl) ?_)
    exact y_ir K hP hD hS (Nat.le_of_ble_eq_true rfl) (Nat.le_of_ble_eq_true rfl) (ty := .int) rfl rfl dX10_credit_20 (⟨by simp [sp_credit, c_4], kp8⟩)
  · refine lv_iconst (v := (-1)) hx hb dX10_credit_10 (by decide) ?_
    exact y_ir K hP hD hS (Nat.le_of_ble_eq_true rfl) (Nat.le_of_ble_eq_true rfl) (ty := .int) rfl rfl dX10_credit_11 (⟨by simp [sp_credit, c_4], kp0⟩)
set_option maxHeartbeats 4000000 in
set_option maxRecDepth 100000 in
theorem c_X10_advise (l : Launch) (D : va_G) (cy : Nat → ClassId) (w : Wd) (x a0 a1 a2 a3 a4 a5 a6 a7 a8 a9 a10 a11 : Nat) (k t : Int32) (hc : wd_at w x (.inr (10, [.ref a0, .ref a1, .ref a2, .ref a3, .ref a4, .ref a5, .ref a6, .ref a7, .ref a8, .ref a9, .ref a10, .ref a11, .int 0, .int 0, .int 0, .int 0, .int 0])))   : Ct l D cy yX10_advise wsX10_advise ({ frames := 1, cells := 0, slots := 0, locals := 21 }) [.ref x, .int k, .int t] w (fun v w1 => v = some (.int (-1)) ∧ w = w1) := by
  refine Ct.by (cc := cX10_advise) (maxL := 3) (ret := (some .int)) (by decide +kernel) rfl (Nat.le_of_ble_eq_true rfl) ?_
  intro p e s m args below meth c A Q F hnm K ls hl
  have F : wd_Fx p s m args meth c cX10_advise 3 wsX10_advise RX10 D cy A := F
  have hl : lv_has ls 3 [(0, .ref x), (1, .int k), (2, .int t)] := hl
  have hx := F.1.1
  have hb := F.1.2.1
  have hown := F.1.2.2.2.1
  have hts := F.1.2.2.2.2
  intro H locs hP hD hS
  refine lv_aload_n hx hb dX10_advise_0 rfl (lv_at hl 0 rfl) ?_
  refine x_get (ref := "NoteHouse") F hP hc rfl (fun _ h => List.mem_cons_of_mem _ (List.mem_append_left _ (List.mem_append_left _ (List.mem_append_right _ (h))))) 14 (Nat.le_of_ble_eq_true rfl) (List.mem_cons_of_mem _ (List.mem_append_left _ (List.mem_append_left _ (List.mem_append_left _ (List.mem_append_left _ (List.mem_of_getElem? (i := 0) rfl)))))) rfl rfl dX10_advise_1 ?_
  refine lv_bipush (v := 60) hx hb dX10_advise_4 (by decide) ?_
  refine lv_icmp_ge (tgt := 24) hx hb dX10_advise_6 (by decide) (fun c_1 => absurd c_1 (show ¬ (60 : Int32) ≤ (0 : Int32) by decide)) (fun c_1 => ?_)
  refine lv_aload_n hx hb dX10_advise_9 rfl (lv_at hl 0 rfl) ?_
  refine lv_iload_n hx hb dX10_advise_10 rfl (lv_at hl 1 rfl) ?_
  refine x_callV (n := 1) (As := [.int k]) (rest := []) F hP hD hS (c_X10_paperAt l D cy w x a0 a1 a2 a3 a4 a5 a6 a7 a8 a9 a10 a11 k hc) gX10_advise_X10_paperAt rfl rfl (by decide +kernel) ⟨(Nat.le_of_ble_eq_true rfl), (Nat.le_of_ble_eq_true rfl)⟩ rfl hl.1 (Nat.le_of_ble_eq_true rfl) hc rfl dX10_advise_11 rfl ⟨(Nat.le_of_ble_eq_true rfl), (Nat.le_of_ble_eq_true rfl)⟩ (fun v3 w4 hp2 H locs hP hD hS => ?_)
  obtain ⟨rfl, rfl⟩ := hp2
  refine W.eq (g2 := F0 m 14 ls [.null]) rfl (W.widen (k := 0) (n := 0) (Nat.le_of_ble_eq_true rfl) (Nat.le_of_ble_eq_true rfl) ?_)
  refine lv_ifnullN (tgt := 24) hx hb dX10_advise_14 (by decide) ?_
  refine lv_iconst (v := (-1)) hx hb dX10_advise_24 (by decide) ?_
  exact y_ir K hP hD hS (Nat.le_of_ble_eq_true rfl) (Nat.le_of_ble_eq_true rfl) (ty := .int) rfl rfl dX10_advise_25 (⟨rfl, rfl⟩)
set_option maxHeartbeats 4000000 in
set_option maxRecDepth 100000 in
theorem c_X10_stop (l : Launch) (D : va_G) (cy : Nat → ClassId) (w : Wd) (x a0 a1 a2 a3 a4 a5 a6 a7 a8 a9 a10 a11 : Nat) (k f t : Int32) (hc : wd_at w x (.inr (10, [.ref a0, .ref a1, .ref a2, .ref a3, .ref a4, .ref a5, .ref a6, .ref a7, .ref a8, .ref a9, .ref a10, .ref a11, .int 0, .int 0, .int 0, .int 0, .int 0])))   : Ct l D cy yX10_stop wsX10_stop ({ frames := 1, cells := 0, slots := 0, locals := 21 }) [.ref x, .int k, .int f, .int t] w (fun v w1 => v = some (.int (-1)) ∧ w = w1) := by
  refine Ct.by (cc := cX10_stop) (maxL := 5) (ret := (some .int)) (by decide +kernel) rfl (Nat.le_of_ble_eq_true rfl) ?_
  intro p e s m args below meth c A Q F hnm K ls hl
  have F : wd_Fx p s m args meth c cX10_stop 5 wsX10_stop RX10 D cy A := F
  have hl : lv_has ls 5 [(0, .ref x), (1, .int k), (2, .int f), (3, .int t)] := hl
  have hx := F.1.1
  have hb := F.1.2.1
  have hown := F.1.2.2.2.1
  have hts := F.1.2.2.2.2
  intro H locs hP hD hS
  refine lv_aload_n hx hb dX10_stop_0 rfl (lv_at hl 0 rfl) ?_
  refine lv_iload_n hx hb dX10_stop_1 rfl (lv_at hl 1 rfl) ?_
  refine x_callV (n := 1) (As := [.int k]) (rest := []) F hP hD hS (c_X10_paperAt l D cy w x a0 a1 a2 a3 a4 a5 a6 a7 a8 a9 a10 a11 k hc) gX10_stop_X10_paperAt rfl rfl (by decide +kernel) ⟨(Nat.le_of_ble_eq_true rfl), (Nat.le_of_ble_eq_true rfl)⟩ rfl hl.1 (Nat.le_of_ble_eq_true rfl) hc rfl dX10_stop_2 rfl ⟨(Nat.le_of_ble_eq_true rfl), (Nat.le_of_ble_eq_true rfl)⟩ (fun v2 w3 hp1 H locs hP hD hS => ?_)
  obtain ⟨rfl, rfl⟩ := hp1
  refine W.eq (g2 := F0 m 5 ls [.null]) rfl (W.widen (k := 0) (n := 0) (Nat.le_of_ble_eq_true rfl) (Nat.le_of_ble_eq_true rfl) ?_)
  refine lv_astoreN (lv' := [(4, .null), (0, .ref x), (1, .int k), (2, .int f), (3, .int t)]) hx hb dX10_stop_5 hl (by decide) rfl (fun ls hl => ?_)
  refine lv_aload_n hx hb dX10_stop_7 rfl (lv_at hl 1 rfl) ?_
  refine x_get (ref := "NoteHouse") F hP hc rfl (fun _ h => List.mem_cons_of_mem _ (List.mem_append_left _ (List.mem_append_left _ (List.mem_append_left _ (List.mem_append_right _ (h)))))) 15 (Nat.le_of_ble_eq_true rfl) (List.mem_cons_of_mem _ (List.mem_append_left _ (List.mem_append_left _ (List.mem_append_left _ (List.mem_append_left _ (List.mem_append_left _ (List.mem_of_getElem? (i := 0) rfl))))))) rfl rfl dX10_stop_8 ?_
  refine lv_bipush (v := 60) hx hb dX10_stop_11 (by decide) ?_
  refine lv_icmp_ge (tgt := 28) hx hb dX10_stop_13 (by decide) (fun c_4 => absurd c_4 (show ¬ (60 : Int32) ≤ (0 : Int32) by decide)) (fun c_4 => ?_)
  refine lv_aloadN hx hb dX10_stop_16 (lv_at hl 0 rfl) ?_
  refine lv_ifnullN (tgt := 28) hx hb dX10_stop_18 (by decide) ?_
  refine lv_iconst (v := (-1)) hx hb dX10_stop_28 (by decide) ?_
  exact y_ir K hP hD hS (Nat.le_of_ble_eq_true rfl) (Nat.le_of_ble_eq_true rfl) (ty := .int) rfl rfl dX10_stop_29 (⟨rfl, rfl⟩)
set_option maxHeartbeats 4000000 in
set_option maxRecDepth 100000 in
theorem c_X10_show (l : Launch) (D : va_G) (cy : Nat → ClassId) (w : Wd) (x a0 a1 a2 a3 a4 a5 a6 a7 a8 a9 a10 a11 : Nat) (t k f u h n : Int32) (hc : wd_at w x (.inr (10, [.ref a0, .ref a1, .ref a2, .ref a3, .ref a4, .ref a5, .ref a6, .ref a7, .ref a8, .ref a9, .ref a10, .ref a11, .int 0, .int 0, .int 0, .int 0, .int 0])))   : Ct l D cy yX10_show wsX10_show ({ frames := 2, cells := 0, slots := 0, locals := 42 }) [.ref x, .int t, .int k, .int f, .int u, .int h, .int n] w (fun v w1 => v = some (.int (-1)) ∧ w = w1) := by
  refine Ct.by (cc := cX10_show) (maxL := 10) (ret := (some .int)) (by decide +kernel) rfl (Nat.le_of_ble_eq_true rfl) ?_
  intro p e s m args below meth c A Q F hnm K ls hl
  have F : wd_Fx p s m args meth c cX10_show 10 wsX10_show RX10 D cy A := F
  have hl : lv_has ls 10 [(0, .ref x), (1, .int t), (2, .int k), (3, .int f), (4, .int u), (5, .int h), (6, .int n)] := hl
  have hx := F.1.1
  have hb := F.1.2.1
  have hown := F.1.2.2.2.1
  have hts := F.1.2.2.2.2
  intro H locs hP hD hS
  refine lv_aload_n hx hb dX10_show_0 rfl (lv_at hl 0 rfl) ?_
  refine lv_iload_n hx hb dX10_show_1 rfl (lv_at hl 2 rfl) ?_
  refine x_callV (n := 1) (As := [.int k]) (rest := []) F hP hD hS (c_X10_paperAt l D cy w x a0 a1 a2 a3 a4 a5 a6 a7 a8 a9 a10 a11 k hc) gX10_show_X10_paperAt rfl rfl (by decide +kernel) ⟨(Nat.le_of_ble_eq_true rfl), (Nat.le_of_ble_eq_true rfl)⟩ rfl hl.1 (Nat.le_of_ble_eq_true rfl) hc rfl dX10_show_2 rfl ⟨(Nat.le_of_ble_eq_true rfl), (Nat.le_of_ble_eq_true rfl)⟩ (fun v2 w3 hp1 H locs hP hD hS => ?_)
  obtain ⟨rfl, rfl⟩ := hp1
  refine W.eq (g2 := F0 m 5 ls [.null]) rfl (W.widen (k := 0) (n := 0) (Nat.le_of_ble_eq_true rfl) (Nat.le_of_ble_eq_true rfl) ?_)
  refine lv_astoreN (lv' := [(7, .null), (0, .ref x), (1, .int t), (2, .int k), (3, .int f), (4, .int u), (5, .int h), (6, .int n)]) hx hb dX10_show_5 hl (by decide) rfl (fun ls hl => ?_)
  refine lv_aload_n hx hb dX10_show_7 rfl (lv_at hl 1 rfl) ?_
  refine x_get (ref := "NoteHouse") F hP hc rfl (fun _ h => List.mem_cons_of_mem _ (List.mem_append_left _ (List.mem_append_left _ (List.mem_append_left _ (List.mem_append_left _ (List.mem_append_left _ (List.mem_append_left _ (List.mem_append_left _ (List.mem_append_right _ (h)))))))))) 16 (Nat.le_of_ble_eq_true rfl) (List.mem_cons_of_mem _ (List.mem_append_left _ (List.mem_append_left _ (List.mem_append_left _ (List.mem_append_left _ (List.mem_append_left _ (List.mem_append_left _ (List.mem_append_left _ (List.mem_append_left _ (List.mem_append_left _ (List.mem_of_getElem? (i := 0) rfl))))))))))) rfl rfl dX10_show_8 ?_
  refine lv_sipush (v := 200) hx hb dX10_show_11 (by decide) ?_
  refine lv_icmp_ge (tgt := 37) hx hb dX10_show_14 (by decide) (fun c_4 => absurd c_4 (show ¬ (200 : Int32) ≤ (0 : Int32) by decide)) (fun c_4 => ?_)
  refine lv_iload_n hx hb dX10_show_17 rfl (lv_at hl 2 rfl) ?_
  refine x_callS (n := 1) (As := [.int t]) (rest := []) F hP hD hS (c_X10_isTown l D cy w t) gX10_show_X10_isTown rfl (by decide +kernel) ⟨(Nat.le_of_ble_eq_true rfl), (Nat.le_of_ble_eq_true rfl)⟩ rfl hl.1 (Nat.le_of_ble_eq_true rfl) dX10_show_18 rfl ⟨(Nat.le_of_ble_eq_true rfl), (Nat.le_of_ble_eq_true rfl)⟩ (fun v6 w7 hp5 H locs hP hD hS => ?_)
  obtain ⟨rfl, rfl⟩ := hp5
  refine W.eq (g2 := F0 m 21 ls [.int (wi t 0 11)]) rfl (W.widen (k := 0) (n := 0) (Nat.le_of_ble_eq_true rfl) (Nat.le_of_ble_eq_true rfl) ?_)
  refine lv_if_eq (tgt := 37) hx hb dX10_show_21 (by decide) (fun c_8 => ?_) (fun c_8 => ?_)
  · refine lv_iconst (v := (-1)) hx hb dX10_show_37 (by decide) ?_
    exact y_ir K hP hD hS (Nat.le_of_ble_eq_true rfl) (Nat.le_of_ble_eq_true rfl) (ty := .int) rfl rfl dX10_show_38 (⟨rfl, rfl⟩)
  · refine lv_aloadN hx hb dX10_show_24 (lv_at hl 0 rfl) ?_
    refine lv_ifnullN (tgt := 37) hx hb dX10_show_26 (by decide) ?_
    refine lv_iconst (v := (-1)) hx hb dX10_show_37 (by decide) ?_
    exact y_ir K hP hD hS (Nat.le_of_ble_eq_true rfl) (Nat.le_of_ble_eq_true rfl) (ty := .int) rfl rfl dX10_show_38 (⟨rfl, rfl⟩)
set_option maxHeartbeats 4000000 in
set_option maxRecDepth 100000 in
theorem c_X10_shown (l : Launch) (D : va_G) (cy : Nat → ClassId) (w : Wd) (x a0 a1 a2 a3 a4 a5 a6 a7 a8 a9 a10 a11 : Nat) (k u : Int32) (hc : wd_at w x (.inr (10, [.ref a0, .ref a1, .ref a2, .ref a3, .ref a4, .ref a5, .ref a6, .ref a7, .ref a8, .ref a9, .ref a10, .ref a11, .int 0, .int 0, .int 0, .int 0, .int 0])))   : Ct l D cy yX10_shown wsX10_shown ({ frames := 1, cells := 0, slots := 0, locals := 21 }) [.ref x, .int k, .int u] w (fun v w1 => v = some (.int (-1)) ∧ w = w1) := by
  refine Ct.by (cc := cX10_shown) (maxL := 4) (ret := (some .int)) (by decide +kernel) rfl (Nat.le_of_ble_eq_true rfl) ?_
  intro p e s m args below meth c A Q F hnm K ls hl
  have F : wd_Fx p s m args meth c cX10_shown 4 wsX10_shown RX10 D cy A := F
  have hl : lv_has ls 4 [(0, .ref x), (1, .int k), (2, .int u)] := hl
  have hx := F.1.1
  have hb := F.1.2.1
  have hown := F.1.2.2.2.1
  have hts := F.1.2.2.2.2
  intro H locs hP hD hS
  refine lv_aload_n hx hb dX10_shown_0 rfl (lv_at hl 0 rfl) ?_
  refine lv_iload_n hx hb dX10_shown_1 rfl (lv_at hl 1 rfl) ?_
  refine x_callV (n := 1) (As := [.int k]) (rest := []) F hP hD hS (c_X10_shownAt l D cy w x a0 a1 a2 a3 a4 a5 a6 a7 a8 a9 a10 a11 k hc) gX10_shown_X10_shownAt rfl rfl (by decide +kernel) ⟨(Nat.le_of_ble_eq_true rfl), (Nat.le_of_ble_eq_true rfl)⟩ rfl hl.1 (Nat.le_of_ble_eq_true rfl) hc rfl dX10_shown_2 rfl ⟨(Nat.le_of_ble_eq_true rfl), (Nat.le_of_ble_eq_true rfl)⟩ (fun v2 w3 hp1 H locs hP hD hS => ?_)
  obtain ⟨rfl, rfl⟩ := hp1
  refine W.eq (g2 := F0 m 5 ls [.null]) rfl (W.widen (k := 0) (n := 0) (Nat.le_of_ble_eq_true rfl) (Nat.le_of_ble_eq_true rfl) ?_)
  refine lv_astore_nN (lv' := [(3, .null), (0, .ref x), (1, .int k), (2, .int u)]) hx hb dX10_shown_5 rfl hl (by decide) rfl (fun ls hl => ?_)
  refine lv_aload_nN hx hb dX10_shown_6 rfl (lv_at hl 0 rfl) ?_
  refine lv_ifnonnullN hx hb dX10_shown_7 ?_
  refine lv_iconst (v := (-1)) hx hb dX10_shown_10 (by decide) ?_
  exact y_ir K hP hD hS (Nat.le_of_ble_eq_true rfl) (Nat.le_of_ble_eq_true rfl) (ty := .int) rfl rfl dX10_shown_11 (⟨rfl, rfl⟩)
set_option maxHeartbeats 4000000 in
set_option maxRecDepth 100000 in
theorem c_X10_paper (l : Launch) (D : va_G) (cy : Nat → ClassId) (w : Wd) (x a0 a1 a2 a3 a4 a5 a6 a7 a8 a9 a10 a11 : Nat) (k u : Int32) (hc : wd_at w x (.inr (10, [.ref a0, .ref a1, .ref a2, .ref a3, .ref a4, .ref a5, .ref a6, .ref a7, .ref a8, .ref a9, .ref a10, .ref a11, .int 0, .int 0, .int 0, .int 0, .int 0])))   : Ct l D cy yX10_paper wsX10_paper ({ frames := 1, cells := 0, slots := 0, locals := 21 }) [.ref x, .int k, .int u] w (fun v w1 => v = some (.int (-1)) ∧ w = w1) := by
  refine Ct.by (cc := cX10_paper) (maxL := 4) (ret := (some .int)) (by decide +kernel) rfl (Nat.le_of_ble_eq_true rfl) ?_
  intro p e s m args below meth c A Q F hnm K ls hl
  have F : wd_Fx p s m args meth c cX10_paper 4 wsX10_paper RX10 D cy A := F
  have hl : lv_has ls 4 [(0, .ref x), (1, .int k), (2, .int u)] := hl
  have hx := F.1.1
  have hb := F.1.2.1
  have hown := F.1.2.2.2.1
  have hts := F.1.2.2.2.2
  intro H locs hP hD hS
  refine lv_aload_n hx hb dX10_paper_0 rfl (lv_at hl 0 rfl) ?_
  refine lv_iload_n hx hb dX10_paper_1 rfl (lv_at hl 1 rfl) ?_
  refine x_callV (n := 1) (As := [.int k]) (rest := []) F hP hD hS (c_X10_paperAt l D cy w x a0 a1 a2 a3 a4 a5 a6 a7 a8 a9 a10 a11 k hc) gX10_paper_X10_paperAt rfl rfl (by decide +kernel) ⟨(Nat.le_of_ble_eq_true rfl), (Nat.le_of_ble_eq_true rfl)⟩ rfl hl.1 (Nat.le_of_ble_eq_true rfl) hc rfl dX10_paper_2 rfl ⟨(Nat.le_of_ble_eq_true rfl), (Nat.le_of_ble_eq_true rfl)⟩ (fun v2 w3 hp1 H locs hP hD hS => ?_)
  obtain ⟨rfl, rfl⟩ := hp1
  refine W.eq (g2 := F0 m 5 ls [.null]) rfl (W.widen (k := 0) (n := 0) (Nat.le_of_ble_eq_true rfl) (Nat.le_of_ble_eq_true rfl) ?_)
  refine lv_astore_nN (lv' := [(3, .null), (0, .ref x), (1, .int k), (2, .int u)]) hx hb dX10_paper_5 rfl hl (by decide) rfl (fun ls hl => ?_)
  refine lv_aload_nN hx hb dX10_paper_6 rfl (lv_at hl 0 rfl) ?_
  refine lv_ifnonnullN hx hb dX10_paper_7 ?_
  refine lv_iconst (v := (-1)) hx hb dX10_paper_10 (by decide) ?_
  exact y_ir K hP hD hS (Nat.le_of_ble_eq_true rfl) (Nat.le_of_ble_eq_true rfl) (ty := .int) rfl rfl dX10_paper_11 (⟨rfl, rfl⟩)
set_option maxHeartbeats 4000000 in
set_option maxRecDepth 100000 in
theorem c_X10_comes (l : Launch) (D : va_G) (cy : Nat → ClassId) (w : Wd) (x a0 a1 a2 a3 a4 a5 a6 a7 a8 a9 a10 a11 : Nat) (q k t : Int32) (hc : wd_at w x (.inr (10, [.ref a0, .ref a1, .ref a2, .ref a3, .ref a4, .ref a5, .ref a6, .ref a7, .ref a8, .ref a9, .ref a10, .ref a11, .int 0, .int 0, .int 0, .int 0, .int 0])))   : Ct l D cy yX10_comes wsX10_comes ({ frames := 2, cells := 0, slots := 0, locals := 42 }) [.ref x, .int q, .int k, .int t] w (fun v w1 => v = some (.int (-1)) ∧ w = w1) := by
  refine Ct.by (cc := cX10_comes) (maxL := 5) (ret := (some .int)) (by decide +kernel) rfl (Nat.le_of_ble_eq_true rfl) ?_
  intro p e s m args below meth c A Q F hnm K ls hl
  have F : wd_Fx p s m args meth c cX10_comes 5 wsX10_comes RX10 D cy A := F
  have hl : lv_has ls 5 [(0, .ref x), (1, .int q), (2, .int k), (3, .int t)] := hl
  have hx := F.1.1
  have hb := F.1.2.1
  have hown := F.1.2.2.2.1
  have hts := F.1.2.2.2.2
  intro H locs hP hD hS
  refine lv_iload_n hx hb dX10_comes_0 rfl (lv_at hl 3 rfl) ?_
  refine x_callS (n := 1) (As := [.int t]) (rest := []) F hP hD hS (c_X10_isTown l D cy w t) gX10_comes_X10_isTown rfl (by decide +kernel) ⟨(Nat.le_of_ble_eq_true rfl), (Nat.le_of_ble_eq_true rfl)⟩ rfl hl.1 (Nat.le_of_ble_eq_true rfl) dX10_comes_1 rfl ⟨(Nat.le_of_ble_eq_true rfl), (Nat.le_of_ble_eq_true rfl)⟩ (fun v2 w3 hp1 H locs hP hD hS => ?_)
  obtain ⟨rfl, rfl⟩ := hp1
  refine W.eq (g2 := F0 m 4 ls [.int (wi t 0 11)]) rfl (W.widen (k := 0) (n := 0) (Nat.le_of_ble_eq_true rfl) (Nat.le_of_ble_eq_true rfl) ?_)
  refine lv_if_ne (tgt := 9) hx hb dX10_comes_4 (by decide) (fun c_4 => ?_) (fun c_4 => ?_)
  · refine lv_iload_n hx hb dX10_comes_9 rfl (lv_at hl 1 rfl) ?_
    refine lv_if_ne (tgt := 44) hx hb dX10_comes_10 (by decide) (fun c_5 => ?_) (fun c_5 => ?_)
    · refine lv_iload_n hx hb dX10_comes_44 rfl (lv_at hl 1 rfl) ?_
      refine lv_iconst (v := 1) hx hb dX10_comes_45 (by decide) ?_
      refine lv_icmp_ne (tgt := 73) hx hb dX10_comes_46 (by decide) (fun c_6 => ?_) (fun c_6 => ?_)
      · refine lv_iconst (v := (-1)) hx hb dX10_comes_73 (by decide) ?_
        exact y_ir K hP hD hS (Nat.le_of_ble_eq_true rfl) (Nat.le_of_ble_eq_true rfl) (ty := .int) rfl rfl dX10_comes_74 (⟨rfl, rfl⟩)
      · refine lv_aload_n hx hb dX10_comes_49 rfl (lv_at hl 0 rfl) ?_
        refine lv_iload_n hx hb dX10_comes_50 rfl (lv_at hl 2 rfl) ?_
        refine x_callV (n := 1) (As := [.int k]) (rest := []) F hP hD hS (c_X10_stopAt l D cy w x a0 a1 a2 a3 a4 a5 a6 a7 a8 a9 a10 a11 k hc) gX10_comes_X10_stopAt rfl rfl (by decide +kernel) ⟨(Nat.le_of_ble_eq_true rfl), (Nat.le_of_ble_eq_true rfl)⟩ rfl hl.1 (Nat.le_of_ble_eq_true rfl) hc rfl dX10_comes_51 rfl ⟨(Nat.le_of_ble_eq_true rfl), (Nat.le_of_ble_eq_true rfl)⟩ (fun v8 w9 hp7 H locs hP hD hS => ?_)
        obtain ⟨rfl, rfl⟩ := hp7
        refine W.eq (g2 := F0 m 54 ls [.null]) rfl (W.widen (k := 0) (n := 0) (Nat.le_of_ble_eq_true rfl) (Nat.le_of_ble_eq_true rfl) ?_)
        refine lv_astoreN (lv' := [(4, .null), (0, .ref x), (1, .int q), (2, .int k), (3, .int t)]) hx hb dX10_comes_54 hl (by decide) rfl (fun ls hl => ?_)
        refine lv_aloadN hx hb dX10_comes_56 (lv_at hl 0 rfl) ?_
        refine lv_ifnonnullN hx hb dX10_comes_58 ?_
        refine lv_iconst (v := (-1)) hx hb dX10_comes_61 (by decide) ?_
        refine lv_goto (tgt := 72) hx hb dX10_comes_62 (by decide) ?_
        exact y_ir K hP hD hS (Nat.le_of_ble_eq_true rfl) (Nat.le_of_ble_eq_true rfl) (ty := .int) rfl rfl dX10_comes_72 (⟨rfl, rfl⟩)
    · refine lv_aload_n hx hb dX10_comes_13 rfl (lv_at hl 0 rfl) ?_
      refine lv_iload_n hx hb dX10_comes_14 rfl (lv_at hl 2 rfl) ?_
      refine x_callV (n := 1) (As := [.int k]) (rest := []) F hP hD hS (c_X10_adviceAt l D cy w x a0 a1 a2 a3 a4 a5 a6 a7 a8 a9 a10 a11 k hc) gX10_comes_X10_adviceAt rfl rfl (by decide +kernel) ⟨(Nat.le_of_ble_eq_true rfl), (Nat.le_of_ble_eq_true rfl)⟩ rfl hl.1 (Nat.le_of_ble_eq_true rfl) hc rfl dX10_comes_15 rfl ⟨(Nat.le_of_ble_eq_true rfl), (Nat.le_of_ble_eq_true rfl)⟩ (fun v11 w12 hp10 H locs hP hD hS => ?_)
      obtain ⟨rfl, rfl⟩ := hp10
      refine W.eq (g2 := F0 m 18 ls [.null]) rfl (W.widen (k := 0) (n := 0) (Nat.le_of_ble_eq_true rfl) (Nat.le_of_ble_eq_true rfl) ?_)
      refine lv_astoreN (lv' := [(4, .null), (0, .ref x), (1, .int q), (2, .int k), (3, .int t)]) hx hb dX10_comes_18 hl (by decide) rfl (fun ls hl => ?_)
      refine lv_aloadN hx hb dX10_comes_20 (lv_at hl 0 rfl) ?_
      refine lv_ifnullN (tgt := 34) hx hb dX10_comes_22 (by decide) ?_
      refine lv_iconst (v := (-1)) hx hb dX10_comes_34 (by decide) ?_
      refine lv_goto (tgt := 43) hx hb dX10_comes_35 (by decide) ?_
      exact y_ir K hP hD hS (Nat.le_of_ble_eq_true rfl) (Nat.le_of_ble_eq_true rfl) (ty := .int) rfl rfl dX10_comes_43 (⟨rfl, rfl⟩)
  · refine lv_iconst (v := (-1)) hx hb dX10_comes_7 (by decide) ?_
    exact y_ir K hP hD hS (Nat.le_of_ble_eq_true rfl) (Nat.le_of_ble_eq_true rfl) (ty := .int) rfl rfl dX10_comes_8 (⟨rfl, rfl⟩)
set_option maxHeartbeats 4000000 in
set_option maxRecDepth 100000 in
theorem c_X10_lose (l : Launch) (D : va_G) (cy : Nat → ClassId) (w : Wd) (x a0 a1 a2 a3 a4 a5 a6 a7 a8 a9 a10 a11 : Nat) (k : Int32) (hc : wd_at w x (.inr (10, [.ref a0, .ref a1, .ref a2, .ref a3, .ref a4, .ref a5, .ref a6, .ref a7, .ref a8, .ref a9, .ref a10, .ref a11, .int 0, .int 0, .int 0, .int 0, .int 0])))   : Ct l D cy yX10_lose wsX10_lose ({ frames := 1, cells := 0, slots := 0, locals := 21 }) [.ref x, .int k] w (fun v w1 => v = some (.int 0) ∧ w = w1) := by
  refine Ct.by (cc := cX10_lose) (maxL := 3) (ret := (some .boolean)) (by decide +kernel) rfl (Nat.le_of_ble_eq_true rfl) ?_
  intro p e s m args below meth c A Q F hnm K ls hl
  have F : wd_Fx p s m args meth c cX10_lose 3 wsX10_lose RX10 D cy A := F
  have hl : lv_has ls 3 [(0, .ref x), (1, .int k)] := hl
  have hx := F.1.1
  have hb := F.1.2.1
  have hown := F.1.2.2.2.1
  have hts := F.1.2.2.2.2
  intro H locs hP hD hS
  refine lv_aload_n hx hb dX10_lose_0 rfl (lv_at hl 0 rfl) ?_
  refine lv_iload_n hx hb dX10_lose_1 rfl (lv_at hl 1 rfl) ?_
  refine x_callV (n := 1) (As := [.int k]) (rest := []) F hP hD hS (c_X10_adviceAt l D cy w x a0 a1 a2 a3 a4 a5 a6 a7 a8 a9 a10 a11 k hc) gX10_lose_X10_adviceAt rfl rfl (by decide +kernel) ⟨(Nat.le_of_ble_eq_true rfl), (Nat.le_of_ble_eq_true rfl)⟩ rfl hl.1 (Nat.le_of_ble_eq_true rfl) hc rfl dX10_lose_2 rfl ⟨(Nat.le_of_ble_eq_true rfl), (Nat.le_of_ble_eq_true rfl)⟩ (fun v2 w3 hp1 H locs hP hD hS => ?_)
  obtain ⟨rfl, rfl⟩ := hp1
  refine W.eq (g2 := F0 m 5 ls [.null]) rfl (W.widen (k := 0) (n := 0) (Nat.le_of_ble_eq_true rfl) (Nat.le_of_ble_eq_true rfl) ?_)
  refine lv_astore_nN (lv' := [(2, .null), (0, .ref x), (1, .int k)]) hx hb dX10_lose_5 rfl hl (by decide) rfl (fun ls hl => ?_)
  refine lv_aload_nN hx hb dX10_lose_6 rfl (lv_at hl 0 rfl) ?_
  refine lv_ifnullN (tgt := 31) hx hb dX10_lose_7 (by decide) ?_
  refine lv_iconst (v := 0) hx hb dX10_lose_31 (by decide) ?_
  exact y_ir K hP hD hS (Nat.le_of_ble_eq_true rfl) (Nat.le_of_ble_eq_true rfl) (ty := .boolean) rfl rfl dX10_lose_32 (⟨rfl, rfl⟩)
