theorem pb_n {pc : Nat} {p : Int32} (hp : pc ≤ 30) (h : p < 0 ∨ nI pc ≤ p) : wi p 0 (nI pc - 1) = 0 := by
  unfold wi
  rcases h with h | h
  · rw [if_pos h]
  · by_cases h0 : p < 0
    · rw [if_pos h0]
    · rw [if_neg h0]
      have e := pk_sub_toInt (a := pc) (b := 1) (by omega) (by omega)
      have e2 := nI_toInt (n := pc) (by omega)
      have h3 : ¬ p ≤ nI pc - nI 1 := by
        rw [Int32.le_iff_toInt_le] at h ⊢
        omega
      rw [show (1 : Int32) = nI 1 from rfl, if_neg h3]
theorem pb_r {pc j : Nat} {p : Int32} (hp : pc ≤ 30) (hj : j < pc) (e : p = nI j) : ¬ wi p 0 (nI pc - 1) = 0 ∧ p.toNatClampNeg = j := by
  subst e
  refine ⟨?_, nI_clamp (by omega)⟩
  unfold wi
  rw [if_neg (nI_pos (by omega)), show (1 : Int32) = nI 1 from rfl, pk_sub (by omega), if_pos (nI_le (by omega) (by omega))]
  decide
theorem wi_o {n : Int32} (h : ¬ wi n 10 21 = 0) : ∃ j : Nat, j < 12 ∧ n = nI (j + 10) := by
  obtain ⟨h1, h2⟩ := wi_n h
  have h0 : ¬ n < 0 := fun q => h1 (Int32.lt_trans q (by decide))
  obtain ⟨j, hj, rfl⟩ := nI_of2 (M := 21) (n := 21) (by decide) h0 h2
  have h3 : 10 ≤ j := Nat.le_of_not_lt (fun q => h1 (nI_lt (b := 10) q (by decide)))
  exact ⟨j - 10, by omega, by rw [Nat.sub_add_cancel h3]⟩
theorem wi_o3 {n : Int32} (h : ¬ wi n 30 33 = 0) : ∃ j : Nat, j < 4 ∧ n = nI (j + 30) := by
  obtain ⟨h1, h2⟩ := wi_n h
  have h0 : ¬ n < 0 := fun q => h1 (Int32.lt_trans q (by decide))
  obtain ⟨j, hj, rfl⟩ := nI_of2 (M := 33) (n := 33) (by decide) h0 h2
  have h3 : 30 ≤ j := Nat.le_of_not_lt (fun q => h1 (nI_lt (b := 30) q (by decide)))
  exact ⟨j - 30, by omega, by rw [Nat.sub_add_cancel h3]⟩
def addA (pc : Nat) (h g : Int32) : Int32 := if 30 ≤ nI pc ∨ wi h 0 99999 = 0 ∨ wi g 1 2000 = 0 then -1 else nI pc
def addC (pc : Nat) (h g : Int32) : Nat := if 30 ≤ nI pc ∨ wi h 0 99999 = 0 ∨ wi g 1 2000 = 0 then pc else pc + 1
def addL (pl : Nat → Int32) (pc : Nat) (n h g : Int32) : Nat → Int32 := if 30 ≤ nI pc ∨ wi h 0 99999 = 0 ∨ wi g 1 2000 = 0 then pl else va_up pl pc n
def bookA (pc : Nat) (n u h g : Int32) : Int32 := if wi n 1 20 = 0 ∨ wi u 1 10000 = 0 then -1 else addA pc h g
def bookC (pc : Nat) (n u h g : Int32) : Nat := if wi n 1 20 = 0 ∨ wi u 1 10000 = 0 then pc else addC pc h g
def bookL (pl : Nat → Int32) (pc : Nat) (n u h g : Int32) : Nat → Int32 := if wi n 1 20 = 0 ∨ wi u 1 10000 = 0 then pl else addL pl pc n h g
def credA (pc : Nat) (u h g : Int32) : Int32 := if wi u 1 100000 = 0 then -1 else addA pc h g
def credC (pc : Nat) (u h g : Int32) : Nat := if wi u 1 100000 = 0 then pc else addC pc h g
def credL (pl : Nat → Int32) (pc : Nat) (u h g : Int32) : Nat → Int32 := if wi u 1 100000 = 0 then pl else addL pl pc 0 h g
def advA (pc ac : Nat) (p t : Int32) : Int32 := if 60 ≤ nI ac ∨ wi p 0 (nI pc - 1) = 0 ∨ wi t 0 11 = 0 then -1 else nI ac
def advC (pc ac : Nat) (p t : Int32) : Nat := if 60 ≤ nI ac ∨ wi p 0 (nI pc - 1) = 0 ∨ wi t 0 11 = 0 then ac else ac + 1
def stpA (pl : Nat → Int32) (pc sc : Nat) (p f t : Int32) : Int32 := if 60 ≤ nI sc ∨ wi p 0 (nI pc - 1) = 0 ∨ wi t 0 11 = 0 ∨ (¬ f = -1 ∧ lf f (pl p.toNatClampNeg) = 0) then -1 else nI sc
def stpC (pl : Nat → Int32) (pc sc : Nat) (p f t : Int32) : Nat := if 60 ≤ nI sc ∨ wi p 0 (nI pc - 1) = 0 ∨ wi t 0 11 = 0 ∨ (¬ f = -1 ∧ lf f (pl p.toNatClampNeg) = 0) then sc else sc + 1
def feedA (n : Nat) : Int32 := if n + 20 ≤ 300 then nI (n + 20) else -1
def feedC (n : Nat) : Nat := if n + 20 ≤ 300 then n + 20 else n
def endA (n : Nat) (k : Int32) : Int32 := if k < 0 ∨ ¬ k ≤ nI n then -1 else k
def endC (n : Nat) (k : Int32) : Nat := if k < 0 ∨ ¬ k ≤ nI n then n else k.toNatClampNeg
def sndA (se : Nat → Int32) (t c : Int32) : Int32 := if wi t 0 11 = 0 ∨ t = 0 ∨ wi c 1 1000000 = 0 ∨ ¬ se t.toNatClampNeg ≤ 1000000000 - c then -1 else se t.toNatClampNeg + c
def sndS (se : Nat → Int32) (t c : Int32) : Nat → Int32 := if wi t 0 11 = 0 ∨ t = 0 ∨ wi c 1 1000000 = 0 ∨ ¬ se t.toNatClampNeg ≤ 1000000000 - c then se else va_up se t.toNatClampNeg (se t.toNatClampNeg + c)
def txtC (n : Nat) (t : Int32) : Nat := if wi t 0 11 = 0 then n else 0
set_option maxHeartbeats 4000000 in
set_option maxRecDepth 100000 in
theorem X_addPaper (l : Launch) (D : va_G) (cy : Nat → ClassId) (sk sv : Nat → Nat) (w : Wd) (tg : Nat → Nat) (x : Nat) (td : Int32) (pc ac sc ln : Nat) (se plv : Nat → Int32) (x1 x2 x3 x4 : Int32) (hIX0 : IX cy tg x td pc ac sc ln se plv w) : Ct l D cy sk sv yX10_addPaper wsX10_addPaper ({ frames := 2, cells := 1, slots := 7, locals := 42 }) [.ref x, .int x1, .int x2, .int x3, .int x4] w (fun v w1 => v = some (.int (addA pc x3 x4)) ∧ XP cy tg x td (addC pc x3 x4) ac sc ln se (addL plv pc x1 x3 x4) w w1) := by
  refine Ct.by (cc := cX10_addPaper) (maxL := 5) (ret := (some .int)) (by decide +kernel) rfl (Nat.le_of_ble_eq_true rfl) ?_
  intro p e s m args below meth c A Q F hnm K ls hl
  have F : wd_Fx p s m args meth c cX10_addPaper 5 wsX10_addPaper RX10 D cy sk sv A := F
  have hl : lv_has ls 5 [(0, .ref x), (1, .int x1), (2, .int x2), (3, .int x3), (4, .int x4)] := hl
  have hx := F.1.1
  have hb := F.1.2.1
  have hown := F.1.2.2.2.1
  have hts := F.1.2.2.2.2
  intro H locs hP hD hS
  have kp0 : wd_kp (fun b => tg b < 10000) w w := wd_kp.rf
  refine hIX0 _ ?_
  intro a0 a1 a2 a3 a4 a5 a6 a7 a8 a10 a11 b0 b1 b2 b3 tb l0 l1 l2 l3 l4 l5 l6 l7 bl bm sh gc sg lu lv9 f0 f1 f2 f3 tbf e0 e1 e4 e5 e7 ff bf bf2 e2 e3 e6 ta sz fo to fo2 to2 tf tn ag co ra aa ru ga0 ga1 ga2 ga3 ga4 df cf nf sf uf pf pa pwo phd pgd pdy pno ptp af ad av0 av1 av2 av3 zf so sr sp0 sp1 sd hf sw hto hpp hle ham hhh hdd hru hde hcp hld hp90 hp91 hp92 hp93 hp94 hp95 hp96 hp97 hag kI0 tI0 kI1 tI1 kI2 tI2 kI3 tI3 kI4 tI4 kI5 tI5 kI6 tI6 kI7 tI7 kI8 tI8 kI9 tI9 kI10 tI10 kI11 tI11 kI12 tI12 kI13 tI13 kI14 tI14 kI15 tI15 kI16 tI16 kI17 tI17 kI18 tI18 kI19 tI19 kI20 tI20 kI21 tI21 kI22 tI22 kI23 tI23 kI24 tI24 kI25 tI25 kI26 tI26 hT9 hG9 hP9 hA9 hS9 hH9
  refine lv_aload_n hx hb dX10_addPaper_0 rfl (lv_at hl 0 rfl) ?_
  refine x_get (ref := "NoteHouse") F hP kI0 rfl (fun _ h => List.mem_cons_of_mem _ (List.mem_append_left _ (List.mem_append_right _ (h)))) 13 (Nat.le_of_ble_eq_true rfl) (List.mem_cons_of_mem _ (List.mem_append_left _ (List.mem_append_left _ (List.mem_append_left _ (List.mem_of_getElem? (i := 0) rfl))))) rfl rfl dX10_addPaper_1 ?_
  refine lv_bipush (v := 30) hx hb dX10_addPaper_4 (by decide) ?_
  refine lv_icmp_ge (tgt := 28) hx hb dX10_addPaper_6 (by decide) (fun c_1 => ?_) (fun c_1 => ?_)
  · refine lv_iconst (v := (-1)) hx hb dX10_addPaper_28 (by decide) ?_
    exact y_ir K hP hD hS (Nat.le_of_ble_eq_true rfl) (Nat.le_of_ble_eq_true rfl) (ty := .int) rfl rfl dX10_addPaper_29 (by refine ⟨(congrArg (fun z => some (Value.int z)) (show (-1) = addA pc x3 x4 from by simp [addA, addC, addL, c_1])), ?_⟩; rw [show addC pc x3 x4 = pc from by simp [addA, addC, addL, c_1], show addL plv pc x1 x3 x4 = plv from by simp [addA, addC, addL, c_1]]; exact ⟨tg, fun _ _ => rfl, wd_kp.rf, hIX0⟩)
  · have hb_pc : pc < 30 := nI_lt_of (n := 30) c_1 (by omega)
    refine lv_iload_n hx hb dX10_addPaper_9 rfl (lv_at hl 3 rfl) ?_
    refine x_callS (n := 1) (As := [.int x3]) (rest := []) F hP hD hS (g_isHand l D cy sk sv w x3) gX10_addPaper_X10_isHand rfl (by decide +kernel) ⟨(Nat.le_of_ble_eq_true rfl), (Nat.le_of_ble_eq_true rfl)⟩ rfl hl.1 (Nat.le_of_ble_eq_true rfl) dX10_addPaper_10 rfl ⟨(Nat.le_of_ble_eq_true rfl), (Nat.le_of_ble_eq_true rfl)⟩ (fun v3 w4 hp2 H locs hP hD hS => ?_)
    obtain ⟨rfl, rfl⟩ := hp2
    refine W.eq (g2 := F0 m 13 ls [.int (wi x3 0 99999)]) rfl (W.widen (k := 0) (n := 0) (Nat.le_of_ble_eq_true rfl) (Nat.le_of_ble_eq_true rfl) ?_)
    refine lv_if_eq (tgt := 28) hx hb dX10_addPaper_13 (by decide) (fun c_5 => ?_) (fun c_5 => ?_)
    · refine lv_iconst (v := (-1)) hx hb dX10_addPaper_28 (by decide) ?_
      exact y_ir K hP hD hS (Nat.le_of_ble_eq_true rfl) (Nat.le_of_ble_eq_true rfl) (ty := .int) rfl rfl dX10_addPaper_29 (by refine ⟨(congrArg (fun z => some (Value.int z)) (show (-1) = addA pc x3 x4 from by simp [addA, addC, addL, c_1, c_5])), ?_⟩; rw [show addC pc x3 x4 = pc from by simp [addA, addC, addL, c_1, c_5], show addL plv pc x1 x3 x4 = plv from by simp [addA, addC, addL, c_1, c_5]]; exact ⟨tg, fun _ _ => rfl, wd_kp.rf, hIX0⟩)
    · refine lv_iload hx hb dX10_addPaper_16 (lv_at hl 4 rfl) ?_
      refine lv_iconst (v := 1) hx hb dX10_addPaper_18 (by decide) ?_
      refine lv_sipush (v := 2000) hx hb dX10_addPaper_19 (by decide) ?_
      refine x_callS (n := 3) (As := [.int x4, .int 1, .int 2000]) (rest := []) F hP hD hS (g_isWithin l D cy sk sv w x4 1 2000) gX10_addPaper_X10_isWithin rfl (by decide +kernel) ⟨(Nat.le_of_ble_eq_true rfl), (Nat.le_of_ble_eq_true rfl)⟩ rfl hl.1 (Nat.le_of_ble_eq_true rfl) dX10_addPaper_22 rfl ⟨(Nat.le_of_ble_eq_true rfl), (Nat.le_of_ble_eq_true rfl)⟩ (fun v7 w8 hp6 H locs hP hD hS => ?_)
      obtain ⟨rfl, rfl⟩ := hp6
      refine W.eq (g2 := F0 m 25 ls [.int (wi x4 1 2000)]) rfl (W.widen (k := 0) (n := 0) (Nat.le_of_ble_eq_true rfl) (Nat.le_of_ble_eq_true rfl) ?_)
      refine lv_if_ne (tgt := 30) hx hb dX10_addPaper_25 (by decide) (fun c_9 => ?_) (fun c_9 => ?_)
      · refine lv_aload_n hx hb dX10_addPaper_30 rfl (lv_at hl 0 rfl) ?_
        refine x_get (ref := "NoteHouse") F hP kI0 rfl (fun _ h => List.mem_cons_of_mem _ (List.mem_append_left _ (List.mem_append_right _ (h)))) 2 (Nat.le_of_ble_eq_true rfl) (List.mem_cons_of_mem _ (List.mem_append_left _ (List.mem_append_left _ (List.mem_append_left _ (List.mem_of_getElem? (i := 1) rfl))))) rfl rfl dX10_addPaper_31 ?_
        refine lv_aload_n hx hb dX10_addPaper_34 rfl (lv_at hl 0 rfl) ?_
        refine x_get (ref := "NoteHouse") F hP kI0 rfl (fun _ h => List.mem_cons_of_mem _ (List.mem_append_left _ (List.mem_append_right _ (h)))) 13 (Nat.le_of_ble_eq_true rfl) (List.mem_cons_of_mem _ (List.mem_append_left _ (List.mem_append_left _ (List.mem_append_left _ (List.mem_of_getElem? (i := 0) rfl))))) rfl rfl dX10_addPaper_35 ?_
        refine y_new (fs := [.int 0, .int 0, .int 0, .int 0, .int 0, .int 0, .int 0]) F hP hD hS (ci := 3) rfl (fun _ h => List.mem_cons_of_mem _ (List.mem_append_right _ (h))) tyX3_ok (List.mem_cons_of_mem _ (List.mem_append_left _ (List.mem_append_left _ (List.mem_append_left _ (List.mem_of_getElem? (i := 2) rfl))))) (List.mem_cons_of_mem _ (List.mem_append_left _ (List.mem_append_left _ (List.mem_append_left _ (List.mem_of_getElem? (i := 3) rfl))))) (List.mem_cons_of_mem _ (List.mem_append_left _ (List.mem_append_left _ (List.mem_append_left _ (List.mem_of_getElem? (i := 4) rfl))))) df_3 (Nat.le_of_ble_eq_true rfl) (Nat.le_of_ble_eq_true rfl) dX10_addPaper_38 (fun q10 w11 ew12 hq13 H hP hD hS => ?_)
        refine W.widen (k := 1) (n := 7) (Nat.le_of_ble_eq_true rfl) (Nat.le_of_ble_eq_true rfl) ?_
        have k14 := wd_at.ad ew12 hq13 kI0
        have k15 := wd_at.ad ew12 hq13 kI1
        have k16 := wd_at.ad ew12 hq13 kI2
        have k17 := wd_at.ad ew12 hq13 kI3
        have k18 := wd_at.ad ew12 hq13 kI4
        have k19 := wd_at.ad ew12 hq13 kI5
        have k20 := wd_at.ad ew12 hq13 kI6
        have k21 := wd_at.ad ew12 hq13 kI7
        have k22 := wd_at.ad ew12 hq13 kI8
        have k23 := wd_at.ad ew12 hq13 kI9
        have k24 := wd_at.ad ew12 hq13 kI10
        have k25 := wd_at.ad ew12 hq13 kI11
        have k26 := wd_at.ad ew12 hq13 kI12
        have k27 := wd_at.ad ew12 hq13 kI13
        have k28 := wd_at.ad ew12 hq13 kI14
        have k29 := wd_at.ad ew12 hq13 kI15
        have k30 := wd_at.ad ew12 hq13 kI16
        have k31 := wd_at.ad ew12 hq13 kI17
        have k32 := wd_at.ad ew12 hq13 kI18
        have k33 := wd_at.ad ew12 hq13 kI19
        have k34 := wd_at.ad ew12 hq13 kI20
        have k35 := wd_at.ad ew12 hq13 kI21
        have k36 := wd_at.ad ew12 hq13 kI22
        have k37 := wd_at.ad ew12 hq13 kI23
        have k38 := wd_at.ad ew12 hq13 kI24
        have k39 := wd_at.ad ew12 hq13 kI25
        have k40 := wd_at.ad ew12 hq13 kI26
        have k41 : wd_at w11 q10 (.inr (3, [.int 0, .int 0, .int 0, .int 0, .int 0, .int 0, .int 0])) := wd_at.nw ew12
        have fm42 : ∀ i9, i9 < 12 → tf i9 = some (tn i9) ∧ wd_at w11 (tn i9) (.inr (8, [.int (co i9), .int (ra i9), .int (se i9), .ref (ag i9)])) ∧ tg (tn i9) = 100 + i9 := fun i9 hi9 => ⟨(hT9 i9 hi9).1, wd_at.ad ew12 hq13 (hT9 i9 hi9).2.1, (hT9 i9 hi9).2.2⟩
        have fn43 : ∀ i9, i9 < 12 → (tn i9) ≠ q10 := fun i9 hi9 => wd_nL hq13 (hT9 i9 hi9).2.1
        have fm44 : ∀ k9, k9 < 13 → (aOK (cf k9) (nf k9) ∧ ru k9 ≤ 12) ∧ wd_at w11 (aa k9) (.inr (1, [.ref (ga0 k9), .ref (ga1 k9), .ref (ga2 k9), .ref (ga3 k9), .ref (ga4 k9), .int (nI (ru k9))])) ∧ tg (aa k9) = 200 + k9 ∧ wd_at w11 (ga0 k9) (.inl (cy 2, 12, .inl (df k9))) ∧ tg (ga0 k9) = 220 + k9 ∧ wd_at w11 (ga1 k9) (.inl (cy 2, 12, .inl (cf k9))) ∧ tg (ga1 k9) = 240 + k9 ∧ wd_at w11 (ga2 k9) (.inl (cy 2, 72, .inl (nf k9))) ∧ tg (ga2 k9) = 260 + k9 ∧ wd_at w11 (ga3 k9) (.inl (cy 1, 72, .inl (sf k9))) ∧ tg (ga3 k9) = 280 + k9 ∧ wd_at w11 (ga4 k9) (.inl (cy 2, 72, .inl (uf k9))) ∧ tg (ga4 k9) = 300 + k9 := fun k9 hi9 => ⟨(hG9 k9 hi9).1, wd_at.ad ew12 hq13 (hG9 k9 hi9).2.1, (hG9 k9 hi9).2.2.1, wd_at.ad ew12 hq13 (hG9 k9 hi9).2.2.2.1, (hG9 k9 hi9).2.2.2.2.1, wd_at.ad ew12 hq13 (hG9 k9 hi9).2.2.2.2.2.1, (hG9 k9 hi9).2.2.2.2.2.2.1, wd_at.ad ew12 hq13 (hG9 k9 hi9).2.2.2.2.2.2.2.1, (hG9 k9 hi9).2.2.2.2.2.2.2.2.1, wd_at.ad ew12 hq13 (hG9 k9 hi9).2.2.2.2.2.2.2.2.2.1, (hG9 k9 hi9).2.2.2.2.2.2.2.2.2.2.1, wd_at.ad ew12 hq13 (hG9 k9 hi9).2.2.2.2.2.2.2.2.2.2.2.1, (hG9 k9 hi9).2.2.2.2.2.2.2.2.2.2.2.2⟩
        have fn45 : ∀ k9, k9 < 13 → (aa k9) ≠ q10 ∧ (ga0 k9) ≠ q10 ∧ (ga1 k9) ≠ q10 ∧ (ga2 k9) ≠ q10 ∧ (ga3 k9) ≠ q10 ∧ (ga4 k9) ≠ q10 := fun k9 hi9 => ⟨wd_nL hq13 (hG9 k9 hi9).2.1, wd_nL hq13 (hG9 k9 hi9).2.2.2.1, wd_nL hq13 (hG9 k9 hi9).2.2.2.2.2.1, wd_nL hq13 (hG9 k9 hi9).2.2.2.2.2.2.2.1, wd_nL hq13 (hG9 k9 hi9).2.2.2.2.2.2.2.2.2.1, wd_nL hq13 (hG9 k9 hi9).2.2.2.2.2.2.2.2.2.2.2.1⟩
        have fm46 : ∀ k9, k9 < pc → pf k9 = some (pa k9) ∧ wd_at w11 (pa k9) (.inr (3, [.int (plv k9), .int (pwo k9), .int (phd k9), .int (pgd k9), .int (pdy k9), .int (pno k9), .int (ptp k9)])) ∧ tg (pa k9) = 3000 + k9 := fun k9 hi9 => ⟨(hP9 k9 hi9).1, wd_at.ad ew12 hq13 (hP9 k9 hi9).2.1, (hP9 k9 hi9).2.2⟩
        have fn47 : ∀ k9, k9 < pc → (pa k9) ≠ q10 := fun k9 hi9 => wd_nL hq13 (hP9 k9 hi9).2.1
        have fm48 : ∀ k9, k9 < ac → af k9 = some (ad k9) ∧ wd_at w11 (ad k9) (.inr (0, [.int (av0 k9), .int (av1 k9), .int (av2 k9), .int (av3 k9)])) ∧ tg (ad k9) = 4000 + k9 := fun k9 hi9 => ⟨(hA9 k9 hi9).1, wd_at.ad ew12 hq13 (hA9 k9 hi9).2.1, (hA9 k9 hi9).2.2⟩
        have fn49 : ∀ k9, k9 < ac → (ad k9) ≠ q10 := fun k9 hi9 => wd_nL hq13 (hA9 k9 hi9).2.1
        have fm50 : ∀ k9, k9 < sc → zf k9 = some (so k9) ∧ wd_at w11 (so k9) (.inr (6, [.int (sp0 k9), .int (sp1 k9), .ref (sr k9)])) ∧ tg (so k9) = 5000 + k9 ∧ wd_at w11 (sr k9) (.inl (cy 2, 12, .inl (sd k9))) ∧ tg (sr k9) = 6000 + k9 := fun k9 hi9 => ⟨(hS9 k9 hi9).1, wd_at.ad ew12 hq13 (hS9 k9 hi9).2.1, (hS9 k9 hi9).2.2.1, wd_at.ad ew12 hq13 (hS9 k9 hi9).2.2.2.1, (hS9 k9 hi9).2.2.2.2⟩
        have fn51 : ∀ k9, k9 < sc → (so k9) ≠ q10 ∧ (sr k9) ≠ q10 := fun k9 hi9 => ⟨wd_nL hq13 (hS9 k9 hi9).2.1, wd_nL hq13 (hS9 k9 hi9).2.2.2.1⟩
        have fm52 : ∀ k9, k9 < sh → (hf k9 = some (sw k9) ∧ hto k9 < 12) ∧ wd_at w11 (sw k9) (.inr (5, [.int (nI (hto k9)), .int (hpp k9), .int (hle k9), .int (ham k9), .int (hhh k9), .int (hdd k9), .int (hru k9), .int (hde k9), .int (hcp k9), .int (hld k9)])) ∧ tg (sw k9) = 7000 + k9 := fun k9 hi9 => ⟨(hH9 k9 hi9).1, wd_at.ad ew12 hq13 (hH9 k9 hi9).2.1, (hH9 k9 hi9).2.2⟩
        have fn53 : ∀ k9, k9 < sh → (sw k9) ≠ q10 := fun k9 hi9 => wd_nL hq13 (hH9 k9 hi9).2.1
        have kp54 := kp0.add ew12 hq13
        refine lv_dup hx hb dX10_addPaper_41 rfl ?_
        refine lv_iload_n hx hb dX10_addPaper_42 rfl (lv_at hl 1 rfl) ?_
        refine lv_iload_n hx hb dX10_addPaper_43 rfl (lv_at hl 2 rfl) ?_
        refine lv_iload_n hx hb dX10_addPaper_44 rfl (lv_at hl 3 rfl) ?_
        refine lv_iload hx hb dX10_addPaper_45 (lv_at hl 4 rfl) ?_
        refine lv_aload_n hx hb dX10_addPaper_47 rfl (lv_at hl 0 rfl) ?_
        refine x_get (ref := "NoteHouse") F hP k14 rfl (fun _ h => List.mem_cons_of_mem _ (List.mem_append_left _ (List.mem_append_right _ (h)))) 12 (Nat.le_of_ble_eq_true rfl) (List.mem_cons_of_mem _ (List.mem_append_left _ (List.mem_append_left _ (List.mem_append_left _ (List.mem_of_getElem? (i := 5) rfl))))) rfl rfl dX10_addPaper_48 ?_
        refine x_callI (ret := none) (n := 5) (As := [.int x1, .int x2, .int x3, .int x4, .int td]) (rest := [.ref q10, .int (nI pc), .ref a2]) F hP hD hS (g_paper_init l D cy sk sv w11 q10 x1 x2 x3 x4 td k41 (fun b => b = q10) rfl) gX10_addPaper_X3_init rfl (List.mem_cons_of_mem _ (List.mem_append_left _ (List.mem_append_left _ (List.mem_append_left _ (List.mem_of_getElem? (i := 4) rfl))))) (List.mem_cons_of_mem _ (List.mem_append_left _ (List.mem_append_left _ (List.mem_append_left _ (List.mem_of_getElem? (i := 14) rfl))))) (List.mem_cons_of_mem _ (List.mem_append_left _ (List.mem_append_left _ (List.mem_append_left _ (List.mem_of_getElem? (i := 15) rfl))))) rfl (by decide +kernel) ⟨(Nat.le_of_ble_eq_true rfl), (Nat.le_of_ble_eq_true rfl)⟩ rfl hl.1 (Nat.le_of_ble_eq_true rfl) dX10_addPaper_51 rfl ⟨(Nat.le_of_ble_eq_true rfl), (Nat.le_of_ble_eq_true rfl)⟩ (fun v56 w57 hp55 H locs hP hD hS => ?_)
        obtain ⟨rfl, kq59, k58⟩ := hp55
        have k60 := kq59.2 _ _ k14 (fun q9 : x = q10 => (wd_nL hq13 kI0) q9)
        have k61 := kq59.2 _ _ k15 (fun q9 : a0 = q10 => (wd_nL hq13 kI1) q9)
        have k62 := kq59.2 _ _ k16 (fun q9 : b0 = q10 => (wd_nL hq13 kI2) q9)
        have k63 := kq59.2 _ _ k17 (fun q9 : b1 = q10 => (wd_nL hq13 kI3) q9)
        have k64 := kq59.2 _ _ k18 (fun q9 : b2 = q10 => (wd_nL hq13 kI4) q9)
        have k65 := kq59.2 _ _ k19 (fun q9 : b3 = q10 => (wd_nL hq13 kI5) q9)
        have k66 := kq59.2 _ _ k20 (fun q9 : a1 = q10 => (wd_nL hq13 kI6) q9)
        have k67 := kq59.2 _ _ k21 (fun q9 : a2 = q10 => (wd_nL hq13 kI7) q9)
        have k68 := kq59.2 _ _ k22 (fun q9 : a3 = q10 => (wd_nL hq13 kI8) q9)
        have k69 := kq59.2 _ _ k23 (fun q9 : a4 = q10 => (wd_nL hq13 kI9) q9)
        have k70 := kq59.2 _ _ k24 (fun q9 : a5 = q10 => (wd_nL hq13 kI10) q9)
        have k71 := kq59.2 _ _ k25 (fun q9 : a6 = q10 => (wd_nL hq13 kI11) q9)
        have k72 := kq59.2 _ _ k26 (fun q9 : tb = q10 => (wd_nL hq13 kI12) q9)
        have k73 := kq59.2 _ _ k27 (fun q9 : a7 = q10 => (wd_nL hq13 kI13) q9)
        have k74 := kq59.2 _ _ k28 (fun q9 : l0 = q10 => (wd_nL hq13 kI14) q9)
        have k75 := kq59.2 _ _ k29 (fun q9 : l1 = q10 => (wd_nL hq13 kI15) q9)
        have k76 := kq59.2 _ _ k30 (fun q9 : l2 = q10 => (wd_nL hq13 kI16) q9)
        have k77 := kq59.2 _ _ k31 (fun q9 : l3 = q10 => (wd_nL hq13 kI17) q9)
        have k78 := kq59.2 _ _ k32 (fun q9 : l4 = q10 => (wd_nL hq13 kI18) q9)
        have k79 := kq59.2 _ _ k33 (fun q9 : l5 = q10 => (wd_nL hq13 kI19) q9)
        have k80 := kq59.2 _ _ k34 (fun q9 : l6 = q10 => (wd_nL hq13 kI20) q9)
        have k81 := kq59.2 _ _ k35 (fun q9 : l7 = q10 => (wd_nL hq13 kI21) q9)
        have k82 := kq59.2 _ _ k36 (fun q9 : a8 = q10 => (wd_nL hq13 kI22) q9)
        have k83 := kq59.2 _ _ k37 (fun q9 : a10 = q10 => (wd_nL hq13 kI23) q9)
        have k84 := kq59.2 _ _ k38 (fun q9 : bl = q10 => (wd_nL hq13 kI24) q9)
        have k85 := kq59.2 _ _ k39 (fun q9 : a11 = q10 => (wd_nL hq13 kI25) q9)
        have k86 := kq59.2 _ _ k40 (fun q9 : bm = q10 => (wd_nL hq13 kI26) q9)
        have fm87 : ∀ i9, i9 < 12 → tf i9 = some (tn i9) ∧ wd_at w57 (tn i9) (.inr (8, [.int (co i9), .int (ra i9), .int (se i9), .ref (ag i9)])) ∧ tg (tn i9) = 100 + i9 := fun i9 hi9 => ⟨(fm42 i9 hi9).1, kq59.2 _ _ (fm42 i9 hi9).2.1 (fn43 i9 hi9), (fm42 i9 hi9).2.2⟩
        have fm88 : ∀ k9, k9 < 13 → (aOK (cf k9) (nf k9) ∧ ru k9 ≤ 12) ∧ wd_at w57 (aa k9) (.inr (1, [.ref (ga0 k9), .ref (ga1 k9), .ref (ga2 k9), .ref (ga3 k9), .ref (ga4 k9), .int (nI (ru k9))])) ∧ tg (aa k9) = 200 + k9 ∧ wd_at w57 (ga0 k9) (.inl (cy 2, 12, .inl (df k9))) ∧ tg (ga0 k9) = 220 + k9 ∧ wd_at w57 (ga1 k9) (.inl (cy 2, 12, .inl (cf k9))) ∧ tg (ga1 k9) = 240 + k9 ∧ wd_at w57 (ga2 k9) (.inl (cy 2, 72, .inl (nf k9))) ∧ tg (ga2 k9) = 260 + k9 ∧ wd_at w57 (ga3 k9) (.inl (cy 1, 72, .inl (sf k9))) ∧ tg (ga3 k9) = 280 + k9 ∧ wd_at w57 (ga4 k9) (.inl (cy 2, 72, .inl (uf k9))) ∧ tg (ga4 k9) = 300 + k9 := fun k9 hi9 => ⟨(fm44 k9 hi9).1, kq59.2 _ _ (fm44 k9 hi9).2.1 ((fn45 k9 hi9).1), (fm44 k9 hi9).2.2.1, kq59.2 _ _ (fm44 k9 hi9).2.2.2.1 ((fn45 k9 hi9).2.1), (fm44 k9 hi9).2.2.2.2.1, kq59.2 _ _ (fm44 k9 hi9).2.2.2.2.2.1 ((fn45 k9 hi9).2.2.1), (fm44 k9 hi9).2.2.2.2.2.2.1, kq59.2 _ _ (fm44 k9 hi9).2.2.2.2.2.2.2.1 ((fn45 k9 hi9).2.2.2.1), (fm44 k9 hi9).2.2.2.2.2.2.2.2.1, kq59.2 _ _ (fm44 k9 hi9).2.2.2.2.2.2.2.2.2.1 ((fn45 k9 hi9).2.2.2.2.1), (fm44 k9 hi9).2.2.2.2.2.2.2.2.2.2.1, kq59.2 _ _ (fm44 k9 hi9).2.2.2.2.2.2.2.2.2.2.2.1 ((fn45 k9 hi9).2.2.2.2.2), (fm44 k9 hi9).2.2.2.2.2.2.2.2.2.2.2.2⟩
        have fm89 : ∀ k9, k9 < pc → pf k9 = some (pa k9) ∧ wd_at w57 (pa k9) (.inr (3, [.int (plv k9), .int (pwo k9), .int (phd k9), .int (pgd k9), .int (pdy k9), .int (pno k9), .int (ptp k9)])) ∧ tg (pa k9) = 3000 + k9 := fun k9 hi9 => ⟨(fm46 k9 hi9).1, kq59.2 _ _ (fm46 k9 hi9).2.1 (fn47 k9 hi9), (fm46 k9 hi9).2.2⟩
        have fm90 : ∀ k9, k9 < ac → af k9 = some (ad k9) ∧ wd_at w57 (ad k9) (.inr (0, [.int (av0 k9), .int (av1 k9), .int (av2 k9), .int (av3 k9)])) ∧ tg (ad k9) = 4000 + k9 := fun k9 hi9 => ⟨(fm48 k9 hi9).1, kq59.2 _ _ (fm48 k9 hi9).2.1 (fn49 k9 hi9), (fm48 k9 hi9).2.2⟩
        have fm91 : ∀ k9, k9 < sc → zf k9 = some (so k9) ∧ wd_at w57 (so k9) (.inr (6, [.int (sp0 k9), .int (sp1 k9), .ref (sr k9)])) ∧ tg (so k9) = 5000 + k9 ∧ wd_at w57 (sr k9) (.inl (cy 2, 12, .inl (sd k9))) ∧ tg (sr k9) = 6000 + k9 := fun k9 hi9 => ⟨(fm50 k9 hi9).1, kq59.2 _ _ (fm50 k9 hi9).2.1 ((fn51 k9 hi9).1), (fm50 k9 hi9).2.2.1, kq59.2 _ _ (fm50 k9 hi9).2.2.2.1 ((fn51 k9 hi9).2), (fm50 k9 hi9).2.2.2.2⟩
        have fm92 : ∀ k9, k9 < sh → (hf k9 = some (sw k9) ∧ hto k9 < 12) ∧ wd_at w57 (sw k9) (.inr (5, [.int (nI (hto k9)), .int (hpp k9), .int (hle k9), .int (ham k9), .int (hhh k9), .int (hdd k9), .int (hru k9), .int (hde k9), .int (hcp k9), .int (hld k9)])) ∧ tg (sw k9) = 7000 + k9 := fun k9 hi9 => ⟨(fm52 k9 hi9).1, kq59.2 _ _ (fm52 k9 hi9).2.1 (fn53 k9 hi9), (fm52 k9 hi9).2.2⟩
        have kp93 := kp54.tr kq59 (fun b9 hm q9 => (fun q9 => absurd (q9 ▸ hm) (kp0.out hq13)) q9)
        refine W.eq (g2 := F0 m 54 ls [.ref q10, .int (nI pc), .ref a2]) rfl (W.widen (k := 1) (n := 7) (Nat.le_of_ble_eq_true rfl) (Nat.le_of_ble_eq_true rfl) ?_)
        refine y_aast F hP hD hS k67 rfl k58 rfl (vp_in_nI (n := pc) (N := 30) (by omega) (by decide)) dX10_addPaper_54 (fun w94 ew95 H locs hP hD hS => ?_)
        have k96 := wd_at.pt ew95 k60 (tg_ne tI0 tI7 (by omega))
        have k97 := wd_at.pt ew95 k61 (tg_ne tI1 tI7 (by omega))
        have k98 := wd_at.pt ew95 k62 (tg_ne tI2 tI7 (by omega))
        have k99 := wd_at.pt ew95 k63 (tg_ne tI3 tI7 (by omega))
        have k100 := wd_at.pt ew95 k64 (tg_ne tI4 tI7 (by omega))
        have k101 := wd_at.pt ew95 k65 (tg_ne tI5 tI7 (by omega))
        have k102 := wd_at.pt ew95 k66 (tg_ne tI6 tI7 (by omega))
        have k103 : wd_at w94 a2 (.inl (cy 6, 30, .inr (.inr (.inr (.inr (va_up pf (nI pc).toNatClampNeg (some q10))))))) := wd_at.ps ew95 k67
        have k104 := wd_at.pt ew95 k68 (tg_ne tI8 tI7 (by omega))
        have k105 := wd_at.pt ew95 k69 (tg_ne tI9 tI7 (by omega))
        have k106 := wd_at.pt ew95 k70 (tg_ne tI10 tI7 (by omega))
        have k107 := wd_at.pt ew95 k71 (tg_ne tI11 tI7 (by omega))
        have k108 := wd_at.pt ew95 k72 (tg_ne tI12 tI7 (by omega))
        have k109 := wd_at.pt ew95 k73 (tg_ne tI13 tI7 (by omega))
        have k110 := wd_at.pt ew95 k74 (tg_ne tI14 tI7 (by omega))
        have k111 := wd_at.pt ew95 k75 (tg_ne tI15 tI7 (by omega))
        have k112 := wd_at.pt ew95 k76 (tg_ne tI16 tI7 (by omega))
        have k113 := wd_at.pt ew95 k77 (tg_ne tI17 tI7 (by omega))
        have k114 := wd_at.pt ew95 k78 (tg_ne tI18 tI7 (by omega))
        have k115 := wd_at.pt ew95 k79 (tg_ne tI19 tI7 (by omega))
        have k116 := wd_at.pt ew95 k80 (tg_ne tI20 tI7 (by omega))
        have k117 := wd_at.pt ew95 k81 (tg_ne tI21 tI7 (by omega))
        have k118 := wd_at.pt ew95 k82 (tg_ne tI22 tI7 (by omega))
        have k119 := wd_at.pt ew95 k83 (tg_ne tI23 tI7 (by omega))
        have k120 := wd_at.pt ew95 k84 (tg_ne tI24 tI7 (by omega))
        have k121 := wd_at.pt ew95 k85 (tg_ne tI25 tI7 (by omega))
        have k122 := wd_at.pt ew95 k86 (tg_ne tI26 tI7 (by omega))
        have k123 := wd_at.pt ew95 k58 (Ne.symm (wd_nL hq13 kI7))
        have fm124 : ∀ i9, i9 < 12 → tf i9 = some (tn i9) ∧ wd_at w94 (tn i9) (.inr (8, [.int (co i9), .int (ra i9), .int (se i9), .ref (ag i9)])) ∧ tg (tn i9) = 100 + i9 := fun i9 hi9 => ⟨(fm87 i9 hi9).1, wd_at.pt ew95 (fm87 i9 hi9).2.1 (tg_ne (fm87 i9 hi9).2.2 tI7 (by omega)), (fm87 i9 hi9).2.2⟩
        have fm125 : ∀ k9, k9 < 13 → (aOK (cf k9) (nf k9) ∧ ru k9 ≤ 12) ∧ wd_at w94 (aa k9) (.inr (1, [.ref (ga0 k9), .ref (ga1 k9), .ref (ga2 k9), .ref (ga3 k9), .ref (ga4 k9), .int (nI (ru k9))])) ∧ tg (aa k9) = 200 + k9 ∧ wd_at w94 (ga0 k9) (.inl (cy 2, 12, .inl (df k9))) ∧ tg (ga0 k9) = 220 + k9 ∧ wd_at w94 (ga1 k9) (.inl (cy 2, 12, .inl (cf k9))) ∧ tg (ga1 k9) = 240 + k9 ∧ wd_at w94 (ga2 k9) (.inl (cy 2, 72, .inl (nf k9))) ∧ tg (ga2 k9) = 260 + k9 ∧ wd_at w94 (ga3 k9) (.inl (cy 1, 72, .inl (sf k9))) ∧ tg (ga3 k9) = 280 + k9 ∧ wd_at w94 (ga4 k9) (.inl (cy 2, 72, .inl (uf k9))) ∧ tg (ga4 k9) = 300 + k9 := fun k9 hi9 => ⟨(fm88 k9 hi9).1, wd_at.pt ew95 (fm88 k9 hi9).2.1 (tg_ne (fm88 k9 hi9).2.2.1 tI7 (by omega)), (fm88 k9 hi9).2.2.1, wd_at.pt ew95 (fm88 k9 hi9).2.2.2.1 (tg_ne (fm88 k9 hi9).2.2.2.2.1 tI7 (by omega)), (fm88 k9 hi9).2.2.2.2.1, wd_at.pt ew95 (fm88 k9 hi9).2.2.2.2.2.1 (tg_ne (fm88 k9 hi9).2.2.2.2.2.2.1 tI7 (by omega)), (fm88 k9 hi9).2.2.2.2.2.2.1, wd_at.pt ew95 (fm88 k9 hi9).2.2.2.2.2.2.2.1 (tg_ne (fm88 k9 hi9).2.2.2.2.2.2.2.2.1 tI7 (by omega)), (fm88 k9 hi9).2.2.2.2.2.2.2.2.1, wd_at.pt ew95 (fm88 k9 hi9).2.2.2.2.2.2.2.2.2.1 (tg_ne (fm88 k9 hi9).2.2.2.2.2.2.2.2.2.2.1 tI7 (by omega)), (fm88 k9 hi9).2.2.2.2.2.2.2.2.2.2.1, wd_at.pt ew95 (fm88 k9 hi9).2.2.2.2.2.2.2.2.2.2.2.1 (tg_ne (fm88 k9 hi9).2.2.2.2.2.2.2.2.2.2.2.2 tI7 (by omega)), (fm88 k9 hi9).2.2.2.2.2.2.2.2.2.2.2.2⟩
        have fm126 : ∀ k9, k9 < pc → pf k9 = some (pa k9) ∧ wd_at w94 (pa k9) (.inr (3, [.int (plv k9), .int (pwo k9), .int (phd k9), .int (pgd k9), .int (pdy k9), .int (pno k9), .int (ptp k9)])) ∧ tg (pa k9) = 3000 + k9 := fun k9 hi9 => ⟨(fm89 k9 hi9).1, wd_at.pt ew95 (fm89 k9 hi9).2.1 (tg_ne (fm89 k9 hi9).2.2 tI7 (by omega)), (fm89 k9 hi9).2.2⟩
        have fm127 : ∀ k9, k9 < ac → af k9 = some (ad k9) ∧ wd_at w94 (ad k9) (.inr (0, [.int (av0 k9), .int (av1 k9), .int (av2 k9), .int (av3 k9)])) ∧ tg (ad k9) = 4000 + k9 := fun k9 hi9 => ⟨(fm90 k9 hi9).1, wd_at.pt ew95 (fm90 k9 hi9).2.1 (tg_ne (fm90 k9 hi9).2.2 tI7 (by omega)), (fm90 k9 hi9).2.2⟩
        have fm128 : ∀ k9, k9 < sc → zf k9 = some (so k9) ∧ wd_at w94 (so k9) (.inr (6, [.int (sp0 k9), .int (sp1 k9), .ref (sr k9)])) ∧ tg (so k9) = 5000 + k9 ∧ wd_at w94 (sr k9) (.inl (cy 2, 12, .inl (sd k9))) ∧ tg (sr k9) = 6000 + k9 := fun k9 hi9 => ⟨(fm91 k9 hi9).1, wd_at.pt ew95 (fm91 k9 hi9).2.1 (tg_ne (fm91 k9 hi9).2.2.1 tI7 (by omega)), (fm91 k9 hi9).2.2.1, wd_at.pt ew95 (fm91 k9 hi9).2.2.2.1 (tg_ne (fm91 k9 hi9).2.2.2.2 tI7 (by omega)), (fm91 k9 hi9).2.2.2.2⟩
        have fm129 : ∀ k9, k9 < sh → (hf k9 = some (sw k9) ∧ hto k9 < 12) ∧ wd_at w94 (sw k9) (.inr (5, [.int (nI (hto k9)), .int (hpp k9), .int (hle k9), .int (ham k9), .int (hhh k9), .int (hdd k9), .int (hru k9), .int (hde k9), .int (hcp k9), .int (hld k9)])) ∧ tg (sw k9) = 7000 + k9 := fun k9 hi9 => ⟨(fm92 k9 hi9).1, wd_at.pt ew95 (fm92 k9 hi9).2.1 (tg_ne (fm92 k9 hi9).2.2 tI7 (by omega)), (fm92 k9 hi9).2.2⟩
        have kp130 := kp93.put ew95 (tgS tI7 (by omega))
        refine lv_aload_n hx hb dX10_addPaper_55 rfl (lv_at hl 0 rfl) ?_
        refine lv_dup hx hb dX10_addPaper_56 rfl ?_
        refine x_get (ref := "NoteHouse") F hP k96 rfl (fun _ h => List.mem_cons_of_mem _ (List.mem_append_left _ (List.mem_append_right _ (h)))) 13 (Nat.le_of_ble_eq_true rfl) (List.mem_cons_of_mem _ (List.mem_append_left _ (List.mem_append_left _ (List.mem_append_left _ (List.mem_of_getElem? (i := 0) rfl))))) rfl rfl dX10_addPaper_57 ?_
        refine lv_iconst (v := 1) hx hb dX10_addPaper_60 (by decide) ?_
        refine lv_iadd hx hb dX10_addPaper_61 ?_
        rw [show ((nI pc) + 1 : Int32) = nI (pc + 1) from nI_add pc 1]
        refine y_put (ref := "NoteHouse") F hP hD hS k96 rfl (fun _ h => List.mem_cons_of_mem _ (List.mem_append_left _ (List.mem_append_right _ (h)))) tyX10_ok nmX10 13 (Nat.le_of_ble_eq_true rfl) (List.mem_cons_of_mem _ (List.mem_append_left _ (List.mem_append_left _ (List.mem_append_left _ (List.mem_of_getElem? (i := 0) rfl))))) rfl rfl rfl rfl (Nat.le_of_ble_eq_true rfl) dX10_addPaper_62 (fun w131 ew132 H locs hP hD hS => ?_)
        have k133 : wd_at w131 x (.inr (10, [.ref a0, .ref a1, .ref a2, .ref a3, .ref a4, .ref a5, .ref a6, .ref a7, .ref a8, .ref (aa sg), .ref a10, .ref a11, .int td, .int (nI (pc + 1)), .int (nI ac), .int (nI sc), .int (nI sh)])) := wd_at.ps ew132 k96
        have k134 := wd_at.pt ew132 k97 (tg_ne tI1 tI0 (by omega))
        have k135 := wd_at.pt ew132 k98 (tg_ne tI2 tI0 (by omega))
        have k136 := wd_at.pt ew132 k99 (tg_ne tI3 tI0 (by omega))
        have k137 := wd_at.pt ew132 k100 (tg_ne tI4 tI0 (by omega))
        have k138 := wd_at.pt ew132 k101 (tg_ne tI5 tI0 (by omega))
        have k139 := wd_at.pt ew132 k102 (tg_ne tI6 tI0 (by omega))
        have k140 := wd_at.pt ew132 k103 (tg_ne tI7 tI0 (by omega))
        have k141 := wd_at.pt ew132 k104 (tg_ne tI8 tI0 (by omega))
        have k142 := wd_at.pt ew132 k105 (tg_ne tI9 tI0 (by omega))
        have k143 := wd_at.pt ew132 k106 (tg_ne tI10 tI0 (by omega))
        have k144 := wd_at.pt ew132 k107 (tg_ne tI11 tI0 (by omega))
        have k145 := wd_at.pt ew132 k108 (tg_ne tI12 tI0 (by omega))
        have k146 := wd_at.pt ew132 k109 (tg_ne tI13 tI0 (by omega))
        have k147 := wd_at.pt ew132 k110 (tg_ne tI14 tI0 (by omega))
        have k148 := wd_at.pt ew132 k111 (tg_ne tI15 tI0 (by omega))
        have k149 := wd_at.pt ew132 k112 (tg_ne tI16 tI0 (by omega))
        have k150 := wd_at.pt ew132 k113 (tg_ne tI17 tI0 (by omega))
        have k151 := wd_at.pt ew132 k114 (tg_ne tI18 tI0 (by omega))
        have k152 := wd_at.pt ew132 k115 (tg_ne tI19 tI0 (by omega))
        have k153 := wd_at.pt ew132 k116 (tg_ne tI20 tI0 (by omega))
        have k154 := wd_at.pt ew132 k117 (tg_ne tI21 tI0 (by omega))
        have k155 := wd_at.pt ew132 k118 (tg_ne tI22 tI0 (by omega))
        have k156 := wd_at.pt ew132 k119 (tg_ne tI23 tI0 (by omega))
        have k157 := wd_at.pt ew132 k120 (tg_ne tI24 tI0 (by omega))
        have k158 := wd_at.pt ew132 k121 (tg_ne tI25 tI0 (by omega))
        have k159 := wd_at.pt ew132 k122 (tg_ne tI26 tI0 (by omega))
        have k160 := wd_at.pt ew132 k123 (Ne.symm (wd_nL hq13 kI0))
        have fm161 : ∀ i9, i9 < 12 → tf i9 = some (tn i9) ∧ wd_at w131 (tn i9) (.inr (8, [.int (co i9), .int (ra i9), .int (se i9), .ref (ag i9)])) ∧ tg (tn i9) = 100 + i9 := fun i9 hi9 => ⟨(fm124 i9 hi9).1, wd_at.pt ew132 (fm124 i9 hi9).2.1 (tg_ne (fm124 i9 hi9).2.2 tI0 (by omega)), (fm124 i9 hi9).2.2⟩
        have fm162 : ∀ k9, k9 < 13 → (aOK (cf k9) (nf k9) ∧ ru k9 ≤ 12) ∧ wd_at w131 (aa k9) (.inr (1, [.ref (ga0 k9), .ref (ga1 k9), .ref (ga2 k9), .ref (ga3 k9), .ref (ga4 k9), .int (nI (ru k9))])) ∧ tg (aa k9) = 200 + k9 ∧ wd_at w131 (ga0 k9) (.inl (cy 2, 12, .inl (df k9))) ∧ tg (ga0 k9) = 220 + k9 ∧ wd_at w131 (ga1 k9) (.inl (cy 2, 12, .inl (cf k9))) ∧ tg (ga1 k9) = 240 + k9 ∧ wd_at w131 (ga2 k9) (.inl (cy 2, 72, .inl (nf k9))) ∧ tg (ga2 k9) = 260 + k9 ∧ wd_at w131 (ga3 k9) (.inl (cy 1, 72, .inl (sf k9))) ∧ tg (ga3 k9) = 280 + k9 ∧ wd_at w131 (ga4 k9) (.inl (cy 2, 72, .inl (uf k9))) ∧ tg (ga4 k9) = 300 + k9 := fun k9 hi9 => ⟨(fm125 k9 hi9).1, wd_at.pt ew132 (fm125 k9 hi9).2.1 (tg_ne (fm125 k9 hi9).2.2.1 tI0 (by omega)), (fm125 k9 hi9).2.2.1, wd_at.pt ew132 (fm125 k9 hi9).2.2.2.1 (tg_ne (fm125 k9 hi9).2.2.2.2.1 tI0 (by omega)), (fm125 k9 hi9).2.2.2.2.1, wd_at.pt ew132 (fm125 k9 hi9).2.2.2.2.2.1 (tg_ne (fm125 k9 hi9).2.2.2.2.2.2.1 tI0 (by omega)), (fm125 k9 hi9).2.2.2.2.2.2.1, wd_at.pt ew132 (fm125 k9 hi9).2.2.2.2.2.2.2.1 (tg_ne (fm125 k9 hi9).2.2.2.2.2.2.2.2.1 tI0 (by omega)), (fm125 k9 hi9).2.2.2.2.2.2.2.2.1, wd_at.pt ew132 (fm125 k9 hi9).2.2.2.2.2.2.2.2.2.1 (tg_ne (fm125 k9 hi9).2.2.2.2.2.2.2.2.2.2.1 tI0 (by omega)), (fm125 k9 hi9).2.2.2.2.2.2.2.2.2.2.1, wd_at.pt ew132 (fm125 k9 hi9).2.2.2.2.2.2.2.2.2.2.2.1 (tg_ne (fm125 k9 hi9).2.2.2.2.2.2.2.2.2.2.2.2 tI0 (by omega)), (fm125 k9 hi9).2.2.2.2.2.2.2.2.2.2.2.2⟩
        have fm163 : ∀ k9, k9 < pc → pf k9 = some (pa k9) ∧ wd_at w131 (pa k9) (.inr (3, [.int (plv k9), .int (pwo k9), .int (phd k9), .int (pgd k9), .int (pdy k9), .int (pno k9), .int (ptp k9)])) ∧ tg (pa k9) = 3000 + k9 := fun k9 hi9 => ⟨(fm126 k9 hi9).1, wd_at.pt ew132 (fm126 k9 hi9).2.1 (tg_ne (fm126 k9 hi9).2.2 tI0 (by omega)), (fm126 k9 hi9).2.2⟩
        have fm164 : ∀ k9, k9 < ac → af k9 = some (ad k9) ∧ wd_at w131 (ad k9) (.inr (0, [.int (av0 k9), .int (av1 k9), .int (av2 k9), .int (av3 k9)])) ∧ tg (ad k9) = 4000 + k9 := fun k9 hi9 => ⟨(fm127 k9 hi9).1, wd_at.pt ew132 (fm127 k9 hi9).2.1 (tg_ne (fm127 k9 hi9).2.2 tI0 (by omega)), (fm127 k9 hi9).2.2⟩
        have fm165 : ∀ k9, k9 < sc → zf k9 = some (so k9) ∧ wd_at w131 (so k9) (.inr (6, [.int (sp0 k9), .int (sp1 k9), .ref (sr k9)])) ∧ tg (so k9) = 5000 + k9 ∧ wd_at w131 (sr k9) (.inl (cy 2, 12, .inl (sd k9))) ∧ tg (sr k9) = 6000 + k9 := fun k9 hi9 => ⟨(fm128 k9 hi9).1, wd_at.pt ew132 (fm128 k9 hi9).2.1 (tg_ne (fm128 k9 hi9).2.2.1 tI0 (by omega)), (fm128 k9 hi9).2.2.1, wd_at.pt ew132 (fm128 k9 hi9).2.2.2.1 (tg_ne (fm128 k9 hi9).2.2.2.2 tI0 (by omega)), (fm128 k9 hi9).2.2.2.2⟩
        have fm166 : ∀ k9, k9 < sh → (hf k9 = some (sw k9) ∧ hto k9 < 12) ∧ wd_at w131 (sw k9) (.inr (5, [.int (nI (hto k9)), .int (hpp k9), .int (hle k9), .int (ham k9), .int (hhh k9), .int (hdd k9), .int (hru k9), .int (hde k9), .int (hcp k9), .int (hld k9)])) ∧ tg (sw k9) = 7000 + k9 := fun k9 hi9 => ⟨(fm129 k9 hi9).1, wd_at.pt ew132 (fm129 k9 hi9).2.1 (tg_ne (fm129 k9 hi9).2.2 tI0 (by omega)), (fm129 k9 hi9).2.2⟩
        have kp167 := kp130.put ew132 (tgS tI0 (by omega))
        refine lv_aload_n hx hb dX10_addPaper_65 rfl (lv_at hl 0 rfl) ?_
        refine x_get (ref := "NoteHouse") F hP k133 rfl (fun _ h => List.mem_cons_of_mem _ (List.mem_append_left _ (List.mem_append_right _ (h)))) 13 (Nat.le_of_ble_eq_true rfl) (List.mem_cons_of_mem _ (List.mem_append_left _ (List.mem_append_left _ (List.mem_append_left _ (List.mem_of_getElem? (i := 0) rfl))))) rfl rfl dX10_addPaper_66 ?_
        refine lv_iconst (v := 1) hx hb dX10_addPaper_69 (by decide) ?_
        refine lv_isub hx hb dX10_addPaper_70 ?_
        rw [show ((nI (pc + 1)) - 1 : Int32) = nI ((pc + 1) - 1) from pk_sub (a := (pc + 1)) (b := 1) (by omega)]
        have fm169 : ∀ i9, i9 < 12 → tf i9 = some (tn i9) ∧ wd_at w131 (tn i9) (.inr (8, [.int (co i9), .int (ra i9), .int (se i9), .ref (ag i9)])) ∧ (va_up tg q10 (3000 + pc)) (tn i9) = 100 + i9 := fun i9 hi9 => ⟨(fm161 i9 hi9).1, (fm161 i9 hi9).2.1, ((va_up_ne _ _ (fn43 i9 hi9)).trans (fm161 i9 hi9).2.2)⟩
        have fm170 : ∀ k9, k9 < 13 → (aOK (cf k9) (nf k9) ∧ ru k9 ≤ 12) ∧ wd_at w131 (aa k9) (.inr (1, [.ref (ga0 k9), .ref (ga1 k9), .ref (ga2 k9), .ref (ga3 k9), .ref (ga4 k9), .int (nI (ru k9))])) ∧ (va_up tg q10 (3000 + pc)) (aa k9) = 200 + k9 ∧ wd_at w131 (ga0 k9) (.inl (cy 2, 12, .inl (df k9))) ∧ (va_up tg q10 (3000 + pc)) (ga0 k9) = 220 + k9 ∧ wd_at w131 (ga1 k9) (.inl (cy 2, 12, .inl (cf k9))) ∧ (va_up tg q10 (3000 + pc)) (ga1 k9) = 240 + k9 ∧ wd_at w131 (ga2 k9) (.inl (cy 2, 72, .inl (nf k9))) ∧ (va_up tg q10 (3000 + pc)) (ga2 k9) = 260 + k9 ∧ wd_at w131 (ga3 k9) (.inl (cy 1, 72, .inl (sf k9))) ∧ (va_up tg q10 (3000 + pc)) (ga3 k9) = 280 + k9 ∧ wd_at w131 (ga4 k9) (.inl (cy 2, 72, .inl (uf k9))) ∧ (va_up tg q10 (3000 + pc)) (ga4 k9) = 300 + k9 := fun k9 hi9 => ⟨(fm162 k9 hi9).1, (fm162 k9 hi9).2.1, ((va_up_ne _ _ ((fn45 k9 hi9).1)).trans (fm162 k9 hi9).2.2.1), (fm162 k9 hi9).2.2.2.1, ((va_up_ne _ _ ((fn45 k9 hi9).2.1)).trans (fm162 k9 hi9).2.2.2.2.1), (fm162 k9 hi9).2.2.2.2.2.1, ((va_up_ne _ _ ((fn45 k9 hi9).2.2.1)).trans (fm162 k9 hi9).2.2.2.2.2.2.1), (fm162 k9 hi9).2.2.2.2.2.2.2.1, ((va_up_ne _ _ ((fn45 k9 hi9).2.2.2.1)).trans (fm162 k9 hi9).2.2.2.2.2.2.2.2.1), (fm162 k9 hi9).2.2.2.2.2.2.2.2.2.1, ((va_up_ne _ _ ((fn45 k9 hi9).2.2.2.2.1)).trans (fm162 k9 hi9).2.2.2.2.2.2.2.2.2.2.1), (fm162 k9 hi9).2.2.2.2.2.2.2.2.2.2.2.1, ((va_up_ne _ _ ((fn45 k9 hi9).2.2.2.2.2)).trans (fm162 k9 hi9).2.2.2.2.2.2.2.2.2.2.2.2)⟩
        have fm171 : ∀ k9, k9 < pc → pf k9 = some (pa k9) ∧ wd_at w131 (pa k9) (.inr (3, [.int (plv k9), .int (pwo k9), .int (phd k9), .int (pgd k9), .int (pdy k9), .int (pno k9), .int (ptp k9)])) ∧ (va_up tg q10 (3000 + pc)) (pa k9) = 3000 + k9 := fun k9 hi9 => ⟨(fm163 k9 hi9).1, (fm163 k9 hi9).2.1, ((va_up_ne _ _ (fn47 k9 hi9)).trans (fm163 k9 hi9).2.2)⟩
        have fm172 : ∀ k9, k9 < ac → af k9 = some (ad k9) ∧ wd_at w131 (ad k9) (.inr (0, [.int (av0 k9), .int (av1 k9), .int (av2 k9), .int (av3 k9)])) ∧ (va_up tg q10 (3000 + pc)) (ad k9) = 4000 + k9 := fun k9 hi9 => ⟨(fm164 k9 hi9).1, (fm164 k9 hi9).2.1, ((va_up_ne _ _ (fn49 k9 hi9)).trans (fm164 k9 hi9).2.2)⟩
        have fm173 : ∀ k9, k9 < sc → zf k9 = some (so k9) ∧ wd_at w131 (so k9) (.inr (6, [.int (sp0 k9), .int (sp1 k9), .ref (sr k9)])) ∧ (va_up tg q10 (3000 + pc)) (so k9) = 5000 + k9 ∧ wd_at w131 (sr k9) (.inl (cy 2, 12, .inl (sd k9))) ∧ (va_up tg q10 (3000 + pc)) (sr k9) = 6000 + k9 := fun k9 hi9 => ⟨(fm165 k9 hi9).1, (fm165 k9 hi9).2.1, ((va_up_ne _ _ ((fn51 k9 hi9).1)).trans (fm165 k9 hi9).2.2.1), (fm165 k9 hi9).2.2.2.1, ((va_up_ne _ _ ((fn51 k9 hi9).2)).trans (fm165 k9 hi9).2.2.2.2)⟩
        have fm174 : ∀ k9, k9 < sh → (hf k9 = some (sw k9) ∧ hto k9 < 12) ∧ wd_at w131 (sw k9) (.inr (5, [.int (nI (hto k9)), .int (hpp k9), .int (hle k9), .int (ham k9), .int (hhh k9), .int (hdd k9), .int (hru k9), .int (hde k9), .int (hcp k9), .int (hld k9)])) ∧ (va_up tg q10 (3000 + pc)) (sw k9) = 7000 + k9 := fun k9 hi9 => ⟨(fm166 k9 hi9).1, (fm166 k9 hi9).2.1, ((va_up_ne _ _ (fn53 k9 hi9)).trans (fm166 k9 hi9).2.2)⟩
        have k175 : wd_at w131 a2 (.inl (cy 6, 30, .inr (.inr (.inr (.inr (va_up pf pc (some q10))))))) := by have h9 := k140; rw [nI_clamp (n := pc) (by omega)] at h9; exact h9
        have fm176 : ∀ k9, k9 < (pc + 1) → (va_up pf pc (some q10)) k9 = some ((va_up pa pc q10) k9) ∧ wd_at w131 ((va_up pa pc q10) k9) (.inr (3, [.int ((va_up plv pc x1) k9), .int ((va_up pwo pc x2) k9), .int ((va_up phd pc x3) k9), .int ((va_up pgd pc x4) k9), .int ((va_up pdy pc td) k9), .int ((va_up pno pc 0) k9), .int ((va_up ptp pc 0) k9)])) ∧ (va_up tg q10 (3000 + pc)) ((va_up pa pc q10) k9) = 3000 + k9 := by
          intro k9 hi9
          by_cases e9 : k9 = pc
          · rw [e9]
            exact ⟨(by rw [va_up_self, va_up_self]), (by simp only [va_up_self]; exact k160), (by rw [va_up_self]; exact (va_up_self _ _ _))⟩
          · simp only [va_up_ne _ _ e9]
            exact fm171 k9 (by omega)
        have hX177 : IX cy (va_up tg q10 (3000 + pc)) x td (pc + 1) ac sc ln se (va_up plv pc x1) w131 := IX.mk a0 a1 a2 a3 a4 a5 a6 a7 a8 a10 a11 b0 b1 b2 b3 tb l0 l1 l2 l3 l4 l5 l6 l7 bl bm sh gc sg lu lv9 f0 f1 f2 f3 tbf e0 e1 e4 e5 e7 ff bf bf2 e2 e3 e6 ta sz fo to fo2 to2 tf tn ag co ra aa ru ga0 ga1 ga2 ga3 ga4 df cf nf sf uf (va_up pf pc (some q10)) (va_up pa pc q10) (va_up pwo pc x2) (va_up phd pc x3) (va_up pgd pc x4) (va_up pdy pc td) (va_up pno pc 0) (va_up ptp pc 0) af ad av0 av1 av2 av3 zf so sr sp0 sp1 sd hf sw hto hpp hle ham hhh hdd hru hde hcp hld (by omega) (by omega) (by omega) (by omega) (by omega) (by omega) (by omega) (by omega) hag k133 ((va_up_ne _ _ (wd_nL hq13 kI0)).trans tI0) k134 ((va_up_ne _ _ (wd_nL hq13 kI1)).trans tI1) k135 ((va_up_ne _ _ (wd_nL hq13 kI2)).trans tI2) k136 ((va_up_ne _ _ (wd_nL hq13 kI3)).trans tI3) k137 ((va_up_ne _ _ (wd_nL hq13 kI4)).trans tI4) k138 ((va_up_ne _ _ (wd_nL hq13 kI5)).trans tI5) k139 ((va_up_ne _ _ (wd_nL hq13 kI6)).trans tI6) k175 ((va_up_ne _ _ (wd_nL hq13 kI7)).trans tI7) k141 ((va_up_ne _ _ (wd_nL hq13 kI8)).trans tI8) k142 ((va_up_ne _ _ (wd_nL hq13 kI9)).trans tI9) k143 ((va_up_ne _ _ (wd_nL hq13 kI10)).trans tI10) k144 ((va_up_ne _ _ (wd_nL hq13 kI11)).trans tI11) k145 ((va_up_ne _ _ (wd_nL hq13 kI12)).trans tI12) k146 ((va_up_ne _ _ (wd_nL hq13 kI13)).trans tI13) k147 ((va_up_ne _ _ (wd_nL hq13 kI14)).trans tI14) k148 ((va_up_ne _ _ (wd_nL hq13 kI15)).trans tI15) k149 ((va_up_ne _ _ (wd_nL hq13 kI16)).trans tI16) k150 ((va_up_ne _ _ (wd_nL hq13 kI17)).trans tI17) k151 ((va_up_ne _ _ (wd_nL hq13 kI18)).trans tI18) k152 ((va_up_ne _ _ (wd_nL hq13 kI19)).trans tI19) k153 ((va_up_ne _ _ (wd_nL hq13 kI20)).trans tI20) k154 ((va_up_ne _ _ (wd_nL hq13 kI21)).trans tI21) k155 ((va_up_ne _ _ (wd_nL hq13 kI22)).trans tI22) k156 ((va_up_ne _ _ (wd_nL hq13 kI23)).trans tI23) k157 ((va_up_ne _ _ (wd_nL hq13 kI24)).trans tI24) k158 ((va_up_ne _ _ (wd_nL hq13 kI25)).trans tI25) k159 ((va_up_ne _ _ (wd_nL hq13 kI26)).trans tI26) fm169 fm170 fm176 fm172 fm173 fm174
        exact y_ir K hP hD hS (Nat.le_of_ble_eq_true rfl) (Nat.le_of_ble_eq_true rfl) (ty := .int) rfl rfl dX10_addPaper_71 (by refine ⟨(congrArg (fun z => some (Value.int z)) (show nI ((pc + 1) - 1) = addA pc x3 x4 from by simp [addA, addC, addL, c_1, c_5, c_9])), ?_⟩; rw [show addC pc x3 x4 = (pc + 1) from by simp [addA, addC, addL, c_1, c_5, c_9], show addL plv pc x1 x3 x4 = (va_up plv pc x1) from by simp [addA, addC, addL, c_1, c_5, c_9]]; exact ⟨(va_up tg q10 (3000 + pc)), (fun a9 ha9 => (va_up_ne _ _ (fun q9 : a9 = q10 => (kp0.out hq13) (q9 ▸ ha9)))), kp167, hX177⟩)
      · refine lv_iconst (v := (-1)) hx hb dX10_addPaper_28 (by decide) ?_
        exact y_ir K hP hD hS (Nat.le_of_ble_eq_true rfl) (Nat.le_of_ble_eq_true rfl) (ty := .int) rfl rfl dX10_addPaper_29 (by refine ⟨(congrArg (fun z => some (Value.int z)) (show (-1) = addA pc x3 x4 from by simp [addA, addC, addL, c_1, c_5, c_9])), ?_⟩; rw [show addC pc x3 x4 = pc from by simp [addA, addC, addL, c_1, c_5, c_9], show addL plv pc x1 x3 x4 = plv from by simp [addA, addC, addL, c_1, c_5, c_9]]; exact ⟨tg, fun _ _ => rfl, wd_kp.rf, hIX0⟩)
set_option maxHeartbeats 4000000 in
set_option maxRecDepth 100000 in
theorem X_book (l : Launch) (D : va_G) (cy : Nat → ClassId) (sk sv : Nat → Nat) (w : Wd) (tg : Nat → Nat) (x : Nat) (td : Int32) (pc ac sc ln : Nat) (se plv : Nat → Int32) (x1 x2 x3 x4 : Int32) (hIX0 : IX cy tg x td pc ac sc ln se plv w) : Ct l D cy sk sv yX10_book wsX10_book ({ frames := 3, cells := 1, slots := 7, locals := 66 }) [.ref x, .int x1, .int x2, .int x3, .int x4] w (fun v w1 => v = some (.int (bookA pc x1 x2 x3 x4)) ∧ XP cy tg x td (bookC pc x1 x2 x3 x4) ac sc ln se (bookL plv pc x1 x2 x3 x4) w w1) := by
  refine Ct.by (cc := cX10_book) (maxL := 5) (ret := (some .int)) (by decide +kernel) rfl (Nat.le_of_ble_eq_true rfl) ?_
  intro p e s m args below meth c A Q F hnm K ls hl
  have F : wd_Fx p s m args meth c cX10_book 5 wsX10_book RX10 D cy sk sv A := F
  have hl : lv_has ls 5 [(0, .ref x), (1, .int x1), (2, .int x2), (3, .int x3), (4, .int x4)] := hl
  have hx := F.1.1
  have hb := F.1.2.1
  have hown := F.1.2.2.2.1
  have hts := F.1.2.2.2.2
  intro H locs hP hD hS
  have kp0 : wd_kp (fun b => tg b < 10000) w w := wd_kp.rf
  refine hIX0 _ ?_
  intro a0 a1 a2 a3 a4 a5 a6 a7 a8 a10 a11 b0 b1 b2 b3 tb l0 l1 l2 l3 l4 l5 l6 l7 bl bm sh gc sg lu lv9 f0 f1 f2 f3 tbf e0 e1 e4 e5 e7 ff bf bf2 e2 e3 e6 ta sz fo to fo2 to2 tf tn ag co ra aa ru ga0 ga1 ga2 ga3 ga4 df cf nf sf uf pf pa pwo phd pgd pdy pno ptp af ad av0 av1 av2 av3 zf so sr sp0 sp1 sd hf sw hto hpp hle ham hhh hdd hru hde hcp hld hp90 hp91 hp92 hp93 hp94 hp95 hp96 hp97 hag kI0 tI0 kI1 tI1 kI2 tI2 kI3 tI3 kI4 tI4 kI5 tI5 kI6 tI6 kI7 tI7 kI8 tI8 kI9 tI9 kI10 tI10 kI11 tI11 kI12 tI12 kI13 tI13 kI14 tI14 kI15 tI15 kI16 tI16 kI17 tI17 kI18 tI18 kI19 tI19 kI20 tI20 kI21 tI21 kI22 tI22 kI23 tI23 kI24 tI24 kI25 tI25 kI26 tI26 hT9 hG9 hP9 hA9 hS9 hH9
  refine lv_iload_n hx hb dX10_book_0 rfl (lv_at hl 1 rfl) ?_
  refine lv_iconst (v := 1) hx hb dX10_book_1 (by decide) ?_
  refine lv_bipush (v := 20) hx hb dX10_book_2 (by decide) ?_
  refine x_callS (n := 3) (As := [.int x1, .int 1, .int 20]) (rest := []) F hP hD hS (g_isWithin l D cy sk sv w x1 1 20) gX10_book_X10_isWithin rfl (by decide +kernel) ⟨(Nat.le_of_ble_eq_true rfl), (Nat.le_of_ble_eq_true rfl)⟩ rfl hl.1 (Nat.le_of_ble_eq_true rfl) dX10_book_4 rfl ⟨(Nat.le_of_ble_eq_true rfl), (Nat.le_of_ble_eq_true rfl)⟩ (fun v2 w3 hp1 H locs hP hD hS => ?_)
  obtain ⟨rfl, rfl⟩ := hp1
  refine W.eq (g2 := F0 m 7 ls [.int (wi x1 1 20)]) rfl (W.widen (k := 0) (n := 0) (Nat.le_of_ble_eq_true rfl) (Nat.le_of_ble_eq_true rfl) ?_)
  refine lv_if_eq (tgt := 21) hx hb dX10_book_7 (by decide) (fun c_4 => ?_) (fun c_4 => ?_)
  · refine lv_iconst (v := (-1)) hx hb dX10_book_21 (by decide) ?_
    exact y_ir K hP hD hS (Nat.le_of_ble_eq_true rfl) (Nat.le_of_ble_eq_true rfl) (ty := .int) rfl rfl dX10_book_22 (by refine ⟨(congrArg (fun z => some (Value.int z)) (show (-1) = bookA pc x1 x2 x3 x4 from by simp [bookA, bookC, bookL, c_4])), ?_⟩; rw [show bookC pc x1 x2 x3 x4 = pc from by simp [bookA, bookC, bookL, c_4], show bookL plv pc x1 x2 x3 x4 = plv from by simp [bookA, bookC, bookL, c_4]]; exact ⟨tg, fun _ _ => rfl, wd_kp.rf, hIX0⟩)
  · refine lv_iload_n hx hb dX10_book_10 rfl (lv_at hl 2 rfl) ?_
    refine lv_iconst (v := 1) hx hb dX10_book_11 (by decide) ?_
    refine lv_sipush (v := 10000) hx hb dX10_book_12 (by decide) ?_
    refine x_callS (n := 3) (As := [.int x2, .int 1, .int 10000]) (rest := []) F hP hD hS (g_isWithin l D cy sk sv w x2 1 10000) gX10_book_X10_isWithin rfl (by decide +kernel) ⟨(Nat.le_of_ble_eq_true rfl), (Nat.le_of_ble_eq_true rfl)⟩ rfl hl.1 (Nat.le_of_ble_eq_true rfl) dX10_book_15 rfl ⟨(Nat.le_of_ble_eq_true rfl), (Nat.le_of_ble_eq_true rfl)⟩ (fun v6 w7 hp5 H locs hP hD hS => ?_)
    obtain ⟨rfl, rfl⟩ := hp5
    refine W.eq (g2 := F0 m 18 ls [.int (wi x2 1 10000)]) rfl (W.widen (k := 0) (n := 0) (Nat.le_of_ble_eq_true rfl) (Nat.le_of_ble_eq_true rfl) ?_)
    refine lv_if_ne (tgt := 23) hx hb dX10_book_18 (by decide) (fun c_8 => ?_) (fun c_8 => ?_)
    · refine lv_aload_n hx hb dX10_book_23 rfl (lv_at hl 0 rfl) ?_
      refine lv_iload_n hx hb dX10_book_24 rfl (lv_at hl 1 rfl) ?_
      refine lv_iload_n hx hb dX10_book_25 rfl (lv_at hl 2 rfl) ?_
      refine lv_iload_n hx hb dX10_book_26 rfl (lv_at hl 3 rfl) ?_
      refine lv_iload hx hb dX10_book_27 (lv_at hl 4 rfl) ?_
      refine x_callV (n := 4) (As := [.int x1, .int x2, .int x3, .int x4]) (rest := []) F hP hD hS (X_addPaper l D cy sk sv w tg x td pc ac sc ln se plv x1 x2 x3 x4 hIX0) gX10_book_X10_addPaper rfl rfl (by decide +kernel) ⟨(Nat.le_of_ble_eq_true rfl), (Nat.le_of_ble_eq_true rfl)⟩ rfl hl.1 (Nat.le_of_ble_eq_true rfl) kI0 rfl dX10_book_29 rfl ⟨(Nat.le_of_ble_eq_true rfl), (Nat.le_of_ble_eq_true rfl)⟩ (fun v10 w11 hp9 H locs hP hD hS => ?_)
      obtain ⟨rfl, hXP12⟩ := hp9
      refine W.eq (g2 := F0 m 32 ls [.int (addA pc x3 x4)]) rfl (W.widen (k := 1) (n := 7) (Nat.le_of_ble_eq_true rfl) (Nat.le_of_ble_eq_true rfl) ?_)
      exact y_ir K hP hD hS (Nat.le_of_ble_eq_true rfl) (Nat.le_of_ble_eq_true rfl) (ty := .int) rfl rfl dX10_book_32 (by refine ⟨(congrArg (fun z => some (Value.int z)) (show addA pc x3 x4 = bookA pc x1 x2 x3 x4 from by simp [bookA, bookC, bookL, c_4, c_8])), ?_⟩; rw [show bookC pc x1 x2 x3 x4 = (addC pc x3 x4) from by simp [bookA, bookC, bookL, c_4, c_8], show bookL plv pc x1 x2 x3 x4 = (addL plv pc x1 x3 x4) from by simp [bookA, bookC, bookL, c_4, c_8]]; exact hXP12)
    · refine lv_iconst (v := (-1)) hx hb dX10_book_21 (by decide) ?_
      exact y_ir K hP hD hS (Nat.le_of_ble_eq_true rfl) (Nat.le_of_ble_eq_true rfl) (ty := .int) rfl rfl dX10_book_22 (by refine ⟨(congrArg (fun z => some (Value.int z)) (show (-1) = bookA pc x1 x2 x3 x4 from by simp [bookA, bookC, bookL, c_4, c_8])), ?_⟩; rw [show bookC pc x1 x2 x3 x4 = pc from by simp [bookA, bookC, bookL, c_4, c_8], show bookL plv pc x1 x2 x3 x4 = plv from by simp [bookA, bookC, bookL, c_4, c_8]]; exact ⟨tg, fun _ _ => rfl, wd_kp.rf, hIX0⟩)
set_option maxHeartbeats 4000000 in
set_option maxRecDepth 100000 in
theorem X_credit (l : Launch) (D : va_G) (cy : Nat → ClassId) (sk sv : Nat → Nat) (w : Wd) (tg : Nat → Nat) (x : Nat) (td : Int32) (pc ac sc ln : Nat) (se plv : Nat → Int32) (x1 x2 x3 : Int32) (hIX0 : IX cy tg x td pc ac sc ln se plv w) : Ct l D cy sk sv yX10_credit wsX10_credit ({ frames := 3, cells := 1, slots := 7, locals := 66 }) [.ref x, .int x1, .int x2, .int x3] w (fun v w1 => v = some (.int (credA pc x1 x2 x3)) ∧ XP cy tg x td (credC pc x1 x2 x3) ac sc ln se (credL plv pc x1 x2 x3) w w1) := by
  refine Ct.by (cc := cX10_credit) (maxL := 4) (ret := (some .int)) (by decide +kernel) rfl (Nat.le_of_ble_eq_true rfl) ?_
  intro p e s m args below meth c A Q F hnm K ls hl
  have F : wd_Fx p s m args meth c cX10_credit 4 wsX10_credit RX10 D cy sk sv A := F
  have hl : lv_has ls 4 [(0, .ref x), (1, .int x1), (2, .int x2), (3, .int x3)] := hl
  have hx := F.1.1
  have hb := F.1.2.1
  have hown := F.1.2.2.2.1
  have hts := F.1.2.2.2.2
  intro H locs hP hD hS
  have kp0 : wd_kp (fun b => tg b < 10000) w w := wd_kp.rf
  refine hIX0 _ ?_
  intro a0 a1 a2 a3 a4 a5 a6 a7 a8 a10 a11 b0 b1 b2 b3 tb l0 l1 l2 l3 l4 l5 l6 l7 bl bm sh gc sg lu lv9 f0 f1 f2 f3 tbf e0 e1 e4 e5 e7 ff bf bf2 e2 e3 e6 ta sz fo to fo2 to2 tf tn ag co ra aa ru ga0 ga1 ga2 ga3 ga4 df cf nf sf uf pf pa pwo phd pgd pdy pno ptp af ad av0 av1 av2 av3 zf so sr sp0 sp1 sd hf sw hto hpp hle ham hhh hdd hru hde hcp hld hp90 hp91 hp92 hp93 hp94 hp95 hp96 hp97 hag kI0 tI0 kI1 tI1 kI2 tI2 kI3 tI3 kI4 tI4 kI5 tI5 kI6 tI6 kI7 tI7 kI8 tI8 kI9 tI9 kI10 tI10 kI11 tI11 kI12 tI12 kI13 tI13 kI14 tI14 kI15 tI15 kI16 tI16 kI17 tI17 kI18 tI18 kI19 tI19 kI20 tI20 kI21 tI21 kI22 tI22 kI23 tI23 kI24 tI24 kI25 tI25 kI26 tI26 hT9 hG9 hP9 hA9 hS9 hH9
  refine lv_iload_n hx hb dX10_credit_0 rfl (lv_at hl 1 rfl) ?_
  refine lv_iconst (v := 1) hx hb dX10_credit_1 (by decide) ?_
  refine lv_ldc (v := 100000) hx hb hown (hts _ (List.mem_cons_of_mem _ (List.mem_append_left _ (List.mem_append_left _ (List.mem_append_left _ (List.mem_of_getElem? (i := 0) rfl)))))) dX10_credit_2 ?_
  refine x_callS (n := 3) (As := [.int x1, .int 1, .int 100000]) (rest := []) F hP hD hS (g_isWithin l D cy sk sv w x1 1 100000) gX10_credit_X10_isWithin rfl (by decide +kernel) ⟨(Nat.le_of_ble_eq_true rfl), (Nat.le_of_ble_eq_true rfl)⟩ rfl hl.1 (Nat.le_of_ble_eq_true rfl) dX10_credit_4 rfl ⟨(Nat.le_of_ble_eq_true rfl), (Nat.le_of_ble_eq_true rfl)⟩ (fun v2 w3 hp1 H locs hP hD hS => ?_)
  obtain ⟨rfl, rfl⟩ := hp1
  refine W.eq (g2 := F0 m 7 ls [.int (wi x1 1 100000)]) rfl (W.widen (k := 0) (n := 0) (Nat.le_of_ble_eq_true rfl) (Nat.le_of_ble_eq_true rfl) ?_)
  refine lv_if_ne (tgt := 12) hx hb dX10_credit_7 (by decide) (fun c_4 => ?_) (fun c_4 => ?_)
  · refine lv_aload_n hx hb dX10_credit_12 rfl (lv_at hl 0 rfl) ?_
    refine lv_iconst (v := 0) hx hb dX10_credit_13 (by decide) ?_
    refine lv_iload_n hx hb dX10_credit_14 rfl (lv_at hl 1 rfl) ?_
    refine lv_iload_n hx hb dX10_credit_15 rfl (lv_at hl 2 rfl) ?_
    refine lv_iload_n hx hb dX10_credit_16 rfl (lv_at hl 3 rfl) ?_
    refine x_callV (n := 4) (As := [.int 0, .int x1, .int x2, .int x3]) (rest := []) F hP hD hS (X_addPaper l D cy sk sv w tg x td pc ac sc ln se plv 0 x1 x2 x3 hIX0) gX10_credit_X10_addPaper rfl rfl (by decide +kernel) ⟨(Nat.le_of_ble_eq_true rfl), (Nat.le_of_ble_eq_true rfl)⟩ rfl hl.1 (Nat.le_of_ble_eq_true rfl) kI0 rfl dX10_credit_17 rfl ⟨(Nat.le_of_ble_eq_true rfl), (Nat.le_of_ble_eq_true rfl)⟩ (fun v6 w7 hp5 H locs hP hD hS => ?_)
    obtain ⟨rfl, hXP8⟩ := hp5
    refine W.eq (g2 := F0 m 20 ls [.int (addA pc x2 x3)]) rfl (W.widen (k := 1) (n := 7) (Nat.le_of_ble_eq_true rfl) (Nat.le_of_ble_eq_true rfl) ?_)
    exact y_ir K hP hD hS (Nat.le_of_ble_eq_true rfl) (Nat.le_of_ble_eq_true rfl) (ty := .int) rfl rfl dX10_credit_20 (by refine ⟨(congrArg (fun z => some (Value.int z)) (show addA pc x2 x3 = credA pc x1 x2 x3 from by simp [credA, credC, credL, c_4])), ?_⟩; rw [show credC pc x1 x2 x3 = (addC pc x2 x3) from by simp [credA, credC, credL, c_4], show credL plv pc x1 x2 x3 = (addL plv pc 0 x2 x3) from by simp [credA, credC, credL, c_4]]; exact hXP8)
  · refine lv_iconst (v := (-1)) hx hb dX10_credit_10 (by decide) ?_
    exact y_ir K hP hD hS (Nat.le_of_ble_eq_true rfl) (Nat.le_of_ble_eq_true rfl) (ty := .int) rfl rfl dX10_credit_11 (by refine ⟨(congrArg (fun z => some (Value.int z)) (show (-1) = credA pc x1 x2 x3 from by simp [credA, credC, credL, c_4])), ?_⟩; rw [show credC pc x1 x2 x3 = pc from by simp [credA, credC, credL, c_4], show credL plv pc x1 x2 x3 = plv from by simp [credA, credC, credL, c_4]]; exact ⟨tg, fun _ _ => rfl, wd_kp.rf, hIX0⟩)
