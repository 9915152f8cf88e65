theorem orN {a b : Prop} (h1 : ¬ a) (h2 : ¬ b) : ¬ (a ∨ b) := fun q => Or.elim q h1 h2
theorem tnA {A k t : Nat} (h : t < A) : A + k ≠ t := by omega
theorem tnA2 {A k t : Nat} (h : t < A) : t ≠ A + k := by omega
theorem tnL {A k B n : Nat} (hk : k < n) (h : A + n ≤ B) : A + k ≠ B := by omega
theorem tnL2 {A k B n : Nat} (hk : k < n) (h : A + n ≤ B) : B ≠ A + k := by omega
theorem tnB {A k B j n : Nat} (hk : k < n) (h : A + n ≤ B) : A + k ≠ B + j := by omega
theorem tnB2 {A k B j n : Nat} (hk : k < n) (h : A + n ≤ B) : B + j ≠ A + k := by omega
theorem tnS {A k j : Nat} (h : k ≠ j) : A + k ≠ A + j := by omega
set_option maxHeartbeats 4000000 in
set_option maxRecDepth 100000 in
theorem X_advise (l : Launch) (D : va_G) (cy : Nat → ClassId) (sk sv : Nat → Nat) (w : Wd) (tg : Nat → Nat) (x : Nat) (td : Int32) (pc ac sc ln : Nat) (se plv : Nat → Int32) (x1 x2 : Int32) (hIX0 : IX cy tg x td pc ac sc ln se plv w) : Ct l D cy sk sv yX10_advise wsX10_advise ({ frames := 5, cells := 1, slots := 4, locals := 108 }) [.ref x, .int x1, .int x2] w (fun v w1 => v = some (.int (advA pc ac x1 x2)) ∧ XP cy tg x td pc (advC pc ac x1 x2) sc ln se plv w w1) := by
  refine Ct.by (cc := cX10_advise) (maxL := 3) (ret := (some .int)) (by decide +kernel) rfl (Nat.le_of_ble_eq_true rfl) ?_
  intro p e s m args below meth c A Q F hnm K ls hl
  have F : wd_Fx p s m args meth c cX10_advise 3 wsX10_advise RX10 D cy sk sv A := F
  have hl : lv_has ls 3 [(0, .ref x), (1, .int x1), (2, .int x2)] := hl
  have hx := F.1.1
  have hb := F.1.2.1
  have hown := F.1.2.2.2.1
  have hts := F.1.2.2.2.2
  intro H locs hP hD hS
  have kp0 : wd_kp (fun b => tg b < 10000) w w := wd_kp.rf
  refine hIX0 _ ?_
  intro a0 a1 a2 a3 a4 a5 a6 a7 a8 a10 a11 b0 b1 b2 b3 tb l0 l1 l2 l3 l4 l5 l6 l7 bl bm sh gc sg lu lv9 f0 f1 f2 f3 tbf e0 e1 e4 e5 e7 ff bf bf2 e2 e3 e6 ta sz fo to fo2 to2 tf tn ag co ra aa ru ga0 ga1 ga2 ga3 ga4 df cf nf sf uf pf pa pwo phd pgd pdy pno ptp af ad av0 av1 av2 av3 zf so sr sp0 sp1 sd hf sw hto hpp hle ham hhh hdd hru hde hcp hld hp90 hp91 hp92 hp93 hp94 hp95 hp96 hp97 hag kI0 tI0 kI1 tI1 kI2 tI2 kI3 tI3 kI4 tI4 kI5 tI5 kI6 tI6 kI7 tI7 kI8 tI8 kI9 tI9 kI10 tI10 kI11 tI11 kI12 tI12 kI13 tI13 kI14 tI14 kI15 tI15 kI16 tI16 kI17 tI17 kI18 tI18 kI19 tI19 kI20 tI20 kI21 tI21 kI22 tI22 kI23 tI23 kI24 tI24 kI25 tI25 kI26 tI26 hT9 hG9 hP9 hA9 hS9 hH9
  have hlu : lu < 2 := by omega
  have hlv : lv9 < 2 := by omega
  refine lv_aload_n hx hb dX10_advise_0 rfl (lv_at hl 0 rfl) ?_
  refine x_get (ref := "NoteHouse") F hP kI0 rfl (fun _ h => List.mem_cons_of_mem _ (List.mem_append_left _ (List.mem_append_left _ (List.mem_append_right _ (h))))) 14 (Nat.le_of_ble_eq_true rfl) (List.mem_cons_of_mem _ (List.mem_append_left _ (List.mem_append_left _ (List.mem_append_left _ (List.mem_append_left _ (List.mem_of_getElem? (i := 0) rfl)))))) rfl rfl dX10_advise_1 ?_
  refine lv_bipush (v := 60) hx hb dX10_advise_4 (by decide) ?_
  refine lv_icmp_ge (tgt := 24) hx hb dX10_advise_6 (by decide) (fun c_1 => ?_) (fun c_1 => ?_)
  · refine lv_iconst (v := (-1)) hx hb dX10_advise_24 (by decide) ?_
    exact y_ir K hP hD hS (Nat.le_of_ble_eq_true rfl) (Nat.le_of_ble_eq_true rfl) (ty := .int) rfl rfl dX10_advise_25 (by refine ⟨(congrArg (fun z => some (Value.int z)) (show (-1) = advA pc ac x1 x2 from by simp [advA, advC, c_1])), ?_⟩; rw [show advC pc ac x1 x2 = ac from by simp [advA, advC, c_1]]; exact ⟨tg, fun _ _ => rfl, wd_kp.rf, hIX0⟩)
  · have hb_ac : ac < 60 := nI_lt_of (n := 60) c_1 (by omega)
    refine lv_aload_n hx hb dX10_advise_9 rfl (lv_at hl 0 rfl) ?_
    refine lv_iload_n hx hb dX10_advise_10 rfl (lv_at hl 1 rfl) ?_
    refine x_callV (n := 1) (As := [.int x1]) (rest := []) F hP hD hS (g_paperAt l D cy sk sv w x a0 a1 a2 a3 a4 a5 a6 a7 a8 (aa sg) a10 a11 pc ac sc sh td x1 tg pf pa plv pwo phd pgd pdy pno ptp kI0 kI7 hP9 (by omega)) gX10_advise_X10_paperAt rfl rfl (by decide +kernel) ⟨(Nat.le_of_ble_eq_true rfl), (Nat.le_of_ble_eq_true rfl)⟩ rfl hl.1 (Nat.le_of_ble_eq_true rfl) kI0 rfl dX10_advise_11 rfl ⟨(Nat.le_of_ble_eq_true rfl), (Nat.le_of_ble_eq_true rfl)⟩ (fun v3 w4 hp2 H locs hP hD hS => ?_)
    obtain ⟨hp2, rfl⟩ := hp2
    rcases hp2 with ⟨rfl, hn6⟩ | ⟨j5, hn6, ej5, rfl⟩
    · have pb7 := pb_n (by omega) hn6
      refine W.eq (g2 := F0 m 14 ls [.null]) rfl (W.widen (k := 0) (n := 0) (Nat.le_of_ble_eq_true rfl) (Nat.le_of_ble_eq_true rfl) ?_)
      refine lv_ifnullN (tgt := 24) hx hb dX10_advise_14 (by decide) ?_
      refine lv_iconst (v := (-1)) hx hb dX10_advise_24 (by decide) ?_
      exact y_ir K hP hD hS (Nat.le_of_ble_eq_true rfl) (Nat.le_of_ble_eq_true rfl) (ty := .int) rfl rfl dX10_advise_25 (by refine ⟨(congrArg (fun z => some (Value.int z)) (show (-1) = advA pc ac x1 x2 from by simp [advA, advC, c_1, pb7])), ?_⟩; rw [show advC pc ac x1 x2 = ac from by simp [advA, advC, c_1, pb7]]; exact ⟨tg, fun _ _ => rfl, wd_kp.rf, hIX0⟩)
    · refine W.eq (g2 := F0 m 14 ls [.ref (pa j5)]) rfl (W.widen (k := 0) (n := 0) (Nat.le_of_ble_eq_true rfl) (Nat.le_of_ble_eq_true rfl) ?_)
      have pr8 := (hP9 j5 hn6).1
      have pb9 := pb_r (by omega) hn6 ej5
      have k10 := (hP9 j5 hn6).2.1
      have tz11 := (hP9 j5 hn6).2.2
      refine lv_ifnull hx hb dX10_advise_14 ?_
      refine lv_iload_n hx hb dX10_advise_17 rfl (lv_at hl 2 rfl) ?_
      refine x_callS (n := 1) (As := [.int x2]) (rest := []) F hP hD hS (g_isTown l D cy sk sv w x2) gX10_advise_X10_isTown rfl (by decide +kernel) ⟨(Nat.le_of_ble_eq_true rfl), (Nat.le_of_ble_eq_true rfl)⟩ rfl hl.1 (Nat.le_of_ble_eq_true rfl) dX10_advise_18 rfl ⟨(Nat.le_of_ble_eq_true rfl), (Nat.le_of_ble_eq_true rfl)⟩ (fun v13 w14 hp12 H locs hP hD hS => ?_)
      obtain ⟨rfl, rfl⟩ := hp12
      refine W.eq (g2 := F0 m 21 ls [.int (wi x2 0 11)]) rfl (W.widen (k := 0) (n := 0) (Nat.le_of_ble_eq_true rfl) (Nat.le_of_ble_eq_true rfl) ?_)
      refine lv_if_ne (tgt := 26) hx hb dX10_advise_21 (by decide) (fun c_15 => ?_) (fun c_15 => ?_)
      · obtain ⟨t, ht, rfl, clt⟩ := wi_t c_15
        refine lv_aload_n hx hb dX10_advise_26 rfl (lv_at hl 0 rfl) ?_
        refine x_get (ref := "NoteHouse") F hP kI0 rfl (fun _ h => List.mem_cons_of_mem _ (List.mem_append_left _ (List.mem_append_left _ (List.mem_append_right _ (h))))) 3 (Nat.le_of_ble_eq_true rfl) (List.mem_cons_of_mem _ (List.mem_append_left _ (List.mem_append_left _ (List.mem_append_left _ (List.mem_append_left _ (List.mem_of_getElem? (i := 1) rfl)))))) rfl rfl dX10_advise_27 ?_
        refine lv_aload_n hx hb dX10_advise_30 rfl (lv_at hl 0 rfl) ?_
        refine x_get (ref := "NoteHouse") F hP kI0 rfl (fun _ h => List.mem_cons_of_mem _ (List.mem_append_left _ (List.mem_append_left _ (List.mem_append_right _ (h))))) 14 (Nat.le_of_ble_eq_true rfl) (List.mem_cons_of_mem _ (List.mem_append_left _ (List.mem_append_left _ (List.mem_append_left _ (List.mem_append_left _ (List.mem_of_getElem? (i := 0) rfl)))))) rfl rfl dX10_advise_31 ?_
        refine y_new (fs := [.int 0, .int 0, .int 0, .int 0]) F hP hD hS (ci := 0) rfl (fun _ h => List.mem_cons_of_mem _ (List.mem_append_left _ (List.mem_append_right _ (h)))) tyX0_ok (List.mem_cons_of_mem _ (List.mem_append_left _ (List.mem_append_left _ (List.mem_append_left _ (List.mem_append_left _ (List.mem_of_getElem? (i := 2) rfl)))))) (List.mem_cons_of_mem _ (List.mem_append_left _ (List.mem_append_left _ (List.mem_append_left _ (List.mem_append_left _ (List.mem_of_getElem? (i := 3) rfl)))))) (List.mem_cons_of_mem _ (List.mem_append_left _ (List.mem_append_left _ (List.mem_append_left _ (List.mem_append_left _ (List.mem_of_getElem? (i := 4) rfl)))))) df_0 (Nat.le_of_ble_eq_true rfl) (Nat.le_of_ble_eq_true rfl) dX10_advise_34 (fun q16 w17 ew18 hq19 H hP hD hS => ?_)
        refine W.widen (k := 1) (n := 4) (Nat.le_of_ble_eq_true rfl) (Nat.le_of_ble_eq_true rfl) ?_
        have k20 := wd_at.ad ew18 hq19 kI0
        have k21 := wd_at.ad ew18 hq19 kI1
        have k22 := wd_at.ad ew18 hq19 kI2
        have k23 := wd_at.ad ew18 hq19 kI3
        have k24 := wd_at.ad ew18 hq19 kI4
        have k25 := wd_at.ad ew18 hq19 kI5
        have k26 := wd_at.ad ew18 hq19 kI6
        have k27 := wd_at.ad ew18 hq19 kI7
        have k28 := wd_at.ad ew18 hq19 kI8
        have k29 := wd_at.ad ew18 hq19 kI9
        have k30 := wd_at.ad ew18 hq19 kI10
        have k31 := wd_at.ad ew18 hq19 kI11
        have k32 := wd_at.ad ew18 hq19 kI12
        have k33 := wd_at.ad ew18 hq19 kI13
        have k34 := wd_at.ad ew18 hq19 kI14
        have k35 := wd_at.ad ew18 hq19 kI15
        have k36 := wd_at.ad ew18 hq19 kI16
        have k37 := wd_at.ad ew18 hq19 kI17
        have k38 := wd_at.ad ew18 hq19 kI18
        have k39 := wd_at.ad ew18 hq19 kI19
        have k40 := wd_at.ad ew18 hq19 kI20
        have k41 := wd_at.ad ew18 hq19 kI21
        have k42 := wd_at.ad ew18 hq19 kI22
        have k43 := wd_at.ad ew18 hq19 kI23
        have k44 := wd_at.ad ew18 hq19 kI24
        have k45 := wd_at.ad ew18 hq19 kI25
        have k46 := wd_at.ad ew18 hq19 kI26
        have k47 := wd_at.ad ew18 hq19 k10
        have k48 : wd_at w17 q16 (.inr (0, [.int 0, .int 0, .int 0, .int 0])) := wd_at.nw ew18
        have fm49 : ∀ i9, i9 < 12 → tf i9 = some (tn i9) ∧ wd_at w17 (tn i9) (.inr (8, [.int (co i9), .int (ra i9), .int (se i9), .ref (ag i9)])) ∧ tg (tn i9) = 100 + i9 := fun i9 hi9 => ⟨(hT9 i9 hi9).1, wd_at.ad ew18 hq19 (hT9 i9 hi9).2.1, (hT9 i9 hi9).2.2⟩
        have fn50 : ∀ i9, i9 < 12 → (tn i9) ≠ q16 := fun i9 hi9 => wd_nL hq19 (hT9 i9 hi9).2.1
        have fm51 : ∀ k9, k9 < 13 → (aOK (cf k9) (nf k9) ∧ ru k9 ≤ 12) ∧ wd_at w17 (aa k9) (.inr (1, [.ref (ga0 k9), .ref (ga1 k9), .ref (ga2 k9), .ref (ga3 k9), .ref (ga4 k9), .int (nI (ru k9))])) ∧ tg (aa k9) = 200 + k9 ∧ wd_at w17 (ga0 k9) (.inl (cy 2, 12, .inl (df k9))) ∧ tg (ga0 k9) = 220 + k9 ∧ wd_at w17 (ga1 k9) (.inl (cy 2, 12, .inl (cf k9))) ∧ tg (ga1 k9) = 240 + k9 ∧ wd_at w17 (ga2 k9) (.inl (cy 2, 72, .inl (nf k9))) ∧ tg (ga2 k9) = 260 + k9 ∧ wd_at w17 (ga3 k9) (.inl (cy 1, 72, .inl (sf k9))) ∧ tg (ga3 k9) = 280 + k9 ∧ wd_at w17 (ga4 k9) (.inl (cy 2, 72, .inl (uf k9))) ∧ tg (ga4 k9) = 300 + k9 := fun k9 hi9 => ⟨(hG9 k9 hi9).1, wd_at.ad ew18 hq19 (hG9 k9 hi9).2.1, (hG9 k9 hi9).2.2.1, wd_at.ad ew18 hq19 (hG9 k9 hi9).2.2.2.1, (hG9 k9 hi9).2.2.2.2.1, wd_at.ad ew18 hq19 (hG9 k9 hi9).2.2.2.2.2.1, (hG9 k9 hi9).2.2.2.2.2.2.1, wd_at.ad ew18 hq19 (hG9 k9 hi9).2.2.2.2.2.2.2.1, (hG9 k9 hi9).2.2.2.2.2.2.2.2.1, wd_at.ad ew18 hq19 (hG9 k9 hi9).2.2.2.2.2.2.2.2.2.1, (hG9 k9 hi9).2.2.2.2.2.2.2.2.2.2.1, wd_at.ad ew18 hq19 (hG9 k9 hi9).2.2.2.2.2.2.2.2.2.2.2.1, (hG9 k9 hi9).2.2.2.2.2.2.2.2.2.2.2.2⟩
        have fn52 : ∀ k9, k9 < 13 → (aa k9) ≠ q16 ∧ (ga0 k9) ≠ q16 ∧ (ga1 k9) ≠ q16 ∧ (ga2 k9) ≠ q16 ∧ (ga3 k9) ≠ q16 ∧ (ga4 k9) ≠ q16 := fun k9 hi9 => ⟨wd_nL hq19 (hG9 k9 hi9).2.1, wd_nL hq19 (hG9 k9 hi9).2.2.2.1, wd_nL hq19 (hG9 k9 hi9).2.2.2.2.2.1, wd_nL hq19 (hG9 k9 hi9).2.2.2.2.2.2.2.1, wd_nL hq19 (hG9 k9 hi9).2.2.2.2.2.2.2.2.2.1, wd_nL hq19 (hG9 k9 hi9).2.2.2.2.2.2.2.2.2.2.2.1⟩
        have fm53 : ∀ k9, k9 < pc → pf k9 = some (pa k9) ∧ wd_at w17 (pa k9) (.inr (3, [.int (plv k9), .int (pwo k9), .int (phd k9), .int (pgd k9), .int (pdy k9), .int (pno k9), .int (ptp k9)])) ∧ tg (pa k9) = 3000 + k9 := fun k9 hi9 => ⟨(hP9 k9 hi9).1, wd_at.ad ew18 hq19 (hP9 k9 hi9).2.1, (hP9 k9 hi9).2.2⟩
        have fn54 : ∀ k9, k9 < pc → (pa k9) ≠ q16 := fun k9 hi9 => wd_nL hq19 (hP9 k9 hi9).2.1
        have fm55 : ∀ k9, k9 < ac → af k9 = some (ad k9) ∧ wd_at w17 (ad k9) (.inr (0, [.int (av0 k9), .int (av1 k9), .int (av2 k9), .int (av3 k9)])) ∧ tg (ad k9) = 4000 + k9 := fun k9 hi9 => ⟨(hA9 k9 hi9).1, wd_at.ad ew18 hq19 (hA9 k9 hi9).2.1, (hA9 k9 hi9).2.2⟩
        have fn56 : ∀ k9, k9 < ac → (ad k9) ≠ q16 := fun k9 hi9 => wd_nL hq19 (hA9 k9 hi9).2.1
        have fm57 : ∀ k9, k9 < sc → zf k9 = some (so k9) ∧ wd_at w17 (so k9) (.inr (6, [.int (sp0 k9), .int (sp1 k9), .ref (sr k9)])) ∧ tg (so k9) = 5000 + k9 ∧ wd_at w17 (sr k9) (.inl (cy 2, 12, .inl (sd k9))) ∧ tg (sr k9) = 6000 + k9 := fun k9 hi9 => ⟨(hS9 k9 hi9).1, wd_at.ad ew18 hq19 (hS9 k9 hi9).2.1, (hS9 k9 hi9).2.2.1, wd_at.ad ew18 hq19 (hS9 k9 hi9).2.2.2.1, (hS9 k9 hi9).2.2.2.2⟩
        have fn58 : ∀ k9, k9 < sc → (so k9) ≠ q16 ∧ (sr k9) ≠ q16 := fun k9 hi9 => ⟨wd_nL hq19 (hS9 k9 hi9).2.1, wd_nL hq19 (hS9 k9 hi9).2.2.2.1⟩
        have fm59 : ∀ k9, k9 < sh → (hf k9 = some (sw k9) ∧ hto k9 < 12) ∧ wd_at w17 (sw k9) (.inr (5, [.int (nI (hto k9)), .int (hpp k9), .int (hle k9), .int (ham k9), .int (hhh k9), .int (hdd k9), .int (hru k9), .int (hde k9), .int (hcp k9), .int (hld k9)])) ∧ tg (sw k9) = 7000 + k9 := fun k9 hi9 => ⟨(hH9 k9 hi9).1, wd_at.ad ew18 hq19 (hH9 k9 hi9).2.1, (hH9 k9 hi9).2.2⟩
        have fn60 : ∀ k9, k9 < sh → (sw k9) ≠ q16 := fun k9 hi9 => wd_nL hq19 (hH9 k9 hi9).2.1
        have kp61 := kp0.add ew18 hq19
        refine lv_dup hx hb dX10_advise_37 rfl ?_
        refine lv_iload_n hx hb dX10_advise_38 rfl (lv_at hl 1 rfl) ?_
        refine lv_iload_n hx hb dX10_advise_39 rfl (lv_at hl 2 rfl) ?_
        refine lv_aload_n hx hb dX10_advise_40 rfl (lv_at hl 0 rfl) ?_
        refine lv_iconst (v := 0) hx hb dX10_advise_41 (by decide) ?_
        refine lv_iload_n hx hb dX10_advise_42 rfl (lv_at hl 2 rfl) ?_
        refine x_callV (n := 2) (As := [.int 0, .int (nI t)]) (rest := [.int (nI t), .int x1, .ref q16, .ref q16, .int (nI ac), .ref a3]) F hP hD hS (g_letterDay l D cy sk sv w17 x a0 a1 a2 a3 a4 a5 a6 a7 a8 (aa sg) a10 a11 pc ac sc sh td b0 b1 b2 b3 f0 f1 f2 f3 t 0 k20 k21 k22 k23 k24 k25 (fun b => b = b2 ∨ b = b3) (Or.inl rfl) (Or.inr rfl) (by omega) (tg_ne tI4 tI5 (by decide))) gX10_advise_X10_letterDay rfl rfl (by decide +kernel) ⟨(Nat.le_of_ble_eq_true rfl), (Nat.le_of_ble_eq_true rfl)⟩ rfl hl.1 (Nat.le_of_ble_eq_true rfl) k20 rfl dX10_advise_43 rfl ⟨(Nat.le_of_ble_eq_true rfl), (Nat.le_of_ble_eq_true rfl)⟩ (fun v63 w64 hp62 H locs hP hD hS => ?_)
        obtain ⟨dx65, px66, rx67, rfl, kq70, k68, k69⟩ := hp62
        have k71 := kq70.2 _ _ k20 (orN (tg_ne tI0 tI4 (by decide)) (tg_ne tI0 tI5 (by decide)))
        have k72 := kq70.2 _ _ k21 (orN (tg_ne tI1 tI4 (by decide)) (tg_ne tI1 tI5 (by decide)))
        have k73 := kq70.2 _ _ k22 (orN (tg_ne tI2 tI4 (by decide)) (tg_ne tI2 tI5 (by decide)))
        have k74 := kq70.2 _ _ k23 (orN (tg_ne tI3 tI4 (by decide)) (tg_ne tI3 tI5 (by decide)))
        have k75 := kq70.2 _ _ k26 (orN (tg_ne tI6 tI4 (by decide)) (tg_ne tI6 tI5 (by decide)))
        have k76 := kq70.2 _ _ k27 (orN (tg_ne tI7 tI4 (by decide)) (tg_ne tI7 tI5 (by decide)))
        have k77 := kq70.2 _ _ k28 (orN (tg_ne tI8 tI4 (by decide)) (tg_ne tI8 tI5 (by decide)))
        have k78 := kq70.2 _ _ k29 (orN (tg_ne tI9 tI4 (by decide)) (tg_ne tI9 tI5 (by decide)))
        have k79 := kq70.2 _ _ k30 (orN (tg_ne tI10 tI4 (by decide)) (tg_ne tI10 tI5 (by decide)))
        have k80 := kq70.2 _ _ k31 (orN (tg_ne tI11 tI4 (by decide)) (tg_ne tI11 tI5 (by decide)))
        have k81 := kq70.2 _ _ k32 (orN (tg_ne tI12 tI4 (by decide)) (tg_ne tI12 tI5 (by decide)))
        have k82 := kq70.2 _ _ k33 (orN (tg_ne tI13 tI4 (by decide)) (tg_ne tI13 tI5 (by decide)))
        have k83 := kq70.2 _ _ k34 (orN (tg_ne tI14 tI4 (by decide)) (tg_ne tI14 tI5 (by decide)))
        have k84 := kq70.2 _ _ k35 (orN (tg_ne tI15 tI4 (by decide)) (tg_ne tI15 tI5 (by decide)))
        have k85 := kq70.2 _ _ k36 (orN (tg_ne tI16 tI4 (by decide)) (tg_ne tI16 tI5 (by decide)))
        have k86 := kq70.2 _ _ k37 (orN (tg_ne tI17 tI4 (by decide)) (tg_ne tI17 tI5 (by decide)))
        have k87 := kq70.2 _ _ k38 (orN (tg_ne tI18 tI4 (by decide)) (tg_ne tI18 tI5 (by decide)))
        have k88 := kq70.2 _ _ k39 (orN (tg_ne tI19 tI4 (by decide)) (tg_ne tI19 tI5 (by decide)))
        have k89 := kq70.2 _ _ k40 (orN (tg_ne tI20 tI4 (by decide)) (tg_ne tI20 tI5 (by decide)))
        have k90 := kq70.2 _ _ k41 (orN (tg_ne tI21 tI4 (by decide)) (tg_ne tI21 tI5 (by decide)))
        have k91 := kq70.2 _ _ k42 (orN (tg_ne tI22 tI4 (by decide)) (tg_ne tI22 tI5 (by decide)))
        have k92 := kq70.2 _ _ k43 (orN (tg_ne tI23 tI4 (tnA (show 4 < 30 by decide))) (tg_ne tI23 tI5 (tnA (show 5 < 30 by decide))))
        have k93 := kq70.2 _ _ k44 (orN (tg_ne tI24 tI4 (tnA (show 4 < 32 by decide))) (tg_ne tI24 tI5 (tnA (show 5 < 32 by decide))))
        have k94 := kq70.2 _ _ k45 (orN (tg_ne tI25 tI4 (tnA (show 4 < 30 by decide))) (tg_ne tI25 tI5 (tnA (show 5 < 30 by decide))))
        have k95 := kq70.2 _ _ k46 (orN (tg_ne tI26 tI4 (tnA (show 4 < 32 by decide))) (tg_ne tI26 tI5 (tnA (show 5 < 32 by decide))))
        have k96 := kq70.2 _ _ k47 (orN (tg_ne tz11 tI4 (tnA (show 4 < 3000 by decide))) (tg_ne tz11 tI5 (tnA (show 5 < 3000 by decide))))
        have k97 := kq70.2 _ _ k48 (orN (Ne.symm (wd_nL hq19 kI4)) (Ne.symm (wd_nL hq19 kI5)))
        have fm98 : ∀ i9, i9 < 12 → tf i9 = some (tn i9) ∧ wd_at w64 (tn i9) (.inr (8, [.int (co i9), .int (ra i9), .int (se i9), .ref (ag i9)])) ∧ tg (tn i9) = 100 + i9 := fun i9 hi9 => ⟨(fm49 i9 hi9).1, kq70.2 _ _ (fm49 i9 hi9).2.1 (orN (tg_ne (fm49 i9 hi9).2.2 tI4 (tnA (show 4 < 100 by decide))) (tg_ne (fm49 i9 hi9).2.2 tI5 (tnA (show 5 < 100 by decide)))), (fm49 i9 hi9).2.2⟩
        have fm99 : ∀ k9, k9 < 13 → (aOK (cf k9) (nf k9) ∧ ru k9 ≤ 12) ∧ wd_at w64 (aa k9) (.inr (1, [.ref (ga0 k9), .ref (ga1 k9), .ref (ga2 k9), .ref (ga3 k9), .ref (ga4 k9), .int (nI (ru k9))])) ∧ tg (aa k9) = 200 + k9 ∧ wd_at w64 (ga0 k9) (.inl (cy 2, 12, .inl (df k9))) ∧ tg (ga0 k9) = 220 + k9 ∧ wd_at w64 (ga1 k9) (.inl (cy 2, 12, .inl (cf k9))) ∧ tg (ga1 k9) = 240 + k9 ∧ wd_at w64 (ga2 k9) (.inl (cy 2, 72, .inl (nf k9))) ∧ tg (ga2 k9) = 260 + k9 ∧ wd_at w64 (ga3 k9) (.inl (cy 1, 72, .inl (sf k9))) ∧ tg (ga3 k9) = 280 + k9 ∧ wd_at w64 (ga4 k9) (.inl (cy 2, 72, .inl (uf k9))) ∧ tg (ga4 k9) = 300 + k9 := fun k9 hi9 => ⟨(fm51 k9 hi9).1, kq70.2 _ _ (fm51 k9 hi9).2.1 (orN (tg_ne (fm51 k9 hi9).2.2.1 tI4 (tnA (show 4 < 200 by decide))) (tg_ne (fm51 k9 hi9).2.2.1 tI5 (tnA (show 5 < 200 by decide)))), (fm51 k9 hi9).2.2.1, kq70.2 _ _ (fm51 k9 hi9).2.2.2.1 (orN (tg_ne (fm51 k9 hi9).2.2.2.2.1 tI4 (tnA (show 4 < 220 by decide))) (tg_ne (fm51 k9 hi9).2.2.2.2.1 tI5 (tnA (show 5 < 220 by decide)))), (fm51 k9 hi9).2.2.2.2.1, kq70.2 _ _ (fm51 k9 hi9).2.2.2.2.2.1 (orN (tg_ne (fm51 k9 hi9).2.2.2.2.2.2.1 tI4 (tnA (show 4 < 240 by decide))) (tg_ne (fm51 k9 hi9).2.2.2.2.2.2.1 tI5 (tnA (show 5 < 240 by decide)))), (fm51 k9 hi9).2.2.2.2.2.2.1, kq70.2 _ _ (fm51 k9 hi9).2.2.2.2.2.2.2.1 (orN (tg_ne (fm51 k9 hi9).2.2.2.2.2.2.2.2.1 tI4 (tnA (show 4 < 260 by decide))) (tg_ne (fm51 k9 hi9).2.2.2.2.2.2.2.2.1 tI5 (tnA (show 5 < 260 by decide)))), (fm51 k9 hi9).2.2.2.2.2.2.2.2.1, kq70.2 _ _ (fm51 k9 hi9).2.2.2.2.2.2.2.2.2.1 (orN (tg_ne (fm51 k9 hi9).2.2.2.2.2.2.2.2.2.2.1 tI4 (tnA (show 4 < 280 by decide))) (tg_ne (fm51 k9 hi9).2.2.2.2.2.2.2.2.2.2.1 tI5 (tnA (show 5 < 280 by decide)))), (fm51 k9 hi9).2.2.2.2.2.2.2.2.2.2.1, kq70.2 _ _ (fm51 k9 hi9).2.2.2.2.2.2.2.2.2.2.2.1 (orN (tg_ne (fm51 k9 hi9).2.2.2.2.2.2.2.2.2.2.2.2 tI4 (tnA (show 4 < 300 by decide))) (tg_ne (fm51 k9 hi9).2.2.2.2.2.2.2.2.2.2.2.2 tI5 (tnA (show 5 < 300 by decide)))), (fm51 k9 hi9).2.2.2.2.2.2.2.2.2.2.2.2⟩
        have fm100 : ∀ k9, k9 < pc → pf k9 = some (pa k9) ∧ wd_at w64 (pa k9) (.inr (3, [.int (plv k9), .int (pwo k9), .int (phd k9), .int (pgd k9), .int (pdy k9), .int (pno k9), .int (ptp k9)])) ∧ tg (pa k9) = 3000 + k9 := fun k9 hi9 => ⟨(fm53 k9 hi9).1, kq70.2 _ _ (fm53 k9 hi9).2.1 (orN (tg_ne (fm53 k9 hi9).2.2 tI4 (tnA (show 4 < 3000 by decide))) (tg_ne (fm53 k9 hi9).2.2 tI5 (tnA (show 5 < 3000 by decide)))), (fm53 k9 hi9).2.2⟩
        have fm101 : ∀ k9, k9 < ac → af k9 = some (ad k9) ∧ wd_at w64 (ad k9) (.inr (0, [.int (av0 k9), .int (av1 k9), .int (av2 k9), .int (av3 k9)])) ∧ tg (ad k9) = 4000 + k9 := fun k9 hi9 => ⟨(fm55 k9 hi9).1, kq70.2 _ _ (fm55 k9 hi9).2.1 (orN (tg_ne (fm55 k9 hi9).2.2 tI4 (tnA (show 4 < 4000 by decide))) (tg_ne (fm55 k9 hi9).2.2 tI5 (tnA (show 5 < 4000 by decide)))), (fm55 k9 hi9).2.2⟩
        have fm102 : ∀ k9, k9 < sc → zf k9 = some (so k9) ∧ wd_at w64 (so k9) (.inr (6, [.int (sp0 k9), .int (sp1 k9), .ref (sr k9)])) ∧ tg (so k9) = 5000 + k9 ∧ wd_at w64 (sr k9) (.inl (cy 2, 12, .inl (sd k9))) ∧ tg (sr k9) = 6000 + k9 := fun k9 hi9 => ⟨(fm57 k9 hi9).1, kq70.2 _ _ (fm57 k9 hi9).2.1 (orN (tg_ne (fm57 k9 hi9).2.2.1 tI4 (tnA (show 4 < 5000 by decide))) (tg_ne (fm57 k9 hi9).2.2.1 tI5 (tnA (show 5 < 5000 by decide)))), (fm57 k9 hi9).2.2.1, kq70.2 _ _ (fm57 k9 hi9).2.2.2.1 (orN (tg_ne (fm57 k9 hi9).2.2.2.2 tI4 (tnA (show 4 < 6000 by decide))) (tg_ne (fm57 k9 hi9).2.2.2.2 tI5 (tnA (show 5 < 6000 by decide)))), (fm57 k9 hi9).2.2.2.2⟩
        have fm103 : ∀ k9, k9 < sh → (hf k9 = some (sw k9) ∧ hto k9 < 12) ∧ wd_at w64 (sw k9) (.inr (5, [.int (nI (hto k9)), .int (hpp k9), .int (hle k9), .int (ham k9), .int (hhh k9), .int (hdd k9), .int (hru k9), .int (hde k9), .int (hcp k9), .int (hld k9)])) ∧ tg (sw k9) = 7000 + k9 := fun k9 hi9 => ⟨(fm59 k9 hi9).1, kq70.2 _ _ (fm59 k9 hi9).2.1 (orN (tg_ne (fm59 k9 hi9).2.2 tI4 (tnA (show 4 < 7000 by decide))) (tg_ne (fm59 k9 hi9).2.2 tI5 (tnA (show 5 < 7000 by decide)))), (fm59 k9 hi9).2.2⟩
        have kp104 := kp61.tr kq70 (fun b9 hm q9 => (fun q9 => Or.elim q9 (fun q9 => q9 ▸ (tgS tI4 (by decide))) (fun q9 => q9 ▸ (tgS tI5 (by decide)))) q9)
        refine W.eq (g2 := F0 m 46 ls [.int rx67, .int (nI t), .int x1, .ref q16, .ref q16, .int (nI ac), .ref a3]) rfl (W.widen (k := 1) (n := 4) (Nat.le_of_ble_eq_true rfl) (Nat.le_of_ble_eq_true rfl) ?_)
        refine x_callI (ret := none) (n := 3) (As := [.int x1, .int (nI t), .int rx67]) (rest := [.ref q16, .int (nI ac), .ref a3]) F hP hD hS (g_advice_init l D cy sk sv w64 q16 x1 (nI t) rx67 k97 (fun b => b = q16) rfl) gX10_advise_X0_init rfl (List.mem_cons_of_mem _ (List.mem_append_left _ (List.mem_append_left _ (List.mem_append_left _ (List.mem_append_left _ (List.mem_of_getElem? (i := 4) rfl)))))) (List.mem_cons_of_mem _ (List.mem_append_left _ (List.mem_append_left _ (List.mem_append_left _ (List.mem_append_right _ (List.mem_append_right _ (List.mem_of_getElem? (i := 3) rfl))))))) (List.mem_cons_of_mem _ (List.mem_append_left _ (List.mem_append_left _ (List.mem_append_left _ (List.mem_append_right _ (List.mem_append_right _ (List.mem_of_getElem? (i := 4) rfl))))))) rfl (by decide +kernel) ⟨(Nat.le_of_ble_eq_true rfl), (Nat.le_of_ble_eq_true rfl)⟩ rfl hl.1 (Nat.le_of_ble_eq_true rfl) dX10_advise_46 rfl ⟨(Nat.le_of_ble_eq_true rfl), (Nat.le_of_ble_eq_true rfl)⟩ (fun v106 w107 hp105 H locs hP hD hS => ?_)
        obtain ⟨rfl, kq109, k108⟩ := hp105
        have k110 := kq109.2 _ _ k71 (wd_nL hq19 kI0)
        have k111 := kq109.2 _ _ k72 (wd_nL hq19 kI1)
        have k112 := kq109.2 _ _ k73 (wd_nL hq19 kI2)
        have k113 := kq109.2 _ _ k74 (wd_nL hq19 kI3)
        have k114 := kq109.2 _ _ k68 (wd_nL hq19 kI4)
        have k115 := kq109.2 _ _ k69 (wd_nL hq19 kI5)
        have k116 := kq109.2 _ _ k75 (wd_nL hq19 kI6)
        have k117 := kq109.2 _ _ k76 (wd_nL hq19 kI7)
        have k118 := kq109.2 _ _ k77 (wd_nL hq19 kI8)
        have k119 := kq109.2 _ _ k78 (wd_nL hq19 kI9)
        have k120 := kq109.2 _ _ k79 (wd_nL hq19 kI10)
        have k121 := kq109.2 _ _ k80 (wd_nL hq19 kI11)
        have k122 := kq109.2 _ _ k81 (wd_nL hq19 kI12)
        have k123 := kq109.2 _ _ k82 (wd_nL hq19 kI13)
        have k124 := kq109.2 _ _ k83 (wd_nL hq19 kI14)
        have k125 := kq109.2 _ _ k84 (wd_nL hq19 kI15)
        have k126 := kq109.2 _ _ k85 (wd_nL hq19 kI16)
        have k127 := kq109.2 _ _ k86 (wd_nL hq19 kI17)
        have k128 := kq109.2 _ _ k87 (wd_nL hq19 kI18)
        have k129 := kq109.2 _ _ k88 (wd_nL hq19 kI19)
        have k130 := kq109.2 _ _ k89 (wd_nL hq19 kI20)
        have k131 := kq109.2 _ _ k90 (wd_nL hq19 kI21)
        have k132 := kq109.2 _ _ k91 (wd_nL hq19 kI22)
        have k133 := kq109.2 _ _ k92 (wd_nL hq19 kI23)
        have k134 := kq109.2 _ _ k93 (wd_nL hq19 kI24)
        have k135 := kq109.2 _ _ k94 (wd_nL hq19 kI25)
        have k136 := kq109.2 _ _ k95 (wd_nL hq19 kI26)
        have k137 := kq109.2 _ _ k96 (wd_nL hq19 k10)
        have fm138 : ∀ i9, i9 < 12 → tf i9 = some (tn i9) ∧ wd_at w107 (tn i9) (.inr (8, [.int (co i9), .int (ra i9), .int (se i9), .ref (ag i9)])) ∧ tg (tn i9) = 100 + i9 := fun i9 hi9 => ⟨(fm98 i9 hi9).1, kq109.2 _ _ (fm98 i9 hi9).2.1 (fn50 i9 hi9), (fm98 i9 hi9).2.2⟩
        have fm139 : ∀ k9, k9 < 13 → (aOK (cf k9) (nf k9) ∧ ru k9 ≤ 12) ∧ wd_at w107 (aa k9) (.inr (1, [.ref (ga0 k9), .ref (ga1 k9), .ref (ga2 k9), .ref (ga3 k9), .ref (ga4 k9), .int (nI (ru k9))])) ∧ tg (aa k9) = 200 + k9 ∧ wd_at w107 (ga0 k9) (.inl (cy 2, 12, .inl (df k9))) ∧ tg (ga0 k9) = 220 + k9 ∧ wd_at w107 (ga1 k9) (.inl (cy 2, 12, .inl (cf k9))) ∧ tg (ga1 k9) = 240 + k9 ∧ wd_at w107 (ga2 k9) (.inl (cy 2, 72, .inl (nf k9))) ∧ tg (ga2 k9) = 260 + k9 ∧ wd_at w107 (ga3 k9) (.inl (cy 1, 72, .inl (sf k9))) ∧ tg (ga3 k9) = 280 + k9 ∧ wd_at w107 (ga4 k9) (.inl (cy 2, 72, .inl (uf k9))) ∧ tg (ga4 k9) = 300 + k9 := fun k9 hi9 => ⟨(fm99 k9 hi9).1, kq109.2 _ _ (fm99 k9 hi9).2.1 ((fn52 k9 hi9).1), (fm99 k9 hi9).2.2.1, kq109.2 _ _ (fm99 k9 hi9).2.2.2.1 ((fn52 k9 hi9).2.1), (fm99 k9 hi9).2.2.2.2.1, kq109.2 _ _ (fm99 k9 hi9).2.2.2.2.2.1 ((fn52 k9 hi9).2.2.1), (fm99 k9 hi9).2.2.2.2.2.2.1, kq109.2 _ _ (fm99 k9 hi9).2.2.2.2.2.2.2.1 ((fn52 k9 hi9).2.2.2.1), (fm99 k9 hi9).2.2.2.2.2.2.2.2.1, kq109.2 _ _ (fm99 k9 hi9).2.2.2.2.2.2.2.2.2.1 ((fn52 k9 hi9).2.2.2.2.1), (fm99 k9 hi9).2.2.2.2.2.2.2.2.2.2.1, kq109.2 _ _ (fm99 k9 hi9).2.2.2.2.2.2.2.2.2.2.2.1 ((fn52 k9 hi9).2.2.2.2.2), (fm99 k9 hi9).2.2.2.2.2.2.2.2.2.2.2.2⟩
        have fm140 : ∀ k9, k9 < pc → pf k9 = some (pa k9) ∧ wd_at w107 (pa k9) (.inr (3, [.int (plv k9), .int (pwo k9), .int (phd k9), .int (pgd k9), .int (pdy k9), .int (pno k9), .int (ptp k9)])) ∧ tg (pa k9) = 3000 + k9 := fun k9 hi9 => ⟨(fm100 k9 hi9).1, kq109.2 _ _ (fm100 k9 hi9).2.1 (fn54 k9 hi9), (fm100 k9 hi9).2.2⟩
        have fm141 : ∀ k9, k9 < ac → af k9 = some (ad k9) ∧ wd_at w107 (ad k9) (.inr (0, [.int (av0 k9), .int (av1 k9), .int (av2 k9), .int (av3 k9)])) ∧ tg (ad k9) = 4000 + k9 := fun k9 hi9 => ⟨(fm101 k9 hi9).1, kq109.2 _ _ (fm101 k9 hi9).2.1 (fn56 k9 hi9), (fm101 k9 hi9).2.2⟩
        have fm142 : ∀ k9, k9 < sc → zf k9 = some (so k9) ∧ wd_at w107 (so k9) (.inr (6, [.int (sp0 k9), .int (sp1 k9), .ref (sr k9)])) ∧ tg (so k9) = 5000 + k9 ∧ wd_at w107 (sr k9) (.inl (cy 2, 12, .inl (sd k9))) ∧ tg (sr k9) = 6000 + k9 := fun k9 hi9 => ⟨(fm102 k9 hi9).1, kq109.2 _ _ (fm102 k9 hi9).2.1 ((fn58 k9 hi9).1), (fm102 k9 hi9).2.2.1, kq109.2 _ _ (fm102 k9 hi9).2.2.2.1 ((fn58 k9 hi9).2), (fm102 k9 hi9).2.2.2.2⟩
        have fm143 : ∀ k9, k9 < sh → (hf k9 = some (sw k9) ∧ hto k9 < 12) ∧ wd_at w107 (sw k9) (.inr (5, [.int (nI (hto k9)), .int (hpp k9), .int (hle k9), .int (ham k9), .int (hhh k9), .int (hdd k9), .int (hru k9), .int (hde k9), .int (hcp k9), .int (hld k9)])) ∧ tg (sw k9) = 7000 + k9 := fun k9 hi9 => ⟨(fm103 k9 hi9).1, kq109.2 _ _ (fm103 k9 hi9).2.1 (fn60 k9 hi9), (fm103 k9 hi9).2.2⟩
        have kp144 := kp104.tr kq109 (fun b9 hm q9 => (fun q9 => absurd (q9 ▸ hm) (kp0.out hq19)) q9)
        refine W.eq (g2 := F0 m 49 ls [.ref q16, .int (nI ac), .ref a3]) rfl (W.widen (k := 1) (n := 4) (Nat.le_of_ble_eq_true rfl) (Nat.le_of_ble_eq_true rfl) ?_)
        refine y_aast F hP hD hS k118 rfl k108 rfl (vp_in_nI (n := ac) (N := 60) (by omega) (by decide)) dX10_advise_49 (fun w145 ew146 H locs hP hD hS => ?_)
        have k147 := wd_at.pt ew146 k110 (tg_ne tI0 tI8 (by decide))
        have k148 := wd_at.pt ew146 k111 (tg_ne tI1 tI8 (by decide))
        have k149 := wd_at.pt ew146 k112 (tg_ne tI2 tI8 (by decide))
        have k150 := wd_at.pt ew146 k113 (tg_ne tI3 tI8 (by decide))
        have k151 := wd_at.pt ew146 k114 (tg_ne tI4 tI8 (by decide))
        have k152 := wd_at.pt ew146 k115 (tg_ne tI5 tI8 (by decide))
        have k153 := wd_at.pt ew146 k116 (tg_ne tI6 tI8 (by decide))
        have k154 := wd_at.pt ew146 k117 (tg_ne tI7 tI8 (by decide))
        have k155 : wd_at w145 a3 (.inl (cy 5, 60, .inr (.inr (.inr (.inr (va_up af (nI ac).toNatClampNeg (some q16))))))) := wd_at.ps ew146 k118
        have k156 := wd_at.pt ew146 k119 (tg_ne tI9 tI8 (by decide))
        have k157 := wd_at.pt ew146 k120 (tg_ne tI10 tI8 (by decide))
        have k158 := wd_at.pt ew146 k121 (tg_ne tI11 tI8 (by decide))
        have k159 := wd_at.pt ew146 k122 (tg_ne tI12 tI8 (by decide))
        have k160 := wd_at.pt ew146 k123 (tg_ne tI13 tI8 (by decide))
        have k161 := wd_at.pt ew146 k124 (tg_ne tI14 tI8 (by decide))
        have k162 := wd_at.pt ew146 k125 (tg_ne tI15 tI8 (by decide))
        have k163 := wd_at.pt ew146 k126 (tg_ne tI16 tI8 (by decide))
        have k164 := wd_at.pt ew146 k127 (tg_ne tI17 tI8 (by decide))
        have k165 := wd_at.pt ew146 k128 (tg_ne tI18 tI8 (by decide))
        have k166 := wd_at.pt ew146 k129 (tg_ne tI19 tI8 (by decide))
        have k167 := wd_at.pt ew146 k130 (tg_ne tI20 tI8 (by decide))
        have k168 := wd_at.pt ew146 k131 (tg_ne tI21 tI8 (by decide))
        have k169 := wd_at.pt ew146 k132 (tg_ne tI22 tI8 (by decide))
        have k170 := wd_at.pt ew146 k133 (tg_ne tI23 tI8 (tnA (show 8 < 30 by decide)))
        have k171 := wd_at.pt ew146 k134 (tg_ne tI24 tI8 (tnA (show 8 < 32 by decide)))
        have k172 := wd_at.pt ew146 k135 (tg_ne tI25 tI8 (tnA (show 8 < 30 by decide)))
        have k173 := wd_at.pt ew146 k136 (tg_ne tI26 tI8 (tnA (show 8 < 32 by decide)))
        have k174 := wd_at.pt ew146 k137 (tg_ne tz11 tI8 (tnA (show 8 < 3000 by decide)))
        have k175 := wd_at.pt ew146 k108 (Ne.symm (wd_nL hq19 kI8))
        have fm176 : ∀ i9, i9 < 12 → tf i9 = some (tn i9) ∧ wd_at w145 (tn i9) (.inr (8, [.int (co i9), .int (ra i9), .int (se i9), .ref (ag i9)])) ∧ tg (tn i9) = 100 + i9 := fun i9 hi9 => ⟨(fm138 i9 hi9).1, wd_at.pt ew146 (fm138 i9 hi9).2.1 (tg_ne (fm138 i9 hi9).2.2 tI8 (tnA (show 8 < 100 by decide))), (fm138 i9 hi9).2.2⟩
        have fm177 : ∀ k9, k9 < 13 → (aOK (cf k9) (nf k9) ∧ ru k9 ≤ 12) ∧ wd_at w145 (aa k9) (.inr (1, [.ref (ga0 k9), .ref (ga1 k9), .ref (ga2 k9), .ref (ga3 k9), .ref (ga4 k9), .int (nI (ru k9))])) ∧ tg (aa k9) = 200 + k9 ∧ wd_at w145 (ga0 k9) (.inl (cy 2, 12, .inl (df k9))) ∧ tg (ga0 k9) = 220 + k9 ∧ wd_at w145 (ga1 k9) (.inl (cy 2, 12, .inl (cf k9))) ∧ tg (ga1 k9) = 240 + k9 ∧ wd_at w145 (ga2 k9) (.inl (cy 2, 72, .inl (nf k9))) ∧ tg (ga2 k9) = 260 + k9 ∧ wd_at w145 (ga3 k9) (.inl (cy 1, 72, .inl (sf k9))) ∧ tg (ga3 k9) = 280 + k9 ∧ wd_at w145 (ga4 k9) (.inl (cy 2, 72, .inl (uf k9))) ∧ tg (ga4 k9) = 300 + k9 := fun k9 hi9 => ⟨(fm139 k9 hi9).1, wd_at.pt ew146 (fm139 k9 hi9).2.1 (tg_ne (fm139 k9 hi9).2.2.1 tI8 (tnA (show 8 < 200 by decide))), (fm139 k9 hi9).2.2.1, wd_at.pt ew146 (fm139 k9 hi9).2.2.2.1 (tg_ne (fm139 k9 hi9).2.2.2.2.1 tI8 (tnA (show 8 < 220 by decide))), (fm139 k9 hi9).2.2.2.2.1, wd_at.pt ew146 (fm139 k9 hi9).2.2.2.2.2.1 (tg_ne (fm139 k9 hi9).2.2.2.2.2.2.1 tI8 (tnA (show 8 < 240 by decide))), (fm139 k9 hi9).2.2.2.2.2.2.1, wd_at.pt ew146 (fm139 k9 hi9).2.2.2.2.2.2.2.1 (tg_ne (fm139 k9 hi9).2.2.2.2.2.2.2.2.1 tI8 (tnA (show 8 < 260 by decide))), (fm139 k9 hi9).2.2.2.2.2.2.2.2.1, wd_at.pt ew146 (fm139 k9 hi9).2.2.2.2.2.2.2.2.2.1 (tg_ne (fm139 k9 hi9).2.2.2.2.2.2.2.2.2.2.1 tI8 (tnA (show 8 < 280 by decide))), (fm139 k9 hi9).2.2.2.2.2.2.2.2.2.2.1, wd_at.pt ew146 (fm139 k9 hi9).2.2.2.2.2.2.2.2.2.2.2.1 (tg_ne (fm139 k9 hi9).2.2.2.2.2.2.2.2.2.2.2.2 tI8 (tnA (show 8 < 300 by decide))), (fm139 k9 hi9).2.2.2.2.2.2.2.2.2.2.2.2⟩
        have fm178 : ∀ k9, k9 < pc → pf k9 = some (pa k9) ∧ wd_at w145 (pa k9) (.inr (3, [.int (plv k9), .int (pwo k9), .int (phd k9), .int (pgd k9), .int (pdy k9), .int (pno k9), .int (ptp k9)])) ∧ tg (pa k9) = 3000 + k9 := fun k9 hi9 => ⟨(fm140 k9 hi9).1, wd_at.pt ew146 (fm140 k9 hi9).2.1 (tg_ne (fm140 k9 hi9).2.2 tI8 (tnA (show 8 < 3000 by decide))), (fm140 k9 hi9).2.2⟩
        have fm179 : ∀ k9, k9 < ac → af k9 = some (ad k9) ∧ wd_at w145 (ad k9) (.inr (0, [.int (av0 k9), .int (av1 k9), .int (av2 k9), .int (av3 k9)])) ∧ tg (ad k9) = 4000 + k9 := fun k9 hi9 => ⟨(fm141 k9 hi9).1, wd_at.pt ew146 (fm141 k9 hi9).2.1 (tg_ne (fm141 k9 hi9).2.2 tI8 (tnA (show 8 < 4000 by decide))), (fm141 k9 hi9).2.2⟩
        have fm180 : ∀ k9, k9 < sc → zf k9 = some (so k9) ∧ wd_at w145 (so k9) (.inr (6, [.int (sp0 k9), .int (sp1 k9), .ref (sr k9)])) ∧ tg (so k9) = 5000 + k9 ∧ wd_at w145 (sr k9) (.inl (cy 2, 12, .inl (sd k9))) ∧ tg (sr k9) = 6000 + k9 := fun k9 hi9 => ⟨(fm142 k9 hi9).1, wd_at.pt ew146 (fm142 k9 hi9).2.1 (tg_ne (fm142 k9 hi9).2.2.1 tI8 (tnA (show 8 < 5000 by decide))), (fm142 k9 hi9).2.2.1, wd_at.pt ew146 (fm142 k9 hi9).2.2.2.1 (tg_ne (fm142 k9 hi9).2.2.2.2 tI8 (tnA (show 8 < 6000 by decide))), (fm142 k9 hi9).2.2.2.2⟩
        have fm181 : ∀ k9, k9 < sh → (hf k9 = some (sw k9) ∧ hto k9 < 12) ∧ wd_at w145 (sw k9) (.inr (5, [.int (nI (hto k9)), .int (hpp k9), .int (hle k9), .int (ham k9), .int (hhh k9), .int (hdd k9), .int (hru k9), .int (hde k9), .int (hcp k9), .int (hld k9)])) ∧ tg (sw k9) = 7000 + k9 := fun k9 hi9 => ⟨(fm143 k9 hi9).1, wd_at.pt ew146 (fm143 k9 hi9).2.1 (tg_ne (fm143 k9 hi9).2.2 tI8 (tnA (show 8 < 7000 by decide))), (fm143 k9 hi9).2.2⟩
        have kp182 := kp144.put ew146 (tgS tI8 (by decide))
        refine lv_aload_n hx hb dX10_advise_50 rfl (lv_at hl 0 rfl) ?_
        refine lv_dup hx hb dX10_advise_51 rfl ?_
        refine x_get (ref := "NoteHouse") F hP k147 rfl (fun _ h => List.mem_cons_of_mem _ (List.mem_append_left _ (List.mem_append_left _ (List.mem_append_right _ (h))))) 14 (Nat.le_of_ble_eq_true rfl) (List.mem_cons_of_mem _ (List.mem_append_left _ (List.mem_append_left _ (List.mem_append_left _ (List.mem_append_left _ (List.mem_of_getElem? (i := 0) rfl)))))) rfl rfl dX10_advise_52 ?_
        refine lv_iconst (v := 1) hx hb dX10_advise_55 (by decide) ?_
        refine lv_iadd hx hb dX10_advise_56 ?_
        rw [show ((nI ac) + 1 : Int32) = nI (ac + 1) from nI_add ac 1]
        refine y_put (ref := "NoteHouse") F hP hD hS k147 rfl (fun _ h => List.mem_cons_of_mem _ (List.mem_append_left _ (List.mem_append_left _ (List.mem_append_right _ (h))))) tyX10_ok nmX10 14 (Nat.le_of_ble_eq_true rfl) (List.mem_cons_of_mem _ (List.mem_append_left _ (List.mem_append_left _ (List.mem_append_left _ (List.mem_append_left _ (List.mem_of_getElem? (i := 0) rfl)))))) rfl rfl rfl rfl (Nat.le_of_ble_eq_true rfl) dX10_advise_57 (fun w183 ew184 H locs hP hD hS => ?_)
        have k185 : wd_at w183 x (.inr (10, [.ref a0, .ref a1, .ref a2, .ref a3, .ref a4, .ref a5, .ref a6, .ref a7, .ref a8, .ref (aa sg), .ref a10, .ref a11, .int td, .int (nI pc), .int (nI (ac + 1)), .int (nI sc), .int (nI sh)])) := wd_at.ps ew184 k147
        have k186 := wd_at.pt ew184 k148 (tg_ne tI1 tI0 (by decide))
        have k187 := wd_at.pt ew184 k149 (tg_ne tI2 tI0 (by decide))
        have k188 := wd_at.pt ew184 k150 (tg_ne tI3 tI0 (by decide))
        have k189 := wd_at.pt ew184 k151 (tg_ne tI4 tI0 (by decide))
        have k190 := wd_at.pt ew184 k152 (tg_ne tI5 tI0 (by decide))
        have k191 := wd_at.pt ew184 k153 (tg_ne tI6 tI0 (by decide))
        have k192 := wd_at.pt ew184 k154 (tg_ne tI7 tI0 (by decide))
        have k193 := wd_at.pt ew184 k155 (tg_ne tI8 tI0 (by decide))
        have k194 := wd_at.pt ew184 k156 (tg_ne tI9 tI0 (by decide))
        have k195 := wd_at.pt ew184 k157 (tg_ne tI10 tI0 (by decide))
        have k196 := wd_at.pt ew184 k158 (tg_ne tI11 tI0 (by decide))
        have k197 := wd_at.pt ew184 k159 (tg_ne tI12 tI0 (by decide))
        have k198 := wd_at.pt ew184 k160 (tg_ne tI13 tI0 (by decide))
        have k199 := wd_at.pt ew184 k161 (tg_ne tI14 tI0 (by decide))
        have k200 := wd_at.pt ew184 k162 (tg_ne tI15 tI0 (by decide))
        have k201 := wd_at.pt ew184 k163 (tg_ne tI16 tI0 (by decide))
        have k202 := wd_at.pt ew184 k164 (tg_ne tI17 tI0 (by decide))
        have k203 := wd_at.pt ew184 k165 (tg_ne tI18 tI0 (by decide))
        have k204 := wd_at.pt ew184 k166 (tg_ne tI19 tI0 (by decide))
        have k205 := wd_at.pt ew184 k167 (tg_ne tI20 tI0 (by decide))
        have k206 := wd_at.pt ew184 k168 (tg_ne tI21 tI0 (by decide))
        have k207 := wd_at.pt ew184 k169 (tg_ne tI22 tI0 (by decide))
        have k208 := wd_at.pt ew184 k170 (tg_ne tI23 tI0 (tnA (show 0 < 30 by decide)))
        have k209 := wd_at.pt ew184 k171 (tg_ne tI24 tI0 (tnA (show 0 < 32 by decide)))
        have k210 := wd_at.pt ew184 k172 (tg_ne tI25 tI0 (tnA (show 0 < 30 by decide)))
        have k211 := wd_at.pt ew184 k173 (tg_ne tI26 tI0 (tnA (show 0 < 32 by decide)))
        have k212 := wd_at.pt ew184 k174 (tg_ne tz11 tI0 (tnA (show 0 < 3000 by decide)))
        have k213 := wd_at.pt ew184 k175 (Ne.symm (wd_nL hq19 kI0))
        have fm214 : ∀ i9, i9 < 12 → tf i9 = some (tn i9) ∧ wd_at w183 (tn i9) (.inr (8, [.int (co i9), .int (ra i9), .int (se i9), .ref (ag i9)])) ∧ tg (tn i9) = 100 + i9 := fun i9 hi9 => ⟨(fm176 i9 hi9).1, wd_at.pt ew184 (fm176 i9 hi9).2.1 (tg_ne (fm176 i9 hi9).2.2 tI0 (tnA (show 0 < 100 by decide))), (fm176 i9 hi9).2.2⟩
        have fm215 : ∀ k9, k9 < 13 → (aOK (cf k9) (nf k9) ∧ ru k9 ≤ 12) ∧ wd_at w183 (aa k9) (.inr (1, [.ref (ga0 k9), .ref (ga1 k9), .ref (ga2 k9), .ref (ga3 k9), .ref (ga4 k9), .int (nI (ru k9))])) ∧ tg (aa k9) = 200 + k9 ∧ wd_at w183 (ga0 k9) (.inl (cy 2, 12, .inl (df k9))) ∧ tg (ga0 k9) = 220 + k9 ∧ wd_at w183 (ga1 k9) (.inl (cy 2, 12, .inl (cf k9))) ∧ tg (ga1 k9) = 240 + k9 ∧ wd_at w183 (ga2 k9) (.inl (cy 2, 72, .inl (nf k9))) ∧ tg (ga2 k9) = 260 + k9 ∧ wd_at w183 (ga3 k9) (.inl (cy 1, 72, .inl (sf k9))) ∧ tg (ga3 k9) = 280 + k9 ∧ wd_at w183 (ga4 k9) (.inl (cy 2, 72, .inl (uf k9))) ∧ tg (ga4 k9) = 300 + k9 := fun k9 hi9 => ⟨(fm177 k9 hi9).1, wd_at.pt ew184 (fm177 k9 hi9).2.1 (tg_ne (fm177 k9 hi9).2.2.1 tI0 (tnA (show 0 < 200 by decide))), (fm177 k9 hi9).2.2.1, wd_at.pt ew184 (fm177 k9 hi9).2.2.2.1 (tg_ne (fm177 k9 hi9).2.2.2.2.1 tI0 (tnA (show 0 < 220 by decide))), (fm177 k9 hi9).2.2.2.2.1, wd_at.pt ew184 (fm177 k9 hi9).2.2.2.2.2.1 (tg_ne (fm177 k9 hi9).2.2.2.2.2.2.1 tI0 (tnA (show 0 < 240 by decide))), (fm177 k9 hi9).2.2.2.2.2.2.1, wd_at.pt ew184 (fm177 k9 hi9).2.2.2.2.2.2.2.1 (tg_ne (fm177 k9 hi9).2.2.2.2.2.2.2.2.1 tI0 (tnA (show 0 < 260 by decide))), (fm177 k9 hi9).2.2.2.2.2.2.2.2.1, wd_at.pt ew184 (fm177 k9 hi9).2.2.2.2.2.2.2.2.2.1 (tg_ne (fm177 k9 hi9).2.2.2.2.2.2.2.2.2.2.1 tI0 (tnA (show 0 < 280 by decide))), (fm177 k9 hi9).2.2.2.2.2.2.2.2.2.2.1, wd_at.pt ew184 (fm177 k9 hi9).2.2.2.2.2.2.2.2.2.2.2.1 (tg_ne (fm177 k9 hi9).2.2.2.2.2.2.2.2.2.2.2.2 tI0 (tnA (show 0 < 300 by decide))), (fm177 k9 hi9).2.2.2.2.2.2.2.2.2.2.2.2⟩
        have fm216 : ∀ k9, k9 < pc → pf k9 = some (pa k9) ∧ wd_at w183 (pa k9) (.inr (3, [.int (plv k9), .int (pwo k9), .int (phd k9), .int (pgd k9), .int (pdy k9), .int (pno k9), .int (ptp k9)])) ∧ tg (pa k9) = 3000 + k9 := fun k9 hi9 => ⟨(fm178 k9 hi9).1, wd_at.pt ew184 (fm178 k9 hi9).2.1 (tg_ne (fm178 k9 hi9).2.2 tI0 (tnA (show 0 < 3000 by decide))), (fm178 k9 hi9).2.2⟩
        have fm217 : ∀ k9, k9 < ac → af k9 = some (ad k9) ∧ wd_at w183 (ad k9) (.inr (0, [.int (av0 k9), .int (av1 k9), .int (av2 k9), .int (av3 k9)])) ∧ tg (ad k9) = 4000 + k9 := fun k9 hi9 => ⟨(fm179 k9 hi9).1, wd_at.pt ew184 (fm179 k9 hi9).2.1 (tg_ne (fm179 k9 hi9).2.2 tI0 (tnA (show 0 < 4000 by decide))), (fm179 k9 hi9).2.2⟩
        have fm218 : ∀ k9, k9 < sc → zf k9 = some (so k9) ∧ wd_at w183 (so k9) (.inr (6, [.int (sp0 k9), .int (sp1 k9), .ref (sr k9)])) ∧ tg (so k9) = 5000 + k9 ∧ wd_at w183 (sr k9) (.inl (cy 2, 12, .inl (sd k9))) ∧ tg (sr k9) = 6000 + k9 := fun k9 hi9 => ⟨(fm180 k9 hi9).1, wd_at.pt ew184 (fm180 k9 hi9).2.1 (tg_ne (fm180 k9 hi9).2.2.1 tI0 (tnA (show 0 < 5000 by decide))), (fm180 k9 hi9).2.2.1, wd_at.pt ew184 (fm180 k9 hi9).2.2.2.1 (tg_ne (fm180 k9 hi9).2.2.2.2 tI0 (tnA (show 0 < 6000 by decide))), (fm180 k9 hi9).2.2.2.2⟩
        have fm219 : ∀ k9, k9 < sh → (hf k9 = some (sw k9) ∧ hto k9 < 12) ∧ wd_at w183 (sw k9) (.inr (5, [.int (nI (hto k9)), .int (hpp k9), .int (hle k9), .int (ham k9), .int (hhh k9), .int (hdd k9), .int (hru k9), .int (hde k9), .int (hcp k9), .int (hld k9)])) ∧ tg (sw k9) = 7000 + k9 := fun k9 hi9 => ⟨(fm181 k9 hi9).1, wd_at.pt ew184 (fm181 k9 hi9).2.1 (tg_ne (fm181 k9 hi9).2.2 tI0 (tnA (show 0 < 7000 by decide))), (fm181 k9 hi9).2.2⟩
        have kp220 := kp182.put ew184 (tgS tI0 (by decide))
        refine lv_aload_n hx hb dX10_advise_60 rfl (lv_at hl 0 rfl) ?_
        refine x_get (ref := "NoteHouse") F hP k185 rfl (fun _ h => List.mem_cons_of_mem _ (List.mem_append_left _ (List.mem_append_left _ (List.mem_append_right _ (h))))) 14 (Nat.le_of_ble_eq_true rfl) (List.mem_cons_of_mem _ (List.mem_append_left _ (List.mem_append_left _ (List.mem_append_left _ (List.mem_append_left _ (List.mem_of_getElem? (i := 0) rfl)))))) rfl rfl dX10_advise_61 ?_
        refine lv_iconst (v := 1) hx hb dX10_advise_64 (by decide) ?_
        refine lv_isub hx hb dX10_advise_65 ?_
        rw [show ((nI (ac + 1)) - 1 : Int32) = nI ((ac + 1) - 1) from pk_sub (a := (ac + 1)) (b := 1) (by omega)]
        have fm222 : ∀ i9, i9 < 12 → tf i9 = some (tn i9) ∧ wd_at w183 (tn i9) (.inr (8, [.int (co i9), .int (ra i9), .int (se i9), .ref (ag i9)])) ∧ (va_up tg q16 (4000 + ac)) (tn i9) = 100 + i9 := fun i9 hi9 => ⟨(fm214 i9 hi9).1, (fm214 i9 hi9).2.1, ((va_up_ne _ _ (fn50 i9 hi9)).trans (fm214 i9 hi9).2.2)⟩
        have fm223 : ∀ k9, k9 < 13 → (aOK (cf k9) (nf k9) ∧ ru k9 ≤ 12) ∧ wd_at w183 (aa k9) (.inr (1, [.ref (ga0 k9), .ref (ga1 k9), .ref (ga2 k9), .ref (ga3 k9), .ref (ga4 k9), .int (nI (ru k9))])) ∧ (va_up tg q16 (4000 + ac)) (aa k9) = 200 + k9 ∧ wd_at w183 (ga0 k9) (.inl (cy 2, 12, .inl (df k9))) ∧ (va_up tg q16 (4000 + ac)) (ga0 k9) = 220 + k9 ∧ wd_at w183 (ga1 k9) (.inl (cy 2, 12, .inl (cf k9))) ∧ (va_up tg q16 (4000 + ac)) (ga1 k9) = 240 + k9 ∧ wd_at w183 (ga2 k9) (.inl (cy 2, 72, .inl (nf k9))) ∧ (va_up tg q16 (4000 + ac)) (ga2 k9) = 260 + k9 ∧ wd_at w183 (ga3 k9) (.inl (cy 1, 72, .inl (sf k9))) ∧ (va_up tg q16 (4000 + ac)) (ga3 k9) = 280 + k9 ∧ wd_at w183 (ga4 k9) (.inl (cy 2, 72, .inl (uf k9))) ∧ (va_up tg q16 (4000 + ac)) (ga4 k9) = 300 + k9 := fun k9 hi9 => ⟨(fm215 k9 hi9).1, (fm215 k9 hi9).2.1, ((va_up_ne _ _ ((fn52 k9 hi9).1)).trans (fm215 k9 hi9).2.2.1), (fm215 k9 hi9).2.2.2.1, ((va_up_ne _ _ ((fn52 k9 hi9).2.1)).trans (fm215 k9 hi9).2.2.2.2.1), (fm215 k9 hi9).2.2.2.2.2.1, ((va_up_ne _ _ ((fn52 k9 hi9).2.2.1)).trans (fm215 k9 hi9).2.2.2.2.2.2.1), (fm215 k9 hi9).2.2.2.2.2.2.2.1, ((va_up_ne _ _ ((fn52 k9 hi9).2.2.2.1)).trans (fm215 k9 hi9).2.2.2.2.2.2.2.2.1), (fm215 k9 hi9).2.2.2.2.2.2.2.2.2.1, ((va_up_ne _ _ ((fn52 k9 hi9).2.2.2.2.1)).trans (fm215 k9 hi9).2.2.2.2.2.2.2.2.2.2.1), (fm215 k9 hi9).2.2.2.2.2.2.2.2.2.2.2.1, ((va_up_ne _ _ ((fn52 k9 hi9).2.2.2.2.2)).trans (fm215 k9 hi9).2.2.2.2.2.2.2.2.2.2.2.2)⟩
        have fm224 : ∀ k9, k9 < pc → pf k9 = some (pa k9) ∧ wd_at w183 (pa k9) (.inr (3, [.int (plv k9), .int (pwo k9), .int (phd k9), .int (pgd k9), .int (pdy k9), .int (pno k9), .int (ptp k9)])) ∧ (va_up tg q16 (4000 + ac)) (pa k9) = 3000 + k9 := fun k9 hi9 => ⟨(fm216 k9 hi9).1, (fm216 k9 hi9).2.1, ((va_up_ne _ _ (fn54 k9 hi9)).trans (fm216 k9 hi9).2.2)⟩
        have fm225 : ∀ k9, k9 < ac → af k9 = some (ad k9) ∧ wd_at w183 (ad k9) (.inr (0, [.int (av0 k9), .int (av1 k9), .int (av2 k9), .int (av3 k9)])) ∧ (va_up tg q16 (4000 + ac)) (ad k9) = 4000 + k9 := fun k9 hi9 => ⟨(fm217 k9 hi9).1, (fm217 k9 hi9).2.1, ((va_up_ne _ _ (fn56 k9 hi9)).trans (fm217 k9 hi9).2.2)⟩
        have fm226 : ∀ k9, k9 < sc → zf k9 = some (so k9) ∧ wd_at w183 (so k9) (.inr (6, [.int (sp0 k9), .int (sp1 k9), .ref (sr k9)])) ∧ (va_up tg q16 (4000 + ac)) (so k9) = 5000 + k9 ∧ wd_at w183 (sr k9) (.inl (cy 2, 12, .inl (sd k9))) ∧ (va_up tg q16 (4000 + ac)) (sr k9) = 6000 + k9 := fun k9 hi9 => ⟨(fm218 k9 hi9).1, (fm218 k9 hi9).2.1, ((va_up_ne _ _ ((fn58 k9 hi9).1)).trans (fm218 k9 hi9).2.2.1), (fm218 k9 hi9).2.2.2.1, ((va_up_ne _ _ ((fn58 k9 hi9).2)).trans (fm218 k9 hi9).2.2.2.2)⟩
        have fm227 : ∀ k9, k9 < sh → (hf k9 = some (sw k9) ∧ hto k9 < 12) ∧ wd_at w183 (sw k9) (.inr (5, [.int (nI (hto k9)), .int (hpp k9), .int (hle k9), .int (ham k9), .int (hhh k9), .int (hdd k9), .int (hru k9), .int (hde k9), .int (hcp k9), .int (hld k9)])) ∧ (va_up tg q16 (4000 + ac)) (sw k9) = 7000 + k9 := fun k9 hi9 => ⟨(fm219 k9 hi9).1, (fm219 k9 hi9).2.1, ((va_up_ne _ _ (fn60 k9 hi9)).trans (fm219 k9 hi9).2.2)⟩
        have k228 : wd_at w183 a3 (.inl (cy 5, 60, .inr (.inr (.inr (.inr (va_up af ac (some q16))))))) := by have h9 := k193; rw [nI_clamp (n := ac) (by omega)] at h9; exact h9
        have fm229 : ∀ k9, k9 < (ac + 1) → (va_up af ac (some q16)) k9 = some ((va_up ad ac q16) k9) ∧ wd_at w183 ((va_up ad ac q16) k9) (.inr (0, [.int ((va_up av0 ac x1) k9), .int ((va_up av1 ac (nI t)) k9), .int ((va_up av2 ac rx67) k9), .int ((va_up av3 ac 0) k9)])) ∧ (va_up tg q16 (4000 + ac)) ((va_up ad ac q16) k9) = 4000 + k9 := by
          intro k9 hi9
          by_cases e9 : k9 = ac
          · rw [e9]
            exact ⟨(by rw [va_up_self, va_up_self]), (by simp only [va_up_self]; exact k213), (by rw [va_up_self]; exact (va_up_self _ _ _))⟩
          · simp only [va_up_ne _ _ e9]
            exact fm225 k9 (by omega)
        have hX230 : IX cy (va_up tg q16 (4000 + ac)) x td pc (ac + 1) sc ln se plv w183 := IX.mk a0 a1 a2 a3 a4 a5 a6 a7 a8 a10 a11 b0 b1 b2 b3 tb l0 l1 l2 l3 l4 l5 l6 l7 bl bm sh gc sg lu lv9 f0 f1 dx65 px66 tbf e0 e1 e4 e5 e7 ff bf bf2 e2 e3 e6 ta sz fo to fo2 to2 tf tn ag co ra aa ru ga0 ga1 ga2 ga3 ga4 df cf nf sf uf pf pa pwo phd pgd pdy pno ptp (va_up af ac (some q16)) (va_up ad ac q16) (va_up av0 ac x1) (va_up av1 ac (nI t)) (va_up av2 ac rx67) (va_up av3 ac 0) zf so sr sp0 sp1 sd hf sw hto hpp hle ham hhh hdd hru hde hcp hld (by omega) (by omega) (by omega) (by omega) (by omega) (by omega) (by omega) (by omega) hag k185 ((va_up_ne _ _ (wd_nL hq19 kI0)).trans tI0) k186 ((va_up_ne _ _ (wd_nL hq19 kI1)).trans tI1) k187 ((va_up_ne _ _ (wd_nL hq19 kI2)).trans tI2) k188 ((va_up_ne _ _ (wd_nL hq19 kI3)).trans tI3) k189 ((va_up_ne _ _ (wd_nL hq19 kI4)).trans tI4) k190 ((va_up_ne _ _ (wd_nL hq19 kI5)).trans tI5) k191 ((va_up_ne _ _ (wd_nL hq19 kI6)).trans tI6) k192 ((va_up_ne _ _ (wd_nL hq19 kI7)).trans tI7) k228 ((va_up_ne _ _ (wd_nL hq19 kI8)).trans tI8) k194 ((va_up_ne _ _ (wd_nL hq19 kI9)).trans tI9) k195 ((va_up_ne _ _ (wd_nL hq19 kI10)).trans tI10) k196 ((va_up_ne _ _ (wd_nL hq19 kI11)).trans tI11) k197 ((va_up_ne _ _ (wd_nL hq19 kI12)).trans tI12) k198 ((va_up_ne _ _ (wd_nL hq19 kI13)).trans tI13) k199 ((va_up_ne _ _ (wd_nL hq19 kI14)).trans tI14) k200 ((va_up_ne _ _ (wd_nL hq19 kI15)).trans tI15) k201 ((va_up_ne _ _ (wd_nL hq19 kI16)).trans tI16) k202 ((va_up_ne _ _ (wd_nL hq19 kI17)).trans tI17) k203 ((va_up_ne _ _ (wd_nL hq19 kI18)).trans tI18) k204 ((va_up_ne _ _ (wd_nL hq19 kI19)).trans tI19) k205 ((va_up_ne _ _ (wd_nL hq19 kI20)).trans tI20) k206 ((va_up_ne _ _ (wd_nL hq19 kI21)).trans tI21) k207 ((va_up_ne _ _ (wd_nL hq19 kI22)).trans tI22) k208 ((va_up_ne _ _ (wd_nL hq19 kI23)).trans tI23) k209 ((va_up_ne _ _ (wd_nL hq19 kI24)).trans tI24) k210 ((va_up_ne _ _ (wd_nL hq19 kI25)).trans tI25) k211 ((va_up_ne _ _ (wd_nL hq19 kI26)).trans tI26) fm222 fm223 fm224 fm229 fm226 fm227
        exact y_ir K hP hD hS (Nat.le_of_ble_eq_true rfl) (Nat.le_of_ble_eq_true rfl) (ty := .int) rfl rfl dX10_advise_66 (by refine ⟨(congrArg (fun z => some (Value.int z)) (show nI ((ac + 1) - 1) = advA pc ac x1 (nI t) from by simp [advA, advC, c_1, pb9.1, pb9.2, c_15, clt])), ?_⟩; rw [show advC pc ac x1 (nI t) = (ac + 1) from by simp [advA, advC, c_1, pb9.1, pb9.2, c_15, clt]]; exact ⟨(va_up tg q16 (4000 + ac)), (fun a9 ha9 => (va_up_ne _ _ (fun q9 : a9 = q16 => (kp0.out hq19) (q9 ▸ ha9)))), kp220, hX230⟩)
      · refine lv_iconst (v := (-1)) hx hb dX10_advise_24 (by decide) ?_
        exact y_ir K hP hD hS (Nat.le_of_ble_eq_true rfl) (Nat.le_of_ble_eq_true rfl) (ty := .int) rfl rfl dX10_advise_25 (by refine ⟨(congrArg (fun z => some (Value.int z)) (show (-1) = advA pc ac x1 x2 from by simp [advA, advC, c_1, pb9.1, pb9.2, c_15])), ?_⟩; rw [show advC pc ac x1 x2 = ac from by simp [advA, advC, c_1, pb9.1, pb9.2, c_15]]; exact ⟨tg, fun _ _ => rfl, wd_kp.rf, hIX0⟩)
