theorem orN {a b : Prop} (h1 : ¬ a) (h2 : ¬ b) : ¬ (a ∨ b) := fun q => Or.elim q h1 h2
theorem tnA {A k t : Nat} (h : t < A) : A + k ≠ t := by omega
theorem tnA2 {A k t : Nat} (h : t < A) : t ≠ A + k := by omega
theorem tnL {A k B n : Nat} (hk : k < n) (h : A + n ≤ B) : A + k ≠ B := by omega
theorem tnL2 {A k B n : Nat} (hk : k < n) (h : A + n ≤ B) : B ≠ A + k := by omega
theorem tnB {A k B j n : Nat} (hk : k < n) (h : A + n ≤ B) : A + k ≠ B + j := by omega
theorem tnB2 {A k B j n : Nat} (hk : k < n) (h : A + n ≤ B) : B + j ≠ A + k := by omega
theorem tnS {A k j : Nat} (h : k ≠ j) : A + k ≠ A + j := by omega
set_option maxHeartbeats 4000000 in
set_option maxRecDepth 100000 in
theorem X_advise (l : Launch) (D : va_G) (cy : Nat → ClassId) (sk sv : Nat → Nat) (w : Wd) (tg : Nat → Nat) (x : Nat) (td : Int32) (pc ac sc ln : Nat) (se plv : Nat → Int32) (x1 x2 : Int32) (hIX0 : IX cy tg x td pc ac sc ln se plv w) : Ct l D cy sk sv yX10_advise wsX10_advise ({ frames := 5, cells := 1, slots := 4, locals := 108 }) [.ref x, .int x1, .int x2] w (fun v w1 => v = some (.int (advA pc ac x1 x2)) ∧ XP cy tg x td pc (advC pc ac x1 x2) sc ln se plv w w1) := by
  refine Ct.by (cc := cX10_advise) (maxL := 3) (ret := (some .int)) (by decide +kernel) rfl (Nat.le_of_ble_eq_true rfl) ?_
  intro p e s m args below meth c A Q F hnm K ls hl
  have F : wd_Fx p s m args meth c cX10_advise 3 wsX10_advise RX10 D cy sk sv A := F
  have hl : lv_has ls 3 [(0, .ref x), (1, .int x1), (2, .int x2)] := hl
  have hx := F.1.1
  have hb := F.1.2.1
  have hown := F.1.2.2.2.1
  have hts := F.1.2.2.2.2
  intro H locs hP hD hS
  have kp0 : wd_kp (fun b => tg b < 10000) w w := wd_kp.rf
  refine hIX0 _ ?_
  intro a0 a1 a2 a3 a4 a5 a6 a7 a8 a10 a11 b0 b1 b2 b3 tb l0 l1 l2 l3 l4 l5 l6 l7 bl bm sh gc sg lu lv9 f0 f1 f2 f3 tbf e0 e1 e4 e5 e7 ff bf bf2 e2 e3 e6 ta sz fo to fo2 to2 tf tn ag co ra aa ru ga0 ga1 ga2 ga3 ga4 df cf nf sf uf pf pa pwo phd pgd pdy pno ptp af ad av0 av1 av2 av3 zf so sr sp0 sp1 sd hf sw hto hpp hle ham hhh hdd hru hde hcp hld hp90 hp91 hp92 hp93 hp94 hp95 hp96 hp97 hag kI0 tI0 kI1 tI1 kI2 tI2 kI3 tI3 kI4 tI4 kI5 tI5 kI6 tI6 kI7 tI7 kI8 tI8 kI9 tI9 kI10 tI10 kI11 tI11 kI12 tI12 kI13 tI13 kI14 tI14 kI15 tI15 kI16 tI16 kI17 tI17 kI18 tI18 kI19 tI19 kI20 tI20 kI21 tI21 kI22 tI22 kI23 tI23 kI24 tI24 kI25 tI25 kI26 tI26 hT9 hG9 hP9 hA9 hS9 hH9
  have hlu : lu < 2 := by omega
  have hlv : lv9 < 2 := by omega
  refine lv_aload_n hx hb dX10_advise_0 rfl (lv_at hl 0 rfl) ?_
  refine x_get (ref := "NoteHouse") F hP kI0 rfl (fun _ h => List.mem_cons_of_mem _ (List.mem_append_left _ (List.mem_append_left _ (List.mem_append_right _ (h))))) 14 (Nat.le_of_ble_eq_true rfl) (List.mem_cons_of_mem _ (List.mem_append_left _ (List.mem_append_left _ (List.mem_append_left _ (List.mem_append_left _ (List.mem_of_getElem? (i := 0) rfl)))))) rfl rfl dX10_advise_1 ?_
  refine lv_bipush (v := 60) hx hb dX10_advise_4 (by decide) ?_
  refine lv_icmp_ge (tgt := 24) hx hb dX10_advise_6 (by decide) (fun c_1 => ?_) (fun c_1 => ?_)
  · refine lv_iconst (v := (-1)) hx hb dX10_advise_24 (by decide) ?_
    exact y_ir K hP hD hS (Nat.le_of_ble_eq_true rfl) (Nat.le_of_ble_eq_true rfl) (ty := .int) rfl rfl dX10_advise_25 (by refine ⟨(congrArg (fun z => some (Value.int z)) (show (-1) = advA pc ac x1 x2 from by simp [advA, advC, c_1])), ?_⟩; rw [show advC pc ac x1 x2 = ac from by simp [advA, advC, c_1]]; exact ⟨tg, fun _ _ => rfl, wd_kp.rf, hIX0⟩)
  · have hb_ac : ac < 60 := nI_lt_of (n := 60) c_1 (by omega)
    refine lv_aload_n hx hb dX10_advise_9 rfl (lv_at hl 0 rfl) ?_
    refine lv_iload_n hx hb dX10_advise_10 rfl (lv_at hl 1 rfl) ?_
    refine x_callV (n := 1) (As := [.int x1]) (rest := []) F hP hD hS (g_paperAt l D cy sk sv w x a0 a1 a2 a3 a4 a5 a6 a7 a8 (aa sg) a10 a11 pc ac sc sh td x1 tg pf pa plv pwo phd pgd pdy pno ptp kI0 kI7 hP9 (by omega)) gX10_advise_X10_paperAt rfl rfl (by decide +kernel) ⟨(Nat.le_of_ble_eq_true rfl), (Nat.le_of_ble_eq_true rfl)⟩ rfl hl.1 (Nat.le_of_ble_eq_true rfl) kI0 rfl dX10_advise_11 rfl ⟨(Nat.le_of_ble_eq_true rfl), (Nat.le_of_ble_eq_true rfl)⟩ (fun v3 w4 hp2 H locs hP hD hS => ?_)
    obtain ⟨hp2, rfl⟩ := hp2
    rcases hp2 with ⟨rfl, hn6⟩ | ⟨j5, hn6, ej5, rfl⟩
    · have pb7 := pb_n (by omega) hn6
      refine W.eq (g2 := F0 m 14 ls [.null]) rfl (W.widen (k := 0) (n := 0) (Nat.le_of_ble_eq_true rfl) (Nat.le_of_ble_eq_true rfl) ?_)
      refine lv_ifnullN (tgt := 24) hx hb dX10_advise_14 (by decide) ?_
      refine lv_iconst (v := (-1)) hx hb dX10_advise_24 (by decide) ?_
      exact y_ir K hP hD hS (Nat.le_of_ble_eq_true rfl) (Nat.le_of_ble_eq_true rfl) (ty := .int) rfl rfl dX10_advise_25 (by refine ⟨(congrArg (fun z => some (Value.int z)) (show (-1) = advA pc ac x1 x2 from by simp [advA, advC, c_1, pb7])), ?_⟩; rw [show advC pc ac x1 x2 = ac from by simp [advA, advC, c_1, pb7]]; exact ⟨tg, fun _ _ => rfl, wd_kp.rf, hIX0⟩)
    · refine W.eq (g2 := F0 m 14 ls [.ref (pa j5)]) rfl (W.widen (k := 0) (n := 0) (Nat.le_of_ble_eq_true rfl) (Nat.le_of_ble_eq_true rfl) ?_)
      have pr8 := (hP9 j5 hn6).1
      have pb9 := pb_r (by omega) hn6 ej5
      have k10 := (hP9 j5 hn6).2.1
      have tz11 := (hP9 j5 hn6).2.2
      refine lv_ifnull hx hb dX10_advise_14 ?_
      refine lv_iload_n hx hb dX10_advise_17 rfl (lv_at hl 2 rfl) ?_
      refine x_callS (n := 1) (As := [.int x2]) (rest := []) F hP hD hS (g_isTown l D cy sk sv w x2) gX10_advise_X10_isTown rfl (by decide +kernel) ⟨(Nat.le_of_ble_eq_true rfl), (Nat.le_of_ble_eq_true rfl)⟩ rfl hl.1 (Nat.le_of_ble_eq_true rfl) dX10_advise_18 rfl ⟨(Nat.le_of_ble_eq_true rfl), (Nat.le_of_ble_eq_true rfl)⟩ (fun v13 w14 hp12 H locs hP hD hS => ?_)
      obtain ⟨rfl, rfl⟩ := hp12
      refine W.eq (g2 := F0 m 21 ls [.int (wi x2 0 11)]) rfl (W.widen (k := 0) (n := 0) (Nat.le_of_ble_eq_true rfl) (Nat.le_of_ble_eq_true rfl) ?_)
      refine lv_if_ne (tgt := 26) hx hb dX10_advise_21 (by decide) (fun c_15 => ?_) (fun c_15 => ?_)
      · obtain ⟨t, ht, rfl, clt⟩ := wi_t c_15
        refine lv_aload_n hx hb dX10_advise_26 rfl (lv_at hl 0 rfl) ?_
        refine x_get (ref := "NoteHouse") F hP kI0 rfl (fun _ h => List.mem_cons_of_mem _ (List.mem_append_left _ (List.mem_append_left _ (List.mem_append_right _ (h))))) 3 (Nat.le_of_ble_eq_true rfl) (List.mem_cons_of_mem _ (List.mem_append_left _ (List.mem_append_left _ (List.mem_append_left _ (List.mem_append_left _ (List.mem_of_getElem? (i := 1) rfl)))))) rfl rfl dX10_advise_27 ?_
        refine lv_aload_n hx hb dX10_advise_30 rfl (lv_at hl 0 rfl) ?_
        refine x_get (ref := "NoteHouse") F hP kI0 rfl (fun _ h => List.mem_cons_of_mem _ (List.mem_append_left _ (List.mem_append_left _ (List.mem_append_right _ (h))))) 14 (Nat.le_of_ble_eq_true rfl) (List.mem_cons_of_mem _ (List.mem_append_left _ (List.mem_append_left _ (List.mem_append_left _ (List.mem_append_left _ (List.mem_of_getElem? (i := 0) rfl)))))) rfl rfl dX10_advise_31 ?_
        refine y_new (fs := [.int 0, .int 0, .int 0, .int 0]) F hP hD hS (ci := 0) rfl (fun _ h => List.mem_cons_of_mem _ (List.mem_append_left _ (List.mem_append_right _ (h)))) tyX0_ok (List.mem_cons_of_mem _ (List.mem_append_left _ (List.mem_append_left _ (List.mem_append_left _ (List.mem_append_left _ (List.mem_of_getElem? (i := 2) rfl)))))) (List.mem_cons_of_mem _ (List.mem_append_left _ (List.mem_append_left _ (List.mem_append_left _ (List.mem_append_left _ (List.mem_of_getElem? (i := 3) rfl)))))) (List.mem_cons_of_mem _ (List.mem_append_left _ (List.mem_append_left _ (List.mem_append_left _ (List.mem_append_left _ (List.mem_of_getElem? (i := 4) rfl)))))) df_0 (Nat.le_of_ble_eq_true rfl) (Nat.le_of_ble_eq_true rfl) dX10_advise_34 (fun q16 w17 ew18 hq19 H hP hD hS => ?_)
        refine W.widen (k := 1) (n := 4) (Nat.le_of_ble_eq_true rfl) (Nat.le_of_ble_eq_true rfl) ?_
        have k20 := wd_at.ad ew18 hq19 kI0
        have k21 := wd_at.ad ew18 hq19 kI1
        have k22 := wd_at.ad ew18 hq19 kI2
        have k23 := wd_at.ad ew18 hq19 kI3
        have k24 := wd_at.ad ew18 hq19 kI4
        have k25 := wd_at.ad ew18 hq19 kI5
        have k26 := wd_at.ad ew18 hq19 kI6
        have k27 := wd_at.ad ew18 hq19 kI7
        have k28 := wd_at.ad ew18 hq19 kI8
        have k29 := wd_at.ad ew18 hq19 kI9
        have k30 := wd_at.ad ew18 hq19 kI10
        have k31 := wd_at.ad ew18 hq19 kI11
        have k32 := wd_at.ad ew18 hq19 kI12
        have k33 := wd_at.ad ew18 hq19 kI13
        have k34 := wd_at.ad ew18 hq19 kI14
        have k35 := wd_at.ad ew18 hq19 kI15
        have k36 := wd_at.ad ew18 hq19 kI16
        have k37 := wd_at.ad ew18 hq19 kI17
        have k38 := wd_at.ad ew18 hq19 kI18
        have k39 := wd_at.ad ew18 hq19 kI19
        have k40 := wd_at.ad ew18 hq19 kI20
        have k41 := wd_at.ad ew18 hq19 kI21
        have k42 := wd_at.ad ew18 hq19 kI22
        have k43 := wd_at.ad ew18 hq19 kI23
        have k44 := wd_at.ad ew18 hq19 kI24
        have k45 := wd_at.ad ew18 hq19 kI25
        have k46 := wd_at.ad ew18 hq19 kI26
        have k47 := wd_at.ad ew18 hq19 k10
        have k48 : wd_at w17 q16 (.inr (0, [.int 0, .int 0, .int 0, .int 0])) := wd_at.nw ew18
        have fm49 : ∀ i9, i9 < 12 → tf i9 = some (tn i9) ∧ wd_at w17 (tn i9) (.inr (8, [.int (co i9), .int (ra i9), .int (se i9), .ref (ag i9)])) ∧ tg (tn i9) = 100 + i9 := fun i9 hi9 => ⟨(hT9 i9 hi9).1, wd_at.ad ew18 hq19 (hT9 i9 hi9).2.1, (hT9 i9 hi9).2.2⟩
        have fn50 : ∀ i9, i9 < 12 → (tn i9) ≠ q16 := fun i9 hi9 => wd_nL hq19 (hT9 i9 hi9).2.1
        have fm51 : ∀ k9, k9 < 13 → (aOK (cf k9) (nf k9) ∧ ru k9 ≤ 12) ∧ wd_at w17 (aa k9) (.inr (1, [.ref (ga0 k9), .ref (ga1 k9), .ref (ga2 k9), .ref (ga3 k9), .ref (ga4 k9), .int (nI (ru k9))])) ∧ tg (aa k9) = 200 + k9 ∧ wd_at w17 (ga0 k9) (.inl (cy 2, 12, .inl (df k9))) ∧ tg (ga0 k9) = 220 + k9 ∧ wd_at w17 (ga1 k9) (.inl (cy 2, 12, .inl (cf k9))) ∧ tg (ga1 k9) = 240 + k9 ∧ wd_at w17 (ga2 k9) (.inl (cy 2, 72, .inl (nf k9))) ∧ tg (ga2 k9) = 260 + k9 ∧ wd_at w17 (ga3 k9) (.inl (cy 1, 72, .inl (sf k9))) ∧ tg (ga3 k9) = 280 + k9 ∧ wd_at w17 (ga4 k9) (.inl (cy 2, 72, .inl (uf k9))) ∧ tg (ga4 k9) = 300 + k9 := fun k9 hi9 => ⟨(hG9 k9 hi9).1, wd_at.ad ew18 hq19 (hG9 k9 hi9).2.1, (hG9 k9 hi9).2.2.1, wd_at.ad ew18 hq19 (hG9 k9 hi9).2.2.2.1, (hG9 k9 hi9).2.2.2.2.1, wd_at.ad ew18 hq19 (hG9 k9 hi9).2.2.2.2.2.1, (hG9 k9 hi9).2.2.2.2.2.2.1, wd_at.ad ew18 hq19 (hG9 k9 hi9).2.2.2.2.2.2.2.1, (hG9 k9 hi9).2.2.2.2.2.2.2.2.1, wd_at.ad ew18 hq19 (hG9 k9 hi9).2.2.2.2.2.2.2.2.2.1, (hG9 k9 hi9).2.2.2.2.2.2.2.2.2.2.1, wd_at.ad ew18 hq19 (hG9 k9 hi9).2.2.2.2.2.2.2.2.2.2.2.1, (hG9 k9 hi9).2.2.2.2.2.2.2.2.2.2.2.2⟩
        have fn52 : ∀ k9, k9 < 13 → (aa k9) ≠ q16 ∧ (ga0 k9) ≠ q16 ∧ (ga1 k9) ≠ q16 ∧ (ga2 k9) ≠ q16 ∧ (ga3 k9) ≠ q16 ∧ (ga4 k9) ≠ q16 := fun k9 hi9 => ⟨wd_nL hq19 (hG9 k9 hi9).2.1, wd_nL hq19 (hG9 k9 hi9).2.2.2.1, wd_nL hq19 (hG9 k9 hi9).2.2.2.2.2.1, wd_nL hq19 (hG9 k9 hi9).2.2.2.2.2.2.2.1, wd_nL hq19 (hG9 k9 hi9).2.2.2.2.2.2.2.2.2.1, wd_nL hq19 (hG9 k9 hi9).2.2.2.2.2.2.2.2.2.2.2.1⟩
        have fm53 : ∀ k9, k9 < pc → pf k9 = some (pa k9) ∧ wd_at w17 (pa k9) (.inr (3, [.int (plv k9), .int (pwo k9), .int (phd k9), .int (pgd k9), .int (pdy k9), .int (pno k9), .int (ptp k9)])) ∧ tg (pa k9) = 3000 + k9 := fun k9 hi9 => ⟨(hP9 k9 hi9).1, wd_at.ad ew18 hq19 (hP9 k9 hi9).2.1, (hP9 k9 hi9).2.2⟩
        have fn54 : ∀ k9, k9 < pc → (pa k9) ≠ q16 := fun k9 hi9 => wd_nL hq19 (hP9 k9 hi9).2.1
        have fm55 : ∀ k9, k9 < ac → af k9 = some (ad k9) ∧ wd_at w17 (ad k9) (.inr (0, [.int (av0 k9), .int (av1 k9), .int (av2 k9), .int (av3 k9)])) ∧ tg (ad k9) = 4000 + k9 := fun k9 hi9 => ⟨(hA9 k9 hi9).1, wd_at.ad ew18 hq19 (hA9 k9 hi9).2.1, (hA9 k9 hi9).2.2⟩
        have fn56 : ∀ k9, k9 < ac → (ad k9) ≠ q16 := fun k9 hi9 => wd_nL hq19 (hA9 k9 hi9).2.1
        have fm57 : ∀ k9, k9 < sc → zf k9 = some (so k9) ∧ wd_at w17 (so k9) (.inr (6, [.int (sp0 k9), .int (sp1 k9), .ref (sr k9)])) ∧ tg (so k9) = 5000 + k9 ∧ wd_at w17 (sr k9) (.inl (cy 2, 12, .inl (sd k9))) ∧ tg (sr k9) = 6000 + k9 := fun k9 hi9 => ⟨(hS9 k9 hi9).1, wd_at.ad ew18 hq19 (hS9 k9 hi9).2.1, (hS9 k9 hi9).2.2.1, wd_at.ad ew18 hq19 (hS9 k9 hi9).2.2.2.1, (hS9 k9 hi9).2.2.2.2⟩
        have fn58 : ∀ k9, k9 < sc → (so k9) ≠ q16 ∧ (sr k9) ≠ q16 := fun k9 hi9 => ⟨wd_nL hq19 (hS9 k9 hi9).2.1, wd_nL hq19 (hS9 k9 hi9).2.2.2.1⟩
        have fm59 : ∀ k9, k9 < sh → (hf k9 = some (sw k9) ∧ hto k9 < 12) ∧ wd_at w17 (sw k9) (.inr (5, [.int (nI (hto k9)), .int (hpp k9), .int (hle k9), .int (ham k9), .int (hhh k9), .int (hdd k9), .int (hru k9), .int (hde k9), .int (hcp k9), .int (hld k9)])) ∧ tg (sw k9) = 7000 + k9 := fun k9 hi9 => ⟨(hH9 k9 hi9).1, wd_at.ad ew18 hq19 (hH9 k9 hi9).2.1, (hH9 k9 hi9).2.2⟩
        have fn60 : ∀ k9, k9 < sh → (sw k9) ≠ q16 := fun k9 hi9 => wd_nL hq19 (hH9 k9 hi9).2.1
        have kp61 := kp0.add ew18 hq19
        refine lv_dup hx hb dX10_advise_37 rfl ?_
        refine lv_iload_n hx hb dX10_advise_38 rfl (lv_at hl 1 rfl) ?_
        refine lv_iload_n hx hb dX10_advise_39 rfl (lv_at hl 2 rfl) ?_
        refine lv_aload_n hx hb dX10_advise_40 rfl (lv_at hl 0 rfl) ?_
        refine lv_iconst (v := 0) hx hb dX10_advise_41 (by decide) ?_
        refine lv_iload_n hx hb dX10_advise_42 rfl (lv_at hl 2 rfl) ?_
        refine x_callV (n := 2) (As := [.int 0, .int (nI t)]) (rest := [.int (nI t), .int x1, .ref q16, .ref q16, .int (nI ac), .ref a3]) F hP hD hS (g_letterDay l D cy sk sv w17 x a0 a1 a2 a3 a4 a5 a6 a7 a8 (aa sg) a10 a11 pc ac sc sh td b0 b1 b2 b3 f0 f1 f2 f3 t 0 k20 k21 k22 k23 k24 k25 (fun b => b = b2 ∨ b = b3) (Or.inl rfl) (Or.inr rfl) (by omega) (tg_ne tI4 tI5 (by decide))) gX10_advise_X10_letterDay rfl rfl (by decide +kernel) ⟨(Nat.le_of_ble_eq_true rfl), (Nat.le_of_ble_eq_true rfl)⟩ rfl hl.1 (Nat.le_of_ble_eq_true rfl) k20 rfl dX10_advise_43 rfl ⟨(Nat.le_of_ble_eq_true rfl), (Nat.le_of_ble_eq_true rfl)⟩ (fun v63 w64 hp62 H locs hP hD hS => ?_)
        obtain ⟨dx65, px66, rx67, rfl, kq70, k68, k69⟩ := hp62
        have k71 := kq70.2 _ _ k20 (orN (tg_ne tI0 tI4 (by decide)) (tg_ne tI0 tI5 (by decide)))
        have k72 := kq70.2 _ _ k21 (orN (tg_ne tI1 tI4 (by decide)) (tg_ne tI1 tI5 (by decide)))
        have k73 := kq70.2 _ _ k22 (orN (tg_ne tI2 tI4 (by decide)) (tg_ne tI2 tI5 (by decide)))
        have k74 := kq70.2 _ _ k23 (orN (tg_ne tI3 tI4 (by decide)) (tg_ne tI3 tI5 (by decide)))
        have k75 := kq70.2 _ _ k26 (orN (tg_ne tI6 tI4 (by decide)) (tg_ne tI6 tI5 (by decide)))
        have k76 := kq70.2 _ _ k27 (orN (tg_ne tI7 tI4 (by decide)) (tg_ne tI7 tI5 (by decide)))
        have k77 := kq70.2 _ _ k28 (orN (tg_ne tI8 tI4 (by decide)) (tg_ne tI8 tI5 (by decide)))
        have k78 := kq70.2 _ _ k29 (orN (tg_ne tI9 tI4 (by decide)) (tg_ne tI9 tI5 (by decide)))
        have k79 := kq70.2 _ _ k30 (orN (tg_ne tI10 tI4 (by decide)) (tg_ne tI10 tI5 (by decide)))
        have k80 := kq70.2 _ _ k31 (orN (tg_ne tI11 tI4 (by decide)) (tg_ne tI11 tI5 (by decide)))
        have k81 := kq70.2 _ _ k32 (orN (tg_ne tI12 tI4 (by decide)) (tg_ne tI12 tI5 (by decide)))
        have k82 := kq70.2 _ _ k33 (orN (tg_ne tI13 tI4 (by decide)) (tg_ne tI13 tI5 (by decide)))
        have k83 := kq70.2 _ _ k34 (orN (tg_ne tI14 tI4 (by decide)) (tg_ne tI14 tI5 (by decide)))
        have k84 := kq70.2 _ _ k35 (orN (tg_ne tI15 tI4 (by decide)) (tg_ne tI15 tI5 (by decide)))
        have k85 := kq70.2 _ _ k36 (orN (tg_ne tI16 tI4 (by decide)) (tg_ne tI16 tI5 (by decide)))
        have k86 := kq70.2 _ _ k37 (orN (tg_ne tI17 tI4 (by decide)) (tg_ne tI17 tI5 (by decide)))
        have k87 := kq70.2 _ _ k38 (orN (tg_ne tI18 tI4 (by decide)) (tg_ne tI18 tI5 (by decide)))
        have k88 := kq70.2 _ _ k39 (orN (tg_ne tI19 tI4 (by decide)) (tg_ne tI19 tI5 (by decide)))
        have k89 := kq70.2 _ _ k40 (orN (tg_ne tI20 tI4 (by decide)) (tg_ne tI20 tI5 (by decide)))
        have k90 := kq70.2 _ _ k41 (orN (tg_ne tI21 tI4 (by decide)) (tg_ne tI21 tI5 (by decide)))
        have k91 := kq70.2 _ _ k42 (orN (tg_ne tI22 tI4 (by decide)) (tg_ne tI22 tI5 (by decide)))
        have k92 := kq70.2 _ _ k43 (orN (tg_ne tI23 tI4 (tnA (show 4 < 30 by decide))) (tg_ne tI23 tI5 (tnA (show 5 < 30 by decide))))
        have k93 := kq70.2 _ _ k44 (orN (tg_ne tI24 tI4 (tnA (show 4 < 32 by decide))) (tg_ne tI24 tI5 (tnA (show 5 < 32 by decide))))
        have k94 := kq70.2 _ _ k45 (orN (tg_ne tI25 tI4 (tnA (show 4 < 30 by decide))) (tg_ne tI25 tI5 (tnA (show 5 < 30 by decide))))
        have k95 := kq70.2 _ _ k46 (orN (tg_ne tI26 tI4 (tnA (show 4 < 32 by decide))) (tg_ne tI26 tI5 (tnA (show 5 < 32 by decide))))
        have k96 := kq70.2 _ _ k47 (orN (tg_ne tz11 tI4 (tnA (show 4 < 3000 by decide))) (tg_ne tz11 tI5 (tnA (show 5 < 3000 by decide))))
        have k97 := kq70.2 _ _ k48 (orN (Ne.symm (wd_nL hq19 kI4)) (Ne.symm (wd_nL hq19 kI5)))
        have fm98 : ∀ i9, i9 < 12 → tf i9 = some (tn i9) ∧ wd_at w64 (tn i9) (.inr (8, [.int (co i9), .int (ra i9), .int (se i9), .ref (ag i9)])) ∧ tg (tn i9) = 100 + i9 := fun i9 hi9 => ⟨(fm49 i9 hi9).1, kq70.2 _ _ (fm49 i9 hi9).2.1 (orN (tg_ne (fm49 i9 hi9).2.2 tI4 (tnA (show 4 < 100 by decide))) (tg_ne (fm49 i9 hi9).2.2 tI5 (tnA (show 5 < 100 by decide)))), (fm49 i9 hi9).2.2⟩
        have fm99 : ∀ k9, k9 < 13 → (aOK (cf k9) (nf k9) ∧ ru k9 ≤ 12) ∧ wd_at w64 (aa k9) (.inr (1, [.ref (ga0 k9), .ref (ga1 k9), .ref (ga2 k9), .ref (ga3 k9), .ref (ga4 k9), .int (nI (ru k9))])) ∧ tg (aa k9) = 200 + k9 ∧ wd_at w64 (ga0 k9) (.inl (cy 2, 12, .inl (df k9))) ∧ tg (ga0 k9) = 220 + k9 ∧ wd_at w64 (ga1 k9) (.inl (cy 2, 12, .inl (cf k9))) ∧ tg (ga1 k9) = 240 + k9 ∧ wd_at w64 (ga2 k9) (.inl (cy 2, 72, .inl (nf k9))) ∧ tg (ga2 k9) = 260 + k9 ∧ wd_at w64 (ga3 k9) (.inl (cy 1, 72, .inl (sf k9))) ∧ tg (ga3 k9) = 280 + k9 ∧ wd_at w64 (ga4 k9) (.inl (cy 2, 72, .inl (uf k9))) ∧ tg (ga4 k9) = 300 + k9 := fun k9 hi9 => ⟨(fm51 k9 hi9).1, kq70.2 _ _ (fm51 k9 hi9).2.1 (orN (tg_ne (fm51 k9 hi9).2.2.1 tI4 (tnA (show 4 < 200 by decide))) (tg_ne (fm51 k9 hi9).2.2.1 tI5 (tnA (show 5 < 200 by decide)))), (fm51 k9 hi9).2.2.1, kq70.2 _ _ (fm51 k9 hi9).2.2.2.1 (orN (tg_ne (fm51 k9 hi9).2.2.2.2.1 tI4 (tnA (show 4 < 220 by decide))) (tg_ne (fm51 k9 hi9).2.2.2.2.1 tI5 (tnA (show 5 < 220 by decide)))), (fm51 k9 hi9).2.2.2.2.1, kq70.2 _ _ (fm51 k9 hi9).2.2.2.2.2.1 (orN (tg_ne (fm51 k9 hi9).2.2.2.2.2.2.1 tI4 (tnA (show 4 < 240 by decide))) (tg_ne (fm51 k9 hi9).2.2.2.2.2.2.1 tI5 (tnA (show 5 < 240 by decide)))), (fm51 k9 hi9).2.2.2.2.2.2.1, kq70.2 _ _ (fm51 k9 hi9).2.2.2.2.2.2.2.1 (orN (tg_ne (fm51 k9 hi9).2.2.2.2.2.2.2.2.1 tI4 (tnA (show 4 < 260 by decide))) (tg_ne (fm51 k9 hi9).2.2.2.2.2.2.2.2.1 tI5 (tnA (show 5 < 260 by decide)))), (fm51 k9 hi9).2.2.2.2.2.2.2.2.1, kq70.2 _ _ (fm51 k9 hi9).2.2.2.2.2.2.2.2.2.1 (orN (tg_ne (fm51 k9 hi9).2.2.2.2.2.2.2.2.2.2.1 tI4 (tnA (show 4 < 280 by decide))) (tg_ne (fm51 k9 hi9).2.2.2.2.2.2.2.2.2.2.1 tI5 (tnA (show 5 < 280 by decide)))), (fm51 k9 hi9).2.2.2.2.2.2.2.2.2.2.1, kq70.2 _ _ (fm51 k9 hi9).2.2.2.2.2.2.2.2.2.2.2.1 (orN (tg_ne (fm51 k9 hi9).2.2.2.2.2.2.2.2.2.2.2.2 tI4 (tnA (show 4 < 300 by decide))) (tg_ne (fm51 k9 hi9).2.2.2.2.2.2.2.2.2.2.2.2 tI5 (tnA (show 5 < 300 by decide)))), (fm51 k9 hi9).2.2.2.2.2.2.2.2.2.2.2.2⟩
        have fm100 : ∀ k9, k9 < pc → pf k9 = some (pa k9) ∧ wd_at w64 (pa k9) (.inr (3, [.int (plv k9), .int (pwo k9), .int (phd k9), .int (pgd k9), .int (pdy k9), .int (pno k9), .int (ptp k9)])) ∧ tg (pa k9) = 3000 + k9 := fun k9 hi9 => ⟨(fm53 k9 hi9).1, kq70.2 _ _ (fm53 k9 hi9).2.1 (orN (tg_ne (fm53 k9 hi9).2.2 tI4 (tnA (show 4 < 3000 by decide))) (tg_ne (fm53 k9 hi9).2.2 tI5 (tnA (show 5 < 3000 by decide)))), (fm53 k9 hi9).2.2⟩
        have fm101 : ∀ k9, k9 < ac → af k9 = some (ad k9) ∧ wd_at w64 (ad k9) (.inr (0, [.int (av0 k9), .int (av1 k9), .int (av2 k9), .int (av3 k9)])) ∧ tg (ad k9) = 4000 + k9 := fun k9 hi9 => ⟨(fm55 k9 hi9).1, kq70.2 _ _ (fm55 k9 hi9).2.1 (orN (tg_ne (fm55 k9 hi9).2.2 tI4 (tnA (show 4 < 4000 by decide))) (tg_ne (fm55 k9 hi9).2.2 tI5 (tnA (show 5 < 4000 by decide)))), (fm55 k9 hi9).2.2⟩
        have fm102 : ∀ k9, k9 < sc → zf k9 = some (so k9) ∧ wd_at w64 (so k9) (.inr (6, [.int (sp0 k9), .int (sp1 k9), .ref (sr k9)])) ∧ tg (so k9) = 5000 + k9 ∧ wd_at w64 (sr k9) (.inl (cy 2, 12, .inl (sd k9))) ∧ tg (sr k9) = 6000 + k9 := fun k9 hi9 => ⟨(fm57 k9 hi9).1, kq70.2 _ _ (fm57 k9 hi9).2.1 (orN (tg_ne (fm57 k9 hi9).2.2.1 tI4 (tnA (show 4 < 5000 by decide))) (tg_ne (fm57 k9 hi9).2.2.1 tI5 (tnA (show 5 < 5000 by decide)))), (fm57 k9 hi9).2.2.1, kq70.2 _ _ (fm57 k9 hi9).2.2.2.1 (orN (tg_ne (fm57 k9 hi9).2.2.2.2 tI4 (tnA (show 4 < 6000 by decide))) (tg_ne (fm57 k9 hi9).2.2.2.2 tI5 (tnA (show 5 < 6000 by decide)))), (fm57 k9 hi9).2.2.2.2⟩
        have fm103 : ∀ k9, k9 < sh → (hf k9 = some (sw k9) ∧ hto k9 < 12) ∧ wd_at w64 (sw k9) (.inr (5, [.int (nI (hto k9)), .int (hpp k9), .int (hle k9), .int (ham k9), .int (hhh k9), .int (hdd k9), .int (hru k9), .int (hde k9), .int (hcp k9), .int (hld k9)])) ∧ tg (sw k9) = 7000 + k9 := fun k9 hi9 => ⟨(fm59 k9 hi9).1, kq70.2 _ _ (fm59 k9 hi9).2.1 (orN (tg_ne (fm59 k9 hi9).2.2 tI4 (tnA (show 4 < 7000 by decide))) (tg_ne (fm59 k9 hi9).2.2 tI5 (tnA (show 5 < 7000 by decide)))), (fm59 k9 hi9).2.2⟩
        have kp104 := kp61.tr kq70 (fun b9 hm q9 => (fun q9 => Or.elim q9 (fun q9 => q9 ▸ (tgS tI4 (by decide))) (fun q9 => q9 ▸ (tgS tI5 (by decide)))) q9)
        refine W.eq (g2 := F0 m 46 ls [.int rx67, .int (nI t), .int x1, .ref q16, .ref q16, .int (nI ac), .ref a3]) rfl (W.widen (k := 1) (n := 4) (Nat.le_of_ble_eq_true rfl) (Nat.le_of_ble_eq_true rfl) ?_)
        refine x_callI (ret := none) (n := 3) (As := [.int x1, .int (nI t), .int rx67]) (rest := [.ref q16, .int (nI ac), .ref a3]) F hP hD hS (g_advice_init l D cy sk sv w64 q16 x1 (nI t) rx67 k97 (fun b => b = q16) rfl) gX10_advise_X0_init rfl (List.mem_cons_of_mem _ (List.mem_append_left _ (List.mem_append_left _ (List.mem_append_left _ (List.mem_append_left _ (List.mem_of_getElem? (i := 4) rfl)))))) (List.mem_cons_of_mem _ (List.mem_append_left _ (List.mem_append_left _ (List.mem_append_left _ (List.mem_append_right _ (List.mem_append_right _ (List.mem_of_getElem? (i := 3) rfl))))))) (List.mem_cons_of_mem _ (List.mem_append_left _ (List.mem_append_left _ (List.mem_append_left _ (List.mem_append_right _ (List.mem_append_right _ (List.mem_of_getElem? (i := 4) rfl))))))) rfl (by decide +kernel) ⟨(Nat.le_of_ble_eq_true rfl), (Nat.le_of_ble_eq_true rfl)⟩ rfl hl.1 (Nat.le_of_ble_eq_true rfl) dX10_advise_46 rfl ⟨(Nat.le_of_ble_eq_true rfl), (Nat.le_of_ble_eq_true rfl)⟩ (fun v106 w107 hp105 H locs hP hD hS => ?_)
        obtain ⟨rfl, kq109, k108⟩ := hp105
        have k110 := kq109.2 _ _ k71 (wd_nL hq19 kI0)
        have k111 := kq109.2 _ _ k72 (wd_nL hq19 kI1)
        have k112 := kq109.2 _ _ k73 (wd_nL hq19 kI2)
        have k113 := kq109.2 _ _ k74 (wd_nL hq19 kI3)
        have k114 := kq109.2 _ _ k68 (wd_nL hq19 kI4)
        have k115 := kq109.2 _ _ k69 (wd_nL hq19 kI5)
        have k116 := kq109.2 _ _ k75 (wd_nL hq19 kI6)
        have k117 := kq109.2 _ _ k76 (wd_nL hq19 kI7)
        have k118 := kq109.2 _ _ k77 (wd_nL hq19 kI8)
        have k119 := kq109.2 _ _ k78 (wd_nL hq19 kI9)
        have k120 := kq109.2 _ _ k79 (wd_nL hq19 kI10)
        have k121 := kq109.2 _ _ k80 (wd_nL hq19 kI11)
        have k122 := kq109.2 _ _ k81 (wd_nL hq19 kI12)
        have k123 := kq109.2 _ _ k82 (wd_nL hq19 kI13)
        have k124 := kq109.2 _ _ k83 (wd_nL hq19 kI14)
        have k125 := kq109.2 _ _ k84 (wd_nL hq19 kI15)
        have k126 := kq109.2 _ _ k85 (wd_nL hq19 kI16)
        have k127 := kq109.2 _ _ k86 (wd_nL hq19 kI17)
        have k128 := kq109.2 _ _ k87 (wd_nL hq19 kI18)
        have k129 := kq109.2 _ _ k88 (wd_nL hq19 kI19)
        have k130 := kq109.2 _ _ k89 (wd_nL hq19 kI20)
        have k131 := kq109.2 _ _ k90 (wd_nL hq19 kI21)
        have k132 := kq109.2 _ _ k91 (wd_nL hq19 kI22)
        have k133 := kq109.2 _ _ k92 (wd_nL hq19 kI23)
        have k134 := kq109.2 _ _ k93 (wd_nL hq19 kI24)
        have k135 := kq109.2 _ _ k94 (wd_nL hq19 kI25)
        have k136 := kq109.2 _ _ k95 (wd_nL hq19 kI26)
        have k137 := kq109.2 _ _ k96 (wd_nL hq19 k10)
        have fm138 : ∀ i9, i9 < 12 → tf i9 = some (tn i9) ∧ wd_at w107 (tn i9) (.inr (8, [.int (co i9), .int (ra i9), .int (se i9), .ref (ag i9)])) ∧ tg (tn i9) = 100 + i9 := fun i9 hi9 => ⟨(fm98 i9 hi9).1, kq109.2 _ _ (fm98 i9 hi9).2.1 (fn50 i9 hi9), (fm98 i9 hi9).2.2⟩
        have fm139 : ∀ k9, k9 < 13 → (aOK (cf k9) (nf k9) ∧ ru k9 ≤ 12) ∧ wd_at w107 (aa k9) (.inr (1, [.ref (ga0 k9), .ref (ga1 k9), .ref (ga2 k9), .ref (ga3 k9), .ref (ga4 k9), .int (nI (ru k9))])) ∧ tg (aa k9) = 200 + k9 ∧ wd_at w107 (ga0 k9) (.inl (cy 2, 12, .inl (df k9))) ∧ tg (ga0 k9) = 220 + k9 ∧ wd_at w107 (ga1 k9) (.inl (cy 2, 12, .inl (cf k9))) ∧ tg (ga1 k9) = 240 + k9 ∧ wd_at w107 (ga2 k9) (.inl (cy 2, 72, .inl (nf k9))) ∧ tg (ga2 k9) = 260 + k9 ∧ wd_at w107 (ga3 k9) (.inl (cy 1, 72, .inl (sf k9))) ∧ tg (ga3 k9) = 280 + k9 ∧ wd_at w107 (ga4 k9) (.inl (cy 2, 72, .inl (uf k9))) ∧ tg (ga4 k9) = 300 + k9 := fun k9 hi9 => ⟨(fm99 k9 hi9).1, kq109.2 _ _ (fm99 k9 hi9).2.1 ((fn52 k9 hi9).1), (fm99 k9 hi9).2.2.1, kq109.2 _ _ (fm99 k9 hi9).2.2.2.1 ((fn52 k9 hi9).2.1), (fm99 k9 hi9).2.2.2.2.1, kq109.2 _ _ (fm99 k9 hi9).2.2.2.2.2.1 ((fn52 k9 hi9).2.2.1), (fm99 k9 hi9).2.2.2.2.2.2.1, kq109.2 _ _ (fm99 k9 hi9).2.2.2.2.2.2.2.1 ((fn52 k9 hi9).2.2.2.1), (fm99 k9 hi9).2.2.2.2.2.2.2.2.1, kq109.2 _ _ (fm99 k9 hi9).2.2.2.2.2.2.2.2.2.1 ((fn52 k9 hi9).2.2.2.2.1), (fm99 k9 hi9).2.2.2.2.2.2.2.2.2.2.1, kq109.2 _ _ (fm99 k9 hi9).2.2.2.2.2.2.2.2.2.2.2.1 ((fn52 k9 hi9).2.2.2.2.2), (fm99 k9 hi9).2.2.2.2.2.2.2.2.2.2.2.2⟩
        have fm140 : ∀ k9, k9 < pc → pf k9 = some (pa k9) ∧ wd_at w107 (pa k9) (.inr (3, [.int (plv k9), .int (pwo k9), .int (phd k9), .int (pgd k9), .int (pdy k9), .int (pno k9), .int (ptp k9)])) ∧ tg (pa k9) = 3000 + k9 := fun k9 hi9 => ⟨(fm100 k9 hi9).1, kq109.2 _ _ (fm100 k9 hi9).2.1 (fn54 k9 hi9), (fm100 k9 hi9).2.2⟩
        have fm141 : ∀ k9, k9 < ac → af k9 = some (ad k9) ∧ wd_at w107 (ad k9) (.inr (0, [.int (av0 k9), .int (av1 k9), .int (av2 k9), .int (av3 k9)])) ∧ tg (ad k9) = 4000 + k9 := fun k9 hi9 => ⟨(fm101 k9 hi9).1, kq109.2 _ _ (fm101 k9 hi9).2.1 (fn56 k9 hi9), (fm101 k9 hi9).2.2⟩
        have fm142 : ∀ k9, k9 < sc → zf k9 = some (so k9) ∧ wd_at w107 (so k9) (.inr (6, [.int (sp0 k9), .int (sp1 k9), .ref (sr k9)])) ∧ tg (so k9) = 5000 + k9 ∧ wd_at w107 (sr k9) (.inl (cy 2, 12, .inl (sd k9))) ∧ tg (sr k9) = 6000 + k9 := fun k9 hi9 => ⟨(fm102 k9 hi9).1, kq109.2 _ _ (fm102 k9 hi9).2.1 ((fn58 k9 hi9).1), (fm102 k9 hi9).2.2.1, kq109.2 _ _ (fm102 k9 hi9).2.2.2.1 ((fn58 k9 hi9).2), (fm102 k9 hi9).2.2.2.2⟩
        have fm143 : ∀ k9, k9 < sh → (hf k9 = some (sw k9) ∧ hto k9 < 12) ∧ wd_at w107 (sw k9) (.inr (5, [.int (nI (hto k9)), .int (hpp k9), .int (hle k9), .int (ham k9), .int (hhh k9), .int (hdd k9), .int (hru k9), .int (hde k9), .int (hcp k9), .int (hld k9)])) ∧ tg (sw k9) = 7000 + k9 := fun k9 hi9 => ⟨(fm103 k9 hi9).1, kq109.2 _ _ (fm103 k9 hi9).2.1 (fn60 k9 hi9), (fm103 k9 hi9).2.2⟩
        have kp144 := kp104.tr kq109 (fun b9 hm q9 => (fun q9 => absurd (q9 ▸ hm) (kp0.out hq19)) q9)
        refine W.eq (g2 := F0 m 49 ls [.ref q16, .int (nI ac), .ref a3]) rfl (W.widen (k := 1) (n := 4) (Nat.le_of_ble_eq_true rfl) (Nat.le_of_ble_eq_true rfl) ?_)
        refine y_aast F hP hD hS k118 rfl k108 rfl (vp_in_nI (n := ac) (N := 60) (by omega) (by decide)) dX10_advise_49 (fun w145 ew146 H locs hP hD hS => ?_)
        have k147 := wd_at.pt ew146 k110 (tg_ne tI0 tI8 (by decide))
        have k148 := wd_at.pt ew146 k111 (tg_ne tI1 tI8 (by decide))
        have k149 := wd_at.pt ew146 k112 (tg_ne tI2 tI8 (by decide))
        have k150 := wd_at.pt ew146 k113 (tg_ne tI3 tI8 (by decide))
        have k151 := wd_at.pt ew146 k114 (tg_ne tI4 tI8 (by decide))
        have k152 := wd_at.pt ew146 k115 (tg_ne tI5 tI8 (by decide))
        have k153 := wd_at.pt ew146 k116 (tg_ne tI6 tI8 (by decide))
        have k154 := wd_at.pt ew146 k117 (tg_ne tI7 tI8 (by decide))
        have k155 : wd_at w145 a3 (.inl (cy 5, 60, .inr (.inr (.inr (.inr (va_up af (nI ac).toNatClampNeg (some q16))))))) := wd_at.ps ew146 k118
        have k156 := wd_at.pt ew146 k119 (tg_ne tI9 tI8 (by decide))
        have k157 := wd_at.pt ew146 k120 (tg_ne tI10 tI8 (by decide))
        have k158 := wd_at.pt ew146 k121 (tg_ne tI11 tI8 (by decide))
        have k159 := wd_at.pt ew146 k122 (tg_ne tI12 tI8 (by decide))
        have k160 := wd_at.pt ew146 k123 (tg_ne tI13 tI8 (by decide))
        have k161 := wd_at.pt ew146 k124 (tg_ne tI14 tI8 (by decide))
        have k162 := wd_at.pt ew146 k125 (tg_ne tI15 tI8 (by decide))
        have k163 := wd_at.pt ew146 k126 (tg_ne tI16 tI8 (by decide))
        have k164 := wd_at.pt ew146 k127 (tg_ne tI17 tI8 (by decide))
        have k165 := wd_at.pt ew146 k128 (tg_ne tI18 tI8 (by decide))
        have k166 := wd_at.pt ew146 k129 (tg_ne tI19 tI8 (by decide))
        have k167 := wd_at.pt ew146 k130 (tg_ne tI20 tI8 (by decide))
        have k168 := wd_at.pt ew146 k131 (tg_ne tI21 tI8 (by decide))
        have k169 := wd_at.pt ew146 k132 (tg_ne tI22 tI8 (by decide))
        have k170 := wd_at.pt ew146 k133 (tg_ne tI23 tI8 (tnA (show 8 < 30 by decide)))
        have k171 := wd_at.pt ew146 k134 (tg_ne tI24 tI8 (tnA (show 8 < 32 by decide)))
        have k172 := wd_at.pt ew146 k135 (tg_ne tI25 tI8 (tnA (show 8 < 30 by decide)))
        have k173 := wd_at.pt ew146 k136 (tg_ne tI26 tI8 (tnA (show 8 < 32 by decide)))
        have k174 := wd_at.pt ew146 k137 (tg_ne tz11 tI8 (tnA (show 8 < 3000 by decide)))
        have k175 := wd_at.pt ew146 k108 (Ne.symm (wd_nL hq19 kI8))
        have fm176 : ∀ i9, i9 < 12 → tf i9 = some (tn i9) ∧ wd_at w145 (tn i9) (.inr (8, [.int (co i9), .int (ra i9), .int (se i9), .ref (ag i9)])) ∧ tg (tn i9) = 100 + i9 := fun i9 hi9 => ⟨(fm138 i9 hi9).1, wd_at.pt ew146 (fm138 i9 hi9).2.1 (tg_ne (fm138 i9 hi9).2.2 tI8 (tnA (show 8 < 100 by decide))), (fm138 i9 hi9).2.2⟩
        have fm177 : ∀ k9, k9 < 13 → (aOK (cf k9) (nf k9) ∧ ru k9 ≤ 12) ∧ wd_at w145 (aa k9) (.inr (1, [.ref (ga0 k9), .ref (ga1 k9), .ref (ga2 k9), .ref (ga3 k9), .ref (ga4 k9), .int (nI (ru k9))])) ∧ tg (aa k9) = 200 + k9 ∧ wd_at w145 (ga0 k9) (.inl (cy 2, 12, .inl (df k9))) ∧ tg (ga0 k9) = 220 + k9 ∧ wd_at w145 (ga1 k9) (.inl (cy 2, 12, .inl (cf k9))) ∧ tg (ga1 k9) = 240 + k9 ∧ wd_at w145 (ga2 k9) (.inl (cy 2, 72, .inl (nf k9))) ∧ tg (ga2 k9) = 260 + k9 ∧ wd_at w145 (ga3 k9) (.inl (cy 1, 72, .inl (sf k9))) ∧ tg (ga3 k9) = 280 + k9 ∧ wd_at w145 (ga4 k9) (.inl (cy 2, 72, .inl (uf k9))) ∧ tg (ga4 k9) = 300 + k9 := fun k9 hi9 => ⟨(fm139 k9 hi9).1, wd_at.pt ew146 (fm139 k9 hi9).2.1 (tg_ne (fm139 k9 hi9).2.2.1 tI8 (tnA (show 8 < 200 by decide))), (fm139 k9 hi9).2.2.1, wd_at.pt ew146 (fm139 k9 hi9).2.2.2.1 (tg_ne (fm139 k9 hi9).2.2.2.2.1 tI8 (tnA (show 8 < 220 by decide))), (fm139 k9 hi9).2.2.2.2.1, wd_at.pt ew146 (fm139 k9 hi9).2.2.2.2.2.1 (tg_ne (fm139 k9 hi9).2.2.2.2.2.2.1 tI8 (tnA (show 8 < 240 by decide))), (fm139 k9 hi9).2.2.2.2.2.2.1, wd_at.pt ew146 (fm139 k9 hi9).2.2.2.2.2.2.2.1 (tg_ne (fm139 k9 hi9).2.2.2.2.2.2.2.2.1 tI8 (tnA (show 8 < 260 by decide))), (fm139 k9 hi9).2.2.2.2.2.2.2.2.1, wd_at.pt ew146 (fm139 k9 hi9).2.2.2.2.2.2.2.2.2.1 (tg_ne (fm139 k9 hi9).2.2.2.2.2.2.2.2.2.2.1 tI8 (tnA (show 8 < 280 by decide))), (fm139 k9 hi9).2.2.2.2.2.2.2.2.2.2.1, wd_at.pt ew146 (fm139 k9 hi9).2.2.2.2.2.2.2.2.2.2.2.1 (tg_ne (fm139 k9 hi9).2.2.2.2.2.2.2.2.2.2.2.2 tI8 (tnA (show 8 < 300 by decide))), (fm139 k9 hi9).2.2.2.2.2.2.2.2.2.2.2.2⟩
        have fm178 : ∀ k9, k9 < pc → pf k9 = some (pa k9) ∧ wd_at w145 (pa k9) (.inr (3, [.int (plv k9), .int (pwo k9), .int (phd k9), .int (pgd k9), .int (pdy k9), .int (pno k9), .int (ptp k9)])) ∧ tg (pa k9) = 3000 + k9 := fun k9 hi9 => ⟨(fm140 k9 hi9).1, wd_at.pt ew146 (fm140 k9 hi9).2.1 (tg_ne (fm140 k9 hi9).2.2 tI8 (tnA (show 8 < 3000 by decide))), (fm140 k9 hi9).2.2⟩
        have fm179 : ∀ k9, k9 < ac → af k9 = some (ad k9) ∧ wd_at w145 (ad k9) (.inr (0, [.int (av0 k9), .int (av1 k9), .int (av2 k9), .int (av3 k9)])) ∧ tg (ad k9) = 4000 + k9 := fun k9 hi9 => ⟨(fm141 k9 hi9).1, wd_at.pt ew146 (fm141 k9 hi9).2.1 (tg_ne (fm141 k9 hi9).2.2 tI8 (tnA (show 8 < 4000 by decide))), (fm141 k9 hi9).2.2⟩
        have fm180 : ∀ k9, k9 < sc → zf k9 = some (so k9) ∧ wd_at w145 (so k9) (.inr (6, [.int (sp0 k9), .int (sp1 k9), .ref (sr k9)])) ∧ tg (so k9) = 5000 + k9 ∧ wd_at w145 (sr k9) (.inl (cy 2, 12, .inl (sd k9))) ∧ tg (sr k9) = 6000 + k9 := fun k9 hi9 => ⟨(fm142 k9 hi9).1, wd_at.pt ew146 (fm142 k9 hi9).2.1 (tg_ne (fm142 k9 hi9).2.2.1 tI8 (tnA (show 8 < 5000 by decide))), (fm142 k9 hi9).2.2.1, wd_at.pt ew146 (fm142 k9 hi9).2.2.2.1 (tg_ne (fm142 k9 hi9).2.2.2.2 tI8 (tnA (show 8 < 6000 by decide))), (fm142 k9 hi9).2.2.2.2⟩
        have fm181 : ∀ k9, k9 < sh → (hf k9 = some (sw k9) ∧ hto k9 < 12) ∧ wd_at w145 (sw k9) (.inr (5, [.int (nI (hto k9)), .int (hpp k9), .int (hle k9), .int (ham k9), .int (hhh k9), .int (hdd k9), .int (hru k9), .int (hde k9), .int (hcp k9), .int (hld k9)])) ∧ tg (sw k9) = 7000 + k9 := fun k9 hi9 => ⟨(fm143 k9 hi9).1, wd_at.pt ew146 (fm143 k9 hi9).2.1 (tg_ne (fm143 k9 hi9).2.2 tI8 (tnA (show 8 < 7000 by decide))), (fm143 k9 hi9).2.2⟩
        have kp182 := kp144.put ew146 (tgS tI8 (by decide))
        refine lv_aload_n hx hb dX10_advise_50 rfl (lv_at hl 0 rfl) ?_
        refine lv_dup hx hb dX10_advise_51 rfl ?_
        refine x_get (ref := "NoteHouse") F hP k147 rfl (fun _ h => List.mem_cons_of_mem _ (List.mem_append_left _ (List.mem_append_left _ (List.mem_append_right _ (h))))) 14 (Nat.le_of_ble_eq_true rfl) (List.mem_cons_of_mem _ (List.mem_append_left _ (List.mem_append_left _ (List.mem_append_left _ (List.mem_append_left _ (List.mem_of_getElem? (i := 0) rfl)))))) rfl rfl dX10_advise_52 ?_
        refine lv_iconst (v := 1) hx hb dX10_advise_55 (by decide) ?_
        refine lv_iadd hx hb dX10_advise_56 ?_
        rw [show ((nI ac) + 1 : Int32) = nI (ac + 1) from nI_add ac 1]
        refine y_put (ref := "NoteHouse") F hP hD hS k147 rfl (fun _ h => List.mem_cons_of_mem _ (List.mem_append_left _ (List.mem_append_left _ (List.mem_append_right _ (h))))) tyX10_ok nmX10 14 (Nat.le_of_ble_eq_true rfl) (List.mem_cons_of_mem _ (List.mem_append_left _ (List.mem_append_left _ (List.mem_append_left _ (List.mem_append_left _ (List.mem_of_getElem? (i := 0) rfl)))))) rfl rfl rfl rfl (Nat.le_of_ble_eq_true rfl) dX10_advise_57 (fun w183 ew184 H locs hP hD hS => ?_)
        have k185 : wd_at w183 x (.inr (10, [.ref a0, .ref a1, .ref a2, .ref a3, .ref a4, .ref a5, .ref a6, .ref a7, .ref a8, .ref (aa sg), .ref a10, .ref a11, .int td, .int (nI pc), .int (nI (ac + 1)), .int (nI sc), .int (nI sh)])) := wd_at.ps ew184 k147
        have k186 := wd_at.pt ew184 k148 (tg_ne tI1 tI0 (by decide))
        have k187 := wd_at.pt ew184 k149 (tg_ne tI2 tI0 (by decide))
        have k188 := wd_at.pt ew184 k150 (tg_ne tI3 tI0 (by decide))
        have k189 := wd_at.pt ew184 k151 (tg_ne tI4 tI0 (by decide))
        have k190 := wd_at.pt ew184 k152 (tg_ne tI5 tI0 (by decide))
        have k191 := wd_at.pt ew184 k153 (tg_ne tI6 tI0 (by decide))
        have k192 := wd_at.pt ew184 k154 (tg_ne tI7 tI0 (by decide))
        have k193 := wd_at.pt ew184 k155 (tg_ne tI8 tI0 (by decide))
        have k194 := wd_at.pt ew184 k156 (tg_ne tI9 tI0 (by decide))
        have k195 := wd_at.pt ew184 k157 (tg_ne tI10 tI0 (by decide))
        have k196 := wd_at.pt ew184 k158 (tg_ne tI11 tI0 (by decide))
        have k197 := wd_at.pt ew184 k159 (tg_ne tI12 tI0 (by decide))
        have k198 := wd_at.pt ew184 k160 (tg_ne tI13 tI0 (by decide))
        have k199 := wd_at.pt ew184 k161 (tg_ne tI14 tI0 (by decide))
        have k200 := wd_at.pt ew184 k162 (tg_ne tI15 tI0 (by decide))
        have k201 := wd_at.pt ew184 k163 (tg_ne tI16 tI0 (by decide))
        have k202 := wd_at.pt ew184 k164 (tg_ne tI17 tI0 (by decide))
        have k203 := wd_at.pt ew184 k165 (tg_ne tI18 tI0 (by decide))
        have k204 := wd_at.pt ew184 k166 (tg_ne tI19 tI0 (by decide))
        have k205 := wd_at.pt ew184 k167 (tg_ne tI20 tI0 (by decide))
        have k206 := wd_at.pt ew184 k168 (tg_ne tI21 tI0 (by decide))
        have k207 := wd_at.pt ew184 k169 (tg_ne tI22 tI0 (by decide))
        have k208 := wd_at.pt ew184 k170 (tg_ne tI23 tI0 (tnA (show 0 < 30 by decide)))
        have k209 := wd_at.pt ew184 k171 (tg_ne tI24 tI0 (tnA (show 0 < 32 by decide)))
        have k210 := wd_at.pt ew184 k172 (tg_ne tI25 tI0 (tnA (show 0 < 30 by decide)))
        have k211 := wd_at.pt ew184 k173 (tg_ne tI26 tI0 (tnA (show 0 < 32 by decide)))
        have k212 := wd_at.pt ew184 k174 (tg_ne tz11 tI0 (tnA (show 0 < 3000 by decide)))
        have k213 := wd_at.pt ew184 k175 (Ne.symm (wd_nL hq19 kI0))
        have fm214 : ∀ i9, i9 < 12 → tf i9 = some (tn i9) ∧ wd_at w183 (tn i9) (.inr (8, [.int (co i9), .int (ra i9), .int (se i9), .ref (ag i9)])) ∧ tg (tn i9) = 100 + i9 := fun i9 hi9 => ⟨(fm176 i9 hi9).1, wd_at.pt ew184 (fm176 i9 hi9).2.1 (tg_ne (fm176 i9 hi9).2.2 tI0 (tnA (show 0 < 100 by decide))), (fm176 i9 hi9).2.2⟩
        have fm215 : ∀ k9, k9 < 13 → (aOK (cf k9) (nf k9) ∧ ru k9 ≤ 12) ∧ wd_at w183 (aa k9) (.inr (1, [.ref (ga0 k9), .ref (ga1 k9), .ref (ga2 k9), .ref (ga3 k9), .ref (ga4 k9), .int (nI (ru k9))])) ∧ tg (aa k9) = 200 + k9 ∧ wd_at w183 (ga0 k9) (.inl (cy 2, 12, .inl (df k9))) ∧ tg (ga0 k9) = 220 + k9 ∧ wd_at w183 (ga1 k9) (.inl (cy 2, 12, .inl (cf k9))) ∧ tg (ga1 k9) = 240 + k9 ∧ wd_at w183 (ga2 k9) (.inl (cy 2, 72, .inl (nf k9))) ∧ tg (ga2 k9) = 260 + k9 ∧ wd_at w183 (ga3 k9) (.inl (cy 1, 72, .inl (sf k9))) ∧ tg (ga3 k9) = 280 + k9 ∧ wd_at w183 (ga4 k9) (.inl (cy 2, 72, .inl (uf k9))) ∧ tg (ga4 k9) = 300 + k9 := fun k9 hi9 => ⟨(fm177 k9 hi9).1, wd_at.pt ew184 (fm177 k9 hi9).2.1 (tg_ne (fm177 k9 hi9).2.2.1 tI0 (tnA (show 0 < 200 by decide))), (fm177 k9 hi9).2.2.1, wd_at.pt ew184 (fm177 k9 hi9).2.2.2.1 (tg_ne (fm177 k9 hi9).2.2.2.2.1 tI0 (tnA (show 0 < 220 by decide))), (fm177 k9 hi9).2.2.2.2.1, wd_at.pt ew184 (fm177 k9 hi9).2.2.2.2.2.1 (tg_ne (fm177 k9 hi9).2.2.2.2.2.2.1 tI0 (tnA (show 0 < 240 by decide))), (fm177 k9 hi9).2.2.2.2.2.2.1, wd_at.pt ew184 (fm177 k9 hi9).2.2.2.2.2.2.2.1 (tg_ne (fm177 k9 hi9).2.2.2.2.2.2.2.2.1 tI0 (tnA (show 0 < 260 by decide))), (fm177 k9 hi9).2.2.2.2.2.2.2.2.1, wd_at.pt ew184 (fm177 k9 hi9).2.2.2.2.2.2.2.2.2.1 (tg_ne (fm177 k9 hi9).2.2.2.2.2.2.2.2.2.2.1 tI0 (tnA (show 0 < 280 by decide))), (fm177 k9 hi9).2.2.2.2.2.2.2.2.2.2.1, wd_at.pt ew184 (fm177 k9 hi9).2.2.2.2.2.2.2.2.2.2.2.1 (tg_ne (fm177 k9 hi9).2.2.2.2.2.2.2.2.2.2.2.2 tI0 (tnA (show 0 < 300 by decide))), (fm177 k9 hi9).2.2.2.2.2.2.2.2.2.2.2.2⟩
        have fm216 : ∀ k9, k9 < pc → pf k9 = some (pa k9) ∧ wd_at w183 (pa k9) (.inr (3, [.int (plv k9), .int (pwo k9), .int (phd k9), .int (pgd k9), .int (pdy k9), .int (pno k9), .int (ptp k9)])) ∧ tg (pa k9) = 3000 + k9 := fun k9 hi9 => ⟨(fm178 k9 hi9).1, wd_at.pt ew184 (fm178 k9 hi9).2.1 (tg_ne (fm178 k9 hi9).2.2 tI0 (tnA (show 0 < 3000 by decide))), (fm178 k9 hi9).2.2⟩
        have fm217 : ∀ k9, k9 < ac → af k9 = some (ad k9) ∧ wd_at w183 (ad k9) (.inr (0, [.int (av0 k9), .int (av1 k9), .int (av2 k9), .int (av3 k9)])) ∧ tg (ad k9) = 4000 + k9 := fun k9 hi9 => ⟨(fm179 k9 hi9).1, wd_at.pt ew184 (fm179 k9 hi9).2.1 (tg_ne (fm179 k9 hi9).2.2 tI0 (tnA (show 0 < 4000 by decide))), (fm179 k9 hi9).2.2⟩
        have fm218 : ∀ k9, k9 < sc → zf k9 = some (so k9) ∧ wd_at w183 (so k9) (.inr (6, [.int (sp0 k9), .int (sp1 k9), .ref (sr k9)])) ∧ tg (so k9) = 5000 + k9 ∧ wd_at w183 (sr k9) (.inl (cy 2, 12, .inl (sd k9))) ∧ tg (sr k9) = 6000 + k9 := fun k9 hi9 => ⟨(fm180 k9 hi9).1, wd_at.pt ew184 (fm180 k9 hi9).2.1 (tg_ne (fm180 k9 hi9).2.2.1 tI0 (tnA (show 0 < 5000 by decide))), (fm180 k9 hi9).2.2.1, wd_at.pt ew184 (fm180 k9 hi9).2.2.2.1 (tg_ne (fm180 k9 hi9).2.2.2.2 tI0 (tnA (show 0 < 6000 by decide))), (fm180 k9 hi9).2.2.2.2⟩
        have fm219 : ∀ k9, k9 < sh → (hf k9 = some (sw k9) ∧ hto k9 < 12) ∧ wd_at w183 (sw k9) (.inr (5, [.int (nI (hto k9)), .int (hpp k9), .int (hle k9), .int (ham k9), .int (hhh k9), .int (hdd k9), .int (hru k9), .int (hde k9), .int (hcp k9), .int (hld k9)])) ∧ tg (sw k9) = 7000 + k9 := fun k9 hi9 => ⟨(fm181 k9 hi9).1, wd_at.pt ew184 (fm181 k9 hi9).2.1 (tg_ne (fm181 k9 hi9).2.2 tI0 (tnA (show 0 < 7000 by decide))), (fm181 k9 hi9).2.2⟩
        have kp220 := kp182.put ew184 (tgS tI0 (by decide))
        refine lv_aload_n hx hb dX10_advise_60 rfl (lv_at hl 0 rfl) ?_
        refine x_get (ref := "NoteHouse") F hP k185 rfl (fun _ h => List.mem_cons_of_mem _ (List.mem_append_left _ (List.mem_append_left _ (List.mem_append_right _ (h))))) 14 (Nat.le_of_ble_eq_true rfl) (List.mem_cons_of_mem _ (List.mem_append_left _ (List.mem_append_left _ (List.mem_append_left _ (List.mem_append_left _ (List.mem_of_getElem? (i := 0) rfl)))))) rfl rfl dX10_advise_61 ?_
        refine lv_iconst (v := 1) hx hb dX10_advise_64 (by decide) ?_
        refine lv_isub hx hb dX10_advise_65 ?_
        rw [show ((nI (ac + 1)) - 1 : Int32) = nI ((ac + 1) - 1) from pk_sub (a := (ac + 1)) (b := 1) (by omega)]
        have fm222 : ∀ i9, i9 < 12 → tf i9 = some (tn i9) ∧ wd_at w183 (tn i9) (.inr (8, [.int (co i9), .int (ra i9), .int (se i9), .ref (ag i9)])) ∧ (va_up tg q16 (4000 + ac)) (tn i9) = 100 + i9 := fun i9 hi9 => ⟨(fm214 i9 hi9).1, (fm214 i9 hi9).2.1, ((va_up_ne _ _ (fn50 i9 hi9)).trans (fm214 i9 hi9).2.2)⟩
        have fm223 : ∀ k9, k9 < 13 → (aOK (cf k9) (nf k9) ∧ ru k9 ≤ 12) ∧ wd_at w183 (aa k9) (.inr (1, [.ref (ga0 k9), .ref (ga1 k9), .ref (ga2 k9), .ref (ga3 k9), .ref (ga4 k9), .int (nI (ru k9))])) ∧ (va_up tg q16 (4000 + ac)) (aa k9) = 200 + k9 ∧ wd_at w183 (ga0 k9) (.inl (cy 2, 12, .inl (df k9))) ∧ (va_up tg q16 (4000 + ac)) (ga0 k9) = 220 + k9 ∧ wd_at w183 (ga1 k9) (.inl (cy 2, 12, .inl (cf k9))) ∧ (va_up tg q16 (4000 + ac)) (ga1 k9) = 240 + k9 ∧ wd_at w183 (ga2 k9) (.inl (cy 2, 72, .inl (nf k9))) ∧ (va_up tg q16 (4000 + ac)) (ga2 k9) = 260 + k9 ∧ wd_at w183 (ga3 k9) (.inl (cy 1, 72, .inl (sf k9))) ∧ (va_up tg q16 (4000 + ac)) (ga3 k9) = 280 + k9 ∧ wd_at w183 (ga4 k9) (.inl (cy 2, 72, .inl (uf k9))) ∧ (va_up tg q16 (4000 + ac)) (ga4 k9) = 300 + k9 := fun k9 hi9 => ⟨(fm215 k9 hi9).1, (fm215 k9 hi9).2.1, ((va_up_ne _ _ ((fn52 k9 hi9).1)).trans (fm215 k9 hi9).2.2.1), (fm215 k9 hi9).2.2.2.1, ((va_up_ne _ _ ((fn52 k9 hi9).2.1)).trans (fm215 k9 hi9).2.2.2.2.1), (fm215 k9 hi9).2.2.2.2.2.1, ((va_up_ne _ _ ((fn52 k9 hi9).2.2.1)).trans (fm215 k9 hi9).2.2.2.2.2.2.1), (fm215 k9 hi9).2.2.2.2.2.2.2.1, ((va_up_ne _ _ ((fn52 k9 hi9).2.2.2.1)).trans (fm215 k9 hi9).2.2.2.2.2.2.2.2.1), (fm215 k9 hi9).2.2.2.2.2.2.2.2.2.1, ((va_up_ne _ _ ((fn52 k9 hi9).2.2.2.2.1)).trans (fm215 k9 hi9).2.2.2.2.2.2.2.2.2.2.1), (fm215 k9 hi9).2.2.2.2.2.2.2.2.2.2.2.1, ((va_up_ne _ _ ((fn52 k9 hi9).2.2.2.2.2)).trans (fm215 k9 hi9).2.2.2.2.2.2.2.2.2.2.2.2)⟩
        have fm224 : ∀ k9, k9 < pc → pf k9 = some (pa k9) ∧ wd_at w183 (pa k9) (.inr (3, [.int (plv k9), .int (pwo k9), .int (phd k9), .int (pgd k9), .int (pdy k9), .int (pno k9), .int (ptp k9)])) ∧ (va_up tg q16 (4000 + ac)) (pa k9) = 3000 + k9 := fun k9 hi9 => ⟨(fm216 k9 hi9).1, (fm216 k9 hi9).2.1, ((va_up_ne _ _ (fn54 k9 hi9)).trans (fm216 k9 hi9).2.2)⟩
        have fm225 : ∀ k9, k9 < ac → af k9 = some (ad k9) ∧ wd_at w183 (ad k9) (.inr (0, [.int (av0 k9), .int (av1 k9), .int (av2 k9), .int (av3 k9)])) ∧ (va_up tg q16 (4000 + ac)) (ad k9) = 4000 + k9 := fun k9 hi9 => ⟨(fm217 k9 hi9).1, (fm217 k9 hi9).2.1, ((va_up_ne _ _ (fn56 k9 hi9)).trans (fm217 k9 hi9).2.2)⟩
        have fm226 : ∀ k9, k9 < sc → zf k9 = some (so k9) ∧ wd_at w183 (so k9) (.inr (6, [.int (sp0 k9), .int (sp1 k9), .ref (sr k9)])) ∧ (va_up tg q16 (4000 + ac)) (so k9) = 5000 + k9 ∧ wd_at w183 (sr k9) (.inl (cy 2, 12, .inl (sd k9))) ∧ (va_up tg q16 (4000 + ac)) (sr k9) = 6000 + k9 := fun k9 hi9 => ⟨(fm218 k9 hi9).1, (fm218 k9 hi9).2.1, ((va_up_ne _ _ ((fn58 k9 hi9).1)).trans (fm218 k9 hi9).2.2.1), (fm218 k9 hi9).2.2.2.1, ((va_up_ne _ _ ((fn58 k9 hi9).2)).trans (fm218 k9 hi9).2.2.2.2)⟩
        have fm227 : ∀ k9, k9 < sh → (hf k9 = some (sw k9) ∧ hto k9 < 12) ∧ wd_at w183 (sw k9) (.inr (5, [.int (nI (hto k9)), .int (hpp k9), .int (hle k9), .int (ham k9), .int (hhh k9), .int (hdd k9), .int (hru k9), .int (hde k9), .int (hcp k9), .int (hld k9)])) ∧ (va_up tg q16 (4000 + ac)) (sw k9) = 7000 + k9 := fun k9 hi9 => ⟨(fm219 k9 hi9).1, (fm219 k9 hi9).2.1, ((va_up_ne _ _ (fn60 k9 hi9)).trans (fm219 k9 hi9).2.2)⟩
        have k228 : wd_at w183 a3 (.inl (cy 5, 60, .inr (.inr (.inr (.inr (va_up af ac (some q16))))))) := by have h9 := k193; rw [nI_clamp (n := ac) (by omega)] at h9; exact h9
        have fm229 : ∀ k9, k9 < (ac + 1) → (va_up af ac (some q16)) k9 = some ((va_up ad ac q16) k9) ∧ wd_at w183 ((va_up ad ac q16) k9) (.inr (0, [.int ((va_up av0 ac x1) k9), .int ((va_up av1 ac (nI t)) k9), .int ((va_up av2 ac rx67) k9), .int ((va_up av3 ac 0) k9)])) ∧ (va_up tg q16 (4000 + ac)) ((va_up ad ac q16) k9) = 4000 + k9 := by
          intro k9 hi9
          by_cases e9 : k9 = ac
          · rw [e9]
            exact ⟨(by rw [va_up_self, va_up_self]), (by simp only [va_up_self]; exact k213), (by rw [va_up_self]; exact (va_up_self _ _ _))⟩
          · simp only [va_up_ne _ _ e9]
            exact fm225 k9 (by omega)
        have hX230 : IX cy (va_up tg q16 (4000 + ac)) x td pc (ac + 1) sc ln se plv w183 := IX.mk a0 a1 a2 a3 a4 a5 a6 a7 a8 a10 a11 b0 b1 b2 b3 tb l0 l1 l2 l3 l4 l5 l6 l7 bl bm sh gc sg lu lv9 f0 f1 dx65 px66 tbf e0 e1 e4 e5 e7 ff bf bf2 e2 e3 e6 ta sz fo to fo2 to2 tf tn ag co ra aa ru ga0 ga1 ga2 ga3 ga4 df cf nf sf uf pf pa pwo phd pgd pdy pno ptp (va_up af ac (some q16)) (va_up ad ac q16) (va_up av0 ac x1) (va_up av1 ac (nI t)) (va_up av2 ac rx67) (va_up av3 ac 0) zf so sr sp0 sp1 sd hf sw hto hpp hle ham hhh hdd hru hde hcp hld (by omega) (by omega) (by omega) (by omega) (by omega) (by omega) (by omega) (by omega) hag k185 ((va_up_ne _ _ (wd_nL hq19 kI0)).trans tI0) k186 ((va_up_ne _ _ (wd_nL hq19 kI1)).trans tI1) k187 ((va_up_ne _ _ (wd_nL hq19 kI2)).trans tI2) k188 ((va_up_ne _ _ (wd_nL hq19 kI3)).trans tI3) k189 ((va_up_ne _ _ (wd_nL hq19 kI4)).trans tI4) k190 ((va_up_ne _ _ (wd_nL hq19 kI5)).trans tI5) k191 ((va_up_ne _ _ (wd_nL hq19 kI6)).trans tI6) k192 ((va_up_ne _ _ (wd_nL hq19 kI7)).trans tI7) k228 ((va_up_ne _ _ (wd_nL hq19 kI8)).trans tI8) k194 ((va_up_ne _ _ (wd_nL hq19 kI9)).trans tI9) k195 ((va_up_ne _ _ (wd_nL hq19 kI10)).trans tI10) k196 ((va_up_ne _ _ (wd_nL hq19 kI11)).trans tI11) k197 ((va_up_ne _ _ (wd_nL hq19 kI12)).trans tI12) k198 ((va_up_ne _ _ (wd_nL hq19 kI13)).trans tI13) k199 ((va_up_ne _ _ (wd_nL hq19 kI14)).trans tI14) k200 ((va_up_ne _ _ (wd_nL hq19 kI15)).trans tI15) k201 ((va_up_ne _ _ (wd_nL hq19 kI16)).trans tI16) k202 ((va_up_ne _ _ (wd_nL hq19 kI17)).trans tI17) k203 ((va_up_ne _ _ (wd_nL hq19 kI18)).trans tI18) k204 ((va_up_ne _ _ (wd_nL hq19 kI19)).trans tI19) k205 ((va_up_ne _ _ (wd_nL hq19 kI20)).trans tI20) k206 ((va_up_ne _ _ (wd_nL hq19 kI21)).trans tI21) k207 ((va_up_ne _ _ (wd_nL hq19 kI22)).trans tI22) k208 ((va_up_ne _ _ (wd_nL hq19 kI23)).trans tI23) k209 ((va_up_ne _ _ (wd_nL hq19 kI24)).trans tI24) k210 ((va_up_ne _ _ (wd_nL hq19 kI25)).trans tI25) k211 ((va_up_ne _ _ (wd_nL hq19 kI26)).trans tI26) fm222 fm223 fm224 fm229 fm226 fm227
        exact y_ir K hP hD hS (Nat.le_of_ble_eq_true rfl) (Nat.le_of_ble_eq_true rfl) (ty := .int) rfl rfl dX10_advise_66 (by refine ⟨(congrArg (fun z => some (Value.int z)) (show nI ((ac + 1) - 1) = advA pc ac x1 (nI t) from by simp [advA, advC, c_1, pb9.1, pb9.2, c_15, clt])), ?_⟩; rw [show advC pc ac x1 (nI t) = (ac + 1) from by simp [advA, advC, c_1, pb9.1, pb9.2, c_15, clt]]; exact ⟨(va_up tg q16 (4000 + ac)), (fun a9 ha9 => (va_up_ne _ _ (fun q9 : a9 = q16 => (kp0.out hq19) (q9 ▸ ha9)))), kp220, hX230⟩)
      · refine lv_iconst (v := (-1)) hx hb dX10_advise_24 (by decide) ?_
        exact y_ir K hP hD hS (Nat.le_of_ble_eq_true rfl) (Nat.le_of_ble_eq_true rfl) (ty := .int) rfl rfl dX10_advise_25 (by refine ⟨(congrArg (fun z => some (Value.int z)) (show (-1) = advA pc ac x1 x2 from by simp [advA, advC, c_1, pb9.1, pb9.2, c_15])), ?_⟩; rw [show advC pc ac x1 x2 = ac from by simp [advA, advC, c_1, pb9.1, pb9.2, c_15]]; exact ⟨tg, fun _ _ => rfl, wd_kp.rf, hIX0⟩)
set_option maxHeartbeats 4000000 in
set_option maxRecDepth 100000 in
theorem X_stop (l : Launch) (D : va_G) (cy : Nat → ClassId) (sk sv : Nat → Nat) (w : Wd) (tg : Nat → Nat) (x : Nat) (td : Int32) (pc ac sc ln : Nat) (se plv : Nat → Int32) (x1 x2 x3 : Int32) (hIX0 : IX cy tg x td pc ac sc ln se plv w) : Ct l D cy sk sv yX10_stop wsX10_stop ({ frames := 4, cells := 2, slots := 15, locals := 85 }) [.ref x, .int x1, .int x2, .int x3] w (fun v w1 => v = some (.int (stpA plv pc sc x1 x2 x3)) ∧ XP cy tg x td pc ac (stpC plv pc sc x1 x2 x3) ln se plv w w1) := by
  refine Ct.by (cc := cX10_stop) (maxL := 5) (ret := (some .int)) (by decide +kernel) rfl (Nat.le_of_ble_eq_true rfl) ?_
  intro p e s m args below meth c A Q F hnm K ls hl
  have F : wd_Fx p s m args meth c cX10_stop 5 wsX10_stop RX10 D cy sk sv A := F
  have hl : lv_has ls 5 [(0, .ref x), (1, .int x1), (2, .int x2), (3, .int x3)] := hl
  have hx := F.1.1
  have hb := F.1.2.1
  have hown := F.1.2.2.2.1
  have hts := F.1.2.2.2.2
  intro H locs hP hD hS
  have kp0 : wd_kp (fun b => tg b < 10000) w w := wd_kp.rf
  refine hIX0 _ ?_
  intro a0 a1 a2 a3 a4 a5 a6 a7 a8 a10 a11 b0 b1 b2 b3 tb l0 l1 l2 l3 l4 l5 l6 l7 bl bm sh gc sg lu lv9 f0 f1 f2 f3 tbf e0 e1 e4 e5 e7 ff bf bf2 e2 e3 e6 ta sz fo to fo2 to2 tf tn ag co ra aa ru ga0 ga1 ga2 ga3 ga4 df cf nf sf uf pf pa pwo phd pgd pdy pno ptp af ad av0 av1 av2 av3 zf so sr sp0 sp1 sd hf sw hto hpp hle ham hhh hdd hru hde hcp hld hp90 hp91 hp92 hp93 hp94 hp95 hp96 hp97 hag kI0 tI0 kI1 tI1 kI2 tI2 kI3 tI3 kI4 tI4 kI5 tI5 kI6 tI6 kI7 tI7 kI8 tI8 kI9 tI9 kI10 tI10 kI11 tI11 kI12 tI12 kI13 tI13 kI14 tI14 kI15 tI15 kI16 tI16 kI17 tI17 kI18 tI18 kI19 tI19 kI20 tI20 kI21 tI21 kI22 tI22 kI23 tI23 kI24 tI24 kI25 tI25 kI26 tI26 hT9 hG9 hP9 hA9 hS9 hH9
  have hlu : lu < 2 := by omega
  have hlv : lv9 < 2 := by omega
  refine lv_aload_n hx hb dX10_stop_0 rfl (lv_at hl 0 rfl) ?_
  refine lv_iload_n hx hb dX10_stop_1 rfl (lv_at hl 1 rfl) ?_
  refine x_callV (n := 1) (As := [.int x1]) (rest := []) F hP hD hS (g_paperAt l D cy sk sv w x a0 a1 a2 a3 a4 a5 a6 a7 a8 (aa sg) a10 a11 pc ac sc sh td x1 tg pf pa plv pwo phd pgd pdy pno ptp kI0 kI7 hP9 (by omega)) gX10_stop_X10_paperAt rfl rfl (by decide +kernel) ⟨(Nat.le_of_ble_eq_true rfl), (Nat.le_of_ble_eq_true rfl)⟩ rfl hl.1 (Nat.le_of_ble_eq_true rfl) kI0 rfl dX10_stop_2 rfl ⟨(Nat.le_of_ble_eq_true rfl), (Nat.le_of_ble_eq_true rfl)⟩ (fun v2 w3 hp1 H locs hP hD hS => ?_)
  obtain ⟨hp1, rfl⟩ := hp1
  rcases hp1 with ⟨rfl, hn5⟩ | ⟨j4, hn5, ej4, rfl⟩
  · have pb6 := pb_n (by omega) hn5
    refine W.eq (g2 := F0 m 5 ls [.null]) rfl (W.widen (k := 0) (n := 0) (Nat.le_of_ble_eq_true rfl) (Nat.le_of_ble_eq_true rfl) ?_)
    refine lv_astoreN (lv' := [(4, .null), (0, .ref x), (1, .int x1), (2, .int x2), (3, .int x3)]) hx hb dX10_stop_5 hl (by decide) rfl (fun ls hl => ?_)
    refine lv_aload_n hx hb dX10_stop_7 rfl (lv_at hl 1 rfl) ?_
    refine x_get (ref := "NoteHouse") F hP kI0 rfl (fun _ h => List.mem_cons_of_mem _ (List.mem_append_left _ (List.mem_append_left _ (List.mem_append_left _ (List.mem_append_right _ (h)))))) 15 (Nat.le_of_ble_eq_true rfl) (List.mem_cons_of_mem _ (List.mem_append_left _ (List.mem_append_left _ (List.mem_append_left _ (List.mem_append_left _ (List.mem_append_left _ (List.mem_of_getElem? (i := 0) rfl))))))) rfl rfl dX10_stop_8 ?_
    refine lv_bipush (v := 60) hx hb dX10_stop_11 (by decide) ?_
    refine lv_icmp_ge (tgt := 28) hx hb dX10_stop_13 (by decide) (fun c_7 => ?_) (fun c_7 => ?_)
    · refine lv_iconst (v := (-1)) hx hb dX10_stop_28 (by decide) ?_
      exact y_ir K hP hD hS (Nat.le_of_ble_eq_true rfl) (Nat.le_of_ble_eq_true rfl) (ty := .int) rfl rfl dX10_stop_29 (by refine ⟨(congrArg (fun z => some (Value.int z)) (show (-1) = stpA plv pc sc x1 x2 x3 from by simp [stpA, stpC, pb6, c_7])), ?_⟩; rw [show stpC plv pc sc x1 x2 x3 = sc from by simp [stpA, stpC, pb6, c_7]]; exact ⟨tg, fun _ _ => rfl, wd_kp.rf, hIX0⟩)
    · have hb_sc : sc < 60 := nI_lt_of (n := 60) c_7 (by omega)
      refine lv_aloadN hx hb dX10_stop_16 (lv_at hl 0 rfl) ?_
      refine lv_ifnullN (tgt := 28) hx hb dX10_stop_18 (by decide) ?_
      refine lv_iconst (v := (-1)) hx hb dX10_stop_28 (by decide) ?_
      exact y_ir K hP hD hS (Nat.le_of_ble_eq_true rfl) (Nat.le_of_ble_eq_true rfl) (ty := .int) rfl rfl dX10_stop_29 (by refine ⟨(congrArg (fun z => some (Value.int z)) (show (-1) = stpA plv pc sc x1 x2 x3 from by simp [stpA, stpC, pb6, c_7])), ?_⟩; rw [show stpC plv pc sc x1 x2 x3 = sc from by simp [stpA, stpC, pb6, c_7]]; exact ⟨tg, fun _ _ => rfl, wd_kp.rf, hIX0⟩)
  · refine W.eq (g2 := F0 m 5 ls [.ref (pa j4)]) rfl (W.widen (k := 0) (n := 0) (Nat.le_of_ble_eq_true rfl) (Nat.le_of_ble_eq_true rfl) ?_)
    have pr8 := (hP9 j4 hn5).1
    have pb9 := pb_r (by omega) hn5 ej4
    have k10 := (hP9 j4 hn5).2.1
    have tz11 := (hP9 j4 hn5).2.2
    refine lv_astore (lv' := [(4, .ref (pa j4)), (0, .ref x), (1, .int x1), (2, .int x2), (3, .int x3)]) hx hb dX10_stop_5 hl (by decide) rfl (fun ls hl => ?_)
    refine lv_aload_n hx hb dX10_stop_7 rfl (lv_at hl 1 rfl) ?_
    refine x_get (ref := "NoteHouse") F hP kI0 rfl (fun _ h => List.mem_cons_of_mem _ (List.mem_append_left _ (List.mem_append_left _ (List.mem_append_left _ (List.mem_append_right _ (h)))))) 15 (Nat.le_of_ble_eq_true rfl) (List.mem_cons_of_mem _ (List.mem_append_left _ (List.mem_append_left _ (List.mem_append_left _ (List.mem_append_left _ (List.mem_append_left _ (List.mem_of_getElem? (i := 0) rfl))))))) rfl rfl dX10_stop_8 ?_
    refine lv_bipush (v := 60) hx hb dX10_stop_11 (by decide) ?_
    refine lv_icmp_ge (tgt := 28) hx hb dX10_stop_13 (by decide) (fun c_12 => ?_) (fun c_12 => ?_)
    · refine lv_iconst (v := (-1)) hx hb dX10_stop_28 (by decide) ?_
      exact y_ir K hP hD hS (Nat.le_of_ble_eq_true rfl) (Nat.le_of_ble_eq_true rfl) (ty := .int) rfl rfl dX10_stop_29 (by refine ⟨(congrArg (fun z => some (Value.int z)) (show (-1) = stpA plv pc sc x1 x2 x3 from by simp [stpA, stpC, pb9.1, pb9.2, c_12])), ?_⟩; rw [show stpC plv pc sc x1 x2 x3 = sc from by simp [stpA, stpC, pb9.1, pb9.2, c_12]]; exact ⟨tg, fun _ _ => rfl, wd_kp.rf, hIX0⟩)
    · have hb_sc : sc < 60 := nI_lt_of (n := 60) c_12 (by omega)
      refine lv_aload hx hb dX10_stop_16 (lv_at hl 0 rfl) ?_
      refine lv_ifnull hx hb dX10_stop_18 ?_
      refine lv_iload_n hx hb dX10_stop_21 rfl (lv_at hl 4 rfl) ?_
      refine x_callS (n := 1) (As := [.int x3]) (rest := []) F hP hD hS (g_isTown l D cy sk sv w x3) gX10_stop_X10_isTown rfl (by decide +kernel) ⟨(Nat.le_of_ble_eq_true rfl), (Nat.le_of_ble_eq_true rfl)⟩ rfl hl.1 (Nat.le_of_ble_eq_true rfl) dX10_stop_22 rfl ⟨(Nat.le_of_ble_eq_true rfl), (Nat.le_of_ble_eq_true rfl)⟩ (fun v14 w15 hp13 H locs hP hD hS => ?_)
      obtain ⟨rfl, rfl⟩ := hp13
      refine W.eq (g2 := F0 m 25 ls [.int (wi x3 0 11)]) rfl (W.widen (k := 0) (n := 0) (Nat.le_of_ble_eq_true rfl) (Nat.le_of_ble_eq_true rfl) ?_)
      refine lv_if_ne (tgt := 30) hx hb dX10_stop_25 (by decide) (fun c_16 => ?_) (fun c_16 => ?_)
      · obtain ⟨t, ht, rfl, clt⟩ := wi_t c_16
        refine lv_iload_n hx hb dX10_stop_30 rfl (lv_at hl 3 rfl) ?_
        refine lv_iconst (v := (-1)) hx hb dX10_stop_31 (by decide) ?_
        refine lv_icmp_eq (tgt := 46) hx hb dX10_stop_32 (by decide) (fun c_17 => ?_) (fun c_17 => ?_)
        · refine lv_aload_n hx hb dX10_stop_46 rfl (lv_at hl 1 rfl) ?_
          refine x_get (ref := "NoteHouse") F hP kI0 rfl (fun _ h => List.mem_cons_of_mem _ (List.mem_append_left _ (List.mem_append_left _ (List.mem_append_left _ (List.mem_append_right _ (h)))))) 4 (Nat.le_of_ble_eq_true rfl) (List.mem_cons_of_mem _ (List.mem_append_left _ (List.mem_append_left _ (List.mem_append_left _ (List.mem_append_left _ (List.mem_append_left _ (List.mem_of_getElem? (i := 1) rfl))))))) rfl rfl dX10_stop_47 ?_
          refine lv_aload_n hx hb dX10_stop_50 rfl (lv_at hl 1 rfl) ?_
          refine x_get (ref := "NoteHouse") F hP kI0 rfl (fun _ h => List.mem_cons_of_mem _ (List.mem_append_left _ (List.mem_append_left _ (List.mem_append_left _ (List.mem_append_right _ (h)))))) 15 (Nat.le_of_ble_eq_true rfl) (List.mem_cons_of_mem _ (List.mem_append_left _ (List.mem_append_left _ (List.mem_append_left _ (List.mem_append_left _ (List.mem_append_left _ (List.mem_of_getElem? (i := 0) rfl))))))) rfl rfl dX10_stop_51 ?_
          refine y_new (fs := [.int 0, .int 0, .null]) F hP hD hS (ci := 6) rfl (fun _ h => List.mem_cons_of_mem _ (List.mem_append_left _ (List.mem_append_left _ (List.mem_append_right _ (h))))) tyX6_ok (List.mem_cons_of_mem _ (List.mem_append_left _ (List.mem_append_left _ (List.mem_append_left _ (List.mem_append_left _ (List.mem_append_left _ (List.mem_of_getElem? (i := 2) rfl))))))) (List.mem_cons_of_mem _ (List.mem_append_left _ (List.mem_append_left _ (List.mem_append_left _ (List.mem_append_left _ (List.mem_append_left _ (List.mem_of_getElem? (i := 3) rfl))))))) (List.mem_cons_of_mem _ (List.mem_append_left _ (List.mem_append_left _ (List.mem_append_left _ (List.mem_append_left _ (List.mem_append_left _ (List.mem_of_getElem? (i := 4) rfl))))))) df_6 (Nat.le_of_ble_eq_true rfl) (Nat.le_of_ble_eq_true rfl) dX10_stop_54 (fun q18 w19 ew20 hq21 H hP hD hS => ?_)
          refine W.widen (k := 1) (n := 3) (Nat.le_of_ble_eq_true rfl) (Nat.le_of_ble_eq_true rfl) ?_
          have k22 := wd_at.ad ew20 hq21 kI0
          have k23 := wd_at.ad ew20 hq21 kI1
          have k24 := wd_at.ad ew20 hq21 kI2
          have k25 := wd_at.ad ew20 hq21 kI3
          have k26 := wd_at.ad ew20 hq21 kI4
          have k27 := wd_at.ad ew20 hq21 kI5
          have k28 := wd_at.ad ew20 hq21 kI6
          have k29 := wd_at.ad ew20 hq21 kI7
          have k30 := wd_at.ad ew20 hq21 kI8
          have k31 := wd_at.ad ew20 hq21 kI9
          have k32 := wd_at.ad ew20 hq21 kI10
          have k33 := wd_at.ad ew20 hq21 kI11
          have k34 := wd_at.ad ew20 hq21 kI12
          have k35 := wd_at.ad ew20 hq21 kI13
          have k36 := wd_at.ad ew20 hq21 kI14
          have k37 := wd_at.ad ew20 hq21 kI15
          have k38 := wd_at.ad ew20 hq21 kI16
          have k39 := wd_at.ad ew20 hq21 kI17
          have k40 := wd_at.ad ew20 hq21 kI18
          have k41 := wd_at.ad ew20 hq21 kI19
          have k42 := wd_at.ad ew20 hq21 kI20
          have k43 := wd_at.ad ew20 hq21 kI21
          have k44 := wd_at.ad ew20 hq21 kI22
          have k45 := wd_at.ad ew20 hq21 kI23
          have k46 := wd_at.ad ew20 hq21 kI24
          have k47 := wd_at.ad ew20 hq21 kI25
          have k48 := wd_at.ad ew20 hq21 kI26
          have k49 := wd_at.ad ew20 hq21 k10
          have k50 : wd_at w19 q18 (.inr (6, [.int 0, .int 0, .null])) := wd_at.nw ew20
          have fm51 : ∀ i9, i9 < 12 → tf i9 = some (tn i9) ∧ wd_at w19 (tn i9) (.inr (8, [.int (co i9), .int (ra i9), .int (se i9), .ref (ag i9)])) ∧ tg (tn i9) = 100 + i9 := fun i9 hi9 => ⟨(hT9 i9 hi9).1, wd_at.ad ew20 hq21 (hT9 i9 hi9).2.1, (hT9 i9 hi9).2.2⟩
          have fn52 : ∀ i9, i9 < 12 → (tn i9) ≠ q18 := fun i9 hi9 => wd_nL hq21 (hT9 i9 hi9).2.1
          have fm53 : ∀ k9, k9 < 13 → (aOK (cf k9) (nf k9) ∧ ru k9 ≤ 12) ∧ wd_at w19 (aa k9) (.inr (1, [.ref (ga0 k9), .ref (ga1 k9), .ref (ga2 k9), .ref (ga3 k9), .ref (ga4 k9), .int (nI (ru k9))])) ∧ tg (aa k9) = 200 + k9 ∧ wd_at w19 (ga0 k9) (.inl (cy 2, 12, .inl (df k9))) ∧ tg (ga0 k9) = 220 + k9 ∧ wd_at w19 (ga1 k9) (.inl (cy 2, 12, .inl (cf k9))) ∧ tg (ga1 k9) = 240 + k9 ∧ wd_at w19 (ga2 k9) (.inl (cy 2, 72, .inl (nf k9))) ∧ tg (ga2 k9) = 260 + k9 ∧ wd_at w19 (ga3 k9) (.inl (cy 1, 72, .inl (sf k9))) ∧ tg (ga3 k9) = 280 + k9 ∧ wd_at w19 (ga4 k9) (.inl (cy 2, 72, .inl (uf k9))) ∧ tg (ga4 k9) = 300 + k9 := fun k9 hi9 => ⟨(hG9 k9 hi9).1, wd_at.ad ew20 hq21 (hG9 k9 hi9).2.1, (hG9 k9 hi9).2.2.1, wd_at.ad ew20 hq21 (hG9 k9 hi9).2.2.2.1, (hG9 k9 hi9).2.2.2.2.1, wd_at.ad ew20 hq21 (hG9 k9 hi9).2.2.2.2.2.1, (hG9 k9 hi9).2.2.2.2.2.2.1, wd_at.ad ew20 hq21 (hG9 k9 hi9).2.2.2.2.2.2.2.1, (hG9 k9 hi9).2.2.2.2.2.2.2.2.1, wd_at.ad ew20 hq21 (hG9 k9 hi9).2.2.2.2.2.2.2.2.2.1, (hG9 k9 hi9).2.2.2.2.2.2.2.2.2.2.1, wd_at.ad ew20 hq21 (hG9 k9 hi9).2.2.2.2.2.2.2.2.2.2.2.1, (hG9 k9 hi9).2.2.2.2.2.2.2.2.2.2.2.2⟩
          have fn54 : ∀ k9, k9 < 13 → (aa k9) ≠ q18 ∧ (ga0 k9) ≠ q18 ∧ (ga1 k9) ≠ q18 ∧ (ga2 k9) ≠ q18 ∧ (ga3 k9) ≠ q18 ∧ (ga4 k9) ≠ q18 := fun k9 hi9 => ⟨wd_nL hq21 (hG9 k9 hi9).2.1, wd_nL hq21 (hG9 k9 hi9).2.2.2.1, wd_nL hq21 (hG9 k9 hi9).2.2.2.2.2.1, wd_nL hq21 (hG9 k9 hi9).2.2.2.2.2.2.2.1, wd_nL hq21 (hG9 k9 hi9).2.2.2.2.2.2.2.2.2.1, wd_nL hq21 (hG9 k9 hi9).2.2.2.2.2.2.2.2.2.2.2.1⟩
          have fm55 : ∀ k9, k9 < pc → pf k9 = some (pa k9) ∧ wd_at w19 (pa k9) (.inr (3, [.int (plv k9), .int (pwo k9), .int (phd k9), .int (pgd k9), .int (pdy k9), .int (pno k9), .int (ptp k9)])) ∧ tg (pa k9) = 3000 + k9 := fun k9 hi9 => ⟨(hP9 k9 hi9).1, wd_at.ad ew20 hq21 (hP9 k9 hi9).2.1, (hP9 k9 hi9).2.2⟩
          have fn56 : ∀ k9, k9 < pc → (pa k9) ≠ q18 := fun k9 hi9 => wd_nL hq21 (hP9 k9 hi9).2.1
          have fm57 : ∀ k9, k9 < ac → af k9 = some (ad k9) ∧ wd_at w19 (ad k9) (.inr (0, [.int (av0 k9), .int (av1 k9), .int (av2 k9), .int (av3 k9)])) ∧ tg (ad k9) = 4000 + k9 := fun k9 hi9 => ⟨(hA9 k9 hi9).1, wd_at.ad ew20 hq21 (hA9 k9 hi9).2.1, (hA9 k9 hi9).2.2⟩
          have fn58 : ∀ k9, k9 < ac → (ad k9) ≠ q18 := fun k9 hi9 => wd_nL hq21 (hA9 k9 hi9).2.1
          have fm59 : ∀ k9, k9 < sc → zf k9 = some (so k9) ∧ wd_at w19 (so k9) (.inr (6, [.int (sp0 k9), .int (sp1 k9), .ref (sr k9)])) ∧ tg (so k9) = 5000 + k9 ∧ wd_at w19 (sr k9) (.inl (cy 2, 12, .inl (sd k9))) ∧ tg (sr k9) = 6000 + k9 := fun k9 hi9 => ⟨(hS9 k9 hi9).1, wd_at.ad ew20 hq21 (hS9 k9 hi9).2.1, (hS9 k9 hi9).2.2.1, wd_at.ad ew20 hq21 (hS9 k9 hi9).2.2.2.1, (hS9 k9 hi9).2.2.2.2⟩
          have fn60 : ∀ k9, k9 < sc → (so k9) ≠ q18 ∧ (sr k9) ≠ q18 := fun k9 hi9 => ⟨wd_nL hq21 (hS9 k9 hi9).2.1, wd_nL hq21 (hS9 k9 hi9).2.2.2.1⟩
          have fm61 : ∀ k9, k9 < sh → (hf k9 = some (sw k9) ∧ hto k9 < 12) ∧ wd_at w19 (sw k9) (.inr (5, [.int (nI (hto k9)), .int (hpp k9), .int (hle k9), .int (ham k9), .int (hhh k9), .int (hdd k9), .int (hru k9), .int (hde k9), .int (hcp k9), .int (hld k9)])) ∧ tg (sw k9) = 7000 + k9 := fun k9 hi9 => ⟨(hH9 k9 hi9).1, wd_at.ad ew20 hq21 (hH9 k9 hi9).2.1, (hH9 k9 hi9).2.2⟩
          have fn62 : ∀ k9, k9 < sh → (sw k9) ≠ q18 := fun k9 hi9 => wd_nL hq21 (hH9 k9 hi9).2.1
          have kp63 := kp0.add ew20 hq21
          refine lv_dup hx hb dX10_stop_57 rfl ?_
          refine lv_iload_n hx hb dX10_stop_58 rfl (lv_at hl 2 rfl) ?_
          refine lv_iload_n hx hb dX10_stop_59 rfl (lv_at hl 3 rfl) ?_
          refine lv_aload_n hx hb dX10_stop_60 rfl (lv_at hl 1 rfl) ?_
          refine x_get (ref := "NoteHouse") F hP k22 rfl (fun _ h => List.mem_cons_of_mem _ (List.mem_append_left _ (List.mem_append_left _ (List.mem_append_left _ (List.mem_append_right _ (h)))))) 0 (Nat.le_of_ble_eq_true rfl) (List.mem_cons_of_mem _ (List.mem_append_left _ (List.mem_append_left _ (List.mem_append_left _ (List.mem_append_left _ (List.mem_append_left _ (List.mem_of_getElem? (i := 5) rfl))))))) rfl rfl dX10_stop_61 ?_
          refine lv_iload_n hx hb dX10_stop_64 rfl (lv_at hl 4 rfl) ?_
          refine x_callV (n := 1) (As := [.int (nI t)]) (rest := [.int x2, .int x1, .ref q18, .ref q18, .int (nI sc), .ref a4]) F hP hD hS (g_newsDays l D cy sk sv w19 a0 b0 b1 b2 b3 (nI t) f0 f1 f2 f3 k23 k24 k25 k26 k27 (fun b => b = b2 ∨ b = b3) (Or.inl rfl) (Or.inr rfl) (tg_ne tI4 tI5 (by decide))) gX10_stop_X9_newsDays rfl rfl (by decide +kernel) ⟨(Nat.le_of_ble_eq_true rfl), (Nat.le_of_ble_eq_true rfl)⟩ rfl hl.1 (Nat.le_of_ble_eq_true rfl) k23 rfl dX10_stop_65 rfl ⟨(Nat.le_of_ble_eq_true rfl), (Nat.le_of_ble_eq_true rfl)⟩ (fun v65 w66 hp64 H locs hP hD hS => ?_)
          obtain ⟨dx67, px68, rfl, kq71, k69, k70⟩ := hp64
          have k72 := kq71.2 _ _ k22 (orN (tg_ne tI0 tI4 (by decide)) (tg_ne tI0 tI5 (by decide)))
          have k73 := kq71.2 _ _ k23 (orN (tg_ne tI1 tI4 (by decide)) (tg_ne tI1 tI5 (by decide)))
          have k74 := kq71.2 _ _ k24 (orN (tg_ne tI2 tI4 (by decide)) (tg_ne tI2 tI5 (by decide)))
          have k75 := kq71.2 _ _ k25 (orN (tg_ne tI3 tI4 (by decide)) (tg_ne tI3 tI5 (by decide)))
          have k76 := kq71.2 _ _ k28 (orN (tg_ne tI6 tI4 (by decide)) (tg_ne tI6 tI5 (by decide)))
          have k77 := kq71.2 _ _ k29 (orN (tg_ne tI7 tI4 (by decide)) (tg_ne tI7 tI5 (by decide)))
          have k78 := kq71.2 _ _ k30 (orN (tg_ne tI8 tI4 (by decide)) (tg_ne tI8 tI5 (by decide)))
          have k79 := kq71.2 _ _ k31 (orN (tg_ne tI9 tI4 (by decide)) (tg_ne tI9 tI5 (by decide)))
          have k80 := kq71.2 _ _ k32 (orN (tg_ne tI10 tI4 (by decide)) (tg_ne tI10 tI5 (by decide)))
          have k81 := kq71.2 _ _ k33 (orN (tg_ne tI11 tI4 (by decide)) (tg_ne tI11 tI5 (by decide)))
          have k82 := kq71.2 _ _ k34 (orN (tg_ne tI12 tI4 (by decide)) (tg_ne tI12 tI5 (by decide)))
          have k83 := kq71.2 _ _ k35 (orN (tg_ne tI13 tI4 (by decide)) (tg_ne tI13 tI5 (by decide)))
          have k84 := kq71.2 _ _ k36 (orN (tg_ne tI14 tI4 (by decide)) (tg_ne tI14 tI5 (by decide)))
          have k85 := kq71.2 _ _ k37 (orN (tg_ne tI15 tI4 (by decide)) (tg_ne tI15 tI5 (by decide)))
          have k86 := kq71.2 _ _ k38 (orN (tg_ne tI16 tI4 (by decide)) (tg_ne tI16 tI5 (by decide)))
          have k87 := kq71.2 _ _ k39 (orN (tg_ne tI17 tI4 (by decide)) (tg_ne tI17 tI5 (by decide)))
          have k88 := kq71.2 _ _ k40 (orN (tg_ne tI18 tI4 (by decide)) (tg_ne tI18 tI5 (by decide)))
          have k89 := kq71.2 _ _ k41 (orN (tg_ne tI19 tI4 (by decide)) (tg_ne tI19 tI5 (by decide)))
          have k90 := kq71.2 _ _ k42 (orN (tg_ne tI20 tI4 (by decide)) (tg_ne tI20 tI5 (by decide)))
          have k91 := kq71.2 _ _ k43 (orN (tg_ne tI21 tI4 (by decide)) (tg_ne tI21 tI5 (by decide)))
          have k92 := kq71.2 _ _ k44 (orN (tg_ne tI22 tI4 (by decide)) (tg_ne tI22 tI5 (by decide)))
          have k93 := kq71.2 _ _ k45 (orN (tg_ne tI23 tI4 (tnA (show 4 < 30 by decide))) (tg_ne tI23 tI5 (tnA (show 5 < 30 by decide))))
          have k94 := kq71.2 _ _ k46 (orN (tg_ne tI24 tI4 (tnA (show 4 < 32 by decide))) (tg_ne tI24 tI5 (tnA (show 5 < 32 by decide))))
          have k95 := kq71.2 _ _ k47 (orN (tg_ne tI25 tI4 (tnA (show 4 < 30 by decide))) (tg_ne tI25 tI5 (tnA (show 5 < 30 by decide))))
          have k96 := kq71.2 _ _ k48 (orN (tg_ne tI26 tI4 (tnA (show 4 < 32 by decide))) (tg_ne tI26 tI5 (tnA (show 5 < 32 by decide))))
          have k97 := kq71.2 _ _ k49 (orN (tg_ne tz11 tI4 (tnA (show 4 < 3000 by decide))) (tg_ne tz11 tI5 (tnA (show 5 < 3000 by decide))))
          have k98 := kq71.2 _ _ k50 (orN (Ne.symm (wd_nL hq21 kI4)) (Ne.symm (wd_nL hq21 kI5)))
          have fm99 : ∀ i9, i9 < 12 → tf i9 = some (tn i9) ∧ wd_at w66 (tn i9) (.inr (8, [.int (co i9), .int (ra i9), .int (se i9), .ref (ag i9)])) ∧ tg (tn i9) = 100 + i9 := fun i9 hi9 => ⟨(fm51 i9 hi9).1, kq71.2 _ _ (fm51 i9 hi9).2.1 (orN (tg_ne (fm51 i9 hi9).2.2 tI4 (tnA (show 4 < 100 by decide))) (tg_ne (fm51 i9 hi9).2.2 tI5 (tnA (show 5 < 100 by decide)))), (fm51 i9 hi9).2.2⟩
          have fm100 : ∀ k9, k9 < 13 → (aOK (cf k9) (nf k9) ∧ ru k9 ≤ 12) ∧ wd_at w66 (aa k9) (.inr (1, [.ref (ga0 k9), .ref (ga1 k9), .ref (ga2 k9), .ref (ga3 k9), .ref (ga4 k9), .int (nI (ru k9))])) ∧ tg (aa k9) = 200 + k9 ∧ wd_at w66 (ga0 k9) (.inl (cy 2, 12, .inl (df k9))) ∧ tg (ga0 k9) = 220 + k9 ∧ wd_at w66 (ga1 k9) (.inl (cy 2, 12, .inl (cf k9))) ∧ tg (ga1 k9) = 240 + k9 ∧ wd_at w66 (ga2 k9) (.inl (cy 2, 72, .inl (nf k9))) ∧ tg (ga2 k9) = 260 + k9 ∧ wd_at w66 (ga3 k9) (.inl (cy 1, 72, .inl (sf k9))) ∧ tg (ga3 k9) = 280 + k9 ∧ wd_at w66 (ga4 k9) (.inl (cy 2, 72, .inl (uf k9))) ∧ tg (ga4 k9) = 300 + k9 := fun k9 hi9 => ⟨(fm53 k9 hi9).1, kq71.2 _ _ (fm53 k9 hi9).2.1 (orN (tg_ne (fm53 k9 hi9).2.2.1 tI4 (tnA (show 4 < 200 by decide))) (tg_ne (fm53 k9 hi9).2.2.1 tI5 (tnA (show 5 < 200 by decide)))), (fm53 k9 hi9).2.2.1, kq71.2 _ _ (fm53 k9 hi9).2.2.2.1 (orN (tg_ne (fm53 k9 hi9).2.2.2.2.1 tI4 (tnA (show 4 < 220 by decide))) (tg_ne (fm53 k9 hi9).2.2.2.2.1 tI5 (tnA (show 5 < 220 by decide)))), (fm53 k9 hi9).2.2.2.2.1, kq71.2 _ _ (fm53 k9 hi9).2.2.2.2.2.1 (orN (tg_ne (fm53 k9 hi9).2.2.2.2.2.2.1 tI4 (tnA (show 4 < 240 by decide))) (tg_ne (fm53 k9 hi9).2.2.2.2.2.2.1 tI5 (tnA (show 5 < 240 by decide)))), (fm53 k9 hi9).2.2.2.2.2.2.1, kq71.2 _ _ (fm53 k9 hi9).2.2.2.2.2.2.2.1 (orN (tg_ne (fm53 k9 hi9).2.2.2.2.2.2.2.2.1 tI4 (tnA (show 4 < 260 by decide))) (tg_ne (fm53 k9 hi9).2.2.2.2.2.2.2.2.1 tI5 (tnA (show 5 < 260 by decide)))), (fm53 k9 hi9).2.2.2.2.2.2.2.2.1, kq71.2 _ _ (fm53 k9 hi9).2.2.2.2.2.2.2.2.2.1 (orN (tg_ne (fm53 k9 hi9).2.2.2.2.2.2.2.2.2.2.1 tI4 (tnA (show 4 < 280 by decide))) (tg_ne (fm53 k9 hi9).2.2.2.2.2.2.2.2.2.2.1 tI5 (tnA (show 5 < 280 by decide)))), (fm53 k9 hi9).2.2.2.2.2.2.2.2.2.2.1, kq71.2 _ _ (fm53 k9 hi9).2.2.2.2.2.2.2.2.2.2.2.1 (orN (tg_ne (fm53 k9 hi9).2.2.2.2.2.2.2.2.2.2.2.2 tI4 (tnA (show 4 < 300 by decide))) (tg_ne (fm53 k9 hi9).2.2.2.2.2.2.2.2.2.2.2.2 tI5 (tnA (show 5 < 300 by decide)))), (fm53 k9 hi9).2.2.2.2.2.2.2.2.2.2.2.2⟩
          have fm101 : ∀ k9, k9 < pc → pf k9 = some (pa k9) ∧ wd_at w66 (pa k9) (.inr (3, [.int (plv k9), .int (pwo k9), .int (phd k9), .int (pgd k9), .int (pdy k9), .int (pno k9), .int (ptp k9)])) ∧ tg (pa k9) = 3000 + k9 := fun k9 hi9 => ⟨(fm55 k9 hi9).1, kq71.2 _ _ (fm55 k9 hi9).2.1 (orN (tg_ne (fm55 k9 hi9).2.2 tI4 (tnA (show 4 < 3000 by decide))) (tg_ne (fm55 k9 hi9).2.2 tI5 (tnA (show 5 < 3000 by decide)))), (fm55 k9 hi9).2.2⟩
          have fm102 : ∀ k9, k9 < ac → af k9 = some (ad k9) ∧ wd_at w66 (ad k9) (.inr (0, [.int (av0 k9), .int (av1 k9), .int (av2 k9), .int (av3 k9)])) ∧ tg (ad k9) = 4000 + k9 := fun k9 hi9 => ⟨(fm57 k9 hi9).1, kq71.2 _ _ (fm57 k9 hi9).2.1 (orN (tg_ne (fm57 k9 hi9).2.2 tI4 (tnA (show 4 < 4000 by decide))) (tg_ne (fm57 k9 hi9).2.2 tI5 (tnA (show 5 < 4000 by decide)))), (fm57 k9 hi9).2.2⟩
          have fm103 : ∀ k9, k9 < sc → zf k9 = some (so k9) ∧ wd_at w66 (so k9) (.inr (6, [.int (sp0 k9), .int (sp1 k9), .ref (sr k9)])) ∧ tg (so k9) = 5000 + k9 ∧ wd_at w66 (sr k9) (.inl (cy 2, 12, .inl (sd k9))) ∧ tg (sr k9) = 6000 + k9 := fun k9 hi9 => ⟨(fm59 k9 hi9).1, kq71.2 _ _ (fm59 k9 hi9).2.1 (orN (tg_ne (fm59 k9 hi9).2.2.1 tI4 (tnA (show 4 < 5000 by decide))) (tg_ne (fm59 k9 hi9).2.2.1 tI5 (tnA (show 5 < 5000 by decide)))), (fm59 k9 hi9).2.2.1, kq71.2 _ _ (fm59 k9 hi9).2.2.2.1 (orN (tg_ne (fm59 k9 hi9).2.2.2.2 tI4 (tnA (show 4 < 6000 by decide))) (tg_ne (fm59 k9 hi9).2.2.2.2 tI5 (tnA (show 5 < 6000 by decide)))), (fm59 k9 hi9).2.2.2.2⟩
          have fm104 : ∀ k9, k9 < sh → (hf k9 = some (sw k9) ∧ hto k9 < 12) ∧ wd_at w66 (sw k9) (.inr (5, [.int (nI (hto k9)), .int (hpp k9), .int (hle k9), .int (ham k9), .int (hhh k9), .int (hdd k9), .int (hru k9), .int (hde k9), .int (hcp k9), .int (hld k9)])) ∧ tg (sw k9) = 7000 + k9 := fun k9 hi9 => ⟨(fm61 k9 hi9).1, kq71.2 _ _ (fm61 k9 hi9).2.1 (orN (tg_ne (fm61 k9 hi9).2.2 tI4 (tnA (show 4 < 7000 by decide))) (tg_ne (fm61 k9 hi9).2.2 tI5 (tnA (show 5 < 7000 by decide)))), (fm61 k9 hi9).2.2⟩
          have kp105 := kp63.tr kq71 (fun b9 hm q9 => (fun q9 => Or.elim q9 (fun q9 => q9 ▸ (tgS tI4 (by decide))) (fun q9 => q9 ▸ (tgS tI5 (by decide)))) q9)
          refine W.eq (g2 := F0 m 68 ls [.ref b2, .int x2, .int x1, .ref q18, .ref q18, .int (nI sc), .ref a4]) rfl (W.widen (k := 1) (n := 3) (Nat.le_of_ble_eq_true rfl) (Nat.le_of_ble_eq_true rfl) ?_)
          refine lv_aload_n hx hb dX10_stop_68 rfl (lv_at hl 1 rfl) ?_
          refine x_get (ref := "NoteHouse") F hP k72 rfl (fun _ h => List.mem_cons_of_mem _ (List.mem_append_left _ (List.mem_append_left _ (List.mem_append_left _ (List.mem_append_right _ (h)))))) 12 (Nat.le_of_ble_eq_true rfl) (List.mem_cons_of_mem _ (List.mem_append_left _ (List.mem_append_left _ (List.mem_append_left _ (List.mem_append_left _ (List.mem_append_left _ (List.mem_of_getElem? (i := 6) rfl))))))) rfl rfl dX10_stop_69 ?_
          refine x_callI (ret := none) (n := 4) (As := [.int x1, .int x2, .ref b2, .int td]) (rest := [.ref q18, .int (nI sc), .ref a4]) F hP hD hS (g_stop_init l D cy sk sv w66 q18 b2 x1 x2 td dx67 k98 k69 (fun b => b = q18) rfl) gX10_stop_X6_init rfl (List.mem_cons_of_mem _ (List.mem_append_left _ (List.mem_append_left _ (List.mem_append_left _ (List.mem_append_left _ (List.mem_append_left _ (List.mem_of_getElem? (i := 4) rfl))))))) (List.mem_cons_of_mem _ (List.mem_append_left _ (List.mem_append_left _ (List.mem_append_left _ (List.mem_append_left _ (List.mem_append_right _ (List.mem_append_right _ (List.mem_of_getElem? (i := 4) rfl)))))))) (List.mem_cons_of_mem _ (List.mem_append_left _ (List.mem_append_left _ (List.mem_append_left _ (List.mem_append_left _ (List.mem_append_right _ (List.mem_append_right _ (List.mem_of_getElem? (i := 5) rfl)))))))) rfl (by decide +kernel) ⟨(Nat.le_of_ble_eq_true rfl), (Nat.le_of_ble_eq_true rfl)⟩ rfl hl.1 (Nat.le_of_ble_eq_true rfl) dX10_stop_72 rfl ⟨(Nat.le_of_ble_eq_true rfl), (Nat.le_of_ble_eq_true rfl)⟩ (fun v107 w108 hp106 H locs hP hD hS => ?_)
          obtain ⟨arx109, sdx110, rfl, kq112, k111, hq113, k114⟩ := hp106
          have fn115 : ∀ i9, i9 < 12 → (tn i9) ≠ arx109 := fun i9 hi9 => wd_nL hq113 (fm99 i9 hi9).2.1
          have fn116 : ∀ k9, k9 < 13 → (aa k9) ≠ arx109 ∧ (ga0 k9) ≠ arx109 ∧ (ga1 k9) ≠ arx109 ∧ (ga2 k9) ≠ arx109 ∧ (ga3 k9) ≠ arx109 ∧ (ga4 k9) ≠ arx109 := fun k9 hi9 => ⟨wd_nL hq113 (fm100 k9 hi9).2.1, wd_nL hq113 (fm100 k9 hi9).2.2.2.1, wd_nL hq113 (fm100 k9 hi9).2.2.2.2.2.1, wd_nL hq113 (fm100 k9 hi9).2.2.2.2.2.2.2.1, wd_nL hq113 (fm100 k9 hi9).2.2.2.2.2.2.2.2.2.1, wd_nL hq113 (fm100 k9 hi9).2.2.2.2.2.2.2.2.2.2.2.1⟩
          have fn117 : ∀ k9, k9 < pc → (pa k9) ≠ arx109 := fun k9 hi9 => wd_nL hq113 (fm101 k9 hi9).2.1
          have fn118 : ∀ k9, k9 < ac → (ad k9) ≠ arx109 := fun k9 hi9 => wd_nL hq113 (fm102 k9 hi9).2.1
          have fn119 : ∀ k9, k9 < sc → (so k9) ≠ arx109 ∧ (sr k9) ≠ arx109 := fun k9 hi9 => ⟨wd_nL hq113 (fm103 k9 hi9).2.1, wd_nL hq113 (fm103 k9 hi9).2.2.2.1⟩
          have fn120 : ∀ k9, k9 < sh → (sw k9) ≠ arx109 := fun k9 hi9 => wd_nL hq113 (fm104 k9 hi9).2.1
          have k121 := kq112.2 _ _ k72 (wd_nL hq21 kI0)
          have k122 := kq112.2 _ _ k73 (wd_nL hq21 kI1)
          have k123 := kq112.2 _ _ k74 (wd_nL hq21 kI2)
          have k124 := kq112.2 _ _ k75 (wd_nL hq21 kI3)
          have k125 := kq112.2 _ _ k69 (wd_nL hq21 kI4)
          have k126 := kq112.2 _ _ k70 (wd_nL hq21 kI5)
          have k127 := kq112.2 _ _ k76 (wd_nL hq21 kI6)
          have k128 := kq112.2 _ _ k77 (wd_nL hq21 kI7)
          have k129 := kq112.2 _ _ k78 (wd_nL hq21 kI8)
          have k130 := kq112.2 _ _ k79 (wd_nL hq21 kI9)
          have k131 := kq112.2 _ _ k80 (wd_nL hq21 kI10)
          have k132 := kq112.2 _ _ k81 (wd_nL hq21 kI11)
          have k133 := kq112.2 _ _ k82 (wd_nL hq21 kI12)
          have k134 := kq112.2 _ _ k83 (wd_nL hq21 kI13)
          have k135 := kq112.2 _ _ k84 (wd_nL hq21 kI14)
          have k136 := kq112.2 _ _ k85 (wd_nL hq21 kI15)
          have k137 := kq112.2 _ _ k86 (wd_nL hq21 kI16)
          have k138 := kq112.2 _ _ k87 (wd_nL hq21 kI17)
          have k139 := kq112.2 _ _ k88 (wd_nL hq21 kI18)
          have k140 := kq112.2 _ _ k89 (wd_nL hq21 kI19)
          have k141 := kq112.2 _ _ k90 (wd_nL hq21 kI20)
          have k142 := kq112.2 _ _ k91 (wd_nL hq21 kI21)
          have k143 := kq112.2 _ _ k92 (wd_nL hq21 kI22)
          have k144 := kq112.2 _ _ k93 (wd_nL hq21 kI23)
          have k145 := kq112.2 _ _ k94 (wd_nL hq21 kI24)
          have k146 := kq112.2 _ _ k95 (wd_nL hq21 kI25)
          have k147 := kq112.2 _ _ k96 (wd_nL hq21 kI26)
          have k148 := kq112.2 _ _ k97 (wd_nL hq21 k10)
          have fm149 : ∀ i9, i9 < 12 → tf i9 = some (tn i9) ∧ wd_at w108 (tn i9) (.inr (8, [.int (co i9), .int (ra i9), .int (se i9), .ref (ag i9)])) ∧ tg (tn i9) = 100 + i9 := fun i9 hi9 => ⟨(fm99 i9 hi9).1, kq112.2 _ _ (fm99 i9 hi9).2.1 (fn52 i9 hi9), (fm99 i9 hi9).2.2⟩
          have fm150 : ∀ k9, k9 < 13 → (aOK (cf k9) (nf k9) ∧ ru k9 ≤ 12) ∧ wd_at w108 (aa k9) (.inr (1, [.ref (ga0 k9), .ref (ga1 k9), .ref (ga2 k9), .ref (ga3 k9), .ref (ga4 k9), .int (nI (ru k9))])) ∧ tg (aa k9) = 200 + k9 ∧ wd_at w108 (ga0 k9) (.inl (cy 2, 12, .inl (df k9))) ∧ tg (ga0 k9) = 220 + k9 ∧ wd_at w108 (ga1 k9) (.inl (cy 2, 12, .inl (cf k9))) ∧ tg (ga1 k9) = 240 + k9 ∧ wd_at w108 (ga2 k9) (.inl (cy 2, 72, .inl (nf k9))) ∧ tg (ga2 k9) = 260 + k9 ∧ wd_at w108 (ga3 k9) (.inl (cy 1, 72, .inl (sf k9))) ∧ tg (ga3 k9) = 280 + k9 ∧ wd_at w108 (ga4 k9) (.inl (cy 2, 72, .inl (uf k9))) ∧ tg (ga4 k9) = 300 + k9 := fun k9 hi9 => ⟨(fm100 k9 hi9).1, kq112.2 _ _ (fm100 k9 hi9).2.1 ((fn54 k9 hi9).1), (fm100 k9 hi9).2.2.1, kq112.2 _ _ (fm100 k9 hi9).2.2.2.1 ((fn54 k9 hi9).2.1), (fm100 k9 hi9).2.2.2.2.1, kq112.2 _ _ (fm100 k9 hi9).2.2.2.2.2.1 ((fn54 k9 hi9).2.2.1), (fm100 k9 hi9).2.2.2.2.2.2.1, kq112.2 _ _ (fm100 k9 hi9).2.2.2.2.2.2.2.1 ((fn54 k9 hi9).2.2.2.1), (fm100 k9 hi9).2.2.2.2.2.2.2.2.1, kq112.2 _ _ (fm100 k9 hi9).2.2.2.2.2.2.2.2.2.1 ((fn54 k9 hi9).2.2.2.2.1), (fm100 k9 hi9).2.2.2.2.2.2.2.2.2.2.1, kq112.2 _ _ (fm100 k9 hi9).2.2.2.2.2.2.2.2.2.2.2.1 ((fn54 k9 hi9).2.2.2.2.2), (fm100 k9 hi9).2.2.2.2.2.2.2.2.2.2.2.2⟩
          have fm151 : ∀ k9, k9 < pc → pf k9 = some (pa k9) ∧ wd_at w108 (pa k9) (.inr (3, [.int (plv k9), .int (pwo k9), .int (phd k9), .int (pgd k9), .int (pdy k9), .int (pno k9), .int (ptp k9)])) ∧ tg (pa k9) = 3000 + k9 := fun k9 hi9 => ⟨(fm101 k9 hi9).1, kq112.2 _ _ (fm101 k9 hi9).2.1 (fn56 k9 hi9), (fm101 k9 hi9).2.2⟩
          have fm152 : ∀ k9, k9 < ac → af k9 = some (ad k9) ∧ wd_at w108 (ad k9) (.inr (0, [.int (av0 k9), .int (av1 k9), .int (av2 k9), .int (av3 k9)])) ∧ tg (ad k9) = 4000 + k9 := fun k9 hi9 => ⟨(fm102 k9 hi9).1, kq112.2 _ _ (fm102 k9 hi9).2.1 (fn58 k9 hi9), (fm102 k9 hi9).2.2⟩
          have fm153 : ∀ k9, k9 < sc → zf k9 = some (so k9) ∧ wd_at w108 (so k9) (.inr (6, [.int (sp0 k9), .int (sp1 k9), .ref (sr k9)])) ∧ tg (so k9) = 5000 + k9 ∧ wd_at w108 (sr k9) (.inl (cy 2, 12, .inl (sd k9))) ∧ tg (sr k9) = 6000 + k9 := fun k9 hi9 => ⟨(fm103 k9 hi9).1, kq112.2 _ _ (fm103 k9 hi9).2.1 ((fn60 k9 hi9).1), (fm103 k9 hi9).2.2.1, kq112.2 _ _ (fm103 k9 hi9).2.2.2.1 ((fn60 k9 hi9).2), (fm103 k9 hi9).2.2.2.2⟩
          have fm154 : ∀ k9, k9 < sh → (hf k9 = some (sw k9) ∧ hto k9 < 12) ∧ wd_at w108 (sw k9) (.inr (5, [.int (nI (hto k9)), .int (hpp k9), .int (hle k9), .int (ham k9), .int (hhh k9), .int (hdd k9), .int (hru k9), .int (hde k9), .int (hcp k9), .int (hld k9)])) ∧ tg (sw k9) = 7000 + k9 := fun k9 hi9 => ⟨(fm104 k9 hi9).1, kq112.2 _ _ (fm104 k9 hi9).2.1 (fn62 k9 hi9), (fm104 k9 hi9).2.2⟩
          have kp155 := kp105.tr kq112 (fun b9 hm q9 => (fun q9 => absurd (q9 ▸ hm) (kp0.out hq21)) q9)
          refine W.eq (g2 := F0 m 75 ls [.ref q18, .int (nI sc), .ref a4]) rfl (W.widen (k := 2) (n := 15) (Nat.le_of_ble_eq_true rfl) (Nat.le_of_ble_eq_true rfl) ?_)
          refine y_aast F hP hD hS k130 rfl k111 rfl (vp_in_nI (n := sc) (N := 60) (by omega) (by decide)) dX10_stop_75 (fun w156 ew157 H locs hP hD hS => ?_)
          have k158 := wd_at.pt ew157 k121 (tg_ne tI0 tI9 (by decide))
          have k159 := wd_at.pt ew157 k122 (tg_ne tI1 tI9 (by decide))
          have k160 := wd_at.pt ew157 k123 (tg_ne tI2 tI9 (by decide))
          have k161 := wd_at.pt ew157 k124 (tg_ne tI3 tI9 (by decide))
          have k162 := wd_at.pt ew157 k125 (tg_ne tI4 tI9 (by decide))
          have k163 := wd_at.pt ew157 k126 (tg_ne tI5 tI9 (by decide))
          have k164 := wd_at.pt ew157 k127 (tg_ne tI6 tI9 (by decide))
          have k165 := wd_at.pt ew157 k128 (tg_ne tI7 tI9 (by decide))
          have k166 := wd_at.pt ew157 k129 (tg_ne tI8 tI9 (by decide))
          have k167 : wd_at w156 a4 (.inl (cy 8, 60, .inr (.inr (.inr (.inr (va_up zf (nI sc).toNatClampNeg (some q18))))))) := wd_at.ps ew157 k130
          have k168 := wd_at.pt ew157 k131 (tg_ne tI10 tI9 (by decide))
          have k169 := wd_at.pt ew157 k132 (tg_ne tI11 tI9 (by decide))
          have k170 := wd_at.pt ew157 k133 (tg_ne tI12 tI9 (by decide))
          have k171 := wd_at.pt ew157 k134 (tg_ne tI13 tI9 (by decide))
          have k172 := wd_at.pt ew157 k135 (tg_ne tI14 tI9 (by decide))
          have k173 := wd_at.pt ew157 k136 (tg_ne tI15 tI9 (by decide))
          have k174 := wd_at.pt ew157 k137 (tg_ne tI16 tI9 (by decide))
          have k175 := wd_at.pt ew157 k138 (tg_ne tI17 tI9 (by decide))
          have k176 := wd_at.pt ew157 k139 (tg_ne tI18 tI9 (by decide))
          have k177 := wd_at.pt ew157 k140 (tg_ne tI19 tI9 (by decide))
          have k178 := wd_at.pt ew157 k141 (tg_ne tI20 tI9 (by decide))
          have k179 := wd_at.pt ew157 k142 (tg_ne tI21 tI9 (by decide))
          have k180 := wd_at.pt ew157 k143 (tg_ne tI22 tI9 (by decide))
          have k181 := wd_at.pt ew157 k144 (tg_ne tI23 tI9 (tnA (show 9 < 30 by decide)))
          have k182 := wd_at.pt ew157 k145 (tg_ne tI24 tI9 (tnA (show 9 < 32 by decide)))
          have k183 := wd_at.pt ew157 k146 (tg_ne tI25 tI9 (tnA (show 9 < 30 by decide)))
          have k184 := wd_at.pt ew157 k147 (tg_ne tI26 tI9 (tnA (show 9 < 32 by decide)))
          have k185 := wd_at.pt ew157 k148 (tg_ne tz11 tI9 (tnA (show 9 < 3000 by decide)))
          have k186 := wd_at.pt ew157 k111 (Ne.symm (wd_nL hq21 kI9))
          have k187 := wd_at.pt ew157 k114 (Ne.symm (wd_nL hq113 k79))
          have fm188 : ∀ i9, i9 < 12 → tf i9 = some (tn i9) ∧ wd_at w156 (tn i9) (.inr (8, [.int (co i9), .int (ra i9), .int (se i9), .ref (ag i9)])) ∧ tg (tn i9) = 100 + i9 := fun i9 hi9 => ⟨(fm149 i9 hi9).1, wd_at.pt ew157 (fm149 i9 hi9).2.1 (tg_ne (fm149 i9 hi9).2.2 tI9 (tnA (show 9 < 100 by decide))), (fm149 i9 hi9).2.2⟩
          have fm189 : ∀ k9, k9 < 13 → (aOK (cf k9) (nf k9) ∧ ru k9 ≤ 12) ∧ wd_at w156 (aa k9) (.inr (1, [.ref (ga0 k9), .ref (ga1 k9), .ref (ga2 k9), .ref (ga3 k9), .ref (ga4 k9), .int (nI (ru k9))])) ∧ tg (aa k9) = 200 + k9 ∧ wd_at w156 (ga0 k9) (.inl (cy 2, 12, .inl (df k9))) ∧ tg (ga0 k9) = 220 + k9 ∧ wd_at w156 (ga1 k9) (.inl (cy 2, 12, .inl (cf k9))) ∧ tg (ga1 k9) = 240 + k9 ∧ wd_at w156 (ga2 k9) (.inl (cy 2, 72, .inl (nf k9))) ∧ tg (ga2 k9) = 260 + k9 ∧ wd_at w156 (ga3 k9) (.inl (cy 1, 72, .inl (sf k9))) ∧ tg (ga3 k9) = 280 + k9 ∧ wd_at w156 (ga4 k9) (.inl (cy 2, 72, .inl (uf k9))) ∧ tg (ga4 k9) = 300 + k9 := fun k9 hi9 => ⟨(fm150 k9 hi9).1, wd_at.pt ew157 (fm150 k9 hi9).2.1 (tg_ne (fm150 k9 hi9).2.2.1 tI9 (tnA (show 9 < 200 by decide))), (fm150 k9 hi9).2.2.1, wd_at.pt ew157 (fm150 k9 hi9).2.2.2.1 (tg_ne (fm150 k9 hi9).2.2.2.2.1 tI9 (tnA (show 9 < 220 by decide))), (fm150 k9 hi9).2.2.2.2.1, wd_at.pt ew157 (fm150 k9 hi9).2.2.2.2.2.1 (tg_ne (fm150 k9 hi9).2.2.2.2.2.2.1 tI9 (tnA (show 9 < 240 by decide))), (fm150 k9 hi9).2.2.2.2.2.2.1, wd_at.pt ew157 (fm150 k9 hi9).2.2.2.2.2.2.2.1 (tg_ne (fm150 k9 hi9).2.2.2.2.2.2.2.2.1 tI9 (tnA (show 9 < 260 by decide))), (fm150 k9 hi9).2.2.2.2.2.2.2.2.1, wd_at.pt ew157 (fm150 k9 hi9).2.2.2.2.2.2.2.2.2.1 (tg_ne (fm150 k9 hi9).2.2.2.2.2.2.2.2.2.2.1 tI9 (tnA (show 9 < 280 by decide))), (fm150 k9 hi9).2.2.2.2.2.2.2.2.2.2.1, wd_at.pt ew157 (fm150 k9 hi9).2.2.2.2.2.2.2.2.2.2.2.1 (tg_ne (fm150 k9 hi9).2.2.2.2.2.2.2.2.2.2.2.2 tI9 (tnA (show 9 < 300 by decide))), (fm150 k9 hi9).2.2.2.2.2.2.2.2.2.2.2.2⟩
          have fm190 : ∀ k9, k9 < pc → pf k9 = some (pa k9) ∧ wd_at w156 (pa k9) (.inr (3, [.int (plv k9), .int (pwo k9), .int (phd k9), .int (pgd k9), .int (pdy k9), .int (pno k9), .int (ptp k9)])) ∧ tg (pa k9) = 3000 + k9 := fun k9 hi9 => ⟨(fm151 k9 hi9).1, wd_at.pt ew157 (fm151 k9 hi9).2.1 (tg_ne (fm151 k9 hi9).2.2 tI9 (tnA (show 9 < 3000 by decide))), (fm151 k9 hi9).2.2⟩
          have fm191 : ∀ k9, k9 < ac → af k9 = some (ad k9) ∧ wd_at w156 (ad k9) (.inr (0, [.int (av0 k9), .int (av1 k9), .int (av2 k9), .int (av3 k9)])) ∧ tg (ad k9) = 4000 + k9 := fun k9 hi9 => ⟨(fm152 k9 hi9).1, wd_at.pt ew157 (fm152 k9 hi9).2.1 (tg_ne (fm152 k9 hi9).2.2 tI9 (tnA (show 9 < 4000 by decide))), (fm152 k9 hi9).2.2⟩
          have fm192 : ∀ k9, k9 < sc → zf k9 = some (so k9) ∧ wd_at w156 (so k9) (.inr (6, [.int (sp0 k9), .int (sp1 k9), .ref (sr k9)])) ∧ tg (so k9) = 5000 + k9 ∧ wd_at w156 (sr k9) (.inl (cy 2, 12, .inl (sd k9))) ∧ tg (sr k9) = 6000 + k9 := fun k9 hi9 => ⟨(fm153 k9 hi9).1, wd_at.pt ew157 (fm153 k9 hi9).2.1 (tg_ne (fm153 k9 hi9).2.2.1 tI9 (tnA (show 9 < 5000 by decide))), (fm153 k9 hi9).2.2.1, wd_at.pt ew157 (fm153 k9 hi9).2.2.2.1 (tg_ne (fm153 k9 hi9).2.2.2.2 tI9 (tnA (show 9 < 6000 by decide))), (fm153 k9 hi9).2.2.2.2⟩
          have fm193 : ∀ k9, k9 < sh → (hf k9 = some (sw k9) ∧ hto k9 < 12) ∧ wd_at w156 (sw k9) (.inr (5, [.int (nI (hto k9)), .int (hpp k9), .int (hle k9), .int (ham k9), .int (hhh k9), .int (hdd k9), .int (hru k9), .int (hde k9), .int (hcp k9), .int (hld k9)])) ∧ tg (sw k9) = 7000 + k9 := fun k9 hi9 => ⟨(fm154 k9 hi9).1, wd_at.pt ew157 (fm154 k9 hi9).2.1 (tg_ne (fm154 k9 hi9).2.2 tI9 (tnA (show 9 < 7000 by decide))), (fm154 k9 hi9).2.2⟩
          have kp194 := kp155.put ew157 (tgS tI9 (by decide))
          refine lv_aload_n hx hb dX10_stop_76 rfl (lv_at hl 1 rfl) ?_
          refine lv_dup hx hb dX10_stop_77 rfl ?_
          refine x_get (ref := "NoteHouse") F hP k158 rfl (fun _ h => List.mem_cons_of_mem _ (List.mem_append_left _ (List.mem_append_left _ (List.mem_append_left _ (List.mem_append_right _ (h)))))) 15 (Nat.le_of_ble_eq_true rfl) (List.mem_cons_of_mem _ (List.mem_append_left _ (List.mem_append_left _ (List.mem_append_left _ (List.mem_append_left _ (List.mem_append_left _ (List.mem_of_getElem? (i := 0) rfl))))))) rfl rfl dX10_stop_78 ?_
          refine lv_iconst (v := 1) hx hb dX10_stop_81 (by decide) ?_
          refine lv_iadd hx hb dX10_stop_82 ?_
          rw [show ((nI sc) + 1 : Int32) = nI (sc + 1) from nI_add sc 1]
          refine y_put (ref := "NoteHouse") F hP hD hS k158 rfl (fun _ h => List.mem_cons_of_mem _ (List.mem_append_left _ (List.mem_append_left _ (List.mem_append_left _ (List.mem_append_right _ (h)))))) tyX10_ok nmX10 15 (Nat.le_of_ble_eq_true rfl) (List.mem_cons_of_mem _ (List.mem_append_left _ (List.mem_append_left _ (List.mem_append_left _ (List.mem_append_left _ (List.mem_append_left _ (List.mem_of_getElem? (i := 0) rfl))))))) rfl rfl rfl rfl (Nat.le_of_ble_eq_true rfl) dX10_stop_83 (fun w195 ew196 H locs hP hD hS => ?_)
          have k197 : wd_at w195 x (.inr (10, [.ref a0, .ref a1, .ref a2, .ref a3, .ref a4, .ref a5, .ref a6, .ref a7, .ref a8, .ref (aa sg), .ref a10, .ref a11, .int td, .int (nI pc), .int (nI ac), .int (nI (sc + 1)), .int (nI sh)])) := wd_at.ps ew196 k158
          have k198 := wd_at.pt ew196 k159 (tg_ne tI1 tI0 (by decide))
          have k199 := wd_at.pt ew196 k160 (tg_ne tI2 tI0 (by decide))
          have k200 := wd_at.pt ew196 k161 (tg_ne tI3 tI0 (by decide))
          have k201 := wd_at.pt ew196 k162 (tg_ne tI4 tI0 (by decide))
          have k202 := wd_at.pt ew196 k163 (tg_ne tI5 tI0 (by decide))
          have k203 := wd_at.pt ew196 k164 (tg_ne tI6 tI0 (by decide))
          have k204 := wd_at.pt ew196 k165 (tg_ne tI7 tI0 (by decide))
          have k205 := wd_at.pt ew196 k166 (tg_ne tI8 tI0 (by decide))
          have k206 := wd_at.pt ew196 k167 (tg_ne tI9 tI0 (by decide))
          have k207 := wd_at.pt ew196 k168 (tg_ne tI10 tI0 (by decide))
          have k208 := wd_at.pt ew196 k169 (tg_ne tI11 tI0 (by decide))
          have k209 := wd_at.pt ew196 k170 (tg_ne tI12 tI0 (by decide))
          have k210 := wd_at.pt ew196 k171 (tg_ne tI13 tI0 (by decide))
          have k211 := wd_at.pt ew196 k172 (tg_ne tI14 tI0 (by decide))
          have k212 := wd_at.pt ew196 k173 (tg_ne tI15 tI0 (by decide))
          have k213 := wd_at.pt ew196 k174 (tg_ne tI16 tI0 (by decide))
          have k214 := wd_at.pt ew196 k175 (tg_ne tI17 tI0 (by decide))
          have k215 := wd_at.pt ew196 k176 (tg_ne tI18 tI0 (by decide))
          have k216 := wd_at.pt ew196 k177 (tg_ne tI19 tI0 (by decide))
          have k217 := wd_at.pt ew196 k178 (tg_ne tI20 tI0 (by decide))
          have k218 := wd_at.pt ew196 k179 (tg_ne tI21 tI0 (by decide))
          have k219 := wd_at.pt ew196 k180 (tg_ne tI22 tI0 (by decide))
          have k220 := wd_at.pt ew196 k181 (tg_ne tI23 tI0 (tnA (show 0 < 30 by decide)))
          have k221 := wd_at.pt ew196 k182 (tg_ne tI24 tI0 (tnA (show 0 < 32 by decide)))
          have k222 := wd_at.pt ew196 k183 (tg_ne tI25 tI0 (tnA (show 0 < 30 by decide)))
          have k223 := wd_at.pt ew196 k184 (tg_ne tI26 tI0 (tnA (show 0 < 32 by decide)))
          have k224 := wd_at.pt ew196 k185 (tg_ne tz11 tI0 (tnA (show 0 < 3000 by decide)))
          have k225 := wd_at.pt ew196 k186 (Ne.symm (wd_nL hq21 kI0))
          have k226 := wd_at.pt ew196 k187 (Ne.symm (wd_nL hq113 k72))
          have fm227 : ∀ i9, i9 < 12 → tf i9 = some (tn i9) ∧ wd_at w195 (tn i9) (.inr (8, [.int (co i9), .int (ra i9), .int (se i9), .ref (ag i9)])) ∧ tg (tn i9) = 100 + i9 := fun i9 hi9 => ⟨(fm188 i9 hi9).1, wd_at.pt ew196 (fm188 i9 hi9).2.1 (tg_ne (fm188 i9 hi9).2.2 tI0 (tnA (show 0 < 100 by decide))), (fm188 i9 hi9).2.2⟩
          have fm228 : ∀ k9, k9 < 13 → (aOK (cf k9) (nf k9) ∧ ru k9 ≤ 12) ∧ wd_at w195 (aa k9) (.inr (1, [.ref (ga0 k9), .ref (ga1 k9), .ref (ga2 k9), .ref (ga3 k9), .ref (ga4 k9), .int (nI (ru k9))])) ∧ tg (aa k9) = 200 + k9 ∧ wd_at w195 (ga0 k9) (.inl (cy 2, 12, .inl (df k9))) ∧ tg (ga0 k9) = 220 + k9 ∧ wd_at w195 (ga1 k9) (.inl (cy 2, 12, .inl (cf k9))) ∧ tg (ga1 k9) = 240 + k9 ∧ wd_at w195 (ga2 k9) (.inl (cy 2, 72, .inl (nf k9))) ∧ tg (ga2 k9) = 260 + k9 ∧ wd_at w195 (ga3 k9) (.inl (cy 1, 72, .inl (sf k9))) ∧ tg (ga3 k9) = 280 + k9 ∧ wd_at w195 (ga4 k9) (.inl (cy 2, 72, .inl (uf k9))) ∧ tg (ga4 k9) = 300 + k9 := fun k9 hi9 => ⟨(fm189 k9 hi9).1, wd_at.pt ew196 (fm189 k9 hi9).2.1 (tg_ne (fm189 k9 hi9).2.2.1 tI0 (tnA (show 0 < 200 by decide))), (fm189 k9 hi9).2.2.1, wd_at.pt ew196 (fm189 k9 hi9).2.2.2.1 (tg_ne (fm189 k9 hi9).2.2.2.2.1 tI0 (tnA (show 0 < 220 by decide))), (fm189 k9 hi9).2.2.2.2.1, wd_at.pt ew196 (fm189 k9 hi9).2.2.2.2.2.1 (tg_ne (fm189 k9 hi9).2.2.2.2.2.2.1 tI0 (tnA (show 0 < 240 by decide))), (fm189 k9 hi9).2.2.2.2.2.2.1, wd_at.pt ew196 (fm189 k9 hi9).2.2.2.2.2.2.2.1 (tg_ne (fm189 k9 hi9).2.2.2.2.2.2.2.2.1 tI0 (tnA (show 0 < 260 by decide))), (fm189 k9 hi9).2.2.2.2.2.2.2.2.1, wd_at.pt ew196 (fm189 k9 hi9).2.2.2.2.2.2.2.2.2.1 (tg_ne (fm189 k9 hi9).2.2.2.2.2.2.2.2.2.2.1 tI0 (tnA (show 0 < 280 by decide))), (fm189 k9 hi9).2.2.2.2.2.2.2.2.2.2.1, wd_at.pt ew196 (fm189 k9 hi9).2.2.2.2.2.2.2.2.2.2.2.1 (tg_ne (fm189 k9 hi9).2.2.2.2.2.2.2.2.2.2.2.2 tI0 (tnA (show 0 < 300 by decide))), (fm189 k9 hi9).2.2.2.2.2.2.2.2.2.2.2.2⟩
          have fm229 : ∀ k9, k9 < pc → pf k9 = some (pa k9) ∧ wd_at w195 (pa k9) (.inr (3, [.int (plv k9), .int (pwo k9), .int (phd k9), .int (pgd k9), .int (pdy k9), .int (pno k9), .int (ptp k9)])) ∧ tg (pa k9) = 3000 + k9 := fun k9 hi9 => ⟨(fm190 k9 hi9).1, wd_at.pt ew196 (fm190 k9 hi9).2.1 (tg_ne (fm190 k9 hi9).2.2 tI0 (tnA (show 0 < 3000 by decide))), (fm190 k9 hi9).2.2⟩
          have fm230 : ∀ k9, k9 < ac → af k9 = some (ad k9) ∧ wd_at w195 (ad k9) (.inr (0, [.int (av0 k9), .int (av1 k9), .int (av2 k9), .int (av3 k9)])) ∧ tg (ad k9) = 4000 + k9 := fun k9 hi9 => ⟨(fm191 k9 hi9).1, wd_at.pt ew196 (fm191 k9 hi9).2.1 (tg_ne (fm191 k9 hi9).2.2 tI0 (tnA (show 0 < 4000 by decide))), (fm191 k9 hi9).2.2⟩
          have fm231 : ∀ k9, k9 < sc → zf k9 = some (so k9) ∧ wd_at w195 (so k9) (.inr (6, [.int (sp0 k9), .int (sp1 k9), .ref (sr k9)])) ∧ tg (so k9) = 5000 + k9 ∧ wd_at w195 (sr k9) (.inl (cy 2, 12, .inl (sd k9))) ∧ tg (sr k9) = 6000 + k9 := fun k9 hi9 => ⟨(fm192 k9 hi9).1, wd_at.pt ew196 (fm192 k9 hi9).2.1 (tg_ne (fm192 k9 hi9).2.2.1 tI0 (tnA (show 0 < 5000 by decide))), (fm192 k9 hi9).2.2.1, wd_at.pt ew196 (fm192 k9 hi9).2.2.2.1 (tg_ne (fm192 k9 hi9).2.2.2.2 tI0 (tnA (show 0 < 6000 by decide))), (fm192 k9 hi9).2.2.2.2⟩
          have fm232 : ∀ k9, k9 < sh → (hf k9 = some (sw k9) ∧ hto k9 < 12) ∧ wd_at w195 (sw k9) (.inr (5, [.int (nI (hto k9)), .int (hpp k9), .int (hle k9), .int (ham k9), .int (hhh k9), .int (hdd k9), .int (hru k9), .int (hde k9), .int (hcp k9), .int (hld k9)])) ∧ tg (sw k9) = 7000 + k9 := fun k9 hi9 => ⟨(fm193 k9 hi9).1, wd_at.pt ew196 (fm193 k9 hi9).2.1 (tg_ne (fm193 k9 hi9).2.2 tI0 (tnA (show 0 < 7000 by decide))), (fm193 k9 hi9).2.2⟩
          have kp233 := kp194.put ew196 (tgS tI0 (by decide))
          refine lv_aload_n hx hb dX10_stop_86 rfl (lv_at hl 1 rfl) ?_
          refine x_get (ref := "NoteHouse") F hP k197 rfl (fun _ h => List.mem_cons_of_mem _ (List.mem_append_left _ (List.mem_append_left _ (List.mem_append_left _ (List.mem_append_right _ (h)))))) 15 (Nat.le_of_ble_eq_true rfl) (List.mem_cons_of_mem _ (List.mem_append_left _ (List.mem_append_left _ (List.mem_append_left _ (List.mem_append_left _ (List.mem_append_left _ (List.mem_of_getElem? (i := 0) rfl))))))) rfl rfl dX10_stop_87 ?_
          refine lv_iconst (v := 1) hx hb dX10_stop_90 (by decide) ?_
          refine lv_isub hx hb dX10_stop_91 ?_
          rw [show ((nI (sc + 1)) - 1 : Int32) = nI ((sc + 1) - 1) from pk_sub (a := (sc + 1)) (b := 1) (by omega)]
          have fm235 : ∀ i9, i9 < 12 → tf i9 = some (tn i9) ∧ wd_at w195 (tn i9) (.inr (8, [.int (co i9), .int (ra i9), .int (se i9), .ref (ag i9)])) ∧ (va_up (va_up tg q18 (5000 + sc)) arx109 (6000 + sc)) (tn i9) = 100 + i9 := fun i9 hi9 => ⟨(fm227 i9 hi9).1, (fm227 i9 hi9).2.1, ((va_up_ne _ _ (fn115 i9 hi9)).trans ((va_up_ne _ _ (fn52 i9 hi9)).trans (fm227 i9 hi9).2.2))⟩
          have fm236 : ∀ k9, k9 < 13 → (aOK (cf k9) (nf k9) ∧ ru k9 ≤ 12) ∧ wd_at w195 (aa k9) (.inr (1, [.ref (ga0 k9), .ref (ga1 k9), .ref (ga2 k9), .ref (ga3 k9), .ref (ga4 k9), .int (nI (ru k9))])) ∧ (va_up (va_up tg q18 (5000 + sc)) arx109 (6000 + sc)) (aa k9) = 200 + k9 ∧ wd_at w195 (ga0 k9) (.inl (cy 2, 12, .inl (df k9))) ∧ (va_up (va_up tg q18 (5000 + sc)) arx109 (6000 + sc)) (ga0 k9) = 220 + k9 ∧ wd_at w195 (ga1 k9) (.inl (cy 2, 12, .inl (cf k9))) ∧ (va_up (va_up tg q18 (5000 + sc)) arx109 (6000 + sc)) (ga1 k9) = 240 + k9 ∧ wd_at w195 (ga2 k9) (.inl (cy 2, 72, .inl (nf k9))) ∧ (va_up (va_up tg q18 (5000 + sc)) arx109 (6000 + sc)) (ga2 k9) = 260 + k9 ∧ wd_at w195 (ga3 k9) (.inl (cy 1, 72, .inl (sf k9))) ∧ (va_up (va_up tg q18 (5000 + sc)) arx109 (6000 + sc)) (ga3 k9) = 280 + k9 ∧ wd_at w195 (ga4 k9) (.inl (cy 2, 72, .inl (uf k9))) ∧ (va_up (va_up tg q18 (5000 + sc)) arx109 (6000 + sc)) (ga4 k9) = 300 + k9 := fun k9 hi9 => ⟨(fm228 k9 hi9).1, (fm228 k9 hi9).2.1, ((va_up_ne _ _ ((fn116 k9 hi9).1)).trans ((va_up_ne _ _ ((fn54 k9 hi9).1)).trans (fm228 k9 hi9).2.2.1)), (fm228 k9 hi9).2.2.2.1, ((va_up_ne _ _ ((fn116 k9 hi9).2.1)).trans ((va_up_ne _ _ ((fn54 k9 hi9).2.1)).trans (fm228 k9 hi9).2.2.2.2.1)), (fm228 k9 hi9).2.2.2.2.2.1, ((va_up_ne _ _ ((fn116 k9 hi9).2.2.1)).trans ((va_up_ne _ _ ((fn54 k9 hi9).2.2.1)).trans (fm228 k9 hi9).2.2.2.2.2.2.1)), (fm228 k9 hi9).2.2.2.2.2.2.2.1, ((va_up_ne _ _ ((fn116 k9 hi9).2.2.2.1)).trans ((va_up_ne _ _ ((fn54 k9 hi9).2.2.2.1)).trans (fm228 k9 hi9).2.2.2.2.2.2.2.2.1)), (fm228 k9 hi9).2.2.2.2.2.2.2.2.2.1, ((va_up_ne _ _ ((fn116 k9 hi9).2.2.2.2.1)).trans ((va_up_ne _ _ ((fn54 k9 hi9).2.2.2.2.1)).trans (fm228 k9 hi9).2.2.2.2.2.2.2.2.2.2.1)), (fm228 k9 hi9).2.2.2.2.2.2.2.2.2.2.2.1, ((va_up_ne _ _ ((fn116 k9 hi9).2.2.2.2.2)).trans ((va_up_ne _ _ ((fn54 k9 hi9).2.2.2.2.2)).trans (fm228 k9 hi9).2.2.2.2.2.2.2.2.2.2.2.2))⟩
          have fm237 : ∀ k9, k9 < pc → pf k9 = some (pa k9) ∧ wd_at w195 (pa k9) (.inr (3, [.int (plv k9), .int (pwo k9), .int (phd k9), .int (pgd k9), .int (pdy k9), .int (pno k9), .int (ptp k9)])) ∧ (va_up (va_up tg q18 (5000 + sc)) arx109 (6000 + sc)) (pa k9) = 3000 + k9 := fun k9 hi9 => ⟨(fm229 k9 hi9).1, (fm229 k9 hi9).2.1, ((va_up_ne _ _ (fn117 k9 hi9)).trans ((va_up_ne _ _ (fn56 k9 hi9)).trans (fm229 k9 hi9).2.2))⟩
          have fm238 : ∀ k9, k9 < ac → af k9 = some (ad k9) ∧ wd_at w195 (ad k9) (.inr (0, [.int (av0 k9), .int (av1 k9), .int (av2 k9), .int (av3 k9)])) ∧ (va_up (va_up tg q18 (5000 + sc)) arx109 (6000 + sc)) (ad k9) = 4000 + k9 := fun k9 hi9 => ⟨(fm230 k9 hi9).1, (fm230 k9 hi9).2.1, ((va_up_ne _ _ (fn118 k9 hi9)).trans ((va_up_ne _ _ (fn58 k9 hi9)).trans (fm230 k9 hi9).2.2))⟩
          have fm239 : ∀ k9, k9 < sc → zf k9 = some (so k9) ∧ wd_at w195 (so k9) (.inr (6, [.int (sp0 k9), .int (sp1 k9), .ref (sr k9)])) ∧ (va_up (va_up tg q18 (5000 + sc)) arx109 (6000 + sc)) (so k9) = 5000 + k9 ∧ wd_at w195 (sr k9) (.inl (cy 2, 12, .inl (sd k9))) ∧ (va_up (va_up tg q18 (5000 + sc)) arx109 (6000 + sc)) (sr k9) = 6000 + k9 := fun k9 hi9 => ⟨(fm231 k9 hi9).1, (fm231 k9 hi9).2.1, ((va_up_ne _ _ ((fn119 k9 hi9).1)).trans ((va_up_ne _ _ ((fn60 k9 hi9).1)).trans (fm231 k9 hi9).2.2.1)), (fm231 k9 hi9).2.2.2.1, ((va_up_ne _ _ ((fn119 k9 hi9).2)).trans ((va_up_ne _ _ ((fn60 k9 hi9).2)).trans (fm231 k9 hi9).2.2.2.2))⟩
          have fm240 : ∀ k9, k9 < sh → (hf k9 = some (sw k9) ∧ hto k9 < 12) ∧ wd_at w195 (sw k9) (.inr (5, [.int (nI (hto k9)), .int (hpp k9), .int (hle k9), .int (ham k9), .int (hhh k9), .int (hdd k9), .int (hru k9), .int (hde k9), .int (hcp k9), .int (hld k9)])) ∧ (va_up (va_up tg q18 (5000 + sc)) arx109 (6000 + sc)) (sw k9) = 7000 + k9 := fun k9 hi9 => ⟨(fm232 k9 hi9).1, (fm232 k9 hi9).2.1, ((va_up_ne _ _ (fn120 k9 hi9)).trans ((va_up_ne _ _ (fn62 k9 hi9)).trans (fm232 k9 hi9).2.2))⟩
          have k241 : wd_at w195 a4 (.inl (cy 8, 60, .inr (.inr (.inr (.inr (va_up zf sc (some q18))))))) := by have h9 := k206; rw [nI_clamp (n := sc) (by omega)] at h9; exact h9
          have fm242 : ∀ k9, k9 < (sc + 1) → (va_up zf sc (some q18)) k9 = some ((va_up so sc q18) k9) ∧ wd_at w195 ((va_up so sc q18) k9) (.inr (6, [.int ((va_up sp0 sc x1) k9), .int ((va_up sp1 sc x2) k9), .ref ((va_up sr sc arx109) k9)])) ∧ (va_up (va_up tg q18 (5000 + sc)) arx109 (6000 + sc)) ((va_up so sc q18) k9) = 5000 + k9 ∧ wd_at w195 ((va_up sr sc arx109) k9) (.inl (cy 2, 12, .inl ((va_up sd sc sdx110) k9))) ∧ (va_up (va_up tg q18 (5000 + sc)) arx109 (6000 + sc)) ((va_up sr sc arx109) k9) = 6000 + k9 := by
            intro k9 hi9
            by_cases e9 : k9 = sc
            · rw [e9]
              exact ⟨(by rw [va_up_self, va_up_self]), (by simp only [va_up_self]; exact k225), (by rw [va_up_self]; exact ((va_up_ne _ _ (wd_nL hq113 k98)).trans (va_up_self _ _ _))), (by simp only [va_up_self]; exact k226), (by rw [va_up_self]; exact (va_up_self _ _ _))⟩
            · simp only [va_up_ne _ _ e9]
              exact fm239 k9 (by omega)
          have hX243 : IX cy (va_up (va_up tg q18 (5000 + sc)) arx109 (6000 + sc)) x td pc ac (sc + 1) ln se plv w195 := IX.mk a0 a1 a2 a3 a4 a5 a6 a7 a8 a10 a11 b0 b1 b2 b3 tb l0 l1 l2 l3 l4 l5 l6 l7 bl bm sh gc sg lu lv9 f0 f1 dx67 px68 tbf e0 e1 e4 e5 e7 ff bf bf2 e2 e3 e6 ta sz fo to fo2 to2 tf tn ag co ra aa ru ga0 ga1 ga2 ga3 ga4 df cf nf sf uf pf pa pwo phd pgd pdy pno ptp af ad av0 av1 av2 av3 (va_up zf sc (some q18)) (va_up so sc q18) (va_up sr sc arx109) (va_up sp0 sc x1) (va_up sp1 sc x2) (va_up sd sc sdx110) hf sw hto hpp hle ham hhh hdd hru hde hcp hld (by omega) (by omega) (by omega) (by omega) (by omega) (by omega) (by omega) (by omega) hag k197 ((va_up_ne _ _ (wd_nL hq113 k72)).trans ((va_up_ne _ _ (wd_nL hq21 kI0)).trans tI0)) k198 ((va_up_ne _ _ (wd_nL hq113 k73)).trans ((va_up_ne _ _ (wd_nL hq21 kI1)).trans tI1)) k199 ((va_up_ne _ _ (wd_nL hq113 k74)).trans ((va_up_ne _ _ (wd_nL hq21 kI2)).trans tI2)) k200 ((va_up_ne _ _ (wd_nL hq113 k75)).trans ((va_up_ne _ _ (wd_nL hq21 kI3)).trans tI3)) k201 ((va_up_ne _ _ (wd_nL hq113 k69)).trans ((va_up_ne _ _ (wd_nL hq21 kI4)).trans tI4)) k202 ((va_up_ne _ _ (wd_nL hq113 k70)).trans ((va_up_ne _ _ (wd_nL hq21 kI5)).trans tI5)) k203 ((va_up_ne _ _ (wd_nL hq113 k76)).trans ((va_up_ne _ _ (wd_nL hq21 kI6)).trans tI6)) k204 ((va_up_ne _ _ (wd_nL hq113 k77)).trans ((va_up_ne _ _ (wd_nL hq21 kI7)).trans tI7)) k205 ((va_up_ne _ _ (wd_nL hq113 k78)).trans ((va_up_ne _ _ (wd_nL hq21 kI8)).trans tI8)) k241 ((va_up_ne _ _ (wd_nL hq113 k79)).trans ((va_up_ne _ _ (wd_nL hq21 kI9)).trans tI9)) k207 ((va_up_ne _ _ (wd_nL hq113 k80)).trans ((va_up_ne _ _ (wd_nL hq21 kI10)).trans tI10)) k208 ((va_up_ne _ _ (wd_nL hq113 k81)).trans ((va_up_ne _ _ (wd_nL hq21 kI11)).trans tI11)) k209 ((va_up_ne _ _ (wd_nL hq113 k82)).trans ((va_up_ne _ _ (wd_nL hq21 kI12)).trans tI12)) k210 ((va_up_ne _ _ (wd_nL hq113 k83)).trans ((va_up_ne _ _ (wd_nL hq21 kI13)).trans tI13)) k211 ((va_up_ne _ _ (wd_nL hq113 k84)).trans ((va_up_ne _ _ (wd_nL hq21 kI14)).trans tI14)) k212 ((va_up_ne _ _ (wd_nL hq113 k85)).trans ((va_up_ne _ _ (wd_nL hq21 kI15)).trans tI15)) k213 ((va_up_ne _ _ (wd_nL hq113 k86)).trans ((va_up_ne _ _ (wd_nL hq21 kI16)).trans tI16)) k214 ((va_up_ne _ _ (wd_nL hq113 k87)).trans ((va_up_ne _ _ (wd_nL hq21 kI17)).trans tI17)) k215 ((va_up_ne _ _ (wd_nL hq113 k88)).trans ((va_up_ne _ _ (wd_nL hq21 kI18)).trans tI18)) k216 ((va_up_ne _ _ (wd_nL hq113 k89)).trans ((va_up_ne _ _ (wd_nL hq21 kI19)).trans tI19)) k217 ((va_up_ne _ _ (wd_nL hq113 k90)).trans ((va_up_ne _ _ (wd_nL hq21 kI20)).trans tI20)) k218 ((va_up_ne _ _ (wd_nL hq113 k91)).trans ((va_up_ne _ _ (wd_nL hq21 kI21)).trans tI21)) k219 ((va_up_ne _ _ (wd_nL hq113 k92)).trans ((va_up_ne _ _ (wd_nL hq21 kI22)).trans tI22)) k220 ((va_up_ne _ _ (wd_nL hq113 k93)).trans ((va_up_ne _ _ (wd_nL hq21 kI23)).trans tI23)) k221 ((va_up_ne _ _ (wd_nL hq113 k94)).trans ((va_up_ne _ _ (wd_nL hq21 kI24)).trans tI24)) k222 ((va_up_ne _ _ (wd_nL hq113 k95)).trans ((va_up_ne _ _ (wd_nL hq21 kI25)).trans tI25)) k223 ((va_up_ne _ _ (wd_nL hq113 k96)).trans ((va_up_ne _ _ (wd_nL hq21 kI26)).trans tI26)) fm235 fm236 fm237 fm238 fm242 fm240
          exact y_ir K hP hD hS (Nat.le_of_ble_eq_true rfl) (Nat.le_of_ble_eq_true rfl) (ty := .int) rfl rfl dX10_stop_92 (by refine ⟨(congrArg (fun z => some (Value.int z)) (show nI ((sc + 1) - 1) = stpA plv pc sc x1 x2 (nI t) from by simp [stpA, stpC, pb9.1, pb9.2, c_12, c_16, clt, c_17])), ?_⟩; rw [show stpC plv pc sc x1 x2 (nI t) = (sc + 1) from by simp [stpA, stpC, pb9.1, pb9.2, c_12, c_16, clt, c_17]]; exact ⟨(va_up (va_up tg q18 (5000 + sc)) arx109 (6000 + sc)), (fun a9 ha9 => ((va_up_ne _ _ (fun q9 : a9 = arx109 => (kp105.out hq113) (q9 ▸ ha9))).trans (va_up_ne _ _ (fun q9 : a9 = q18 => (kp0.out hq21) (q9 ▸ ha9))))), kp233, hX243⟩)
        · refine lv_aload hx hb dX10_stop_35 (lv_at hl 0 rfl) ?_
          refine lv_iload_n hx hb dX10_stop_37 rfl (lv_at hl 3 rfl) ?_
          refine x_callV (n := 1) (As := [.int x2]) (rest := []) F hP hD hS (g_hasLeaf l D cy sk sv w (pa j4) x2 (plv j4) (pwo j4) (phd j4) (pgd j4) (pdy j4) (pno j4) (ptp j4) k10) gX10_stop_X3_hasLeaf rfl rfl (by decide +kernel) ⟨(Nat.le_of_ble_eq_true rfl), (Nat.le_of_ble_eq_true rfl)⟩ rfl hl.1 (Nat.le_of_ble_eq_true rfl) k10 rfl dX10_stop_38 rfl ⟨(Nat.le_of_ble_eq_true rfl), (Nat.le_of_ble_eq_true rfl)⟩ (fun v245 w246 hp244 H locs hP hD hS => ?_)
          obtain ⟨rfl, rfl⟩ := hp244
          refine W.eq (g2 := F0 m 41 ls [.int (lf x2 (plv j4))]) rfl (W.widen (k := 0) (n := 0) (Nat.le_of_ble_eq_true rfl) (Nat.le_of_ble_eq_true rfl) ?_)
          refine lv_if_ne (tgt := 46) hx hb dX10_stop_41 (by decide) (fun c_247 => ?_) (fun c_247 => ?_)
          · refine lv_aload_n hx hb dX10_stop_46 rfl (lv_at hl 1 rfl) ?_
            refine x_get (ref := "NoteHouse") F hP kI0 rfl (fun _ h => List.mem_cons_of_mem _ (List.mem_append_left _ (List.mem_append_left _ (List.mem_append_left _ (List.mem_append_right _ (h)))))) 4 (Nat.le_of_ble_eq_true rfl) (List.mem_cons_of_mem _ (List.mem_append_left _ (List.mem_append_left _ (List.mem_append_left _ (List.mem_append_left _ (List.mem_append_left _ (List.mem_of_getElem? (i := 1) rfl))))))) rfl rfl dX10_stop_47 ?_
            refine lv_aload_n hx hb dX10_stop_50 rfl (lv_at hl 1 rfl) ?_
            refine x_get (ref := "NoteHouse") F hP kI0 rfl (fun _ h => List.mem_cons_of_mem _ (List.mem_append_left _ (List.mem_append_left _ (List.mem_append_left _ (List.mem_append_right _ (h)))))) 15 (Nat.le_of_ble_eq_true rfl) (List.mem_cons_of_mem _ (List.mem_append_left _ (List.mem_append_left _ (List.mem_append_left _ (List.mem_append_left _ (List.mem_append_left _ (List.mem_of_getElem? (i := 0) rfl))))))) rfl rfl dX10_stop_51 ?_
            refine y_new (fs := [.int 0, .int 0, .null]) F hP hD hS (ci := 6) rfl (fun _ h => List.mem_cons_of_mem _ (List.mem_append_left _ (List.mem_append_left _ (List.mem_append_right _ (h))))) tyX6_ok (List.mem_cons_of_mem _ (List.mem_append_left _ (List.mem_append_left _ (List.mem_append_left _ (List.mem_append_left _ (List.mem_append_left _ (List.mem_of_getElem? (i := 2) rfl))))))) (List.mem_cons_of_mem _ (List.mem_append_left _ (List.mem_append_left _ (List.mem_append_left _ (List.mem_append_left _ (List.mem_append_left _ (List.mem_of_getElem? (i := 3) rfl))))))) (List.mem_cons_of_mem _ (List.mem_append_left _ (List.mem_append_left _ (List.mem_append_left _ (List.mem_append_left _ (List.mem_append_left _ (List.mem_of_getElem? (i := 4) rfl))))))) df_6 (Nat.le_of_ble_eq_true rfl) (Nat.le_of_ble_eq_true rfl) dX10_stop_54 (fun q248 w249 ew250 hq251 H hP hD hS => ?_)
            refine W.widen (k := 1) (n := 3) (Nat.le_of_ble_eq_true rfl) (Nat.le_of_ble_eq_true rfl) ?_
            have k252 := wd_at.ad ew250 hq251 kI0
            have k253 := wd_at.ad ew250 hq251 kI1
            have k254 := wd_at.ad ew250 hq251 kI2
            have k255 := wd_at.ad ew250 hq251 kI3
            have k256 := wd_at.ad ew250 hq251 kI4
            have k257 := wd_at.ad ew250 hq251 kI5
            have k258 := wd_at.ad ew250 hq251 kI6
            have k259 := wd_at.ad ew250 hq251 kI7
            have k260 := wd_at.ad ew250 hq251 kI8
            have k261 := wd_at.ad ew250 hq251 kI9
            have k262 := wd_at.ad ew250 hq251 kI10
            have k263 := wd_at.ad ew250 hq251 kI11
            have k264 := wd_at.ad ew250 hq251 kI12
            have k265 := wd_at.ad ew250 hq251 kI13
            have k266 := wd_at.ad ew250 hq251 kI14
            have k267 := wd_at.ad ew250 hq251 kI15
            have k268 := wd_at.ad ew250 hq251 kI16
            have k269 := wd_at.ad ew250 hq251 kI17
            have k270 := wd_at.ad ew250 hq251 kI18
            have k271 := wd_at.ad ew250 hq251 kI19
            have k272 := wd_at.ad ew250 hq251 kI20
            have k273 := wd_at.ad ew250 hq251 kI21
            have k274 := wd_at.ad ew250 hq251 kI22
            have k275 := wd_at.ad ew250 hq251 kI23
            have k276 := wd_at.ad ew250 hq251 kI24
            have k277 := wd_at.ad ew250 hq251 kI25
            have k278 := wd_at.ad ew250 hq251 kI26
            have k279 := wd_at.ad ew250 hq251 k10
            have k280 : wd_at w249 q248 (.inr (6, [.int 0, .int 0, .null])) := wd_at.nw ew250
            have fm281 : ∀ i9, i9 < 12 → tf i9 = some (tn i9) ∧ wd_at w249 (tn i9) (.inr (8, [.int (co i9), .int (ra i9), .int (se i9), .ref (ag i9)])) ∧ tg (tn i9) = 100 + i9 := fun i9 hi9 => ⟨(hT9 i9 hi9).1, wd_at.ad ew250 hq251 (hT9 i9 hi9).2.1, (hT9 i9 hi9).2.2⟩
            have fn282 : ∀ i9, i9 < 12 → (tn i9) ≠ q248 := fun i9 hi9 => wd_nL hq251 (hT9 i9 hi9).2.1
            have fm283 : ∀ k9, k9 < 13 → (aOK (cf k9) (nf k9) ∧ ru k9 ≤ 12) ∧ wd_at w249 (aa k9) (.inr (1, [.ref (ga0 k9), .ref (ga1 k9), .ref (ga2 k9), .ref (ga3 k9), .ref (ga4 k9), .int (nI (ru k9))])) ∧ tg (aa k9) = 200 + k9 ∧ wd_at w249 (ga0 k9) (.inl (cy 2, 12, .inl (df k9))) ∧ tg (ga0 k9) = 220 + k9 ∧ wd_at w249 (ga1 k9) (.inl (cy 2, 12, .inl (cf k9))) ∧ tg (ga1 k9) = 240 + k9 ∧ wd_at w249 (ga2 k9) (.inl (cy 2, 72, .inl (nf k9))) ∧ tg (ga2 k9) = 260 + k9 ∧ wd_at w249 (ga3 k9) (.inl (cy 1, 72, .inl (sf k9))) ∧ tg (ga3 k9) = 280 + k9 ∧ wd_at w249 (ga4 k9) (.inl (cy 2, 72, .inl (uf k9))) ∧ tg (ga4 k9) = 300 + k9 := fun k9 hi9 => ⟨(hG9 k9 hi9).1, wd_at.ad ew250 hq251 (hG9 k9 hi9).2.1, (hG9 k9 hi9).2.2.1, wd_at.ad ew250 hq251 (hG9 k9 hi9).2.2.2.1, (hG9 k9 hi9).2.2.2.2.1, wd_at.ad ew250 hq251 (hG9 k9 hi9).2.2.2.2.2.1, (hG9 k9 hi9).2.2.2.2.2.2.1, wd_at.ad ew250 hq251 (hG9 k9 hi9).2.2.2.2.2.2.2.1, (hG9 k9 hi9).2.2.2.2.2.2.2.2.1, wd_at.ad ew250 hq251 (hG9 k9 hi9).2.2.2.2.2.2.2.2.2.1, (hG9 k9 hi9).2.2.2.2.2.2.2.2.2.2.1, wd_at.ad ew250 hq251 (hG9 k9 hi9).2.2.2.2.2.2.2.2.2.2.2.1, (hG9 k9 hi9).2.2.2.2.2.2.2.2.2.2.2.2⟩
            have fn284 : ∀ k9, k9 < 13 → (aa k9) ≠ q248 ∧ (ga0 k9) ≠ q248 ∧ (ga1 k9) ≠ q248 ∧ (ga2 k9) ≠ q248 ∧ (ga3 k9) ≠ q248 ∧ (ga4 k9) ≠ q248 := fun k9 hi9 => ⟨wd_nL hq251 (hG9 k9 hi9).2.1, wd_nL hq251 (hG9 k9 hi9).2.2.2.1, wd_nL hq251 (hG9 k9 hi9).2.2.2.2.2.1, wd_nL hq251 (hG9 k9 hi9).2.2.2.2.2.2.2.1, wd_nL hq251 (hG9 k9 hi9).2.2.2.2.2.2.2.2.2.1, wd_nL hq251 (hG9 k9 hi9).2.2.2.2.2.2.2.2.2.2.2.1⟩
            have fm285 : ∀ k9, k9 < pc → pf k9 = some (pa k9) ∧ wd_at w249 (pa k9) (.inr (3, [.int (plv k9), .int (pwo k9), .int (phd k9), .int (pgd k9), .int (pdy k9), .int (pno k9), .int (ptp k9)])) ∧ tg (pa k9) = 3000 + k9 := fun k9 hi9 => ⟨(hP9 k9 hi9).1, wd_at.ad ew250 hq251 (hP9 k9 hi9).2.1, (hP9 k9 hi9).2.2⟩
            have fn286 : ∀ k9, k9 < pc → (pa k9) ≠ q248 := fun k9 hi9 => wd_nL hq251 (hP9 k9 hi9).2.1
            have fm287 : ∀ k9, k9 < ac → af k9 = some (ad k9) ∧ wd_at w249 (ad k9) (.inr (0, [.int (av0 k9), .int (av1 k9), .int (av2 k9), .int (av3 k9)])) ∧ tg (ad k9) = 4000 + k9 := fun k9 hi9 => ⟨(hA9 k9 hi9).1, wd_at.ad ew250 hq251 (hA9 k9 hi9).2.1, (hA9 k9 hi9).2.2⟩
            have fn288 : ∀ k9, k9 < ac → (ad k9) ≠ q248 := fun k9 hi9 => wd_nL hq251 (hA9 k9 hi9).2.1
            have fm289 : ∀ k9, k9 < sc → zf k9 = some (so k9) ∧ wd_at w249 (so k9) (.inr (6, [.int (sp0 k9), .int (sp1 k9), .ref (sr k9)])) ∧ tg (so k9) = 5000 + k9 ∧ wd_at w249 (sr k9) (.inl (cy 2, 12, .inl (sd k9))) ∧ tg (sr k9) = 6000 + k9 := fun k9 hi9 => ⟨(hS9 k9 hi9).1, wd_at.ad ew250 hq251 (hS9 k9 hi9).2.1, (hS9 k9 hi9).2.2.1, wd_at.ad ew250 hq251 (hS9 k9 hi9).2.2.2.1, (hS9 k9 hi9).2.2.2.2⟩
            have fn290 : ∀ k9, k9 < sc → (so k9) ≠ q248 ∧ (sr k9) ≠ q248 := fun k9 hi9 => ⟨wd_nL hq251 (hS9 k9 hi9).2.1, wd_nL hq251 (hS9 k9 hi9).2.2.2.1⟩
            have fm291 : ∀ k9, k9 < sh → (hf k9 = some (sw k9) ∧ hto k9 < 12) ∧ wd_at w249 (sw k9) (.inr (5, [.int (nI (hto k9)), .int (hpp k9), .int (hle k9), .int (ham k9), .int (hhh k9), .int (hdd k9), .int (hru k9), .int (hde k9), .int (hcp k9), .int (hld k9)])) ∧ tg (sw k9) = 7000 + k9 := fun k9 hi9 => ⟨(hH9 k9 hi9).1, wd_at.ad ew250 hq251 (hH9 k9 hi9).2.1, (hH9 k9 hi9).2.2⟩
            have fn292 : ∀ k9, k9 < sh → (sw k9) ≠ q248 := fun k9 hi9 => wd_nL hq251 (hH9 k9 hi9).2.1
            have kp293 := kp0.add ew250 hq251
            refine lv_dup hx hb dX10_stop_57 rfl ?_
            refine lv_iload_n hx hb dX10_stop_58 rfl (lv_at hl 2 rfl) ?_
            refine lv_iload_n hx hb dX10_stop_59 rfl (lv_at hl 3 rfl) ?_
            refine lv_aload_n hx hb dX10_stop_60 rfl (lv_at hl 1 rfl) ?_
            refine x_get (ref := "NoteHouse") F hP k252 rfl (fun _ h => List.mem_cons_of_mem _ (List.mem_append_left _ (List.mem_append_left _ (List.mem_append_left _ (List.mem_append_right _ (h)))))) 0 (Nat.le_of_ble_eq_true rfl) (List.mem_cons_of_mem _ (List.mem_append_left _ (List.mem_append_left _ (List.mem_append_left _ (List.mem_append_left _ (List.mem_append_left _ (List.mem_of_getElem? (i := 5) rfl))))))) rfl rfl dX10_stop_61 ?_
            refine lv_iload_n hx hb dX10_stop_64 rfl (lv_at hl 4 rfl) ?_
            refine x_callV (n := 1) (As := [.int (nI t)]) (rest := [.int x2, .int x1, .ref q248, .ref q248, .int (nI sc), .ref a4]) F hP hD hS (g_newsDays l D cy sk sv w249 a0 b0 b1 b2 b3 (nI t) f0 f1 f2 f3 k253 k254 k255 k256 k257 (fun b => b = b2 ∨ b = b3) (Or.inl rfl) (Or.inr rfl) (tg_ne tI4 tI5 (by decide))) gX10_stop_X9_newsDays rfl rfl (by decide +kernel) ⟨(Nat.le_of_ble_eq_true rfl), (Nat.le_of_ble_eq_true rfl)⟩ rfl hl.1 (Nat.le_of_ble_eq_true rfl) k253 rfl dX10_stop_65 rfl ⟨(Nat.le_of_ble_eq_true rfl), (Nat.le_of_ble_eq_true rfl)⟩ (fun v295 w296 hp294 H locs hP hD hS => ?_)
            obtain ⟨dx297, px298, rfl, kq301, k299, k300⟩ := hp294
            have k302 := kq301.2 _ _ k252 (orN (tg_ne tI0 tI4 (by decide)) (tg_ne tI0 tI5 (by decide)))
            have k303 := kq301.2 _ _ k253 (orN (tg_ne tI1 tI4 (by decide)) (tg_ne tI1 tI5 (by decide)))
            have k304 := kq301.2 _ _ k254 (orN (tg_ne tI2 tI4 (by decide)) (tg_ne tI2 tI5 (by decide)))
            have k305 := kq301.2 _ _ k255 (orN (tg_ne tI3 tI4 (by decide)) (tg_ne tI3 tI5 (by decide)))
            have k306 := kq301.2 _ _ k258 (orN (tg_ne tI6 tI4 (by decide)) (tg_ne tI6 tI5 (by decide)))
            have k307 := kq301.2 _ _ k259 (orN (tg_ne tI7 tI4 (by decide)) (tg_ne tI7 tI5 (by decide)))
            have k308 := kq301.2 _ _ k260 (orN (tg_ne tI8 tI4 (by decide)) (tg_ne tI8 tI5 (by decide)))
            have k309 := kq301.2 _ _ k261 (orN (tg_ne tI9 tI4 (by decide)) (tg_ne tI9 tI5 (by decide)))
            have k310 := kq301.2 _ _ k262 (orN (tg_ne tI10 tI4 (by decide)) (tg_ne tI10 tI5 (by decide)))
            have k311 := kq301.2 _ _ k263 (orN (tg_ne tI11 tI4 (by decide)) (tg_ne tI11 tI5 (by decide)))
            have k312 := kq301.2 _ _ k264 (orN (tg_ne tI12 tI4 (by decide)) (tg_ne tI12 tI5 (by decide)))
            have k313 := kq301.2 _ _ k265 (orN (tg_ne tI13 tI4 (by decide)) (tg_ne tI13 tI5 (by decide)))
            have k314 := kq301.2 _ _ k266 (orN (tg_ne tI14 tI4 (by decide)) (tg_ne tI14 tI5 (by decide)))
            have k315 := kq301.2 _ _ k267 (orN (tg_ne tI15 tI4 (by decide)) (tg_ne tI15 tI5 (by decide)))
            have k316 := kq301.2 _ _ k268 (orN (tg_ne tI16 tI4 (by decide)) (tg_ne tI16 tI5 (by decide)))
            have k317 := kq301.2 _ _ k269 (orN (tg_ne tI17 tI4 (by decide)) (tg_ne tI17 tI5 (by decide)))
            have k318 := kq301.2 _ _ k270 (orN (tg_ne tI18 tI4 (by decide)) (tg_ne tI18 tI5 (by decide)))
            have k319 := kq301.2 _ _ k271 (orN (tg_ne tI19 tI4 (by decide)) (tg_ne tI19 tI5 (by decide)))
            have k320 := kq301.2 _ _ k272 (orN (tg_ne tI20 tI4 (by decide)) (tg_ne tI20 tI5 (by decide)))
            have k321 := kq301.2 _ _ k273 (orN (tg_ne tI21 tI4 (by decide)) (tg_ne tI21 tI5 (by decide)))
            have k322 := kq301.2 _ _ k274 (orN (tg_ne tI22 tI4 (by decide)) (tg_ne tI22 tI5 (by decide)))
            have k323 := kq301.2 _ _ k275 (orN (tg_ne tI23 tI4 (tnA (show 4 < 30 by decide))) (tg_ne tI23 tI5 (tnA (show 5 < 30 by decide))))
            have k324 := kq301.2 _ _ k276 (orN (tg_ne tI24 tI4 (tnA (show 4 < 32 by decide))) (tg_ne tI24 tI5 (tnA (show 5 < 32 by decide))))
            have k325 := kq301.2 _ _ k277 (orN (tg_ne tI25 tI4 (tnA (show 4 < 30 by decide))) (tg_ne tI25 tI5 (tnA (show 5 < 30 by decide))))
            have k326 := kq301.2 _ _ k278 (orN (tg_ne tI26 tI4 (tnA (show 4 < 32 by decide))) (tg_ne tI26 tI5 (tnA (show 5 < 32 by decide))))
            have k327 := kq301.2 _ _ k279 (orN (tg_ne tz11 tI4 (tnA (show 4 < 3000 by decide))) (tg_ne tz11 tI5 (tnA (show 5 < 3000 by decide))))
            have k328 := kq301.2 _ _ k280 (orN (Ne.symm (wd_nL hq251 kI4)) (Ne.symm (wd_nL hq251 kI5)))
            have fm329 : ∀ i9, i9 < 12 → tf i9 = some (tn i9) ∧ wd_at w296 (tn i9) (.inr (8, [.int (co i9), .int (ra i9), .int (se i9), .ref (ag i9)])) ∧ tg (tn i9) = 100 + i9 := fun i9 hi9 => ⟨(fm281 i9 hi9).1, kq301.2 _ _ (fm281 i9 hi9).2.1 (orN (tg_ne (fm281 i9 hi9).2.2 tI4 (tnA (show 4 < 100 by decide))) (tg_ne (fm281 i9 hi9).2.2 tI5 (tnA (show 5 < 100 by decide)))), (fm281 i9 hi9).2.2⟩
            have fm330 : ∀ k9, k9 < 13 → (aOK (cf k9) (nf k9) ∧ ru k9 ≤ 12) ∧ wd_at w296 (aa k9) (.inr (1, [.ref (ga0 k9), .ref (ga1 k9), .ref (ga2 k9), .ref (ga3 k9), .ref (ga4 k9), .int (nI (ru k9))])) ∧ tg (aa k9) = 200 + k9 ∧ wd_at w296 (ga0 k9) (.inl (cy 2, 12, .inl (df k9))) ∧ tg (ga0 k9) = 220 + k9 ∧ wd_at w296 (ga1 k9) (.inl (cy 2, 12, .inl (cf k9))) ∧ tg (ga1 k9) = 240 + k9 ∧ wd_at w296 (ga2 k9) (.inl (cy 2, 72, .inl (nf k9))) ∧ tg (ga2 k9) = 260 + k9 ∧ wd_at w296 (ga3 k9) (.inl (cy 1, 72, .inl (sf k9))) ∧ tg (ga3 k9) = 280 + k9 ∧ wd_at w296 (ga4 k9) (.inl (cy 2, 72, .inl (uf k9))) ∧ tg (ga4 k9) = 300 + k9 := fun k9 hi9 => ⟨(fm283 k9 hi9).1, kq301.2 _ _ (fm283 k9 hi9).2.1 (orN (tg_ne (fm283 k9 hi9).2.2.1 tI4 (tnA (show 4 < 200 by decide))) (tg_ne (fm283 k9 hi9).2.2.1 tI5 (tnA (show 5 < 200 by decide)))), (fm283 k9 hi9).2.2.1, kq301.2 _ _ (fm283 k9 hi9).2.2.2.1 (orN (tg_ne (fm283 k9 hi9).2.2.2.2.1 tI4 (tnA (show 4 < 220 by decide))) (tg_ne (fm283 k9 hi9).2.2.2.2.1 tI5 (tnA (show 5 < 220 by decide)))), (fm283 k9 hi9).2.2.2.2.1, kq301.2 _ _ (fm283 k9 hi9).2.2.2.2.2.1 (orN (tg_ne (fm283 k9 hi9).2.2.2.2.2.2.1 tI4 (tnA (show 4 < 240 by decide))) (tg_ne (fm283 k9 hi9).2.2.2.2.2.2.1 tI5 (tnA (show 5 < 240 by decide)))), (fm283 k9 hi9).2.2.2.2.2.2.1, kq301.2 _ _ (fm283 k9 hi9).2.2.2.2.2.2.2.1 (orN (tg_ne (fm283 k9 hi9).2.2.2.2.2.2.2.2.1 tI4 (tnA (show 4 < 260 by decide))) (tg_ne (fm283 k9 hi9).2.2.2.2.2.2.2.2.1 tI5 (tnA (show 5 < 260 by decide)))), (fm283 k9 hi9).2.2.2.2.2.2.2.2.1, kq301.2 _ _ (fm283 k9 hi9).2.2.2.2.2.2.2.2.2.1 (orN (tg_ne (fm283 k9 hi9).2.2.2.2.2.2.2.2.2.2.1 tI4 (tnA (show 4 < 280 by decide))) (tg_ne (fm283 k9 hi9).2.2.2.2.2.2.2.2.2.2.1 tI5 (tnA (show 5 < 280 by decide)))), (fm283 k9 hi9).2.2.2.2.2.2.2.2.2.2.1, kq301.2 _ _ (fm283 k9 hi9).2.2.2.2.2.2.2.2.2.2.2.1 (orN (tg_ne (fm283 k9 hi9).2.2.2.2.2.2.2.2.2.2.2.2 tI4 (tnA (show 4 < 300 by decide))) (tg_ne (fm283 k9 hi9).2.2.2.2.2.2.2.2.2.2.2.2 tI5 (tnA (show 5 < 300 by decide)))), (fm283 k9 hi9).2.2.2.2.2.2.2.2.2.2.2.2⟩
            have fm331 : ∀ k9, k9 < pc → pf k9 = some (pa k9) ∧ wd_at w296 (pa k9) (.inr (3, [.int (plv k9), .int (pwo k9), .int (phd k9), .int (pgd k9), .int (pdy k9), .int (pno k9), .int (ptp k9)])) ∧ tg (pa k9) = 3000 + k9 := fun k9 hi9 => ⟨(fm285 k9 hi9).1, kq301.2 _ _ (fm285 k9 hi9).2.1 (orN (tg_ne (fm285 k9 hi9).2.2 tI4 (tnA (show 4 < 3000 by decide))) (tg_ne (fm285 k9 hi9).2.2 tI5 (tnA (show 5 < 3000 by decide)))), (fm285 k9 hi9).2.2⟩
            have fm332 : ∀ k9, k9 < ac → af k9 = some (ad k9) ∧ wd_at w296 (ad k9) (.inr (0, [.int (av0 k9), .int (av1 k9), .int (av2 k9), .int (av3 k9)])) ∧ tg (ad k9) = 4000 + k9 := fun k9 hi9 => ⟨(fm287 k9 hi9).1, kq301.2 _ _ (fm287 k9 hi9).2.1 (orN (tg_ne (fm287 k9 hi9).2.2 tI4 (tnA (show 4 < 4000 by decide))) (tg_ne (fm287 k9 hi9).2.2 tI5 (tnA (show 5 < 4000 by decide)))), (fm287 k9 hi9).2.2⟩
            have fm333 : ∀ k9, k9 < sc → zf k9 = some (so k9) ∧ wd_at w296 (so k9) (.inr (6, [.int (sp0 k9), .int (sp1 k9), .ref (sr k9)])) ∧ tg (so k9) = 5000 + k9 ∧ wd_at w296 (sr k9) (.inl (cy 2, 12, .inl (sd k9))) ∧ tg (sr k9) = 6000 + k9 := fun k9 hi9 => ⟨(fm289 k9 hi9).1, kq301.2 _ _ (fm289 k9 hi9).2.1 (orN (tg_ne (fm289 k9 hi9).2.2.1 tI4 (tnA (show 4 < 5000 by decide))) (tg_ne (fm289 k9 hi9).2.2.1 tI5 (tnA (show 5 < 5000 by decide)))), (fm289 k9 hi9).2.2.1, kq301.2 _ _ (fm289 k9 hi9).2.2.2.1 (orN (tg_ne (fm289 k9 hi9).2.2.2.2 tI4 (tnA (show 4 < 6000 by decide))) (tg_ne (fm289 k9 hi9).2.2.2.2 tI5 (tnA (show 5 < 6000 by decide)))), (fm289 k9 hi9).2.2.2.2⟩
            have fm334 : ∀ k9, k9 < sh → (hf k9 = some (sw k9) ∧ hto k9 < 12) ∧ wd_at w296 (sw k9) (.inr (5, [.int (nI (hto k9)), .int (hpp k9), .int (hle k9), .int (ham k9), .int (hhh k9), .int (hdd k9), .int (hru k9), .int (hde k9), .int (hcp k9), .int (hld k9)])) ∧ tg (sw k9) = 7000 + k9 := fun k9 hi9 => ⟨(fm291 k9 hi9).1, kq301.2 _ _ (fm291 k9 hi9).2.1 (orN (tg_ne (fm291 k9 hi9).2.2 tI4 (tnA (show 4 < 7000 by decide))) (tg_ne (fm291 k9 hi9).2.2 tI5 (tnA (show 5 < 7000 by decide)))), (fm291 k9 hi9).2.2⟩
            have kp335 := kp293.tr kq301 (fun b9 hm q9 => (fun q9 => Or.elim q9 (fun q9 => q9 ▸ (tgS tI4 (by decide))) (fun q9 => q9 ▸ (tgS tI5 (by decide)))) q9)
            refine W.eq (g2 := F0 m 68 ls [.ref b2, .int x2, .int x1, .ref q248, .ref q248, .int (nI sc), .ref a4]) rfl (W.widen (k := 1) (n := 3) (Nat.le_of_ble_eq_true rfl) (Nat.le_of_ble_eq_true rfl) ?_)
            refine lv_aload_n hx hb dX10_stop_68 rfl (lv_at hl 1 rfl) ?_
            refine x_get (ref := "NoteHouse") F hP k302 rfl (fun _ h => List.mem_cons_of_mem _ (List.mem_append_left _ (List.mem_append_left _ (List.mem_append_left _ (List.mem_append_right _ (h)))))) 12 (Nat.le_of_ble_eq_true rfl) (List.mem_cons_of_mem _ (List.mem_append_left _ (List.mem_append_left _ (List.mem_append_left _ (List.mem_append_left _ (List.mem_append_left _ (List.mem_of_getElem? (i := 6) rfl))))))) rfl rfl dX10_stop_69 ?_
            refine x_callI (ret := none) (n := 4) (As := [.int x1, .int x2, .ref b2, .int td]) (rest := [.ref q248, .int (nI sc), .ref a4]) F hP hD hS (g_stop_init l D cy sk sv w296 q248 b2 x1 x2 td dx297 k328 k299 (fun b => b = q248) rfl) gX10_stop_X6_init rfl (List.mem_cons_of_mem _ (List.mem_append_left _ (List.mem_append_left _ (List.mem_append_left _ (List.mem_append_left _ (List.mem_append_left _ (List.mem_of_getElem? (i := 4) rfl))))))) (List.mem_cons_of_mem _ (List.mem_append_left _ (List.mem_append_left _ (List.mem_append_left _ (List.mem_append_left _ (List.mem_append_right _ (List.mem_append_right _ (List.mem_of_getElem? (i := 4) rfl)))))))) (List.mem_cons_of_mem _ (List.mem_append_left _ (List.mem_append_left _ (List.mem_append_left _ (List.mem_append_left _ (List.mem_append_right _ (List.mem_append_right _ (List.mem_of_getElem? (i := 5) rfl)))))))) rfl (by decide +kernel) ⟨(Nat.le_of_ble_eq_true rfl), (Nat.le_of_ble_eq_true rfl)⟩ rfl hl.1 (Nat.le_of_ble_eq_true rfl) dX10_stop_72 rfl ⟨(Nat.le_of_ble_eq_true rfl), (Nat.le_of_ble_eq_true rfl)⟩ (fun v337 w338 hp336 H locs hP hD hS => ?_)
            obtain ⟨arx339, sdx340, rfl, kq342, k341, hq343, k344⟩ := hp336
            have fn345 : ∀ i9, i9 < 12 → (tn i9) ≠ arx339 := fun i9 hi9 => wd_nL hq343 (fm329 i9 hi9).2.1
            have fn346 : ∀ k9, k9 < 13 → (aa k9) ≠ arx339 ∧ (ga0 k9) ≠ arx339 ∧ (ga1 k9) ≠ arx339 ∧ (ga2 k9) ≠ arx339 ∧ (ga3 k9) ≠ arx339 ∧ (ga4 k9) ≠ arx339 := fun k9 hi9 => ⟨wd_nL hq343 (fm330 k9 hi9).2.1, wd_nL hq343 (fm330 k9 hi9).2.2.2.1, wd_nL hq343 (fm330 k9 hi9).2.2.2.2.2.1, wd_nL hq343 (fm330 k9 hi9).2.2.2.2.2.2.2.1, wd_nL hq343 (fm330 k9 hi9).2.2.2.2.2.2.2.2.2.1, wd_nL hq343 (fm330 k9 hi9).2.2.2.2.2.2.2.2.2.2.2.1⟩
            have fn347 : ∀ k9, k9 < pc → (pa k9) ≠ arx339 := fun k9 hi9 => wd_nL hq343 (fm331 k9 hi9).2.1
            have fn348 : ∀ k9, k9 < ac → (ad k9) ≠ arx339 := fun k9 hi9 => wd_nL hq343 (fm332 k9 hi9).2.1
            have fn349 : ∀ k9, k9 < sc → (so k9) ≠ arx339 ∧ (sr k9) ≠ arx339 := fun k9 hi9 => ⟨wd_nL hq343 (fm333 k9 hi9).2.1, wd_nL hq343 (fm333 k9 hi9).2.2.2.1⟩
            have fn350 : ∀ k9, k9 < sh → (sw k9) ≠ arx339 := fun k9 hi9 => wd_nL hq343 (fm334 k9 hi9).2.1
            have k351 := kq342.2 _ _ k302 (wd_nL hq251 kI0)
            have k352 := kq342.2 _ _ k303 (wd_nL hq251 kI1)
            have k353 := kq342.2 _ _ k304 (wd_nL hq251 kI2)
            have k354 := kq342.2 _ _ k305 (wd_nL hq251 kI3)
            have k355 := kq342.2 _ _ k299 (wd_nL hq251 kI4)
            have k356 := kq342.2 _ _ k300 (wd_nL hq251 kI5)
            have k357 := kq342.2 _ _ k306 (wd_nL hq251 kI6)
            have k358 := kq342.2 _ _ k307 (wd_nL hq251 kI7)
            have k359 := kq342.2 _ _ k308 (wd_nL hq251 kI8)
            have k360 := kq342.2 _ _ k309 (wd_nL hq251 kI9)
            have k361 := kq342.2 _ _ k310 (wd_nL hq251 kI10)
            have k362 := kq342.2 _ _ k311 (wd_nL hq251 kI11)
            have k363 := kq342.2 _ _ k312 (wd_nL hq251 kI12)
            have k364 := kq342.2 _ _ k313 (wd_nL hq251 kI13)
            have k365 := kq342.2 _ _ k314 (wd_nL hq251 kI14)
            have k366 := kq342.2 _ _ k315 (wd_nL hq251 kI15)
            have k367 := kq342.2 _ _ k316 (wd_nL hq251 kI16)
            have k368 := kq342.2 _ _ k317 (wd_nL hq251 kI17)
            have k369 := kq342.2 _ _ k318 (wd_nL hq251 kI18)
            have k370 := kq342.2 _ _ k319 (wd_nL hq251 kI19)
            have k371 := kq342.2 _ _ k320 (wd_nL hq251 kI20)
            have k372 := kq342.2 _ _ k321 (wd_nL hq251 kI21)
            have k373 := kq342.2 _ _ k322 (wd_nL hq251 kI22)
            have k374 := kq342.2 _ _ k323 (wd_nL hq251 kI23)
            have k375 := kq342.2 _ _ k324 (wd_nL hq251 kI24)
            have k376 := kq342.2 _ _ k325 (wd_nL hq251 kI25)
            have k377 := kq342.2 _ _ k326 (wd_nL hq251 kI26)
            have k378 := kq342.2 _ _ k327 (wd_nL hq251 k10)
            have fm379 : ∀ i9, i9 < 12 → tf i9 = some (tn i9) ∧ wd_at w338 (tn i9) (.inr (8, [.int (co i9), .int (ra i9), .int (se i9), .ref (ag i9)])) ∧ tg (tn i9) = 100 + i9 := fun i9 hi9 => ⟨(fm329 i9 hi9).1, kq342.2 _ _ (fm329 i9 hi9).2.1 (fn282 i9 hi9), (fm329 i9 hi9).2.2⟩
            have fm380 : ∀ k9, k9 < 13 → (aOK (cf k9) (nf k9) ∧ ru k9 ≤ 12) ∧ wd_at w338 (aa k9) (.inr (1, [.ref (ga0 k9), .ref (ga1 k9), .ref (ga2 k9), .ref (ga3 k9), .ref (ga4 k9), .int (nI (ru k9))])) ∧ tg (aa k9) = 200 + k9 ∧ wd_at w338 (ga0 k9) (.inl (cy 2, 12, .inl (df k9))) ∧ tg (ga0 k9) = 220 + k9 ∧ wd_at w338 (ga1 k9) (.inl (cy 2, 12, .inl (cf k9))) ∧ tg (ga1 k9) = 240 + k9 ∧ wd_at w338 (ga2 k9) (.inl (cy 2, 72, .inl (nf k9))) ∧ tg (ga2 k9) = 260 + k9 ∧ wd_at w338 (ga3 k9) (.inl (cy 1, 72, .inl (sf k9))) ∧ tg (ga3 k9) = 280 + k9 ∧ wd_at w338 (ga4 k9) (.inl (cy 2, 72, .inl (uf k9))) ∧ tg (ga4 k9) = 300 + k9 := fun k9 hi9 => ⟨(fm330 k9 hi9).1, kq342.2 _ _ (fm330 k9 hi9).2.1 ((fn284 k9 hi9).1), (fm330 k9 hi9).2.2.1, kq342.2 _ _ (fm330 k9 hi9).2.2.2.1 ((fn284 k9 hi9).2.1), (fm330 k9 hi9).2.2.2.2.1, kq342.2 _ _ (fm330 k9 hi9).2.2.2.2.2.1 ((fn284 k9 hi9).2.2.1), (fm330 k9 hi9).2.2.2.2.2.2.1, kq342.2 _ _ (fm330 k9 hi9).2.2.2.2.2.2.2.1 ((fn284 k9 hi9).2.2.2.1), (fm330 k9 hi9).2.2.2.2.2.2.2.2.1, kq342.2 _ _ (fm330 k9 hi9).2.2.2.2.2.2.2.2.2.1 ((fn284 k9 hi9).2.2.2.2.1), (fm330 k9 hi9).2.2.2.2.2.2.2.2.2.2.1, kq342.2 _ _ (fm330 k9 hi9).2.2.2.2.2.2.2.2.2.2.2.1 ((fn284 k9 hi9).2.2.2.2.2), (fm330 k9 hi9).2.2.2.2.2.2.2.2.2.2.2.2⟩
            have fm381 : ∀ k9, k9 < pc → pf k9 = some (pa k9) ∧ wd_at w338 (pa k9) (.inr (3, [.int (plv k9), .int (pwo k9), .int (phd k9), .int (pgd k9), .int (pdy k9), .int (pno k9), .int (ptp k9)])) ∧ tg (pa k9) = 3000 + k9 := fun k9 hi9 => ⟨(fm331 k9 hi9).1, kq342.2 _ _ (fm331 k9 hi9).2.1 (fn286 k9 hi9), (fm331 k9 hi9).2.2⟩
            have fm382 : ∀ k9, k9 < ac → af k9 = some (ad k9) ∧ wd_at w338 (ad k9) (.inr (0, [.int (av0 k9), .int (av1 k9), .int (av2 k9), .int (av3 k9)])) ∧ tg (ad k9) = 4000 + k9 := fun k9 hi9 => ⟨(fm332 k9 hi9).1, kq342.2 _ _ (fm332 k9 hi9).2.1 (fn288 k9 hi9), (fm332 k9 hi9).2.2⟩
            have fm383 : ∀ k9, k9 < sc → zf k9 = some (so k9) ∧ wd_at w338 (so k9) (.inr (6, [.int (sp0 k9), .int (sp1 k9), .ref (sr k9)])) ∧ tg (so k9) = 5000 + k9 ∧ wd_at w338 (sr k9) (.inl (cy 2, 12, .inl (sd k9))) ∧ tg (sr k9) = 6000 + k9 := fun k9 hi9 => ⟨(fm333 k9 hi9).1, kq342.2 _ _ (fm333 k9 hi9).2.1 ((fn290 k9 hi9).1), (fm333 k9 hi9).2.2.1, kq342.2 _ _ (fm333 k9 hi9).2.2.2.1 ((fn290 k9 hi9).2), (fm333 k9 hi9).2.2.2.2⟩
            have fm384 : ∀ k9, k9 < sh → (hf k9 = some (sw k9) ∧ hto k9 < 12) ∧ wd_at w338 (sw k9) (.inr (5, [.int (nI (hto k9)), .int (hpp k9), .int (hle k9), .int (ham k9), .int (hhh k9), .int (hdd k9), .int (hru k9), .int (hde k9), .int (hcp k9), .int (hld k9)])) ∧ tg (sw k9) = 7000 + k9 := fun k9 hi9 => ⟨(fm334 k9 hi9).1, kq342.2 _ _ (fm334 k9 hi9).2.1 (fn292 k9 hi9), (fm334 k9 hi9).2.2⟩
            have kp385 := kp335.tr kq342 (fun b9 hm q9 => (fun q9 => absurd (q9 ▸ hm) (kp0.out hq251)) q9)
            refine W.eq (g2 := F0 m 75 ls [.ref q248, .int (nI sc), .ref a4]) rfl (W.widen (k := 2) (n := 15) (Nat.le_of_ble_eq_true rfl) (Nat.le_of_ble_eq_true rfl) ?_)
            refine y_aast F hP hD hS k360 rfl k341 rfl (vp_in_nI (n := sc) (N := 60) (by omega) (by decide)) dX10_stop_75 (fun w386 ew387 H locs hP hD hS => ?_)
            have k388 := wd_at.pt ew387 k351 (tg_ne tI0 tI9 (by decide))
            have k389 := wd_at.pt ew387 k352 (tg_ne tI1 tI9 (by decide))
            have k390 := wd_at.pt ew387 k353 (tg_ne tI2 tI9 (by decide))
            have k391 := wd_at.pt ew387 k354 (tg_ne tI3 tI9 (by decide))
            have k392 := wd_at.pt ew387 k355 (tg_ne tI4 tI9 (by decide))
            have k393 := wd_at.pt ew387 k356 (tg_ne tI5 tI9 (by decide))
            have k394 := wd_at.pt ew387 k357 (tg_ne tI6 tI9 (by decide))
            have k395 := wd_at.pt ew387 k358 (tg_ne tI7 tI9 (by decide))
            have k396 := wd_at.pt ew387 k359 (tg_ne tI8 tI9 (by decide))
            have k397 : wd_at w386 a4 (.inl (cy 8, 60, .inr (.inr (.inr (.inr (va_up zf (nI sc).toNatClampNeg (some q248))))))) := wd_at.ps ew387 k360
            have k398 := wd_at.pt ew387 k361 (tg_ne tI10 tI9 (by decide))
            have k399 := wd_at.pt ew387 k362 (tg_ne tI11 tI9 (by decide))
            have k400 := wd_at.pt ew387 k363 (tg_ne tI12 tI9 (by decide))
            have k401 := wd_at.pt ew387 k364 (tg_ne tI13 tI9 (by decide))
            have k402 := wd_at.pt ew387 k365 (tg_ne tI14 tI9 (by decide))
            have k403 := wd_at.pt ew387 k366 (tg_ne tI15 tI9 (by decide))
            have k404 := wd_at.pt ew387 k367 (tg_ne tI16 tI9 (by decide))
            have k405 := wd_at.pt ew387 k368 (tg_ne tI17 tI9 (by decide))
            have k406 := wd_at.pt ew387 k369 (tg_ne tI18 tI9 (by decide))
            have k407 := wd_at.pt ew387 k370 (tg_ne tI19 tI9 (by decide))
            have k408 := wd_at.pt ew387 k371 (tg_ne tI20 tI9 (by decide))
            have k409 := wd_at.pt ew387 k372 (tg_ne tI21 tI9 (by decide))
            have k410 := wd_at.pt ew387 k373 (tg_ne tI22 tI9 (by decide))
            have k411 := wd_at.pt ew387 k374 (tg_ne tI23 tI9 (tnA (show 9 < 30 by decide)))
            have k412 := wd_at.pt ew387 k375 (tg_ne tI24 tI9 (tnA (show 9 < 32 by decide)))
            have k413 := wd_at.pt ew387 k376 (tg_ne tI25 tI9 (tnA (show 9 < 30 by decide)))
            have k414 := wd_at.pt ew387 k377 (tg_ne tI26 tI9 (tnA (show 9 < 32 by decide)))
            have k415 := wd_at.pt ew387 k378 (tg_ne tz11 tI9 (tnA (show 9 < 3000 by decide)))
            have k416 := wd_at.pt ew387 k341 (Ne.symm (wd_nL hq251 kI9))
            have k417 := wd_at.pt ew387 k344 (Ne.symm (wd_nL hq343 k309))
            have fm418 : ∀ i9, i9 < 12 → tf i9 = some (tn i9) ∧ wd_at w386 (tn i9) (.inr (8, [.int (co i9), .int (ra i9), .int (se i9), .ref (ag i9)])) ∧ tg (tn i9) = 100 + i9 := fun i9 hi9 => ⟨(fm379 i9 hi9).1, wd_at.pt ew387 (fm379 i9 hi9).2.1 (tg_ne (fm379 i9 hi9).2.2 tI9 (tnA (show 9 < 100 by decide))), (fm379 i9 hi9).2.2⟩
            have fm419 : ∀ k9, k9 < 13 → (aOK (cf k9) (nf k9) ∧ ru k9 ≤ 12) ∧ wd_at w386 (aa k9) (.inr (1, [.ref (ga0 k9), .ref (ga1 k9), .ref (ga2 k9), .ref (ga3 k9), .ref (ga4 k9), .int (nI (ru k9))])) ∧ tg (aa k9) = 200 + k9 ∧ wd_at w386 (ga0 k9) (.inl (cy 2, 12, .inl (df k9))) ∧ tg (ga0 k9) = 220 + k9 ∧ wd_at w386 (ga1 k9) (.inl (cy 2, 12, .inl (cf k9))) ∧ tg (ga1 k9) = 240 + k9 ∧ wd_at w386 (ga2 k9) (.inl (cy 2, 72, .inl (nf k9))) ∧ tg (ga2 k9) = 260 + k9 ∧ wd_at w386 (ga3 k9) (.inl (cy 1, 72, .inl (sf k9))) ∧ tg (ga3 k9) = 280 + k9 ∧ wd_at w386 (ga4 k9) (.inl (cy 2, 72, .inl (uf k9))) ∧ tg (ga4 k9) = 300 + k9 := fun k9 hi9 => ⟨(fm380 k9 hi9).1, wd_at.pt ew387 (fm380 k9 hi9).2.1 (tg_ne (fm380 k9 hi9).2.2.1 tI9 (tnA (show 9 < 200 by decide))), (fm380 k9 hi9).2.2.1, wd_at.pt ew387 (fm380 k9 hi9).2.2.2.1 (tg_ne (fm380 k9 hi9).2.2.2.2.1 tI9 (tnA (show 9 < 220 by decide))), (fm380 k9 hi9).2.2.2.2.1, wd_at.pt ew387 (fm380 k9 hi9).2.2.2.2.2.1 (tg_ne (fm380 k9 hi9).2.2.2.2.2.2.1 tI9 (tnA (show 9 < 240 by decide))), (fm380 k9 hi9).2.2.2.2.2.2.1, wd_at.pt ew387 (fm380 k9 hi9).2.2.2.2.2.2.2.1 (tg_ne (fm380 k9 hi9).2.2.2.2.2.2.2.2.1 tI9 (tnA (show 9 < 260 by decide))), (fm380 k9 hi9).2.2.2.2.2.2.2.2.1, wd_at.pt ew387 (fm380 k9 hi9).2.2.2.2.2.2.2.2.2.1 (tg_ne (fm380 k9 hi9).2.2.2.2.2.2.2.2.2.2.1 tI9 (tnA (show 9 < 280 by decide))), (fm380 k9 hi9).2.2.2.2.2.2.2.2.2.2.1, wd_at.pt ew387 (fm380 k9 hi9).2.2.2.2.2.2.2.2.2.2.2.1 (tg_ne (fm380 k9 hi9).2.2.2.2.2.2.2.2.2.2.2.2 tI9 (tnA (show 9 < 300 by decide))), (fm380 k9 hi9).2.2.2.2.2.2.2.2.2.2.2.2⟩
            have fm420 : ∀ k9, k9 < pc → pf k9 = some (pa k9) ∧ wd_at w386 (pa k9) (.inr (3, [.int (plv k9), .int (pwo k9), .int (phd k9), .int (pgd k9), .int (pdy k9), .int (pno k9), .int (ptp k9)])) ∧ tg (pa k9) = 3000 + k9 := fun k9 hi9 => ⟨(fm381 k9 hi9).1, wd_at.pt ew387 (fm381 k9 hi9).2.1 (tg_ne (fm381 k9 hi9).2.2 tI9 (tnA (show 9 < 3000 by decide))), (fm381 k9 hi9).2.2⟩
            have fm421 : ∀ k9, k9 < ac → af k9 = some (ad k9) ∧ wd_at w386 (ad k9) (.inr (0, [.int (av0 k9), .int (av1 k9), .int (av2 k9), .int (av3 k9)])) ∧ tg (ad k9) = 4000 + k9 := fun k9 hi9 => ⟨(fm382 k9 hi9).1, wd_at.pt ew387 (fm382 k9 hi9).2.1 (tg_ne (fm382 k9 hi9).2.2 tI9 (tnA (show 9 < 4000 by decide))), (fm382 k9 hi9).2.2⟩
            have fm422 : ∀ k9, k9 < sc → zf k9 = some (so k9) ∧ wd_at w386 (so k9) (.inr (6, [.int (sp0 k9), .int (sp1 k9), .ref (sr k9)])) ∧ tg (so k9) = 5000 + k9 ∧ wd_at w386 (sr k9) (.inl (cy 2, 12, .inl (sd k9))) ∧ tg (sr k9) = 6000 + k9 := fun k9 hi9 => ⟨(fm383 k9 hi9).1, wd_at.pt ew387 (fm383 k9 hi9).2.1 (tg_ne (fm383 k9 hi9).2.2.1 tI9 (tnA (show 9 < 5000 by decide))), (fm383 k9 hi9).2.2.1, wd_at.pt ew387 (fm383 k9 hi9).2.2.2.1 (tg_ne (fm383 k9 hi9).2.2.2.2 tI9 (tnA (show 9 < 6000 by decide))), (fm383 k9 hi9).2.2.2.2⟩
            have fm423 : ∀ k9, k9 < sh → (hf k9 = some (sw k9) ∧ hto k9 < 12) ∧ wd_at w386 (sw k9) (.inr (5, [.int (nI (hto k9)), .int (hpp k9), .int (hle k9), .int (ham k9), .int (hhh k9), .int (hdd k9), .int (hru k9), .int (hde k9), .int (hcp k9), .int (hld k9)])) ∧ tg (sw k9) = 7000 + k9 := fun k9 hi9 => ⟨(fm384 k9 hi9).1, wd_at.pt ew387 (fm384 k9 hi9).2.1 (tg_ne (fm384 k9 hi9).2.2 tI9 (tnA (show 9 < 7000 by decide))), (fm384 k9 hi9).2.2⟩
            have kp424 := kp385.put ew387 (tgS tI9 (by decide))
            refine lv_aload_n hx hb dX10_stop_76 rfl (lv_at hl 1 rfl) ?_
            refine lv_dup hx hb dX10_stop_77 rfl ?_
            refine x_get (ref := "NoteHouse") F hP k388 rfl (fun _ h => List.mem_cons_of_mem _ (List.mem_append_left _ (List.mem_append_left _ (List.mem_append_left _ (List.mem_append_right _ (h)))))) 15 (Nat.le_of_ble_eq_true rfl) (List.mem_cons_of_mem _ (List.mem_append_left _ (List.mem_append_left _ (List.mem_append_left _ (List.mem_append_left _ (List.mem_append_left _ (List.mem_of_getElem? (i := 0) rfl))))))) rfl rfl dX10_stop_78 ?_
            refine lv_iconst (v := 1) hx hb dX10_stop_81 (by decide) ?_
            refine lv_iadd hx hb dX10_stop_82 ?_
            rw [show ((nI sc) + 1 : Int32) = nI (sc + 1) from nI_add sc 1]
            refine y_put (ref := "NoteHouse") F hP hD hS k388 rfl (fun _ h => List.mem_cons_of_mem _ (List.mem_append_left _ (List.mem_append_left _ (List.mem_append_left _ (List.mem_append_right _ (h)))))) tyX10_ok nmX10 15 (Nat.le_of_ble_eq_true rfl) (List.mem_cons_of_mem _ (List.mem_append_left _ (List.mem_append_left _ (List.mem_append_left _ (List.mem_append_left _ (List.mem_append_left _ (List.mem_of_getElem? (i := 0) rfl))))))) rfl rfl rfl rfl (Nat.le_of_ble_eq_true rfl) dX10_stop_83 (fun w425 ew426 H locs hP hD hS => ?_)
            have k427 : wd_at w425 x (.inr (10, [.ref a0, .ref a1, .ref a2, .ref a3, .ref a4, .ref a5, .ref a6, .ref a7, .ref a8, .ref (aa sg), .ref a10, .ref a11, .int td, .int (nI pc), .int (nI ac), .int (nI (sc + 1)), .int (nI sh)])) := wd_at.ps ew426 k388
            have k428 := wd_at.pt ew426 k389 (tg_ne tI1 tI0 (by decide))
            have k429 := wd_at.pt ew426 k390 (tg_ne tI2 tI0 (by decide))
            have k430 := wd_at.pt ew426 k391 (tg_ne tI3 tI0 (by decide))
            have k431 := wd_at.pt ew426 k392 (tg_ne tI4 tI0 (by decide))
            have k432 := wd_at.pt ew426 k393 (tg_ne tI5 tI0 (by decide))
            have k433 := wd_at.pt ew426 k394 (tg_ne tI6 tI0 (by decide))
            have k434 := wd_at.pt ew426 k395 (tg_ne tI7 tI0 (by decide))
            have k435 := wd_at.pt ew426 k396 (tg_ne tI8 tI0 (by decide))
            have k436 := wd_at.pt ew426 k397 (tg_ne tI9 tI0 (by decide))
            have k437 := wd_at.pt ew426 k398 (tg_ne tI10 tI0 (by decide))
            have k438 := wd_at.pt ew426 k399 (tg_ne tI11 tI0 (by decide))
            have k439 := wd_at.pt ew426 k400 (tg_ne tI12 tI0 (by decide))
            have k440 := wd_at.pt ew426 k401 (tg_ne tI13 tI0 (by decide))
            have k441 := wd_at.pt ew426 k402 (tg_ne tI14 tI0 (by decide))
            have k442 := wd_at.pt ew426 k403 (tg_ne tI15 tI0 (by decide))
            have k443 := wd_at.pt ew426 k404 (tg_ne tI16 tI0 (by decide))
            have k444 := wd_at.pt ew426 k405 (tg_ne tI17 tI0 (by decide))
            have k445 := wd_at.pt ew426 k406 (tg_ne tI18 tI0 (by decide))
            have k446 := wd_at.pt ew426 k407 (tg_ne tI19 tI0 (by decide))
            have k447 := wd_at.pt ew426 k408 (tg_ne tI20 tI0 (by decide))
            have k448 := wd_at.pt ew426 k409 (tg_ne tI21 tI0 (by decide))
            have k449 := wd_at.pt ew426 k410 (tg_ne tI22 tI0 (by decide))
            have k450 := wd_at.pt ew426 k411 (tg_ne tI23 tI0 (tnA (show 0 < 30 by decide)))
            have k451 := wd_at.pt ew426 k412 (tg_ne tI24 tI0 (tnA (show 0 < 32 by decide)))
            have k452 := wd_at.pt ew426 k413 (tg_ne tI25 tI0 (tnA (show 0 < 30 by decide)))
            have k453 := wd_at.pt ew426 k414 (tg_ne tI26 tI0 (tnA (show 0 < 32 by decide)))
            have k454 := wd_at.pt ew426 k415 (tg_ne tz11 tI0 (tnA (show 0 < 3000 by decide)))
            have k455 := wd_at.pt ew426 k416 (Ne.symm (wd_nL hq251 kI0))
            have k456 := wd_at.pt ew426 k417 (Ne.symm (wd_nL hq343 k302))
            have fm457 : ∀ i9, i9 < 12 → tf i9 = some (tn i9) ∧ wd_at w425 (tn i9) (.inr (8, [.int (co i9), .int (ra i9), .int (se i9), .ref (ag i9)])) ∧ tg (tn i9) = 100 + i9 := fun i9 hi9 => ⟨(fm418 i9 hi9).1, wd_at.pt ew426 (fm418 i9 hi9).2.1 (tg_ne (fm418 i9 hi9).2.2 tI0 (tnA (show 0 < 100 by decide))), (fm418 i9 hi9).2.2⟩
            have fm458 : ∀ k9, k9 < 13 → (aOK (cf k9) (nf k9) ∧ ru k9 ≤ 12) ∧ wd_at w425 (aa k9) (.inr (1, [.ref (ga0 k9), .ref (ga1 k9), .ref (ga2 k9), .ref (ga3 k9), .ref (ga4 k9), .int (nI (ru k9))])) ∧ tg (aa k9) = 200 + k9 ∧ wd_at w425 (ga0 k9) (.inl (cy 2, 12, .inl (df k9))) ∧ tg (ga0 k9) = 220 + k9 ∧ wd_at w425 (ga1 k9) (.inl (cy 2, 12, .inl (cf k9))) ∧ tg (ga1 k9) = 240 + k9 ∧ wd_at w425 (ga2 k9) (.inl (cy 2, 72, .inl (nf k9))) ∧ tg (ga2 k9) = 260 + k9 ∧ wd_at w425 (ga3 k9) (.inl (cy 1, 72, .inl (sf k9))) ∧ tg (ga3 k9) = 280 + k9 ∧ wd_at w425 (ga4 k9) (.inl (cy 2, 72, .inl (uf k9))) ∧ tg (ga4 k9) = 300 + k9 := fun k9 hi9 => ⟨(fm419 k9 hi9).1, wd_at.pt ew426 (fm419 k9 hi9).2.1 (tg_ne (fm419 k9 hi9).2.2.1 tI0 (tnA (show 0 < 200 by decide))), (fm419 k9 hi9).2.2.1, wd_at.pt ew426 (fm419 k9 hi9).2.2.2.1 (tg_ne (fm419 k9 hi9).2.2.2.2.1 tI0 (tnA (show 0 < 220 by decide))), (fm419 k9 hi9).2.2.2.2.1, wd_at.pt ew426 (fm419 k9 hi9).2.2.2.2.2.1 (tg_ne (fm419 k9 hi9).2.2.2.2.2.2.1 tI0 (tnA (show 0 < 240 by decide))), (fm419 k9 hi9).2.2.2.2.2.2.1, wd_at.pt ew426 (fm419 k9 hi9).2.2.2.2.2.2.2.1 (tg_ne (fm419 k9 hi9).2.2.2.2.2.2.2.2.1 tI0 (tnA (show 0 < 260 by decide))), (fm419 k9 hi9).2.2.2.2.2.2.2.2.1, wd_at.pt ew426 (fm419 k9 hi9).2.2.2.2.2.2.2.2.2.1 (tg_ne (fm419 k9 hi9).2.2.2.2.2.2.2.2.2.2.1 tI0 (tnA (show 0 < 280 by decide))), (fm419 k9 hi9).2.2.2.2.2.2.2.2.2.2.1, wd_at.pt ew426 (fm419 k9 hi9).2.2.2.2.2.2.2.2.2.2.2.1 (tg_ne (fm419 k9 hi9).2.2.2.2.2.2.2.2.2.2.2.2 tI0 (tnA (show 0 < 300 by decide))), (fm419 k9 hi9).2.2.2.2.2.2.2.2.2.2.2.2⟩
            have fm459 : ∀ k9, k9 < pc → pf k9 = some (pa k9) ∧ wd_at w425 (pa k9) (.inr (3, [.int (plv k9), .int (pwo k9), .int (phd k9), .int (pgd k9), .int (pdy k9), .int (pno k9), .int (ptp k9)])) ∧ tg (pa k9) = 3000 + k9 := fun k9 hi9 => ⟨(fm420 k9 hi9).1, wd_at.pt ew426 (fm420 k9 hi9).2.1 (tg_ne (fm420 k9 hi9).2.2 tI0 (tnA (show 0 < 3000 by decide))), (fm420 k9 hi9).2.2⟩
            have fm460 : ∀ k9, k9 < ac → af k9 = some (ad k9) ∧ wd_at w425 (ad k9) (.inr (0, [.int (av0 k9), .int (av1 k9), .int (av2 k9), .int (av3 k9)])) ∧ tg (ad k9) = 4000 + k9 := fun k9 hi9 => ⟨(fm421 k9 hi9).1, wd_at.pt ew426 (fm421 k9 hi9).2.1 (tg_ne (fm421 k9 hi9).2.2 tI0 (tnA (show 0 < 4000 by decide))), (fm421 k9 hi9).2.2⟩
            have fm461 : ∀ k9, k9 < sc → zf k9 = some (so k9) ∧ wd_at w425 (so k9) (.inr (6, [.int (sp0 k9), .int (sp1 k9), .ref (sr k9)])) ∧ tg (so k9) = 5000 + k9 ∧ wd_at w425 (sr k9) (.inl (cy 2, 12, .inl (sd k9))) ∧ tg (sr k9) = 6000 + k9 := fun k9 hi9 => ⟨(fm422 k9 hi9).1, wd_at.pt ew426 (fm422 k9 hi9).2.1 (tg_ne (fm422 k9 hi9).2.2.1 tI0 (tnA (show 0 < 5000 by decide))), (fm422 k9 hi9).2.2.1, wd_at.pt ew426 (fm422 k9 hi9).2.2.2.1 (tg_ne (fm422 k9 hi9).2.2.2.2 tI0 (tnA (show 0 < 6000 by decide))), (fm422 k9 hi9).2.2.2.2⟩
            have fm462 : ∀ k9, k9 < sh → (hf k9 = some (sw k9) ∧ hto k9 < 12) ∧ wd_at w425 (sw k9) (.inr (5, [.int (nI (hto k9)), .int (hpp k9), .int (hle k9), .int (ham k9), .int (hhh k9), .int (hdd k9), .int (hru k9), .int (hde k9), .int (hcp k9), .int (hld k9)])) ∧ tg (sw k9) = 7000 + k9 := fun k9 hi9 => ⟨(fm423 k9 hi9).1, wd_at.pt ew426 (fm423 k9 hi9).2.1 (tg_ne (fm423 k9 hi9).2.2 tI0 (tnA (show 0 < 7000 by decide))), (fm423 k9 hi9).2.2⟩
            have kp463 := kp424.put ew426 (tgS tI0 (by decide))
            refine lv_aload_n hx hb dX10_stop_86 rfl (lv_at hl 1 rfl) ?_
            refine x_get (ref := "NoteHouse") F hP k427 rfl (fun _ h => List.mem_cons_of_mem _ (List.mem_append_left _ (List.mem_append_left _ (List.mem_append_left _ (List.mem_append_right _ (h)))))) 15 (Nat.le_of_ble_eq_true rfl) (List.mem_cons_of_mem _ (List.mem_append_left _ (List.mem_append_left _ (List.mem_append_left _ (List.mem_append_left _ (List.mem_append_left _ (List.mem_of_getElem? (i := 0) rfl))))))) rfl rfl dX10_stop_87 ?_
            refine lv_iconst (v := 1) hx hb dX10_stop_90 (by decide) ?_
            refine lv_isub hx hb dX10_stop_91 ?_
            rw [show ((nI (sc + 1)) - 1 : Int32) = nI ((sc + 1) - 1) from pk_sub (a := (sc + 1)) (b := 1) (by omega)]
            have fm465 : ∀ i9, i9 < 12 → tf i9 = some (tn i9) ∧ wd_at w425 (tn i9) (.inr (8, [.int (co i9), .int (ra i9), .int (se i9), .ref (ag i9)])) ∧ (va_up (va_up tg q248 (5000 + sc)) arx339 (6000 + sc)) (tn i9) = 100 + i9 := fun i9 hi9 => ⟨(fm457 i9 hi9).1, (fm457 i9 hi9).2.1, ((va_up_ne _ _ (fn345 i9 hi9)).trans ((va_up_ne _ _ (fn282 i9 hi9)).trans (fm457 i9 hi9).2.2))⟩
            have fm466 : ∀ k9, k9 < 13 → (aOK (cf k9) (nf k9) ∧ ru k9 ≤ 12) ∧ wd_at w425 (aa k9) (.inr (1, [.ref (ga0 k9), .ref (ga1 k9), .ref (ga2 k9), .ref (ga3 k9), .ref (ga4 k9), .int (nI (ru k9))])) ∧ (va_up (va_up tg q248 (5000 + sc)) arx339 (6000 + sc)) (aa k9) = 200 + k9 ∧ wd_at w425 (ga0 k9) (.inl (cy 2, 12, .inl (df k9))) ∧ (va_up (va_up tg q248 (5000 + sc)) arx339 (6000 + sc)) (ga0 k9) = 220 + k9 ∧ wd_at w425 (ga1 k9) (.inl (cy 2, 12, .inl (cf k9))) ∧ (va_up (va_up tg q248 (5000 + sc)) arx339 (6000 + sc)) (ga1 k9) = 240 + k9 ∧ wd_at w425 (ga2 k9) (.inl (cy 2, 72, .inl (nf k9))) ∧ (va_up (va_up tg q248 (5000 + sc)) arx339 (6000 + sc)) (ga2 k9) = 260 + k9 ∧ wd_at w425 (ga3 k9) (.inl (cy 1, 72, .inl (sf k9))) ∧ (va_up (va_up tg q248 (5000 + sc)) arx339 (6000 + sc)) (ga3 k9) = 280 + k9 ∧ wd_at w425 (ga4 k9) (.inl (cy 2, 72, .inl (uf k9))) ∧ (va_up (va_up tg q248 (5000 + sc)) arx339 (6000 + sc)) (ga4 k9) = 300 + k9 := fun k9 hi9 => ⟨(fm458 k9 hi9).1, (fm458 k9 hi9).2.1, ((va_up_ne _ _ ((fn346 k9 hi9).1)).trans ((va_up_ne _ _ ((fn284 k9 hi9).1)).trans (fm458 k9 hi9).2.2.1)), (fm458 k9 hi9).2.2.2.1, ((va_up_ne _ _ ((fn346 k9 hi9).2.1)).trans ((va_up_ne _ _ ((fn284 k9 hi9).2.1)).trans (fm458 k9 hi9).2.2.2.2.1)), (fm458 k9 hi9).2.2.2.2.2.1, ((va_up_ne _ _ ((fn346 k9 hi9).2.2.1)).trans ((va_up_ne _ _ ((fn284 k9 hi9).2.2.1)).trans (fm458 k9 hi9).2.2.2.2.2.2.1)), (fm458 k9 hi9).2.2.2.2.2.2.2.1, ((va_up_ne _ _ ((fn346 k9 hi9).2.2.2.1)).trans ((va_up_ne _ _ ((fn284 k9 hi9).2.2.2.1)).trans (fm458 k9 hi9).2.2.2.2.2.2.2.2.1)), (fm458 k9 hi9).2.2.2.2.2.2.2.2.2.1, ((va_up_ne _ _ ((fn346 k9 hi9).2.2.2.2.1)).trans ((va_up_ne _ _ ((fn284 k9 hi9).2.2.2.2.1)).trans (fm458 k9 hi9).2.2.2.2.2.2.2.2.2.2.1)), (fm458 k9 hi9).2.2.2.2.2.2.2.2.2.2.2.1, ((va_up_ne _ _ ((fn346 k9 hi9).2.2.2.2.2)).trans ((va_up_ne _ _ ((fn284 k9 hi9).2.2.2.2.2)).trans (fm458 k9 hi9).2.2.2.2.2.2.2.2.2.2.2.2))⟩
            have fm467 : ∀ k9, k9 < pc → pf k9 = some (pa k9) ∧ wd_at w425 (pa k9) (.inr (3, [.int (plv k9), .int (pwo k9), .int (phd k9), .int (pgd k9), .int (pdy k9), .int (pno k9), .int (ptp k9)])) ∧ (va_up (va_up tg q248 (5000 + sc)) arx339 (6000 + sc)) (pa k9) = 3000 + k9 := fun k9 hi9 => ⟨(fm459 k9 hi9).1, (fm459 k9 hi9).2.1, ((va_up_ne _ _ (fn347 k9 hi9)).trans ((va_up_ne _ _ (fn286 k9 hi9)).trans (fm459 k9 hi9).2.2))⟩
            have fm468 : ∀ k9, k9 < ac → af k9 = some (ad k9) ∧ wd_at w425 (ad k9) (.inr (0, [.int (av0 k9), .int (av1 k9), .int (av2 k9), .int (av3 k9)])) ∧ (va_up (va_up tg q248 (5000 + sc)) arx339 (6000 + sc)) (ad k9) = 4000 + k9 := fun k9 hi9 => ⟨(fm460 k9 hi9).1, (fm460 k9 hi9).2.1, ((va_up_ne _ _ (fn348 k9 hi9)).trans ((va_up_ne _ _ (fn288 k9 hi9)).trans (fm460 k9 hi9).2.2))⟩
            have fm469 : ∀ k9, k9 < sc → zf k9 = some (so k9) ∧ wd_at w425 (so k9) (.inr (6, [.int (sp0 k9), .int (sp1 k9), .ref (sr k9)])) ∧ (va_up (va_up tg q248 (5000 + sc)) arx339 (6000 + sc)) (so k9) = 5000 + k9 ∧ wd_at w425 (sr k9) (.inl (cy 2, 12, .inl (sd k9))) ∧ (va_up (va_up tg q248 (5000 + sc)) arx339 (6000 + sc)) (sr k9) = 6000 + k9 := fun k9 hi9 => ⟨(fm461 k9 hi9).1, (fm461 k9 hi9).2.1, ((va_up_ne _ _ ((fn349 k9 hi9).1)).trans ((va_up_ne _ _ ((fn290 k9 hi9).1)).trans (fm461 k9 hi9).2.2.1)), (fm461 k9 hi9).2.2.2.1, ((va_up_ne _ _ ((fn349 k9 hi9).2)).trans ((va_up_ne _ _ ((fn290 k9 hi9).2)).trans (fm461 k9 hi9).2.2.2.2))⟩
            have fm470 : ∀ k9, k9 < sh → (hf k9 = some (sw k9) ∧ hto k9 < 12) ∧ wd_at w425 (sw k9) (.inr (5, [.int (nI (hto k9)), .int (hpp k9), .int (hle k9), .int (ham k9), .int (hhh k9), .int (hdd k9), .int (hru k9), .int (hde k9), .int (hcp k9), .int (hld k9)])) ∧ (va_up (va_up tg q248 (5000 + sc)) arx339 (6000 + sc)) (sw k9) = 7000 + k9 := fun k9 hi9 => ⟨(fm462 k9 hi9).1, (fm462 k9 hi9).2.1, ((va_up_ne _ _ (fn350 k9 hi9)).trans ((va_up_ne _ _ (fn292 k9 hi9)).trans (fm462 k9 hi9).2.2))⟩
            have k471 : wd_at w425 a4 (.inl (cy 8, 60, .inr (.inr (.inr (.inr (va_up zf sc (some q248))))))) := by have h9 := k436; rw [nI_clamp (n := sc) (by omega)] at h9; exact h9
            have fm472 : ∀ k9, k9 < (sc + 1) → (va_up zf sc (some q248)) k9 = some ((va_up so sc q248) k9) ∧ wd_at w425 ((va_up so sc q248) k9) (.inr (6, [.int ((va_up sp0 sc x1) k9), .int ((va_up sp1 sc x2) k9), .ref ((va_up sr sc arx339) k9)])) ∧ (va_up (va_up tg q248 (5000 + sc)) arx339 (6000 + sc)) ((va_up so sc q248) k9) = 5000 + k9 ∧ wd_at w425 ((va_up sr sc arx339) k9) (.inl (cy 2, 12, .inl ((va_up sd sc sdx340) k9))) ∧ (va_up (va_up tg q248 (5000 + sc)) arx339 (6000 + sc)) ((va_up sr sc arx339) k9) = 6000 + k9 := by
              intro k9 hi9
              by_cases e9 : k9 = sc
              · rw [e9]
                exact ⟨(by rw [va_up_self, va_up_self]), (by simp only [va_up_self]; exact k455), (by rw [va_up_self]; exact ((va_up_ne _ _ (wd_nL hq343 k328)).trans (va_up_self _ _ _))), (by simp only [va_up_self]; exact k456), (by rw [va_up_self]; exact (va_up_self _ _ _))⟩
              · simp only [va_up_ne _ _ e9]
                exact fm469 k9 (by omega)
            have hX473 : IX cy (va_up (va_up tg q248 (5000 + sc)) arx339 (6000 + sc)) x td pc ac (sc + 1) ln se plv w425 := IX.mk a0 a1 a2 a3 a4 a5 a6 a7 a8 a10 a11 b0 b1 b2 b3 tb l0 l1 l2 l3 l4 l5 l6 l7 bl bm sh gc sg lu lv9 f0 f1 dx297 px298 tbf e0 e1 e4 e5 e7 ff bf bf2 e2 e3 e6 ta sz fo to fo2 to2 tf tn ag co ra aa ru ga0 ga1 ga2 ga3 ga4 df cf nf sf uf pf pa pwo phd pgd pdy pno ptp af ad av0 av1 av2 av3 (va_up zf sc (some q248)) (va_up so sc q248) (va_up sr sc arx339) (va_up sp0 sc x1) (va_up sp1 sc x2) (va_up sd sc sdx340) hf sw hto hpp hle ham hhh hdd hru hde hcp hld (by omega) (by omega) (by omega) (by omega) (by omega) (by omega) (by omega) (by omega) hag k427 ((va_up_ne _ _ (wd_nL hq343 k302)).trans ((va_up_ne _ _ (wd_nL hq251 kI0)).trans tI0)) k428 ((va_up_ne _ _ (wd_nL hq343 k303)).trans ((va_up_ne _ _ (wd_nL hq251 kI1)).trans tI1)) k429 ((va_up_ne _ _ (wd_nL hq343 k304)).trans ((va_up_ne _ _ (wd_nL hq251 kI2)).trans tI2)) k430 ((va_up_ne _ _ (wd_nL hq343 k305)).trans ((va_up_ne _ _ (wd_nL hq251 kI3)).trans tI3)) k431 ((va_up_ne _ _ (wd_nL hq343 k299)).trans ((va_up_ne _ _ (wd_nL hq251 kI4)).trans tI4)) k432 ((va_up_ne _ _ (wd_nL hq343 k300)).trans ((va_up_ne _ _ (wd_nL hq251 kI5)).trans tI5)) k433 ((va_up_ne _ _ (wd_nL hq343 k306)).trans ((va_up_ne _ _ (wd_nL hq251 kI6)).trans tI6)) k434 ((va_up_ne _ _ (wd_nL hq343 k307)).trans ((va_up_ne _ _ (wd_nL hq251 kI7)).trans tI7)) k435 ((va_up_ne _ _ (wd_nL hq343 k308)).trans ((va_up_ne _ _ (wd_nL hq251 kI8)).trans tI8)) k471 ((va_up_ne _ _ (wd_nL hq343 k309)).trans ((va_up_ne _ _ (wd_nL hq251 kI9)).trans tI9)) k437 ((va_up_ne _ _ (wd_nL hq343 k310)).trans ((va_up_ne _ _ (wd_nL hq251 kI10)).trans tI10)) k438 ((va_up_ne _ _ (wd_nL hq343 k311)).trans ((va_up_ne _ _ (wd_nL hq251 kI11)).trans tI11)) k439 ((va_up_ne _ _ (wd_nL hq343 k312)).trans ((va_up_ne _ _ (wd_nL hq251 kI12)).trans tI12)) k440 ((va_up_ne _ _ (wd_nL hq343 k313)).trans ((va_up_ne _ _ (wd_nL hq251 kI13)).trans tI13)) k441 ((va_up_ne _ _ (wd_nL hq343 k314)).trans ((va_up_ne _ _ (wd_nL hq251 kI14)).trans tI14)) k442 ((va_up_ne _ _ (wd_nL hq343 k315)).trans ((va_up_ne _ _ (wd_nL hq251 kI15)).trans tI15)) k443 ((va_up_ne _ _ (wd_nL hq343 k316)).trans ((va_up_ne _ _ (wd_nL hq251 kI16)).trans tI16)) k444 ((va_up_ne _ _ (wd_nL hq343 k317)).trans ((va_up_ne _ _ (wd_nL hq251 kI17)).trans tI17)) k445 ((va_up_ne _ _ (wd_nL hq343 k318)).trans ((va_up_ne _ _ (wd_nL hq251 kI18)).trans tI18)) k446 ((va_up_ne _ _ (wd_nL hq343 k319)).trans ((va_up_ne _ _ (wd_nL hq251 kI19)).trans tI19)) k447 ((va_up_ne _ _ (wd_nL hq343 k320)).trans ((va_up_ne _ _ (wd_nL hq251 kI20)).trans tI20)) k448 ((va_up_ne _ _ (wd_nL hq343 k321)).trans ((va_up_ne _ _ (wd_nL hq251 kI21)).trans tI21)) k449 ((va_up_ne _ _ (wd_nL hq343 k322)).trans ((va_up_ne _ _ (wd_nL hq251 kI22)).trans tI22)) k450 ((va_up_ne _ _ (wd_nL hq343 k323)).trans ((va_up_ne _ _ (wd_nL hq251 kI23)).trans tI23)) k451 ((va_up_ne _ _ (wd_nL hq343 k324)).trans ((va_up_ne _ _ (wd_nL hq251 kI24)).trans tI24)) k452 ((va_up_ne _ _ (wd_nL hq343 k325)).trans ((va_up_ne _ _ (wd_nL hq251 kI25)).trans tI25)) k453 ((va_up_ne _ _ (wd_nL hq343 k326)).trans ((va_up_ne _ _ (wd_nL hq251 kI26)).trans tI26)) fm465 fm466 fm467 fm468 fm472 fm470
            exact y_ir K hP hD hS (Nat.le_of_ble_eq_true rfl) (Nat.le_of_ble_eq_true rfl) (ty := .int) rfl rfl dX10_stop_92 (by refine ⟨(congrArg (fun z => some (Value.int z)) (show nI ((sc + 1) - 1) = stpA plv pc sc x1 x2 (nI t) from by simp [stpA, stpC, pb9.1, pb9.2, c_12, c_16, clt, c_17, c_247])), ?_⟩; rw [show stpC plv pc sc x1 x2 (nI t) = (sc + 1) from by simp [stpA, stpC, pb9.1, pb9.2, c_12, c_16, clt, c_17, c_247]]; exact ⟨(va_up (va_up tg q248 (5000 + sc)) arx339 (6000 + sc)), (fun a9 ha9 => ((va_up_ne _ _ (fun q9 : a9 = arx339 => (kp335.out hq343) (q9 ▸ ha9))).trans (va_up_ne _ _ (fun q9 : a9 = q248 => (kp0.out hq251) (q9 ▸ ha9))))), kp463, hX473⟩)
          · refine lv_iconst (v := (-1)) hx hb dX10_stop_44 (by decide) ?_
            exact y_ir K hP hD hS (Nat.le_of_ble_eq_true rfl) (Nat.le_of_ble_eq_true rfl) (ty := .int) rfl rfl dX10_stop_45 (by refine ⟨(congrArg (fun z => some (Value.int z)) (show (-1) = stpA plv pc sc x1 x2 (nI t) from by simp [stpA, stpC, pb9.1, pb9.2, c_12, c_16, clt, c_17, c_247])), ?_⟩; rw [show stpC plv pc sc x1 x2 (nI t) = sc from by simp [stpA, stpC, pb9.1, pb9.2, c_12, c_16, clt, c_17, c_247]]; exact ⟨tg, fun _ _ => rfl, wd_kp.rf, hIX0⟩)
      · refine lv_iconst (v := (-1)) hx hb dX10_stop_28 (by decide) ?_
        exact y_ir K hP hD hS (Nat.le_of_ble_eq_true rfl) (Nat.le_of_ble_eq_true rfl) (ty := .int) rfl rfl dX10_stop_29 (by refine ⟨(congrArg (fun z => some (Value.int z)) (show (-1) = stpA plv pc sc x1 x2 x3 from by simp [stpA, stpC, pb9.1, pb9.2, c_12, c_16])), ?_⟩; rw [show stpC plv pc sc x1 x2 x3 = sc from by simp [stpA, stpC, pb9.1, pb9.2, c_12, c_16]]; exact ⟨tg, fun _ _ => rfl, wd_kp.rf, hIX0⟩)
set_option maxHeartbeats 4000000 in
set_option maxRecDepth 100000 in
theorem X_lose (l : Launch) (D : va_G) (cy : Nat → ClassId) (sk sv : Nat → Nat) (w : Wd) (tg : Nat → Nat) (x : Nat) (td : Int32) (pc ac sc ln : Nat) (se plv : Nat → Int32) (x1 : Int32) (hIX0 : IX cy tg x td pc ac sc ln se plv w) : Ct l D cy sk sv yX10_lose wsX10_lose ({ frames := 1, cells := 0, slots := 0, locals := 21 }) [.ref x, .int x1] w (fun v w1 => (∃ r : Int32, v = some (.int r)) ∧ XP cy tg x td pc ac sc ln se plv w w1) := by
  refine Ct.by (cc := cX10_lose) (maxL := 3) (ret := (some .boolean)) (by decide +kernel) rfl (Nat.le_of_ble_eq_true rfl) ?_
  intro p e s m args below meth c A Q F hnm K ls hl
  have F : wd_Fx p s m args meth c cX10_lose 3 wsX10_lose RX10 D cy sk sv A := F
  have hl : lv_has ls 3 [(0, .ref x), (1, .int x1)] := hl
  have hx := F.1.1
  have hb := F.1.2.1
  have hown := F.1.2.2.2.1
  have hts := F.1.2.2.2.2
  intro H locs hP hD hS
  have kp0 : wd_kp (fun b => tg b < 10000) w w := wd_kp.rf
  refine hIX0 _ ?_
  intro a0 a1 a2 a3 a4 a5 a6 a7 a8 a10 a11 b0 b1 b2 b3 tb l0 l1 l2 l3 l4 l5 l6 l7 bl bm sh gc sg lu lv9 f0 f1 f2 f3 tbf e0 e1 e4 e5 e7 ff bf bf2 e2 e3 e6 ta sz fo to fo2 to2 tf tn ag co ra aa ru ga0 ga1 ga2 ga3 ga4 df cf nf sf uf pf pa pwo phd pgd pdy pno ptp af ad av0 av1 av2 av3 zf so sr sp0 sp1 sd hf sw hto hpp hle ham hhh hdd hru hde hcp hld hp90 hp91 hp92 hp93 hp94 hp95 hp96 hp97 hag kI0 tI0 kI1 tI1 kI2 tI2 kI3 tI3 kI4 tI4 kI5 tI5 kI6 tI6 kI7 tI7 kI8 tI8 kI9 tI9 kI10 tI10 kI11 tI11 kI12 tI12 kI13 tI13 kI14 tI14 kI15 tI15 kI16 tI16 kI17 tI17 kI18 tI18 kI19 tI19 kI20 tI20 kI21 tI21 kI22 tI22 kI23 tI23 kI24 tI24 kI25 tI25 kI26 tI26 hT9 hG9 hP9 hA9 hS9 hH9
  have hlu : lu < 2 := by omega
  have hlv : lv9 < 2 := by omega
  refine lv_aload_n hx hb dX10_lose_0 rfl (lv_at hl 0 rfl) ?_
  refine lv_iload_n hx hb dX10_lose_1 rfl (lv_at hl 1 rfl) ?_
  refine x_callV (n := 1) (As := [.int x1]) (rest := []) F hP hD hS (g_adviceAt l D cy sk sv w x a0 a1 a2 a3 a4 a5 a6 a7 a8 (aa sg) a10 a11 pc ac sc sh td x1 tg af ad av0 av1 av2 av3 kI0 kI8 hA9 (by omega)) gX10_lose_X10_adviceAt rfl rfl (by decide +kernel) ⟨(Nat.le_of_ble_eq_true rfl), (Nat.le_of_ble_eq_true rfl)⟩ rfl hl.1 (Nat.le_of_ble_eq_true rfl) kI0 rfl dX10_lose_2 rfl ⟨(Nat.le_of_ble_eq_true rfl), (Nat.le_of_ble_eq_true rfl)⟩ (fun v2 w3 hp1 H locs hP hD hS => ?_)
  obtain ⟨hp1, rfl⟩ := hp1
  rcases hp1 with ⟨rfl, hn5⟩ | ⟨j4, hn5, ej4, rfl⟩
  · refine W.eq (g2 := F0 m 5 ls [.null]) rfl (W.widen (k := 0) (n := 0) (Nat.le_of_ble_eq_true rfl) (Nat.le_of_ble_eq_true rfl) ?_)
    refine lv_astore_nN (lv' := [(2, .null), (0, .ref x), (1, .int x1)]) hx hb dX10_lose_5 rfl hl (by decide) rfl (fun ls hl => ?_)
    refine lv_aload_nN hx hb dX10_lose_6 rfl (lv_at hl 0 rfl) ?_
    refine lv_ifnullN (tgt := 31) hx hb dX10_lose_7 (by decide) ?_
    refine lv_iconst (v := 0) hx hb dX10_lose_31 (by decide) ?_
    exact y_ir K hP hD hS (Nat.le_of_ble_eq_true rfl) (Nat.le_of_ble_eq_true rfl) (ty := .boolean) rfl rfl dX10_lose_32 (⟨⟨_, rfl⟩, ⟨tg, fun _ _ => rfl, wd_kp.rf, hIX0⟩⟩)
  · refine W.eq (g2 := F0 m 5 ls [.ref (ad j4)]) rfl (W.widen (k := 0) (n := 0) (Nat.le_of_ble_eq_true rfl) (Nat.le_of_ble_eq_true rfl) ?_)
    have pr6 := (hA9 j4 hn5).1
    have k7 := (hA9 j4 hn5).2.1
    have tz8 := (hA9 j4 hn5).2.2
    refine lv_astore_n (lv' := [(2, .ref (ad j4)), (0, .ref x), (1, .int x1)]) hx hb dX10_lose_5 rfl hl (by decide) rfl (fun ls hl => ?_)
    refine lv_aload_n hx hb dX10_lose_6 rfl (lv_at hl 0 rfl) ?_
    refine lv_ifnull hx hb dX10_lose_7 ?_
    refine lv_aload_n hx hb dX10_lose_10 rfl (lv_at hl 0 rfl) ?_
    refine x_get (ref := "NoteHouse$Advice") F hP k7 rfl (fun _ h => List.mem_cons_of_mem _ (List.mem_append_left _ (List.mem_append_right _ (h)))) 3 (Nat.le_of_ble_eq_true rfl) (List.mem_cons_of_mem _ (List.mem_append_left _ (List.mem_append_left _ (List.mem_of_getElem? (i := 0) rfl)))) rfl rfl dX10_lose_11 ?_
    refine lv_if_ne (tgt := 31) hx hb dX10_lose_14 (by decide) (fun c_9 => ?_) (fun c_9 => ?_)
    · refine lv_iconst (v := 0) hx hb dX10_lose_31 (by decide) ?_
      exact y_ir K hP hD hS (Nat.le_of_ble_eq_true rfl) (Nat.le_of_ble_eq_true rfl) (ty := .boolean) rfl rfl dX10_lose_32 (⟨⟨_, rfl⟩, ⟨tg, fun _ _ => rfl, wd_kp.rf, hIX0⟩⟩)
    · refine lv_aload_n hx hb dX10_lose_17 rfl (lv_at hl 0 rfl) ?_
      refine x_get (ref := "NoteHouse$Advice") F hP k7 rfl (fun _ h => List.mem_cons_of_mem _ (List.mem_append_left _ (List.mem_append_right _ (h)))) 2 (Nat.le_of_ble_eq_true rfl) (List.mem_cons_of_mem _ (List.mem_append_left _ (List.mem_append_left _ (List.mem_of_getElem? (i := 1) rfl)))) rfl rfl dX10_lose_18 ?_
      refine lv_aload_n hx hb dX10_lose_21 rfl (lv_at hl 1 rfl) ?_
      refine x_get (ref := "NoteHouse") F hP kI0 rfl (fun _ h => List.mem_cons_of_mem _ (List.mem_append_right _ (h))) 12 (Nat.le_of_ble_eq_true rfl) (List.mem_cons_of_mem _ (List.mem_append_left _ (List.mem_append_left _ (List.mem_of_getElem? (i := 2) rfl)))) rfl rfl dX10_lose_22 ?_
      refine x_callS (n := 2) (As := [.int (av2 j4), .int td]) (rest := []) F hP hD hS (g_hasCome l D cy sk sv w (av2 j4) td) gX10_lose_X10_hasCome rfl (by decide +kernel) ⟨(Nat.le_of_ble_eq_true rfl), (Nat.le_of_ble_eq_true rfl)⟩ rfl hl.1 (Nat.le_of_ble_eq_true rfl) dX10_lose_25 rfl ⟨(Nat.le_of_ble_eq_true rfl), (Nat.le_of_ble_eq_true rfl)⟩ (fun v11 w12 hp10 H locs hP hD hS => ?_)
      obtain ⟨rx13, rfl, hz14, rfl⟩ := hp10
      refine W.eq (g2 := F0 m 28 ls [.int rx13]) rfl (W.widen (k := 0) (n := 0) (Nat.le_of_ble_eq_true rfl) (Nat.le_of_ble_eq_true rfl) ?_)
      refine lv_if_eq (tgt := 33) hx hb dX10_lose_28 (by decide) (fun c_15 => ?_) (fun c_15 => ?_)
      · refine lv_aload_n hx hb dX10_lose_33 rfl (lv_at hl 0 rfl) ?_
        refine lv_iconst (v := 1) hx hb dX10_lose_34 (by decide) ?_
        refine y_put (ref := "NoteHouse$Advice") F hP hD hS k7 rfl (fun _ h => List.mem_cons_of_mem _ (List.mem_append_left _ (List.mem_append_right _ (h)))) tyX0_ok nmX0 3 (Nat.le_of_ble_eq_true rfl) (List.mem_cons_of_mem _ (List.mem_append_left _ (List.mem_append_left _ (List.mem_of_getElem? (i := 0) rfl)))) rfl rfl rfl rfl (Nat.le_of_ble_eq_true rfl) dX10_lose_35 (fun w16 ew17 H locs hP hD hS => ?_)
        have fm18 : ∀ k9, k9 < ac ∧ k9 ≠ j4 → af k9 = some (ad k9) ∧ wd_at w (ad k9) (.inr (0, [.int (av0 k9), .int (av1 k9), .int (av2 k9), .int (av3 k9)])) ∧ tg (ad k9) = 4000 + k9 := fun k9 hi8 => hA9 k9 hi8.1
        have k19 := wd_at.pt ew17 kI0 (tg_ne tI0 tz8 (tnA2 (show 0 < 4000 by decide)))
        have k20 := wd_at.pt ew17 kI1 (tg_ne tI1 tz8 (tnA2 (show 1 < 4000 by decide)))
        have k21 := wd_at.pt ew17 kI2 (tg_ne tI2 tz8 (tnA2 (show 2 < 4000 by decide)))
        have k22 := wd_at.pt ew17 kI3 (tg_ne tI3 tz8 (tnA2 (show 3 < 4000 by decide)))
        have k23 := wd_at.pt ew17 kI4 (tg_ne tI4 tz8 (tnA2 (show 4 < 4000 by decide)))
        have k24 := wd_at.pt ew17 kI5 (tg_ne tI5 tz8 (tnA2 (show 5 < 4000 by decide)))
        have k25 := wd_at.pt ew17 kI6 (tg_ne tI6 tz8 (tnA2 (show 6 < 4000 by decide)))
        have k26 := wd_at.pt ew17 kI7 (tg_ne tI7 tz8 (tnA2 (show 7 < 4000 by decide)))
        have k27 := wd_at.pt ew17 kI8 (tg_ne tI8 tz8 (tnA2 (show 8 < 4000 by decide)))
        have k28 := wd_at.pt ew17 kI9 (tg_ne tI9 tz8 (tnA2 (show 9 < 4000 by decide)))
        have k29 := wd_at.pt ew17 kI10 (tg_ne tI10 tz8 (tnA2 (show 10 < 4000 by decide)))
        have k30 := wd_at.pt ew17 kI11 (tg_ne tI11 tz8 (tnA2 (show 11 < 4000 by decide)))
        have k31 := wd_at.pt ew17 kI12 (tg_ne tI12 tz8 (tnA2 (show 12 < 4000 by decide)))
        have k32 := wd_at.pt ew17 kI13 (tg_ne tI13 tz8 (tnA2 (show 13 < 4000 by decide)))
        have k33 := wd_at.pt ew17 kI14 (tg_ne tI14 tz8 (tnA2 (show 14 < 4000 by decide)))
        have k34 := wd_at.pt ew17 kI15 (tg_ne tI15 tz8 (tnA2 (show 15 < 4000 by decide)))
        have k35 := wd_at.pt ew17 kI16 (tg_ne tI16 tz8 (tnA2 (show 16 < 4000 by decide)))
        have k36 := wd_at.pt ew17 kI17 (tg_ne tI17 tz8 (tnA2 (show 17 < 4000 by decide)))
        have k37 := wd_at.pt ew17 kI18 (tg_ne tI18 tz8 (tnA2 (show 18 < 4000 by decide)))
        have k38 := wd_at.pt ew17 kI19 (tg_ne tI19 tz8 (tnA2 (show 19 < 4000 by decide)))
        have k39 := wd_at.pt ew17 kI20 (tg_ne tI20 tz8 (tnA2 (show 20 < 4000 by decide)))
        have k40 := wd_at.pt ew17 kI21 (tg_ne tI21 tz8 (tnA2 (show 21 < 4000 by decide)))
        have k41 := wd_at.pt ew17 kI22 (tg_ne tI22 tz8 (tnA2 (show 22 < 4000 by decide)))
        have k42 := wd_at.pt ew17 kI23 (tg_ne tI23 tz8 (tnB (n := 2) hlu (by decide)))
        have k43 := wd_at.pt ew17 kI24 (tg_ne tI24 tz8 (tnB (n := 2) hlu (by decide)))
        have k44 := wd_at.pt ew17 kI25 (tg_ne tI25 tz8 (tnB (n := 2) hlv (by decide)))
        have k45 := wd_at.pt ew17 kI26 (tg_ne tI26 tz8 (tnB (n := 2) hlv (by decide)))
        have k46 : wd_at w16 (ad j4) (.inr (0, [.int (av0 j4), .int (av1 j4), .int (av2 j4), .int 1])) := wd_at.ps ew17 k7
        have fm47 : ∀ i9, i9 < 12 → tf i9 = some (tn i9) ∧ wd_at w16 (tn i9) (.inr (8, [.int (co i9), .int (ra i9), .int (se i9), .ref (ag i9)])) ∧ tg (tn i9) = 100 + i9 := fun i9 hi9 => ⟨(hT9 i9 hi9).1, wd_at.pt ew17 (hT9 i9 hi9).2.1 (tg_ne (hT9 i9 hi9).2.2 tz8 (tnB (n := 12) hi9 (by decide))), (hT9 i9 hi9).2.2⟩
        have fm48 : ∀ k9, k9 < 13 → (aOK (cf k9) (nf k9) ∧ ru k9 ≤ 12) ∧ wd_at w16 (aa k9) (.inr (1, [.ref (ga0 k9), .ref (ga1 k9), .ref (ga2 k9), .ref (ga3 k9), .ref (ga4 k9), .int (nI (ru k9))])) ∧ tg (aa k9) = 200 + k9 ∧ wd_at w16 (ga0 k9) (.inl (cy 2, 12, .inl (df k9))) ∧ tg (ga0 k9) = 220 + k9 ∧ wd_at w16 (ga1 k9) (.inl (cy 2, 12, .inl (cf k9))) ∧ tg (ga1 k9) = 240 + k9 ∧ wd_at w16 (ga2 k9) (.inl (cy 2, 72, .inl (nf k9))) ∧ tg (ga2 k9) = 260 + k9 ∧ wd_at w16 (ga3 k9) (.inl (cy 1, 72, .inl (sf k9))) ∧ tg (ga3 k9) = 280 + k9 ∧ wd_at w16 (ga4 k9) (.inl (cy 2, 72, .inl (uf k9))) ∧ tg (ga4 k9) = 300 + k9 := fun k9 hi9 => ⟨(hG9 k9 hi9).1, wd_at.pt ew17 (hG9 k9 hi9).2.1 (tg_ne (hG9 k9 hi9).2.2.1 tz8 (tnB (n := 13) hi9 (by decide))), (hG9 k9 hi9).2.2.1, wd_at.pt ew17 (hG9 k9 hi9).2.2.2.1 (tg_ne (hG9 k9 hi9).2.2.2.2.1 tz8 (tnB (n := 13) hi9 (by decide))), (hG9 k9 hi9).2.2.2.2.1, wd_at.pt ew17 (hG9 k9 hi9).2.2.2.2.2.1 (tg_ne (hG9 k9 hi9).2.2.2.2.2.2.1 tz8 (tnB (n := 13) hi9 (by decide))), (hG9 k9 hi9).2.2.2.2.2.2.1, wd_at.pt ew17 (hG9 k9 hi9).2.2.2.2.2.2.2.1 (tg_ne (hG9 k9 hi9).2.2.2.2.2.2.2.2.1 tz8 (tnB (n := 13) hi9 (by decide))), (hG9 k9 hi9).2.2.2.2.2.2.2.2.1, wd_at.pt ew17 (hG9 k9 hi9).2.2.2.2.2.2.2.2.2.1 (tg_ne (hG9 k9 hi9).2.2.2.2.2.2.2.2.2.2.1 tz8 (tnB (n := 13) hi9 (by decide))), (hG9 k9 hi9).2.2.2.2.2.2.2.2.2.2.1, wd_at.pt ew17 (hG9 k9 hi9).2.2.2.2.2.2.2.2.2.2.2.1 (tg_ne (hG9 k9 hi9).2.2.2.2.2.2.2.2.2.2.2.2 tz8 (tnB (n := 13) hi9 (by decide))), (hG9 k9 hi9).2.2.2.2.2.2.2.2.2.2.2.2⟩
        have fm49 : ∀ k9, k9 < pc → pf k9 = some (pa k9) ∧ wd_at w16 (pa k9) (.inr (3, [.int (plv k9), .int (pwo k9), .int (phd k9), .int (pgd k9), .int (pdy k9), .int (pno k9), .int (ptp k9)])) ∧ tg (pa k9) = 3000 + k9 := fun k9 hi9 => ⟨(hP9 k9 hi9).1, wd_at.pt ew17 (hP9 k9 hi9).2.1 (tg_ne (hP9 k9 hi9).2.2 tz8 (tnB (n := 30) (Nat.lt_of_lt_of_le hi9 hp90) (by decide))), (hP9 k9 hi9).2.2⟩
        have fm50 : ∀ k9, k9 < ac ∧ k9 ≠ j4 → af k9 = some (ad k9) ∧ wd_at w16 (ad k9) (.inr (0, [.int (av0 k9), .int (av1 k9), .int (av2 k9), .int (av3 k9)])) ∧ tg (ad k9) = 4000 + k9 := fun k9 hi9 => ⟨(fm18 k9 hi9).1, wd_at.pt ew17 (fm18 k9 hi9).2.1 (tg_ne (fm18 k9 hi9).2.2 tz8 (tnS hi9.2)), (fm18 k9 hi9).2.2⟩
        have fm51 : ∀ k9, k9 < sc → zf k9 = some (so k9) ∧ wd_at w16 (so k9) (.inr (6, [.int (sp0 k9), .int (sp1 k9), .ref (sr k9)])) ∧ tg (so k9) = 5000 + k9 ∧ wd_at w16 (sr k9) (.inl (cy 2, 12, .inl (sd k9))) ∧ tg (sr k9) = 6000 + k9 := fun k9 hi9 => ⟨(hS9 k9 hi9).1, wd_at.pt ew17 (hS9 k9 hi9).2.1 (tg_ne (hS9 k9 hi9).2.2.1 tz8 (tnB2 (n := 60) (Nat.lt_of_lt_of_le hn5 hp91) (by decide))), (hS9 k9 hi9).2.2.1, wd_at.pt ew17 (hS9 k9 hi9).2.2.2.1 (tg_ne (hS9 k9 hi9).2.2.2.2 tz8 (tnB2 (n := 60) (Nat.lt_of_lt_of_le hn5 hp91) (by decide))), (hS9 k9 hi9).2.2.2.2⟩
        have fm52 : ∀ k9, k9 < sh → (hf k9 = some (sw k9) ∧ hto k9 < 12) ∧ wd_at w16 (sw k9) (.inr (5, [.int (nI (hto k9)), .int (hpp k9), .int (hle k9), .int (ham k9), .int (hhh k9), .int (hdd k9), .int (hru k9), .int (hde k9), .int (hcp k9), .int (hld k9)])) ∧ tg (sw k9) = 7000 + k9 := fun k9 hi9 => ⟨(hH9 k9 hi9).1, wd_at.pt ew17 (hH9 k9 hi9).2.1 (tg_ne (hH9 k9 hi9).2.2 tz8 (tnB2 (n := 60) (Nat.lt_of_lt_of_le hn5 hp91) (by decide))), (hH9 k9 hi9).2.2⟩
        have kp53 := kp0.put ew17 (tgS tz8 (by omega))
        refine lv_aload_n hx hb dX10_lose_38 rfl (lv_at hl 0 rfl) ?_
        refine lv_iconst (v := (-1)) hx hb dX10_lose_39 (by decide) ?_
        refine y_put (ref := "NoteHouse$Advice") F hP hD hS k46 rfl (fun _ h => List.mem_cons_of_mem _ (List.mem_append_left _ (List.mem_append_right _ (h)))) tyX0_ok nmX0 2 (Nat.le_of_ble_eq_true rfl) (List.mem_cons_of_mem _ (List.mem_append_left _ (List.mem_append_left _ (List.mem_of_getElem? (i := 1) rfl)))) rfl rfl rfl rfl (Nat.le_of_ble_eq_true rfl) dX10_lose_40 (fun w54 ew55 H locs hP hD hS => ?_)
        have k56 := wd_at.pt ew55 k19 (tg_ne tI0 tz8 (tnA2 (show 0 < 4000 by decide)))
        have k57 := wd_at.pt ew55 k20 (tg_ne tI1 tz8 (tnA2 (show 1 < 4000 by decide)))
        have k58 := wd_at.pt ew55 k21 (tg_ne tI2 tz8 (tnA2 (show 2 < 4000 by decide)))
        have k59 := wd_at.pt ew55 k22 (tg_ne tI3 tz8 (tnA2 (show 3 < 4000 by decide)))
        have k60 := wd_at.pt ew55 k23 (tg_ne tI4 tz8 (tnA2 (show 4 < 4000 by decide)))
        have k61 := wd_at.pt ew55 k24 (tg_ne tI5 tz8 (tnA2 (show 5 < 4000 by decide)))
        have k62 := wd_at.pt ew55 k25 (tg_ne tI6 tz8 (tnA2 (show 6 < 4000 by decide)))
        have k63 := wd_at.pt ew55 k26 (tg_ne tI7 tz8 (tnA2 (show 7 < 4000 by decide)))
        have k64 := wd_at.pt ew55 k27 (tg_ne tI8 tz8 (tnA2 (show 8 < 4000 by decide)))
        have k65 := wd_at.pt ew55 k28 (tg_ne tI9 tz8 (tnA2 (show 9 < 4000 by decide)))
        have k66 := wd_at.pt ew55 k29 (tg_ne tI10 tz8 (tnA2 (show 10 < 4000 by decide)))
        have k67 := wd_at.pt ew55 k30 (tg_ne tI11 tz8 (tnA2 (show 11 < 4000 by decide)))
        have k68 := wd_at.pt ew55 k31 (tg_ne tI12 tz8 (tnA2 (show 12 < 4000 by decide)))
        have k69 := wd_at.pt ew55 k32 (tg_ne tI13 tz8 (tnA2 (show 13 < 4000 by decide)))
        have k70 := wd_at.pt ew55 k33 (tg_ne tI14 tz8 (tnA2 (show 14 < 4000 by decide)))
        have k71 := wd_at.pt ew55 k34 (tg_ne tI15 tz8 (tnA2 (show 15 < 4000 by decide)))
        have k72 := wd_at.pt ew55 k35 (tg_ne tI16 tz8 (tnA2 (show 16 < 4000 by decide)))
        have k73 := wd_at.pt ew55 k36 (tg_ne tI17 tz8 (tnA2 (show 17 < 4000 by decide)))
        have k74 := wd_at.pt ew55 k37 (tg_ne tI18 tz8 (tnA2 (show 18 < 4000 by decide)))
        have k75 := wd_at.pt ew55 k38 (tg_ne tI19 tz8 (tnA2 (show 19 < 4000 by decide)))
        have k76 := wd_at.pt ew55 k39 (tg_ne tI20 tz8 (tnA2 (show 20 < 4000 by decide)))
        have k77 := wd_at.pt ew55 k40 (tg_ne tI21 tz8 (tnA2 (show 21 < 4000 by decide)))
        have k78 := wd_at.pt ew55 k41 (tg_ne tI22 tz8 (tnA2 (show 22 < 4000 by decide)))
        have k79 := wd_at.pt ew55 k42 (tg_ne tI23 tz8 (tnB (n := 2) hlu (by decide)))
        have k80 := wd_at.pt ew55 k43 (tg_ne tI24 tz8 (tnB (n := 2) hlu (by decide)))
        have k81 := wd_at.pt ew55 k44 (tg_ne tI25 tz8 (tnB (n := 2) hlv (by decide)))
        have k82 := wd_at.pt ew55 k45 (tg_ne tI26 tz8 (tnB (n := 2) hlv (by decide)))
        have k83 : wd_at w54 (ad j4) (.inr (0, [.int (av0 j4), .int (av1 j4), .int (-1), .int 1])) := wd_at.ps ew55 k46
        have fm84 : ∀ i9, i9 < 12 → tf i9 = some (tn i9) ∧ wd_at w54 (tn i9) (.inr (8, [.int (co i9), .int (ra i9), .int (se i9), .ref (ag i9)])) ∧ tg (tn i9) = 100 + i9 := fun i9 hi9 => ⟨(fm47 i9 hi9).1, wd_at.pt ew55 (fm47 i9 hi9).2.1 (tg_ne (fm47 i9 hi9).2.2 tz8 (tnB (n := 12) hi9 (by decide))), (fm47 i9 hi9).2.2⟩
        have fm85 : ∀ k9, k9 < 13 → (aOK (cf k9) (nf k9) ∧ ru k9 ≤ 12) ∧ wd_at w54 (aa k9) (.inr (1, [.ref (ga0 k9), .ref (ga1 k9), .ref (ga2 k9), .ref (ga3 k9), .ref (ga4 k9), .int (nI (ru k9))])) ∧ tg (aa k9) = 200 + k9 ∧ wd_at w54 (ga0 k9) (.inl (cy 2, 12, .inl (df k9))) ∧ tg (ga0 k9) = 220 + k9 ∧ wd_at w54 (ga1 k9) (.inl (cy 2, 12, .inl (cf k9))) ∧ tg (ga1 k9) = 240 + k9 ∧ wd_at w54 (ga2 k9) (.inl (cy 2, 72, .inl (nf k9))) ∧ tg (ga2 k9) = 260 + k9 ∧ wd_at w54 (ga3 k9) (.inl (cy 1, 72, .inl (sf k9))) ∧ tg (ga3 k9) = 280 + k9 ∧ wd_at w54 (ga4 k9) (.inl (cy 2, 72, .inl (uf k9))) ∧ tg (ga4 k9) = 300 + k9 := fun k9 hi9 => ⟨(fm48 k9 hi9).1, wd_at.pt ew55 (fm48 k9 hi9).2.1 (tg_ne (fm48 k9 hi9).2.2.1 tz8 (tnB (n := 13) hi9 (by decide))), (fm48 k9 hi9).2.2.1, wd_at.pt ew55 (fm48 k9 hi9).2.2.2.1 (tg_ne (fm48 k9 hi9).2.2.2.2.1 tz8 (tnB (n := 13) hi9 (by decide))), (fm48 k9 hi9).2.2.2.2.1, wd_at.pt ew55 (fm48 k9 hi9).2.2.2.2.2.1 (tg_ne (fm48 k9 hi9).2.2.2.2.2.2.1 tz8 (tnB (n := 13) hi9 (by decide))), (fm48 k9 hi9).2.2.2.2.2.2.1, wd_at.pt ew55 (fm48 k9 hi9).2.2.2.2.2.2.2.1 (tg_ne (fm48 k9 hi9).2.2.2.2.2.2.2.2.1 tz8 (tnB (n := 13) hi9 (by decide))), (fm48 k9 hi9).2.2.2.2.2.2.2.2.1, wd_at.pt ew55 (fm48 k9 hi9).2.2.2.2.2.2.2.2.2.1 (tg_ne (fm48 k9 hi9).2.2.2.2.2.2.2.2.2.2.1 tz8 (tnB (n := 13) hi9 (by decide))), (fm48 k9 hi9).2.2.2.2.2.2.2.2.2.2.1, wd_at.pt ew55 (fm48 k9 hi9).2.2.2.2.2.2.2.2.2.2.2.1 (tg_ne (fm48 k9 hi9).2.2.2.2.2.2.2.2.2.2.2.2 tz8 (tnB (n := 13) hi9 (by decide))), (fm48 k9 hi9).2.2.2.2.2.2.2.2.2.2.2.2⟩
        have fm86 : ∀ k9, k9 < pc → pf k9 = some (pa k9) ∧ wd_at w54 (pa k9) (.inr (3, [.int (plv k9), .int (pwo k9), .int (phd k9), .int (pgd k9), .int (pdy k9), .int (pno k9), .int (ptp k9)])) ∧ tg (pa k9) = 3000 + k9 := fun k9 hi9 => ⟨(fm49 k9 hi9).1, wd_at.pt ew55 (fm49 k9 hi9).2.1 (tg_ne (fm49 k9 hi9).2.2 tz8 (tnB (n := 30) (Nat.lt_of_lt_of_le hi9 hp90) (by decide))), (fm49 k9 hi9).2.2⟩
        have fm87 : ∀ k9, k9 < ac ∧ k9 ≠ j4 → af k9 = some (ad k9) ∧ wd_at w54 (ad k9) (.inr (0, [.int (av0 k9), .int (av1 k9), .int (av2 k9), .int (av3 k9)])) ∧ tg (ad k9) = 4000 + k9 := fun k9 hi9 => ⟨(fm50 k9 hi9).1, wd_at.pt ew55 (fm50 k9 hi9).2.1 (tg_ne (fm50 k9 hi9).2.2 tz8 (tnS hi9.2)), (fm50 k9 hi9).2.2⟩
        have fm88 : ∀ k9, k9 < sc → zf k9 = some (so k9) ∧ wd_at w54 (so k9) (.inr (6, [.int (sp0 k9), .int (sp1 k9), .ref (sr k9)])) ∧ tg (so k9) = 5000 + k9 ∧ wd_at w54 (sr k9) (.inl (cy 2, 12, .inl (sd k9))) ∧ tg (sr k9) = 6000 + k9 := fun k9 hi9 => ⟨(fm51 k9 hi9).1, wd_at.pt ew55 (fm51 k9 hi9).2.1 (tg_ne (fm51 k9 hi9).2.2.1 tz8 (tnB2 (n := 60) (Nat.lt_of_lt_of_le hn5 hp91) (by decide))), (fm51 k9 hi9).2.2.1, wd_at.pt ew55 (fm51 k9 hi9).2.2.2.1 (tg_ne (fm51 k9 hi9).2.2.2.2 tz8 (tnB2 (n := 60) (Nat.lt_of_lt_of_le hn5 hp91) (by decide))), (fm51 k9 hi9).2.2.2.2⟩
        have fm89 : ∀ k9, k9 < sh → (hf k9 = some (sw k9) ∧ hto k9 < 12) ∧ wd_at w54 (sw k9) (.inr (5, [.int (nI (hto k9)), .int (hpp k9), .int (hle k9), .int (ham k9), .int (hhh k9), .int (hdd k9), .int (hru k9), .int (hde k9), .int (hcp k9), .int (hld k9)])) ∧ tg (sw k9) = 7000 + k9 := fun k9 hi9 => ⟨(fm52 k9 hi9).1, wd_at.pt ew55 (fm52 k9 hi9).2.1 (tg_ne (fm52 k9 hi9).2.2 tz8 (tnB2 (n := 60) (Nat.lt_of_lt_of_le hn5 hp91) (by decide))), (fm52 k9 hi9).2.2⟩
        have kp90 := kp53.put ew55 (tgS tz8 (by omega))
        refine lv_iconst (v := 1) hx hb dX10_lose_43 (by decide) ?_
        have fm92 : ∀ k9, k9 < ac → af k9 = some (ad k9) ∧ wd_at w54 (ad k9) (.inr (0, [.int (av0 k9), .int (av1 k9), .int ((va_up av2 j4 (-1)) k9), .int ((va_up av3 j4 1) k9)])) ∧ tg (ad k9) = 4000 + k9 := by
          intro k9 hi9
          by_cases e9 : k9 = j4
          · rw [e9]
            exact ⟨pr6, (by simp only [va_up_self]; exact k83), tz8⟩
          · simp only [va_up_ne _ _ e9]
            exact fm87 k9 (by omega)
        have hX93 : IX cy tg x td pc ac sc ln se plv w54 := IX.mk a0 a1 a2 a3 a4 a5 a6 a7 a8 a10 a11 b0 b1 b2 b3 tb l0 l1 l2 l3 l4 l5 l6 l7 bl bm sh gc sg lu lv9 f0 f1 f2 f3 tbf e0 e1 e4 e5 e7 ff bf bf2 e2 e3 e6 ta sz fo to fo2 to2 tf tn ag co ra aa ru ga0 ga1 ga2 ga3 ga4 df cf nf sf uf pf pa pwo phd pgd pdy pno ptp af ad av0 av1 (va_up av2 j4 (-1)) (va_up av3 j4 1) zf so sr sp0 sp1 sd hf sw hto hpp hle ham hhh hdd hru hde hcp hld (by omega) (by omega) (by omega) (by omega) (by omega) (by omega) (by omega) (by omega) hag k56 tI0 k57 tI1 k58 tI2 k59 tI3 k60 tI4 k61 tI5 k62 tI6 k63 tI7 k64 tI8 k65 tI9 k66 tI10 k67 tI11 k68 tI12 k69 tI13 k70 tI14 k71 tI15 k72 tI16 k73 tI17 k74 tI18 k75 tI19 k76 tI20 k77 tI21 k78 tI22 k79 tI23 k80 tI24 k81 tI25 k82 tI26 fm84 fm85 fm86 fm92 fm88 fm89
        exact y_ir K hP hD hS (Nat.le_of_ble_eq_true rfl) (Nat.le_of_ble_eq_true rfl) (ty := .boolean) rfl rfl dX10_lose_44 (⟨⟨_, rfl⟩, ⟨tg, (fun _ _ => rfl), kp90, hX93⟩⟩)
      · refine lv_iconst (v := 0) hx hb dX10_lose_31 (by decide) ?_
        exact y_ir K hP hD hS (Nat.le_of_ble_eq_true rfl) (Nat.le_of_ble_eq_true rfl) (ty := .boolean) rfl rfl dX10_lose_32 (⟨⟨_, rfl⟩, ⟨tg, fun _ _ => rfl, wd_kp.rf, hIX0⟩⟩)
