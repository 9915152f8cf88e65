set_option maxHeartbeats 4000000 in
set_option maxRecDepth 100000 in
theorem X_advise (l : Launch) (D : va_G) (cy : Nat → ClassId) (sk sv : Nat → Nat) (w : Wd) (tg : Nat → Nat) (x : Nat) (td : Int32) (pc ac sc ln : Nat) (se plv : Nat → Int32) (x1 x2 : Int32) (hIX0 : IX cy tg x td pc ac sc ln se plv w) : Ct l D cy sk sv yX10_advise wsX10_advise ({ frames := 5, cells := 1, slots := 4, locals := 108 }) [.ref x, .int x1, .int x2] w (fun v w1 => v = some (.int (advA pc ac x1 x2)) ∧ XP cy tg x td pc (advC pc ac x1 x2) sc ln se plv w w1) := by
  refine Ct.by (cc := cX10_advise) (maxL := 3) (ret := (some .int)) (by decide +kernel) rfl (Nat.le_of_ble_eq_true rfl) ?_
  intro p e s m args below meth c A Q F hnm K ls hl
  have F : wd_Fx p s m args meth c cX10_advise 3 wsX10_advise RX10 D cy sk sv A := F
  have hl : lv_has ls 3 [(0, .ref x), (1, .int x1), (2, .int x2)] := hl
  have hx := F.1.1
  have hb := F.1.2.1
  have hown := F.1.2.2.2.1
  have hts := F.1.2.2.2.2
  intro H locs hP hD hS
  have kp0 : wd_kp (fun b => tg b < 10000) w w := wd_kp.rf
  refine hIX0 _ ?_
  intro a0 a1 a2 a3 a4 a5 a6 a7 a8 a10 a11 b0 b1 b2 b3 tb l0 l1 l2 l3 l4 l5 l6 l7 bl bm sh gc sg lu lv9 f0 f1 f2 f3 tbf e0 e1 e4 e5 e7 ff bf bf2 e2 e3 e6 ta sz fo to fo2 to2 tf tn ag co ra aa ru ga0 ga1 ga2 ga3 ga4 df cf nf sf uf pf pa pwo phd pgd pdy pno ptp af ad av0 av1 av2 av3 zf so sr sp0 sp1 sd hf sw hto hpp hle ham hhh hdd hru hde hcp hld hp90 hp91 hp92 hp93 hp94 hp95 hp96 hp97 hag kI0 tI0 kI1 tI1 kI2 tI2 kI3 tI3 kI4 tI4 kI5 tI5 kI6 tI6 kI7 tI7 kI8 tI8 kI9 tI9 kI10 tI10 kI11 tI11 kI12 tI12 kI13 tI13 kI14 tI14 kI15 tI15 kI16 tI16 kI17 tI17 kI18 tI18 kI19 tI19 kI20 tI20 kI21 tI21 kI22 tI22 kI23 tI23 kI24 tI24 kI25 tI25 kI26 tI26 hT9 hG9 hP9 hA9 hS9 hH9
  refine lv_aload_n hx hb dX10_advise_0 rfl (lv_at hl 0 rfl) ?_
  refine x_get (ref := "NoteHouse") F hP kI0 rfl (fun _ h => List.mem_cons_of_mem _ (List.mem_append_left _ (List.mem_append_left _ (List.mem_append_right _ (h))))) 14 (Nat.le_of_ble_eq_true rfl) (List.mem_cons_of_mem _ (List.mem_append_left _ (List.mem_append_left _ (List.mem_append_left _ (List.mem_append_left _ (List.mem_of_getElem? (i := 0) rfl)))))) rfl rfl dX10_advise_1 ?_
  refine lv_bipush (v := 60) hx hb dX10_advise_4 (by decide) ?_
  refine lv_icmp_ge (tgt := 24) hx hb dX10_advise_6 (by decide) (fun c_1 => ?_) (fun c_1 => ?_)
  · refine lv_iconst (v := (-1)) hx hb dX10_advise_24 (by decide) ?_
    exact y_ir K hP hD hS (Nat.le_of_ble_eq_true rfl) (Nat.le_of_ble_eq_true rfl) (ty := .int) rfl rfl dX10_advise_25 (by refine ⟨(congrArg (fun z => some (Value.int z)) (show (-1) = advA pc ac x1 x2 from by simp [advA, advC, c_1])), ?_⟩; rw [show advC pc ac x1 x2 = ac from by simp [advA, advC, c_1]]; exact ⟨tg, fun _ _ => rfl, wd_kp.rf, hIX0⟩)
  · have hb_ac : ac < 60 := nI_lt_of (n := 60) c_1 (by omega)
    refine lv_aload_n hx hb dX10_advise_9 rfl (lv_at hl 0 rfl) ?_
    refine lv_iload_n hx hb dX10_advise_10 rfl (lv_at hl 1 rfl) ?_
    refine x_callV (n := 1) (As := [.int x1]) (rest := []) F hP hD hS (g_paperAt l D cy sk sv w x a0 a1 a2 a3 a4 a5 a6 a7 a8 (aa sg) a10 a11 pc ac sc sh td x1 tg pf pa plv pwo phd pgd pdy pno ptp kI0 kI7 hP9 (by omega)) gX10_advise_X10_paperAt rfl rfl (by decide +kernel) ⟨(Nat.le_of_ble_eq_true rfl), (Nat.le_of_ble_eq_true rfl)⟩ rfl hl.1 (Nat.le_of_ble_eq_true rfl) kI0 rfl dX10_advise_11 rfl ⟨(Nat.le_of_ble_eq_true rfl), (Nat.le_of_ble_eq_true rfl)⟩ (fun v3 w4 hp2 H locs hP hD hS => ?_)
    obtain ⟨hp2, rfl⟩ := hp2
    rcases hp2 with ⟨rfl, hn6⟩ | ⟨j5, hn6, ej5, rfl⟩
    · have pb7 := pb_n (by omega) hn6
      refine W.eq (g2 := F0 m 14 ls [.null]) rfl (W.widen (k := 0) (n := 0) (Nat.le_of_ble_eq_true rfl) (Nat.le_of_ble_eq_true rfl) ?_)
      refine lv_ifnullN (tgt := 24) hx hb dX10_advise_14 (by decide) ?_
      refine lv_iconst (v := (-1)) hx hb dX10_advise_24 (by decide) ?_
      exact y_ir K hP hD hS (Nat.le_of_ble_eq_true rfl) (Nat.le_of_ble_eq_true rfl) (ty := .int) rfl rfl dX10_advise_25 (by refine ⟨(congrArg (fun z => some (Value.int z)) (show (-1) = advA pc ac x1 x2 from by simp [advA, advC, c_1, pb7])), ?_⟩; rw [show advC pc ac x1 x2 = ac from by simp [advA, advC, c_1, pb7]]; exact ⟨tg, fun _ _ => rfl, wd_kp.rf, hIX0⟩)
    · refine W.eq (g2 := F0 m 14 ls [.ref (pa j5)]) rfl (W.widen (k := 0) (n := 0) (Nat.le_of_ble_eq_true rfl) (Nat.le_of_ble_eq_true rfl) ?_)
      have pr8 := (hP9 j5 hn6).1
      have pb9 := pb_r (by omega) hn6 ej5
      have k10 := (hP9 j5 hn6).2.1
      have tz11 := (hP9 j5 hn6).2.2
      refine lv_ifnull hx hb dX10_advise_14 ?_
      refine lv_iload_n hx hb dX10_advise_17 rfl (lv_at hl 2 rfl) ?_
      refine x_callS (n := 1) (As := [.int x2]) (rest := []) F hP hD hS (g_isTown l D cy sk sv w x2) gX10_advise_X10_isTown rfl (by decide +kernel) ⟨(Nat.le_of_ble_eq_true rfl), (Nat.le_of_ble_eq_true rfl)⟩ rfl hl.1 (Nat.le_of_ble_eq_true rfl) dX10_advise_18 rfl ⟨(Nat.le_of_ble_eq_true rfl), (Nat.le_of_ble_eq_true rfl)⟩ (fun v13 w14 hp12 H locs hP hD hS => ?_)
      obtain ⟨rfl, rfl⟩ := hp12
      refine W.eq (g2 := F0 m 21 ls [.int (wi x2 0 11)]) rfl (W.widen (k := 0) (n := 0) (Nat.le_of_ble_eq_true rfl) (Nat.le_of_ble_eq_true rfl) ?_)
      refine lv_if_ne (tgt := 26) hx hb dX10_advise_21 (by decide) (fun c_15 => ?_) (fun c_15 => ?_)
      · obtain ⟨t, ht, rfl, clt⟩ := wi_t c_15
        refine lv_aload_n hx hb dX10_advise_26 rfl (lv_at hl 0 rfl) ?_
        refine x_get (ref := "NoteHouse") F hP kI0 rfl (fun _ h => List.mem_cons_of_mem _ (List.mem_append_left _ (List.mem_append_left _ (List.mem_append_right _ (h))))) 3 (Nat.le_of_ble_eq_true rfl) (List.mem_cons_of_mem _ (List.mem_append_left _ (List.mem_append_left _ (List.mem_append_left _ (List.mem_append_left _ (List.mem_of_getElem? (i := 1) rfl)))))) rfl rfl dX10_advise_27 ?_
        refine lv_aload_n hx hb dX10_advise_30 rfl (lv_at hl 0 rfl) ?_
        refine x_get (ref := "NoteHouse") F hP kI0 rfl (fun _ h => List.mem_cons_of_mem _ (List.mem_append_left _ (List.mem_append_left _ (List.mem_append_right _ (h))))) 14 (Nat.le_of_ble_eq_true rfl) (List.mem_cons_of_mem _ (List.mem_append_left _ (List.mem_append_left _ (List.mem_append_left _ (List.mem_append_left _ (List.mem_of_getElem? (i := 0) rfl)))))) rfl rfl dX10_advise_31 ?_
        refine y_new (fs := [.int 0, .int 0, .int 0, .int 0]) F hP hD hS (ci := 0) rfl (fun _ h => List.mem_cons_of_mem _ (List.mem_append_left _ (List.mem_append_right _ (h)))) tyX0_ok (List.mem_cons_of_mem _ (List.mem_append_left _ (List.mem_append_left _ (List.mem_append_left _ (List.mem_append_left _ (List.mem_of_getElem? (i := 2) rfl)))))) (List.mem_cons_of_mem _ (List.mem_append_left _ (List.mem_append_left _ (List.mem_append_left _ (List.mem_append_left _ (List.mem_of_getElem? (i := 3) rfl)))))) (List.mem_cons_of_mem _ (List.mem_append_left _ (List.mem_append_left _ (List.mem_append_left _ (List.mem_append_left _ (List.mem_of_getElem? (i := 4) rfl)))))) df_0 (Nat.le_of_ble_eq_true rfl) (Nat.le_of_ble_eq_true rfl) dX10_advise_34 (fun q16 w17 ew18 hq19 H hP hD hS => ?_)
        refine W.widen (k := 1) (n := 4) (Nat.le_of_ble_eq_true rfl) (Nat.le_of_ble_eq_true rfl) ?_
        have k20 := wd_at.ad ew18 hq19 kI0
        have k21 := wd_at.ad ew18 hq19 kI1
        have k22 := wd_at.ad ew18 hq19 kI2
        have k23 := wd_at.ad ew18 hq19 kI3
        have k24 := wd_at.ad ew18 hq19 kI4
        have k25 := wd_at.ad ew18 hq19 kI5
        have k26 := wd_at.ad ew18 hq19 kI6
        have k27 := wd_at.ad ew18 hq19 kI7
        have k28 := wd_at.ad ew18 hq19 kI8
        have k29 := wd_at.ad ew18 hq19 kI9
        have k30 := wd_at.ad ew18 hq19 kI10
        have k31 := wd_at.ad ew18 hq19 kI11
        have k32 := wd_at.ad ew18 hq19 kI12
        have k33 := wd_at.ad ew18 hq19 kI13
        have k34 := wd_at.ad ew18 hq19 kI14
        have k35 := wd_at.ad ew18 hq19 kI15
        have k36 := wd_at.ad ew18 hq19 kI16
        have k37 := wd_at.ad ew18 hq19 kI17
        have k38 := wd_at.ad ew18 hq19 kI18
        have k39 := wd_at.ad ew18 hq19 kI19
        have k40 := wd_at.ad ew18 hq19 kI20
        have k41 := wd_at.ad ew18 hq19 kI21
        have k42 := wd_at.ad ew18 hq19 kI22
        have k43 := wd_at.ad ew18 hq19 kI23
        have k44 := wd_at.ad ew18 hq19 kI24
        have k45 := wd_at.ad ew18 hq19 kI25
        have k46 := wd_at.ad ew18 hq19 kI26
        have k47 := wd_at.ad ew18 hq19 k10
        have k48 : wd_at w17 q16 (.inr (0, [.int 0, .int 0, .int 0, .int 0])) := wd_at.nw ew18
        have fm49 : ∀ i9, i9 < 12 → tf i9 = some (tn i9) ∧ wd_at w17 (tn i9) (.inr (8, [.int (co i9), .int (ra i9), .int (se i9), .ref (ag i9)])) ∧ tg (tn i9) = 100 + i9 := fun i9 hi9 => ⟨(hT9 i9 hi9).1, wd_at.ad ew18 hq19 (hT9 i9 hi9).2.1, (hT9 i9 hi9).2.2⟩
        have fn50 : ∀ i9, i9 < 12 → (tn i9) ≠ q16 := fun i9 hi9 => wd_nL hq19 (hT9 i9 hi9).2.1
        have fm51 : ∀ k9, k9 < 13 → (aOK (cf k9) (nf k9) ∧ ru k9 ≤ 12) ∧ wd_at w17 (aa k9) (.inr (1, [.ref (ga0 k9), .ref (ga1 k9), .ref (ga2 k9), .ref (ga3 k9), .ref (ga4 k9), .int (nI (ru k9))])) ∧ tg (aa k9) = 200 + k9 ∧ wd_at w17 (ga0 k9) (.inl (cy 2, 12, .inl (df k9))) ∧ tg (ga0 k9) = 220 + k9 ∧ wd_at w17 (ga1 k9) (.inl (cy 2, 12, .inl (cf k9))) ∧ tg (ga1 k9) = 240 + k9 ∧ wd_at w17 (ga2 k9) (.inl (cy 2, 72, .inl (nf k9))) ∧ tg (ga2 k9) = 260 + k9 ∧ wd_at w17 (ga3 k9) (.inl (cy 1, 72, .inl (sf k9))) ∧ tg (ga3 k9) = 280 + k9 ∧ wd_at w17 (ga4 k9) (.inl (cy 2, 72, .inl (uf k9))) ∧ tg (ga4 k9) = 300 + k9 := fun k9 hi9 => ⟨(hG9 k9 hi9).1, wd_at.ad ew18 hq19 (hG9 k9 hi9).2.1, (hG9 k9 hi9).2.2.1, wd_at.ad ew18 hq19 (hG9 k9 hi9).2.2.2.1, (hG9 k9 hi9).2.2.2.2.1, wd_at.ad ew18 hq19 (hG9 k9 hi9).2.2.2.2.2.1, (hG9 k9 hi9).2.2.2.2.2.2.1, wd_at.ad ew18 hq19 (hG9 k9 hi9).2.2.2.2.2.2.2.1, (hG9 k9 hi9).2.2.2.2.2.2.2.2.1, wd_at.ad ew18 hq19 (hG9 k9 hi9).2.2.2.2.2.2.2.2.2.1, (hG9 k9 hi9).2.2.2.2.2.2.2.2.2.2.1, wd_at.ad ew18 hq19 (hG9 k9 hi9).2.2.2.2.2.2.2.2.2.2.2.1, (hG9 k9 hi9).2.2.2.2.2.2.2.2.2.2.2.2⟩
        have fn52 : ∀ k9, k9 < 13 → (aa k9) ≠ q16 ∧ (ga0 k9) ≠ q16 ∧ (ga1 k9) ≠ q16 ∧ (ga2 k9) ≠ q16 ∧ (ga3 k9) ≠ q16 ∧ (ga4 k9) ≠ q16 := fun k9 hi9 => ⟨wd_nL hq19 (hG9 k9 hi9).2.1, wd_nL hq19 (hG9 k9 hi9).2.2.2.1, wd_nL hq19 (hG9 k9 hi9).2.2.2.2.2.1, wd_nL hq19 (hG9 k9 hi9).2.2.2.2.2.2.2.1, wd_nL hq19 (hG9 k9 hi9).2.2.2.2.2.2.2.2.2.1, wd_nL hq19 (hG9 k9 hi9).2.2.2.2.2.2.2.2.2.2.2.1⟩
        have fm53 : ∀ k9, k9 < pc → pf k9 = some (pa k9) ∧ wd_at w17 (pa k9) (.inr (3, [.int (plv k9), .int (pwo k9), .int (phd k9), .int (pgd k9), .int (pdy k9), .int (pno k9), .int (ptp k9)])) ∧ tg (pa k9) = 3000 + k9 := fun k9 hi9 => ⟨(hP9 k9 hi9).1, wd_at.ad ew18 hq19 (hP9 k9 hi9).2.1, (hP9 k9 hi9).2.2⟩
        have fn54 : ∀ k9, k9 < pc → (pa k9) ≠ q16 := fun k9 hi9 => wd_nL hq19 (hP9 k9 hi9).2.1
        have fm55 : ∀ k9, k9 < ac → af k9 = some (ad k9) ∧ wd_at w17 (ad k9) (.inr (0, [.int (av0 k9), .int (av1 k9), .int (av2 k9), .int (av3 k9)])) ∧ tg (ad k9) = 4000 + k9 := fun k9 hi9 => ⟨(hA9 k9 hi9).1, wd_at.ad ew18 hq19 (hA9 k9 hi9).2.1, (hA9 k9 hi9).2.2⟩
        have fn56 : ∀ k9, k9 < ac → (ad k9) ≠ q16 := fun k9 hi9 => wd_nL hq19 (hA9 k9 hi9).2.1
        have fm57 : ∀ k9, k9 < sc → zf k9 = some (so k9) ∧ wd_at w17 (so k9) (.inr (6, [.int (sp0 k9), .int (sp1 k9), .ref (sr k9)])) ∧ tg (so k9) = 5000 + k9 ∧ wd_at w17 (sr k9) (.inl (cy 2, 12, .inl (sd k9))) ∧ tg (sr k9) = 6000 + k9 := fun k9 hi9 => ⟨(hS9 k9 hi9).1, wd_at.ad ew18 hq19 (hS9 k9 hi9).2.1, (hS9 k9 hi9).2.2.1, wd_at.ad ew18 hq19 (hS9 k9 hi9).2.2.2.1, (hS9 k9 hi9).2.2.2.2⟩
        have fn58 : ∀ k9, k9 < sc → (so k9) ≠ q16 ∧ (sr k9) ≠ q16 := fun k9 hi9 => ⟨wd_nL hq19 (hS9 k9 hi9).2.1, wd_nL hq19 (hS9 k9 hi9).2.2.2.1⟩
        have fm59 : ∀ k9, k9 < sh → (hf k9 = some (sw k9) ∧ hto k9 < 12) ∧ wd_at w17 (sw k9) (.inr (5, [.int (nI (hto k9)), .int (hpp k9), .int (hle k9), .int (ham k9), .int (hhh k9), .int (hdd k9), .int (hru k9), .int (hde k9), .int (hcp k9), .int (hld k9)])) ∧ tg (sw k9) = 7000 + k9 := fun k9 hi9 => ⟨(hH9 k9 hi9).1, wd_at.ad ew18 hq19 (hH9 k9 hi9).2.1, (hH9 k9 hi9).2.2⟩
        have fn60 : ∀ k9, k9 < sh → (sw k9) ≠ q16 := fun k9 hi9 => wd_nL hq19 (hH9 k9 hi9).2.1
        have kp61 := kp0.add ew18 hq19
        refine lv_dup hx hb dX10_advise_37 rfl ?_
        refine lv_iload_n hx hb dX10_advise_38 rfl (lv_at hl 1 rfl) ?_
        refine lv_iload_n hx hb dX10_advise_39 rfl (lv_at hl 2 rfl) ?_
        refine lv_aload_n hx hb dX10_advise_40 rfl (lv_at hl 0 rfl) ?_
        refine lv_iconst (v := 0) hx hb dX10_advise_41 (by decide) ?_
        refine lv_iload_n hx hb dX10_advise_42 rfl (lv_at hl 2 rfl) ?_
        refine x_callV (n := 2) (As := [.int 0, .int (nI t)]) (rest := [.int (nI t), .int x1, .ref q16, .ref q16, .int (nI ac), .ref a3]) F hP hD hS (g_letterDay l D cy sk sv w17 x a0 a1 a2 a3 a4 a5 a6 a7 a8 (aa sg) a10 a11 pc ac sc sh td b0 b1 b2 b3 f0 f1 f2 f3 t 0 k20 k21 k22 k23 k24 k25 (fun b => b = b2 ∨ b = b3) (Or.inl rfl) (Or.inr rfl) (by omega) (tg_ne tI4 tI5 (by omega))) gX10_advise_X10_letterDay rfl rfl (by decide +kernel) ⟨(Nat.le_of_ble_eq_true rfl), (Nat.le_of_ble_eq_true rfl)⟩ rfl hl.1 (Nat.le_of_ble_eq_true rfl) k20 rfl dX10_advise_43 rfl ⟨(Nat.le_of_ble_eq_true rfl), (Nat.le_of_ble_eq_true rfl)⟩ (fun v63 w64 hp62 H locs hP hD hS => ?_)
        obtain ⟨dx65, px66, rx67, rfl, kq70, k68, k69⟩ := hp62
        have k71 := kq70.2 _ _ k20 (fun q9 => Or.elim q9 (tg_ne tI0 tI4 (by omega)) (fun q9 : x = b3 => (tg_ne tI0 tI5 (by omega)) q9))
        have k72 := kq70.2 _ _ k21 (fun q9 => Or.elim q9 (tg_ne tI1 tI4 (by omega)) (fun q9 : a0 = b3 => (tg_ne tI1 tI5 (by omega)) q9))
        have k73 := kq70.2 _ _ k22 (fun q9 => Or.elim q9 (tg_ne tI2 tI4 (by omega)) (fun q9 : b0 = b3 => (tg_ne tI2 tI5 (by omega)) q9))
        have k74 := kq70.2 _ _ k23 (fun q9 => Or.elim q9 (tg_ne tI3 tI4 (by omega)) (fun q9 : b1 = b3 => (tg_ne tI3 tI5 (by omega)) q9))
        have k75 := kq70.2 _ _ k26 (fun q9 => Or.elim q9 (tg_ne tI6 tI4 (by omega)) (fun q9 : a1 = b3 => (tg_ne tI6 tI5 (by omega)) q9))
        have k76 := kq70.2 _ _ k27 (fun q9 => Or.elim q9 (tg_ne tI7 tI4 (by omega)) (fun q9 : a2 = b3 => (tg_ne tI7 tI5 (by omega)) q9))
        have k77 := kq70.2 _ _ k28 (fun q9 => Or.elim q9 (tg_ne tI8 tI4 (by omega)) (fun q9 : a3 = b3 => (tg_ne tI8 tI5 (by omega)) q9))
        have k78 := kq70.2 _ _ k29 (fun q9 => Or.elim q9 (tg_ne tI9 tI4 (by omega)) (fun q9 : a4 = b3 => (tg_ne tI9 tI5 (by omega)) q9))
        have k79 := kq70.2 _ _ k30 (fun q9 => Or.elim q9 (tg_ne tI10 tI4 (by omega)) (fun q9 : a5 = b3 => (tg_ne tI10 tI5 (by omega)) q9))
        have k80 := kq70.2 _ _ k31 (fun q9 => Or.elim q9 (tg_ne tI11 tI4 (by omega)) (fun q9 : a6 = b3 => (tg_ne tI11 tI5 (by omega)) q9))
        have k81 := kq70.2 _ _ k32 (fun q9 => Or.elim q9 (tg_ne tI12 tI4 (by omega)) (fun q9 : tb = b3 => (tg_ne tI12 tI5 (by omega)) q9))
        have k82 := kq70.2 _ _ k33 (fun q9 => Or.elim q9 (tg_ne tI13 tI4 (by omega)) (fun q9 : a7 = b3 => (tg_ne tI13 tI5 (by omega)) q9))
        have k83 := kq70.2 _ _ k34 (fun q9 => Or.elim q9 (tg_ne tI14 tI4 (by omega)) (fun q9 : l0 = b3 => (tg_ne tI14 tI5 (by omega)) q9))
        have k84 := kq70.2 _ _ k35 (fun q9 => Or.elim q9 (tg_ne tI15 tI4 (by omega)) (fun q9 : l1 = b3 => (tg_ne tI15 tI5 (by omega)) q9))
        have k85 := kq70.2 _ _ k36 (fun q9 => Or.elim q9 (tg_ne tI16 tI4 (by omega)) (fun q9 : l2 = b3 => (tg_ne tI16 tI5 (by omega)) q9))
        have k86 := kq70.2 _ _ k37 (fun q9 => Or.elim q9 (tg_ne tI17 tI4 (by omega)) (fun q9 : l3 = b3 => (tg_ne tI17 tI5 (by omega)) q9))
        have k87 := kq70.2 _ _ k38 (fun q9 => Or.elim q9 (tg_ne tI18 tI4 (by omega)) (fun q9 : l4 = b3 => (tg_ne tI18 tI5 (by omega)) q9))
        have k88 := kq70.2 _ _ k39 (fun q9 => Or.elim q9 (tg_ne tI19 tI4 (by omega)) (fun q9 : l5 = b3 => (tg_ne tI19 tI5 (by omega)) q9))
        have k89 := kq70.2 _ _ k40 (fun q9 => Or.elim q9 (tg_ne tI20 tI4 (by omega)) (fun q9 : l6 = b3 => (tg_ne tI20 tI5 (by omega)) q9))
        have k90 := kq70.2 _ _ k41 (fun q9 => Or.elim q9 (tg_ne tI21 tI4 (by omega)) (fun q9 : l7 = b3 => (tg_ne tI21 tI5 (by omega)) q9))
        have k91 := kq70.2 _ _ k42 (fun q9 => Or.elim q9 (tg_ne tI22 tI4 (by omega)) (fun q9 : a8 = b3 => (tg_ne tI22 tI5 (by omega)) q9))
        have k92 := kq70.2 _ _ k43 (fun q9 => Or.elim q9 (tg_ne tI23 tI4 (by omega)) (fun q9 : a10 = b3 => (tg_ne tI23 tI5 (by omega)) q9))
        have k93 := kq70.2 _ _ k44 (fun q9 => Or.elim q9 (tg_ne tI24 tI4 (by omega)) (fun q9 : bl = b3 => (tg_ne tI24 tI5 (by omega)) q9))
        have k94 := kq70.2 _ _ k45 (fun q9 => Or.elim q9 (tg_ne tI25 tI4 (by omega)) (fun q9 : a11 = b3 => (tg_ne tI25 tI5 (by omega)) q9))
        have k95 := kq70.2 _ _ k46 (fun q9 => Or.elim q9 (tg_ne tI26 tI4 (by omega)) (fun q9 : bm = b3 => (tg_ne tI26 tI5 (by omega)) q9))
        have k96 := kq70.2 _ _ k47 (fun q9 => Or.elim q9 (tg_ne tz11 tI4 (by omega)) (fun q9 : (pa j5) = b3 => (tg_ne tz11 tI5 (by omega)) q9))
        have k97 := kq70.2 _ _ k48 (fun q9 => Or.elim q9 (Ne.symm (wd_nL hq19 kI4)) (fun q9 : q16 = b3 => (Ne.symm (wd_nL hq19 kI5)) q9))
        have fm98 : ∀ i9, i9 < 12 → tf i9 = some (tn i9) ∧ wd_at w64 (tn i9) (.inr (8, [.int (co i9), .int (ra i9), .int (se i9), .ref (ag i9)])) ∧ tg (tn i9) = 100 + i9 := fun i9 hi9 => ⟨(fm49 i9 hi9).1, kq70.2 _ _ (fm49 i9 hi9).2.1 (fun q9 => Or.elim q9 (tg_ne (fm49 i9 hi9).2.2 tI4 (by omega)) (tg_ne (fm49 i9 hi9).2.2 tI5 (by omega))), (fm49 i9 hi9).2.2⟩
        have fm99 : ∀ k9, k9 < 13 → (aOK (cf k9) (nf k9) ∧ ru k9 ≤ 12) ∧ wd_at w64 (aa k9) (.inr (1, [.ref (ga0 k9), .ref (ga1 k9), .ref (ga2 k9), .ref (ga3 k9), .ref (ga4 k9), .int (nI (ru k9))])) ∧ tg (aa k9) = 200 + k9 ∧ wd_at w64 (ga0 k9) (.inl (cy 2, 12, .inl (df k9))) ∧ tg (ga0 k9) = 220 + k9 ∧ wd_at w64 (ga1 k9) (.inl (cy 2, 12, .inl (cf k9))) ∧ tg (ga1 k9) = 240 + k9 ∧ wd_at w64 (ga2 k9) (.inl (cy 2, 72, .inl (nf k9))) ∧ tg (ga2 k9) = 260 + k9 ∧ wd_at w64 (ga3 k9) (.inl (cy 1, 72, .inl (sf k9))) ∧ tg (ga3 k9) = 280 + k9 ∧ wd_at w64 (ga4 k9) (.inl (cy 2, 72, .inl (uf k9))) ∧ tg (ga4 k9) = 300 + k9 := fun k9 hi9 => ⟨(fm51 k9 hi9).1, kq70.2 _ _ (fm51 k9 hi9).2.1 (fun q9 => Or.elim q9 (tg_ne (fm51 k9 hi9).2.2.1 tI4 (by omega)) (tg_ne (fm51 k9 hi9).2.2.1 tI5 (by omega))), (fm51 k9 hi9).2.2.1, kq70.2 _ _ (fm51 k9 hi9).2.2.2.1 (fun q9 => Or.elim q9 (tg_ne (fm51 k9 hi9).2.2.2.2.1 tI4 (by omega)) (tg_ne (fm51 k9 hi9).2.2.2.2.1 tI5 (by omega))), (fm51 k9 hi9).2.2.2.2.1, kq70.2 _ _ (fm51 k9 hi9).2.2.2.2.2.1 (fun q9 => Or.elim q9 (tg_ne (fm51 k9 hi9).2.2.2.2.2.2.1 tI4 (by omega)) (tg_ne (fm51 k9 hi9).2.2.2.2.2.2.1 tI5 (by omega))), (fm51 k9 hi9).2.2.2.2.2.2.1, kq70.2 _ _ (fm51 k9 hi9).2.2.2.2.2.2.2.1 (fun q9 => Or.elim q9 (tg_ne (fm51 k9 hi9).2.2.2.2.2.2.2.2.1 tI4 (by omega)) (tg_ne (fm51 k9 hi9).2.2.2.2.2.2.2.2.1 tI5 (by omega))), (fm51 k9 hi9).2.2.2.2.2.2.2.2.1, kq70.2 _ _ (fm51 k9 hi9).2.2.2.2.2.2.2.2.2.1 (fun q9 => Or.elim q9 (tg_ne (fm51 k9 hi9).2.2.2.2.2.2.2.2.2.2.1 tI4 (by omega)) (tg_ne (fm51 k9 hi9).2.2.2.2.2.2.2.2.2.2.1 tI5 (by omega))), (fm51 k9 hi9).2.2.2.2.2.2.2.2.2.2.1, kq70.2 _ _ (fm51 k9 hi9).2.2.2.2.2.2.2.2.2.2.2.1 (fun q9 => Or.elim q9 (tg_ne (fm51 k9 hi9).2.2.2.2.2.2.2.2.2.2.2.2 tI4 (by omega)) (tg_ne (fm51 k9 hi9).2.2.2.2.2.2.2.2.2.2.2.2 tI5 (by omega))), (fm51 k9 hi9).2.2.2.2.2.2.2.2.2.2.2.2⟩
        have fm100 : ∀ k9, k9 < pc → pf k9 = some (pa k9) ∧ wd_at w64 (pa k9) (.inr (3, [.int (plv k9), .int (pwo k9), .int (phd k9), .int (pgd k9), .int (pdy k9), .int (pno k9), .int (ptp k9)])) ∧ tg (pa k9) = 3000 + k9 := fun k9 hi9 => ⟨(fm53 k9 hi9).1, kq70.2 _ _ (fm53 k9 hi9).2.1 (fun q9 => Or.elim q9 (tg_ne (fm53 k9 hi9).2.2 tI4 (by omega)) (tg_ne (fm53 k9 hi9).2.2 tI5 (by omega))), (fm53 k9 hi9).2.2⟩
        have fm101 : ∀ k9, k9 < ac → af k9 = some (ad k9) ∧ wd_at w64 (ad k9) (.inr (0, [.int (av0 k9), .int (av1 k9), .int (av2 k9), .int (av3 k9)])) ∧ tg (ad k9) = 4000 + k9 := fun k9 hi9 => ⟨(fm55 k9 hi9).1, kq70.2 _ _ (fm55 k9 hi9).2.1 (fun q9 => Or.elim q9 (tg_ne (fm55 k9 hi9).2.2 tI4 (by omega)) (tg_ne (fm55 k9 hi9).2.2 tI5 (by omega))), (fm55 k9 hi9).2.2⟩
        have fm102 : ∀ k9, k9 < sc → zf k9 = some (so k9) ∧ wd_at w64 (so k9) (.inr (6, [.int (sp0 k9), .int (sp1 k9), .ref (sr k9)])) ∧ tg (so k9) = 5000 + k9 ∧ wd_at w64 (sr k9) (.inl (cy 2, 12, .inl (sd k9))) ∧ tg (sr k9) = 6000 + k9 := fun k9 hi9 => ⟨(fm57 k9 hi9).1, kq70.2 _ _ (fm57 k9 hi9).2.1 (fun q9 => Or.elim q9 (tg_ne (fm57 k9 hi9).2.2.1 tI4 (by omega)) (tg_ne (fm57 k9 hi9).2.2.1 tI5 (by omega))), (fm57 k9 hi9).2.2.1, kq70.2 _ _ (fm57 k9 hi9).2.2.2.1 (fun q9 => Or.elim q9 (tg_ne (fm57 k9 hi9).2.2.2.2 tI4 (by omega)) (tg_ne (fm57 k9 hi9).2.2.2.2 tI5 (by omega))), (fm57 k9 hi9).2.2.2.2⟩
        have fm103 : ∀ k9, k9 < sh → (hf k9 = some (sw k9) ∧ hto k9 < 12) ∧ wd_at w64 (sw k9) (.inr (5, [.int (nI (hto k9)), .int (hpp k9), .int (hle k9), .int (ham k9), .int (hhh k9), .int (hdd k9), .int (hru k9), .int (hde k9), .int (hcp k9), .int (hld k9)])) ∧ tg (sw k9) = 7000 + k9 := fun k9 hi9 => ⟨(fm59 k9 hi9).1, kq70.2 _ _ (fm59 k9 hi9).2.1 (fun q9 => Or.elim q9 (tg_ne (fm59 k9 hi9).2.2 tI4 (by omega)) (tg_ne (fm59 k9 hi9).2.2 tI5 (by omega))), (fm59 k9 hi9).2.2⟩
        have kp104 := kp61.tr kq70 (fun b9 hm q9 => (fun q9 => Or.elim q9 (fun q9 => q9 ▸ (tgS tI4 (by omega))) (fun q9 => q9 ▸ (tgS tI5 (by omega)))) q9)
        refine W.eq (g2 := F0 m 46 ls [.int rx67, .int (nI t), .int x1, .ref q16, .ref q16, .int (nI ac), .ref a3]) rfl (W.widen (k := 1) (n := 4) (Nat.le_of_ble_eq_true rfl) (Nat.le_of_ble_eq_true rfl) ?_)
        refine x_callI (ret := none) (n := 3) (As := [.int x1, .int (nI t), .int rx67]) (rest := [.ref q16, .int (nI ac), .ref a3]) F hP hD hS (g_advice_init l D cy sk sv w64 q16 x1 (nI t) rx67 k97 (fun b => b = q16) rfl) gX10_advise_X0_init rfl (List.mem_cons_of_mem _ (List.mem_append_left _ (List.mem_append_left _ (List.mem_append_left _ (List.mem_append_left _ (List.mem_of_getElem? (i := 4) rfl)))))) (List.mem_cons_of_mem _ (List.mem_append_left _ (List.mem_append_left _ (List.mem_append_left _ (List.mem_append_right _ (List.mem_append_right _ (List.mem_of_getElem? (i := 3) rfl))))))) (List.mem_cons_of_mem _ (List.mem_append_left _ (List.mem_append_left _ (List.mem_append_left _ (List.mem_append_right _ (List.mem_append_right _ (List.mem_of_getElem? (i := 4) rfl))))))) rfl (by decide +kernel) ⟨(Nat.le_of_ble_eq_true rfl), (Nat.le_of_ble_eq_true rfl)⟩ rfl hl.1 (Nat.le_of_ble_eq_true rfl) dX10_advise_46 rfl ⟨(Nat.le_of_ble_eq_true rfl), (Nat.le_of_ble_eq_true rfl)⟩ (fun v106 w107 hp105 H locs hP hD hS => ?_)
        obtain ⟨rfl, kq109, k108⟩ := hp105
        have k110 := kq109.2 _ _ k71 (fun q9 : x = q16 => (wd_nL hq19 kI0) q9)
        have k111 := kq109.2 _ _ k72 (fun q9 : a0 = q16 => (wd_nL hq19 kI1) q9)
        have k112 := kq109.2 _ _ k73 (fun q9 : b0 = q16 => (wd_nL hq19 kI2) q9)
        have k113 := kq109.2 _ _ k74 (fun q9 : b1 = q16 => (wd_nL hq19 kI3) q9)
        have k114 := kq109.2 _ _ k68 (fun q9 : b2 = q16 => (wd_nL hq19 kI4) q9)
        have k115 := kq109.2 _ _ k69 (fun q9 : b3 = q16 => (wd_nL hq19 kI5) q9)
        have k116 := kq109.2 _ _ k75 (fun q9 : a1 = q16 => (wd_nL hq19 kI6) q9)
        have k117 := kq109.2 _ _ k76 (fun q9 : a2 = q16 => (wd_nL hq19 kI7) q9)
        have k118 := kq109.2 _ _ k77 (fun q9 : a3 = q16 => (wd_nL hq19 kI8) q9)
        have k119 := kq109.2 _ _ k78 (fun q9 : a4 = q16 => (wd_nL hq19 kI9) q9)
        have k120 := kq109.2 _ _ k79 (fun q9 : a5 = q16 => (wd_nL hq19 kI10) q9)
        have k121 := kq109.2 _ _ k80 (fun q9 : a6 = q16 => (wd_nL hq19 kI11) q9)
        have k122 := kq109.2 _ _ k81 (fun q9 : tb = q16 => (wd_nL hq19 kI12) q9)
        have k123 := kq109.2 _ _ k82 (fun q9 : a7 = q16 => (wd_nL hq19 kI13) q9)
        have k124 := kq109.2 _ _ k83 (fun q9 : l0 = q16 => (wd_nL hq19 kI14) q9)
        have k125 := kq109.2 _ _ k84 (fun q9 : l1 = q16 => (wd_nL hq19 kI15) q9)
        have k126 := kq109.2 _ _ k85 (fun q9 : l2 = q16 => (wd_nL hq19 kI16) q9)
        have k127 := kq109.2 _ _ k86 (fun q9 : l3 = q16 => (wd_nL hq19 kI17) q9)
        have k128 := kq109.2 _ _ k87 (fun q9 : l4 = q16 => (wd_nL hq19 kI18) q9)
        have k129 := kq109.2 _ _ k88 (fun q9 : l5 = q16 => (wd_nL hq19 kI19) q9)
        have k130 := kq109.2 _ _ k89 (fun q9 : l6 = q16 => (wd_nL hq19 kI20) q9)
        have k131 := kq109.2 _ _ k90 (fun q9 : l7 = q16 => (wd_nL hq19 kI21) q9)
        have k132 := kq109.2 _ _ k91 (fun q9 : a8 = q16 => (wd_nL hq19 kI22) q9)
        have k133 := kq109.2 _ _ k92 (fun q9 : a10 = q16 => (wd_nL hq19 kI23) q9)
        have k134 := kq109.2 _ _ k93 (fun q9 : bl = q16 => (wd_nL hq19 kI24) q9)
        have k135 := kq109.2 _ _ k94 (fun q9 : a11 = q16 => (wd_nL hq19 kI25) q9)
        have k136 := kq109.2 _ _ k95 (fun q9 : bm = q16 => (wd_nL hq19 kI26) q9)
        have k137 := kq109.2 _ _ k96 (fun q9 : (pa j5) = q16 => (wd_nL hq19 k10) q9)
        have fm138 : ∀ i9, i9 < 12 → tf i9 = some (tn i9) ∧ wd_at w107 (tn i9) (.inr (8, [.int (co i9), .int (ra i9), .int (se i9), .ref (ag i9)])) ∧ tg (tn i9) = 100 + i9 := fun i9 hi9 => ⟨(fm98 i9 hi9).1, kq109.2 _ _ (fm98 i9 hi9).2.1 (fn50 i9 hi9), (fm98 i9 hi9).2.2⟩
        have fm139 : ∀ k9, k9 < 13 → (aOK (cf k9) (nf k9) ∧ ru k9 ≤ 12) ∧ wd_at w107 (aa k9) (.inr (1, [.ref (ga0 k9), .ref (ga1 k9), .ref (ga2 k9), .ref (ga3 k9), .ref (ga4 k9), .int (nI (ru k9))])) ∧ tg (aa k9) = 200 + k9 ∧ wd_at w107 (ga0 k9) (.inl (cy 2, 12, .inl (df k9))) ∧ tg (ga0 k9) = 220 + k9 ∧ wd_at w107 (ga1 k9) (.inl (cy 2, 12, .inl (cf k9))) ∧ tg (ga1 k9) = 240 + k9 ∧ wd_at w107 (ga2 k9) (.inl (cy 2, 72, .inl (nf k9))) ∧ tg (ga2 k9) = 260 + k9 ∧ wd_at w107 (ga3 k9) (.inl (cy 1, 72, .inl (sf k9))) ∧ tg (ga3 k9) = 280 + k9 ∧ wd_at w107 (ga4 k9) (.inl (cy 2, 72, .inl (uf k9))) ∧ tg (ga4 k9) = 300 + k9 := fun k9 hi9 => ⟨(fm99 k9 hi9).1, kq109.2 _ _ (fm99 k9 hi9).2.1 ((fn52 k9 hi9).1), (fm99 k9 hi9).2.2.1, kq109.2 _ _ (fm99 k9 hi9).2.2.2.1 ((fn52 k9 hi9).2.1), (fm99 k9 hi9).2.2.2.2.1, kq109.2 _ _ (fm99 k9 hi9).2.2.2.2.2.1 ((fn52 k9 hi9).2.2.1), (fm99 k9 hi9).2.2.2.2.2.2.1, kq109.2 _ _ (fm99 k9 hi9).2.2.2.2.2.2.2.1 ((fn52 k9 hi9).2.2.2.1), (fm99 k9 hi9).2.2.2.2.2.2.2.2.1, kq109.2 _ _ (fm99 k9 hi9).2.2.2.2.2.2.2.2.2.1 ((fn52 k9 hi9).2.2.2.2.1), (fm99 k9 hi9).2.2.2.2.2.2.2.2.2.2.1, kq109.2 _ _ (fm99 k9 hi9).2.2.2.2.2.2.2.2.2.2.2.1 ((fn52 k9 hi9).2.2.2.2.2), (fm99 k9 hi9).2.2.2.2.2.2.2.2.2.2.2.2⟩
        have fm140 : ∀ k9, k9 < pc → pf k9 = some (pa k9) ∧ wd_at w107 (pa k9) (.inr (3, [.int (plv k9), .int (pwo k9), .int (phd k9), .int (pgd k9), .int (pdy k9), .int (pno k9), .int (ptp k9)])) ∧ tg (pa k9) = 3000 + k9 := fun k9 hi9 => ⟨(fm100 k9 hi9).1, kq109.2 _ _ (fm100 k9 hi9).2.1 (fn54 k9 hi9), (fm100 k9 hi9).2.2⟩
        have fm141 : ∀ k9, k9 < ac → af k9 = some (ad k9) ∧ wd_at w107 (ad k9) (.inr (0, [.int (av0 k9), .int (av1 k9), .int (av2 k9), .int (av3 k9)])) ∧ tg (ad k9) = 4000 + k9 := fun k9 hi9 => ⟨(fm101 k9 hi9).1, kq109.2 _ _ (fm101 k9 hi9).2.1 (fn56 k9 hi9), (fm101 k9 hi9).2.2⟩
        have fm142 : ∀ k9, k9 < sc → zf k9 = some (so k9) ∧ wd_at w107 (so k9) (.inr (6, [.int (sp0 k9), .int (sp1 k9), .ref (sr k9)])) ∧ tg (so k9) = 5000 + k9 ∧ wd_at w107 (sr k9) (.inl (cy 2, 12, .inl (sd k9))) ∧ tg (sr k9) = 6000 + k9 := fun k9 hi9 => ⟨(fm102 k9 hi9).1, kq109.2 _ _ (fm102 k9 hi9).2.1 ((fn58 k9 hi9).1), (fm102 k9 hi9).2.2.1, kq109.2 _ _ (fm102 k9 hi9).2.2.2.1 ((fn58 k9 hi9).2), (fm102 k9 hi9).2.2.2.2⟩
        have fm143 : ∀ k9, k9 < sh → (hf k9 = some (sw k9) ∧ hto k9 < 12) ∧ wd_at w107 (sw k9) (.inr (5, [.int (nI (hto k9)), .int (hpp k9), .int (hle k9), .int (ham k9), .int (hhh k9), .int (hdd k9), .int (hru k9), .int (hde k9), .int (hcp k9), .int (hld k9)])) ∧ tg (sw k9) = 7000 + k9 := fun k9 hi9 => ⟨(fm103 k9 hi9).1, kq109.2 _ _ (fm103 k9 hi9).2.1 (fn60 k9 hi9), (fm103 k9 hi9).2.2⟩
        have kp144 := kp104.tr kq109 (fun b9 hm q9 => (fun q9 => absurd (q9 ▸ hm) (kp0.out hq19)) q9)
        refine W.eq (g2 := F0 m 49 ls [.ref q16, .int (nI ac), .ref a3]) rfl (W.widen (k := 1) (n := 4) (Nat.le_of_ble_eq_true rfl) (Nat.le_of_ble_eq_true rfl) ?_)
        refine y_aast F hP hD hS k118 rfl k108 rfl (vp_in_nI (n := ac) (N := 60) (by omega) (by decide)) dX10_advise_49 (fun w145 ew146 H locs hP hD hS => ?_)
        have k147 := wd_at.pt ew146 k110 (tg_ne tI0 tI8 (by omega))
        have k148 := wd_at.pt ew146 k111 (tg_ne tI1 tI8 (by omega))
        have k149 := wd_at.pt ew146 k112 (tg_ne tI2 tI8 (by omega))
        have k150 := wd_at.pt ew146 k113 (tg_ne tI3 tI8 (by omega))
        have k151 := wd_at.pt ew146 k114 (tg_ne tI4 tI8 (by omega))
        have k152 := wd_at.pt ew146 k115 (tg_ne tI5 tI8 (by omega))
        have k153 := wd_at.pt ew146 k116 (tg_ne tI6 tI8 (by omega))
        have k154 := wd_at.pt ew146 k117 (tg_ne tI7 tI8 (by omega))
        have k155 : wd_at w145 a3 (.inl (cy 5, 60, .inr (.inr (.inr (.inr (va_up af (nI ac).toNatClampNeg (some q16))))))) := wd_at.ps ew146 k118
        have k156 := wd_at.pt ew146 k119 (tg_ne tI9 tI8 (by omega))
        have k157 := wd_at.pt ew146 k120 (tg_ne tI10 tI8 (by omega))
        have k158 := wd_at.pt ew146 k121 (tg_ne tI11 tI8 (by omega))
        have k159 := wd_at.pt ew146 k122 (tg_ne tI12 tI8 (by omega))
        have k160 := wd_at.pt ew146 k123 (tg_ne tI13 tI8 (by omega))
        have k161 := wd_at.pt ew146 k124 (tg_ne tI14 tI8 (by omega))
        have k162 := wd_at.pt ew146 k125 (tg_ne tI15 tI8 (by omega))
        have k163 := wd_at.pt ew146 k126 (tg_ne tI16 tI8 (by omega))
        have k164 := wd_at.pt ew146 k127 (tg_ne tI17 tI8 (by omega))
        have k165 := wd_at.pt ew146 k128 (tg_ne tI18 tI8 (by omega))
        have k166 := wd_at.pt ew146 k129 (tg_ne tI19 tI8 (by omega))
        have k167 := wd_at.pt ew146 k130 (tg_ne tI20 tI8 (by omega))
        have k168 := wd_at.pt ew146 k131 (tg_ne tI21 tI8 (by omega))
        have k169 := wd_at.pt ew146 k132 (tg_ne tI22 tI8 (by omega))
        have k170 := wd_at.pt ew146 k133 (tg_ne tI23 tI8 (by omega))
        have k171 := wd_at.pt ew146 k134 (tg_ne tI24 tI8 (by omega))
        have k172 := wd_at.pt ew146 k135 (tg_ne tI25 tI8 (by omega))
        have k173 := wd_at.pt ew146 k136 (tg_ne tI26 tI8 (by omega))
        have k174 := wd_at.pt ew146 k137 (tg_ne tz11 tI8 (by omega))
        have k175 := wd_at.pt ew146 k108 (Ne.symm (wd_nL hq19 kI8))
        have fm176 : ∀ i9, i9 < 12 → tf i9 = some (tn i9) ∧ wd_at w145 (tn i9) (.inr (8, [.int (co i9), .int (ra i9), .int (se i9), .ref (ag i9)])) ∧ tg (tn i9) = 100 + i9 := fun i9 hi9 => ⟨(fm138 i9 hi9).1, wd_at.pt ew146 (fm138 i9 hi9).2.1 (tg_ne (fm138 i9 hi9).2.2 tI8 (by omega)), (fm138 i9 hi9).2.2⟩
        have fm177 : ∀ k9, k9 < 13 → (aOK (cf k9) (nf k9) ∧ ru k9 ≤ 12) ∧ wd_at w145 (aa k9) (.inr (1, [.ref (ga0 k9), .ref (ga1 k9), .ref (ga2 k9), .ref (ga3 k9), .ref (ga4 k9), .int (nI (ru k9))])) ∧ tg (aa k9) = 200 + k9 ∧ wd_at w145 (ga0 k9) (.inl (cy 2, 12, .inl (df k9))) ∧ tg (ga0 k9) = 220 + k9 ∧ wd_at w145 (ga1 k9) (.inl (cy 2, 12, .inl (cf k9))) ∧ tg (ga1 k9) = 240 + k9 ∧ wd_at w145 (ga2 k9) (.inl (cy 2, 72, .inl (nf k9))) ∧ tg (ga2 k9) = 260 + k9 ∧ wd_at w145 (ga3 k9) (.inl (cy 1, 72, .inl (sf k9))) ∧ tg (ga3 k9) = 280 + k9 ∧ wd_at w145 (ga4 k9) (.inl (cy 2, 72, .inl (uf k9))) ∧ tg (ga4 k9) = 300 + k9 := fun k9 hi9 => ⟨(fm139 k9 hi9).1, wd_at.pt ew146 (fm139 k9 hi9).2.1 (tg_ne (fm139 k9 hi9).2.2.1 tI8 (by omega)), (fm139 k9 hi9).2.2.1, wd_at.pt ew146 (fm139 k9 hi9).2.2.2.1 (tg_ne (fm139 k9 hi9).2.2.2.2.1 tI8 (by omega)), (fm139 k9 hi9).2.2.2.2.1, wd_at.pt ew146 (fm139 k9 hi9).2.2.2.2.2.1 (tg_ne (fm139 k9 hi9).2.2.2.2.2.2.1 tI8 (by omega)), (fm139 k9 hi9).2.2.2.2.2.2.1, wd_at.pt ew146 (fm139 k9 hi9).2.2.2.2.2.2.2.1 (tg_ne (fm139 k9 hi9).2.2.2.2.2.2.2.2.1 tI8 (by omega)), (fm139 k9 hi9).2.2.2.2.2.2.2.2.1, wd_at.pt ew146 (fm139 k9 hi9).2.2.2.2.2.2.2.2.2.1 (tg_ne (fm139 k9 hi9).2.2.2.2.2.2.2.2.2.2.1 tI8 (by omega)), (fm139 k9 hi9).2.2.2.2.2.2.2.2.2.2.1, wd_at.pt ew146 (fm139 k9 hi9).2.2.2.2.2.2.2.2.2.2.2.1 (tg_ne (fm139 k9 hi9).2.2.2.2.2.2.2.2.2.2.2.2 tI8 (by omega)), (fm139 k9 hi9).2.2.2.2.2.2.2.2.2.2.2.2⟩
        have fm178 : ∀ k9, k9 < pc → pf k9 = some (pa k9) ∧ wd_at w145 (pa k9) (.inr (3, [.int (plv k9), .int (pwo k9), .int (phd k9), .int (pgd k9), .int (pdy k9), .int (pno k9), .int (ptp k9)])) ∧ tg (pa k9) = 3000 + k9 := fun k9 hi9 => ⟨(fm140 k9 hi9).1, wd_at.pt ew146 (fm140 k9 hi9).2.1 (tg_ne (fm140 k9 hi9).2.2 tI8 (by omega)), (fm140 k9 hi9).2.2⟩
        have fm179 : ∀ k9, k9 < ac → af k9 = some (ad k9) ∧ wd_at w145 (ad k9) (.inr (0, [.int (av0 k9), .int (av1 k9), .int (av2 k9), .int (av3 k9)])) ∧ tg (ad k9) = 4000 + k9 := fun k9 hi9 => ⟨(fm141 k9 hi9).1, wd_at.pt ew146 (fm141 k9 hi9).2.1 (tg_ne (fm141 k9 hi9).2.2 tI8 (by omega)), (fm141 k9 hi9).2.2⟩
        have fm180 : ∀ k9, k9 < sc → zf k9 = some (so k9) ∧ wd_at w145 (so k9) (.inr (6, [.int (sp0 k9), .int (sp1 k9), .ref (sr k9)])) ∧ tg (so k9) = 5000 + k9 ∧ wd_at w145 (sr k9) (.inl (cy 2, 12, .inl (sd k9))) ∧ tg (sr k9) = 6000 + k9 := fun k9 hi9 => ⟨(fm142 k9 hi9).1, wd_at.pt ew146 (fm142 k9 hi9).2.1 (tg_ne (fm142 k9 hi9).2.2.1 tI8 (by omega)), (fm142 k9 hi9).2.2.1, wd_at.pt ew146 (fm142 k9 hi9).2.2.2.1 (tg_ne (fm142 k9 hi9).2.2.2.2 tI8 (by omega)), (fm142 k9 hi9).2.2.2.2⟩
        have fm181 : ∀ k9, k9 < sh → (hf k9 = some (sw k9) ∧ hto k9 < 12) ∧ wd_at w145 (sw k9) (.inr (5, [.int (nI (hto k9)), .int (hpp k9), .int (hle k9), .int (ham k9), .int (hhh k9), .int (hdd k9), .int (hru k9), .int (hde k9), .int (hcp k9), .int (hld k9)])) ∧ tg (sw k9) = 7000 + k9 := fun k9 hi9 => ⟨(fm143 k9 hi9).1, wd_at.pt ew146 (fm143 k9 hi9).2.1 (tg_ne (fm143 k9 hi9).2.2 tI8 (by omega)), (fm143 k9 hi9).2.2⟩
        have kp182 := kp144.put ew146 (tgS tI8 (by omega))
        refine lv_aload_n hx hb dX10_advise_50 rfl (lv_at hl 0 rfl) ?_
        refine lv_dup hx hb dX10_advise_51 rfl ?_
        refine x_get (ref := "NoteHouse") F hP k147 rfl (fun _ h => List.mem_cons_of_mem _ (List.mem_append_left _ (List.mem_append_left _ (List.mem_append_right _ (h))))) 14 (Nat.le_of_ble_eq_true rfl) (List.mem_cons_of_mem _ (List.mem_append_left _ (List.mem_append_left _ (List.mem_append_left _ (List.mem_append_left _ (List.mem_of_getElem? (i := 0) rfl)))))) rfl rfl dX10_advise_52 ?_
        refine lv_iconst (v := 1) hx hb dX10_advise_55 (by decide) ?_
        refine lv_iadd hx hb dX10_advise_56 ?_
        rw [show ((nI ac) + 1 : Int32) = nI (ac + 1) from nI_add ac 1]
        refine y_put (ref := "NoteHouse") F hP hD hS k147 rfl (fun _ h => List.mem_cons_of_mem _ (List.mem_append_left _ (List.mem_append_left _ (List.mem_append_right _ (h))))) tyX10_ok nmX10 14 (Nat.le_of_ble_eq_true rfl) (List.mem_cons_of_mem _ (List.mem_append_left _ (List.mem_append_left _ (List.mem_append_left _ (List.mem_append_left _ (List.mem_of_getElem? (i := 0) rfl)))))) rfl rfl rfl rfl (Nat.le_of_ble_eq_true rfl) dX10_advise_57 (fun w183 ew184 H locs hP hD hS => ?_)
        have k185 : wd_at w183 x (.inr (10, [.ref a0, .ref a1, .ref a2, .ref a3, .ref a4, .ref a5, .ref a6, .ref a7, .ref a8, .ref (aa sg), .ref a10, .ref a11, .int td, .int (nI pc), .int (nI (ac + 1)), .int (nI sc), .int (nI sh)])) := wd_at.ps ew184 k147
        have k186 := wd_at.pt ew184 k148 (tg_ne tI1 tI0 (by omega))
        have k187 := wd_at.pt ew184 k149 (tg_ne tI2 tI0 (by omega))
        have k188 := wd_at.pt ew184 k150 (tg_ne tI3 tI0 (by omega))
        have k189 := wd_at.pt ew184 k151 (tg_ne tI4 tI0 (by omega))
        have k190 := wd_at.pt ew184 k152 (tg_ne tI5 tI0 (by omega))
        have k191 := wd_at.pt ew184 k153 (tg_ne tI6 tI0 (by omega))
        have k192 := wd_at.pt ew184 k154 (tg_ne tI7 tI0 (by omega))
        have k193 := wd_at.pt ew184 k155 (tg_ne tI8 tI0 (by omega))
        have k194 := wd_at.pt ew184 k156 (tg_ne tI9 tI0 (by omega))
        have k195 := wd_at.pt ew184 k157 (tg_ne tI10 tI0 (by omega))
        have k196 := wd_at.pt ew184 k158 (tg_ne tI11 tI0 (by omega))
        have k197 := wd_at.pt ew184 k159 (tg_ne tI12 tI0 (by omega))
        have k198 := wd_at.pt ew184 k160 (tg_ne tI13 tI0 (by omega))
        have k199 := wd_at.pt ew184 k161 (tg_ne tI14 tI0 (by omega))
        have k200 := wd_at.pt ew184 k162 (tg_ne tI15 tI0 (by omega))
        have k201 := wd_at.pt ew184 k163 (tg_ne tI16 tI0 (by omega))
        have k202 := wd_at.pt ew184 k164 (tg_ne tI17 tI0 (by omega))
        have k203 := wd_at.pt ew184 k165 (tg_ne tI18 tI0 (by omega))
        have k204 := wd_at.pt ew184 k166 (tg_ne tI19 tI0 (by omega))
        have k205 := wd_at.pt ew184 k167 (tg_ne tI20 tI0 (by omega))
        have k206 := wd_at.pt ew184 k168 (tg_ne tI21 tI0 (by omega))
        have k207 := wd_at.pt ew184 k169 (tg_ne tI22 tI0 (by omega))
        have k208 := wd_at.pt ew184 k170 (tg_ne tI23 tI0 (by omega))
        have k209 := wd_at.pt ew184 k171 (tg_ne tI24 tI0 (by omega))
        have k210 := wd_at.pt ew184 k172 (tg_ne tI25 tI0 (by omega))
        have k211 := wd_at.pt ew184 k173 (tg_ne tI26 tI0 (by omega))
        have k212 := wd_at.pt ew184 k174 (tg_ne tz11 tI0 (by omega))
        have k213 := wd_at.pt ew184 k175 (Ne.symm (wd_nL hq19 kI0))
        have fm214 : ∀ i9, i9 < 12 → tf i9 = some (tn i9) ∧ wd_at w183 (tn i9) (.inr (8, [.int (co i9), .int (ra i9), .int (se i9), .ref (ag i9)])) ∧ tg (tn i9) = 100 + i9 := fun i9 hi9 => ⟨(fm176 i9 hi9).1, wd_at.pt ew184 (fm176 i9 hi9).2.1 (tg_ne (fm176 i9 hi9).2.2 tI0 (by omega)), (fm176 i9 hi9).2.2⟩
        have fm215 : ∀ k9, k9 < 13 → (aOK (cf k9) (nf k9) ∧ ru k9 ≤ 12) ∧ wd_at w183 (aa k9) (.inr (1, [.ref (ga0 k9), .ref (ga1 k9), .ref (ga2 k9), .ref (ga3 k9), .ref (ga4 k9), .int (nI (ru k9))])) ∧ tg (aa k9) = 200 + k9 ∧ wd_at w183 (ga0 k9) (.inl (cy 2, 12, .inl (df k9))) ∧ tg (ga0 k9) = 220 + k9 ∧ wd_at w183 (ga1 k9) (.inl (cy 2, 12, .inl (cf k9))) ∧ tg (ga1 k9) = 240 + k9 ∧ wd_at w183 (ga2 k9) (.inl (cy 2, 72, .inl (nf k9))) ∧ tg (ga2 k9) = 260 + k9 ∧ wd_at w183 (ga3 k9) (.inl (cy 1, 72, .inl (sf k9))) ∧ tg (ga3 k9) = 280 + k9 ∧ wd_at w183 (ga4 k9) (.inl (cy 2, 72, .inl (uf k9))) ∧ tg (ga4 k9) = 300 + k9 := fun k9 hi9 => ⟨(fm177 k9 hi9).1, wd_at.pt ew184 (fm177 k9 hi9).2.1 (tg_ne (fm177 k9 hi9).2.2.1 tI0 (by omega)), (fm177 k9 hi9).2.2.1, wd_at.pt ew184 (fm177 k9 hi9).2.2.2.1 (tg_ne (fm177 k9 hi9).2.2.2.2.1 tI0 (by omega)), (fm177 k9 hi9).2.2.2.2.1, wd_at.pt ew184 (fm177 k9 hi9).2.2.2.2.2.1 (tg_ne (fm177 k9 hi9).2.2.2.2.2.2.1 tI0 (by omega)), (fm177 k9 hi9).2.2.2.2.2.2.1, wd_at.pt ew184 (fm177 k9 hi9).2.2.2.2.2.2.2.1 (tg_ne (fm177 k9 hi9).2.2.2.2.2.2.2.2.1 tI0 (by omega)), (fm177 k9 hi9).2.2.2.2.2.2.2.2.1, wd_at.pt ew184 (fm177 k9 hi9).2.2.2.2.2.2.2.2.2.1 (tg_ne (fm177 k9 hi9).2.2.2.2.2.2.2.2.2.2.1 tI0 (by omega)), (fm177 k9 hi9).2.2.2.2.2.2.2.2.2.2.1, wd_at.pt ew184 (fm177 k9 hi9).2.2.2.2.2.2.2.2.2.2.2.1 (tg_ne (fm177 k9 hi9).2.2.2.2.2.2.2.2.2.2.2.2 tI0 (by omega)), (fm177 k9 hi9).2.2.2.2.2.2.2.2.2.2.2.2⟩
        have fm216 : ∀ k9, k9 < pc → pf k9 = some (pa k9) ∧ wd_at w183 (pa k9) (.inr (3, [.int (plv k9), .int (pwo k9), .int (phd k9), .int (pgd k9), .int (pdy k9), .int (pno k9), .int (ptp k9)])) ∧ tg (pa k9) = 3000 + k9 := fun k9 hi9 => ⟨(fm178 k9 hi9).1, wd_at.pt ew184 (fm178 k9 hi9).2.1 (tg_ne (fm178 k9 hi9).2.2 tI0 (by omega)), (fm178 k9 hi9).2.2⟩
        have fm217 : ∀ k9, k9 < ac → af k9 = some (ad k9) ∧ wd_at w183 (ad k9) (.inr (0, [.int (av0 k9), .int (av1 k9), .int (av2 k9), .int (av3 k9)])) ∧ tg (ad k9) = 4000 + k9 := fun k9 hi9 => ⟨(fm179 k9 hi9).1, wd_at.pt ew184 (fm179 k9 hi9).2.1 (tg_ne (fm179 k9 hi9).2.2 tI0 (by omega)), (fm179 k9 hi9).2.2⟩
        have fm218 : ∀ k9, k9 < sc → zf k9 = some (so k9) ∧ wd_at w183 (so k9) (.inr (6, [.int (sp0 k9), .int (sp1 k9), .ref (sr k9)])) ∧ tg (so k9) = 5000 + k9 ∧ wd_at w183 (sr k9) (.inl (cy 2, 12, .inl (sd k9))) ∧ tg (sr k9) = 6000 + k9 := fun k9 hi9 => ⟨(fm180 k9 hi9).1, wd_at.pt ew184 (fm180 k9 hi9).2.1 (tg_ne (fm180 k9 hi9).2.2.1 tI0 (by omega)), (fm180 k9 hi9).2.2.1, wd_at.pt ew184 (fm180 k9 hi9).2.2.2.1 (tg_ne (fm180 k9 hi9).2.2.2.2 tI0 (by omega)), (fm180 k9 hi9).2.2.2.2⟩
        have fm219 : ∀ k9, k9 < sh → (hf k9 = some (sw k9) ∧ hto k9 < 12) ∧ wd_at w183 (sw k9) (.inr (5, [.int (nI (hto k9)), .int (hpp k9), .int (hle k9), .int (ham k9), .int (hhh k9), .int (hdd k9), .int (hru k9), .int (hde k9), .int (hcp k9), .int (hld k9)])) ∧ tg (sw k9) = 7000 + k9 := fun k9 hi9 => ⟨(fm181 k9 hi9).1, wd_at.pt ew184 (fm181 k9 hi9).2.1 (tg_ne (fm181 k9 hi9).2.2 tI0 (by omega)), (fm181 k9 hi9).2.2⟩
        have kp220 := kp182.put ew184 (tgS tI0 (by omega))
        refine lv_aload_n hx hb dX10_advise_60 rfl (lv_at hl 0 rfl) ?_
        refine x_get (ref := "NoteHouse") F hP k185 rfl (fun _ h => List.mem_cons_of_mem _ (List.mem_append_left _ (List.mem_append_left _ (List.mem_append_right _ (h))))) 14 (Nat.le_of_ble_eq_true rfl) (List.mem_cons_of_mem _ (List.mem_append_left _ (List.mem_append_left _ (List.mem_append_left _ (List.mem_append_left _ (List.mem_of_getElem? (i := 0) rfl)))))) rfl rfl dX10_advise_61 ?_
        refine lv_iconst (v := 1) hx hb dX10_advise_64 (by decide) ?_
        refine lv_isub hx hb dX10_advise_65 ?_
        rw [show ((nI (ac + 1)) - 1 : Int32) = nI ((ac + 1) - 1) from pk_sub (a := (ac + 1)) (b := 1) (by omega)]
        have fm222 : ∀ i9, i9 < 12 → tf i9 = some (tn i9) ∧ wd_at w183 (tn i9) (.inr (8, [.int (co i9), .int (ra i9), .int (se i9), .ref (ag i9)])) ∧ (va_up tg q16 (4000 + ac)) (tn i9) = 100 + i9 := fun i9 hi9 => ⟨(fm214 i9 hi9).1, (fm214 i9 hi9).2.1, ((va_up_ne _ _ (fn50 i9 hi9)).trans (fm214 i9 hi9).2.2)⟩
        have fm223 : ∀ k9, k9 < 13 → (aOK (cf k9) (nf k9) ∧ ru k9 ≤ 12) ∧ wd_at w183 (aa k9) (.inr (1, [.ref (ga0 k9), .ref (ga1 k9), .ref (ga2 k9), .ref (ga3 k9), .ref (ga4 k9), .int (nI (ru k9))])) ∧ (va_up tg q16 (4000 + ac)) (aa k9) = 200 + k9 ∧ wd_at w183 (ga0 k9) (.inl (cy 2, 12, .inl (df k9))) ∧ (va_up tg q16 (4000 + ac)) (ga0 k9) = 220 + k9 ∧ wd_at w183 (ga1 k9) (.inl (cy 2, 12, .inl (cf k9))) ∧ (va_up tg q16 (4000 + ac)) (ga1 k9) = 240 + k9 ∧ wd_at w183 (ga2 k9) (.inl (cy 2, 72, .inl (nf k9))) ∧ (va_up tg q16 (4000 + ac)) (ga2 k9) = 260 + k9 ∧ wd_at w183 (ga3 k9) (.inl (cy 1, 72, .inl (sf k9))) ∧ (va_up tg q16 (4000 + ac)) (ga3 k9) = 280 + k9 ∧ wd_at w183 (ga4 k9) (.inl (cy 2, 72, .inl (uf k9))) ∧ (va_up tg q16 (4000 + ac)) (ga4 k9) = 300 + k9 := fun k9 hi9 => ⟨(fm215 k9 hi9).1, (fm215 k9 hi9).2.1, ((va_up_ne _ _ ((fn52 k9 hi9).1)).trans (fm215 k9 hi9).2.2.1), (fm215 k9 hi9).2.2.2.1, ((va_up_ne _ _ ((fn52 k9 hi9).2.1)).trans (fm215 k9 hi9).2.2.2.2.1), (fm215 k9 hi9).2.2.2.2.2.1, ((va_up_ne _ _ ((fn52 k9 hi9).2.2.1)).trans (fm215 k9 hi9).2.2.2.2.2.2.1), (fm215 k9 hi9).2.2.2.2.2.2.2.1, ((va_up_ne _ _ ((fn52 k9 hi9).2.2.2.1)).trans (fm215 k9 hi9).2.2.2.2.2.2.2.2.1), (fm215 k9 hi9).2.2.2.2.2.2.2.2.2.1, ((va_up_ne _ _ ((fn52 k9 hi9).2.2.2.2.1)).trans (fm215 k9 hi9).2.2.2.2.2.2.2.2.2.2.1), (fm215 k9 hi9).2.2.2.2.2.2.2.2.2.2.2.1, ((va_up_ne _ _ ((fn52 k9 hi9).2.2.2.2.2)).trans (fm215 k9 hi9).2.2.2.2.2.2.2.2.2.2.2.2)⟩
        have fm224 : ∀ k9, k9 < pc → pf k9 = some (pa k9) ∧ wd_at w183 (pa k9) (.inr (3, [.int (plv k9), .int (pwo k9), .int (phd k9), .int (pgd k9), .int (pdy k9), .int (pno k9), .int (ptp k9)])) ∧ (va_up tg q16 (4000 + ac)) (pa k9) = 3000 + k9 := fun k9 hi9 => ⟨(fm216 k9 hi9).1, (fm216 k9 hi9).2.1, ((va_up_ne _ _ (fn54 k9 hi9)).trans (fm216 k9 hi9).2.2)⟩
        have fm225 : ∀ k9, k9 < ac → af k9 = some (ad k9) ∧ wd_at w183 (ad k9) (.inr (0, [.int (av0 k9), .int (av1 k9), .int (av2 k9), .int (av3 k9)])) ∧ (va_up tg q16 (4000 + ac)) (ad k9) = 4000 + k9 := fun k9 hi9 => ⟨(fm217 k9 hi9).1, (fm217 k9 hi9).2.1, ((va_up_ne _ _ (fn56 k9 hi9)).trans (fm217 k9 hi9).2.2)⟩
        have fm226 : ∀ k9, k9 < sc → zf k9 = some (so k9) ∧ wd_at w183 (so k9) (.inr (6, [.int (sp0 k9), .int (sp1 k9), .ref (sr k9)])) ∧ (va_up tg q16 (4000 + ac)) (so k9) = 5000 + k9 ∧ wd_at w183 (sr k9) (.inl (cy 2, 12, .inl (sd k9))) ∧ (va_up tg q16 (4000 + ac)) (sr k9) = 6000 + k9 := fun k9 hi9 => ⟨(fm218 k9 hi9).1, (fm218 k9 hi9).2.1, ((va_up_ne _ _ ((fn58 k9 hi9).1)).trans (fm218 k9 hi9).2.2.1), (fm218 k9 hi9).2.2.2.1, ((va_up_ne _ _ ((fn58 k9 hi9).2)).trans (fm218 k9 hi9).2.2.2.2)⟩
        have fm227 : ∀ k9, k9 < sh → (hf k9 = some (sw k9) ∧ hto k9 < 12) ∧ wd_at w183 (sw k9) (.inr (5, [.int (nI (hto k9)), .int (hpp k9), .int (hle k9), .int (ham k9), .int (hhh k9), .int (hdd k9), .int (hru k9), .int (hde k9), .int (hcp k9), .int (hld k9)])) ∧ (va_up tg q16 (4000 + ac)) (sw k9) = 7000 + k9 := fun k9 hi9 => ⟨(fm219 k9 hi9).1, (fm219 k9 hi9).2.1, ((va_up_ne _ _ (fn60 k9 hi9)).trans (fm219 k9 hi9).2.2)⟩
        have k228 : wd_at w183 a3 (.inl (cy 5, 60, .inr (.inr (.inr (.inr (va_up af ac (some q16))))))) := by have h9 := k193; rw [nI_clamp (n := ac) (by omega)] at h9; exact h9
        have fm229 : ∀ k9, k9 < (ac + 1) → (va_up af ac (some q16)) k9 = some ((va_up ad ac q16) k9) ∧ wd_at w183 ((va_up ad ac q16) k9) (.inr (0, [.int ((va_up av0 ac x1) k9), .int ((va_up av1 ac (nI t)) k9), .int ((va_up av2 ac rx67) k9), .int ((va_up av3 ac 0) k9)])) ∧ (va_up tg q16 (4000 + ac)) ((va_up ad ac q16) k9) = 4000 + k9 := by
          intro k9 hi9
          by_cases e9 : k9 = ac
          · rw [e9]
            exact ⟨(by rw [va_up_self, va_up_self]), (by first | exact k213 | (simp only [va_up_self]; exact k213)), (by rw [va_up_self]; exact (va_up_self _ _ _))⟩
          · simp only [va_up_ne _ _ e9]
            exact fm225 k9 (by omega)
        have hX230 : IX cy (va_up tg q16 (4000 + ac)) x td pc (ac + 1) sc ln se plv w183 := IX.mk a0 a1 a2 a3 a4 a5 a6 a7 a8 a10 a11 b0 b1 b2 b3 tb l0 l1 l2 l3 l4 l5 l6 l7 bl bm sh gc sg lu lv9 f0 f1 dx65 px66 tbf e0 e1 e4 e5 e7 ff bf bf2 e2 e3 e6 ta sz fo to fo2 to2 tf tn ag co ra aa ru ga0 ga1 ga2 ga3 ga4 df cf nf sf uf pf pa pwo phd pgd pdy pno ptp (va_up af ac (some q16)) (va_up ad ac q16) (va_up av0 ac x1) (va_up av1 ac (nI t)) (va_up av2 ac rx67) (va_up av3 ac 0) zf so sr sp0 sp1 sd hf sw hto hpp hle ham hhh hdd hru hde hcp hld (by omega) (by omega) (by omega) (by omega) (by omega) (by omega) (by omega) (by omega) hag k185 ((va_up_ne _ _ (wd_nL hq19 kI0)).trans tI0) k186 ((va_up_ne _ _ (wd_nL hq19 kI1)).trans tI1) k187 ((va_up_ne _ _ (wd_nL hq19 kI2)).trans tI2) k188 ((va_up_ne _ _ (wd_nL hq19 kI3)).trans tI3) k189 ((va_up_ne _ _ (wd_nL hq19 kI4)).trans tI4) k190 ((va_up_ne _ _ (wd_nL hq19 kI5)).trans tI5) k191 ((va_up_ne _ _ (wd_nL hq19 kI6)).trans tI6) k192 ((va_up_ne _ _ (wd_nL hq19 kI7)).trans tI7) k228 ((va_up_ne _ _ (wd_nL hq19 kI8)).trans tI8) k194 ((va_up_ne _ _ (wd_nL hq19 kI9)).trans tI9) k195 ((va_up_ne _ _ (wd_nL hq19 kI10)).trans tI10) k196 ((va_up_ne _ _ (wd_nL hq19 kI11)).trans tI11) k197 ((va_up_ne _ _ (wd_nL hq19 kI12)).trans tI12) k198 ((va_up_ne _ _ (wd_nL hq19 kI13)).trans tI13) k199 ((va_up_ne _ _ (wd_nL hq19 kI14)).trans tI14) k200 ((va_up_ne _ _ (wd_nL hq19 kI15)).trans tI15) k201 ((va_up_ne _ _ (wd_nL hq19 kI16)).trans tI16) k202 ((va_up_ne _ _ (wd_nL hq19 kI17)).trans tI17) k203 ((va_up_ne _ _ (wd_nL hq19 kI18)).trans tI18) k204 ((va_up_ne _ _ (wd_nL hq19 kI19)).trans tI19) k205 ((va_up_ne _ _ (wd_nL hq19 kI20)).trans tI20) k206 ((va_up_ne _ _ (wd_nL hq19 kI21)).trans tI21) k207 ((va_up_ne _ _ (wd_nL hq19 kI22)).trans tI22) k208 ((va_up_ne _ _ (wd_nL hq19 kI23)).trans tI23) k209 ((va_up_ne _ _ (wd_nL hq19 kI24)).trans tI24) k210 ((va_up_ne _ _ (wd_nL hq19 kI25)).trans tI25) k211 ((va_up_ne _ _ (wd_nL hq19 kI26)).trans tI26) fm222 fm223 fm224 fm229 fm226 fm227
        exact y_ir K hP hD hS (Nat.le_of_ble_eq_true rfl) (Nat.le_of_ble_eq_true rfl) (ty := .int) rfl rfl dX10_advise_66 (by refine ⟨(congrArg (fun z => some (Value.int z)) (show nI ((ac + 1) - 1) = advA pc ac x1 (nI t) from by simp [advA, advC, c_1, pb9.1, pb9.2, c_15, clt])), ?_⟩; rw [show advC pc ac x1 (nI t) = (ac + 1) from by simp [advA, advC, c_1, pb9.1, pb9.2, c_15, clt]]; exact ⟨(va_up tg q16 (4000 + ac)), (fun a9 ha9 => (va_up_ne _ _ (fun q9 : a9 = q16 => (kp0.out hq19) (q9 ▸ ha9)))), kp220, hX230⟩)
      · refine lv_iconst (v := (-1)) hx hb dX10_advise_24 (by decide) ?_
        exact y_ir K hP hD hS (Nat.le_of_ble_eq_true rfl) (Nat.le_of_ble_eq_true rfl) (ty := .int) rfl rfl dX10_advise_25 (by refine ⟨(congrArg (fun z => some (Value.int z)) (show (-1) = advA pc ac x1 x2 from by simp [advA, advC, c_1, pb9.1, pb9.2, c_15])), ?_⟩; rw [show advC pc ac x1 x2 = ac from by simp [advA, advC, c_1, pb9.1, pb9.2, c_15]]; exact ⟨tg, fun _ _ => rfl, wd_kp.rf, hIX0⟩)
set_option maxHeartbeats 4000000 in
set_option maxRecDepth 100000 in
theorem X_stop (l : Launch) (D : va_G) (cy : Nat → ClassId) (sk sv : Nat → Nat) (w : Wd) (tg : Nat → Nat) (x : Nat) (td : Int32) (pc ac sc ln : Nat) (se plv : Nat → Int32) (x1 x2 x3 : Int32) (hIX0 : IX cy tg x td pc ac sc ln se plv w) : Ct l D cy sk sv yX10_stop wsX10_stop ({ frames := 4, cells := 2, slots := 15, locals := 85 }) [.ref x, .int x1, .int x2, .int x3] w (fun v w1 => v = some (.int (stpA plv pc sc x1 x2 x3)) ∧ XP cy tg x td pc ac (stpC plv pc sc x1 x2 x3) ln se plv w w1) := by
  refine Ct.by (cc := cX10_stop) (maxL := 5) (ret := (some .int)) (by decide +kernel) rfl (Nat.le_of_ble_eq_true rfl) ?_
  intro p e s m args below meth c A Q F hnm K ls hl
  have F : wd_Fx p s m args meth c cX10_stop 5 wsX10_stop RX10 D cy sk sv A := F
  have hl : lv_has ls 5 [(0, .ref x), (1, .int x1), (2, .int x2), (3, .int x3)] := hl
  have hx := F.1.1
  have hb := F.1.2.1
  have hown := F.1.2.2.2.1
  have hts := F.1.2.2.2.2
  intro H locs hP hD hS
  have kp0 : wd_kp (fun b => tg b < 10000) w w := wd_kp.rf
  refine hIX0 _ ?_
  intro a0 a1 a2 a3 a4 a5 a6 a7 a8 a10 a11 b0 b1 b2 b3 tb l0 l1 l2 l3 l4 l5 l6 l7 bl bm sh gc sg lu lv9 f0 f1 f2 f3 tbf e0 e1 e4 e5 e7 ff bf bf2 e2 e3 e6 ta sz fo to fo2 to2 tf tn ag co ra aa ru ga0 ga1 ga2 ga3 ga4 df cf nf sf uf pf pa pwo phd pgd pdy pno ptp af ad av0 av1 av2 av3 zf so sr sp0 sp1 sd hf sw hto hpp hle ham hhh hdd hru hde hcp hld hp90 hp91 hp92 hp93 hp94 hp95 hp96 hp97 hag kI0 tI0 kI1 tI1 kI2 tI2 kI3 tI3 kI4 tI4 kI5 tI5 kI6 tI6 kI7 tI7 kI8 tI8 kI9 tI9 kI10 tI10 kI11 tI11 kI12 tI12 kI13 tI13 kI14 tI14 kI15 tI15 kI16 tI16 kI17 tI17 kI18 tI18 kI19 tI19 kI20 tI20 kI21 tI21 kI22 tI22 kI23 tI23 kI24 tI24 kI25 tI25 kI26 tI26 hT9 hG9 hP9 hA9 hS9 hH9
  refine lv_aload_n hx hb dX10_stop_0 rfl (lv_at hl 0 rfl) ?_
  refine lv_iload_n hx hb dX10_stop_1 rfl (lv_at hl 1 rfl) ?_
  refine x_callV (n := 1) (As := [.int x1]) (rest := []) F hP hD hS (g_paperAt l D cy sk sv w x a0 a1 a2 a3 a4 a5 a6 a7 a8 (aa sg) a10 a11 pc ac sc sh td x1 tg pf pa plv pwo phd pgd pdy pno ptp kI0 kI7 hP9 (by omega)) gX10_stop_X10_paperAt rfl rfl (by decide +kernel) ⟨(Nat.le_of_ble_eq_true rfl), (Nat.le_of_ble_eq_true rfl)⟩ rfl hl.1 (Nat.le_of_ble_eq_true rfl) kI0 rfl dX10_stop_2 rfl ⟨(Nat.le_of_ble_eq_true rfl), (Nat.le_of_ble_eq_true rfl)⟩ (fun v2 w3 hp1 H locs hP hD hS => ?_)
  obtain ⟨hp1, rfl⟩ := hp1
  rcases hp1 with ⟨rfl, hn5⟩ | ⟨j4, hn5, ej4, rfl⟩
  · have pb6 := pb_n (by omega) hn5
    refine W.eq (g2 := F0 m 5 ls [.null]) rfl (W.widen (k := 0) (n := 0) (Nat.le_of_ble_eq_true rfl) (Nat.le_of_ble_eq_true rfl) ?_)
    refine lv_astoreN (lv' := [(4, .null), (0, .ref x), (1, .int x1), (2, .int x2), (3, .int x3)]) hx hb dX10_stop_5 hl (by decide) rfl (fun ls hl => ?_)
    refine lv_aload_n hx hb dX10_stop_7 rfl (lv_at hl 1 rfl) ?_
    refine x_get (ref := "NoteHouse") F hP kI0 rfl (fun _ h => List.mem_cons_of_mem _ (List.mem_append_left _ (List.mem_append_left _ (List.mem_append_left _ (List.mem_append_right _ (h)))))) 15 (Nat.le_of_ble_eq_true rfl) (List.mem_cons_of_mem _ (List.mem_append_left _ (List.mem_append_left _ (List.mem_append_left _ (List.mem_append_left _ (List.mem_append_left _ (List.mem_of_getElem? (i := 0) rfl))))))) rfl rfl dX10_stop_8 ?_
    refine lv_bipush (v := 60) hx hb dX10_stop_11 (by decide) ?_
    refine lv_icmp_ge (tgt := 28) hx hb dX10_stop_13 (by decide) (fun c_7 => ?_) (fun c_7 => ?_)
    · refine lv_iconst (v := (-1)) hx hb dX10_stop_28 (by decide) ?_
      exact y_ir K hP hD hS (Nat.le_of_ble_eq_true rfl) (Nat.le_of_ble_eq_true rfl) (ty := .int) rfl rfl dX10_stop_29 (by refine ⟨(congrArg (fun z => some (Value.int z)) (show (-1) = stpA plv pc sc x1 x2 x3 from by simp [stpA, stpC, pb6, c_7])), ?_⟩; rw [show stpC plv pc sc x1 x2 x3 = sc from by simp [stpA, stpC, pb6, c_7]]; exact ⟨tg, fun _ _ => rfl, wd_kp.rf, hIX0⟩)
    · have hb_sc : sc < 60 := nI_lt_of (n := 60) c_7 (by omega)
      refine lv_aloadN hx hb dX10_stop_16 (lv_at hl 0 rfl) ?_
      refine lv_ifnullN (tgt := 28) hx hb dX10_stop_18 (by decide) ?_
      refine lv_iconst (v := (-1)) hx hb dX10_stop_28 (by decide) ?_
      exact y_ir K hP hD hS (Nat.le_of_ble_eq_true rfl) (Nat.le_of_ble_eq_true rfl) (ty := .int) rfl rfl dX10_stop_29 (by refine ⟨(congrArg (fun z => some (Value.int z)) (show (-1) = stpA plv pc sc x1 x2 x3 from by simp [stpA, stpC, pb6, c_7])), ?_⟩; rw [show stpC plv pc sc x1 x2 x3 = sc from by simp [stpA, stpC, pb6, c_7]]; exact ⟨tg, fun _ _ => rfl, wd_kp.rf, hIX0⟩)
  · refine W.eq (g2 := F0 m 5 ls [.ref (pa j4)]) rfl (W.widen (k := 0) (n := 0) (Nat.le_of_ble_eq_true rfl) (Nat.le_of_ble_eq_true rfl) ?_)
    have pr8 := (hP9 j4 hn5).1
    have pb9 := pb_r (by omega) hn5 ej4
    have k10 := (hP9 j4 hn5).2.1
    have tz11 := (hP9 j4 hn5).2.2
    refine lv_astore (lv' := [(4, .ref (pa j4)), (0, .ref x), (1, .int x1), (2, .int x2), (3, .int x3)]) hx hb dX10_stop_5 hl (by decide) rfl (fun ls hl => ?_)
    refine lv_aload_n hx hb dX10_stop_7 rfl (lv_at hl 1 rfl) ?_
    refine x_get (ref := "NoteHouse") F hP kI0 rfl (fun _ h => List.mem_cons_of_mem _ (List.mem_append_left _ (List.mem_append_left _ (List.mem_append_left _ (List.mem_append_right _ (h)))))) 15 (Nat.le_of_ble_eq_true rfl) (List.mem_cons_of_mem _ (List.mem_append_left _ (List.mem_append_left _ (List.mem_append_left _ (List.mem_append_left _ (List.mem_append_left _ (List.mem_of_getElem? (i := 0) rfl))))))) rfl rfl dX10_stop_8 ?_
    refine lv_bipush (v := 60) hx hb dX10_stop_11 (by decide) ?_
    refine lv_icmp_ge (tgt := 28) hx hb dX10_stop_13 (by decide) (fun c_12 => ?_) (fun c_12 => ?_)
    · refine lv_iconst (v := (-1)) hx hb dX10_stop_28 (by decide) ?_
      exact y_ir K hP hD hS (Nat.le_of_ble_eq_true rfl) (Nat.le_of_ble_eq_true rfl) (ty := .int) rfl rfl dX10_stop_29 (by refine ⟨(congrArg (fun z => some (Value.int z)) (show (-1) = stpA plv pc sc x1 x2 x3 from by simp [stpA, stpC, pb9.1, pb9.2, c_12])), ?_⟩; rw [show stpC plv pc sc x1 x2 x3 = sc from by simp [stpA, stpC, pb9.1, pb9.2, c_12]]; exact ⟨tg, fun _ _ => rfl, wd_kp.rf, hIX0⟩)
    · have hb_sc : sc < 60 := nI_lt_of (n := 60) c_12 (by omega)
      refine lv_aload hx hb dX10_stop_16 (lv_at hl 0 rfl) ?_
      refine lv_ifnull hx hb dX10_stop_18 ?_
      refine lv_iload_n hx hb dX10_stop_21 rfl (lv_at hl 4 rfl) ?_
      refine x_callS (n := 1) (As := [.int x3]) (rest := []) F hP hD hS (g_isTown l D cy sk sv w x3) gX10_stop_X10_isTown rfl (by decide +kernel) ⟨(Nat.le_of_ble_eq_true rfl), (Nat.le_of_ble_eq_true rfl)⟩ rfl hl.1 (Nat.le_of_ble_eq_true rfl) dX10_stop_22 rfl ⟨(Nat.le_of_ble_eq_true rfl), (Nat.le_of_ble_eq_true rfl)⟩ (fun v14 w15 hp13 H locs hP hD hS => ?_)
      obtain ⟨rfl, rfl⟩ := hp13
      refine W.eq (g2 := F0 m 25 ls [.int (wi x3 0 11)]) rfl (W.widen (k := 0) (n := 0) (Nat.le_of_ble_eq_true rfl) (Nat.le_of_ble_eq_true rfl) ?_)
      refine lv_if_ne (tgt := 30) hx hb dX10_stop_25 (by decide) (fun c_16 => ?_) (fun c_16 => ?_)
      · obtain ⟨t, ht, rfl, clt⟩ := wi_t c_16
        refine lv_iload_n hx hb dX10_stop_30 rfl (lv_at hl 3 rfl) ?_
        refine lv_iconst (v := (-1)) hx hb dX10_stop_31 (by decide) ?_
        refine lv_icmp_eq (tgt := 46) hx hb dX10_stop_32 (by decide) (fun c_17 => ?_) (fun c_17 => ?_)
        · refine lv_aload_n hx hb dX10_stop_46 rfl (lv_at hl 1 rfl) ?_
          refine x_get (ref := "NoteHouse") F hP kI0 rfl (fun _ h => List.mem_cons_of_mem _ (List.mem_append_left _ (List.mem_append_left _ (List.mem_append_left _ (List.mem_append_right _ (h)))))) 4 (Nat.le_of_ble_eq_true rfl) (List.mem_cons_of_mem _ (List.mem_append_left _ (List.mem_append_left _ (List.mem_append_left _ (List.mem_append_left _ (List.mem_append_left _ (List.mem_of_getElem? (i := 1) rfl))))))) rfl rfl dX10_stop_47 ?_
          refine lv_aload_n hx hb dX10_stop_50 rfl (lv_at hl 1 rfl) ?_
          refine x_get (ref := "NoteHouse") F hP kI0 rfl (fun _ h => List.mem_cons_of_mem _ (List.mem_append_left _ (List.mem_append_left _ (List.mem_append_left _ (List.mem_append_right _ (h)))))) 15 (Nat.le_of_ble_eq_true rfl) (List.mem_cons_of_mem _ (List.mem_append_left _ (List.mem_append_left _ (List.mem_append_left _ (List.mem_append_left _ (List.mem_append_left _ (List.mem_of_getElem? (i := 0) rfl))))))) rfl rfl dX10_stop_51 ?_
          refine y_new (fs := [.int 0, .int 0, .null]) F hP hD hS (ci := 6) rfl (fun _ h => List.mem_cons_of_mem _ (List.mem_append_left _ (List.mem_append_left _ (List.mem_append_right _ (h))))) tyX6_ok (List.mem_cons_of_mem _ (List.mem_append_left _ (List.mem_append_left _ (List.mem_append_left _ (List.mem_append_left _ (List.mem_append_left _ (List.mem_of_getElem? (i := 2) rfl))))))) (List.mem_cons_of_mem _ (List.mem_append_left _ (List.mem_append_left _ (List.mem_append_left _ (List.mem_append_left _ (List.mem_append_left _ (List.mem_of_getElem? (i := 3) rfl))))))) (List.mem_cons_of_mem _ (List.mem_append_left _ (List.mem_append_left _ (List.mem_append_left _ (List.mem_append_left _ (List.mem_append_left _ (List.mem_of_getElem? (i := 4) rfl))))))) df_6 (Nat.le_of_ble_eq_true rfl) (Nat.le_of_ble_eq_true rfl) dX10_stop_54 (fun q18 w19 ew20 hq21 H hP hD hS => ?_)
          refine W.widen (k := 1) (n := 3) (Nat.le_of_ble_eq_true rfl) (Nat.le_of_ble_eq_true rfl) ?_
          have k22 := wd_at.ad ew20 hq21 kI0
          have k23 := wd_at.ad ew20 hq21 kI1
          have k24 := wd_at.ad ew20 hq21 kI2
          have k25 := wd_at.ad ew20 hq21 kI3
          have k26 := wd_at.ad ew20 hq21 kI4
          have k27 := wd_at.ad ew20 hq21 kI5
          have k28 := wd_at.ad ew20 hq21 kI6
          have k29 := wd_at.ad ew20 hq21 kI7
          have k30 := wd_at.ad ew20 hq21 kI8
          have k31 := wd_at.ad ew20 hq21 kI9
          have k32 := wd_at.ad ew20 hq21 kI10
          have k33 := wd_at.ad ew20 hq21 kI11
          have k34 := wd_at.ad ew20 hq21 kI12
          have k35 := wd_at.ad ew20 hq21 kI13
          have k36 := wd_at.ad ew20 hq21 kI14
          have k37 := wd_at.ad ew20 hq21 kI15
          have k38 := wd_at.ad ew20 hq21 kI16
          have k39 := wd_at.ad ew20 hq21 kI17
          have k40 := wd_at.ad ew20 hq21 kI18
          have k41 := wd_at.ad ew20 hq21 kI19
          have k42 := wd_at.ad ew20 hq21 kI20
          have k43 := wd_at.ad ew20 hq21 kI21
          have k44 := wd_at.ad ew20 hq21 kI22
          have k45 := wd_at.ad ew20 hq21 kI23
          have k46 := wd_at.ad ew20 hq21 kI24
          have k47 := wd_at.ad ew20 hq21 kI25
          have k48 := wd_at.ad ew20 hq21 kI26
          have k49 := wd_at.ad ew20 hq21 k10
          have k50 : wd_at w19 q18 (.inr (6, [.int 0, .int 0, .null])) := wd_at.nw ew20
          have fm51 : ∀ i9, i9 < 12 → tf i9 = some (tn i9) ∧ wd_at w19 (tn i9) (.inr (8, [.int (co i9), .int (ra i9), .int (se i9), .ref (ag i9)])) ∧ tg (tn i9) = 100 + i9 := fun i9 hi9 => ⟨(hT9 i9 hi9).1, wd_at.ad ew20 hq21 (hT9 i9 hi9).2.1, (hT9 i9 hi9).2.2⟩
          have fn52 : ∀ i9, i9 < 12 → (tn i9) ≠ q18 := fun i9 hi9 => wd_nL hq21 (hT9 i9 hi9).2.1
          have fm53 : ∀ k9, k9 < 13 → (aOK (cf k9) (nf k9) ∧ ru k9 ≤ 12) ∧ wd_at w19 (aa k9) (.inr (1, [.ref (ga0 k9), .ref (ga1 k9), .ref (ga2 k9), .ref (ga3 k9), .ref (ga4 k9), .int (nI (ru k9))])) ∧ tg (aa k9) = 200 + k9 ∧ wd_at w19 (ga0 k9) (.inl (cy 2, 12, .inl (df k9))) ∧ tg (ga0 k9) = 220 + k9 ∧ wd_at w19 (ga1 k9) (.inl (cy 2, 12, .inl (cf k9))) ∧ tg (ga1 k9) = 240 + k9 ∧ wd_at w19 (ga2 k9) (.inl (cy 2, 72, .inl (nf k9))) ∧ tg (ga2 k9) = 260 + k9 ∧ wd_at w19 (ga3 k9) (.inl (cy 1, 72, .inl (sf k9))) ∧ tg (ga3 k9) = 280 + k9 ∧ wd_at w19 (ga4 k9) (.inl (cy 2, 72, .inl (uf k9))) ∧ tg (ga4 k9) = 300 + k9 := fun k9 hi9 => ⟨(hG9 k9 hi9).1, wd_at.ad ew20 hq21 (hG9 k9 hi9).2.1, (hG9 k9 hi9).2.2.1, wd_at.ad ew20 hq21 (hG9 k9 hi9).2.2.2.1, (hG9 k9 hi9).2.2.2.2.1, wd_at.ad ew20 hq21 (hG9 k9 hi9).2.2.2.2.2.1, (hG9 k9 hi9).2.2.2.2.2.2.1, wd_at.ad ew20 hq21 (hG9 k9 hi9).2.2.2.2.2.2.2.1, (hG9 k9 hi9).2.2.2.2.2.2.2.2.1, wd_at.ad ew20 hq21 (hG9 k9 hi9).2.2.2.2.2.2.2.2.2.1, (hG9 k9 hi9).2.2.2.2.2.2.2.2.2.2.1, wd_at.ad ew20 hq21 (hG9 k9 hi9).2.2.2.2.2.2.2.2.2.2.2.1, (hG9 k9 hi9).2.2.2.2.2.2.2.2.2.2.2.2⟩
          have fn54 : ∀ k9, k9 < 13 → (aa k9) ≠ q18 ∧ (ga0 k9) ≠ q18 ∧ (ga1 k9) ≠ q18 ∧ (ga2 k9) ≠ q18 ∧ (ga3 k9) ≠ q18 ∧ (ga4 k9) ≠ q18 := fun k9 hi9 => ⟨wd_nL hq21 (hG9 k9 hi9).2.1, wd_nL hq21 (hG9 k9 hi9).2.2.2.1, wd_nL hq21 (hG9 k9 hi9).2.2.2.2.2.1, wd_nL hq21 (hG9 k9 hi9).2.2.2.2.2.2.2.1, wd_nL hq21 (hG9 k9 hi9).2.2.2.2.2.2.2.2.2.1, wd_nL hq21 (hG9 k9 hi9).2.2.2.2.2.2.2.2.2.2.2.1⟩
          have fm55 : ∀ k9, k9 < pc → pf k9 = some (pa k9) ∧ wd_at w19 (pa k9) (.inr (3, [.int (plv k9), .int (pwo k9), .int (phd k9), .int (pgd k9), .int (pdy k9), .int (pno k9), .int (ptp k9)])) ∧ tg (pa k9) = 3000 + k9 := fun k9 hi9 => ⟨(hP9 k9 hi9).1, wd_at.ad ew20 hq21 (hP9 k9 hi9).2.1, (hP9 k9 hi9).2.2⟩
          have fn56 : ∀ k9, k9 < pc → (pa k9) ≠ q18 := fun k9 hi9 => wd_nL hq21 (hP9 k9 hi9).2.1
          have fm57 : ∀ k9, k9 < ac → af k9 = some (ad k9) ∧ wd_at w19 (ad k9) (.inr (0, [.int (av0 k9), .int (av1 k9), .int (av2 k9), .int (av3 k9)])) ∧ tg (ad k9) = 4000 + k9 := fun k9 hi9 => ⟨(hA9 k9 hi9).1, wd_at.ad ew20 hq21 (hA9 k9 hi9).2.1, (hA9 k9 hi9).2.2⟩
          have fn58 : ∀ k9, k9 < ac → (ad k9) ≠ q18 := fun k9 hi9 => wd_nL hq21 (hA9 k9 hi9).2.1
          have fm59 : ∀ k9, k9 < sc → zf k9 = some (so k9) ∧ wd_at w19 (so k9) (.inr (6, [.int (sp0 k9), .int (sp1 k9), .ref (sr k9)])) ∧ tg (so k9) = 5000 + k9 ∧ wd_at w19 (sr k9) (.inl (cy 2, 12, .inl (sd k9))) ∧ tg (sr k9) = 6000 + k9 := fun k9 hi9 => ⟨(hS9 k9 hi9).1, wd_at.ad ew20 hq21 (hS9 k9 hi9).2.1, (hS9 k9 hi9).2.2.1, wd_at.ad ew20 hq21 (hS9 k9 hi9).2.2.2.1, (hS9 k9 hi9).2.2.2.2⟩
          have fn60 : ∀ k9, k9 < sc → (so k9) ≠ q18 ∧ (sr k9) ≠ q18 := fun k9 hi9 => ⟨wd_nL hq21 (hS9 k9 hi9).2.1, wd_nL hq21 (hS9 k9 hi9).2.2.2.1⟩
          have fm61 : ∀ k9, k9 < sh → (hf k9 = some (sw k9) ∧ hto k9 < 12) ∧ wd_at w19 (sw k9) (.inr (5, [.int (nI (hto k9)), .int (hpp k9), .int (hle k9), .int (ham k9), .int (hhh k9), .int (hdd k9), .int (hru k9), .int (hde k9), .int (hcp k9), .int (hld k9)])) ∧ tg (sw k9) = 7000 + k9 := fun k9 hi9 => ⟨(hH9 k9 hi9).1, wd_at.ad ew20 hq21 (hH9 k9 hi9).2.1, (hH9 k9 hi9).2.2⟩
          have fn62 : ∀ k9, k9 < sh → (sw k9) ≠ q18 := fun k9 hi9 => wd_nL hq21 (hH9 k9 hi9).2.1
          have kp63 := kp0.add ew20 hq21
          refine lv_dup hx hb dX10_stop_57 rfl ?_
          refine lv_iload_n hx hb dX10_stop_58 rfl (lv_at hl 2 rfl) ?_
          refine lv_iload_n hx hb dX10_stop_59 rfl (lv_at hl 3 rfl) ?_
          refine lv_aload_n hx hb dX10_stop_60 rfl (lv_at hl 1 rfl) ?_
          refine x_get (ref := "NoteHouse") F hP k22 rfl (fun _ h => List.mem_cons_of_mem _ (List.mem_append_left _ (List.mem_append_left _ (List.mem_append_left _ (List.mem_append_right _ (h)))))) 0 (Nat.le_of_ble_eq_true rfl) (List.mem_cons_of_mem _ (List.mem_append_left _ (List.mem_append_left _ (List.mem_append_left _ (List.mem_append_left _ (List.mem_append_left _ (List.mem_of_getElem? (i := 5) rfl))))))) rfl rfl dX10_stop_61 ?_
          refine lv_iload_n hx hb dX10_stop_64 rfl (lv_at hl 4 rfl) ?_
          refine x_callV (n := 1) (As := [.int (nI t)]) (rest := [.int x2, .int x1, .ref q18, .ref q18, .int (nI sc), .ref a4]) F hP hD hS (g_newsDays l D cy sk sv w19 a0 b0 b1 b2 b3 (nI t) f0 f1 f2 f3 k23 k24 k25 k26 k27 (fun b => b = b2 ∨ b = b3) (Or.inl rfl) (Or.inr rfl) (tg_ne tI4 tI5 (by omega))) gX10_stop_X9_newsDays rfl rfl (by decide +kernel) ⟨(Nat.le_of_ble_eq_true rfl), (Nat.le_of_ble_eq_true rfl)⟩ rfl hl.1 (Nat.le_of_ble_eq_true rfl) k23 rfl dX10_stop_65 rfl ⟨(Nat.le_of_ble_eq_true rfl), (Nat.le_of_ble_eq_true rfl)⟩ (fun v65 w66 hp64 H locs hP hD hS => ?_)
          obtain ⟨dx67, px68, rfl, kq71, k69, k70⟩ := hp64
          have k72 := kq71.2 _ _ k22 (fun q9 => Or.elim q9 (tg_ne tI0 tI4 (by omega)) (fun q9 : x = b3 => (tg_ne tI0 tI5 (by omega)) q9))
          have k73 := kq71.2 _ _ k23 (fun q9 => Or.elim q9 (tg_ne tI1 tI4 (by omega)) (fun q9 : a0 = b3 => (tg_ne tI1 tI5 (by omega)) q9))
          have k74 := kq71.2 _ _ k24 (fun q9 => Or.elim q9 (tg_ne tI2 tI4 (by omega)) (fun q9 : b0 = b3 => (tg_ne tI2 tI5 (by omega)) q9))
          have k75 := kq71.2 _ _ k25 (fun q9 => Or.elim q9 (tg_ne tI3 tI4 (by omega)) (fun q9 : b1 = b3 => (tg_ne tI3 tI5 (by omega)) q9))
          have k76 := kq71.2 _ _ k28 (fun q9 => Or.elim q9 (tg_ne tI6 tI4 (by omega)) (fun q9 : a1 = b3 => (tg_ne tI6 tI5 (by omega)) q9))
          have k77 := kq71.2 _ _ k29 (fun q9 => Or.elim q9 (tg_ne tI7 tI4 (by omega)) (fun q9 : a2 = b3 => (tg_ne tI7 tI5 (by omega)) q9))
          have k78 := kq71.2 _ _ k30 (fun q9 => Or.elim q9 (tg_ne tI8 tI4 (by omega)) (fun q9 : a3 = b3 => (tg_ne tI8 tI5 (by omega)) q9))
          have k79 := kq71.2 _ _ k31 (fun q9 => Or.elim q9 (tg_ne tI9 tI4 (by omega)) (fun q9 : a4 = b3 => (tg_ne tI9 tI5 (by omega)) q9))
          have k80 := kq71.2 _ _ k32 (fun q9 => Or.elim q9 (tg_ne tI10 tI4 (by omega)) (fun q9 : a5 = b3 => (tg_ne tI10 tI5 (by omega)) q9))
          have k81 := kq71.2 _ _ k33 (fun q9 => Or.elim q9 (tg_ne tI11 tI4 (by omega)) (fun q9 : a6 = b3 => (tg_ne tI11 tI5 (by omega)) q9))
          have k82 := kq71.2 _ _ k34 (fun q9 => Or.elim q9 (tg_ne tI12 tI4 (by omega)) (fun q9 : tb = b3 => (tg_ne tI12 tI5 (by omega)) q9))
          have k83 := kq71.2 _ _ k35 (fun q9 => Or.elim q9 (tg_ne tI13 tI4 (by omega)) (fun q9 : a7 = b3 => (tg_ne tI13 tI5 (by omega)) q9))
          have k84 := kq71.2 _ _ k36 (fun q9 => Or.elim q9 (tg_ne tI14 tI4 (by omega)) (fun q9 : l0 = b3 => (tg_ne tI14 tI5 (by omega)) q9))
          have k85 := kq71.2 _ _ k37 (fun q9 => Or.elim q9 (tg_ne tI15 tI4 (by omega)) (fun q9 : l1 = b3 => (tg_ne tI15 tI5 (by omega)) q9))
          have k86 := kq71.2 _ _ k38 (fun q9 => Or.elim q9 (tg_ne tI16 tI4 (by omega)) (fun q9 : l2 = b3 => (tg_ne tI16 tI5 (by omega)) q9))
          have k87 := kq71.2 _ _ k39 (fun q9 => Or.elim q9 (tg_ne tI17 tI4 (by omega)) (fun q9 : l3 = b3 => (tg_ne tI17 tI5 (by omega)) q9))
          have k88 := kq71.2 _ _ k40 (fun q9 => Or.elim q9 (tg_ne tI18 tI4 (by omega)) (fun q9 : l4 = b3 => (tg_ne tI18 tI5 (by omega)) q9))
          have k89 := kq71.2 _ _ k41 (fun q9 => Or.elim q9 (tg_ne tI19 tI4 (by omega)) (fun q9 : l5 = b3 => (tg_ne tI19 tI5 (by omega)) q9))
          have k90 := kq71.2 _ _ k42 (fun q9 => Or.elim q9 (tg_ne tI20 tI4 (by omega)) (fun q9 : l6 = b3 => (tg_ne tI20 tI5 (by omega)) q9))
          have k91 := kq71.2 _ _ k43 (fun q9 => Or.elim q9 (tg_ne tI21 tI4 (by omega)) (fun q9 : l7 = b3 => (tg_ne tI21 tI5 (by omega)) q9))
          have k92 := kq71.2 _ _ k44 (fun q9 => Or.elim q9 (tg_ne tI22 tI4 (by omega)) (fun q9 : a8 = b3 => (tg_ne tI22 tI5 (by omega)) q9))
          have k93 := kq71.2 _ _ k45 (fun q9 => Or.elim q9 (tg_ne tI23 tI4 (by omega)) (fun q9 : a10 = b3 => (tg_ne tI23 tI5 (by omega)) q9))
          have k94 := kq71.2 _ _ k46 (fun q9 => Or.elim q9 (tg_ne tI24 tI4 (by omega)) (fun q9 : bl = b3 => (tg_ne tI24 tI5 (by omega)) q9))
          have k95 := kq71.2 _ _ k47 (fun q9 => Or.elim q9 (tg_ne tI25 tI4 (by omega)) (fun q9 : a11 = b3 => (tg_ne tI25 tI5 (by omega)) q9))
          have k96 := kq71.2 _ _ k48 (fun q9 => Or.elim q9 (tg_ne tI26 tI4 (by omega)) (fun q9 : bm = b3 => (tg_ne tI26 tI5 (by omega)) q9))
          have k97 := kq71.2 _ _ k49 (fun q9 => Or.elim q9 (tg_ne tz11 tI4 (by omega)) (fun q9 : (pa j4) = b3 => (tg_ne tz11 tI5 (by omega)) q9))
          have k98 := kq71.2 _ _ k50 (fun q9 => Or.elim q9 (Ne.symm (wd_nL hq21 kI4)) (fun q9 : q18 = b3 => (Ne.symm (wd_nL hq21 kI5)) q9))
          have fm99 : ∀ i9, i9 < 12 → tf i9 = some (tn i9) ∧ wd_at w66 (tn i9) (.inr (8, [.int (co i9), .int (ra i9), .int (se i9), .ref (ag i9)])) ∧ tg (tn i9) = 100 + i9 := fun i9 hi9 => ⟨(fm51 i9 hi9).1, kq71.2 _ _ (fm51 i9 hi9).2.1 (fun q9 => Or.elim q9 (tg_ne (fm51 i9 hi9).2.2 tI4 (by omega)) (tg_ne (fm51 i9 hi9).2.2 tI5 (by omega))), (fm51 i9 hi9).2.2⟩
          have fm100 : ∀ k9, k9 < 13 → (aOK (cf k9) (nf k9) ∧ ru k9 ≤ 12) ∧ wd_at w66 (aa k9) (.inr (1, [.ref (ga0 k9), .ref (ga1 k9), .ref (ga2 k9), .ref (ga3 k9), .ref (ga4 k9), .int (nI (ru k9))])) ∧ tg (aa k9) = 200 + k9 ∧ wd_at w66 (ga0 k9) (.inl (cy 2, 12, .inl (df k9))) ∧ tg (ga0 k9) = 220 + k9 ∧ wd_at w66 (ga1 k9) (.inl (cy 2, 12, .inl (cf k9))) ∧ tg (ga1 k9) = 240 + k9 ∧ wd_at w66 (ga2 k9) (.inl (cy 2, 72, .inl (nf k9))) ∧ tg (ga2 k9) = 260 + k9 ∧ wd_at w66 (ga3 k9) (.inl (cy 1, 72, .inl (sf k9))) ∧ tg (ga3 k9) = 280 + k9 ∧ wd_at w66 (ga4 k9) (.inl (cy 2, 72, .inl (uf k9))) ∧ tg (ga4 k9) = 300 + k9 := fun k9 hi9 => ⟨(fm53 k9 hi9).1, kq71.2 _ _ (fm53 k9 hi9).2.1 (fun q9 => Or.elim q9 (tg_ne (fm53 k9 hi9).2.2.1 tI4 (by omega)) (tg_ne (fm53 k9 hi9).2.2.1 tI5 (by omega))), (fm53 k9 hi9).2.2.1, kq71.2 _ _ (fm53 k9 hi9).2.2.2.1 (fun q9 => Or.elim q9 (tg_ne (fm53 k9 hi9).2.2.2.2.1 tI4 (by omega)) (tg_ne (fm53 k9 hi9).2.2.2.2.1 tI5 (by omega))), (fm53 k9 hi9).2.2.2.2.1, kq71.2 _ _ (fm53 k9 hi9).2.2.2.2.2.1 (fun q9 => Or.elim q9 (tg_ne (fm53 k9 hi9).2.2.2.2.2.2.1 tI4 (by omega)) (tg_ne (fm53 k9 hi9).2.2.2.2.2.2.1 tI5 (by omega))), (fm53 k9 hi9).2.2.2.2.2.2.1, kq71.2 _ _ (fm53 k9 hi9).2.2.2.2.2.2.2.1 (fun q9 => Or.elim q9 (tg_ne (fm53 k9 hi9).2.2.2.2.2.2.2.2.1 tI4 (by omega)) (tg_ne (fm53 k9 hi9).2.2.2.2.2.2.2.2.1 tI5 (by omega))), (fm53 k9 hi9).2.2.2.2.2.2.2.2.1, kq71.2 _ _ (fm53 k9 hi9).2.2.2.2.2.2.2.2.2.1 (fun q9 => Or.elim q9 (tg_ne (fm53 k9 hi9).2.2.2.2.2.2.2.2.2.2.1 tI4 (by omega)) (tg_ne (fm53 k9 hi9).2.2.2.2.2.2.2.2.2.2.1 tI5 (by omega))), (fm53 k9 hi9).2.2.2.2.2.2.2.2.2.2.1, kq71.2 _ _ (fm53 k9 hi9).2.2.2.2.2.2.2.2.2.2.2.1 (fun q9 => Or.elim q9 (tg_ne (fm53 k9 hi9).2.2.2.2.2.2.2.2.2.2.2.2 tI4 (by omega)) (tg_ne (fm53 k9 hi9).2.2.2.2.2.2.2.2.2.2.2.2 tI5 (by omega))), (fm53 k9 hi9).2.2.2.2.2.2.2.2.2.2.2.2⟩
          have fm101 : ∀ k9, k9 < pc → pf k9 = some (pa k9) ∧ wd_at w66 (pa k9) (.inr (3, [.int (plv k9), .int (pwo k9), .int (phd k9), .int (pgd k9), .int (pdy k9), .int (pno k9), .int (ptp k9)])) ∧ tg (pa k9) = 3000 + k9 := fun k9 hi9 => ⟨(fm55 k9 hi9).1, kq71.2 _ _ (fm55 k9 hi9).2.1 (fun q9 => Or.elim q9 (tg_ne (fm55 k9 hi9).2.2 tI4 (by omega)) (tg_ne (fm55 k9 hi9).2.2 tI5 (by omega))), (fm55 k9 hi9).2.2⟩
          have fm102 : ∀ k9, k9 < ac → af k9 = some (ad k9) ∧ wd_at w66 (ad k9) (.inr (0, [.int (av0 k9), .int (av1 k9), .int (av2 k9), .int (av3 k9)])) ∧ tg (ad k9) = 4000 + k9 := fun k9 hi9 => ⟨(fm57 k9 hi9).1, kq71.2 _ _ (fm57 k9 hi9).2.1 (fun q9 => Or.elim q9 (tg_ne (fm57 k9 hi9).2.2 tI4 (by omega)) (tg_ne (fm57 k9 hi9).2.2 tI5 (by omega))), (fm57 k9 hi9).2.2⟩
          have fm103 : ∀ k9, k9 < sc → zf k9 = some (so k9) ∧ wd_at w66 (so k9) (.inr (6, [.int (sp0 k9), .int (sp1 k9), .ref (sr k9)])) ∧ tg (so k9) = 5000 + k9 ∧ wd_at w66 (sr k9) (.inl (cy 2, 12, .inl (sd k9))) ∧ tg (sr k9) = 6000 + k9 := fun k9 hi9 => ⟨(fm59 k9 hi9).1, kq71.2 _ _ (fm59 k9 hi9).2.1 (fun q9 => Or.elim q9 (tg_ne (fm59 k9 hi9).2.2.1 tI4 (by omega)) (tg_ne (fm59 k9 hi9).2.2.1 tI5 (by omega))), (fm59 k9 hi9).2.2.1, kq71.2 _ _ (fm59 k9 hi9).2.2.2.1 (fun q9 => Or.elim q9 (tg_ne (fm59 k9 hi9).2.2.2.2 tI4 (by omega)) (tg_ne (fm59 k9 hi9).2.2.2.2 tI5 (by omega))), (fm59 k9 hi9).2.2.2.2⟩
          have fm104 : ∀ k9, k9 < sh → (hf k9 = some (sw k9) ∧ hto k9 < 12) ∧ wd_at w66 (sw k9) (.inr (5, [.int (nI (hto k9)), .int (hpp k9), .int (hle k9), .int (ham k9), .int (hhh k9), .int (hdd k9), .int (hru k9), .int (hde k9), .int (hcp k9), .int (hld k9)])) ∧ tg (sw k9) = 7000 + k9 := fun k9 hi9 => ⟨(fm61 k9 hi9).1, kq71.2 _ _ (fm61 k9 hi9).2.1 (fun q9 => Or.elim q9 (tg_ne (fm61 k9 hi9).2.2 tI4 (by omega)) (tg_ne (fm61 k9 hi9).2.2 tI5 (by omega))), (fm61 k9 hi9).2.2⟩
          have kp105 := kp63.tr kq71 (fun b9 hm q9 => (fun q9 => Or.elim q9 (fun q9 => q9 ▸ (tgS tI4 (by omega))) (fun q9 => q9 ▸ (tgS tI5 (by omega)))) q9)
          refine W.eq (g2 := F0 m 68 ls [.ref b2, .int x2, .int x1, .ref q18, .ref q18, .int (nI sc), .ref a4]) rfl (W.widen (k := 1) (n := 3) (Nat.le_of_ble_eq_true rfl) (Nat.le_of_ble_eq_true rfl) ?_)
          refine lv_aload_n hx hb dX10_stop_68 rfl (lv_at hl 1 rfl) ?_
          refine x_get (ref := "NoteHouse") F hP k72 rfl (fun _ h => List.mem_cons_of_mem _ (List.mem_append_left _ (List.mem_append_left _ (List.mem_append_left _ (List.mem_append_right _ (h)))))) 12 (Nat.le_of_ble_eq_true rfl) (List.mem_cons_of_mem _ (List.mem_append_left _ (List.mem_append_left _ (List.mem_append_left _ (List.mem_append_left _ (List.mem_append_left _ (List.mem_of_getElem? (i := 6) rfl))))))) rfl rfl dX10_stop_69 ?_
          refine x_callI (ret := none) (n := 4) (As := [.int x1, .int x2, .ref b2, .int td]) (rest := [.ref q18, .int (nI sc), .ref a4]) F hP hD hS (g_stop_init l D cy sk sv w66 q18 b2 x1 x2 td dx67 k98 k69 (fun b => b = q18) rfl) gX10_stop_X6_init rfl (List.mem_cons_of_mem _ (List.mem_append_left _ (List.mem_append_left _ (List.mem_append_left _ (List.mem_append_left _ (List.mem_append_left _ (List.mem_of_getElem? (i := 4) rfl))))))) (List.mem_cons_of_mem _ (List.mem_append_left _ (List.mem_append_left _ (List.mem_append_left _ (List.mem_append_left _ (List.mem_append_right _ (List.mem_append_right _ (List.mem_of_getElem? (i := 4) rfl)))))))) (List.mem_cons_of_mem _ (List.mem_append_left _ (List.mem_append_left _ (List.mem_append_left _ (List.mem_append_left _ (List.mem_append_right _ (List.mem_append_right _ (List.mem_of_getElem? (i := 5) rfl)))))))) rfl (by decide +kernel) ⟨(Nat.le_of_ble_eq_true rfl), (Nat.le_of_ble_eq_true rfl)⟩ rfl hl.1 (Nat.le_of_ble_eq_true rfl) dX10_stop_72 rfl ⟨(Nat.le_of_ble_eq_true rfl), (Nat.le_of_ble_eq_true rfl)⟩ (fun v107 w108 hp106 H locs hP hD hS => ?_)
          obtain ⟨arx109, sdx110, rfl, kq112, k111, hq113, k114⟩ := hp106
          have fn115 : ∀ i9, i9 < 12 → (tn i9) ≠ arx109 := fun i9 hi9 => wd_nL hq113 (fm99 i9 hi9).2.1
          have fn116 : ∀ k9, k9 < 13 → (aa k9) ≠ arx109 ∧ (ga0 k9) ≠ arx109 ∧ (ga1 k9) ≠ arx109 ∧ (ga2 k9) ≠ arx109 ∧ (ga3 k9) ≠ arx109 ∧ (ga4 k9) ≠ arx109 := fun k9 hi9 => ⟨wd_nL hq113 (fm100 k9 hi9).2.1, wd_nL hq113 (fm100 k9 hi9).2.2.2.1, wd_nL hq113 (fm100 k9 hi9).2.2.2.2.2.1, wd_nL hq113 (fm100 k9 hi9).2.2.2.2.2.2.2.1, wd_nL hq113 (fm100 k9 hi9).2.2.2.2.2.2.2.2.2.1, wd_nL hq113 (fm100 k9 hi9).2.2.2.2.2.2.2.2.2.2.2.1⟩
          have fn117 : ∀ k9, k9 < pc → (pa k9) ≠ arx109 := fun k9 hi9 => wd_nL hq113 (fm101 k9 hi9).2.1
          have fn118 : ∀ k9, k9 < ac → (ad k9) ≠ arx109 := fun k9 hi9 => wd_nL hq113 (fm102 k9 hi9).2.1
          have fn119 : ∀ k9, k9 < sc → (so k9) ≠ arx109 ∧ (sr k9) ≠ arx109 := fun k9 hi9 => ⟨wd_nL hq113 (fm103 k9 hi9).2.1, wd_nL hq113 (fm103 k9 hi9).2.2.2.1⟩
          have fn120 : ∀ k9, k9 < sh → (sw k9) ≠ arx109 := fun k9 hi9 => wd_nL hq113 (fm104 k9 hi9).2.1
          have k121 := kq112.2 _ _ k72 (fun q9 : x = q18 => (wd_nL hq21 kI0) q9)
          have k122 := kq112.2 _ _ k73 (fun q9 : a0 = q18 => (wd_nL hq21 kI1) q9)
          have k123 := kq112.2 _ _ k74 (fun q9 : b0 = q18 => (wd_nL hq21 kI2) q9)
          have k124 := kq112.2 _ _ k75 (fun q9 : b1 = q18 => (wd_nL hq21 kI3) q9)
          have k125 := kq112.2 _ _ k69 (fun q9 : b2 = q18 => (wd_nL hq21 kI4) q9)
          have k126 := kq112.2 _ _ k70 (fun q9 : b3 = q18 => (wd_nL hq21 kI5) q9)
          have k127 := kq112.2 _ _ k76 (fun q9 : a1 = q18 => (wd_nL hq21 kI6) q9)
          have k128 := kq112.2 _ _ k77 (fun q9 : a2 = q18 => (wd_nL hq21 kI7) q9)
          have k129 := kq112.2 _ _ k78 (fun q9 : a3 = q18 => (wd_nL hq21 kI8) q9)
          have k130 := kq112.2 _ _ k79 (fun q9 : a4 = q18 => (wd_nL hq21 kI9) q9)
          have k131 := kq112.2 _ _ k80 (fun q9 : a5 = q18 => (wd_nL hq21 kI10) q9)
          have k132 := kq112.2 _ _ k81 (fun q9 : a6 = q18 => (wd_nL hq21 kI11) q9)
          have k133 := kq112.2 _ _ k82 (fun q9 : tb = q18 => (wd_nL hq21 kI12) q9)
          have k134 := kq112.2 _ _ k83 (fun q9 : a7 = q18 => (wd_nL hq21 kI13) q9)
          have k135 := kq112.2 _ _ k84 (fun q9 : l0 = q18 => (wd_nL hq21 kI14) q9)
          have k136 := kq112.2 _ _ k85 (fun q9 : l1 = q18 => (wd_nL hq21 kI15) q9)
          have k137 := kq112.2 _ _ k86 (fun q9 : l2 = q18 => (wd_nL hq21 kI16) q9)
          have k138 := kq112.2 _ _ k87 (fun q9 : l3 = q18 => (wd_nL hq21 kI17) q9)
          have k139 := kq112.2 _ _ k88 (fun q9 : l4 = q18 => (wd_nL hq21 kI18) q9)
          have k140 := kq112.2 _ _ k89 (fun q9 : l5 = q18 => (wd_nL hq21 kI19) q9)
          have k141 := kq112.2 _ _ k90 (fun q9 : l6 = q18 => (wd_nL hq21 kI20) q9)
          have k142 := kq112.2 _ _ k91 (fun q9 : l7 = q18 => (wd_nL hq21 kI21) q9)
          have k143 := kq112.2 _ _ k92 (fun q9 : a8 = q18 => (wd_nL hq21 kI22) q9)
          have k144 := kq112.2 _ _ k93 (fun q9 : a10 = q18 => (wd_nL hq21 kI23) q9)
          have k145 := kq112.2 _ _ k94 (fun q9 : bl = q18 => (wd_nL hq21 kI24) q9)
          have k146 := kq112.2 _ _ k95 (fun q9 : a11 = q18 => (wd_nL hq21 kI25) q9)
          have k147 := kq112.2 _ _ k96 (fun q9 : bm = q18 => (wd_nL hq21 kI26) q9)
          have k148 := kq112.2 _ _ k97 (fun q9 : (pa j4) = q18 => (wd_nL hq21 k10) q9)
          have fm149 : ∀ i9, i9 < 12 → tf i9 = some (tn i9) ∧ wd_at w108 (tn i9) (.inr (8, [.int (co i9), .int (ra i9), .int (se i9), .ref (ag i9)])) ∧ tg (tn i9) = 100 + i9 := fun i9 hi9 => ⟨(fm99 i9 hi9).1, kq112.2 _ _ (fm99 i9 hi9).2.1 (fn52 i9 hi9), (fm99 i9 hi9).2.2⟩
          have fm150 : ∀ k9, k9 < 13 → (aOK (cf k9) (nf k9) ∧ ru k9 ≤ 12) ∧ wd_at w108 (aa k9) (.inr (1, [.ref (ga0 k9), .ref (ga1 k9), .ref (ga2 k9), .ref (ga3 k9), .ref (ga4 k9), .int (nI (ru k9))])) ∧ tg (aa k9) = 200 + k9 ∧ wd_at w108 (ga0 k9) (.inl (cy 2, 12, .inl (df k9))) ∧ tg (ga0 k9) = 220 + k9 ∧ wd_at w108 (ga1 k9) (.inl (cy 2, 12, .inl (cf k9))) ∧ tg (ga1 k9) = 240 + k9 ∧ wd_at w108 (ga2 k9) (.inl (cy 2, 72, .inl (nf k9))) ∧ tg (ga2 k9) = 260 + k9 ∧ wd_at w108 (ga3 k9) (.inl (cy 1, 72, .inl (sf k9))) ∧ tg (ga3 k9) = 280 + k9 ∧ wd_at w108 (ga4 k9) (.inl (cy 2, 72, .inl (uf k9))) ∧ tg (ga4 k9) = 300 + k9 := fun k9 hi9 => ⟨(fm100 k9 hi9).1, kq112.2 _ _ (fm100 k9 hi9).2.1 ((fn54 k9 hi9).1), (fm100 k9 hi9).2.2.1, kq112.2 _ _ (fm100 k9 hi9).2.2.2.1 ((fn54 k9 hi9).2.1), (fm100 k9 hi9).2.2.2.2.1, kq112.2 _ _ (fm100 k9 hi9).2.2.2.2.2.1 ((fn54 k9 hi9).2.2.1), (fm100 k9 hi9).2.2.2.2.2.2.1, kq112.2 _ _ (fm100 k9 hi9).2.2.2.2.2.2.2.1 ((fn54 k9 hi9).2.2.2.1), (fm100 k9 hi9).2.2.2.2.2.2.2.2.1, kq112.2 _ _ (fm100 k9 hi9).2.2.2.2.2.2.2.2.2.1 ((fn54 k9 hi9).2.2.2.2.1), (fm100 k9 hi9).2.2.2.2.2.2.2.2.2.2.1, kq112.2 _ _ (fm100 k9 hi9).2.2.2.2.2.2.2.2.2.2.2.1 ((fn54 k9 hi9).2.2.2.2.2), (fm100 k9 hi9).2.2.2.2.2.2.2.2.2.2.2.2⟩
          have fm151 : ∀ k9, k9 < pc → pf k9 = some (pa k9) ∧ wd_at w108 (pa k9) (.inr (3, [.int (plv k9), .int (pwo k9), .int (phd k9), .int (pgd k9), .int (pdy k9), .int (pno k9), .int (ptp k9)])) ∧ tg (pa k9) = 3000 + k9 := fun k9 hi9 => ⟨(fm101 k9 hi9).1, kq112.2 _ _ (fm101 k9 hi9).2.1 (fn56 k9 hi9), (fm101 k9 hi9).2.2⟩
          have fm152 : ∀ k9, k9 < ac → af k9 = some (ad k9) ∧ wd_at w108 (ad k9) (.inr (0, [.int (av0 k9), .int (av1 k9), .int (av2 k9), .int (av3 k9)])) ∧ tg (ad k9) = 4000 + k9 := fun k9 hi9 => ⟨(fm102 k9 hi9).1, kq112.2 _ _ (fm102 k9 hi9).2.1 (fn58 k9 hi9), (fm102 k9 hi9).2.2⟩
          have fm153 : ∀ k9, k9 < sc → zf k9 = some (so k9) ∧ wd_at w108 (so k9) (.inr (6, [.int (sp0 k9), .int (sp1 k9), .ref (sr k9)])) ∧ tg (so k9) = 5000 + k9 ∧ wd_at w108 (sr k9) (.inl (cy 2, 12, .inl (sd k9))) ∧ tg (sr k9) = 6000 + k9 := fun k9 hi9 => ⟨(fm103 k9 hi9).1, kq112.2 _ _ (fm103 k9 hi9).2.1 ((fn60 k9 hi9).1), (fm103 k9 hi9).2.2.1, kq112.2 _ _ (fm103 k9 hi9).2.2.2.1 ((fn60 k9 hi9).2), (fm103 k9 hi9).2.2.2.2⟩
          have fm154 : ∀ k9, k9 < sh → (hf k9 = some (sw k9) ∧ hto k9 < 12) ∧ wd_at w108 (sw k9) (.inr (5, [.int (nI (hto k9)), .int (hpp k9), .int (hle k9), .int (ham k9), .int (hhh k9), .int (hdd k9), .int (hru k9), .int (hde k9), .int (hcp k9), .int (hld k9)])) ∧ tg (sw k9) = 7000 + k9 := fun k9 hi9 => ⟨(fm104 k9 hi9).1, kq112.2 _ _ (fm104 k9 hi9).2.1 (fn62 k9 hi9), (fm104 k9 hi9).2.2⟩
          have kp155 := kp105.tr kq112 (fun b9 hm q9 => (fun q9 => absurd (q9 ▸ hm) (kp0.out hq21)) q9)
          refine W.eq (g2 := F0 m 75 ls [.ref q18, .int (nI sc), .ref a4]) rfl (W.widen (k := 2) (n := 15) (Nat.le_of_ble_eq_true rfl) (Nat.le_of_ble_eq_true rfl) ?_)
          refine y_aast F hP hD hS k130 rfl k111 rfl (vp_in_nI (n := sc) (N := 60) (by omega) (by decide)) dX10_stop_75 (fun w156 ew157 H locs hP hD hS => ?_)
          have k158 := wd_at.pt ew157 k121 (tg_ne tI0 tI9 (by omega))
          have k159 := wd_at.pt ew157 k122 (tg_ne tI1 tI9 (by omega))
          have k160 := wd_at.pt ew157 k123 (tg_ne tI2 tI9 (by omega))
          have k161 := wd_at.pt ew157 k124 (tg_ne tI3 tI9 (by omega))
          have k162 := wd_at.pt ew157 k125 (tg_ne tI4 tI9 (by omega))
          have k163 := wd_at.pt ew157 k126 (tg_ne tI5 tI9 (by omega))
          have k164 := wd_at.pt ew157 k127 (tg_ne tI6 tI9 (by omega))
          have k165 := wd_at.pt ew157 k128 (tg_ne tI7 tI9 (by omega))
          have k166 := wd_at.pt ew157 k129 (tg_ne tI8 tI9 (by omega))
          have k167 : wd_at w156 a4 (.inl (cy 8, 60, .inr (.inr (.inr (.inr (va_up zf (nI sc).toNatClampNeg (some q18))))))) := wd_at.ps ew157 k130
          have k168 := wd_at.pt ew157 k131 (tg_ne tI10 tI9 (by omega))
          have k169 := wd_at.pt ew157 k132 (tg_ne tI11 tI9 (by omega))
          have k170 := wd_at.pt ew157 k133 (tg_ne tI12 tI9 (by omega))
          have k171 := wd_at.pt ew157 k134 (tg_ne tI13 tI9 (by omega))
          have k172 := wd_at.pt ew157 k135 (tg_ne tI14 tI9 (by omega))
          have k173 := wd_at.pt ew157 k136 (tg_ne tI15 tI9 (by omega))
          have k174 := wd_at.pt ew157 k137 (tg_ne tI16 tI9 (by omega))
          have k175 := wd_at.pt ew157 k138 (tg_ne tI17 tI9 (by omega))
          have k176 := wd_at.pt ew157 k139 (tg_ne tI18 tI9 (by omega))
          have k177 := wd_at.pt ew157 k140 (tg_ne tI19 tI9 (by omega))
          have k178 := wd_at.pt ew157 k141 (tg_ne tI20 tI9 (by omega))
          have k179 := wd_at.pt ew157 k142 (tg_ne tI21 tI9 (by omega))
          have k180 := wd_at.pt ew157 k143 (tg_ne tI22 tI9 (by omega))
          have k181 := wd_at.pt ew157 k144 (tg_ne tI23 tI9 (by omega))
          have k182 := wd_at.pt ew157 k145 (tg_ne tI24 tI9 (by omega))
          have k183 := wd_at.pt ew157 k146 (tg_ne tI25 tI9 (by omega))
          have k184 := wd_at.pt ew157 k147 (tg_ne tI26 tI9 (by omega))
          have k185 := wd_at.pt ew157 k148 (tg_ne tz11 tI9 (by omega))
          have k186 := wd_at.pt ew157 k111 (Ne.symm (wd_nL hq21 kI9))
          have k187 := wd_at.pt ew157 k114 (Ne.symm (wd_nL hq113 k79))
          have fm188 : ∀ i9, i9 < 12 → tf i9 = some (tn i9) ∧ wd_at w156 (tn i9) (.inr (8, [.int (co i9), .int (ra i9), .int (se i9), .ref (ag i9)])) ∧ tg (tn i9) = 100 + i9 := fun i9 hi9 => ⟨(fm149 i9 hi9).1, wd_at.pt ew157 (fm149 i9 hi9).2.1 (tg_ne (fm149 i9 hi9).2.2 tI9 (by omega)), (fm149 i9 hi9).2.2⟩
          have fm189 : ∀ k9, k9 < 13 → (aOK (cf k9) (nf k9) ∧ ru k9 ≤ 12) ∧ wd_at w156 (aa k9) (.inr (1, [.ref (ga0 k9), .ref (ga1 k9), .ref (ga2 k9), .ref (ga3 k9), .ref (ga4 k9), .int (nI (ru k9))])) ∧ tg (aa k9) = 200 + k9 ∧ wd_at w156 (ga0 k9) (.inl (cy 2, 12, .inl (df k9))) ∧ tg (ga0 k9) = 220 + k9 ∧ wd_at w156 (ga1 k9) (.inl (cy 2, 12, .inl (cf k9))) ∧ tg (ga1 k9) = 240 + k9 ∧ wd_at w156 (ga2 k9) (.inl (cy 2, 72, .inl (nf k9))) ∧ tg (ga2 k9) = 260 + k9 ∧ wd_at w156 (ga3 k9) (.inl (cy 1, 72, .inl (sf k9))) ∧ tg (ga3 k9) = 280 + k9 ∧ wd_at w156 (ga4 k9) (.inl (cy 2, 72, .inl (uf k9))) ∧ tg (ga4 k9) = 300 + k9 := fun k9 hi9 => ⟨(fm150 k9 hi9).1, wd_at.pt ew157 (fm150 k9 hi9).2.1 (tg_ne (fm150 k9 hi9).2.2.1 tI9 (by omega)), (fm150 k9 hi9).2.2.1, wd_at.pt ew157 (fm150 k9 hi9).2.2.2.1 (tg_ne (fm150 k9 hi9).2.2.2.2.1 tI9 (by omega)), (fm150 k9 hi9).2.2.2.2.1, wd_at.pt ew157 (fm150 k9 hi9).2.2.2.2.2.1 (tg_ne (fm150 k9 hi9).2.2.2.2.2.2.1 tI9 (by omega)), (fm150 k9 hi9).2.2.2.2.2.2.1, wd_at.pt ew157 (fm150 k9 hi9).2.2.2.2.2.2.2.1 (tg_ne (fm150 k9 hi9).2.2.2.2.2.2.2.2.1 tI9 (by omega)), (fm150 k9 hi9).2.2.2.2.2.2.2.2.1, wd_at.pt ew157 (fm150 k9 hi9).2.2.2.2.2.2.2.2.2.1 (tg_ne (fm150 k9 hi9).2.2.2.2.2.2.2.2.2.2.1 tI9 (by omega)), (fm150 k9 hi9).2.2.2.2.2.2.2.2.2.2.1, wd_at.pt ew157 (fm150 k9 hi9).2.2.2.2.2.2.2.2.2.2.2.1 (tg_ne (fm150 k9 hi9).2.2.2.2.2.2.2.2.2.2.2.2 tI9 (by omega)), (fm150 k9 hi9).2.2.2.2.2.2.2.2.2.2.2.2⟩
          have fm190 : ∀ k9, k9 < pc → pf k9 = some (pa k9) ∧ wd_at w156 (pa k9) (.inr (3, [.int (plv k9), .int (pwo k9), .int (phd k9), .int (pgd k9), .int (pdy k9), .int (pno k9), .int (ptp k9)])) ∧ tg (pa k9) = 3000 + k9 := fun k9 hi9 => ⟨(fm151 k9 hi9).1, wd_at.pt ew157 (fm151 k9 hi9).2.1 (tg_ne (fm151 k9 hi9).2.2 tI9 (by omega)), (fm151 k9 hi9).2.2⟩
          have fm191 : ∀ k9, k9 < ac → af k9 = some (ad k9) ∧ wd_at w156 (ad k9) (.inr (0, [.int (av0 k9), .int (av1 k9), .int (av2 k9), .int (av3 k9)])) ∧ tg (ad k9) = 4000 + k9 := fun k9 hi9 => ⟨(fm152 k9 hi9).1, wd_at.pt ew157 (fm152 k9 hi9).2.1 (tg_ne (fm152 k9 hi9).2.2 tI9 (by omega)), (fm152 k9 hi9).2.2⟩
          have fm192 : ∀ k9, k9 < sc → zf k9 = some (so k9) ∧ wd_at w156 (so k9) (.inr (6, [.int (sp0 k9), .int (sp1 k9), .ref (sr k9)])) ∧ tg (so k9) = 5000 + k9 ∧ wd_at w156 (sr k9) (.inl (cy 2, 12, .inl (sd k9))) ∧ tg (sr k9) = 6000 + k9 := fun k9 hi9 => ⟨(fm153 k9 hi9).1, wd_at.pt ew157 (fm153 k9 hi9).2.1 (tg_ne (fm153 k9 hi9).2.2.1 tI9 (by omega)), (fm153 k9 hi9).2.2.1, wd_at.pt ew157 (fm153 k9 hi9).2.2.2.1 (tg_ne (fm153 k9 hi9).2.2.2.2 tI9 (by omega)), (fm153 k9 hi9).2.2.2.2⟩
          have fm193 : ∀ k9, k9 < sh → (hf k9 = some (sw k9) ∧ hto k9 < 12) ∧ wd_at w156 (sw k9) (.inr (5, [.int (nI (hto k9)), .int (hpp k9), .int (hle k9), .int (ham k9), .int (hhh k9), .int (hdd k9), .int (hru k9), .int (hde k9), .int (hcp k9), .int (hld k9)])) ∧ tg (sw k9) = 7000 + k9 := fun k9 hi9 => ⟨(fm154 k9 hi9).1, wd_at.pt ew157 (fm154 k9 hi9).2.1 (tg_ne (fm154 k9 hi9).2.2 tI9 (by omega)), (fm154 k9 hi9).2.2⟩
          have kp194 := kp155.put ew157 (tgS tI9 (by omega))
          refine lv_aload_n hx hb dX10_stop_76 rfl (lv_at hl 1 rfl) ?_
          refine lv_dup hx hb dX10_stop_77 rfl ?_
          refine x_get (ref := "NoteHouse") F hP k158 rfl (fun _ h => List.mem_cons_of_mem _ (List.mem_append_left _ (List.mem_append_left _ (List.mem_append_left _ (List.mem_append_right _ (h)))))) 15 (Nat.le_of_ble_eq_true rfl) (List.mem_cons_of_mem _ (List.mem_append_left _ (List.mem_append_left _ (List.mem_append_left _ (List.mem_append_left _ (List.mem_append_left _ (List.mem_of_getElem? (i := 0) rfl))))))) rfl rfl dX10_stop_78 ?_
          refine lv_iconst (v := 1) hx hb dX10_stop_81 (by decide) ?_
          refine lv_iadd hx hb dX10_stop_82 ?_
          rw [show ((nI sc) + 1 : Int32) = nI (sc + 1) from nI_add sc 1]
          refine y_put (ref := "NoteHouse") F hP hD hS k158 rfl (fun _ h => List.mem_cons_of_mem _ (List.mem_append_left _ (List.mem_append_left _ (List.mem_append_left _ (List.mem_append_right _ (h)))))) tyX10_ok nmX10 15 (Nat.le_of_ble_eq_true rfl) (List.mem_cons_of_mem _ (List.mem_append_left _ (List.mem_append_left _ (List.mem_append_left _ (List.mem_append_left _ (List.mem_append_left _ (List.mem_of_getElem? (i := 0) rfl))))))) rfl rfl rfl rfl (Nat.le_of_ble_eq_true rfl) dX10_stop_83 (fun w195 ew196 H locs hP hD hS => ?_)
          have k197 : wd_at w195 x (.inr (10, [.ref a0, .ref a1, .ref a2, .ref a3, .ref a4, .ref a5, .ref a6, .ref a7, .ref a8, .ref (aa sg), .ref a10, .ref a11, .int td, .int (nI pc), .int (nI ac), .int (nI (sc + 1)), .int (nI sh)])) := wd_at.ps ew196 k158
          have k198 := wd_at.pt ew196 k159 (tg_ne tI1 tI0 (by omega))
          have k199 := wd_at.pt ew196 k160 (tg_ne tI2 tI0 (by omega))
          have k200 := wd_at.pt ew196 k161 (tg_ne tI3 tI0 (by omega))
          have k201 := wd_at.pt ew196 k162 (tg_ne tI4 tI0 (by omega))
          have k202 := wd_at.pt ew196 k163 (tg_ne tI5 tI0 (by omega))
          have k203 := wd_at.pt ew196 k164 (tg_ne tI6 tI0 (by omega))
          have k204 := wd_at.pt ew196 k165 (tg_ne tI7 tI0 (by omega))
          have k205 := wd_at.pt ew196 k166 (tg_ne tI8 tI0 (by omega))
          have k206 := wd_at.pt ew196 k167 (tg_ne tI9 tI0 (by omega))
          have k207 := wd_at.pt ew196 k168 (tg_ne tI10 tI0 (by omega))
          have k208 := wd_at.pt ew196 k169 (tg_ne tI11 tI0 (by omega))
          have k209 := wd_at.pt ew196 k170 (tg_ne tI12 tI0 (by omega))
          have k210 := wd_at.pt ew196 k171 (tg_ne tI13 tI0 (by omega))
          have k211 := wd_at.pt ew196 k172 (tg_ne tI14 tI0 (by omega))
          have k212 := wd_at.pt ew196 k173 (tg_ne tI15 tI0 (by omega))
          have k213 := wd_at.pt ew196 k174 (tg_ne tI16 tI0 (by omega))
          have k214 := wd_at.pt ew196 k175 (tg_ne tI17 tI0 (by omega))
          have k215 := wd_at.pt ew196 k176 (tg_ne tI18 tI0 (by omega))
          have k216 := wd_at.pt ew196 k177 (tg_ne tI19 tI0 (by omega))
          have k217 := wd_at.pt ew196 k178 (tg_ne tI20 tI0 (by omega))
          have k218 := wd_at.pt ew196 k179 (tg_ne tI21 tI0 (by omega))
          have k219 := wd_at.pt ew196 k180 (tg_ne tI22 tI0 (by omega))
          have k220 := wd_at.pt ew196 k181 (tg_ne tI23 tI0 (by omega))
          have k221 := wd_at.pt ew196 k182 (tg_ne tI24 tI0 (by omega))
          have k222 := wd_at.pt ew196 k183 (tg_ne tI25 tI0 (by omega))
          have k223 := wd_at.pt ew196 k184 (tg_ne tI26 tI0 (by omega))
          have k224 := wd_at.pt ew196 k185 (tg_ne tz11 tI0 (by omega))
          have k225 := wd_at.pt ew196 k186 (Ne.symm (wd_nL hq21 kI0))
          have k226 := wd_at.pt ew196 k187 (Ne.symm (wd_nL hq113 k72))
          have fm227 : ∀ i9, i9 < 12 → tf i9 = some (tn i9) ∧ wd_at w195 (tn i9) (.inr (8, [.int (co i9), .int (ra i9), .int (se i9), .ref (ag i9)])) ∧ tg (tn i9) = 100 + i9 := fun i9 hi9 => ⟨(fm188 i9 hi9).1, wd_at.pt ew196 (fm188 i9 hi9).2.1 (tg_ne (fm188 i9 hi9).2.2 tI0 (by omega)), (fm188 i9 hi9).2.2⟩
          have fm228 : ∀ k9, k9 < 13 → (aOK (cf k9) (nf k9) ∧ ru k9 ≤ 12) ∧ wd_at w195 (aa k9) (.inr (1, [.ref (ga0 k9), .ref (ga1 k9), .ref (ga2 k9), .ref (ga3 k9), .ref (ga4 k9), .int (nI (ru k9))])) ∧ tg (aa k9) = 200 + k9 ∧ wd_at w195 (ga0 k9) (.inl (cy 2, 12, .inl (df k9))) ∧ tg (ga0 k9) = 220 + k9 ∧ wd_at w195 (ga1 k9) (.inl (cy 2, 12, .inl (cf k9))) ∧ tg (ga1 k9) = 240 + k9 ∧ wd_at w195 (ga2 k9) (.inl (cy 2, 72, .inl (nf k9))) ∧ tg (ga2 k9) = 260 + k9 ∧ wd_at w195 (ga3 k9) (.inl (cy 1, 72, .inl (sf k9))) ∧ tg (ga3 k9) = 280 + k9 ∧ wd_at w195 (ga4 k9) (.inl (cy 2, 72, .inl (uf k9))) ∧ tg (ga4 k9) = 300 + k9 := fun k9 hi9 => ⟨(fm189 k9 hi9).1, wd_at.pt ew196 (fm189 k9 hi9).2.1 (tg_ne (fm189 k9 hi9).2.2.1 tI0 (by omega)), (fm189 k9 hi9).2.2.1, wd_at.pt ew196 (fm189 k9 hi9).2.2.2.1 (tg_ne (fm189 k9 hi9).2.2.2.2.1 tI0 (by omega)), (fm189 k9 hi9).2.2.2.2.1, wd_at.pt ew196 (fm189 k9 hi9).2.2.2.2.2.1 (tg_ne (fm189 k9 hi9).2.2.2.2.2.2.1 tI0 (by omega)), (fm189 k9 hi9).2.2.2.2.2.2.1, wd_at.pt ew196 (fm189 k9 hi9).2.2.2.2.2.2.2.1 (tg_ne (fm189 k9 hi9).2.2.2.2.2.2.2.2.1 tI0 (by omega)), (fm189 k9 hi9).2.2.2.2.2.2.2.2.1, wd_at.pt ew196 (fm189 k9 hi9).2.2.2.2.2.2.2.2.2.1 (tg_ne (fm189 k9 hi9).2.2.2.2.2.2.2.2.2.2.1 tI0 (by omega)), (fm189 k9 hi9).2.2.2.2.2.2.2.2.2.2.1, wd_at.pt ew196 (fm189 k9 hi9).2.2.2.2.2.2.2.2.2.2.2.1 (tg_ne (fm189 k9 hi9).2.2.2.2.2.2.2.2.2.2.2.2 tI0 (by omega)), (fm189 k9 hi9).2.2.2.2.2.2.2.2.2.2.2.2⟩
          have fm229 : ∀ k9, k9 < pc → pf k9 = some (pa k9) ∧ wd_at w195 (pa k9) (.inr (3, [.int (plv k9), .int (pwo k9), .int (phd k9), .int (pgd k9), .int (pdy k9), .int (pno k9), .int (ptp k9)])) ∧ tg (pa k9) = 3000 + k9 := fun k9 hi9 => ⟨(fm190 k9 hi9).1, wd_at.pt ew196 (fm190 k9 hi9).2.1 (tg_ne (fm190 k9 hi9).2.2 tI0 (by omega)), (fm190 k9 hi9).2.2⟩
          have fm230 : ∀ k9, k9 < ac → af k9 = some (ad k9) ∧ wd_at w195 (ad k9) (.inr (0, [.int (av0 k9), .int (av1 k9), .int (av2 k9), .int (av3 k9)])) ∧ tg (ad k9) = 4000 + k9 := fun k9 hi9 => ⟨(fm191 k9 hi9).1, wd_at.pt ew196 (fm191 k9 hi9).2.1 (tg_ne (fm191 k9 hi9).2.2 tI0 (by omega)), (fm191 k9 hi9).2.2⟩
          have fm231 : ∀ k9, k9 < sc → zf k9 = some (so k9) ∧ wd_at w195 (so k9) (.inr (6, [.int (sp0 k9), .int (sp1 k9), .ref (sr k9)])) ∧ tg (so k9) = 5000 + k9 ∧ wd_at w195 (sr k9) (.inl (cy 2, 12, .inl (sd k9))) ∧ tg (sr k9) = 6000 + k9 := fun k9 hi9 => ⟨(fm192 k9 hi9).1, wd_at.pt ew196 (fm192 k9 hi9).2.1 (tg_ne (fm192 k9 hi9).2.2.1 tI0 (by omega)), (fm192 k9 hi9).2.2.1, wd_at.pt ew196 (fm192 k9 hi9).2.2.2.1 (tg_ne (fm192 k9 hi9).2.2.2.2 tI0 (by omega)), (fm192 k9 hi9).2.2.2.2⟩
          have fm232 : ∀ k9, k9 < sh → (hf k9 = some (sw k9) ∧ hto k9 < 12) ∧ wd_at w195 (sw k9) (.inr (5, [.int (nI (hto k9)), .int (hpp k9), .int (hle k9), .int (ham k9), .int (hhh k9), .int (hdd k9), .int (hru k9), .int (hde k9), .int (hcp k9), .int (hld k9)])) ∧ tg (sw k9) = 7000 + k9 := fun k9 hi9 => ⟨(fm193 k9 hi9).1, wd_at.pt ew196 (fm193 k9 hi9).2.1 (tg_ne (fm193 k9 hi9).2.2 tI0 (by omega)), (fm193 k9 hi9).2.2⟩
          have kp233 := kp194.put ew196 (tgS tI0 (by omega))
          refine lv_aload_n hx hb dX10_stop_86 rfl (lv_at hl 1 rfl) ?_
          refine x_get (ref := "NoteHouse") F hP k197 rfl (fun _ h => List.mem_cons_of_mem _ (List.mem_append_left _ (List.mem_append_left _ (List.mem_append_left _ (List.mem_append_right _ (h)))))) 15 (Nat.le_of_ble_eq_true rfl) (List.mem_cons_of_mem _ (List.mem_append_left _ (List.mem_append_left _ (List.mem_append_left _ (List.mem_append_left _ (List.mem_append_left _ (List.mem_of_getElem? (i := 0) rfl))))))) rfl rfl dX10_stop_87 ?_
          refine lv_iconst (v := 1) hx hb dX10_stop_90 (by decide) ?_
          refine lv_isub hx hb dX10_stop_91 ?_
          rw [show ((nI (sc + 1)) - 1 : Int32) = nI ((sc + 1) - 1) from pk_sub (a := (sc + 1)) (b := 1) (by omega)]
          have fm235 : ∀ i9, i9 < 12 → tf i9 = some (tn i9) ∧ wd_at w195 (tn i9) (.inr (8, [.int (co i9), .int (ra i9), .int (se i9), .ref (ag i9)])) ∧ (va_up (va_up tg q18 (5000 + sc)) arx109 (6000 + sc)) (tn i9) = 100 + i9 := fun i9 hi9 => ⟨(fm227 i9 hi9).1, (fm227 i9 hi9).2.1, ((va_up_ne _ _ (fn115 i9 hi9)).trans ((va_up_ne _ _ (fn52 i9 hi9)).trans (fm227 i9 hi9).2.2))⟩
          have fm236 : ∀ k9, k9 < 13 → (aOK (cf k9) (nf k9) ∧ ru k9 ≤ 12) ∧ wd_at w195 (aa k9) (.inr (1, [.ref (ga0 k9), .ref (ga1 k9), .ref (ga2 k9), .ref (ga3 k9), .ref (ga4 k9), .int (nI (ru k9))])) ∧ (va_up (va_up tg q18 (5000 + sc)) arx109 (6000 + sc)) (aa k9) = 200 + k9 ∧ wd_at w195 (ga0 k9) (.inl (cy 2, 12, .inl (df k9))) ∧ (va_up (va_up tg q18 (5000 + sc)) arx109 (6000 + sc)) (ga0 k9) = 220 + k9 ∧ wd_at w195 (ga1 k9) (.inl (cy 2, 12, .inl (cf k9))) ∧ (va_up (va_up tg q18 (5000 + sc)) arx109 (6000 + sc)) (ga1 k9) = 240 + k9 ∧ wd_at w195 (ga2 k9) (.inl (cy 2, 72, .inl (nf k9))) ∧ (va_up (va_up tg q18 (5000 + sc)) arx109 (6000 + sc)) (ga2 k9) = 260 + k9 ∧ wd_at w195 (ga3 k9) (.inl (cy 1, 72, .inl (sf k9))) ∧ (va_up (va_up tg q18 (5000 + sc)) arx109 (6000 + sc)) (ga3 k9) = 280 + k9 ∧ wd_at w195 (ga4 k9) (.inl (cy 2, 72, .inl (uf k9))) ∧ (va_up (va_up tg q18 (5000 + sc)) arx109 (6000 + sc)) (ga4 k9) = 300 + k9 := fun k9 hi9 => ⟨(fm228 k9 hi9).1, (fm228 k9 hi9).2.1, ((va_up_ne _ _ ((fn116 k9 hi9).1)).trans ((va_up_ne _ _ ((fn54 k9 hi9).1)).trans (fm228 k9 hi9).2.2.1)), (fm228 k9 hi9).2.2.2.1, ((va_up_ne _ _ ((fn116 k9 hi9).2.1)).trans ((va_up_ne _ _ ((fn54 k9 hi9).2.1)).trans (fm228 k9 hi9).2.2.2.2.1)), (fm228 k9 hi9).2.2.2.2.2.1, ((va_up_ne _ _ ((fn116 k9 hi9).2.2.1)).trans ((va_up_ne _ _ ((fn54 k9 hi9).2.2.1)).trans (fm228 k9 hi9).2.2.2.2.2.2.1)), (fm228 k9 hi9).2.2.2.2.2.2.2.1, ((va_up_ne _ _ ((fn116 k9 hi9).2.2.2.1)).trans ((va_up_ne _ _ ((fn54 k9 hi9).2.2.2.1)).trans (fm228 k9 hi9).2.2.2.2.2.2.2.2.1)), (fm228 k9 hi9).2.2.2.2.2.2.2.2.2.1, ((va_up_ne _ _ ((fn116 k9 hi9).2.2.2.2.1)).trans ((va_up_ne _ _ ((fn54 k9 hi9).2.2.2.2.1)).trans (fm228 k9 hi9).2.2.2.2.2.2.2.2.2.2.1)), (fm228 k9 hi9).2.2.2.2.2.2.2.2.2.2.2.1, ((va_up_ne _ _ ((fn116 k9 hi9).2.2.2.2.2)).trans ((va_up_ne _ _ ((fn54 k9 hi9).2.2.2.2.2)).trans (fm228 k9 hi9).2.2.2.2.2.2.2.2.2.2.2.2))⟩
          have fm237 : ∀ k9, k9 < pc → pf k9 = some (pa k9) ∧ wd_at w195 (pa k9) (.inr (3, [.int (plv k9), .int (pwo k9), .int (phd k9), .int (pgd k9), .int (pdy k9), .int (pno k9), .int (ptp k9)])) ∧ (va_up (va_up tg q18 (5000 + sc)) arx109 (6000 + sc)) (pa k9) = 3000 + k9 := fun k9 hi9 => ⟨(fm229 k9 hi9).1, (fm229 k9 hi9).2.1, ((va_up_ne _ _ (fn117 k9 hi9)).trans ((va_up_ne _ _ (fn56 k9 hi9)).trans (fm229 k9 hi9).2.2))⟩
          have fm238 : ∀ k9, k9 < ac → af k9 = some (ad k9) ∧ wd_at w195 (ad k9) (.inr (0, [.int (av0 k9), .int (av1 k9), .int (av2 k9), .int (av3 k9)])) ∧ (va_up (va_up tg q18 (5000 + sc)) arx109 (6000 + sc)) (ad k9) = 4000 + k9 := fun k9 hi9 => ⟨(fm230 k9 hi9).1, (fm230 k9 hi9).2.1, ((va_up_ne _ _ (fn118 k9 hi9)).trans ((va_up_ne _ _ (fn58 k9 hi9)).trans (fm230 k9 hi9).2.2))⟩
          have fm239 : ∀ k9, k9 < sc → zf k9 = some (so k9) ∧ wd_at w195 (so k9) (.inr (6, [.int (sp0 k9), .int (sp1 k9), .ref (sr k9)])) ∧ (va_up (va_up tg q18 (5000 + sc)) arx109 (6000 + sc)) (so k9) = 5000 + k9 ∧ wd_at w195 (sr k9) (.inl (cy 2, 12, .inl (sd k9))) ∧ (va_up (va_up tg q18 (5000 + sc)) arx109 (6000 + sc)) (sr k9) = 6000 + k9 := fun k9 hi9 => ⟨(fm231 k9 hi9).1, (fm231 k9 hi9).2.1, ((va_up_ne _ _ ((fn119 k9 hi9).1)).trans ((va_up_ne _ _ ((fn60 k9 hi9).1)).trans (fm231 k9 hi9).2.2.1)), (fm231 k9 hi9).2.2.2.1, ((va_up_ne _ _ ((fn119 k9 hi9).2)).trans ((va_up_ne _ _ ((fn60 k9 hi9).2)).trans (fm231 k9 hi9).2.2.2.2))⟩
          have fm240 : ∀ k9, k9 < sh → (hf k9 = some (sw k9) ∧ hto k9 < 12) ∧ wd_at w195 (sw k9) (.inr (5, [.int (nI (hto k9)), .int (hpp k9), .int (hle k9), .int (ham k9), .int (hhh k9), .int (hdd k9), .int (hru k9), .int (hde k9), .int (hcp k9), .int (hld k9)])) ∧ (va_up (va_up tg q18 (5000 + sc)) arx109 (6000 + sc)) (sw k9) = 7000 + k9 := fun k9 hi9 => ⟨(fm232 k9 hi9).1, (fm232 k9 hi9).2.1, ((va_up_ne _ _ (fn120 k9 hi9)).trans ((va_up_ne _ _ (fn62 k9 hi9)).trans (fm232 k9 hi9).2.2))⟩
          have k241 : wd_at w195 a4 (.inl (cy 8, 60, .inr (.inr (.inr (.inr (va_up zf sc (some q18))))))) := by have h9 := k206; rw [nI_clamp (n := sc) (by omega)] at h9; exact h9
          have fm242 : ∀ k9, k9 < (sc + 1) → (va_up zf sc (some q18)) k9 = some ((va_up so sc q18) k9) ∧ wd_at w195 ((va_up so sc q18) k9) (.inr (6, [.int ((va_up sp0 sc x1) k9), .int ((va_up sp1 sc x2) k9), .ref ((va_up sr sc arx109) k9)])) ∧ (va_up (va_up tg q18 (5000 + sc)) arx109 (6000 + sc)) ((va_up so sc q18) k9) = 5000 + k9 ∧ wd_at w195 ((va_up sr sc arx109) k9) (.inl (cy 2, 12, .inl ((va_up sd sc sdx110) k9))) ∧ (va_up (va_up tg q18 (5000 + sc)) arx109 (6000 + sc)) ((va_up sr sc arx109) k9) = 6000 + k9 := by
            intro k9 hi9
            by_cases e9 : k9 = sc
            · rw [e9]
              exact ⟨(by rw [va_up_self, va_up_self]), (by first | exact k225 | (simp only [va_up_self]; exact k225)), (by rw [va_up_self]; exact ((va_up_ne _ _ (wd_nL hq113 k98)).trans (va_up_self _ _ _))), (by first | exact k226 | (simp only [va_up_self]; exact k226)), (by rw [va_up_self]; exact (va_up_self _ _ _))⟩
            · simp only [va_up_ne _ _ e9]
              exact fm239 k9 (by omega)
          have hX243 : IX cy (va_up (va_up tg q18 (5000 + sc)) arx109 (6000 + sc)) x td pc ac (sc + 1) ln se plv w195 := IX.mk a0 a1 a2 a3 a4 a5 a6 a7 a8 a10 a11 b0 b1 b2 b3 tb l0 l1 l2 l3 l4 l5 l6 l7 bl bm sh gc sg lu lv9 f0 f1 dx67 px68 tbf e0 e1 e4 e5 e7 ff bf bf2 e2 e3 e6 ta sz fo to fo2 to2 tf tn ag co ra aa ru ga0 ga1 ga2 ga3 ga4 df cf nf sf uf pf pa pwo phd pgd pdy pno ptp af ad av0 av1 av2 av3 (va_up zf sc (some q18)) (va_up so sc q18) (va_up sr sc arx109) (va_up sp0 sc x1) (va_up sp1 sc x2) (va_up sd sc sdx110) hf sw hto hpp hle ham hhh hdd hru hde hcp hld (by omega) (by omega) (by omega) (by omega) (by omega) (by omega) (by omega) (by omega) hag k197 ((va_up_ne _ _ (wd_nL hq113 k72)).trans ((va_up_ne _ _ (wd_nL hq21 kI0)).trans tI0)) k198 ((va_up_ne _ _ (wd_nL hq113 k73)).trans ((va_up_ne _ _ (wd_nL hq21 kI1)).trans tI1)) k199 ((va_up_ne _ _ (wd_nL hq113 k74)).trans ((va_up_ne _ _ (wd_nL hq21 kI2)).trans tI2)) k200 ((va_up_ne _ _ (wd_nL hq113 k75)).trans ((va_up_ne _ _ (wd_nL hq21 kI3)).trans tI3)) k201 ((va_up_ne _ _ (wd_nL hq113 k69)).trans ((va_up_ne _ _ (wd_nL hq21 kI4)).trans tI4)) k202 ((va_up_ne _ _ (wd_nL hq113 k70)).trans ((va_up_ne _ _ (wd_nL hq21 kI5)).trans tI5)) k203 ((va_up_ne _ _ (wd_nL hq113 k76)).trans ((va_up_ne _ _ (wd_nL hq21 kI6)).trans tI6)) k204 ((va_up_ne _ _ (wd_nL hq113 k77)).trans ((va_up_ne _ _ (wd_nL hq21 kI7)).trans tI7)) k205 ((va_up_ne _ _ (wd_nL hq113 k78)).trans ((va_up_ne _ _ (wd_nL hq21 kI8)).trans tI8)) k241 ((va_up_ne _ _ (wd_nL hq113 k79)).trans ((va_up_ne _ _ (wd_nL hq21 kI9)).trans tI9)) k207 ((va_up_ne _ _ (wd_nL hq113 k80)).trans ((va_up_ne _ _ (wd_nL hq21 kI10)).trans tI10)) k208 ((va_up_ne _ _ (wd_nL hq113 k81)).trans ((va_up_ne _ _ (wd_nL hq21 kI11)).trans tI11)) k209 ((va_up_ne _ _ (wd_nL hq113 k82)).trans ((va_up_ne _ _ (wd_nL hq21 kI12)).trans tI12)) k210 ((va_up_ne _ _ (wd_nL hq113 k83)).trans ((va_up_ne _ _ (wd_nL hq21 kI13)).trans tI13)) k211 ((va_up_ne _ _ (wd_nL hq113 k84)).trans ((va_up_ne _ _ (wd_nL hq21 kI14)).trans tI14)) k212 ((va_up_ne _ _ (wd_nL hq113 k85)).trans ((va_up_ne _ _ (wd_nL hq21 kI15)).trans tI15)) k213 ((va_up_ne _ _ (wd_nL hq113 k86)).trans ((va_up_ne _ _ (wd_nL hq21 kI16)).trans tI16)) k214 ((va_up_ne _ _ (wd_nL hq113 k87)).trans ((va_up_ne _ _ (wd_nL hq21 kI17)).trans tI17)) k215 ((va_up_ne _ _ (wd_nL hq113 k88)).trans ((va_up_ne _ _ (wd_nL hq21 kI18)).trans tI18)) k216 ((va_up_ne _ _ (wd_nL hq113 k89)).trans ((va_up_ne _ _ (wd_nL hq21 kI19)).trans tI19)) k217 ((va_up_ne _ _ (wd_nL hq113 k90)).trans ((va_up_ne _ _ (wd_nL hq21 kI20)).trans tI20)) k218 ((va_up_ne _ _ (wd_nL hq113 k91)).trans ((va_up_ne _ _ (wd_nL hq21 kI21)).trans tI21)) k219 ((va_up_ne _ _ (wd_nL hq113 k92)).trans ((va_up_ne _ _ (wd_nL hq21 kI22)).trans tI22)) k220 ((va_up_ne _ _ (wd_nL hq113 k93)).trans ((va_up_ne _ _ (wd_nL hq21 kI23)).trans tI23)) k221 ((va_up_ne _ _ (wd_nL hq113 k94)).trans ((va_up_ne _ _ (wd_nL hq21 kI24)).trans tI24)) k222 ((va_up_ne _ _ (wd_nL hq113 k95)).trans ((va_up_ne _ _ (wd_nL hq21 kI25)).trans tI25)) k223 ((va_up_ne _ _ (wd_nL hq113 k96)).trans ((va_up_ne _ _ (wd_nL hq21 kI26)).trans tI26)) fm235 fm236 fm237 fm238 fm242 fm240
          exact y_ir K hP hD hS (Nat.le_of_ble_eq_true rfl) (Nat.le_of_ble_eq_true rfl) (ty := .int) rfl rfl dX10_stop_92 (by refine ⟨(congrArg (fun z => some (Value.int z)) (show nI ((sc + 1) - 1) = stpA plv pc sc x1 x2 (nI t) from by simp [stpA, stpC, pb9.1, pb9.2, c_12, c_16, clt, c_17])), ?_⟩; rw [show stpC plv pc sc x1 x2 (nI t) = (sc + 1) from by simp [stpA, stpC, pb9.1, pb9.2, c_12, c_16, clt, c_17]]; exact ⟨(va_up (va_up tg q18 (5000 + sc)) arx109 (6000 + sc)), (fun a9 ha9 => ((va_up_ne _ _ (fun q9 : a9 = arx109 => (kp105.out hq113) (q9 ▸ ha9))).trans (va_up_ne _ _ (fun q9 : a9 = q18 => (kp0.out hq21) (q9 ▸ ha9))))), kp233, hX243⟩)
        · refine lv_aload hx hb dX10_stop_35 (lv_at hl 0 rfl) ?_
          refine lv_iload_n hx hb dX10_stop_37 rfl (lv_at hl 3 rfl) ?_
          refine x_callV (n := 1) (As := [.int x2]) (rest := []) F hP hD hS (g_hasLeaf l D cy sk sv w (pa j4) x2 (plv j4) (pwo j4) (phd j4) (pgd j4) (pdy j4) (pno j4) (ptp j4) k10) gX10_stop_X3_hasLeaf rfl rfl (by decide +kernel) ⟨(Nat.le_of_ble_eq_true rfl), (Nat.le_of_ble_eq_true rfl)⟩ rfl hl.1 (Nat.le_of_ble_eq_true rfl) k10 rfl dX10_stop_38 rfl ⟨(Nat.le_of_ble_eq_true rfl), (Nat.le_of_ble_eq_true rfl)⟩ (fun v245 w246 hp244 H locs hP hD hS => ?_)
          obtain ⟨rfl, rfl⟩ := hp244
          refine W.eq (g2 := F0 m 41 ls [.int (lf x2 (plv j4))]) rfl (W.widen (k := 0) (n := 0) (Nat.le_of_ble_eq_true rfl) (Nat.le_of_ble_eq_true rfl) ?_)
          refine lv_if_ne (tgt := 46) hx hb dX10_stop_41 (by decide) (fun c_247 => ?_) (fun c_247 => ?_)
          · refine lv_aload_n hx hb dX10_stop_46 rfl (lv_at hl 1 rfl) ?_
            refine x_get (ref := "NoteHouse") F hP kI0 rfl (fun _ h => List.mem_cons_of_mem _ (List.mem_append_left _ (List.mem_append_left _ (List.mem_append_left _ (List.mem_append_right _ (h)))))) 4 (Nat.le_of_ble_eq_true rfl) (List.mem_cons_of_mem _ (List.mem_append_left _ (List.mem_append_left _ (List.mem_append_left _ (List.mem_append_left _ (List.mem_append_left _ (List.mem_of_getElem? (i := 1) rfl))))))) rfl rfl dX10_stop_47 ?_
            refine lv_aload_n hx hb dX10_stop_50 rfl (lv_at hl 1 rfl) ?_
            refine x_get (ref := "NoteHouse") F hP kI0 rfl (fun _ h => List.mem_cons_of_mem _ (List.mem_append_left _ (List.mem_append_left _ (List.mem_append_left _ (List.mem_append_right _ (h)))))) 15 (Nat.le_of_ble_eq_true rfl) (List.mem_cons_of_mem _ (List.mem_append_left _ (List.mem_append_left _ (List.mem_append_left _ (List.mem_append_left _ (List.mem_append_left _ (List.mem_of_getElem? (i := 0) rfl))))))) rfl rfl dX10_stop_51 ?_
            refine y_new (fs := [.int 0, .int 0, .null]) F hP hD hS (ci := 6) rfl (fun _ h => List.mem_cons_of_mem _ (List.mem_append_left _ (List.mem_append_left _ (List.mem_append_right _ (h))))) tyX6_ok (List.mem_cons_of_mem _ (List.mem_append_left _ (List.mem_append_left _ (List.mem_append_left _ (List.mem_append_left _ (List.mem_append_left _ (List.mem_of_getElem? (i := 2) rfl))))))) (List.mem_cons_of_mem _ (List.mem_append_left _ (List.mem_append_left _ (List.mem_append_left _ (List.mem_append_left _ (List.mem_append_left _ (List.mem_of_getElem? (i := 3) rfl))))))) (List.mem_cons_of_mem _ (List.mem_append_left _ (List.mem_append_left _ (List.mem_append_left _ (List.mem_append_left _ (List.mem_append_left _ (List.mem_of_getElem? (i := 4) rfl))))))) df_6 (Nat.le_of_ble_eq_true rfl) (Nat.le_of_ble_eq_true rfl) dX10_stop_54 (fun q248 w249 ew250 hq251 H hP hD hS => ?_)
            refine W.widen (k := 1) (n := 3) (Nat.le_of_ble_eq_true rfl) (Nat.le_of_ble_eq_true rfl) ?_
            have k252 := wd_at.ad ew250 hq251 kI0
            have k253 := wd_at.ad ew250 hq251 kI1
            have k254 := wd_at.ad ew250 hq251 kI2
            have k255 := wd_at.ad ew250 hq251 kI3
            have k256 := wd_at.ad ew250 hq251 kI4
            have k257 := wd_at.ad ew250 hq251 kI5
            have k258 := wd_at.ad ew250 hq251 kI6
            have k259 := wd_at.ad ew250 hq251 kI7
            have k260 := wd_at.ad ew250 hq251 kI8
            have k261 := wd_at.ad ew250 hq251 kI9
            have k262 := wd_at.ad ew250 hq251 kI10
            have k263 := wd_at.ad ew250 hq251 kI11
            have k264 := wd_at.ad ew250 hq251 kI12
            have k265 := wd_at.ad ew250 hq251 kI13
            have k266 := wd_at.ad ew250 hq251 kI14
            have k267 := wd_at.ad ew250 hq251 kI15
            have k268 := wd_at.ad ew250 hq251 kI16
            have k269 := wd_at.ad ew250 hq251 kI17
            have k270 := wd_at.ad ew250 hq251 kI18
            have k271 := wd_at.ad ew250 hq251 kI19
            have k272 := wd_at.ad ew250 hq251 kI20
            have k273 := wd_at.ad ew250 hq251 kI21
            have k274 := wd_at.ad ew250 hq251 kI22
            have k275 := wd_at.ad ew250 hq251 kI23
            have k276 := wd_at.ad ew250 hq251 kI24
            have k277 := wd_at.ad ew250 hq251 kI25
            have k278 := wd_at.ad ew250 hq251 kI26
            have k279 := wd_at.ad ew250 hq251 k10
            have k280 : wd_at w249 q248 (.inr (6, [.int 0, .int 0, .null])) := wd_at.nw ew250
            have fm281 : ∀ i9, i9 < 12 → tf i9 = some (tn i9) ∧ wd_at w249 (tn i9) (.inr (8, [.int (co i9), .int (ra i9), .int (se i9), .ref (ag i9)])) ∧ tg (tn i9) = 100 + i9 := fun i9 hi9 => ⟨(hT9 i9 hi9).1, wd_at.ad ew250 hq251 (hT9 i9 hi9).2.1, (hT9 i9 hi9).2.2⟩
            have fn282 : ∀ i9, i9 < 12 → (tn i9) ≠ q248 := fun i9 hi9 => wd_nL hq251 (hT9 i9 hi9).2.1
            have fm283 : ∀ k9, k9 < 13 → (aOK (cf k9) (nf k9) ∧ ru k9 ≤ 12) ∧ wd_at w249 (aa k9) (.inr (1, [.ref (ga0 k9), .ref (ga1 k9), .ref (ga2 k9), .ref (ga3 k9), .ref (ga4 k9), .int (nI (ru k9))])) ∧ tg (aa k9) = 200 + k9 ∧ wd_at w249 (ga0 k9) (.inl (cy 2, 12, .inl (df k9))) ∧ tg (ga0 k9) = 220 + k9 ∧ wd_at w249 (ga1 k9) (.inl (cy 2, 12, .inl (cf k9))) ∧ tg (ga1 k9) = 240 + k9 ∧ wd_at w249 (ga2 k9) (.inl (cy 2, 72, .inl (nf k9))) ∧ tg (ga2 k9) = 260 + k9 ∧ wd_at w249 (ga3 k9) (.inl (cy 1, 72, .inl (sf k9))) ∧ tg (ga3 k9) = 280 + k9 ∧ wd_at w249 (ga4 k9) (.inl (cy 2, 72, .inl (uf k9))) ∧ tg (ga4 k9) = 300 + k9 := fun k9 hi9 => ⟨(hG9 k9 hi9).1, wd_at.ad ew250 hq251 (hG9 k9 hi9).2.1, (hG9 k9 hi9).2.2.1, wd_at.ad ew250 hq251 (hG9 k9 hi9).2.2.2.1, (hG9 k9 hi9).2.2.2.2.1, wd_at.ad ew250 hq251 (hG9 k9 hi9).2.2.2.2.2.1, (hG9 k9 hi9).2.2.2.2.2.2.1, wd_at.ad ew250 hq251 (hG9 k9 hi9).2.2.2.2.2.2.2.1, (hG9 k9 hi9).2.2.2.2.2.2.2.2.1, wd_at.ad ew250 hq251 (hG9 k9 hi9).2.2.2.2.2.2.2.2.2.1, (hG9 k9 hi9).2.2.2.2.2.2.2.2.2.2.1, wd_at.ad ew250 hq251 (hG9 k9 hi9).2.2.2.2.2.2.2.2.2.2.2.1, (hG9 k9 hi9).2.2.2.2.2.2.2.2.2.2.2.2⟩
            have fn284 : ∀ k9, k9 < 13 → (aa k9) ≠ q248 ∧ (ga0 k9) ≠ q248 ∧ (ga1 k9) ≠ q248 ∧ (ga2 k9) ≠ q248 ∧ (ga3 k9) ≠ q248 ∧ (ga4 k9) ≠ q248 := fun k9 hi9 => ⟨wd_nL hq251 (hG9 k9 hi9).2.1, wd_nL hq251 (hG9 k9 hi9).2.2.2.1, wd_nL hq251 (hG9 k9 hi9).2.2.2.2.2.1, wd_nL hq251 (hG9 k9 hi9).2.2.2.2.2.2.2.1, wd_nL hq251 (hG9 k9 hi9).2.2.2.2.2.2.2.2.2.1, wd_nL hq251 (hG9 k9 hi9).2.2.2.2.2.2.2.2.2.2.2.1⟩
            have fm285 : ∀ k9, k9 < pc → pf k9 = some (pa k9) ∧ wd_at w249 (pa k9) (.inr (3, [.int (plv k9), .int (pwo k9), .int (phd k9), .int (pgd k9), .int (pdy k9), .int (pno k9), .int (ptp k9)])) ∧ tg (pa k9) = 3000 + k9 := fun k9 hi9 => ⟨(hP9 k9 hi9).1, wd_at.ad ew250 hq251 (hP9 k9 hi9).2.1, (hP9 k9 hi9).2.2⟩
            have fn286 : ∀ k9, k9 < pc → (pa k9) ≠ q248 := fun k9 hi9 => wd_nL hq251 (hP9 k9 hi9).2.1
            have fm287 : ∀ k9, k9 < ac → af k9 = some (ad k9) ∧ wd_at w249 (ad k9) (.inr (0, [.int (av0 k9), .int (av1 k9), .int (av2 k9), .int (av3 k9)])) ∧ tg (ad k9) = 4000 + k9 := fun k9 hi9 => ⟨(hA9 k9 hi9).1, wd_at.ad ew250 hq251 (hA9 k9 hi9).2.1, (hA9 k9 hi9).2.2⟩
            have fn288 : ∀ k9, k9 < ac → (ad k9) ≠ q248 := fun k9 hi9 => wd_nL hq251 (hA9 k9 hi9).2.1
            have fm289 : ∀ k9, k9 < sc → zf k9 = some (so k9) ∧ wd_at w249 (so k9) (.inr (6, [.int (sp0 k9), .int (sp1 k9), .ref (sr k9)])) ∧ tg (so k9) = 5000 + k9 ∧ wd_at w249 (sr k9) (.inl (cy 2, 12, .inl (sd k9))) ∧ tg (sr k9) = 6000 + k9 := fun k9 hi9 => ⟨(hS9 k9 hi9).1, wd_at.ad ew250 hq251 (hS9 k9 hi9).2.1, (hS9 k9 hi9).2.2.1, wd_at.ad ew250 hq251 (hS9 k9 hi9).2.2.2.1, (hS9 k9 hi9).2.2.2.2⟩
            have fn290 : ∀ k9, k9 < sc → (so k9) ≠ q248 ∧ (sr k9) ≠ q248 := fun k9 hi9 => ⟨wd_nL hq251 (hS9 k9 hi9).2.1, wd_nL hq251 (hS9 k9 hi9).2.2.2.1⟩
            have fm291 : ∀ k9, k9 < sh → (hf k9 = some (sw k9) ∧ hto k9 < 12) ∧ wd_at w249 (sw k9) (.inr (5, [.int (nI (hto k9)), .int (hpp k9), .int (hle k9), .int (ham k9), .int (hhh k9), .int (hdd k9), .int (hru k9), .int (hde k9), .int (hcp k9), .int (hld k9)])) ∧ tg (sw k9) = 7000 + k9 := fun k9 hi9 => ⟨(hH9 k9 hi9).1, wd_at.ad ew250 hq251 (hH9 k9 hi9).2.1, (hH9 k9 hi9).2.2⟩
            have fn292 : ∀ k9, k9 < sh → (sw k9) ≠ q248 := fun k9 hi9 => wd_nL hq251 (hH9 k9 hi9).2.1
            have kp293 := kp0.add ew250 hq251
            refine lv_dup hx hb dX10_stop_57 rfl ?_
            refine lv_iload_n hx hb dX10_stop_58 rfl (lv_at hl 2 rfl) ?_
            refine lv_iload_n hx hb dX10_stop_59 rfl (lv_at hl 3 rfl) ?_
            refine lv_aload_n hx hb dX10_stop_60 rfl (lv_at hl 1 rfl) ?_
            refine x_get (ref := "NoteHouse") F hP k252 rfl (fun _ h => List.mem_cons_of_mem _ (List.mem_append_left _ (List.mem_append_left _ (List.mem_append_left _ (List.mem_append_right _ (h)))))) 0 (Nat.le_of_ble_eq_true rfl) (List.mem_cons_of_mem _ (List.mem_append_left _ (List.mem_append_left _ (List.mem_append_left _ (List.mem_append_left _ (List.mem_append_left _ (List.mem_of_getElem? (i := 5) rfl))))))) rfl rfl dX10_stop_61 ?_
            refine lv_iload_n hx hb dX10_stop_64 rfl (lv_at hl 4 rfl) ?_
            refine x_callV (n := 1) (As := [.int (nI t)]) (rest := [.int x2, .int x1, .ref q248, .ref q248, .int (nI sc), .ref a4]) F hP hD hS (g_newsDays l D cy sk sv w249 a0 b0 b1 b2 b3 (nI t) f0 f1 f2 f3 k253 k254 k255 k256 k257 (fun b => b = b2 ∨ b = b3) (Or.inl rfl) (Or.inr rfl) (tg_ne tI4 tI5 (by omega))) gX10_stop_X9_newsDays rfl rfl (by decide +kernel) ⟨(Nat.le_of_ble_eq_true rfl), (Nat.le_of_ble_eq_true rfl)⟩ rfl hl.1 (Nat.le_of_ble_eq_true rfl) k253 rfl dX10_stop_65 rfl ⟨(Nat.le_of_ble_eq_true rfl), (Nat.le_of_ble_eq_true rfl)⟩ (fun v295 w296 hp294 H locs hP hD hS => ?_)
            obtain ⟨dx297, px298, rfl, kq301, k299, k300⟩ := hp294
            have k302 := kq301.2 _ _ k252 (fun q9 => Or.elim q9 (tg_ne tI0 tI4 (by omega)) (fun q9 : x = b3 => (tg_ne tI0 tI5 (by omega)) q9))
            have k303 := kq301.2 _ _ k253 (fun q9 => Or.elim q9 (tg_ne tI1 tI4 (by omega)) (fun q9 : a0 = b3 => (tg_ne tI1 tI5 (by omega)) q9))
            have k304 := kq301.2 _ _ k254 (fun q9 => Or.elim q9 (tg_ne tI2 tI4 (by omega)) (fun q9 : b0 = b3 => (tg_ne tI2 tI5 (by omega)) q9))
            have k305 := kq301.2 _ _ k255 (fun q9 => Or.elim q9 (tg_ne tI3 tI4 (by omega)) (fun q9 : b1 = b3 => (tg_ne tI3 tI5 (by omega)) q9))
            have k306 := kq301.2 _ _ k258 (fun q9 => Or.elim q9 (tg_ne tI6 tI4 (by omega)) (fun q9 : a1 = b3 => (tg_ne tI6 tI5 (by omega)) q9))
            have k307 := kq301.2 _ _ k259 (fun q9 => Or.elim q9 (tg_ne tI7 tI4 (by omega)) (fun q9 : a2 = b3 => (tg_ne tI7 tI5 (by omega)) q9))
            have k308 := kq301.2 _ _ k260 (fun q9 => Or.elim q9 (tg_ne tI8 tI4 (by omega)) (fun q9 : a3 = b3 => (tg_ne tI8 tI5 (by omega)) q9))
            have k309 := kq301.2 _ _ k261 (fun q9 => Or.elim q9 (tg_ne tI9 tI4 (by omega)) (fun q9 : a4 = b3 => (tg_ne tI9 tI5 (by omega)) q9))
            have k310 := kq301.2 _ _ k262 (fun q9 => Or.elim q9 (tg_ne tI10 tI4 (by omega)) (fun q9 : a5 = b3 => (tg_ne tI10 tI5 (by omega)) q9))
            have k311 := kq301.2 _ _ k263 (fun q9 => Or.elim q9 (tg_ne tI11 tI4 (by omega)) (fun q9 : a6 = b3 => (tg_ne tI11 tI5 (by omega)) q9))
            have k312 := kq301.2 _ _ k264 (fun q9 => Or.elim q9 (tg_ne tI12 tI4 (by omega)) (fun q9 : tb = b3 => (tg_ne tI12 tI5 (by omega)) q9))
            have k313 := kq301.2 _ _ k265 (fun q9 => Or.elim q9 (tg_ne tI13 tI4 (by omega)) (fun q9 : a7 = b3 => (tg_ne tI13 tI5 (by omega)) q9))
            have k314 := kq301.2 _ _ k266 (fun q9 => Or.elim q9 (tg_ne tI14 tI4 (by omega)) (fun q9 : l0 = b3 => (tg_ne tI14 tI5 (by omega)) q9))
            have k315 := kq301.2 _ _ k267 (fun q9 => Or.elim q9 (tg_ne tI15 tI4 (by omega)) (fun q9 : l1 = b3 => (tg_ne tI15 tI5 (by omega)) q9))
            have k316 := kq301.2 _ _ k268 (fun q9 => Or.elim q9 (tg_ne tI16 tI4 (by omega)) (fun q9 : l2 = b3 => (tg_ne tI16 tI5 (by omega)) q9))
            have k317 := kq301.2 _ _ k269 (fun q9 => Or.elim q9 (tg_ne tI17 tI4 (by omega)) (fun q9 : l3 = b3 => (tg_ne tI17 tI5 (by omega)) q9))
            have k318 := kq301.2 _ _ k270 (fun q9 => Or.elim q9 (tg_ne tI18 tI4 (by omega)) (fun q9 : l4 = b3 => (tg_ne tI18 tI5 (by omega)) q9))
            have k319 := kq301.2 _ _ k271 (fun q9 => Or.elim q9 (tg_ne tI19 tI4 (by omega)) (fun q9 : l5 = b3 => (tg_ne tI19 tI5 (by omega)) q9))
            have k320 := kq301.2 _ _ k272 (fun q9 => Or.elim q9 (tg_ne tI20 tI4 (by omega)) (fun q9 : l6 = b3 => (tg_ne tI20 tI5 (by omega)) q9))
            have k321 := kq301.2 _ _ k273 (fun q9 => Or.elim q9 (tg_ne tI21 tI4 (by omega)) (fun q9 : l7 = b3 => (tg_ne tI21 tI5 (by omega)) q9))
            have k322 := kq301.2 _ _ k274 (fun q9 => Or.elim q9 (tg_ne tI22 tI4 (by omega)) (fun q9 : a8 = b3 => (tg_ne tI22 tI5 (by omega)) q9))
            have k323 := kq301.2 _ _ k275 (fun q9 => Or.elim q9 (tg_ne tI23 tI4 (by omega)) (fun q9 : a10 = b3 => (tg_ne tI23 tI5 (by omega)) q9))
            have k324 := kq301.2 _ _ k276 (fun q9 => Or.elim q9 (tg_ne tI24 tI4 (by omega)) (fun q9 : bl = b3 => (tg_ne tI24 tI5 (by omega)) q9))
            have k325 := kq301.2 _ _ k277 (fun q9 => Or.elim q9 (tg_ne tI25 tI4 (by omega)) (fun q9 : a11 = b3 => (tg_ne tI25 tI5 (by omega)) q9))
            have k326 := kq301.2 _ _ k278 (fun q9 => Or.elim q9 (tg_ne tI26 tI4 (by omega)) (fun q9 : bm = b3 => (tg_ne tI26 tI5 (by omega)) q9))
            have k327 := kq301.2 _ _ k279 (fun q9 => Or.elim q9 (tg_ne tz11 tI4 (by omega)) (fun q9 : (pa j4) = b3 => (tg_ne tz11 tI5 (by omega)) q9))
            have k328 := kq301.2 _ _ k280 (fun q9 => Or.elim q9 (Ne.symm (wd_nL hq251 kI4)) (fun q9 : q248 = b3 => (Ne.symm (wd_nL hq251 kI5)) q9))
            have fm329 : ∀ i9, i9 < 12 → tf i9 = some (tn i9) ∧ wd_at w296 (tn i9) (.inr (8, [.int (co i9), .int (ra i9), .int (se i9), .ref (ag i9)])) ∧ tg (tn i9) = 100 + i9 := fun i9 hi9 => ⟨(fm281 i9 hi9).1, kq301.2 _ _ (fm281 i9 hi9).2.1 (fun q9 => Or.elim q9 (tg_ne (fm281 i9 hi9).2.2 tI4 (by omega)) (tg_ne (fm281 i9 hi9).2.2 tI5 (by omega))), (fm281 i9 hi9).2.2⟩
            have fm330 : ∀ k9, k9 < 13 → (aOK (cf k9) (nf k9) ∧ ru k9 ≤ 12) ∧ wd_at w296 (aa k9) (.inr (1, [.ref (ga0 k9), .ref (ga1 k9), .ref (ga2 k9), .ref (ga3 k9), .ref (ga4 k9), .int (nI (ru k9))])) ∧ tg (aa k9) = 200 + k9 ∧ wd_at w296 (ga0 k9) (.inl (cy 2, 12, .inl (df k9))) ∧ tg (ga0 k9) = 220 + k9 ∧ wd_at w296 (ga1 k9) (.inl (cy 2, 12, .inl (cf k9))) ∧ tg (ga1 k9) = 240 + k9 ∧ wd_at w296 (ga2 k9) (.inl (cy 2, 72, .inl (nf k9))) ∧ tg (ga2 k9) = 260 + k9 ∧ wd_at w296 (ga3 k9) (.inl (cy 1, 72, .inl (sf k9))) ∧ tg (ga3 k9) = 280 + k9 ∧ wd_at w296 (ga4 k9) (.inl (cy 2, 72, .inl (uf k9))) ∧ tg (ga4 k9) = 300 + k9 := fun k9 hi9 => ⟨(fm283 k9 hi9).1, kq301.2 _ _ (fm283 k9 hi9).2.1 (fun q9 => Or.elim q9 (tg_ne (fm283 k9 hi9).2.2.1 tI4 (by omega)) (tg_ne (fm283 k9 hi9).2.2.1 tI5 (by omega))), (fm283 k9 hi9).2.2.1, kq301.2 _ _ (fm283 k9 hi9).2.2.2.1 (fun q9 => Or.elim q9 (tg_ne (fm283 k9 hi9).2.2.2.2.1 tI4 (by omega)) (tg_ne (fm283 k9 hi9).2.2.2.2.1 tI5 (by omega))), (fm283 k9 hi9).2.2.2.2.1, kq301.2 _ _ (fm283 k9 hi9).2.2.2.2.2.1 (fun q9 => Or.elim q9 (tg_ne (fm283 k9 hi9).2.2.2.2.2.2.1 tI4 (by omega)) (tg_ne (fm283 k9 hi9).2.2.2.2.2.2.1 tI5 (by omega))), (fm283 k9 hi9).2.2.2.2.2.2.1, kq301.2 _ _ (fm283 k9 hi9).2.2.2.2.2.2.2.1 (fun q9 => Or.elim q9 (tg_ne (fm283 k9 hi9).2.2.2.2.2.2.2.2.1 tI4 (by omega)) (tg_ne (fm283 k9 hi9).2.2.2.2.2.2.2.2.1 tI5 (by omega))), (fm283 k9 hi9).2.2.2.2.2.2.2.2.1, kq301.2 _ _ (fm283 k9 hi9).2.2.2.2.2.2.2.2.2.1 (fun q9 => Or.elim q9 (tg_ne (fm283 k9 hi9).2.2.2.2.2.2.2.2.2.2.1 tI4 (by omega)) (tg_ne (fm283 k9 hi9).2.2.2.2.2.2.2.2.2.2.1 tI5 (by omega))), (fm283 k9 hi9).2.2.2.2.2.2.2.2.2.2.1, kq301.2 _ _ (fm283 k9 hi9).2.2.2.2.2.2.2.2.2.2.2.1 (fun q9 => Or.elim q9 (tg_ne (fm283 k9 hi9).2.2.2.2.2.2.2.2.2.2.2.2 tI4 (by omega)) (tg_ne (fm283 k9 hi9).2.2.2.2.2.2.2.2.2.2.2.2 tI5 (by omega))), (fm283 k9 hi9).2.2.2.2.2.2.2.2.2.2.2.2⟩
            have fm331 : ∀ k9, k9 < pc → pf k9 = some (pa k9) ∧ wd_at w296 (pa k9) (.inr (3, [.int (plv k9), .int (pwo k9), .int (phd k9), .int (pgd k9), .int (pdy k9), .int (pno k9), .int (ptp k9)])) ∧ tg (pa k9) = 3000 + k9 := fun k9 hi9 => ⟨(fm285 k9 hi9).1, kq301.2 _ _ (fm285 k9 hi9).2.1 (fun q9 => Or.elim q9 (tg_ne (fm285 k9 hi9).2.2 tI4 (by omega)) (tg_ne (fm285 k9 hi9).2.2 tI5 (by omega))), (fm285 k9 hi9).2.2⟩
            have fm332 : ∀ k9, k9 < ac → af k9 = some (ad k9) ∧ wd_at w296 (ad k9) (.inr (0, [.int (av0 k9), .int (av1 k9), .int (av2 k9), .int (av3 k9)])) ∧ tg (ad k9) = 4000 + k9 := fun k9 hi9 => ⟨(fm287 k9 hi9).1, kq301.2 _ _ (fm287 k9 hi9).2.1 (fun q9 => Or.elim q9 (tg_ne (fm287 k9 hi9).2.2 tI4 (by omega)) (tg_ne (fm287 k9 hi9).2.2 tI5 (by omega))), (fm287 k9 hi9).2.2⟩
            have fm333 : ∀ k9, k9 < sc → zf k9 = some (so k9) ∧ wd_at w296 (so k9) (.inr (6, [.int (sp0 k9), .int (sp1 k9), .ref (sr k9)])) ∧ tg (so k9) = 5000 + k9 ∧ wd_at w296 (sr k9) (.inl (cy 2, 12, .inl (sd k9))) ∧ tg (sr k9) = 6000 + k9 := fun k9 hi9 => ⟨(fm289 k9 hi9).1, kq301.2 _ _ (fm289 k9 hi9).2.1 (fun q9 => Or.elim q9 (tg_ne (fm289 k9 hi9).2.2.1 tI4 (by omega)) (tg_ne (fm289 k9 hi9).2.2.1 tI5 (by omega))), (fm289 k9 hi9).2.2.1, kq301.2 _ _ (fm289 k9 hi9).2.2.2.1 (fun q9 => Or.elim q9 (tg_ne (fm289 k9 hi9).2.2.2.2 tI4 (by omega)) (tg_ne (fm289 k9 hi9).2.2.2.2 tI5 (by omega))), (fm289 k9 hi9).2.2.2.2⟩
            have fm334 : ∀ k9, k9 < sh → (hf k9 = some (sw k9) ∧ hto k9 < 12) ∧ wd_at w296 (sw k9) (.inr (5, [.int (nI (hto k9)), .int (hpp k9), .int (hle k9), .int (ham k9), .int (hhh k9), .int (hdd k9), .int (hru k9), .int (hde k9), .int (hcp k9), .int (hld k9)])) ∧ tg (sw k9) = 7000 + k9 := fun k9 hi9 => ⟨(fm291 k9 hi9).1, kq301.2 _ _ (fm291 k9 hi9).2.1 (fun q9 => Or.elim q9 (tg_ne (fm291 k9 hi9).2.2 tI4 (by omega)) (tg_ne (fm291 k9 hi9).2.2 tI5 (by omega))), (fm291 k9 hi9).2.2⟩
            have kp335 := kp293.tr kq301 (fun b9 hm q9 => (fun q9 => Or.elim q9 (fun q9 => q9 ▸ (tgS tI4 (by omega))) (fun q9 => q9 ▸ (tgS tI5 (by omega)))) q9)
            refine W.eq (g2 := F0 m 68 ls [.ref b2, .int x2, .int x1, .ref q248, .ref q248, .int (nI sc), .ref a4]) rfl (W.widen (k := 1) (n := 3) (Nat.le_of_ble_eq_true rfl) (Nat.le_of_ble_eq_true rfl) ?_)
            refine lv_aload_n hx hb dX10_stop_68 rfl (lv_at hl 1 rfl) ?_
            refine x_get (ref := "NoteHouse") F hP k302 rfl (fun _ h => List.mem_cons_of_mem _ (List.mem_append_left _ (List.mem_append_left _ (List.mem_append_left _ (List.mem_append_right _ (h)))))) 12 (Nat.le_of_ble_eq_true rfl) (List.mem_cons_of_mem _ (List.mem_append_left _ (List.mem_append_left _ (List.mem_append_left _ (List.mem_append_left _ (List.mem_append_left _ (List.mem_of_getElem? (i := 6) rfl))))))) rfl rfl dX10_stop_69 ?_
            refine x_callI (ret := none) (n := 4) (As := [.int x1, .int x2, .ref b2, .int td]) (rest := [.ref q248, .int (nI sc), .ref a4]) F hP hD hS (g_stop_init l D cy sk sv w296 q248 b2 x1 x2 td dx297 k328 k299 (fun b => b = q248) rfl) gX10_stop_X6_init rfl (List.mem_cons_of_mem _ (List.mem_append_left _ (List.mem_append_left _ (List.mem_append_left _ (List.mem_append_left _ (List.mem_append_left _ (List.mem_of_getElem? (i := 4) rfl))))))) (List.mem_cons_of_mem _ (List.mem_append_left _ (List.mem_append_left _ (List.mem_append_left _ (List.mem_append_left _ (List.mem_append_right _ (List.mem_append_right _ (List.mem_of_getElem? (i := 4) rfl)))))))) (List.mem_cons_of_mem _ (List.mem_append_left _ (List.mem_append_left _ (List.mem_append_left _ (List.mem_append_left _ (List.mem_append_right _ (List.mem_append_right _ (List.mem_of_getElem? (i := 5) rfl)))))))) rfl (by decide +kernel) ⟨(Nat.le_of_ble_eq_true rfl), (Nat.le_of_ble_eq_true rfl)⟩ rfl hl.1 (Nat.le_of_ble_eq_true rfl) dX10_stop_72 rfl ⟨(Nat.le_of_ble_eq_true rfl), (Nat.le_of_ble_eq_true rfl)⟩ (fun v337 w338 hp336 H locs hP hD hS => ?_)
            obtain ⟨arx339, sdx340, rfl, kq342, k341, hq343, k344⟩ := hp336
            have fn345 : ∀ i9, i9 < 12 → (tn i9) ≠ arx339 := fun i9 hi9 => wd_nL hq343 (fm329 i9 hi9).2.1
            have fn346 : ∀ k9, k9 < 13 → (aa k9) ≠ arx339 ∧ (ga0 k9) ≠ arx339 ∧ (ga1 k9) ≠ arx339 ∧ (ga2 k9) ≠ arx339 ∧ (ga3 k9) ≠ arx339 ∧ (ga4 k9) ≠ arx339 := fun k9 hi9 => ⟨wd_nL hq343 (fm330 k9 hi9).2.1, wd_nL hq343 (fm330 k9 hi9).2.2.2.1, wd_nL hq343 (fm330 k9 hi9).2.2.2.2.2.1, wd_nL hq343 (fm330 k9 hi9).2.2.2.2.2.2.2.1, wd_nL hq343 (fm330 k9 hi9).2.2.2.2.2.2.2.2.2.1, wd_nL hq343 (fm330 k9 hi9).2.2.2.2.2.2.2.2.2.2.2.1⟩
            have fn347 : ∀ k9, k9 < pc → (pa k9) ≠ arx339 := fun k9 hi9 => wd_nL hq343 (fm331 k9 hi9).2.1
            have fn348 : ∀ k9, k9 < ac → (ad k9) ≠ arx339 := fun k9 hi9 => wd_nL hq343 (fm332 k9 hi9).2.1
            have fn349 : ∀ k9, k9 < sc → (so k9) ≠ arx339 ∧ (sr k9) ≠ arx339 := fun k9 hi9 => ⟨wd_nL hq343 (fm333 k9 hi9).2.1, wd_nL hq343 (fm333 k9 hi9).2.2.2.1⟩
            have fn350 : ∀ k9, k9 < sh → (sw k9) ≠ arx339 := fun k9 hi9 => wd_nL hq343 (fm334 k9 hi9).2.1
            have k351 := kq342.2 _ _ k302 (fun q9 : x = q248 => (wd_nL hq251 kI0) q9)
            have k352 := kq342.2 _ _ k303 (fun q9 : a0 = q248 => (wd_nL hq251 kI1) q9)
            have k353 := kq342.2 _ _ k304 (fun q9 : b0 = q248 => (wd_nL hq251 kI2) q9)
            have k354 := kq342.2 _ _ k305 (fun q9 : b1 = q248 => (wd_nL hq251 kI3) q9)
            have k355 := kq342.2 _ _ k299 (fun q9 : b2 = q248 => (wd_nL hq251 kI4) q9)
            have k356 := kq342.2 _ _ k300 (fun q9 : b3 = q248 => (wd_nL hq251 kI5) q9)
            have k357 := kq342.2 _ _ k306 (fun q9 : a1 = q248 => (wd_nL hq251 kI6) q9)
            have k358 := kq342.2 _ _ k307 (fun q9 : a2 = q248 => (wd_nL hq251 kI7) q9)
            have k359 := kq342.2 _ _ k308 (fun q9 : a3 = q248 => (wd_nL hq251 kI8) q9)
            have k360 := kq342.2 _ _ k309 (fun q9 : a4 = q248 => (wd_nL hq251 kI9) q9)
            have k361 := kq342.2 _ _ k310 (fun q9 : a5 = q248 => (wd_nL hq251 kI10) q9)
            have k362 := kq342.2 _ _ k311 (fun q9 : a6 = q248 => (wd_nL hq251 kI11) q9)
            have k363 := kq342.2 _ _ k312 (fun q9 : tb = q248 => (wd_nL hq251 kI12) q9)
            have k364 := kq342.2 _ _ k313 (fun q9 : a7 = q248 => (wd_nL hq251 kI13) q9)
            have k365 := kq342.2 _ _ k314 (fun q9 : l0 = q248 => (wd_nL hq251 kI14) q9)
            have k366 := kq342.2 _ _ k315 (fun q9 : l1 = q248 => (wd_nL hq251 kI15) q9)
            have k367 := kq342.2 _ _ k316 (fun q9 : l2 = q248 => (wd_nL hq251 kI16) q9)
            have k368 := kq342.2 _ _ k317 (fun q9 : l3 = q248 => (wd_nL hq251 kI17) q9)
            have k369 := kq342.2 _ _ k318 (fun q9 : l4 = q248 => (wd_nL hq251 kI18) q9)
            have k370 := kq342.2 _ _ k319 (fun q9 : l5 = q248 => (wd_nL hq251 kI19) q9)
            have k371 := kq342.2 _ _ k320 (fun q9 : l6 = q248 => (wd_nL hq251 kI20) q9)
            have k372 := kq342.2 _ _ k321 (fun q9 : l7 = q248 => (wd_nL hq251 kI21) q9)
            have k373 := kq342.2 _ _ k322 (fun q9 : a8 = q248 => (wd_nL hq251 kI22) q9)
            have k374 := kq342.2 _ _ k323 (fun q9 : a10 = q248 => (wd_nL hq251 kI23) q9)
            have k375 := kq342.2 _ _ k324 (fun q9 : bl = q248 => (wd_nL hq251 kI24) q9)
            have k376 := kq342.2 _ _ k325 (fun q9 : a11 = q248 => (wd_nL hq251 kI25) q9)
            have k377 := kq342.2 _ _ k326 (fun q9 : bm = q248 => (wd_nL hq251 kI26) q9)
            have k378 := kq342.2 _ _ k327 (fun q9 : (pa j4) = q248 => (wd_nL hq251 k10) q9)
            have fm379 : ∀ i9, i9 < 12 → tf i9 = some (tn i9) ∧ wd_at w338 (tn i9) (.inr (8, [.int (co i9), .int (ra i9), .int (se i9), .ref (ag i9)])) ∧ tg (tn i9) = 100 + i9 := fun i9 hi9 => ⟨(fm329 i9 hi9).1, kq342.2 _ _ (fm329 i9 hi9).2.1 (fn282 i9 hi9), (fm329 i9 hi9).2.2⟩
            have fm380 : ∀ k9, k9 < 13 → (aOK (cf k9) (nf k9) ∧ ru k9 ≤ 12) ∧ wd_at w338 (aa k9) (.inr (1, [.ref (ga0 k9), .ref (ga1 k9), .ref (ga2 k9), .ref (ga3 k9), .ref (ga4 k9), .int (nI (ru k9))])) ∧ tg (aa k9) = 200 + k9 ∧ wd_at w338 (ga0 k9) (.inl (cy 2, 12, .inl (df k9))) ∧ tg (ga0 k9) = 220 + k9 ∧ wd_at w338 (ga1 k9) (.inl (cy 2, 12, .inl (cf k9))) ∧ tg (ga1 k9) = 240 + k9 ∧ wd_at w338 (ga2 k9) (.inl (cy 2, 72, .inl (nf k9))) ∧ tg (ga2 k9) = 260 + k9 ∧ wd_at w338 (ga3 k9) (.inl (cy 1, 72, .inl (sf k9))) ∧ tg (ga3 k9) = 280 + k9 ∧ wd_at w338 (ga4 k9) (.inl (cy 2, 72, .inl (uf k9))) ∧ tg (ga4 k9) = 300 + k9 := fun k9 hi9 => ⟨(fm330 k9 hi9).1, kq342.2 _ _ (fm330 k9 hi9).2.1 ((fn284 k9 hi9).1), (fm330 k9 hi9).2.2.1, kq342.2 _ _ (fm330 k9 hi9).2.2.2.1 ((fn284 k9 hi9).2.1), (fm330 k9 hi9).2.2.2.2.1, kq342.2 _ _ (fm330 k9 hi9).2.2.2.2.2.1 ((fn284 k9 hi9).2.2.1), (fm330 k9 hi9).2.2.2.2.2.2.1, kq342.2 _ _ (fm330 k9 hi9).2.2.2.2.2.2.2.1 ((fn284 k9 hi9).2.2.2.1), (fm330 k9 hi9).2.2.2.2.2.2.2.2.1, kq342.2 _ _ (fm330 k9 hi9).2.2.2.2.2.2.2.2.2.1 ((fn284 k9 hi9).2.2.2.2.1), (fm330 k9 hi9).2.2.2.2.2.2.2.2.2.2.1, kq342.2 _ _ (fm330 k9 hi9).2.2.2.2.2.2.2.2.2.2.2.1 ((fn284 k9 hi9).2.2.2.2.2), (fm330 k9 hi9).2.2.2.2.2.2.2.2.2.2.2.2⟩
            have fm381 : ∀ k9, k9 < pc → pf k9 = some (pa k9) ∧ wd_at w338 (pa k9) (.inr (3, [.int (plv k9), .int (pwo k9), .int (phd k9), .int (pgd k9), .int (pdy k9), .int (pno k9), .int (ptp k9)])) ∧ tg (pa k9) = 3000 + k9 := fun k9 hi9 => ⟨(fm331 k9 hi9).1, kq342.2 _ _ (fm331 k9 hi9).2.1 (fn286 k9 hi9), (fm331 k9 hi9).2.2⟩
            have fm382 : ∀ k9, k9 < ac → af k9 = some (ad k9) ∧ wd_at w338 (ad k9) (.inr (0, [.int (av0 k9), .int (av1 k9), .int (av2 k9), .int (av3 k9)])) ∧ tg (ad k9) = 4000 + k9 := fun k9 hi9 => ⟨(fm332 k9 hi9).1, kq342.2 _ _ (fm332 k9 hi9).2.1 (fn288 k9 hi9), (fm332 k9 hi9).2.2⟩
            have fm383 : ∀ k9, k9 < sc → zf k9 = some (so k9) ∧ wd_at w338 (so k9) (.inr (6, [.int (sp0 k9), .int (sp1 k9), .ref (sr k9)])) ∧ tg (so k9) = 5000 + k9 ∧ wd_at w338 (sr k9) (.inl (cy 2, 12, .inl (sd k9))) ∧ tg (sr k9) = 6000 + k9 := fun k9 hi9 => ⟨(fm333 k9 hi9).1, kq342.2 _ _ (fm333 k9 hi9).2.1 ((fn290 k9 hi9).1), (fm333 k9 hi9).2.2.1, kq342.2 _ _ (fm333 k9 hi9).2.2.2.1 ((fn290 k9 hi9).2), (fm333 k9 hi9).2.2.2.2⟩
            have fm384 : ∀ k9, k9 < sh → (hf k9 = some (sw k9) ∧ hto k9 < 12) ∧ wd_at w338 (sw k9) (.inr (5, [.int (nI (hto k9)), .int (hpp k9), .int (hle k9), .int (ham k9), .int (hhh k9), .int (hdd k9), .int (hru k9), .int (hde k9), .int (hcp k9), .int (hld k9)])) ∧ tg (sw k9) = 7000 + k9 := fun k9 hi9 => ⟨(fm334 k9 hi9).1, kq342.2 _ _ (fm334 k9 hi9).2.1 (fn292 k9 hi9), (fm334 k9 hi9).2.2⟩
            have kp385 := kp335.tr kq342 (fun b9 hm q9 => (fun q9 => absurd (q9 ▸ hm) (kp0.out hq251)) q9)
            refine W.eq (g2 := F0 m 75 ls [.ref q248, .int (nI sc), .ref a4]) rfl (W.widen (k := 2) (n := 15) (Nat.le_of_ble_eq_true rfl) (Nat.le_of_ble_eq_true rfl) ?_)
            refine y_aast F hP hD hS k360 rfl k341 rfl (vp_in_nI (n := sc) (N := 60) (by omega) (by decide)) dX10_stop_75 (fun w386 ew387 H locs hP hD hS => ?_)
            have k388 := wd_at.pt ew387 k351 (tg_ne tI0 tI9 (by omega))
            have k389 := wd_at.pt ew387 k352 (tg_ne tI1 tI9 (by omega))
            have k390 := wd_at.pt ew387 k353 (tg_ne tI2 tI9 (by omega))
            have k391 := wd_at.pt ew387 k354 (tg_ne tI3 tI9 (by omega))
            have k392 := wd_at.pt ew387 k355 (tg_ne tI4 tI9 (by omega))
            have k393 := wd_at.pt ew387 k356 (tg_ne tI5 tI9 (by omega))
            have k394 := wd_at.pt ew387 k357 (tg_ne tI6 tI9 (by omega))
            have k395 := wd_at.pt ew387 k358 (tg_ne tI7 tI9 (by omega))
            have k396 := wd_at.pt ew387 k359 (tg_ne tI8 tI9 (by omega))
            have k397 : wd_at w386 a4 (.inl (cy 8, 60, .inr (.inr (.inr (.inr (va_up zf (nI sc).toNatClampNeg (some q248))))))) := wd_at.ps ew387 k360
            have k398 := wd_at.pt ew387 k361 (tg_ne tI10 tI9 (by omega))
            have k399 := wd_at.pt ew387 k362 (tg_ne tI11 tI9 (by omega))
            have k400 := wd_at.pt ew387 k363 (tg_ne tI12 tI9 (by omega))
            have k401 := wd_at.pt ew387 k364 (tg_ne tI13 tI9 (by omega))
            have k402 := wd_at.pt ew387 k365 (tg_ne tI14 tI9 (by omega))
            have k403 := wd_at.pt ew387 k366 (tg_ne tI15 tI9 (by omega))
            have k404 := wd_at.pt ew387 k367 (tg_ne tI16 tI9 (by omega))
            have k405 := wd_at.pt ew387 k368 (tg_ne tI17 tI9 (by omega))
            have k406 := wd_at.pt ew387 k369 (tg_ne tI18 tI9 (by omega))
            have k407 := wd_at.pt ew387 k370 (tg_ne tI19 tI9 (by omega))
            have k408 := wd_at.pt ew387 k371 (tg_ne tI20 tI9 (by omega))
            have k409 := wd_at.pt ew387 k372 (tg_ne tI21 tI9 (by omega))
            have k410 := wd_at.pt ew387 k373 (tg_ne tI22 tI9 (by omega))
            have k411 := wd_at.pt ew387 k374 (tg_ne tI23 tI9 (by omega))
            have k412 := wd_at.pt ew387 k375 (tg_ne tI24 tI9 (by omega))
            have k413 := wd_at.pt ew387 k376 (tg_ne tI25 tI9 (by omega))
            have k414 := wd_at.pt ew387 k377 (tg_ne tI26 tI9 (by omega))
            have k415 := wd_at.pt ew387 k378 (tg_ne tz11 tI9 (by omega))
            have k416 := wd_at.pt ew387 k341 (Ne.symm (wd_nL hq251 kI9))
            have k417 := wd_at.pt ew387 k344 (Ne.symm (wd_nL hq343 k309))
            have fm418 : ∀ i9, i9 < 12 → tf i9 = some (tn i9) ∧ wd_at w386 (tn i9) (.inr (8, [.int (co i9), .int (ra i9), .int (se i9), .ref (ag i9)])) ∧ tg (tn i9) = 100 + i9 := fun i9 hi9 => ⟨(fm379 i9 hi9).1, wd_at.pt ew387 (fm379 i9 hi9).2.1 (tg_ne (fm379 i9 hi9).2.2 tI9 (by omega)), (fm379 i9 hi9).2.2⟩
            have fm419 : ∀ k9, k9 < 13 → (aOK (cf k9) (nf k9) ∧ ru k9 ≤ 12) ∧ wd_at w386 (aa k9) (.inr (1, [.ref (ga0 k9), .ref (ga1 k9), .ref (ga2 k9), .ref (ga3 k9), .ref (ga4 k9), .int (nI (ru k9))])) ∧ tg (aa k9) = 200 + k9 ∧ wd_at w386 (ga0 k9) (.inl (cy 2, 12, .inl (df k9))) ∧ tg (ga0 k9) = 220 + k9 ∧ wd_at w386 (ga1 k9) (.inl (cy 2, 12, .inl (cf k9))) ∧ tg (ga1 k9) = 240 + k9 ∧ wd_at w386 (ga2 k9) (.inl (cy 2, 72, .inl (nf k9))) ∧ tg (ga2 k9) = 260 + k9 ∧ wd_at w386 (ga3 k9) (.inl (cy 1, 72, .inl (sf k9))) ∧ tg (ga3 k9) = 280 + k9 ∧ wd_at w386 (ga4 k9) (.inl (cy 2, 72, .inl (uf k9))) ∧ tg (ga4 k9) = 300 + k9 := fun k9 hi9 => ⟨(fm380 k9 hi9).1, wd_at.pt ew387 (fm380 k9 hi9).2.1 (tg_ne (fm380 k9 hi9).2.2.1 tI9 (by omega)), (fm380 k9 hi9).2.2.1, wd_at.pt ew387 (fm380 k9 hi9).2.2.2.1 (tg_ne (fm380 k9 hi9).2.2.2.2.1 tI9 (by omega)), (fm380 k9 hi9).2.2.2.2.1, wd_at.pt ew387 (fm380 k9 hi9).2.2.2.2.2.1 (tg_ne (fm380 k9 hi9).2.2.2.2.2.2.1 tI9 (by omega)), (fm380 k9 hi9).2.2.2.2.2.2.1, wd_at.pt ew387 (fm380 k9 hi9).2.2.2.2.2.2.2.1 (tg_ne (fm380 k9 hi9).2.2.2.2.2.2.2.2.1 tI9 (by omega)), (fm380 k9 hi9).2.2.2.2.2.2.2.2.1, wd_at.pt ew387 (fm380 k9 hi9).2.2.2.2.2.2.2.2.2.1 (tg_ne (fm380 k9 hi9).2.2.2.2.2.2.2.2.2.2.1 tI9 (by omega)), (fm380 k9 hi9).2.2.2.2.2.2.2.2.2.2.1, wd_at.pt ew387 (fm380 k9 hi9).2.2.2.2.2.2.2.2.2.2.2.1 (tg_ne (fm380 k9 hi9).2.2.2.2.2.2.2.2.2.2.2.2 tI9 (by omega)), (fm380 k9 hi9).2.2.2.2.2.2.2.2.2.2.2.2⟩
            have fm420 : ∀ k9, k9 < pc → pf k9 = some (pa k9) ∧ wd_at w386 (pa k9) (.inr (3, [.int (plv k9), .int (pwo k9), .int (phd k9), .int (pgd k9), .int (pdy k9), .int (pno k9), .int (ptp k9)])) ∧ tg (pa k9) = 3000 + k9 := fun k9 hi9 => ⟨(fm381 k9 hi9).1, wd_at.pt ew387 (fm381 k9 hi9).2.1 (tg_ne (fm381 k9 hi9).2.2 tI9 (by omega)), (fm381 k9 hi9).2.2⟩
            have fm421 : ∀ k9, k9 < ac → af k9 = some (ad k9) ∧ wd_at w386 (ad k9) (.inr (0, [.int (av0 k9), .int (av1 k9), .int (av2 k9), .int (av3 k9)])) ∧ tg (ad k9) = 4000 + k9 := fun k9 hi9 => ⟨(fm382 k9 hi9).1, wd_at.pt ew387 (fm382 k9 hi9).2.1 (tg_ne (fm382 k9 hi9).2.2 tI9 (by omega)), (fm382 k9 hi9).2.2⟩
            have fm422 : ∀ k9, k9 < sc → zf k9 = some (so k9) ∧ wd_at w386 (so k9) (.inr (6, [.int (sp0 k9), .int (sp1 k9), .ref (sr k9)])) ∧ tg (so k9) = 5000 + k9 ∧ wd_at w386 (sr k9) (.inl (cy 2, 12, .inl (sd k9))) ∧ tg (sr k9) = 6000 + k9 := fun k9 hi9 => ⟨(fm383 k9 hi9).1, wd_at.pt ew387 (fm383 k9 hi9).2.1 (tg_ne (fm383 k9 hi9).2.2.1 tI9 (by omega)), (fm383 k9 hi9).2.2.1, wd_at.pt ew387 (fm383 k9 hi9).2.2.2.1 (tg_ne (fm383 k9 hi9).2.2.2.2 tI9 (by omega)), (fm383 k9 hi9).2.2.2.2⟩
            have fm423 : ∀ k9, k9 < sh → (hf k9 = some (sw k9) ∧ hto k9 < 12) ∧ wd_at w386 (sw k9) (.inr (5, [.int (nI (hto k9)), .int (hpp k9), .int (hle k9), .int (ham k9), .int (hhh k9), .int (hdd k9), .int (hru k9), .int (hde k9), .int (hcp k9), .int (hld k9)])) ∧ tg (sw k9) = 7000 + k9 := fun k9 hi9 => ⟨(fm384 k9 hi9).1, wd_at.pt ew387 (fm384 k9 hi9).2.1 (tg_ne (fm384 k9 hi9).2.2 tI9 (by omega)), (fm384 k9 hi9).2.2⟩
            have kp424 := kp385.put ew387 (tgS tI9 (by omega))
            refine lv_aload_n hx hb dX10_stop_76 rfl (lv_at hl 1 rfl) ?_
            refine lv_dup hx hb dX10_stop_77 rfl ?_
            refine x_get (ref := "NoteHouse") F hP k388 rfl (fun _ h => List.mem_cons_of_mem _ (List.mem_append_left _ (List.mem_append_left _ (List.mem_append_left _ (List.mem_append_right _ (h)))))) 15 (Nat.le_of_ble_eq_true rfl) (List.mem_cons_of_mem _ (List.mem_append_left _ (List.mem_append_left _ (List.mem_append_left _ (List.mem_append_left _ (List.mem_append_left _ (List.mem_of_getElem? (i := 0) rfl))))))) rfl rfl dX10_stop_78 ?_
            refine lv_iconst (v := 1) hx hb dX10_stop_81 (by decide) ?_
            refine lv_iadd hx hb dX10_stop_82 ?_
            rw [show ((nI sc) + 1 : Int32) = nI (sc + 1) from nI_add sc 1]
            refine y_put (ref := "NoteHouse") F hP hD hS k388 rfl (fun _ h => List.mem_cons_of_mem _ (List.mem_append_left _ (List.mem_append_left _ (List.mem_append_left _ (List.mem_append_right _ (h)))))) tyX10_ok nmX10 15 (Nat.le_of_ble_eq_true rfl) (List.mem_cons_of_mem _ (List.mem_append_left _ (List.mem_append_left _ (List.mem_append_left _ (List.mem_append_left _ (List.mem_append_left _ (List.mem_of_getElem? (i := 0) rfl))))))) rfl rfl rfl rfl (Nat.le_of_ble_eq_true rfl) dX10_stop_83 (fun w425 ew426 H locs hP hD hS => ?_)
            have k427 : wd_at w425 x (.inr (10, [.ref a0, .ref a1, .ref a2, .ref a3, .ref a4, .ref a5, .ref a6, .ref a7, .ref a8, .ref (aa sg), .ref a10, .ref a11, .int td, .int (nI pc), .int (nI ac), .int (nI (sc + 1)), .int (nI sh)])) := wd_at.ps ew426 k388
            have k428 := wd_at.pt ew426 k389 (tg_ne tI1 tI0 (by omega))
            have k429 := wd_at.pt ew426 k390 (tg_ne tI2 tI0 (by omega))
            have k430 := wd_at.pt ew426 k391 (tg_ne tI3 tI0 (by omega))
            have k431 := wd_at.pt ew426 k392 (tg_ne tI4 tI0 (by omega))
            have k432 := wd_at.pt ew426 k393 (tg_ne tI5 tI0 (by omega))
            have k433 := wd_at.pt ew426 k394 (tg_ne tI6 tI0 (by omega))
            have k434 := wd_at.pt ew426 k395 (tg_ne tI7 tI0 (by omega))
            have k435 := wd_at.pt ew426 k396 (tg_ne tI8 tI0 (by omega))
            have k436 := wd_at.pt ew426 k397 (tg_ne tI9 tI0 (by omega))
            have k437 := wd_at.pt ew426 k398 (tg_ne tI10 tI0 (by omega))
            have k438 := wd_at.pt ew426 k399 (tg_ne tI11 tI0 (by omega))
            have k439 := wd_at.pt ew426 k400 (tg_ne tI12 tI0 (by omega))
            have k440 := wd_at.pt ew426 k401 (tg_ne tI13 tI0 (by omega))
            have k441 := wd_at.pt ew426 k402 (tg_ne tI14 tI0 (by omega))
            have k442 := wd_at.pt ew426 k403 (tg_ne tI15 tI0 (by omega))
            have k443 := wd_at.pt ew426 k404 (tg_ne tI16 tI0 (by omega))
            have k444 := wd_at.pt ew426 k405 (tg_ne tI17 tI0 (by omega))
            have k445 := wd_at.pt ew426 k406 (tg_ne tI18 tI0 (by omega))
            have k446 := wd_at.pt ew426 k407 (tg_ne tI19 tI0 (by omega))
            have k447 := wd_at.pt ew426 k408 (tg_ne tI20 tI0 (by omega))
            have k448 := wd_at.pt ew426 k409 (tg_ne tI21 tI0 (by omega))
            have k449 := wd_at.pt ew426 k410 (tg_ne tI22 tI0 (by omega))
            have k450 := wd_at.pt ew426 k411 (tg_ne tI23 tI0 (by omega))
            have k451 := wd_at.pt ew426 k412 (tg_ne tI24 tI0 (by omega))
            have k452 := wd_at.pt ew426 k413 (tg_ne tI25 tI0 (by omega))
            have k453 := wd_at.pt ew426 k414 (tg_ne tI26 tI0 (by omega))
            have k454 := wd_at.pt ew426 k415 (tg_ne tz11 tI0 (by omega))
            have k455 := wd_at.pt ew426 k416 (Ne.symm (wd_nL hq251 kI0))
            have k456 := wd_at.pt ew426 k417 (Ne.symm (wd_nL hq343 k302))
            have fm457 : ∀ i9, i9 < 12 → tf i9 = some (tn i9) ∧ wd_at w425 (tn i9) (.inr (8, [.int (co i9), .int (ra i9), .int (se i9), .ref (ag i9)])) ∧ tg (tn i9) = 100 + i9 := fun i9 hi9 => ⟨(fm418 i9 hi9).1, wd_at.pt ew426 (fm418 i9 hi9).2.1 (tg_ne (fm418 i9 hi9).2.2 tI0 (by omega)), (fm418 i9 hi9).2.2⟩
            have fm458 : ∀ k9, k9 < 13 → (aOK (cf k9) (nf k9) ∧ ru k9 ≤ 12) ∧ wd_at w425 (aa k9) (.inr (1, [.ref (ga0 k9), .ref (ga1 k9), .ref (ga2 k9), .ref (ga3 k9), .ref (ga4 k9), .int (nI (ru k9))])) ∧ tg (aa k9) = 200 + k9 ∧ wd_at w425 (ga0 k9) (.inl (cy 2, 12, .inl (df k9))) ∧ tg (ga0 k9) = 220 + k9 ∧ wd_at w425 (ga1 k9) (.inl (cy 2, 12, .inl (cf k9))) ∧ tg (ga1 k9) = 240 + k9 ∧ wd_at w425 (ga2 k9) (.inl (cy 2, 72, .inl (nf k9))) ∧ tg (ga2 k9) = 260 + k9 ∧ wd_at w425 (ga3 k9) (.inl (cy 1, 72, .inl (sf k9))) ∧ tg (ga3 k9) = 280 + k9 ∧ wd_at w425 (ga4 k9) (.inl (cy 2, 72, .inl (uf k9))) ∧ tg (ga4 k9) = 300 + k9 := fun k9 hi9 => ⟨(fm419 k9 hi9).1, wd_at.pt ew426 (fm419 k9 hi9).2.1 (tg_ne (fm419 k9 hi9).2.2.1 tI0 (by omega)), (fm419 k9 hi9).2.2.1, wd_at.pt ew426 (fm419 k9 hi9).2.2.2.1 (tg_ne (fm419 k9 hi9).2.2.2.2.1 tI0 (by omega)), (fm419 k9 hi9).2.2.2.2.1, wd_at.pt ew426 (fm419 k9 hi9).2.2.2.2.2.1 (tg_ne (fm419 k9 hi9).2.2.2.2.2.2.1 tI0 (by omega)), (fm419 k9 hi9).2.2.2.2.2.2.1, wd_at.pt ew426 (fm419 k9 hi9).2.2.2.2.2.2.2.1 (tg_ne (fm419 k9 hi9).2.2.2.2.2.2.2.2.1 tI0 (by omega)), (fm419 k9 hi9).2.2.2.2.2.2.2.2.1, wd_at.pt ew426 (fm419 k9 hi9).2.2.2.2.2.2.2.2.2.1 (tg_ne (fm419 k9 hi9).2.2.2.2.2.2.2.2.2.2.1 tI0 (by omega)), (fm419 k9 hi9).2.2.2.2.2.2.2.2.2.2.1, wd_at.pt ew426 (fm419 k9 hi9).2.2.2.2.2.2.2.2.2.2.2.1 (tg_ne (fm419 k9 hi9).2.2.2.2.2.2.2.2.2.2.2.2 tI0 (by omega)), (fm419 k9 hi9).2.2.2.2.2.2.2.2.2.2.2.2⟩
            have fm459 : ∀ k9, k9 < pc → pf k9 = some (pa k9) ∧ wd_at w425 (pa k9) (.inr (3, [.int (plv k9), .int (pwo k9), .int (phd k9), .int (pgd k9), .int (pdy k9), .int (pno k9), .int (ptp k9)])) ∧ tg (pa k9) = 3000 + k9 := fun k9 hi9 => ⟨(fm420 k9 hi9).1, wd_at.pt ew426 (fm420 k9 hi9).2.1 (tg_ne (fm420 k9 hi9).2.2 tI0 (by omega)), (fm420 k9 hi9).2.2⟩
            have fm460 : ∀ k9, k9 < ac → af k9 = some (ad k9) ∧ wd_at w425 (ad k9) (.inr (0, [.int (av0 k9), .int (av1 k9), .int (av2 k9), .int (av3 k9)])) ∧ tg (ad k9) = 4000 + k9 := fun k9 hi9 => ⟨(fm421 k9 hi9).1, wd_at.pt ew426 (fm421 k9 hi9).2.1 (tg_ne (fm421 k9 hi9).2.2 tI0 (by omega)), (fm421 k9 hi9).2.2⟩
            have fm461 : ∀ k9, k9 < sc → zf k9 = some (so k9) ∧ wd_at w425 (so k9) (.inr (6, [.int (sp0 k9), .int (sp1 k9), .ref (sr k9)])) ∧ tg (so k9) = 5000 + k9 ∧ wd_at w425 (sr k9) (.inl (cy 2, 12, .inl (sd k9))) ∧ tg (sr k9) = 6000 + k9 := fun k9 hi9 => ⟨(fm422 k9 hi9).1, wd_at.pt ew426 (fm422 k9 hi9).2.1 (tg_ne (fm422 k9 hi9).2.2.1 tI0 (by omega)), (fm422 k9 hi9).2.2.1, wd_at.pt ew426 (fm422 k9 hi9).2.2.2.1 (tg_ne (fm422 k9 hi9).2.2.2.2 tI0 (by omega)), (fm422 k9 hi9).2.2.2.2⟩
            have fm462 : ∀ k9, k9 < sh → (hf k9 = some (sw k9) ∧ hto k9 < 12) ∧ wd_at w425 (sw k9) (.inr (5, [.int (nI (hto k9)), .int (hpp k9), .int (hle k9), .int (ham k9), .int (hhh k9), .int (hdd k9), .int (hru k9), .int (hde k9), .int (hcp k9), .int (hld k9)])) ∧ tg (sw k9) = 7000 + k9 := fun k9 hi9 => ⟨(fm423 k9 hi9).1, wd_at.pt ew426 (fm423 k9 hi9).2.1 (tg_ne (fm423 k9 hi9).2.2 tI0 (by omega)), (fm423 k9 hi9).2.2⟩
            have kp463 := kp424.put ew426 (tgS tI0 (by omega))
            refine lv_aload_n hx hb dX10_stop_86 rfl (lv_at hl 1 rfl) ?_
            refine x_get (ref := "NoteHouse") F hP k427 rfl (fun _ h => List.mem_cons_of_mem _ (List.mem_append_left _ (List.mem_append_left _ (List.mem_append_left _ (List.mem_append_right _ (h)))))) 15 (Nat.le_of_ble_eq_true rfl) (List.mem_cons_of_mem _ (List.mem_append_left _ (List.mem_append_left _ (List.mem_append_left _ (List.mem_append_left _ (List.mem_append_left _ (List.mem_of_getElem? (i := 0) rfl))))))) rfl rfl dX10_stop_87 ?_
            refine lv_iconst (v := 1) hx hb dX10_stop_90 (by decide) ?_
            refine lv_isub hx hb dX10_stop_91 ?_
            rw [show ((nI (sc + 1)) - 1 : Int32) = nI ((sc + 1) - 1) from pk_sub (a := (sc + 1)) (b := 1) (by omega)]
            have fm465 : ∀ i9, i9 < 12 → tf i9 = some (tn i9) ∧ wd_at w425 (tn i9) (.inr (8, [.int (co i9), .int (ra i9), .int (se i9), .ref (ag i9)])) ∧ (va_up (va_up tg q248 (5000 + sc)) arx339 (6000 + sc)) (tn i9) = 100 + i9 := fun i9 hi9 => ⟨(fm457 i9 hi9).1, (fm457 i9 hi9).2.1, ((va_up_ne _ _ (fn345 i9 hi9)).trans ((va_up_ne _ _ (fn282 i9 hi9)).trans (fm457 i9 hi9).2.2))⟩
            have fm466 : ∀ k9, k9 < 13 → (aOK (cf k9) (nf k9) ∧ ru k9 ≤ 12) ∧ wd_at w425 (aa k9) (.inr (1, [.ref (ga0 k9), .ref (ga1 k9), .ref (ga2 k9), .ref (ga3 k9), .ref (ga4 k9), .int (nI (ru k9))])) ∧ (va_up (va_up tg q248 (5000 + sc)) arx339 (6000 + sc)) (aa k9) = 200 + k9 ∧ wd_at w425 (ga0 k9) (.inl (cy 2, 12, .inl (df k9))) ∧ (va_up (va_up tg q248 (5000 + sc)) arx339 (6000 + sc)) (ga0 k9) = 220 + k9 ∧ wd_at w425 (ga1 k9) (.inl (cy 2, 12, .inl (cf k9))) ∧ (va_up (va_up tg q248 (5000 + sc)) arx339 (6000 + sc)) (ga1 k9) = 240 + k9 ∧ wd_at w425 (ga2 k9) (.inl (cy 2, 72, .inl (nf k9))) ∧ (va_up (va_up tg q248 (5000 + sc)) arx339 (6000 + sc)) (ga2 k9) = 260 + k9 ∧ wd_at w425 (ga3 k9) (.inl (cy 1, 72, .inl (sf k9))) ∧ (va_up (va_up tg q248 (5000 + sc)) arx339 (6000 + sc)) (ga3 k9) = 280 + k9 ∧ wd_at w425 (ga4 k9) (.inl (cy 2, 72, .inl (uf k9))) ∧ (va_up (va_up tg q248 (5000 + sc)) arx339 (6000 + sc)) (ga4 k9) = 300 + k9 := fun k9 hi9 => ⟨(fm458 k9 hi9).1, (fm458 k9 hi9).2.1, ((va_up_ne _ _ ((fn346 k9 hi9).1)).trans ((va_up_ne _ _ ((fn284 k9 hi9).1)).trans (fm458 k9 hi9).2.2.1)), (fm458 k9 hi9).2.2.2.1, ((va_up_ne _ _ ((fn346 k9 hi9).2.1)).trans ((va_up_ne _ _ ((fn284 k9 hi9).2.1)).trans (fm458 k9 hi9).2.2.2.2.1)), (fm458 k9 hi9).2.2.2.2.2.1, ((va_up_ne _ _ ((fn346 k9 hi9).2.2.1)).trans ((va_up_ne _ _ ((fn284 k9 hi9).2.2.1)).trans (fm458 k9 hi9).2.2.2.2.2.2.1)), (fm458 k9 hi9).2.2.2.2.2.2.2.1, ((va_up_ne _ _ ((fn346 k9 hi9).2.2.2.1)).trans ((va_up_ne _ _ ((fn284 k9 hi9).2.2.2.1)).trans (fm458 k9 hi9).2.2.2.2.2.2.2.2.1)), (fm458 k9 hi9).2.2.2.2.2.2.2.2.2.1, ((va_up_ne _ _ ((fn346 k9 hi9).2.2.2.2.1)).trans ((va_up_ne _ _ ((fn284 k9 hi9).2.2.2.2.1)).trans (fm458 k9 hi9).2.2.2.2.2.2.2.2.2.2.1)), (fm458 k9 hi9).2.2.2.2.2.2.2.2.2.2.2.1, ((va_up_ne _ _ ((fn346 k9 hi9).2.2.2.2.2)).trans ((va_up_ne _ _ ((fn284 k9 hi9).2.2.2.2.2)).trans (fm458 k9 hi9).2.2.2.2.2.2.2.2.2.2.2.2))⟩
            have fm467 : ∀ k9, k9 < pc → pf k9 = some (pa k9) ∧ wd_at w425 (pa k9) (.inr (3, [.int (plv k9), .int (pwo k9), .int (phd k9), .int (pgd k9), .int (pdy k9), .int (pno k9), .int (ptp k9)])) ∧ (va_up (va_up tg q248 (5000 + sc)) arx339 (6000 + sc)) (pa k9) = 3000 + k9 := fun k9 hi9 => ⟨(fm459 k9 hi9).1, (fm459 k9 hi9).2.1, ((va_up_ne _ _ (fn347 k9 hi9)).trans ((va_up_ne _ _ (fn286 k9 hi9)).trans (fm459 k9 hi9).2.2))⟩
            have fm468 : ∀ k9, k9 < ac → af k9 = some (ad k9) ∧ wd_at w425 (ad k9) (.inr (0, [.int (av0 k9), .int (av1 k9), .int (av2 k9), .int (av3 k9)])) ∧ (va_up (va_up tg q248 (5000 + sc)) arx339 (6000 + sc)) (ad k9) = 4000 + k9 := fun k9 hi9 => ⟨(fm460 k9 hi9).1, (fm460 k9 hi9).2.1, ((va_up_ne _ _ (fn348 k9 hi9)).trans ((va_up_ne _ _ (fn288 k9 hi9)).trans (fm460 k9 hi9).2.2))⟩
            have fm469 : ∀ k9, k9 < sc → zf k9 = some (so k9) ∧ wd_at w425 (so k9) (.inr (6, [.int (sp0 k9), .int (sp1 k9), .ref (sr k9)])) ∧ (va_up (va_up tg q248 (5000 + sc)) arx339 (6000 + sc)) (so k9) = 5000 + k9 ∧ wd_at w425 (sr k9) (.inl (cy 2, 12, .inl (sd k9))) ∧ (va_up (va_up tg q248 (5000 + sc)) arx339 (6000 + sc)) (sr k9) = 6000 + k9 := fun k9 hi9 => ⟨(fm461 k9 hi9).1, (fm461 k9 hi9).2.1, ((va_up_ne _ _ ((fn349 k9 hi9).1)).trans ((va_up_ne _ _ ((fn290 k9 hi9).1)).trans (fm461 k9 hi9).2.2.1)), (fm461 k9 hi9).2.2.2.1, ((va_up_ne _ _ ((fn349 k9 hi9).2)).trans ((va_up_ne _ _ ((fn290 k9 hi9).2)).trans (fm461 k9 hi9).2.2.2.2))⟩
            have fm470 : ∀ k9, k9 < sh → (hf k9 = some (sw k9) ∧ hto k9 < 12) ∧ wd_at w425 (sw k9) (.inr (5, [.int (nI (hto k9)), .int (hpp k9), .int (hle k9), .int (ham k9), .int (hhh k9), .int (hdd k9), .int (hru k9), .int (hde k9), .int (hcp k9), .int (hld k9)])) ∧ (va_up (va_up tg q248 (5000 + sc)) arx339 (6000 + sc)) (sw k9) = 7000 + k9 := fun k9 hi9 => ⟨(fm462 k9 hi9).1, (fm462 k9 hi9).2.1, ((va_up_ne _ _ (fn350 k9 hi9)).trans ((va_up_ne _ _ (fn292 k9 hi9)).trans (fm462 k9 hi9).2.2))⟩
            have k471 : wd_at w425 a4 (.inl (cy 8, 60, .inr (.inr (.inr (.inr (va_up zf sc (some q248))))))) := by have h9 := k436; rw [nI_clamp (n := sc) (by omega)] at h9; exact h9
            have fm472 : ∀ k9, k9 < (sc + 1) → (va_up zf sc (some q248)) k9 = some ((va_up so sc q248) k9) ∧ wd_at w425 ((va_up so sc q248) k9) (.inr (6, [.int ((va_up sp0 sc x1) k9), .int ((va_up sp1 sc x2) k9), .ref ((va_up sr sc arx339) k9)])) ∧ (va_up (va_up tg q248 (5000 + sc)) arx339 (6000 + sc)) ((va_up so sc q248) k9) = 5000 + k9 ∧ wd_at w425 ((va_up sr sc arx339) k9) (.inl (cy 2, 12, .inl ((va_up sd sc sdx340) k9))) ∧ (va_up (va_up tg q248 (5000 + sc)) arx339 (6000 + sc)) ((va_up sr sc arx339) k9) = 6000 + k9 := by
              intro k9 hi9
              by_cases e9 : k9 = sc
              · rw [e9]
                exact ⟨(by rw [va_up_self, va_up_self]), (by first | exact k455 | (simp only [va_up_self]; exact k455)), (by rw [va_up_self]; exact ((va_up_ne _ _ (wd_nL hq343 k328)).trans (va_up_self _ _ _))), (by first | exact k456 | (simp only [va_up_self]; exact k456)), (by rw [va_up_self]; exact (va_up_self _ _ _))⟩
              · simp only [va_up_ne _ _ e9]
                exact fm469 k9 (by omega)
            have hX473 : IX cy (va_up (va_up tg q248 (5000 + sc)) arx339 (6000 + sc)) x td pc ac (sc + 1) ln se plv w425 := IX.mk a0 a1 a2 a3 a4 a5 a6 a7 a8 a10 a11 b0 b1 b2 b3 tb l0 l1 l2 l3 l4 l5 l6 l7 bl bm sh gc sg lu lv9 f0 f1 dx297 px298 tbf e0 e1 e4 e5 e7 ff bf bf2 e2 e3 e6 ta sz fo to fo2 to2 tf tn ag co ra aa ru ga0 ga1 ga2 ga3 ga4 df cf nf sf uf pf pa pwo phd pgd pdy pno ptp af ad av0 av1 av2 av3 (va_up zf sc (some q248)) (va_up so sc q248) (va_up sr sc arx339) (va_up sp0 sc x1) (va_up sp1 sc x2) (va_up sd sc sdx340) hf sw hto hpp hle ham hhh hdd hru hde hcp hld (by omega) (by omega) (by omega) (by omega) (by omega) (by omega) (by omega) (by omega) hag k427 ((va_up_ne _ _ (wd_nL hq343 k302)).trans ((va_up_ne _ _ (wd_nL hq251 kI0)).trans tI0)) k428 ((va_up_ne _ _ (wd_nL hq343 k303)).trans ((va_up_ne _ _ (wd_nL hq251 kI1)).trans tI1)) k429 ((va_up_ne _ _ (wd_nL hq343 k304)).trans ((va_up_ne _ _ (wd_nL hq251 kI2)).trans tI2)) k430 ((va_up_ne _ _ (wd_nL hq343 k305)).trans ((va_up_ne _ _ (wd_nL hq251 kI3)).trans tI3)) k431 ((va_up_ne _ _ (wd_nL hq343 k299)).trans ((va_up_ne _ _ (wd_nL hq251 kI4)).trans tI4)) k432 ((va_up_ne _ _ (wd_nL hq343 k300)).trans ((va_up_ne _ _ (wd_nL hq251 kI5)).trans tI5)) k433 ((va_up_ne _ _ (wd_nL hq343 k306)).trans ((va_up_ne _ _ (wd_nL hq251 kI6)).trans tI6)) k434 ((va_up_ne _ _ (wd_nL hq343 k307)).trans ((va_up_ne _ _ (wd_nL hq251 kI7)).trans tI7)) k435 ((va_up_ne _ _ (wd_nL hq343 k308)).trans ((va_up_ne _ _ (wd_nL hq251 kI8)).trans tI8)) k471 ((va_up_ne _ _ (wd_nL hq343 k309)).trans ((va_up_ne _ _ (wd_nL hq251 kI9)).trans tI9)) k437 ((va_up_ne _ _ (wd_nL hq343 k310)).trans ((va_up_ne _ _ (wd_nL hq251 kI10)).trans tI10)) k438 ((va_up_ne _ _ (wd_nL hq343 k311)).trans ((va_up_ne _ _ (wd_nL hq251 kI11)).trans tI11)) k439 ((va_up_ne _ _ (wd_nL hq343 k312)).trans ((va_up_ne _ _ (wd_nL hq251 kI12)).trans tI12)) k440 ((va_up_ne _ _ (wd_nL hq343 k313)).trans ((va_up_ne _ _ (wd_nL hq251 kI13)).trans tI13)) k441 ((va_up_ne _ _ (wd_nL hq343 k314)).trans ((va_up_ne _ _ (wd_nL hq251 kI14)).trans tI14)) k442 ((va_up_ne _ _ (wd_nL hq343 k315)).trans ((va_up_ne _ _ (wd_nL hq251 kI15)).trans tI15)) k443 ((va_up_ne _ _ (wd_nL hq343 k316)).trans ((va_up_ne _ _ (wd_nL hq251 kI16)).trans tI16)) k444 ((va_up_ne _ _ (wd_nL hq343 k317)).trans ((va_up_ne _ _ (wd_nL hq251 kI17)).trans tI17)) k445 ((va_up_ne _ _ (wd_nL hq343 k318)).trans ((va_up_ne _ _ (wd_nL hq251 kI18)).trans tI18)) k446 ((va_up_ne _ _ (wd_nL hq343 k319)).trans ((va_up_ne _ _ (wd_nL hq251 kI19)).trans tI19)) k447 ((va_up_ne _ _ (wd_nL hq343 k320)).trans ((va_up_ne _ _ (wd_nL hq251 kI20)).trans tI20)) k448 ((va_up_ne _ _ (wd_nL hq343 k321)).trans ((va_up_ne _ _ (wd_nL hq251 kI21)).trans tI21)) k449 ((va_up_ne _ _ (wd_nL hq343 k322)).trans ((va_up_ne _ _ (wd_nL hq251 kI22)).trans tI22)) k450 ((va_up_ne _ _ (wd_nL hq343 k323)).trans ((va_up_ne _ _ (wd_nL hq251 kI23)).trans tI23)) k451 ((va_up_ne _ _ (wd_nL hq343 k324)).trans ((va_up_ne _ _ (wd_nL hq251 kI24)).trans tI24)) k452 ((va_up_ne _ _ (wd_nL hq343 k325)).trans ((va_up_ne _ _ (wd_nL hq251 kI25)).trans tI25)) k453 ((va_up_ne _ _ (wd_nL hq343 k326)).trans ((va_up_ne _ _ (wd_nL hq251 kI26)).trans tI26)) fm465 fm466 fm467 fm468 fm472 fm470
            exact y_ir K hP hD hS (Nat.le_of_ble_eq_true rfl) (Nat.le_of_ble_eq_true rfl) (ty := .int) rfl rfl dX10_stop_92 (by refine ⟨(congrArg (fun z => some (Value.int z)) (show nI ((sc + 1) - 1) = stpA plv pc sc x1 x2 (nI t) from by simp [stpA, stpC, pb9.1, pb9.2, c_12, c_16, clt, c_17, c_247])), ?_⟩; rw [show stpC plv pc sc x1 x2 (nI t) = (sc + 1) from by simp [stpA, stpC, pb9.1, pb9.2, c_12, c_16, clt, c_17, c_247]]; exact ⟨(va_up (va_up tg q248 (5000 + sc)) arx339 (6000 + sc)), (fun a9 ha9 => ((va_up_ne _ _ (fun q9 : a9 = arx339 => (kp335.out hq343) (q9 ▸ ha9))).trans (va_up_ne _ _ (fun q9 : a9 = q248 => (kp0.out hq251) (q9 ▸ ha9))))), kp463, hX473⟩)
          · refine lv_iconst (v := (-1)) hx hb dX10_stop_44 (by decide) ?_
            exact y_ir K hP hD hS (Nat.le_of_ble_eq_true rfl) (Nat.le_of_ble_eq_true rfl) (ty := .int) rfl rfl dX10_stop_45 (by refine ⟨(congrArg (fun z => some (Value.int z)) (show (-1) = stpA plv pc sc x1 x2 (nI t) from by simp [stpA, stpC, pb9.1, pb9.2, c_12, c_16, clt, c_17, c_247])), ?_⟩; rw [show stpC plv pc sc x1 x2 (nI t) = sc from by simp [stpA, stpC, pb9.1, pb9.2, c_12, c_16, clt, c_17, c_247]]; exact ⟨tg, fun _ _ => rfl, wd_kp.rf, hIX0⟩)
      · refine lv_iconst (v := (-1)) hx hb dX10_stop_28 (by decide) ?_
        exact y_ir K hP hD hS (Nat.le_of_ble_eq_true rfl) (Nat.le_of_ble_eq_true rfl) (ty := .int) rfl rfl dX10_stop_29 (by refine ⟨(congrArg (fun z => some (Value.int z)) (show (-1) = stpA plv pc sc x1 x2 x3 from by simp [stpA, stpC, pb9.1, pb9.2, c_12, c_16])), ?_⟩; rw [show stpC plv pc sc x1 x2 x3 = sc from by simp [stpA, stpC, pb9.1, pb9.2, c_12, c_16]]; exact ⟨tg, fun _ _ => rfl, wd_kp.rf, hIX0⟩)
set_option maxHeartbeats 4000000 in
set_option maxRecDepth 100000 in
theorem X_lose (l : Launch) (D : va_G) (cy : Nat → ClassId) (sk sv : Nat → Nat) (w : Wd) (tg : Nat → Nat) (x : Nat) (td : Int32) (pc ac sc ln : Nat) (se plv : Nat → Int32) (x1 : Int32) (hIX0 : IX cy tg x td pc ac sc ln se plv w) : Ct l D cy sk sv yX10_lose wsX10_lose ({ frames := 1, cells := 0, slots := 0, locals := 21 }) [.ref x, .int x1] w (fun v w1 => (∃ r : Int32, v = some (.int r)) ∧ XP cy tg x td pc ac sc ln se plv w w1) := by
  refine Ct.by (cc := cX10_lose) (maxL := 3) (ret := (some .boolean)) (by decide +kernel) rfl (Nat.le_of_ble_eq_true rfl) ?_
  intro p e s m args below meth c A Q F hnm K ls hl
  have F : wd_Fx p s m args meth c cX10_lose 3 wsX10_lose RX10 D cy sk sv A := F
  have hl : lv_has ls 3 [(0, .ref x), (1, .int x1)] := hl
  have hx := F.1.1
  have hb := F.1.2.1
  have hown := F.1.2.2.2.1
  have hts := F.1.2.2.2.2
  intro H locs hP hD hS
  have kp0 : wd_kp (fun b => tg b < 10000) w w := wd_kp.rf
  refine hIX0 _ ?_
  intro a0 a1 a2 a3 a4 a5 a6 a7 a8 a10 a11 b0 b1 b2 b3 tb l0 l1 l2 l3 l4 l5 l6 l7 bl bm sh gc sg lu lv9 f0 f1 f2 f3 tbf e0 e1 e4 e5 e7 ff bf bf2 e2 e3 e6 ta sz fo to fo2 to2 tf tn ag co ra aa ru ga0 ga1 ga2 ga3 ga4 df cf nf sf uf pf pa pwo phd pgd pdy pno ptp af ad av0 av1 av2 av3 zf so sr sp0 sp1 sd hf sw hto hpp hle ham hhh hdd hru hde hcp hld hp90 hp91 hp92 hp93 hp94 hp95 hp96 hp97 hag kI0 tI0 kI1 tI1 kI2 tI2 kI3 tI3 kI4 tI4 kI5 tI5 kI6 tI6 kI7 tI7 kI8 tI8 kI9 tI9 kI10 tI10 kI11 tI11 kI12 tI12 kI13 tI13 kI14 tI14 kI15 tI15 kI16 tI16 kI17 tI17 kI18 tI18 kI19 tI19 kI20 tI20 kI21 tI21 kI22 tI22 kI23 tI23 kI24 tI24 kI25 tI25 kI26 tI26 hT9 hG9 hP9 hA9 hS9 hH9
  refine lv_aload_n hx hb dX10_lose_0 rfl (lv_at hl 0 rfl) ?_
  refine lv_iload_n hx hb dX10_lose_1 rfl (lv_at hl 1 rfl) ?_
  refine x_callV (n := 1) (As := [.int x1]) (rest := []) F hP hD hS (g_adviceAt l D cy sk sv w x a0 a1 a2 a3 a4 a5 a6 a7 a8 (aa sg) a10 a11 pc ac sc sh td x1 tg af ad av0 av1 av2 av3 kI0 kI8 hA9 (by omega)) gX10_lose_X10_adviceAt rfl rfl (by decide +kernel) ⟨(Nat.le_of_ble_eq_true rfl), (Nat.le_of_ble_eq_true rfl)⟩ rfl hl.1 (Nat.le_of_ble_eq_true rfl) kI0 rfl dX10_lose_2 rfl ⟨(Nat.le_of_ble_eq_true rfl), (Nat.le_of_ble_eq_true rfl)⟩ (fun v2 w3 hp1 H locs hP hD hS => ?_)
  obtain ⟨hp1, rfl⟩ := hp1
  rcases hp1 with ⟨rfl, hn5⟩ | ⟨j4, hn5, ej4, rfl⟩
  · refine W.eq (g2 := F0 m 5 ls [.null]) rfl (W.widen (k := 0) (n := 0) (Nat.le_of_ble_eq_true rfl) (Nat.le_of_ble_eq_true rfl) ?_)
    refine lv_astore_nN (lv' := [(2, .null), (0, .ref x), (1, .int x1)]) hx hb dX10_lose_5 rfl hl (by decide) rfl (fun ls hl => ?_)
    refine lv_aload_nN hx hb dX10_lose_6 rfl (lv_at hl 0 rfl) ?_
    refine lv_ifnullN (tgt := 31) hx hb dX10_lose_7 (by decide) ?_
    refine lv_iconst (v := 0) hx hb dX10_lose_31 (by decide) ?_
    exact y_ir K hP hD hS (Nat.le_of_ble_eq_true rfl) (Nat.le_of_ble_eq_true rfl) (ty := .boolean) rfl rfl dX10_lose_32 (⟨⟨_, rfl⟩, ⟨tg, fun _ _ => rfl, wd_kp.rf, hIX0⟩⟩)
  · refine W.eq (g2 := F0 m 5 ls [.ref (ad j4)]) rfl (W.widen (k := 0) (n := 0) (Nat.le_of_ble_eq_true rfl) (Nat.le_of_ble_eq_true rfl) ?_)
    have pr6 := (hA9 j4 hn5).1
    have k7 := (hA9 j4 hn5).2.1
    have tz8 := (hA9 j4 hn5).2.2
    refine lv_astore_n (lv' := [(2, .ref (ad j4)), (0, .ref x), (1, .int x1)]) hx hb dX10_lose_5 rfl hl (by decide) rfl (fun ls hl => ?_)
    refine lv_aload_n hx hb dX10_lose_6 rfl (lv_at hl 0 rfl) ?_
    refine lv_ifnull hx hb dX10_lose_7 ?_
    refine lv_aload_n hx hb dX10_lose_10 rfl (lv_at hl 0 rfl) ?_
    refine x_get (ref := "NoteHouse$Advice") F hP k7 rfl (fun _ h => List.mem_cons_of_mem _ (List.mem_append_left _ (List.mem_append_right _ (h)))) 3 (Nat.le_of_ble_eq_true rfl) (List.mem_cons_of_mem _ (List.mem_append_left _ (List.mem_append_left _ (List.mem_of_getElem? (i := 0) rfl)))) rfl rfl dX10_lose_11 ?_
    refine lv_if_ne (tgt := 31) hx hb dX10_lose_14 (by decide) (fun c_9 => ?_) (fun c_9 => ?_)
    · refine lv_iconst (v := 0) hx hb dX10_lose_31 (by decide) ?_
      exact y_ir K hP hD hS (Nat.le_of_ble_eq_true rfl) (Nat.le_of_ble_eq_true rfl) (ty := .boolean) rfl rfl dX10_lose_32 (⟨⟨_, rfl⟩, ⟨tg, fun _ _ => rfl, wd_kp.rf, hIX0⟩⟩)
    · refine lv_aload_n hx hb dX10_lose_17 rfl (lv_at hl 0 rfl) ?_
      refine x_get (ref := "NoteHouse$Advice") F hP k7 rfl (fun _ h => List.mem_cons_of_mem _ (List.mem_append_left _ (List.mem_append_right _ (h)))) 2 (Nat.le_of_ble_eq_true rfl) (List.mem_cons_of_mem _ (List.mem_append_left _ (List.mem_append_left _ (List.mem_of_getElem? (i := 1) rfl)))) rfl rfl dX10_lose_18 ?_
      refine lv_aload_n hx hb dX10_lose_21 rfl (lv_at hl 1 rfl) ?_
      refine x_get (ref := "NoteHouse") F hP kI0 rfl (fun _ h => List.mem_cons_of_mem _ (List.mem_append_right _ (h))) 12 (Nat.le_of_ble_eq_true rfl) (List.mem_cons_of_mem _ (List.mem_append_left _ (List.mem_append_left _ (List.mem_of_getElem? (i := 2) rfl)))) rfl rfl dX10_lose_22 ?_
      refine x_callS (n := 2) (As := [.int (av2 j4), .int td]) (rest := []) F hP hD hS (g_hasCome l D cy sk sv w (av2 j4) td) gX10_lose_X10_hasCome rfl (by decide +kernel) ⟨(Nat.le_of_ble_eq_true rfl), (Nat.le_of_ble_eq_true rfl)⟩ rfl hl.1 (Nat.le_of_ble_eq_true rfl) dX10_lose_25 rfl ⟨(Nat.le_of_ble_eq_true rfl), (Nat.le_of_ble_eq_true rfl)⟩ (fun v11 w12 hp10 H locs hP hD hS => ?_)
      obtain ⟨rx13, rfl, hz14, rfl⟩ := hp10
      refine W.eq (g2 := F0 m 28 ls [.int rx13]) rfl (W.widen (k := 0) (n := 0) (Nat.le_of_ble_eq_true rfl) (Nat.le_of_ble_eq_true rfl) ?_)
      refine lv_if_eq (tgt := 33) hx hb dX10_lose_28 (by decide) (fun c_15 => ?_) (fun c_15 => ?_)
      · refine lv_aload_n hx hb dX10_lose_33 rfl (lv_at hl 0 rfl) ?_
        refine lv_iconst (v := 1) hx hb dX10_lose_34 (by decide) ?_
        refine y_put (ref := "NoteHouse$Advice") F hP hD hS k7 rfl (fun _ h => List.mem_cons_of_mem _ (List.mem_append_left _ (List.mem_append_right _ (h)))) tyX0_ok nmX0 3 (Nat.le_of_ble_eq_true rfl) (List.mem_cons_of_mem _ (List.mem_append_left _ (List.mem_append_left _ (List.mem_of_getElem? (i := 0) rfl)))) rfl rfl rfl rfl (Nat.le_of_ble_eq_true rfl) dX10_lose_35 (fun w16 ew17 H locs hP hD hS => ?_)
        have fm18 : ∀ k9, k9 < ac ∧ k9 ≠ j4 → af k9 = some (ad k9) ∧ wd_at w (ad k9) (.inr (0, [.int (av0 k9), .int (av1 k9), .int (av2 k9), .int (av3 k9)])) ∧ tg (ad k9) = 4000 + k9 := fun k9 hi8 => hA9 k9 hi8.1
        have k19 := wd_at.pt ew17 kI0 (tg_ne tI0 tz8 (by omega))
        have k20 := wd_at.pt ew17 kI1 (tg_ne tI1 tz8 (by omega))
        have k21 := wd_at.pt ew17 kI2 (tg_ne tI2 tz8 (by omega))
        have k22 := wd_at.pt ew17 kI3 (tg_ne tI3 tz8 (by omega))
        have k23 := wd_at.pt ew17 kI4 (tg_ne tI4 tz8 (by omega))
        have k24 := wd_at.pt ew17 kI5 (tg_ne tI5 tz8 (by omega))
        have k25 := wd_at.pt ew17 kI6 (tg_ne tI6 tz8 (by omega))
        have k26 := wd_at.pt ew17 kI7 (tg_ne tI7 tz8 (by omega))
        have k27 := wd_at.pt ew17 kI8 (tg_ne tI8 tz8 (by omega))
        have k28 := wd_at.pt ew17 kI9 (tg_ne tI9 tz8 (by omega))
        have k29 := wd_at.pt ew17 kI10 (tg_ne tI10 tz8 (by omega))
        have k30 := wd_at.pt ew17 kI11 (tg_ne tI11 tz8 (by omega))
        have k31 := wd_at.pt ew17 kI12 (tg_ne tI12 tz8 (by omega))
        have k32 := wd_at.pt ew17 kI13 (tg_ne tI13 tz8 (by omega))
        have k33 := wd_at.pt ew17 kI14 (tg_ne tI14 tz8 (by omega))
        have k34 := wd_at.pt ew17 kI15 (tg_ne tI15 tz8 (by omega))
        have k35 := wd_at.pt ew17 kI16 (tg_ne tI16 tz8 (by omega))
        have k36 := wd_at.pt ew17 kI17 (tg_ne tI17 tz8 (by omega))
        have k37 := wd_at.pt ew17 kI18 (tg_ne tI18 tz8 (by omega))
        have k38 := wd_at.pt ew17 kI19 (tg_ne tI19 tz8 (by omega))
        have k39 := wd_at.pt ew17 kI20 (tg_ne tI20 tz8 (by omega))
        have k40 := wd_at.pt ew17 kI21 (tg_ne tI21 tz8 (by omega))
        have k41 := wd_at.pt ew17 kI22 (tg_ne tI22 tz8 (by omega))
        have k42 := wd_at.pt ew17 kI23 (tg_ne tI23 tz8 (by omega))
        have k43 := wd_at.pt ew17 kI24 (tg_ne tI24 tz8 (by omega))
        have k44 := wd_at.pt ew17 kI25 (tg_ne tI25 tz8 (by omega))
        have k45 := wd_at.pt ew17 kI26 (tg_ne tI26 tz8 (by omega))
        have k46 : wd_at w16 (ad j4) (.inr (0, [.int (av0 j4), .int (av1 j4), .int (av2 j4), .int 1])) := wd_at.ps ew17 k7
        have fm47 : ∀ i9, i9 < 12 → tf i9 = some (tn i9) ∧ wd_at w16 (tn i9) (.inr (8, [.int (co i9), .int (ra i9), .int (se i9), .ref (ag i9)])) ∧ tg (tn i9) = 100 + i9 := fun i9 hi9 => ⟨(hT9 i9 hi9).1, wd_at.pt ew17 (hT9 i9 hi9).2.1 (tg_ne (hT9 i9 hi9).2.2 tz8 (by omega)), (hT9 i9 hi9).2.2⟩
        have fm48 : ∀ k9, k9 < 13 → (aOK (cf k9) (nf k9) ∧ ru k9 ≤ 12) ∧ wd_at w16 (aa k9) (.inr (1, [.ref (ga0 k9), .ref (ga1 k9), .ref (ga2 k9), .ref (ga3 k9), .ref (ga4 k9), .int (nI (ru k9))])) ∧ tg (aa k9) = 200 + k9 ∧ wd_at w16 (ga0 k9) (.inl (cy 2, 12, .inl (df k9))) ∧ tg (ga0 k9) = 220 + k9 ∧ wd_at w16 (ga1 k9) (.inl (cy 2, 12, .inl (cf k9))) ∧ tg (ga1 k9) = 240 + k9 ∧ wd_at w16 (ga2 k9) (.inl (cy 2, 72, .inl (nf k9))) ∧ tg (ga2 k9) = 260 + k9 ∧ wd_at w16 (ga3 k9) (.inl (cy 1, 72, .inl (sf k9))) ∧ tg (ga3 k9) = 280 + k9 ∧ wd_at w16 (ga4 k9) (.inl (cy 2, 72, .inl (uf k9))) ∧ tg (ga4 k9) = 300 + k9 := fun k9 hi9 => ⟨(hG9 k9 hi9).1, wd_at.pt ew17 (hG9 k9 hi9).2.1 (tg_ne (hG9 k9 hi9).2.2.1 tz8 (by omega)), (hG9 k9 hi9).2.2.1, wd_at.pt ew17 (hG9 k9 hi9).2.2.2.1 (tg_ne (hG9 k9 hi9).2.2.2.2.1 tz8 (by omega)), (hG9 k9 hi9).2.2.2.2.1, wd_at.pt ew17 (hG9 k9 hi9).2.2.2.2.2.1 (tg_ne (hG9 k9 hi9).2.2.2.2.2.2.1 tz8 (by omega)), (hG9 k9 hi9).2.2.2.2.2.2.1, wd_at.pt ew17 (hG9 k9 hi9).2.2.2.2.2.2.2.1 (tg_ne (hG9 k9 hi9).2.2.2.2.2.2.2.2.1 tz8 (by omega)), (hG9 k9 hi9).2.2.2.2.2.2.2.2.1, wd_at.pt ew17 (hG9 k9 hi9).2.2.2.2.2.2.2.2.2.1 (tg_ne (hG9 k9 hi9).2.2.2.2.2.2.2.2.2.2.1 tz8 (by omega)), (hG9 k9 hi9).2.2.2.2.2.2.2.2.2.2.1, wd_at.pt ew17 (hG9 k9 hi9).2.2.2.2.2.2.2.2.2.2.2.1 (tg_ne (hG9 k9 hi9).2.2.2.2.2.2.2.2.2.2.2.2 tz8 (by omega)), (hG9 k9 hi9).2.2.2.2.2.2.2.2.2.2.2.2⟩
        have fm49 : ∀ k9, k9 < pc → pf k9 = some (pa k9) ∧ wd_at w16 (pa k9) (.inr (3, [.int (plv k9), .int (pwo k9), .int (phd k9), .int (pgd k9), .int (pdy k9), .int (pno k9), .int (ptp k9)])) ∧ tg (pa k9) = 3000 + k9 := fun k9 hi9 => ⟨(hP9 k9 hi9).1, wd_at.pt ew17 (hP9 k9 hi9).2.1 (tg_ne (hP9 k9 hi9).2.2 tz8 (by omega)), (hP9 k9 hi9).2.2⟩
        have fm50 : ∀ k9, k9 < ac ∧ k9 ≠ j4 → af k9 = some (ad k9) ∧ wd_at w16 (ad k9) (.inr (0, [.int (av0 k9), .int (av1 k9), .int (av2 k9), .int (av3 k9)])) ∧ tg (ad k9) = 4000 + k9 := fun k9 hi9 => ⟨(fm18 k9 hi9).1, wd_at.pt ew17 (fm18 k9 hi9).2.1 (tg_ne (fm18 k9 hi9).2.2 tz8 (by omega)), (fm18 k9 hi9).2.2⟩
        have fm51 : ∀ k9, k9 < sc → zf k9 = some (so k9) ∧ wd_at w16 (so k9) (.inr (6, [.int (sp0 k9), .int (sp1 k9), .ref (sr k9)])) ∧ tg (so k9) = 5000 + k9 ∧ wd_at w16 (sr k9) (.inl (cy 2, 12, .inl (sd k9))) ∧ tg (sr k9) = 6000 + k9 := fun k9 hi9 => ⟨(hS9 k9 hi9).1, wd_at.pt ew17 (hS9 k9 hi9).2.1 (tg_ne (hS9 k9 hi9).2.2.1 tz8 (by omega)), (hS9 k9 hi9).2.2.1, wd_at.pt ew17 (hS9 k9 hi9).2.2.2.1 (tg_ne (hS9 k9 hi9).2.2.2.2 tz8 (by omega)), (hS9 k9 hi9).2.2.2.2⟩
        have fm52 : ∀ k9, k9 < sh → (hf k9 = some (sw k9) ∧ hto k9 < 12) ∧ wd_at w16 (sw k9) (.inr (5, [.int (nI (hto k9)), .int (hpp k9), .int (hle k9), .int (ham k9), .int (hhh k9), .int (hdd k9), .int (hru k9), .int (hde k9), .int (hcp k9), .int (hld k9)])) ∧ tg (sw k9) = 7000 + k9 := fun k9 hi9 => ⟨(hH9 k9 hi9).1, wd_at.pt ew17 (hH9 k9 hi9).2.1 (tg_ne (hH9 k9 hi9).2.2 tz8 (by omega)), (hH9 k9 hi9).2.2⟩
        have kp53 := kp0.put ew17 (tgS tz8 (by omega))
        refine lv_aload_n hx hb dX10_lose_38 rfl (lv_at hl 0 rfl) ?_
        refine lv_iconst (v := (-1)) hx hb dX10_lose_39 (by decide) ?_
        refine y_put (ref := "NoteHouse$Advice") F hP hD hS k46 rfl (fun _ h => List.mem_cons_of_mem _ (List.mem_append_left _ (List.mem_append_right _ (h)))) tyX0_ok nmX0 2 (Nat.le_of_ble_eq_true rfl) (List.mem_cons_of_mem _ (List.mem_append_left _ (List.mem_append_left _ (List.mem_of_getElem? (i := 1) rfl)))) rfl rfl rfl rfl (Nat.le_of_ble_eq_true rfl) dX10_lose_40 (fun w54 ew55 H locs hP hD hS => ?_)
        have k56 := wd_at.pt ew55 k19 (tg_ne tI0 tz8 (by omega))
        have k57 := wd_at.pt ew55 k20 (tg_ne tI1 tz8 (by omega))
        have k58 := wd_at.pt ew55 k21 (tg_ne tI2 tz8 (by omega))
        have k59 := wd_at.pt ew55 k22 (tg_ne tI3 tz8 (by omega))
        have k60 := wd_at.pt ew55 k23 (tg_ne tI4 tz8 (by omega))
        have k61 := wd_at.pt ew55 k24 (tg_ne tI5 tz8 (by omega))
        have k62 := wd_at.pt ew55 k25 (tg_ne tI6 tz8 (by omega))
        have k63 := wd_at.pt ew55 k26 (tg_ne tI7 tz8 (by omega))
        have k64 := wd_at.pt ew55 k27 (tg_ne tI8 tz8 (by omega))
        have k65 := wd_at.pt ew55 k28 (tg_ne tI9 tz8 (by omega))
        have k66 := wd_at.pt ew55 k29 (tg_ne tI10 tz8 (by omega))
        have k67 := wd_at.pt ew55 k30 (tg_ne tI11 tz8 (by omega))
        have k68 := wd_at.pt ew55 k31 (tg_ne tI12 tz8 (by omega))
        have k69 := wd_at.pt ew55 k32 (tg_ne tI13 tz8 (by omega))
        have k70 := wd_at.pt ew55 k33 (tg_ne tI14 tz8 (by omega))
        have k71 := wd_at.pt ew55 k34 (tg_ne tI15 tz8 (by omega))
        have k72 := wd_at.pt ew55 k35 (tg_ne tI16 tz8 (by omega))
        have k73 := wd_at.pt ew55 k36 (tg_ne tI17 tz8 (by omega))
        have k74 := wd_at.pt ew55 k37 (tg_ne tI18 tz8 (by omega))
        have k75 := wd_at.pt ew55 k38 (tg_ne tI19 tz8 (by omega))
        have k76 := wd_at.pt ew55 k39 (tg_ne tI20 tz8 (by omega))
        have k77 := wd_at.pt ew55 k40 (tg_ne tI21 tz8 (by omega))
        have k78 := wd_at.pt ew55 k41 (tg_ne tI22 tz8 (by omega))
        have k79 := wd_at.pt ew55 k42 (tg_ne tI23 tz8 (by omega))
        have k80 := wd_at.pt ew55 k43 (tg_ne tI24 tz8 (by omega))
        have k81 := wd_at.pt ew55 k44 (tg_ne tI25 tz8 (by omega))
        have k82 := wd_at.pt ew55 k45 (tg_ne tI26 tz8 (by omega))
        have k83 : wd_at w54 (ad j4) (.inr (0, [.int (av0 j4), .int (av1 j4), .int (-1), .int 1])) := wd_at.ps ew55 k46
        have fm84 : ∀ i9, i9 < 12 → tf i9 = some (tn i9) ∧ wd_at w54 (tn i9) (.inr (8, [.int (co i9), .int (ra i9), .int (se i9), .ref (ag i9)])) ∧ tg (tn i9) = 100 + i9 := fun i9 hi9 => ⟨(fm47 i9 hi9).1, wd_at.pt ew55 (fm47 i9 hi9).2.1 (tg_ne (fm47 i9 hi9).2.2 tz8 (by omega)), (fm47 i9 hi9).2.2⟩
        have fm85 : ∀ k9, k9 < 13 → (aOK (cf k9) (nf k9) ∧ ru k9 ≤ 12) ∧ wd_at w54 (aa k9) (.inr (1, [.ref (ga0 k9), .ref (ga1 k9), .ref (ga2 k9), .ref (ga3 k9), .ref (ga4 k9), .int (nI (ru k9))])) ∧ tg (aa k9) = 200 + k9 ∧ wd_at w54 (ga0 k9) (.inl (cy 2, 12, .inl (df k9))) ∧ tg (ga0 k9) = 220 + k9 ∧ wd_at w54 (ga1 k9) (.inl (cy 2, 12, .inl (cf k9))) ∧ tg (ga1 k9) = 240 + k9 ∧ wd_at w54 (ga2 k9) (.inl (cy 2, 72, .inl (nf k9))) ∧ tg (ga2 k9) = 260 + k9 ∧ wd_at w54 (ga3 k9) (.inl (cy 1, 72, .inl (sf k9))) ∧ tg (ga3 k9) = 280 + k9 ∧ wd_at w54 (ga4 k9) (.inl (cy 2, 72, .inl (uf k9))) ∧ tg (ga4 k9) = 300 + k9 := fun k9 hi9 => ⟨(fm48 k9 hi9).1, wd_at.pt ew55 (fm48 k9 hi9).2.1 (tg_ne (fm48 k9 hi9).2.2.1 tz8 (by omega)), (fm48 k9 hi9).2.2.1, wd_at.pt ew55 (fm48 k9 hi9).2.2.2.1 (tg_ne (fm48 k9 hi9).2.2.2.2.1 tz8 (by omega)), (fm48 k9 hi9).2.2.2.2.1, wd_at.pt ew55 (fm48 k9 hi9).2.2.2.2.2.1 (tg_ne (fm48 k9 hi9).2.2.2.2.2.2.1 tz8 (by omega)), (fm48 k9 hi9).2.2.2.2.2.2.1, wd_at.pt ew55 (fm48 k9 hi9).2.2.2.2.2.2.2.1 (tg_ne (fm48 k9 hi9).2.2.2.2.2.2.2.2.1 tz8 (by omega)), (fm48 k9 hi9).2.2.2.2.2.2.2.2.1, wd_at.pt ew55 (fm48 k9 hi9).2.2.2.2.2.2.2.2.2.1 (tg_ne (fm48 k9 hi9).2.2.2.2.2.2.2.2.2.2.1 tz8 (by omega)), (fm48 k9 hi9).2.2.2.2.2.2.2.2.2.2.1, wd_at.pt ew55 (fm48 k9 hi9).2.2.2.2.2.2.2.2.2.2.2.1 (tg_ne (fm48 k9 hi9).2.2.2.2.2.2.2.2.2.2.2.2 tz8 (by omega)), (fm48 k9 hi9).2.2.2.2.2.2.2.2.2.2.2.2⟩
        have fm86 : ∀ k9, k9 < pc → pf k9 = some (pa k9) ∧ wd_at w54 (pa k9) (.inr (3, [.int (plv k9), .int (pwo k9), .int (phd k9), .int (pgd k9), .int (pdy k9), .int (pno k9), .int (ptp k9)])) ∧ tg (pa k9) = 3000 + k9 := fun k9 hi9 => ⟨(fm49 k9 hi9).1, wd_at.pt ew55 (fm49 k9 hi9).2.1 (tg_ne (fm49 k9 hi9).2.2 tz8 (by omega)), (fm49 k9 hi9).2.2⟩
        have fm87 : ∀ k9, k9 < ac ∧ k9 ≠ j4 → af k9 = some (ad k9) ∧ wd_at w54 (ad k9) (.inr (0, [.int (av0 k9), .int (av1 k9), .int (av2 k9), .int (av3 k9)])) ∧ tg (ad k9) = 4000 + k9 := fun k9 hi9 => ⟨(fm50 k9 hi9).1, wd_at.pt ew55 (fm50 k9 hi9).2.1 (tg_ne (fm50 k9 hi9).2.2 tz8 (by omega)), (fm50 k9 hi9).2.2⟩
        have fm88 : ∀ k9, k9 < sc → zf k9 = some (so k9) ∧ wd_at w54 (so k9) (.inr (6, [.int (sp0 k9), .int (sp1 k9), .ref (sr k9)])) ∧ tg (so k9) = 5000 + k9 ∧ wd_at w54 (sr k9) (.inl (cy 2, 12, .inl (sd k9))) ∧ tg (sr k9) = 6000 + k9 := fun k9 hi9 => ⟨(fm51 k9 hi9).1, wd_at.pt ew55 (fm51 k9 hi9).2.1 (tg_ne (fm51 k9 hi9).2.2.1 tz8 (by omega)), (fm51 k9 hi9).2.2.1, wd_at.pt ew55 (fm51 k9 hi9).2.2.2.1 (tg_ne (fm51 k9 hi9).2.2.2.2 tz8 (by omega)), (fm51 k9 hi9).2.2.2.2⟩
        have fm89 : ∀ k9, k9 < sh → (hf k9 = some (sw k9) ∧ hto k9 < 12) ∧ wd_at w54 (sw k9) (.inr (5, [.int (nI (hto k9)), .int (hpp k9), .int (hle k9), .int (ham k9), .int (hhh k9), .int (hdd k9), .int (hru k9), .int (hde k9), .int (hcp k9), .int (hld k9)])) ∧ tg (sw k9) = 7000 + k9 := fun k9 hi9 => ⟨(fm52 k9 hi9).1, wd_at.pt ew55 (fm52 k9 hi9).2.1 (tg_ne (fm52 k9 hi9).2.2 tz8 (by omega)), (fm52 k9 hi9).2.2⟩
        have kp90 := kp53.put ew55 (tgS tz8 (by omega))
        refine lv_iconst (v := 1) hx hb dX10_lose_43 (by decide) ?_
        have fm92 : ∀ k9, k9 < ac → af k9 = some (ad k9) ∧ wd_at w54 (ad k9) (.inr (0, [.int (av0 k9), .int (av1 k9), .int ((va_up av2 j4 (-1)) k9), .int ((va_up av3 j4 1) k9)])) ∧ tg (ad k9) = 4000 + k9 := by
          intro k9 hi9
          by_cases e9 : k9 = j4
          · rw [e9]
            exact ⟨pr6, (by first | exact k83 | (simp only [va_up_self]; exact k83)), tz8⟩
          · simp only [va_up_ne _ _ e9]
            exact fm87 k9 (by omega)
        have hX93 : IX cy tg x td pc ac sc ln se plv w54 := IX.mk a0 a1 a2 a3 a4 a5 a6 a7 a8 a10 a11 b0 b1 b2 b3 tb l0 l1 l2 l3 l4 l5 l6 l7 bl bm sh gc sg lu lv9 f0 f1 f2 f3 tbf e0 e1 e4 e5 e7 ff bf bf2 e2 e3 e6 ta sz fo to fo2 to2 tf tn ag co ra aa ru ga0 ga1 ga2 ga3 ga4 df cf nf sf uf pf pa pwo phd pgd pdy pno ptp af ad av0 av1 (va_up av2 j4 (-1)) (va_up av3 j4 1) zf so sr sp0 sp1 sd hf sw hto hpp hle ham hhh hdd hru hde hcp hld (by omega) (by omega) (by omega) (by omega) (by omega) (by omega) (by omega) (by omega) hag k56 tI0 k57 tI1 k58 tI2 k59 tI3 k60 tI4 k61 tI5 k62 tI6 k63 tI7 k64 tI8 k65 tI9 k66 tI10 k67 tI11 k68 tI12 k69 tI13 k70 tI14 k71 tI15 k72 tI16 k73 tI17 k74 tI18 k75 tI19 k76 tI20 k77 tI21 k78 tI22 k79 tI23 k80 tI24 k81 tI25 k82 tI26 fm84 fm85 fm86 fm92 fm88 fm89
        exact y_ir K hP hD hS (Nat.le_of_ble_eq_true rfl) (Nat.le_of_ble_eq_true rfl) (ty := .boolean) rfl rfl dX10_lose_44 (⟨⟨_, rfl⟩, ⟨tg, (fun _ _ => rfl), kp90, hX93⟩⟩)
      · refine lv_iconst (v := 0) hx hb dX10_lose_31 (by decide) ?_
        exact y_ir K hP hD hS (Nat.le_of_ble_eq_true rfl) (Nat.le_of_ble_eq_true rfl) (ty := .boolean) rfl rfl dX10_lose_32 (⟨⟨_, rfl⟩, ⟨tg, fun _ _ => rfl, wd_kp.rf, hIX0⟩⟩)
set_option maxHeartbeats 4000000 in
set_option maxRecDepth 100000 in
theorem X_feed (l : Launch) (D : va_G) (cy : Nat → ClassId) (sk sv : Nat → Nat) (w : Wd) (tg : Nat → Nat) (x : Nat) (td : Int32) (pc ac sc ln : Nat) (se plv : Nat → Int32) (x1 x2 x3 x4 x5 : Int32) (hIX0 : IX cy tg x td pc ac sc ln se plv w) : Ct l D cy sk sv yX10_feed wsX10_feed ({ frames := 1, cells := 0, slots := 0, locals := 22 }) [.ref x, .int x1, .int x2, .int x3, .int x4, .int x5] w (fun v w1 => v = some (.int (feedA ln)) ∧ XP cy tg x td pc ac sc (feedC ln) se plv w w1) := by
  refine Ct.by (cc := cX10_feed) (maxL := 6) (ret := (some .int)) (by decide +kernel) rfl (Nat.le_of_ble_eq_true rfl) ?_
  intro p e s m args below meth c A Q F hnm K ls hl
  have F : wd_Fx p s m args meth c cX10_feed 6 wsX10_feed RX10 D cy sk sv A := F
  have hl : lv_has ls 6 [(0, .ref x), (1, .int x1), (2, .int x2), (3, .int x3), (4, .int x4), (5, .int x5)] := hl
  have hx := F.1.1
  have hb := F.1.2.1
  have hown := F.1.2.2.2.1
  have hts := F.1.2.2.2.2
  intro H locs hP hD hS
  have kp0 : wd_kp (fun b => tg b < 10000) w w := wd_kp.rf
  refine hIX0 _ ?_
  intro a0 a1 a2 a3 a4 a5 a6 a7 a8 a10 a11 b0 b1 b2 b3 tb l0 l1 l2 l3 l4 l5 l6 l7 bl bm sh gc sg lu lv9 f0 f1 f2 f3 tbf e0 e1 e4 e5 e7 ff bf bf2 e2 e3 e6 ta sz fo to fo2 to2 tf tn ag co ra aa ru ga0 ga1 ga2 ga3 ga4 df cf nf sf uf pf pa pwo phd pgd pdy pno ptp af ad av0 av1 av2 av3 zf so sr sp0 sp1 sd hf sw hto hpp hle ham hhh hdd hru hde hcp hld hp90 hp91 hp92 hp93 hp94 hp95 hp96 hp97 hag kI0 tI0 kI1 tI1 kI2 tI2 kI3 tI3 kI4 tI4 kI5 tI5 kI6 tI6 kI7 tI7 kI8 tI8 kI9 tI9 kI10 tI10 kI11 tI11 kI12 tI12 kI13 tI13 kI14 tI14 kI15 tI15 kI16 tI16 kI17 tI17 kI18 tI18 kI19 tI19 kI20 tI20 kI21 tI21 kI22 tI22 kI23 tI23 kI24 tI24 kI25 tI25 kI26 tI26 hT9 hG9 hP9 hA9 hS9 hH9
  refine lv_aload_n hx hb dX10_feed_0 rfl (lv_at hl 0 rfl) ?_
  refine x_get (ref := "NoteHouse") F hP kI0 rfl (fun _ h => List.mem_cons_of_mem _ (List.mem_append_left _ (List.mem_append_right _ (h)))) 6 (Nat.le_of_ble_eq_true rfl) (List.mem_cons_of_mem _ (List.mem_append_left _ (List.mem_append_left _ (List.mem_of_getElem? (i := 0) rfl)))) rfl rfl dX10_feed_1 ?_
  refine lv_bipush (v := 20) hx hb dX10_feed_4 (by decide) ?_
  refine x_callV (n := 1) (As := [.int 20]) (rest := []) F hP hD hS (g_hasRoom l D cy sk sv w a6 tb ln ta kI11 (by omega)) gX10_feed_X7_hasRoom rfl rfl (by decide +kernel) ⟨(Nat.le_of_ble_eq_true rfl), (Nat.le_of_ble_eq_true rfl)⟩ rfl hl.1 (Nat.le_of_ble_eq_true rfl) kI11 rfl dX10_feed_6 rfl ⟨(Nat.le_of_ble_eq_true rfl), (Nat.le_of_ble_eq_true rfl)⟩ (fun v2 w3 hp1 H locs hP hD hS => ?_)
  obtain ⟨rx4, rfl, hz5, hz6, hz7, rfl⟩ := hp1
  refine W.eq (g2 := F0 m 9 ls [.int rx4]) rfl (W.widen (k := 0) (n := 0) (Nat.le_of_ble_eq_true rfl) (Nat.le_of_ble_eq_true rfl) ?_)
  refine lv_if_ne (tgt := 14) hx hb dX10_feed_9 (by decide) (fun c_8 => ?_) (fun c_8 => ?_)
  · have hrm := hz7 c_8
    refine lv_aload_n hx hb dX10_feed_14 rfl (lv_at hl 0 rfl) ?_
    refine x_get (ref := "NoteHouse") F hP kI0 rfl (fun _ h => List.mem_cons_of_mem _ (List.mem_append_left _ (List.mem_append_right _ (h)))) 6 (Nat.le_of_ble_eq_true rfl) (List.mem_cons_of_mem _ (List.mem_append_left _ (List.mem_append_left _ (List.mem_of_getElem? (i := 0) rfl)))) rfl rfl dX10_feed_15 ?_
    refine lv_iload_n hx hb dX10_feed_18 rfl (lv_at hl 1 rfl) ?_
    refine x_callV (n := 1) (As := [.int x1]) (rest := []) F hP hD hS (g_append l D cy sk sv w a6 tb ln ta x1 tbf kI11 kI12 (fun b => b = a6 ∨ b = tb) (Or.inl rfl) (Or.inr rfl) (by omega)) gX10_feed_X7_append rfl rfl (by decide +kernel) ⟨(Nat.le_of_ble_eq_true rfl), (Nat.le_of_ble_eq_true rfl)⟩ rfl hl.1 (Nat.le_of_ble_eq_true rfl) kI11 rfl dX10_feed_19 rfl ⟨(Nat.le_of_ble_eq_true rfl), (Nat.le_of_ble_eq_true rfl)⟩ (fun v10 w11 hp9 H locs hP hD hS => ?_)
    obtain ⟨gx12, rfl, kq15, k13, k14⟩ := hp9
    have k16 := kq15.2 _ _ kI0 (fun q9 => Or.elim q9 (tg_ne tI0 tI11 (by omega)) (fun q9 : x = tb => (tg_ne tI0 tI12 (by omega)) q9))
    have k17 := kq15.2 _ _ kI1 (fun q9 => Or.elim q9 (tg_ne tI1 tI11 (by omega)) (fun q9 : a0 = tb => (tg_ne tI1 tI12 (by omega)) q9))
    have k18 := kq15.2 _ _ kI2 (fun q9 => Or.elim q9 (tg_ne tI2 tI11 (by omega)) (fun q9 : b0 = tb => (tg_ne tI2 tI12 (by omega)) q9))
    have k19 := kq15.2 _ _ kI3 (fun q9 => Or.elim q9 (tg_ne tI3 tI11 (by omega)) (fun q9 : b1 = tb => (tg_ne tI3 tI12 (by omega)) q9))
    have k20 := kq15.2 _ _ kI4 (fun q9 => Or.elim q9 (tg_ne tI4 tI11 (by omega)) (fun q9 : b2 = tb => (tg_ne tI4 tI12 (by omega)) q9))
    have k21 := kq15.2 _ _ kI5 (fun q9 => Or.elim q9 (tg_ne tI5 tI11 (by omega)) (fun q9 : b3 = tb => (tg_ne tI5 tI12 (by omega)) q9))
    have k22 := kq15.2 _ _ kI6 (fun q9 => Or.elim q9 (tg_ne tI6 tI11 (by omega)) (fun q9 : a1 = tb => (tg_ne tI6 tI12 (by omega)) q9))
    have k23 := kq15.2 _ _ kI7 (fun q9 => Or.elim q9 (tg_ne tI7 tI11 (by omega)) (fun q9 : a2 = tb => (tg_ne tI7 tI12 (by omega)) q9))
    have k24 := kq15.2 _ _ kI8 (fun q9 => Or.elim q9 (tg_ne tI8 tI11 (by omega)) (fun q9 : a3 = tb => (tg_ne tI8 tI12 (by omega)) q9))
    have k25 := kq15.2 _ _ kI9 (fun q9 => Or.elim q9 (tg_ne tI9 tI11 (by omega)) (fun q9 : a4 = tb => (tg_ne tI9 tI12 (by omega)) q9))
    have k26 := kq15.2 _ _ kI10 (fun q9 => Or.elim q9 (tg_ne tI10 tI11 (by omega)) (fun q9 : a5 = tb => (tg_ne tI10 tI12 (by omega)) q9))
    have k27 := kq15.2 _ _ kI13 (fun q9 => Or.elim q9 (tg_ne tI13 tI11 (by omega)) (fun q9 : a7 = tb => (tg_ne tI13 tI12 (by omega)) q9))
    have k28 := kq15.2 _ _ kI14 (fun q9 => Or.elim q9 (tg_ne tI14 tI11 (by omega)) (fun q9 : l0 = tb => (tg_ne tI14 tI12 (by omega)) q9))
    have k29 := kq15.2 _ _ kI15 (fun q9 => Or.elim q9 (tg_ne tI15 tI11 (by omega)) (fun q9 : l1 = tb => (tg_ne tI15 tI12 (by omega)) q9))
    have k30 := kq15.2 _ _ kI16 (fun q9 => Or.elim q9 (tg_ne tI16 tI11 (by omega)) (fun q9 : l2 = tb => (tg_ne tI16 tI12 (by omega)) q9))
    have k31 := kq15.2 _ _ kI17 (fun q9 => Or.elim q9 (tg_ne tI17 tI11 (by omega)) (fun q9 : l3 = tb => (tg_ne tI17 tI12 (by omega)) q9))
    have k32 := kq15.2 _ _ kI18 (fun q9 => Or.elim q9 (tg_ne tI18 tI11 (by omega)) (fun q9 : l4 = tb => (tg_ne tI18 tI12 (by omega)) q9))
    have k33 := kq15.2 _ _ kI19 (fun q9 => Or.elim q9 (tg_ne tI19 tI11 (by omega)) (fun q9 : l5 = tb => (tg_ne tI19 tI12 (by omega)) q9))
    have k34 := kq15.2 _ _ kI20 (fun q9 => Or.elim q9 (tg_ne tI20 tI11 (by omega)) (fun q9 : l6 = tb => (tg_ne tI20 tI12 (by omega)) q9))
    have k35 := kq15.2 _ _ kI21 (fun q9 => Or.elim q9 (tg_ne tI21 tI11 (by omega)) (fun q9 : l7 = tb => (tg_ne tI21 tI12 (by omega)) q9))
    have k36 := kq15.2 _ _ kI22 (fun q9 => Or.elim q9 (tg_ne tI22 tI11 (by omega)) (fun q9 : a8 = tb => (tg_ne tI22 tI12 (by omega)) q9))
    have k37 := kq15.2 _ _ kI23 (fun q9 => Or.elim q9 (tg_ne tI23 tI11 (by omega)) (fun q9 : a10 = tb => (tg_ne tI23 tI12 (by omega)) q9))
    have k38 := kq15.2 _ _ kI24 (fun q9 => Or.elim q9 (tg_ne tI24 tI11 (by omega)) (fun q9 : bl = tb => (tg_ne tI24 tI12 (by omega)) q9))
    have k39 := kq15.2 _ _ kI25 (fun q9 => Or.elim q9 (tg_ne tI25 tI11 (by omega)) (fun q9 : a11 = tb => (tg_ne tI25 tI12 (by omega)) q9))
    have k40 := kq15.2 _ _ kI26 (fun q9 => Or.elim q9 (tg_ne tI26 tI11 (by omega)) (fun q9 : bm = tb => (tg_ne tI26 tI12 (by omega)) q9))
    have fm41 : ∀ i9, i9 < 12 → tf i9 = some (tn i9) ∧ wd_at w11 (tn i9) (.inr (8, [.int (co i9), .int (ra i9), .int (se i9), .ref (ag i9)])) ∧ tg (tn i9) = 100 + i9 := fun i9 hi9 => ⟨(hT9 i9 hi9).1, kq15.2 _ _ (hT9 i9 hi9).2.1 (fun q9 => Or.elim q9 (tg_ne (hT9 i9 hi9).2.2 tI11 (by omega)) (tg_ne (hT9 i9 hi9).2.2 tI12 (by omega))), (hT9 i9 hi9).2.2⟩
    have fm42 : ∀ k9, k9 < 13 → (aOK (cf k9) (nf k9) ∧ ru k9 ≤ 12) ∧ wd_at w11 (aa k9) (.inr (1, [.ref (ga0 k9), .ref (ga1 k9), .ref (ga2 k9), .ref (ga3 k9), .ref (ga4 k9), .int (nI (ru k9))])) ∧ tg (aa k9) = 200 + k9 ∧ wd_at w11 (ga0 k9) (.inl (cy 2, 12, .inl (df k9))) ∧ tg (ga0 k9) = 220 + k9 ∧ wd_at w11 (ga1 k9) (.inl (cy 2, 12, .inl (cf k9))) ∧ tg (ga1 k9) = 240 + k9 ∧ wd_at w11 (ga2 k9) (.inl (cy 2, 72, .inl (nf k9))) ∧ tg (ga2 k9) = 260 + k9 ∧ wd_at w11 (ga3 k9) (.inl (cy 1, 72, .inl (sf k9))) ∧ tg (ga3 k9) = 280 + k9 ∧ wd_at w11 (ga4 k9) (.inl (cy 2, 72, .inl (uf k9))) ∧ tg (ga4 k9) = 300 + k9 := fun k9 hi9 => ⟨(hG9 k9 hi9).1, kq15.2 _ _ (hG9 k9 hi9).2.1 (fun q9 => Or.elim q9 (tg_ne (hG9 k9 hi9).2.2.1 tI11 (by omega)) (tg_ne (hG9 k9 hi9).2.2.1 tI12 (by omega))), (hG9 k9 hi9).2.2.1, kq15.2 _ _ (hG9 k9 hi9).2.2.2.1 (fun q9 => Or.elim q9 (tg_ne (hG9 k9 hi9).2.2.2.2.1 tI11 (by omega)) (tg_ne (hG9 k9 hi9).2.2.2.2.1 tI12 (by omega))), (hG9 k9 hi9).2.2.2.2.1, kq15.2 _ _ (hG9 k9 hi9).2.2.2.2.2.1 (fun q9 => Or.elim q9 (tg_ne (hG9 k9 hi9).2.2.2.2.2.2.1 tI11 (by omega)) (tg_ne (hG9 k9 hi9).2.2.2.2.2.2.1 tI12 (by omega))), (hG9 k9 hi9).2.2.2.2.2.2.1, kq15.2 _ _ (hG9 k9 hi9).2.2.2.2.2.2.2.1 (fun q9 => Or.elim q9 (tg_ne (hG9 k9 hi9).2.2.2.2.2.2.2.2.1 tI11 (by omega)) (tg_ne (hG9 k9 hi9).2.2.2.2.2.2.2.2.1 tI12 (by omega))), (hG9 k9 hi9).2.2.2.2.2.2.2.2.1, kq15.2 _ _ (hG9 k9 hi9).2.2.2.2.2.2.2.2.2.1 (fun q9 => Or.elim q9 (tg_ne (hG9 k9 hi9).2.2.2.2.2.2.2.2.2.2.1 tI11 (by omega)) (tg_ne (hG9 k9 hi9).2.2.2.2.2.2.2.2.2.2.1 tI12 (by omega))), (hG9 k9 hi9).2.2.2.2.2.2.2.2.2.2.1, kq15.2 _ _ (hG9 k9 hi9).2.2.2.2.2.2.2.2.2.2.2.1 (fun q9 => Or.elim q9 (tg_ne (hG9 k9 hi9).2.2.2.2.2.2.2.2.2.2.2.2 tI11 (by omega)) (tg_ne (hG9 k9 hi9).2.2.2.2.2.2.2.2.2.2.2.2 tI12 (by omega))), (hG9 k9 hi9).2.2.2.2.2.2.2.2.2.2.2.2⟩
    have fm43 : ∀ k9, k9 < pc → pf k9 = some (pa k9) ∧ wd_at w11 (pa k9) (.inr (3, [.int (plv k9), .int (pwo k9), .int (phd k9), .int (pgd k9), .int (pdy k9), .int (pno k9), .int (ptp k9)])) ∧ tg (pa k9) = 3000 + k9 := fun k9 hi9 => ⟨(hP9 k9 hi9).1, kq15.2 _ _ (hP9 k9 hi9).2.1 (fun q9 => Or.elim q9 (tg_ne (hP9 k9 hi9).2.2 tI11 (by omega)) (tg_ne (hP9 k9 hi9).2.2 tI12 (by omega))), (hP9 k9 hi9).2.2⟩
    have fm44 : ∀ k9, k9 < ac → af k9 = some (ad k9) ∧ wd_at w11 (ad k9) (.inr (0, [.int (av0 k9), .int (av1 k9), .int (av2 k9), .int (av3 k9)])) ∧ tg (ad k9) = 4000 + k9 := fun k9 hi9 => ⟨(hA9 k9 hi9).1, kq15.2 _ _ (hA9 k9 hi9).2.1 (fun q9 => Or.elim q9 (tg_ne (hA9 k9 hi9).2.2 tI11 (by omega)) (tg_ne (hA9 k9 hi9).2.2 tI12 (by omega))), (hA9 k9 hi9).2.2⟩
    have fm45 : ∀ k9, k9 < sc → zf k9 = some (so k9) ∧ wd_at w11 (so k9) (.inr (6, [.int (sp0 k9), .int (sp1 k9), .ref (sr k9)])) ∧ tg (so k9) = 5000 + k9 ∧ wd_at w11 (sr k9) (.inl (cy 2, 12, .inl (sd k9))) ∧ tg (sr k9) = 6000 + k9 := fun k9 hi9 => ⟨(hS9 k9 hi9).1, kq15.2 _ _ (hS9 k9 hi9).2.1 (fun q9 => Or.elim q9 (tg_ne (hS9 k9 hi9).2.2.1 tI11 (by omega)) (tg_ne (hS9 k9 hi9).2.2.1 tI12 (by omega))), (hS9 k9 hi9).2.2.1, kq15.2 _ _ (hS9 k9 hi9).2.2.2.1 (fun q9 => Or.elim q9 (tg_ne (hS9 k9 hi9).2.2.2.2 tI11 (by omega)) (tg_ne (hS9 k9 hi9).2.2.2.2 tI12 (by omega))), (hS9 k9 hi9).2.2.2.2⟩
    have fm46 : ∀ k9, k9 < sh → (hf k9 = some (sw k9) ∧ hto k9 < 12) ∧ wd_at w11 (sw k9) (.inr (5, [.int (nI (hto k9)), .int (hpp k9), .int (hle k9), .int (ham k9), .int (hhh k9), .int (hdd k9), .int (hru k9), .int (hde k9), .int (hcp k9), .int (hld k9)])) ∧ tg (sw k9) = 7000 + k9 := fun k9 hi9 => ⟨(hH9 k9 hi9).1, kq15.2 _ _ (hH9 k9 hi9).2.1 (fun q9 => Or.elim q9 (tg_ne (hH9 k9 hi9).2.2 tI11 (by omega)) (tg_ne (hH9 k9 hi9).2.2 tI12 (by omega))), (hH9 k9 hi9).2.2⟩
    have kp47 := kp0.tr kq15 (fun b9 hm q9 => (fun q9 => Or.elim q9 (fun q9 => q9 ▸ (tgS tI11 (by omega))) (fun q9 => q9 ▸ (tgS tI12 (by omega)))) q9)
    refine W.eq (g2 := F0 m 22 ls []) rfl (W.widen (k := 0) (n := 0) (Nat.le_of_ble_eq_true rfl) (Nat.le_of_ble_eq_true rfl) ?_)
    refine lv_aload_n hx hb dX10_feed_22 rfl (lv_at hl 0 rfl) ?_
    refine x_get (ref := "NoteHouse") F hP k16 rfl (fun _ h => List.mem_cons_of_mem _ (List.mem_append_left _ (List.mem_append_right _ (h)))) 6 (Nat.le_of_ble_eq_true rfl) (List.mem_cons_of_mem _ (List.mem_append_left _ (List.mem_append_left _ (List.mem_of_getElem? (i := 0) rfl)))) rfl rfl dX10_feed_23 ?_
    refine lv_iload_n hx hb dX10_feed_26 rfl (lv_at hl 2 rfl) ?_
    refine x_callV (n := 1) (As := [.int x2]) (rest := []) F hP hD hS (g_append l D cy sk sv w11 a6 tb (ln + 4) ta x2 gx12 k13 k14 (fun b => b = a6 ∨ b = tb) (Or.inl rfl) (Or.inr rfl) (by omega)) gX10_feed_X7_append rfl rfl (by decide +kernel) ⟨(Nat.le_of_ble_eq_true rfl), (Nat.le_of_ble_eq_true rfl)⟩ rfl hl.1 (Nat.le_of_ble_eq_true rfl) k13 rfl dX10_feed_27 rfl ⟨(Nat.le_of_ble_eq_true rfl), (Nat.le_of_ble_eq_true rfl)⟩ (fun v49 w50 hp48 H locs hP hD hS => ?_)
    obtain ⟨gx51, rfl, kq54, k52, k53⟩ := hp48
    have k55 := kq54.2 _ _ k16 (fun q9 => Or.elim q9 (tg_ne tI0 tI11 (by omega)) (fun q9 : x = tb => (tg_ne tI0 tI12 (by omega)) q9))
    have k56 := kq54.2 _ _ k17 (fun q9 => Or.elim q9 (tg_ne tI1 tI11 (by omega)) (fun q9 : a0 = tb => (tg_ne tI1 tI12 (by omega)) q9))
    have k57 := kq54.2 _ _ k18 (fun q9 => Or.elim q9 (tg_ne tI2 tI11 (by omega)) (fun q9 : b0 = tb => (tg_ne tI2 tI12 (by omega)) q9))
    have k58 := kq54.2 _ _ k19 (fun q9 => Or.elim q9 (tg_ne tI3 tI11 (by omega)) (fun q9 : b1 = tb => (tg_ne tI3 tI12 (by omega)) q9))
    have k59 := kq54.2 _ _ k20 (fun q9 => Or.elim q9 (tg_ne tI4 tI11 (by omega)) (fun q9 : b2 = tb => (tg_ne tI4 tI12 (by omega)) q9))
    have k60 := kq54.2 _ _ k21 (fun q9 => Or.elim q9 (tg_ne tI5 tI11 (by omega)) (fun q9 : b3 = tb => (tg_ne tI5 tI12 (by omega)) q9))
    have k61 := kq54.2 _ _ k22 (fun q9 => Or.elim q9 (tg_ne tI6 tI11 (by omega)) (fun q9 : a1 = tb => (tg_ne tI6 tI12 (by omega)) q9))
    have k62 := kq54.2 _ _ k23 (fun q9 => Or.elim q9 (tg_ne tI7 tI11 (by omega)) (fun q9 : a2 = tb => (tg_ne tI7 tI12 (by omega)) q9))
    have k63 := kq54.2 _ _ k24 (fun q9 => Or.elim q9 (tg_ne tI8 tI11 (by omega)) (fun q9 : a3 = tb => (tg_ne tI8 tI12 (by omega)) q9))
    have k64 := kq54.2 _ _ k25 (fun q9 => Or.elim q9 (tg_ne tI9 tI11 (by omega)) (fun q9 : a4 = tb => (tg_ne tI9 tI12 (by omega)) q9))
    have k65 := kq54.2 _ _ k26 (fun q9 => Or.elim q9 (tg_ne tI10 tI11 (by omega)) (fun q9 : a5 = tb => (tg_ne tI10 tI12 (by omega)) q9))
    have k66 := kq54.2 _ _ k27 (fun q9 => Or.elim q9 (tg_ne tI13 tI11 (by omega)) (fun q9 : a7 = tb => (tg_ne tI13 tI12 (by omega)) q9))
    have k67 := kq54.2 _ _ k28 (fun q9 => Or.elim q9 (tg_ne tI14 tI11 (by omega)) (fun q9 : l0 = tb => (tg_ne tI14 tI12 (by omega)) q9))
    have k68 := kq54.2 _ _ k29 (fun q9 => Or.elim q9 (tg_ne tI15 tI11 (by omega)) (fun q9 : l1 = tb => (tg_ne tI15 tI12 (by omega)) q9))
    have k69 := kq54.2 _ _ k30 (fun q9 => Or.elim q9 (tg_ne tI16 tI11 (by omega)) (fun q9 : l2 = tb => (tg_ne tI16 tI12 (by omega)) q9))
    have k70 := kq54.2 _ _ k31 (fun q9 => Or.elim q9 (tg_ne tI17 tI11 (by omega)) (fun q9 : l3 = tb => (tg_ne tI17 tI12 (by omega)) q9))
    have k71 := kq54.2 _ _ k32 (fun q9 => Or.elim q9 (tg_ne tI18 tI11 (by omega)) (fun q9 : l4 = tb => (tg_ne tI18 tI12 (by omega)) q9))
    have k72 := kq54.2 _ _ k33 (fun q9 => Or.elim q9 (tg_ne tI19 tI11 (by omega)) (fun q9 : l5 = tb => (tg_ne tI19 tI12 (by omega)) q9))
    have k73 := kq54.2 _ _ k34 (fun q9 => Or.elim q9 (tg_ne tI20 tI11 (by omega)) (fun q9 : l6 = tb => (tg_ne tI20 tI12 (by omega)) q9))
    have k74 := kq54.2 _ _ k35 (fun q9 => Or.elim q9 (tg_ne tI21 tI11 (by omega)) (fun q9 : l7 = tb => (tg_ne tI21 tI12 (by omega)) q9))
    have k75 := kq54.2 _ _ k36 (fun q9 => Or.elim q9 (tg_ne tI22 tI11 (by omega)) (fun q9 : a8 = tb => (tg_ne tI22 tI12 (by omega)) q9))
    have k76 := kq54.2 _ _ k37 (fun q9 => Or.elim q9 (tg_ne tI23 tI11 (by omega)) (fun q9 : a10 = tb => (tg_ne tI23 tI12 (by omega)) q9))
    have k77 := kq54.2 _ _ k38 (fun q9 => Or.elim q9 (tg_ne tI24 tI11 (by omega)) (fun q9 : bl = tb => (tg_ne tI24 tI12 (by omega)) q9))
    have k78 := kq54.2 _ _ k39 (fun q9 => Or.elim q9 (tg_ne tI25 tI11 (by omega)) (fun q9 : a11 = tb => (tg_ne tI25 tI12 (by omega)) q9))
    have k79 := kq54.2 _ _ k40 (fun q9 => Or.elim q9 (tg_ne tI26 tI11 (by omega)) (fun q9 : bm = tb => (tg_ne tI26 tI12 (by omega)) q9))
    have fm80 : ∀ i9, i9 < 12 → tf i9 = some (tn i9) ∧ wd_at w50 (tn i9) (.inr (8, [.int (co i9), .int (ra i9), .int (se i9), .ref (ag i9)])) ∧ tg (tn i9) = 100 + i9 := fun i9 hi9 => ⟨(fm41 i9 hi9).1, kq54.2 _ _ (fm41 i9 hi9).2.1 (fun q9 => Or.elim q9 (tg_ne (fm41 i9 hi9).2.2 tI11 (by omega)) (tg_ne (fm41 i9 hi9).2.2 tI12 (by omega))), (fm41 i9 hi9).2.2⟩
    have fm81 : ∀ k9, k9 < 13 → (aOK (cf k9) (nf k9) ∧ ru k9 ≤ 12) ∧ wd_at w50 (aa k9) (.inr (1, [.ref (ga0 k9), .ref (ga1 k9), .ref (ga2 k9), .ref (ga3 k9), .ref (ga4 k9), .int (nI (ru k9))])) ∧ tg (aa k9) = 200 + k9 ∧ wd_at w50 (ga0 k9) (.inl (cy 2, 12, .inl (df k9))) ∧ tg (ga0 k9) = 220 + k9 ∧ wd_at w50 (ga1 k9) (.inl (cy 2, 12, .inl (cf k9))) ∧ tg (ga1 k9) = 240 + k9 ∧ wd_at w50 (ga2 k9) (.inl (cy 2, 72, .inl (nf k9))) ∧ tg (ga2 k9) = 260 + k9 ∧ wd_at w50 (ga3 k9) (.inl (cy 1, 72, .inl (sf k9))) ∧ tg (ga3 k9) = 280 + k9 ∧ wd_at w50 (ga4 k9) (.inl (cy 2, 72, .inl (uf k9))) ∧ tg (ga4 k9) = 300 + k9 := fun k9 hi9 => ⟨(fm42 k9 hi9).1, kq54.2 _ _ (fm42 k9 hi9).2.1 (fun q9 => Or.elim q9 (tg_ne (fm42 k9 hi9).2.2.1 tI11 (by omega)) (tg_ne (fm42 k9 hi9).2.2.1 tI12 (by omega))), (fm42 k9 hi9).2.2.1, kq54.2 _ _ (fm42 k9 hi9).2.2.2.1 (fun q9 => Or.elim q9 (tg_ne (fm42 k9 hi9).2.2.2.2.1 tI11 (by omega)) (tg_ne (fm42 k9 hi9).2.2.2.2.1 tI12 (by omega))), (fm42 k9 hi9).2.2.2.2.1, kq54.2 _ _ (fm42 k9 hi9).2.2.2.2.2.1 (fun q9 => Or.elim q9 (tg_ne (fm42 k9 hi9).2.2.2.2.2.2.1 tI11 (by omega)) (tg_ne (fm42 k9 hi9).2.2.2.2.2.2.1 tI12 (by omega))), (fm42 k9 hi9).2.2.2.2.2.2.1, kq54.2 _ _ (fm42 k9 hi9).2.2.2.2.2.2.2.1 (fun q9 => Or.elim q9 (tg_ne (fm42 k9 hi9).2.2.2.2.2.2.2.2.1 tI11 (by omega)) (tg_ne (fm42 k9 hi9).2.2.2.2.2.2.2.2.1 tI12 (by omega))), (fm42 k9 hi9).2.2.2.2.2.2.2.2.1, kq54.2 _ _ (fm42 k9 hi9).2.2.2.2.2.2.2.2.2.1 (fun q9 => Or.elim q9 (tg_ne (fm42 k9 hi9).2.2.2.2.2.2.2.2.2.2.1 tI11 (by omega)) (tg_ne (fm42 k9 hi9).2.2.2.2.2.2.2.2.2.2.1 tI12 (by omega))), (fm42 k9 hi9).2.2.2.2.2.2.2.2.2.2.1, kq54.2 _ _ (fm42 k9 hi9).2.2.2.2.2.2.2.2.2.2.2.1 (fun q9 => Or.elim q9 (tg_ne (fm42 k9 hi9).2.2.2.2.2.2.2.2.2.2.2.2 tI11 (by omega)) (tg_ne (fm42 k9 hi9).2.2.2.2.2.2.2.2.2.2.2.2 tI12 (by omega))), (fm42 k9 hi9).2.2.2.2.2.2.2.2.2.2.2.2⟩
    have fm82 : ∀ k9, k9 < pc → pf k9 = some (pa k9) ∧ wd_at w50 (pa k9) (.inr (3, [.int (plv k9), .int (pwo k9), .int (phd k9), .int (pgd k9), .int (pdy k9), .int (pno k9), .int (ptp k9)])) ∧ tg (pa k9) = 3000 + k9 := fun k9 hi9 => ⟨(fm43 k9 hi9).1, kq54.2 _ _ (fm43 k9 hi9).2.1 (fun q9 => Or.elim q9 (tg_ne (fm43 k9 hi9).2.2 tI11 (by omega)) (tg_ne (fm43 k9 hi9).2.2 tI12 (by omega))), (fm43 k9 hi9).2.2⟩
    have fm83 : ∀ k9, k9 < ac → af k9 = some (ad k9) ∧ wd_at w50 (ad k9) (.inr (0, [.int (av0 k9), .int (av1 k9), .int (av2 k9), .int (av3 k9)])) ∧ tg (ad k9) = 4000 + k9 := fun k9 hi9 => ⟨(fm44 k9 hi9).1, kq54.2 _ _ (fm44 k9 hi9).2.1 (fun q9 => Or.elim q9 (tg_ne (fm44 k9 hi9).2.2 tI11 (by omega)) (tg_ne (fm44 k9 hi9).2.2 tI12 (by omega))), (fm44 k9 hi9).2.2⟩
    have fm84 : ∀ k9, k9 < sc → zf k9 = some (so k9) ∧ wd_at w50 (so k9) (.inr (6, [.int (sp0 k9), .int (sp1 k9), .ref (sr k9)])) ∧ tg (so k9) = 5000 + k9 ∧ wd_at w50 (sr k9) (.inl (cy 2, 12, .inl (sd k9))) ∧ tg (sr k9) = 6000 + k9 := fun k9 hi9 => ⟨(fm45 k9 hi9).1, kq54.2 _ _ (fm45 k9 hi9).2.1 (fun q9 => Or.elim q9 (tg_ne (fm45 k9 hi9).2.2.1 tI11 (by omega)) (tg_ne (fm45 k9 hi9).2.2.1 tI12 (by omega))), (fm45 k9 hi9).2.2.1, kq54.2 _ _ (fm45 k9 hi9).2.2.2.1 (fun q9 => Or.elim q9 (tg_ne (fm45 k9 hi9).2.2.2.2 tI11 (by omega)) (tg_ne (fm45 k9 hi9).2.2.2.2 tI12 (by omega))), (fm45 k9 hi9).2.2.2.2⟩
    have fm85 : ∀ k9, k9 < sh → (hf k9 = some (sw k9) ∧ hto k9 < 12) ∧ wd_at w50 (sw k9) (.inr (5, [.int (nI (hto k9)), .int (hpp k9), .int (hle k9), .int (ham k9), .int (hhh k9), .int (hdd k9), .int (hru k9), .int (hde k9), .int (hcp k9), .int (hld k9)])) ∧ tg (sw k9) = 7000 + k9 := fun k9 hi9 => ⟨(fm46 k9 hi9).1, kq54.2 _ _ (fm46 k9 hi9).2.1 (fun q9 => Or.elim q9 (tg_ne (fm46 k9 hi9).2.2 tI11 (by omega)) (tg_ne (fm46 k9 hi9).2.2 tI12 (by omega))), (fm46 k9 hi9).2.2⟩
    have kp86 := kp47.tr kq54 (fun b9 hm q9 => (fun q9 => Or.elim q9 (fun q9 => q9 ▸ (tgS tI11 (by omega))) (fun q9 => q9 ▸ (tgS tI12 (by omega)))) q9)
    refine W.eq (g2 := F0 m 30 ls []) rfl (W.widen (k := 0) (n := 0) (Nat.le_of_ble_eq_true rfl) (Nat.le_of_ble_eq_true rfl) ?_)
    refine lv_aload_n hx hb dX10_feed_30 rfl (lv_at hl 0 rfl) ?_
    refine x_get (ref := "NoteHouse") F hP k55 rfl (fun _ h => List.mem_cons_of_mem _ (List.mem_append_left _ (List.mem_append_right _ (h)))) 6 (Nat.le_of_ble_eq_true rfl) (List.mem_cons_of_mem _ (List.mem_append_left _ (List.mem_append_left _ (List.mem_of_getElem? (i := 0) rfl)))) rfl rfl dX10_feed_31 ?_
    refine lv_iload_n hx hb dX10_feed_34 rfl (lv_at hl 3 rfl) ?_
    refine x_callV (n := 1) (As := [.int x3]) (rest := []) F hP hD hS (g_append l D cy sk sv w50 a6 tb ((ln + 4) + 4) ta x3 gx51 k52 k53 (fun b => b = a6 ∨ b = tb) (Or.inl rfl) (Or.inr rfl) (by omega)) gX10_feed_X7_append rfl rfl (by decide +kernel) ⟨(Nat.le_of_ble_eq_true rfl), (Nat.le_of_ble_eq_true rfl)⟩ rfl hl.1 (Nat.le_of_ble_eq_true rfl) k52 rfl dX10_feed_35 rfl ⟨(Nat.le_of_ble_eq_true rfl), (Nat.le_of_ble_eq_true rfl)⟩ (fun v88 w89 hp87 H locs hP hD hS => ?_)
    obtain ⟨gx90, rfl, kq93, k91, k92⟩ := hp87
    have k94 := kq93.2 _ _ k55 (fun q9 => Or.elim q9 (tg_ne tI0 tI11 (by omega)) (fun q9 : x = tb => (tg_ne tI0 tI12 (by omega)) q9))
    have k95 := kq93.2 _ _ k56 (fun q9 => Or.elim q9 (tg_ne tI1 tI11 (by omega)) (fun q9 : a0 = tb => (tg_ne tI1 tI12 (by omega)) q9))
    have k96 := kq93.2 _ _ k57 (fun q9 => Or.elim q9 (tg_ne tI2 tI11 (by omega)) (fun q9 : b0 = tb => (tg_ne tI2 tI12 (by omega)) q9))
    have k97 := kq93.2 _ _ k58 (fun q9 => Or.elim q9 (tg_ne tI3 tI11 (by omega)) (fun q9 : b1 = tb => (tg_ne tI3 tI12 (by omega)) q9))
    have k98 := kq93.2 _ _ k59 (fun q9 => Or.elim q9 (tg_ne tI4 tI11 (by omega)) (fun q9 : b2 = tb => (tg_ne tI4 tI12 (by omega)) q9))
    have k99 := kq93.2 _ _ k60 (fun q9 => Or.elim q9 (tg_ne tI5 tI11 (by omega)) (fun q9 : b3 = tb => (tg_ne tI5 tI12 (by omega)) q9))
    have k100 := kq93.2 _ _ k61 (fun q9 => Or.elim q9 (tg_ne tI6 tI11 (by omega)) (fun q9 : a1 = tb => (tg_ne tI6 tI12 (by omega)) q9))
    have k101 := kq93.2 _ _ k62 (fun q9 => Or.elim q9 (tg_ne tI7 tI11 (by omega)) (fun q9 : a2 = tb => (tg_ne tI7 tI12 (by omega)) q9))
    have k102 := kq93.2 _ _ k63 (fun q9 => Or.elim q9 (tg_ne tI8 tI11 (by omega)) (fun q9 : a3 = tb => (tg_ne tI8 tI12 (by omega)) q9))
    have k103 := kq93.2 _ _ k64 (fun q9 => Or.elim q9 (tg_ne tI9 tI11 (by omega)) (fun q9 : a4 = tb => (tg_ne tI9 tI12 (by omega)) q9))
    have k104 := kq93.2 _ _ k65 (fun q9 => Or.elim q9 (tg_ne tI10 tI11 (by omega)) (fun q9 : a5 = tb => (tg_ne tI10 tI12 (by omega)) q9))
    have k105 := kq93.2 _ _ k66 (fun q9 => Or.elim q9 (tg_ne tI13 tI11 (by omega)) (fun q9 : a7 = tb => (tg_ne tI13 tI12 (by omega)) q9))
    have k106 := kq93.2 _ _ k67 (fun q9 => Or.elim q9 (tg_ne tI14 tI11 (by omega)) (fun q9 : l0 = tb => (tg_ne tI14 tI12 (by omega)) q9))
    have k107 := kq93.2 _ _ k68 (fun q9 => Or.elim q9 (tg_ne tI15 tI11 (by omega)) (fun q9 : l1 = tb => (tg_ne tI15 tI12 (by omega)) q9))
    have k108 := kq93.2 _ _ k69 (fun q9 => Or.elim q9 (tg_ne tI16 tI11 (by omega)) (fun q9 : l2 = tb => (tg_ne tI16 tI12 (by omega)) q9))
    have k109 := kq93.2 _ _ k70 (fun q9 => Or.elim q9 (tg_ne tI17 tI11 (by omega)) (fun q9 : l3 = tb => (tg_ne tI17 tI12 (by omega)) q9))
    have k110 := kq93.2 _ _ k71 (fun q9 => Or.elim q9 (tg_ne tI18 tI11 (by omega)) (fun q9 : l4 = tb => (tg_ne tI18 tI12 (by omega)) q9))
    have k111 := kq93.2 _ _ k72 (fun q9 => Or.elim q9 (tg_ne tI19 tI11 (by omega)) (fun q9 : l5 = tb => (tg_ne tI19 tI12 (by omega)) q9))
    have k112 := kq93.2 _ _ k73 (fun q9 => Or.elim q9 (tg_ne tI20 tI11 (by omega)) (fun q9 : l6 = tb => (tg_ne tI20 tI12 (by omega)) q9))
    have k113 := kq93.2 _ _ k74 (fun q9 => Or.elim q9 (tg_ne tI21 tI11 (by omega)) (fun q9 : l7 = tb => (tg_ne tI21 tI12 (by omega)) q9))
    have k114 := kq93.2 _ _ k75 (fun q9 => Or.elim q9 (tg_ne tI22 tI11 (by omega)) (fun q9 : a8 = tb => (tg_ne tI22 tI12 (by omega)) q9))
    have k115 := kq93.2 _ _ k76 (fun q9 => Or.elim q9 (tg_ne tI23 tI11 (by omega)) (fun q9 : a10 = tb => (tg_ne tI23 tI12 (by omega)) q9))
    have k116 := kq93.2 _ _ k77 (fun q9 => Or.elim q9 (tg_ne tI24 tI11 (by omega)) (fun q9 : bl = tb => (tg_ne tI24 tI12 (by omega)) q9))
    have k117 := kq93.2 _ _ k78 (fun q9 => Or.elim q9 (tg_ne tI25 tI11 (by omega)) (fun q9 : a11 = tb => (tg_ne tI25 tI12 (by omega)) q9))
    have k118 := kq93.2 _ _ k79 (fun q9 => Or.elim q9 (tg_ne tI26 tI11 (by omega)) (fun q9 : bm = tb => (tg_ne tI26 tI12 (by omega)) q9))
    have fm119 : ∀ i9, i9 < 12 → tf i9 = some (tn i9) ∧ wd_at w89 (tn i9) (.inr (8, [.int (co i9), .int (ra i9), .int (se i9), .ref (ag i9)])) ∧ tg (tn i9) = 100 + i9 := fun i9 hi9 => ⟨(fm80 i9 hi9).1, kq93.2 _ _ (fm80 i9 hi9).2.1 (fun q9 => Or.elim q9 (tg_ne (fm80 i9 hi9).2.2 tI11 (by omega)) (tg_ne (fm80 i9 hi9).2.2 tI12 (by omega))), (fm80 i9 hi9).2.2⟩
    have fm120 : ∀ k9, k9 < 13 → (aOK (cf k9) (nf k9) ∧ ru k9 ≤ 12) ∧ wd_at w89 (aa k9) (.inr (1, [.ref (ga0 k9), .ref (ga1 k9), .ref (ga2 k9), .ref (ga3 k9), .ref (ga4 k9), .int (nI (ru k9))])) ∧ tg (aa k9) = 200 + k9 ∧ wd_at w89 (ga0 k9) (.inl (cy 2, 12, .inl (df k9))) ∧ tg (ga0 k9) = 220 + k9 ∧ wd_at w89 (ga1 k9) (.inl (cy 2, 12, .inl (cf k9))) ∧ tg (ga1 k9) = 240 + k9 ∧ wd_at w89 (ga2 k9) (.inl (cy 2, 72, .inl (nf k9))) ∧ tg (ga2 k9) = 260 + k9 ∧ wd_at w89 (ga3 k9) (.inl (cy 1, 72, .inl (sf k9))) ∧ tg (ga3 k9) = 280 + k9 ∧ wd_at w89 (ga4 k9) (.inl (cy 2, 72, .inl (uf k9))) ∧ tg (ga4 k9) = 300 + k9 := fun k9 hi9 => ⟨(fm81 k9 hi9).1, kq93.2 _ _ (fm81 k9 hi9).2.1 (fun q9 => Or.elim q9 (tg_ne (fm81 k9 hi9).2.2.1 tI11 (by omega)) (tg_ne (fm81 k9 hi9).2.2.1 tI12 (by omega))), (fm81 k9 hi9).2.2.1, kq93.2 _ _ (fm81 k9 hi9).2.2.2.1 (fun q9 => Or.elim q9 (tg_ne (fm81 k9 hi9).2.2.2.2.1 tI11 (by omega)) (tg_ne (fm81 k9 hi9).2.2.2.2.1 tI12 (by omega))), (fm81 k9 hi9).2.2.2.2.1, kq93.2 _ _ (fm81 k9 hi9).2.2.2.2.2.1 (fun q9 => Or.elim q9 (tg_ne (fm81 k9 hi9).2.2.2.2.2.2.1 tI11 (by omega)) (tg_ne (fm81 k9 hi9).2.2.2.2.2.2.1 tI12 (by omega))), (fm81 k9 hi9).2.2.2.2.2.2.1, kq93.2 _ _ (fm81 k9 hi9).2.2.2.2.2.2.2.1 (fun q9 => Or.elim q9 (tg_ne (fm81 k9 hi9).2.2.2.2.2.2.2.2.1 tI11 (by omega)) (tg_ne (fm81 k9 hi9).2.2.2.2.2.2.2.2.1 tI12 (by omega))), (fm81 k9 hi9).2.2.2.2.2.2.2.2.1, kq93.2 _ _ (fm81 k9 hi9).2.2.2.2.2.2.2.2.2.1 (fun q9 => Or.elim q9 (tg_ne (fm81 k9 hi9).2.2.2.2.2.2.2.2.2.2.1 tI11 (by omega)) (tg_ne (fm81 k9 hi9).2.2.2.2.2.2.2.2.2.2.1 tI12 (by omega))), (fm81 k9 hi9).2.2.2.2.2.2.2.2.2.2.1, kq93.2 _ _ (fm81 k9 hi9).2.2.2.2.2.2.2.2.2.2.2.1 (fun q9 => Or.elim q9 (tg_ne (fm81 k9 hi9).2.2.2.2.2.2.2.2.2.2.2.2 tI11 (by omega)) (tg_ne (fm81 k9 hi9).2.2.2.2.2.2.2.2.2.2.2.2 tI12 (by omega))), (fm81 k9 hi9).2.2.2.2.2.2.2.2.2.2.2.2⟩
    have fm121 : ∀ k9, k9 < pc → pf k9 = some (pa k9) ∧ wd_at w89 (pa k9) (.inr (3, [.int (plv k9), .int (pwo k9), .int (phd k9), .int (pgd k9), .int (pdy k9), .int (pno k9), .int (ptp k9)])) ∧ tg (pa k9) = 3000 + k9 := fun k9 hi9 => ⟨(fm82 k9 hi9).1, kq93.2 _ _ (fm82 k9 hi9).2.1 (fun q9 => Or.elim q9 (tg_ne (fm82 k9 hi9).2.2 tI11 (by omega)) (tg_ne (fm82 k9 hi9).2.2 tI12 (by omega))), (fm82 k9 hi9).2.2⟩
    have fm122 : ∀ k9, k9 < ac → af k9 = some (ad k9) ∧ wd_at w89 (ad k9) (.inr (0, [.int (av0 k9), .int (av1 k9), .int (av2 k9), .int (av3 k9)])) ∧ tg (ad k9) = 4000 + k9 := fun k9 hi9 => ⟨(fm83 k9 hi9).1, kq93.2 _ _ (fm83 k9 hi9).2.1 (fun q9 => Or.elim q9 (tg_ne (fm83 k9 hi9).2.2 tI11 (by omega)) (tg_ne (fm83 k9 hi9).2.2 tI12 (by omega))), (fm83 k9 hi9).2.2⟩
    have fm123 : ∀ k9, k9 < sc → zf k9 = some (so k9) ∧ wd_at w89 (so k9) (.inr (6, [.int (sp0 k9), .int (sp1 k9), .ref (sr k9)])) ∧ tg (so k9) = 5000 + k9 ∧ wd_at w89 (sr k9) (.inl (cy 2, 12, .inl (sd k9))) ∧ tg (sr k9) = 6000 + k9 := fun k9 hi9 => ⟨(fm84 k9 hi9).1, kq93.2 _ _ (fm84 k9 hi9).2.1 (fun q9 => Or.elim q9 (tg_ne (fm84 k9 hi9).2.2.1 tI11 (by omega)) (tg_ne (fm84 k9 hi9).2.2.1 tI12 (by omega))), (fm84 k9 hi9).2.2.1, kq93.2 _ _ (fm84 k9 hi9).2.2.2.1 (fun q9 => Or.elim q9 (tg_ne (fm84 k9 hi9).2.2.2.2 tI11 (by omega)) (tg_ne (fm84 k9 hi9).2.2.2.2 tI12 (by omega))), (fm84 k9 hi9).2.2.2.2⟩
    have fm124 : ∀ k9, k9 < sh → (hf k9 = some (sw k9) ∧ hto k9 < 12) ∧ wd_at w89 (sw k9) (.inr (5, [.int (nI (hto k9)), .int (hpp k9), .int (hle k9), .int (ham k9), .int (hhh k9), .int (hdd k9), .int (hru k9), .int (hde k9), .int (hcp k9), .int (hld k9)])) ∧ tg (sw k9) = 7000 + k9 := fun k9 hi9 => ⟨(fm85 k9 hi9).1, kq93.2 _ _ (fm85 k9 hi9).2.1 (fun q9 => Or.elim q9 (tg_ne (fm85 k9 hi9).2.2 tI11 (by omega)) (tg_ne (fm85 k9 hi9).2.2 tI12 (by omega))), (fm85 k9 hi9).2.2⟩
    have kp125 := kp86.tr kq93 (fun b9 hm q9 => (fun q9 => Or.elim q9 (fun q9 => q9 ▸ (tgS tI11 (by omega))) (fun q9 => q9 ▸ (tgS tI12 (by omega)))) q9)
    refine W.eq (g2 := F0 m 38 ls []) rfl (W.widen (k := 0) (n := 0) (Nat.le_of_ble_eq_true rfl) (Nat.le_of_ble_eq_true rfl) ?_)
    refine lv_aload_n hx hb dX10_feed_38 rfl (lv_at hl 0 rfl) ?_
    refine x_get (ref := "NoteHouse") F hP k94 rfl (fun _ h => List.mem_cons_of_mem _ (List.mem_append_left _ (List.mem_append_right _ (h)))) 6 (Nat.le_of_ble_eq_true rfl) (List.mem_cons_of_mem _ (List.mem_append_left _ (List.mem_append_left _ (List.mem_of_getElem? (i := 0) rfl)))) rfl rfl dX10_feed_39 ?_
    refine lv_iload hx hb dX10_feed_42 (lv_at hl 4 rfl) ?_
    refine x_callV (n := 1) (As := [.int x4]) (rest := []) F hP hD hS (g_append l D cy sk sv w89 a6 tb (((ln + 4) + 4) + 4) ta x4 gx90 k91 k92 (fun b => b = a6 ∨ b = tb) (Or.inl rfl) (Or.inr rfl) (by omega)) gX10_feed_X7_append rfl rfl (by decide +kernel) ⟨(Nat.le_of_ble_eq_true rfl), (Nat.le_of_ble_eq_true rfl)⟩ rfl hl.1 (Nat.le_of_ble_eq_true rfl) k91 rfl dX10_feed_44 rfl ⟨(Nat.le_of_ble_eq_true rfl), (Nat.le_of_ble_eq_true rfl)⟩ (fun v127 w128 hp126 H locs hP hD hS => ?_)
    obtain ⟨gx129, rfl, kq132, k130, k131⟩ := hp126
    have k133 := kq132.2 _ _ k94 (fun q9 => Or.elim q9 (tg_ne tI0 tI11 (by omega)) (fun q9 : x = tb => (tg_ne tI0 tI12 (by omega)) q9))
    have k134 := kq132.2 _ _ k95 (fun q9 => Or.elim q9 (tg_ne tI1 tI11 (by omega)) (fun q9 : a0 = tb => (tg_ne tI1 tI12 (by omega)) q9))
    have k135 := kq132.2 _ _ k96 (fun q9 => Or.elim q9 (tg_ne tI2 tI11 (by omega)) (fun q9 : b0 = tb => (tg_ne tI2 tI12 (by omega)) q9))
    have k136 := kq132.2 _ _ k97 (fun q9 => Or.elim q9 (tg_ne tI3 tI11 (by omega)) (fun q9 : b1 = tb => (tg_ne tI3 tI12 (by omega)) q9))
    have k137 := kq132.2 _ _ k98 (fun q9 => Or.elim q9 (tg_ne tI4 tI11 (by omega)) (fun q9 : b2 = tb => (tg_ne tI4 tI12 (by omega)) q9))
    have k138 := kq132.2 _ _ k99 (fun q9 => Or.elim q9 (tg_ne tI5 tI11 (by omega)) (fun q9 : b3 = tb => (tg_ne tI5 tI12 (by omega)) q9))
    have k139 := kq132.2 _ _ k100 (fun q9 => Or.elim q9 (tg_ne tI6 tI11 (by omega)) (fun q9 : a1 = tb => (tg_ne tI6 tI12 (by omega)) q9))
    have k140 := kq132.2 _ _ k101 (fun q9 => Or.elim q9 (tg_ne tI7 tI11 (by omega)) (fun q9 : a2 = tb => (tg_ne tI7 tI12 (by omega)) q9))
    have k141 := kq132.2 _ _ k102 (fun q9 => Or.elim q9 (tg_ne tI8 tI11 (by omega)) (fun q9 : a3 = tb => (tg_ne tI8 tI12 (by omega)) q9))
    have k142 := kq132.2 _ _ k103 (fun q9 => Or.elim q9 (tg_ne tI9 tI11 (by omega)) (fun q9 : a4 = tb => (tg_ne tI9 tI12 (by omega)) q9))
    have k143 := kq132.2 _ _ k104 (fun q9 => Or.elim q9 (tg_ne tI10 tI11 (by omega)) (fun q9 : a5 = tb => (tg_ne tI10 tI12 (by omega)) q9))
    have k144 := kq132.2 _ _ k105 (fun q9 => Or.elim q9 (tg_ne tI13 tI11 (by omega)) (fun q9 : a7 = tb => (tg_ne tI13 tI12 (by omega)) q9))
    have k145 := kq132.2 _ _ k106 (fun q9 => Or.elim q9 (tg_ne tI14 tI11 (by omega)) (fun q9 : l0 = tb => (tg_ne tI14 tI12 (by omega)) q9))
    have k146 := kq132.2 _ _ k107 (fun q9 => Or.elim q9 (tg_ne tI15 tI11 (by omega)) (fun q9 : l1 = tb => (tg_ne tI15 tI12 (by omega)) q9))
    have k147 := kq132.2 _ _ k108 (fun q9 => Or.elim q9 (tg_ne tI16 tI11 (by omega)) (fun q9 : l2 = tb => (tg_ne tI16 tI12 (by omega)) q9))
    have k148 := kq132.2 _ _ k109 (fun q9 => Or.elim q9 (tg_ne tI17 tI11 (by omega)) (fun q9 : l3 = tb => (tg_ne tI17 tI12 (by omega)) q9))
    have k149 := kq132.2 _ _ k110 (fun q9 => Or.elim q9 (tg_ne tI18 tI11 (by omega)) (fun q9 : l4 = tb => (tg_ne tI18 tI12 (by omega)) q9))
    have k150 := kq132.2 _ _ k111 (fun q9 => Or.elim q9 (tg_ne tI19 tI11 (by omega)) (fun q9 : l5 = tb => (tg_ne tI19 tI12 (by omega)) q9))
    have k151 := kq132.2 _ _ k112 (fun q9 => Or.elim q9 (tg_ne tI20 tI11 (by omega)) (fun q9 : l6 = tb => (tg_ne tI20 tI12 (by omega)) q9))
    have k152 := kq132.2 _ _ k113 (fun q9 => Or.elim q9 (tg_ne tI21 tI11 (by omega)) (fun q9 : l7 = tb => (tg_ne tI21 tI12 (by omega)) q9))
    have k153 := kq132.2 _ _ k114 (fun q9 => Or.elim q9 (tg_ne tI22 tI11 (by omega)) (fun q9 : a8 = tb => (tg_ne tI22 tI12 (by omega)) q9))
    have k154 := kq132.2 _ _ k115 (fun q9 => Or.elim q9 (tg_ne tI23 tI11 (by omega)) (fun q9 : a10 = tb => (tg_ne tI23 tI12 (by omega)) q9))
    have k155 := kq132.2 _ _ k116 (fun q9 => Or.elim q9 (tg_ne tI24 tI11 (by omega)) (fun q9 : bl = tb => (tg_ne tI24 tI12 (by omega)) q9))
    have k156 := kq132.2 _ _ k117 (fun q9 => Or.elim q9 (tg_ne tI25 tI11 (by omega)) (fun q9 : a11 = tb => (tg_ne tI25 tI12 (by omega)) q9))
    have k157 := kq132.2 _ _ k118 (fun q9 => Or.elim q9 (tg_ne tI26 tI11 (by omega)) (fun q9 : bm = tb => (tg_ne tI26 tI12 (by omega)) q9))
    have fm158 : ∀ i9, i9 < 12 → tf i9 = some (tn i9) ∧ wd_at w128 (tn i9) (.inr (8, [.int (co i9), .int (ra i9), .int (se i9), .ref (ag i9)])) ∧ tg (tn i9) = 100 + i9 := fun i9 hi9 => ⟨(fm119 i9 hi9).1, kq132.2 _ _ (fm119 i9 hi9).2.1 (fun q9 => Or.elim q9 (tg_ne (fm119 i9 hi9).2.2 tI11 (by omega)) (tg_ne (fm119 i9 hi9).2.2 tI12 (by omega))), (fm119 i9 hi9).2.2⟩
    have fm159 : ∀ k9, k9 < 13 → (aOK (cf k9) (nf k9) ∧ ru k9 ≤ 12) ∧ wd_at w128 (aa k9) (.inr (1, [.ref (ga0 k9), .ref (ga1 k9), .ref (ga2 k9), .ref (ga3 k9), .ref (ga4 k9), .int (nI (ru k9))])) ∧ tg (aa k9) = 200 + k9 ∧ wd_at w128 (ga0 k9) (.inl (cy 2, 12, .inl (df k9))) ∧ tg (ga0 k9) = 220 + k9 ∧ wd_at w128 (ga1 k9) (.inl (cy 2, 12, .inl (cf k9))) ∧ tg (ga1 k9) = 240 + k9 ∧ wd_at w128 (ga2 k9) (.inl (cy 2, 72, .inl (nf k9))) ∧ tg (ga2 k9) = 260 + k9 ∧ wd_at w128 (ga3 k9) (.inl (cy 1, 72, .inl (sf k9))) ∧ tg (ga3 k9) = 280 + k9 ∧ wd_at w128 (ga4 k9) (.inl (cy 2, 72, .inl (uf k9))) ∧ tg (ga4 k9) = 300 + k9 := fun k9 hi9 => ⟨(fm120 k9 hi9).1, kq132.2 _ _ (fm120 k9 hi9).2.1 (fun q9 => Or.elim q9 (tg_ne (fm120 k9 hi9).2.2.1 tI11 (by omega)) (tg_ne (fm120 k9 hi9).2.2.1 tI12 (by omega))), (fm120 k9 hi9).2.2.1, kq132.2 _ _ (fm120 k9 hi9).2.2.2.1 (fun q9 => Or.elim q9 (tg_ne (fm120 k9 hi9).2.2.2.2.1 tI11 (by omega)) (tg_ne (fm120 k9 hi9).2.2.2.2.1 tI12 (by omega))), (fm120 k9 hi9).2.2.2.2.1, kq132.2 _ _ (fm120 k9 hi9).2.2.2.2.2.1 (fun q9 => Or.elim q9 (tg_ne (fm120 k9 hi9).2.2.2.2.2.2.1 tI11 (by omega)) (tg_ne (fm120 k9 hi9).2.2.2.2.2.2.1 tI12 (by omega))), (fm120 k9 hi9).2.2.2.2.2.2.1, kq132.2 _ _ (fm120 k9 hi9).2.2.2.2.2.2.2.1 (fun q9 => Or.elim q9 (tg_ne (fm120 k9 hi9).2.2.2.2.2.2.2.2.1 tI11 (by omega)) (tg_ne (fm120 k9 hi9).2.2.2.2.2.2.2.2.1 tI12 (by omega))), (fm120 k9 hi9).2.2.2.2.2.2.2.2.1, kq132.2 _ _ (fm120 k9 hi9).2.2.2.2.2.2.2.2.2.1 (fun q9 => Or.elim q9 (tg_ne (fm120 k9 hi9).2.2.2.2.2.2.2.2.2.2.1 tI11 (by omega)) (tg_ne (fm120 k9 hi9).2.2.2.2.2.2.2.2.2.2.1 tI12 (by omega))), (fm120 k9 hi9).2.2.2.2.2.2.2.2.2.2.1, kq132.2 _ _ (fm120 k9 hi9).2.2.2.2.2.2.2.2.2.2.2.1 (fun q9 => Or.elim q9 (tg_ne (fm120 k9 hi9).2.2.2.2.2.2.2.2.2.2.2.2 tI11 (by omega)) (tg_ne (fm120 k9 hi9).2.2.2.2.2.2.2.2.2.2.2.2 tI12 (by omega))), (fm120 k9 hi9).2.2.2.2.2.2.2.2.2.2.2.2⟩
    have fm160 : ∀ k9, k9 < pc → pf k9 = some (pa k9) ∧ wd_at w128 (pa k9) (.inr (3, [.int (plv k9), .int (pwo k9), .int (phd k9), .int (pgd k9), .int (pdy k9), .int (pno k9), .int (ptp k9)])) ∧ tg (pa k9) = 3000 + k9 := fun k9 hi9 => ⟨(fm121 k9 hi9).1, kq132.2 _ _ (fm121 k9 hi9).2.1 (fun q9 => Or.elim q9 (tg_ne (fm121 k9 hi9).2.2 tI11 (by omega)) (tg_ne (fm121 k9 hi9).2.2 tI12 (by omega))), (fm121 k9 hi9).2.2⟩
    have fm161 : ∀ k9, k9 < ac → af k9 = some (ad k9) ∧ wd_at w128 (ad k9) (.inr (0, [.int (av0 k9), .int (av1 k9), .int (av2 k9), .int (av3 k9)])) ∧ tg (ad k9) = 4000 + k9 := fun k9 hi9 => ⟨(fm122 k9 hi9).1, kq132.2 _ _ (fm122 k9 hi9).2.1 (fun q9 => Or.elim q9 (tg_ne (fm122 k9 hi9).2.2 tI11 (by omega)) (tg_ne (fm122 k9 hi9).2.2 tI12 (by omega))), (fm122 k9 hi9).2.2⟩
    have fm162 : ∀ k9, k9 < sc → zf k9 = some (so k9) ∧ wd_at w128 (so k9) (.inr (6, [.int (sp0 k9), .int (sp1 k9), .ref (sr k9)])) ∧ tg (so k9) = 5000 + k9 ∧ wd_at w128 (sr k9) (.inl (cy 2, 12, .inl (sd k9))) ∧ tg (sr k9) = 6000 + k9 := fun k9 hi9 => ⟨(fm123 k9 hi9).1, kq132.2 _ _ (fm123 k9 hi9).2.1 (fun q9 => Or.elim q9 (tg_ne (fm123 k9 hi9).2.2.1 tI11 (by omega)) (tg_ne (fm123 k9 hi9).2.2.1 tI12 (by omega))), (fm123 k9 hi9).2.2.1, kq132.2 _ _ (fm123 k9 hi9).2.2.2.1 (fun q9 => Or.elim q9 (tg_ne (fm123 k9 hi9).2.2.2.2 tI11 (by omega)) (tg_ne (fm123 k9 hi9).2.2.2.2 tI12 (by omega))), (fm123 k9 hi9).2.2.2.2⟩
    have fm163 : ∀ k9, k9 < sh → (hf k9 = some (sw k9) ∧ hto k9 < 12) ∧ wd_at w128 (sw k9) (.inr (5, [.int (nI (hto k9)), .int (hpp k9), .int (hle k9), .int (ham k9), .int (hhh k9), .int (hdd k9), .int (hru k9), .int (hde k9), .int (hcp k9), .int (hld k9)])) ∧ tg (sw k9) = 7000 + k9 := fun k9 hi9 => ⟨(fm124 k9 hi9).1, kq132.2 _ _ (fm124 k9 hi9).2.1 (fun q9 => Or.elim q9 (tg_ne (fm124 k9 hi9).2.2 tI11 (by omega)) (tg_ne (fm124 k9 hi9).2.2 tI12 (by omega))), (fm124 k9 hi9).2.2⟩
    have kp164 := kp125.tr kq132 (fun b9 hm q9 => (fun q9 => Or.elim q9 (fun q9 => q9 ▸ (tgS tI11 (by omega))) (fun q9 => q9 ▸ (tgS tI12 (by omega)))) q9)
    refine W.eq (g2 := F0 m 47 ls []) rfl (W.widen (k := 0) (n := 0) (Nat.le_of_ble_eq_true rfl) (Nat.le_of_ble_eq_true rfl) ?_)
    refine lv_aload_n hx hb dX10_feed_47 rfl (lv_at hl 0 rfl) ?_
    refine x_get (ref := "NoteHouse") F hP k133 rfl (fun _ h => List.mem_cons_of_mem _ (List.mem_append_left _ (List.mem_append_right _ (h)))) 6 (Nat.le_of_ble_eq_true rfl) (List.mem_cons_of_mem _ (List.mem_append_left _ (List.mem_append_left _ (List.mem_of_getElem? (i := 0) rfl)))) rfl rfl dX10_feed_48 ?_
    refine lv_iload hx hb dX10_feed_51 (lv_at hl 5 rfl) ?_
    refine x_callV (n := 1) (As := [.int x5]) (rest := []) F hP hD hS (g_append l D cy sk sv w128 a6 tb ((((ln + 4) + 4) + 4) + 4) ta x5 gx129 k130 k131 (fun b => b = a6 ∨ b = tb) (Or.inl rfl) (Or.inr rfl) (by omega)) gX10_feed_X7_append rfl rfl (by decide +kernel) ⟨(Nat.le_of_ble_eq_true rfl), (Nat.le_of_ble_eq_true rfl)⟩ rfl hl.1 (Nat.le_of_ble_eq_true rfl) k130 rfl dX10_feed_53 rfl ⟨(Nat.le_of_ble_eq_true rfl), (Nat.le_of_ble_eq_true rfl)⟩ (fun v166 w167 hp165 H locs hP hD hS => ?_)
    obtain ⟨gx168, rfl, kq171, k169, k170⟩ := hp165
    have k172 := kq171.2 _ _ k133 (fun q9 => Or.elim q9 (tg_ne tI0 tI11 (by omega)) (fun q9 : x = tb => (tg_ne tI0 tI12 (by omega)) q9))
    have k173 := kq171.2 _ _ k134 (fun q9 => Or.elim q9 (tg_ne tI1 tI11 (by omega)) (fun q9 : a0 = tb => (tg_ne tI1 tI12 (by omega)) q9))
    have k174 := kq171.2 _ _ k135 (fun q9 => Or.elim q9 (tg_ne tI2 tI11 (by omega)) (fun q9 : b0 = tb => (tg_ne tI2 tI12 (by omega)) q9))
    have k175 := kq171.2 _ _ k136 (fun q9 => Or.elim q9 (tg_ne tI3 tI11 (by omega)) (fun q9 : b1 = tb => (tg_ne tI3 tI12 (by omega)) q9))
    have k176 := kq171.2 _ _ k137 (fun q9 => Or.elim q9 (tg_ne tI4 tI11 (by omega)) (fun q9 : b2 = tb => (tg_ne tI4 tI12 (by omega)) q9))
    have k177 := kq171.2 _ _ k138 (fun q9 => Or.elim q9 (tg_ne tI5 tI11 (by omega)) (fun q9 : b3 = tb => (tg_ne tI5 tI12 (by omega)) q9))
    have k178 := kq171.2 _ _ k139 (fun q9 => Or.elim q9 (tg_ne tI6 tI11 (by omega)) (fun q9 : a1 = tb => (tg_ne tI6 tI12 (by omega)) q9))
    have k179 := kq171.2 _ _ k140 (fun q9 => Or.elim q9 (tg_ne tI7 tI11 (by omega)) (fun q9 : a2 = tb => (tg_ne tI7 tI12 (by omega)) q9))
    have k180 := kq171.2 _ _ k141 (fun q9 => Or.elim q9 (tg_ne tI8 tI11 (by omega)) (fun q9 : a3 = tb => (tg_ne tI8 tI12 (by omega)) q9))
    have k181 := kq171.2 _ _ k142 (fun q9 => Or.elim q9 (tg_ne tI9 tI11 (by omega)) (fun q9 : a4 = tb => (tg_ne tI9 tI12 (by omega)) q9))
    have k182 := kq171.2 _ _ k143 (fun q9 => Or.elim q9 (tg_ne tI10 tI11 (by omega)) (fun q9 : a5 = tb => (tg_ne tI10 tI12 (by omega)) q9))
    have k183 := kq171.2 _ _ k144 (fun q9 => Or.elim q9 (tg_ne tI13 tI11 (by omega)) (fun q9 : a7 = tb => (tg_ne tI13 tI12 (by omega)) q9))
    have k184 := kq171.2 _ _ k145 (fun q9 => Or.elim q9 (tg_ne tI14 tI11 (by omega)) (fun q9 : l0 = tb => (tg_ne tI14 tI12 (by omega)) q9))
    have k185 := kq171.2 _ _ k146 (fun q9 => Or.elim q9 (tg_ne tI15 tI11 (by omega)) (fun q9 : l1 = tb => (tg_ne tI15 tI12 (by omega)) q9))
    have k186 := kq171.2 _ _ k147 (fun q9 => Or.elim q9 (tg_ne tI16 tI11 (by omega)) (fun q9 : l2 = tb => (tg_ne tI16 tI12 (by omega)) q9))
    have k187 := kq171.2 _ _ k148 (fun q9 => Or.elim q9 (tg_ne tI17 tI11 (by omega)) (fun q9 : l3 = tb => (tg_ne tI17 tI12 (by omega)) q9))
    have k188 := kq171.2 _ _ k149 (fun q9 => Or.elim q9 (tg_ne tI18 tI11 (by omega)) (fun q9 : l4 = tb => (tg_ne tI18 tI12 (by omega)) q9))
    have k189 := kq171.2 _ _ k150 (fun q9 => Or.elim q9 (tg_ne tI19 tI11 (by omega)) (fun q9 : l5 = tb => (tg_ne tI19 tI12 (by omega)) q9))
    have k190 := kq171.2 _ _ k151 (fun q9 => Or.elim q9 (tg_ne tI20 tI11 (by omega)) (fun q9 : l6 = tb => (tg_ne tI20 tI12 (by omega)) q9))
    have k191 := kq171.2 _ _ k152 (fun q9 => Or.elim q9 (tg_ne tI21 tI11 (by omega)) (fun q9 : l7 = tb => (tg_ne tI21 tI12 (by omega)) q9))
    have k192 := kq171.2 _ _ k153 (fun q9 => Or.elim q9 (tg_ne tI22 tI11 (by omega)) (fun q9 : a8 = tb => (tg_ne tI22 tI12 (by omega)) q9))
    have k193 := kq171.2 _ _ k154 (fun q9 => Or.elim q9 (tg_ne tI23 tI11 (by omega)) (fun q9 : a10 = tb => (tg_ne tI23 tI12 (by omega)) q9))
    have k194 := kq171.2 _ _ k155 (fun q9 => Or.elim q9 (tg_ne tI24 tI11 (by omega)) (fun q9 : bl = tb => (tg_ne tI24 tI12 (by omega)) q9))
    have k195 := kq171.2 _ _ k156 (fun q9 => Or.elim q9 (tg_ne tI25 tI11 (by omega)) (fun q9 : a11 = tb => (tg_ne tI25 tI12 (by omega)) q9))
    have k196 := kq171.2 _ _ k157 (fun q9 => Or.elim q9 (tg_ne tI26 tI11 (by omega)) (fun q9 : bm = tb => (tg_ne tI26 tI12 (by omega)) q9))
    have fm197 : ∀ i9, i9 < 12 → tf i9 = some (tn i9) ∧ wd_at w167 (tn i9) (.inr (8, [.int (co i9), .int (ra i9), .int (se i9), .ref (ag i9)])) ∧ tg (tn i9) = 100 + i9 := fun i9 hi9 => ⟨(fm158 i9 hi9).1, kq171.2 _ _ (fm158 i9 hi9).2.1 (fun q9 => Or.elim q9 (tg_ne (fm158 i9 hi9).2.2 tI11 (by omega)) (tg_ne (fm158 i9 hi9).2.2 tI12 (by omega))), (fm158 i9 hi9).2.2⟩
    have fm198 : ∀ k9, k9 < 13 → (aOK (cf k9) (nf k9) ∧ ru k9 ≤ 12) ∧ wd_at w167 (aa k9) (.inr (1, [.ref (ga0 k9), .ref (ga1 k9), .ref (ga2 k9), .ref (ga3 k9), .ref (ga4 k9), .int (nI (ru k9))])) ∧ tg (aa k9) = 200 + k9 ∧ wd_at w167 (ga0 k9) (.inl (cy 2, 12, .inl (df k9))) ∧ tg (ga0 k9) = 220 + k9 ∧ wd_at w167 (ga1 k9) (.inl (cy 2, 12, .inl (cf k9))) ∧ tg (ga1 k9) = 240 + k9 ∧ wd_at w167 (ga2 k9) (.inl (cy 2, 72, .inl (nf k9))) ∧ tg (ga2 k9) = 260 + k9 ∧ wd_at w167 (ga3 k9) (.inl (cy 1, 72, .inl (sf k9))) ∧ tg (ga3 k9) = 280 + k9 ∧ wd_at w167 (ga4 k9) (.inl (cy 2, 72, .inl (uf k9))) ∧ tg (ga4 k9) = 300 + k9 := fun k9 hi9 => ⟨(fm159 k9 hi9).1, kq171.2 _ _ (fm159 k9 hi9).2.1 (fun q9 => Or.elim q9 (tg_ne (fm159 k9 hi9).2.2.1 tI11 (by omega)) (tg_ne (fm159 k9 hi9).2.2.1 tI12 (by omega))), (fm159 k9 hi9).2.2.1, kq171.2 _ _ (fm159 k9 hi9).2.2.2.1 (fun q9 => Or.elim q9 (tg_ne (fm159 k9 hi9).2.2.2.2.1 tI11 (by omega)) (tg_ne (fm159 k9 hi9).2.2.2.2.1 tI12 (by omega))), (fm159 k9 hi9).2.2.2.2.1, kq171.2 _ _ (fm159 k9 hi9).2.2.2.2.2.1 (fun q9 => Or.elim q9 (tg_ne (fm159 k9 hi9).2.2.2.2.2.2.1 tI11 (by omega)) (tg_ne (fm159 k9 hi9).2.2.2.2.2.2.1 tI12 (by omega))), (fm159 k9 hi9).2.2.2.2.2.2.1, kq171.2 _ _ (fm159 k9 hi9).2.2.2.2.2.2.2.1 (fun q9 => Or.elim q9 (tg_ne (fm159 k9 hi9).2.2.2.2.2.2.2.2.1 tI11 (by omega)) (tg_ne (fm159 k9 hi9).2.2.2.2.2.2.2.2.1 tI12 (by omega))), (fm159 k9 hi9).2.2.2.2.2.2.2.2.1, kq171.2 _ _ (fm159 k9 hi9).2.2.2.2.2.2.2.2.2.1 (fun q9 => Or.elim q9 (tg_ne (fm159 k9 hi9).2.2.2.2.2.2.2.2.2.2.1 tI11 (by omega)) (tg_ne (fm159 k9 hi9).2.2.2.2.2.2.2.2.2.2.1 tI12 (by omega))), (fm159 k9 hi9).2.2.2.2.2.2.2.2.2.2.1, kq171.2 _ _ (fm159 k9 hi9).2.2.2.2.2.2.2.2.2.2.2.1 (fun q9 => Or.elim q9 (tg_ne (fm159 k9 hi9).2.2.2.2.2.2.2.2.2.2.2.2 tI11 (by omega)) (tg_ne (fm159 k9 hi9).2.2.2.2.2.2.2.2.2.2.2.2 tI12 (by omega))), (fm159 k9 hi9).2.2.2.2.2.2.2.2.2.2.2.2⟩
    have fm199 : ∀ k9, k9 < pc → pf k9 = some (pa k9) ∧ wd_at w167 (pa k9) (.inr (3, [.int (plv k9), .int (pwo k9), .int (phd k9), .int (pgd k9), .int (pdy k9), .int (pno k9), .int (ptp k9)])) ∧ tg (pa k9) = 3000 + k9 := fun k9 hi9 => ⟨(fm160 k9 hi9).1, kq171.2 _ _ (fm160 k9 hi9).2.1 (fun q9 => Or.elim q9 (tg_ne (fm160 k9 hi9).2.2 tI11 (by omega)) (tg_ne (fm160 k9 hi9).2.2 tI12 (by omega))), (fm160 k9 hi9).2.2⟩
    have fm200 : ∀ k9, k9 < ac → af k9 = some (ad k9) ∧ wd_at w167 (ad k9) (.inr (0, [.int (av0 k9), .int (av1 k9), .int (av2 k9), .int (av3 k9)])) ∧ tg (ad k9) = 4000 + k9 := fun k9 hi9 => ⟨(fm161 k9 hi9).1, kq171.2 _ _ (fm161 k9 hi9).2.1 (fun q9 => Or.elim q9 (tg_ne (fm161 k9 hi9).2.2 tI11 (by omega)) (tg_ne (fm161 k9 hi9).2.2 tI12 (by omega))), (fm161 k9 hi9).2.2⟩
    have fm201 : ∀ k9, k9 < sc → zf k9 = some (so k9) ∧ wd_at w167 (so k9) (.inr (6, [.int (sp0 k9), .int (sp1 k9), .ref (sr k9)])) ∧ tg (so k9) = 5000 + k9 ∧ wd_at w167 (sr k9) (.inl (cy 2, 12, .inl (sd k9))) ∧ tg (sr k9) = 6000 + k9 := fun k9 hi9 => ⟨(fm162 k9 hi9).1, kq171.2 _ _ (fm162 k9 hi9).2.1 (fun q9 => Or.elim q9 (tg_ne (fm162 k9 hi9).2.2.1 tI11 (by omega)) (tg_ne (fm162 k9 hi9).2.2.1 tI12 (by omega))), (fm162 k9 hi9).2.2.1, kq171.2 _ _ (fm162 k9 hi9).2.2.2.1 (fun q9 => Or.elim q9 (tg_ne (fm162 k9 hi9).2.2.2.2 tI11 (by omega)) (tg_ne (fm162 k9 hi9).2.2.2.2 tI12 (by omega))), (fm162 k9 hi9).2.2.2.2⟩
    have fm202 : ∀ k9, k9 < sh → (hf k9 = some (sw k9) ∧ hto k9 < 12) ∧ wd_at w167 (sw k9) (.inr (5, [.int (nI (hto k9)), .int (hpp k9), .int (hle k9), .int (ham k9), .int (hhh k9), .int (hdd k9), .int (hru k9), .int (hde k9), .int (hcp k9), .int (hld k9)])) ∧ tg (sw k9) = 7000 + k9 := fun k9 hi9 => ⟨(fm163 k9 hi9).1, kq171.2 _ _ (fm163 k9 hi9).2.1 (fun q9 => Or.elim q9 (tg_ne (fm163 k9 hi9).2.2 tI11 (by omega)) (tg_ne (fm163 k9 hi9).2.2 tI12 (by omega))), (fm163 k9 hi9).2.2⟩
    have kp203 := kp164.tr kq171 (fun b9 hm q9 => (fun q9 => Or.elim q9 (fun q9 => q9 ▸ (tgS tI11 (by omega))) (fun q9 => q9 ▸ (tgS tI12 (by omega)))) q9)
    refine W.eq (g2 := F0 m 56 ls []) rfl (W.widen (k := 0) (n := 0) (Nat.le_of_ble_eq_true rfl) (Nat.le_of_ble_eq_true rfl) ?_)
    refine lv_aload_n hx hb dX10_feed_56 rfl (lv_at hl 0 rfl) ?_
    refine x_get (ref := "NoteHouse") F hP k172 rfl (fun _ h => List.mem_cons_of_mem _ (List.mem_append_left _ (List.mem_append_right _ (h)))) 6 (Nat.le_of_ble_eq_true rfl) (List.mem_cons_of_mem _ (List.mem_append_left _ (List.mem_append_left _ (List.mem_of_getElem? (i := 0) rfl)))) rfl rfl dX10_feed_57 ?_
    refine x_get (ref := "NoteHouse$Tape") F hP k169 rfl (fun _ h => List.mem_cons_of_mem _ (List.mem_append_right _ (h))) 1 (Nat.le_of_ble_eq_true rfl) (List.mem_cons_of_mem _ (List.mem_append_left _ (List.mem_append_left _ (List.mem_of_getElem? (i := 1) rfl)))) rfl rfl dX10_feed_60 ?_
    have hX205 : IX cy tg x td pc ac sc (((((ln + 4) + 4) + 4) + 4) + 4) se plv w167 := IX.mk a0 a1 a2 a3 a4 a5 a6 a7 a8 a10 a11 b0 b1 b2 b3 tb l0 l1 l2 l3 l4 l5 l6 l7 bl bm sh gc sg lu lv9 f0 f1 f2 f3 gx168 e0 e1 e4 e5 e7 ff bf bf2 e2 e3 e6 ta sz fo to fo2 to2 tf tn ag co ra aa ru ga0 ga1 ga2 ga3 ga4 df cf nf sf uf pf pa pwo phd pgd pdy pno ptp af ad av0 av1 av2 av3 zf so sr sp0 sp1 sd hf sw hto hpp hle ham hhh hdd hru hde hcp hld (by omega) (by omega) (by omega) (by omega) (by omega) (by omega) (by omega) (by omega) hag k172 tI0 k173 tI1 k174 tI2 k175 tI3 k176 tI4 k177 tI5 k178 tI6 k179 tI7 k180 tI8 k181 tI9 k182 tI10 k169 tI11 k170 tI12 k183 tI13 k184 tI14 k185 tI15 k186 tI16 k187 tI17 k188 tI18 k189 tI19 k190 tI20 k191 tI21 k192 tI22 k193 tI23 k194 tI24 k195 tI25 k196 tI26 fm197 fm198 fm199 fm200 fm201 fm202
    exact y_ir K hP hD hS (Nat.le_of_ble_eq_true rfl) (Nat.le_of_ble_eq_true rfl) (ty := .int) rfl rfl dX10_feed_63 (by refine ⟨(congrArg (fun z => some (Value.int z)) (show nI (((((ln + 4) + 4) + 4) + 4) + 4) = feedA ln from by simp [feedA, feedC, c_8, hrm])), ?_⟩; rw [show feedC ln = (((((ln + 4) + 4) + 4) + 4) + 4) from by simp [feedA, feedC, c_8, hrm]]; exact ⟨tg, (fun _ _ => rfl), kp203, hX205⟩)
  · have hrm := hz6 c_8
    refine lv_iconst (v := (-1)) hx hb dX10_feed_12 (by decide) ?_
    exact y_ir K hP hD hS (Nat.le_of_ble_eq_true rfl) (Nat.le_of_ble_eq_true rfl) (ty := .int) rfl rfl dX10_feed_13 (by refine ⟨(congrArg (fun z => some (Value.int z)) (show (-1) = feedA ln from by simp [feedA, feedC, c_8, hrm])), ?_⟩; rw [show feedC ln = ln from by simp [feedA, feedC, c_8, hrm]]; exact ⟨tg, fun _ _ => rfl, wd_kp.rf, hIX0⟩)
set_option maxHeartbeats 4000000 in
set_option maxRecDepth 100000 in
theorem X_end (l : Launch) (D : va_G) (cy : Nat → ClassId) (sk sv : Nat → Nat) (w : Wd) (tg : Nat → Nat) (x : Nat) (td : Int32) (pc ac sc ln : Nat) (se plv : Nat → Int32) (x1 : Int32) (hIX0 : IX cy tg x td pc ac sc ln se plv w) : Ct l D cy sk sv yX10_end wsX10_end ({ frames := 0, cells := 0, slots := 0, locals := 0 }) [.ref x, .int x1] w (fun v w1 => v = some (.int (endA ln x1)) ∧ XP cy tg x td pc ac sc (endC ln x1) se plv w w1) := by
  refine Ct.by (cc := cX10_end) (maxL := 2) (ret := (some .int)) (by decide +kernel) rfl (Nat.le_of_ble_eq_true rfl) ?_
  intro p e s m args below meth c A Q F hnm K ls hl
  have F : wd_Fx p s m args meth c cX10_end 2 wsX10_end RX10 D cy sk sv A := F
  have hl : lv_has ls 2 [(0, .ref x), (1, .int x1)] := hl
  have hx := F.1.1
  have hb := F.1.2.1
  have hown := F.1.2.2.2.1
  have hts := F.1.2.2.2.2
  intro H locs hP hD hS
  have kp0 : wd_kp (fun b => tg b < 10000) w w := wd_kp.rf
  refine hIX0 _ ?_
  intro a0 a1 a2 a3 a4 a5 a6 a7 a8 a10 a11 b0 b1 b2 b3 tb l0 l1 l2 l3 l4 l5 l6 l7 bl bm sh gc sg lu lv9 f0 f1 f2 f3 tbf e0 e1 e4 e5 e7 ff bf bf2 e2 e3 e6 ta sz fo to fo2 to2 tf tn ag co ra aa ru ga0 ga1 ga2 ga3 ga4 df cf nf sf uf pf pa pwo phd pgd pdy pno ptp af ad av0 av1 av2 av3 zf so sr sp0 sp1 sd hf sw hto hpp hle ham hhh hdd hru hde hcp hld hp90 hp91 hp92 hp93 hp94 hp95 hp96 hp97 hag kI0 tI0 kI1 tI1 kI2 tI2 kI3 tI3 kI4 tI4 kI5 tI5 kI6 tI6 kI7 tI7 kI8 tI8 kI9 tI9 kI10 tI10 kI11 tI11 kI12 tI12 kI13 tI13 kI14 tI14 kI15 tI15 kI16 tI16 kI17 tI17 kI18 tI18 kI19 tI19 kI20 tI20 kI21 tI21 kI22 tI22 kI23 tI23 kI24 tI24 kI25 tI25 kI26 tI26 hT9 hG9 hP9 hA9 hS9 hH9
  refine lv_iload_n hx hb dX10_end_0 rfl (lv_at hl 1 rfl) ?_
  refine lv_if_lt (tgt := 15) hx hb dX10_end_1 (by decide) (fun cA => ?_) (fun cA => ?_)
  · refine lv_iconst (v := (-1)) hx hb dX10_end_15 (by decide) ?_
    exact y_ir K hP hD hS (Nat.le_of_ble_eq_true rfl) (Nat.le_of_ble_eq_true rfl) (ty := .int) rfl rfl dX10_end_16 (by refine ⟨(congrArg (fun z => some (Value.int z)) (show (-1) = endA ln x1 from by simp [endA, endC, cA])), ?_⟩; rw [show endC ln x1 = ln from by simp [endA, endC, cA]]; exact ⟨tg, fun _ _ => rfl, wd_kp.rf, hIX0⟩)
  · refine lv_iload_n hx hb dX10_end_4 rfl (lv_at hl 1 rfl) ?_
    refine lv_aload_n hx hb dX10_end_5 rfl (lv_at hl 0 rfl) ?_
    refine x_get (ref := "NoteHouse") F hP kI0 rfl (fun _ h => List.mem_cons_of_mem _ (List.mem_append_left _ (List.mem_append_right _ (h)))) 6 (Nat.le_of_ble_eq_true rfl) (List.mem_cons_of_mem _ (List.mem_append_left _ (List.mem_append_left _ (List.mem_of_getElem? (i := 0) rfl)))) rfl rfl dX10_end_6 ?_
    refine x_get (ref := "NoteHouse$Tape") F hP kI11 rfl (fun _ h => List.mem_cons_of_mem _ (List.mem_append_right _ (h))) 1 (Nat.le_of_ble_eq_true rfl) (List.mem_cons_of_mem _ (List.mem_append_left _ (List.mem_append_left _ (List.mem_of_getElem? (i := 1) rfl)))) rfl rfl dX10_end_9 ?_
    refine lv_icmp_le (tgt := 17) hx hb dX10_end_12 (by decide) (fun c_1 => ?_) (fun c_1 => ?_)
    · obtain ⟨j, hj, rfl⟩ := nI_of cA
      have hjl : j ≤ ln := (nI_leI (by omega) (by omega)).mp c_1
      have clj : (nI j).toNatClampNeg = j := nI_clamp (by omega)
      refine lv_aload_n hx hb dX10_end_17 rfl (lv_at hl 0 rfl) ?_
      refine x_get (ref := "NoteHouse") F hP kI0 rfl (fun _ h => List.mem_cons_of_mem _ (List.mem_append_left _ (List.mem_append_right _ (h)))) 6 (Nat.le_of_ble_eq_true rfl) (List.mem_cons_of_mem _ (List.mem_append_left _ (List.mem_append_left _ (List.mem_of_getElem? (i := 0) rfl)))) rfl rfl dX10_end_18 ?_
      refine lv_iload_n hx hb dX10_end_21 rfl (lv_at hl 1 rfl) ?_
      refine y_put (ref := "NoteHouse$Tape") F hP hD hS kI11 rfl (fun _ h => List.mem_cons_of_mem _ (List.mem_append_right _ (h))) tyX7_ok nmX7 1 (Nat.le_of_ble_eq_true rfl) (List.mem_cons_of_mem _ (List.mem_append_left _ (List.mem_append_left _ (List.mem_of_getElem? (i := 1) rfl)))) rfl rfl rfl rfl (Nat.le_of_ble_eq_true rfl) dX10_end_22 (fun w2 ew3 H locs hP hD hS => ?_)
      have k4 := wd_at.pt ew3 kI0 (tg_ne tI0 tI11 (by omega))
      have k5 := wd_at.pt ew3 kI1 (tg_ne tI1 tI11 (by omega))
      have k6 := wd_at.pt ew3 kI2 (tg_ne tI2 tI11 (by omega))
      have k7 := wd_at.pt ew3 kI3 (tg_ne tI3 tI11 (by omega))
      have k8 := wd_at.pt ew3 kI4 (tg_ne tI4 tI11 (by omega))
      have k9 := wd_at.pt ew3 kI5 (tg_ne tI5 tI11 (by omega))
      have k10 := wd_at.pt ew3 kI6 (tg_ne tI6 tI11 (by omega))
      have k11 := wd_at.pt ew3 kI7 (tg_ne tI7 tI11 (by omega))
      have k12 := wd_at.pt ew3 kI8 (tg_ne tI8 tI11 (by omega))
      have k13 := wd_at.pt ew3 kI9 (tg_ne tI9 tI11 (by omega))
      have k14 := wd_at.pt ew3 kI10 (tg_ne tI10 tI11 (by omega))
      have k15 : wd_at w2 a6 (.inr (7, [.ref tb, .int (nI j), .int ta])) := wd_at.ps ew3 kI11
      have k16 := wd_at.pt ew3 kI12 (tg_ne tI12 tI11 (by omega))
      have k17 := wd_at.pt ew3 kI13 (tg_ne tI13 tI11 (by omega))
      have k18 := wd_at.pt ew3 kI14 (tg_ne tI14 tI11 (by omega))
      have k19 := wd_at.pt ew3 kI15 (tg_ne tI15 tI11 (by omega))
      have k20 := wd_at.pt ew3 kI16 (tg_ne tI16 tI11 (by omega))
      have k21 := wd_at.pt ew3 kI17 (tg_ne tI17 tI11 (by omega))
      have k22 := wd_at.pt ew3 kI18 (tg_ne tI18 tI11 (by omega))
      have k23 := wd_at.pt ew3 kI19 (tg_ne tI19 tI11 (by omega))
      have k24 := wd_at.pt ew3 kI20 (tg_ne tI20 tI11 (by omega))
      have k25 := wd_at.pt ew3 kI21 (tg_ne tI21 tI11 (by omega))
      have k26 := wd_at.pt ew3 kI22 (tg_ne tI22 tI11 (by omega))
      have k27 := wd_at.pt ew3 kI23 (tg_ne tI23 tI11 (by omega))
      have k28 := wd_at.pt ew3 kI24 (tg_ne tI24 tI11 (by omega))
      have k29 := wd_at.pt ew3 kI25 (tg_ne tI25 tI11 (by omega))
      have k30 := wd_at.pt ew3 kI26 (tg_ne tI26 tI11 (by omega))
      have fm31 : ∀ i9, i9 < 12 → tf i9 = some (tn i9) ∧ wd_at w2 (tn i9) (.inr (8, [.int (co i9), .int (ra i9), .int (se i9), .ref (ag i9)])) ∧ tg (tn i9) = 100 + i9 := fun i9 hi9 => ⟨(hT9 i9 hi9).1, wd_at.pt ew3 (hT9 i9 hi9).2.1 (tg_ne (hT9 i9 hi9).2.2 tI11 (by omega)), (hT9 i9 hi9).2.2⟩
      have fm32 : ∀ k9, k9 < 13 → (aOK (cf k9) (nf k9) ∧ ru k9 ≤ 12) ∧ wd_at w2 (aa k9) (.inr (1, [.ref (ga0 k9), .ref (ga1 k9), .ref (ga2 k9), .ref (ga3 k9), .ref (ga4 k9), .int (nI (ru k9))])) ∧ tg (aa k9) = 200 + k9 ∧ wd_at w2 (ga0 k9) (.inl (cy 2, 12, .inl (df k9))) ∧ tg (ga0 k9) = 220 + k9 ∧ wd_at w2 (ga1 k9) (.inl (cy 2, 12, .inl (cf k9))) ∧ tg (ga1 k9) = 240 + k9 ∧ wd_at w2 (ga2 k9) (.inl (cy 2, 72, .inl (nf k9))) ∧ tg (ga2 k9) = 260 + k9 ∧ wd_at w2 (ga3 k9) (.inl (cy 1, 72, .inl (sf k9))) ∧ tg (ga3 k9) = 280 + k9 ∧ wd_at w2 (ga4 k9) (.inl (cy 2, 72, .inl (uf k9))) ∧ tg (ga4 k9) = 300 + k9 := fun k9 hi9 => ⟨(hG9 k9 hi9).1, wd_at.pt ew3 (hG9 k9 hi9).2.1 (tg_ne (hG9 k9 hi9).2.2.1 tI11 (by omega)), (hG9 k9 hi9).2.2.1, wd_at.pt ew3 (hG9 k9 hi9).2.2.2.1 (tg_ne (hG9 k9 hi9).2.2.2.2.1 tI11 (by omega)), (hG9 k9 hi9).2.2.2.2.1, wd_at.pt ew3 (hG9 k9 hi9).2.2.2.2.2.1 (tg_ne (hG9 k9 hi9).2.2.2.2.2.2.1 tI11 (by omega)), (hG9 k9 hi9).2.2.2.2.2.2.1, wd_at.pt ew3 (hG9 k9 hi9).2.2.2.2.2.2.2.1 (tg_ne (hG9 k9 hi9).2.2.2.2.2.2.2.2.1 tI11 (by omega)), (hG9 k9 hi9).2.2.2.2.2.2.2.2.1, wd_at.pt ew3 (hG9 k9 hi9).2.2.2.2.2.2.2.2.2.1 (tg_ne (hG9 k9 hi9).2.2.2.2.2.2.2.2.2.2.1 tI11 (by omega)), (hG9 k9 hi9).2.2.2.2.2.2.2.2.2.2.1, wd_at.pt ew3 (hG9 k9 hi9).2.2.2.2.2.2.2.2.2.2.2.1 (tg_ne (hG9 k9 hi9).2.2.2.2.2.2.2.2.2.2.2.2 tI11 (by omega)), (hG9 k9 hi9).2.2.2.2.2.2.2.2.2.2.2.2⟩
      have fm33 : ∀ k9, k9 < pc → pf k9 = some (pa k9) ∧ wd_at w2 (pa k9) (.inr (3, [.int (plv k9), .int (pwo k9), .int (phd k9), .int (pgd k9), .int (pdy k9), .int (pno k9), .int (ptp k9)])) ∧ tg (pa k9) = 3000 + k9 := fun k9 hi9 => ⟨(hP9 k9 hi9).1, wd_at.pt ew3 (hP9 k9 hi9).2.1 (tg_ne (hP9 k9 hi9).2.2 tI11 (by omega)), (hP9 k9 hi9).2.2⟩
      have fm34 : ∀ k9, k9 < ac → af k9 = some (ad k9) ∧ wd_at w2 (ad k9) (.inr (0, [.int (av0 k9), .int (av1 k9), .int (av2 k9), .int (av3 k9)])) ∧ tg (ad k9) = 4000 + k9 := fun k9 hi9 => ⟨(hA9 k9 hi9).1, wd_at.pt ew3 (hA9 k9 hi9).2.1 (tg_ne (hA9 k9 hi9).2.2 tI11 (by omega)), (hA9 k9 hi9).2.2⟩
      have fm35 : ∀ k9, k9 < sc → zf k9 = some (so k9) ∧ wd_at w2 (so k9) (.inr (6, [.int (sp0 k9), .int (sp1 k9), .ref (sr k9)])) ∧ tg (so k9) = 5000 + k9 ∧ wd_at w2 (sr k9) (.inl (cy 2, 12, .inl (sd k9))) ∧ tg (sr k9) = 6000 + k9 := fun k9 hi9 => ⟨(hS9 k9 hi9).1, wd_at.pt ew3 (hS9 k9 hi9).2.1 (tg_ne (hS9 k9 hi9).2.2.1 tI11 (by omega)), (hS9 k9 hi9).2.2.1, wd_at.pt ew3 (hS9 k9 hi9).2.2.2.1 (tg_ne (hS9 k9 hi9).2.2.2.2 tI11 (by omega)), (hS9 k9 hi9).2.2.2.2⟩
      have fm36 : ∀ k9, k9 < sh → (hf k9 = some (sw k9) ∧ hto k9 < 12) ∧ wd_at w2 (sw k9) (.inr (5, [.int (nI (hto k9)), .int (hpp k9), .int (hle k9), .int (ham k9), .int (hhh k9), .int (hdd k9), .int (hru k9), .int (hde k9), .int (hcp k9), .int (hld k9)])) ∧ tg (sw k9) = 7000 + k9 := fun k9 hi9 => ⟨(hH9 k9 hi9).1, wd_at.pt ew3 (hH9 k9 hi9).2.1 (tg_ne (hH9 k9 hi9).2.2 tI11 (by omega)), (hH9 k9 hi9).2.2⟩
      have kp37 := kp0.put ew3 (tgS tI11 (by omega))
      refine lv_iload_n hx hb dX10_end_25 rfl (lv_at hl 1 rfl) ?_
      have hX39 : IX cy tg x td pc ac sc j se plv w2 := IX.mk a0 a1 a2 a3 a4 a5 a6 a7 a8 a10 a11 b0 b1 b2 b3 tb l0 l1 l2 l3 l4 l5 l6 l7 bl bm sh gc sg lu lv9 f0 f1 f2 f3 tbf e0 e1 e4 e5 e7 ff bf bf2 e2 e3 e6 ta sz fo to fo2 to2 tf tn ag co ra aa ru ga0 ga1 ga2 ga3 ga4 df cf nf sf uf pf pa pwo phd pgd pdy pno ptp af ad av0 av1 av2 av3 zf so sr sp0 sp1 sd hf sw hto hpp hle ham hhh hdd hru hde hcp hld (by omega) (by omega) (by omega) (by omega) (by omega) (by omega) (by omega) (by omega) hag k4 tI0 k5 tI1 k6 tI2 k7 tI3 k8 tI4 k9 tI5 k10 tI6 k11 tI7 k12 tI8 k13 tI9 k14 tI10 k15 tI11 k16 tI12 k17 tI13 k18 tI14 k19 tI15 k20 tI16 k21 tI17 k22 tI18 k23 tI19 k24 tI20 k25 tI21 k26 tI22 k27 tI23 k28 tI24 k29 tI25 k30 tI26 fm31 fm32 fm33 fm34 fm35 fm36
      exact y_ir K hP hD hS (Nat.le_of_ble_eq_true rfl) (Nat.le_of_ble_eq_true rfl) (ty := .int) rfl rfl dX10_end_26 (by refine ⟨(congrArg (fun z => some (Value.int z)) (show (nI j) = endA ln (nI j) from by simp [endA, endC, cA, c_1, clj])), ?_⟩; rw [show endC ln (nI j) = j from by simp [endA, endC, cA, c_1, clj]]; exact ⟨tg, (fun _ _ => rfl), kp37, hX39⟩)
    · refine lv_iconst (v := (-1)) hx hb dX10_end_15 (by decide) ?_
      exact y_ir K hP hD hS (Nat.le_of_ble_eq_true rfl) (Nat.le_of_ble_eq_true rfl) (ty := .int) rfl rfl dX10_end_16 (by refine ⟨(congrArg (fun z => some (Value.int z)) (show (-1) = endA ln x1 from by simp [endA, endC, cA, c_1])), ?_⟩; rw [show endC ln x1 = ln from by simp [endA, endC, cA, c_1]]; exact ⟨tg, fun _ _ => rfl, wd_kp.rf, hIX0⟩)
set_option maxHeartbeats 4000000 in
set_option maxRecDepth 100000 in
theorem X_send (l : Launch) (D : va_G) (cy : Nat → ClassId) (sk sv : Nat → Nat) (w : Wd) (tg : Nat → Nat) (x : Nat) (td : Int32) (pc ac sc ln : Nat) (se plv : Nat → Int32) (x1 x2 : Int32) (hIX0 : IX cy tg x td pc ac sc ln se plv w) : Ct l D cy sk sv yX10_send wsX10_send ({ frames := 2, cells := 0, slots := 0, locals := 42 }) [.ref x, .int x1, .int x2] w (fun v w1 => v = some (.int (sndA se x1 x2)) ∧ XP cy tg x td pc ac sc ln (sndS se x1 x2) plv w w1) := by
  refine Ct.by (cc := cX10_send) (maxL := 3) (ret := (some .int)) (by decide +kernel) rfl (Nat.le_of_ble_eq_true rfl) ?_
  intro p e s m args below meth c A Q F hnm K ls hl
  have F : wd_Fx p s m args meth c cX10_send 3 wsX10_send RX10 D cy sk sv A := F
  have hl : lv_has ls 3 [(0, .ref x), (1, .int x1), (2, .int x2)] := hl
  have hx := F.1.1
  have hb := F.1.2.1
  have hown := F.1.2.2.2.1
  have hts := F.1.2.2.2.2
  intro H locs hP hD hS
  have kp0 : wd_kp (fun b => tg b < 10000) w w := wd_kp.rf
  refine hIX0 _ ?_
  intro a0 a1 a2 a3 a4 a5 a6 a7 a8 a10 a11 b0 b1 b2 b3 tb l0 l1 l2 l3 l4 l5 l6 l7 bl bm sh gc sg lu lv9 f0 f1 f2 f3 tbf e0 e1 e4 e5 e7 ff bf bf2 e2 e3 e6 ta sz fo to fo2 to2 tf tn ag co ra aa ru ga0 ga1 ga2 ga3 ga4 df cf nf sf uf pf pa pwo phd pgd pdy pno ptp af ad av0 av1 av2 av3 zf so sr sp0 sp1 sd hf sw hto hpp hle ham hhh hdd hru hde hcp hld hp90 hp91 hp92 hp93 hp94 hp95 hp96 hp97 hag kI0 tI0 kI1 tI1 kI2 tI2 kI3 tI3 kI4 tI4 kI5 tI5 kI6 tI6 kI7 tI7 kI8 tI8 kI9 tI9 kI10 tI10 kI11 tI11 kI12 tI12 kI13 tI13 kI14 tI14 kI15 tI15 kI16 tI16 kI17 tI17 kI18 tI18 kI19 tI19 kI20 tI20 kI21 tI21 kI22 tI22 kI23 tI23 kI24 tI24 kI25 tI25 kI26 tI26 hT9 hG9 hP9 hA9 hS9 hH9
  refine lv_iload_n hx hb dX10_send_0 rfl (lv_at hl 1 rfl) ?_
  refine x_callS (n := 1) (As := [.int x1]) (rest := []) F hP hD hS (g_isTown l D cy sk sv w x1) gX10_send_X10_isTown rfl (by decide +kernel) ⟨(Nat.le_of_ble_eq_true rfl), (Nat.le_of_ble_eq_true rfl)⟩ rfl hl.1 (Nat.le_of_ble_eq_true rfl) dX10_send_1 rfl ⟨(Nat.le_of_ble_eq_true rfl), (Nat.le_of_ble_eq_true rfl)⟩ (fun v2 w3 hp1 H locs hP hD hS => ?_)
  obtain ⟨rfl, rfl⟩ := hp1
  refine W.eq (g2 := F0 m 4 ls [.int (wi x1 0 11)]) rfl (W.widen (k := 0) (n := 0) (Nat.le_of_ble_eq_true rfl) (Nat.le_of_ble_eq_true rfl) ?_)
  refine lv_if_eq (tgt := 21) hx hb dX10_send_4 (by decide) (fun c_4 => ?_) (fun c_4 => ?_)
  · refine lv_iconst (v := (-1)) hx hb dX10_send_21 (by decide) ?_
    exact y_ir K hP hD hS (Nat.le_of_ble_eq_true rfl) (Nat.le_of_ble_eq_true rfl) (ty := .int) rfl rfl dX10_send_22 (by refine ⟨(congrArg (fun z => some (Value.int z)) (show (-1) = sndA se x1 x2 from by simp [sndA, sndS, c_4])), ?_⟩; rw [show sndS se x1 x2 = se from by simp [sndA, sndS, c_4]]; exact ⟨tg, fun _ _ => rfl, wd_kp.rf, hIX0⟩)
  · obtain ⟨j, hj, rfl, clj⟩ := wi_t c_4
    refine lv_iload_n hx hb dX10_send_7 rfl (lv_at hl 1 rfl) ?_
    refine lv_if_eq (tgt := 21) hx hb dX10_send_8 (by decide) (fun c_5 => ?_) (fun c_5 => ?_)
    · refine lv_iconst (v := (-1)) hx hb dX10_send_21 (by decide) ?_
      exact y_ir K hP hD hS (Nat.le_of_ble_eq_true rfl) (Nat.le_of_ble_eq_true rfl) (ty := .int) rfl rfl dX10_send_22 (by refine ⟨(congrArg (fun z => some (Value.int z)) (show (-1) = sndA se (nI j) x2 from by simp [sndA, sndS, c_4, clj, c_5])), ?_⟩; rw [show sndS se (nI j) x2 = se from by simp [sndA, sndS, c_4, clj, c_5]]; exact ⟨tg, fun _ _ => rfl, wd_kp.rf, hIX0⟩)
    · refine lv_iload_n hx hb dX10_send_11 rfl (lv_at hl 2 rfl) ?_
      refine lv_iconst (v := 1) hx hb dX10_send_12 (by decide) ?_
      refine lv_ldc (v := 1000000) hx hb hown (hts _ (List.mem_cons_of_mem _ (List.mem_append_left _ (List.mem_append_left _ (List.mem_of_getElem? (i := 0) rfl))))) dX10_send_13 ?_
      refine x_callS (n := 3) (As := [.int x2, .int 1, .int 1000000]) (rest := []) F hP hD hS (g_isWithin l D cy sk sv w x2 1 1000000) gX10_send_X10_isWithin rfl (by decide +kernel) ⟨(Nat.le_of_ble_eq_true rfl), (Nat.le_of_ble_eq_true rfl)⟩ rfl hl.1 (Nat.le_of_ble_eq_true rfl) dX10_send_15 rfl ⟨(Nat.le_of_ble_eq_true rfl), (Nat.le_of_ble_eq_true rfl)⟩ (fun v7 w8 hp6 H locs hP hD hS => ?_)
      obtain ⟨rfl, rfl⟩ := hp6
      refine W.eq (g2 := F0 m 18 ls [.int (wi x2 1 1000000)]) rfl (W.widen (k := 0) (n := 0) (Nat.le_of_ble_eq_true rfl) (Nat.le_of_ble_eq_true rfl) ?_)
      refine lv_if_ne (tgt := 23) hx hb dX10_send_18 (by decide) (fun c_9 => ?_) (fun c_9 => ?_)
      · refine lv_aload_n hx hb dX10_send_23 rfl (lv_at hl 0 rfl) ?_
        refine x_get (ref := "NoteHouse") F hP kI0 rfl (fun _ h => List.mem_cons_of_mem _ (List.mem_append_left _ (List.mem_append_right _ (h)))) 1 (Nat.le_of_ble_eq_true rfl) (List.mem_cons_of_mem _ (List.mem_append_left _ (List.mem_append_left _ (List.mem_of_getElem? (i := 1) rfl)))) rfl rfl dX10_send_24 ?_
        refine lv_iload_n hx hb dX10_send_27 rfl (lv_at hl 1 rfl) ?_
        refine x_aald F hP kI6 rfl (vp_in_nI (n := j) (N := 12) (by omega) (by decide)) dX10_send_28 ?_
        have pr10 := (hT9 j (by omega)).1
        have k11 := (hT9 j (by omega)).2.1
        have tz12 := (hT9 j (by omega)).2.2
        rw [nI_clamp (n := j) (by omega), pr10]
        refine W.eq (g2 := F0 m _ ls [.ref (tn j)]) rfl ?_
        refine x_get (ref := "NoteHouse$Town") F hP k11 rfl (fun _ h => List.mem_cons_of_mem _ (List.mem_append_right _ (h))) 2 (Nat.le_of_ble_eq_true rfl) (List.mem_cons_of_mem _ (List.mem_append_left _ (List.mem_append_left _ (List.mem_of_getElem? (i := 2) rfl)))) rfl rfl dX10_send_29 ?_
        refine lv_ldc (v := 1000000000) hx hb hown (hts _ (List.mem_cons_of_mem _ (List.mem_append_left _ (List.mem_append_left _ (List.mem_of_getElem? (i := 3) rfl))))) dX10_send_32 ?_
        refine lv_iload_n hx hb dX10_send_34 rfl (lv_at hl 2 rfl) ?_
        refine lv_isub hx hb dX10_send_35 ?_
        refine lv_icmp_le (tgt := 41) hx hb dX10_send_36 (by decide) (fun c_13 => ?_) (fun c_13 => ?_)
        · refine lv_aload_n hx hb dX10_send_41 rfl (lv_at hl 0 rfl) ?_
          refine x_get (ref := "NoteHouse") F hP kI0 rfl (fun _ h => List.mem_cons_of_mem _ (List.mem_append_left _ (List.mem_append_right _ (h)))) 1 (Nat.le_of_ble_eq_true rfl) (List.mem_cons_of_mem _ (List.mem_append_left _ (List.mem_append_left _ (List.mem_of_getElem? (i := 1) rfl)))) rfl rfl dX10_send_42 ?_
          refine lv_iload_n hx hb dX10_send_45 rfl (lv_at hl 1 rfl) ?_
          refine x_aald F hP kI6 rfl (vp_in_nI (n := j) (N := 12) (by omega) (by decide)) dX10_send_46 ?_
          rw [nI_clamp (n := j) (by omega), pr10]
          refine W.eq (g2 := F0 m _ ls [.ref (tn j)]) rfl ?_
          refine lv_dup hx hb dX10_send_47 rfl ?_
          refine x_get (ref := "NoteHouse$Town") F hP k11 rfl (fun _ h => List.mem_cons_of_mem _ (List.mem_append_right _ (h))) 2 (Nat.le_of_ble_eq_true rfl) (List.mem_cons_of_mem _ (List.mem_append_left _ (List.mem_append_left _ (List.mem_of_getElem? (i := 2) rfl)))) rfl rfl dX10_send_48 ?_
          refine lv_iload_n hx hb dX10_send_51 rfl (lv_at hl 2 rfl) ?_
          refine lv_iadd hx hb dX10_send_52 ?_
          refine y_put (ref := "NoteHouse$Town") F hP hD hS k11 rfl (fun _ h => List.mem_cons_of_mem _ (List.mem_append_right _ (h))) tyX8_ok nmX8 2 (Nat.le_of_ble_eq_true rfl) (List.mem_cons_of_mem _ (List.mem_append_left _ (List.mem_append_left _ (List.mem_of_getElem? (i := 2) rfl)))) rfl rfl rfl rfl (Nat.le_of_ble_eq_true rfl) dX10_send_53 (fun w14 ew15 H locs hP hD hS => ?_)
          have fm16 : ∀ i9, i9 < 12 ∧ i9 ≠ j → tf i9 = some (tn i9) ∧ wd_at w (tn i9) (.inr (8, [.int (co i9), .int (ra i9), .int (se i9), .ref (ag i9)])) ∧ tg (tn i9) = 100 + i9 := fun i9 hi8 => hT9 i9 hi8.1
          have k17 := wd_at.pt ew15 kI0 (tg_ne tI0 tz12 (by omega))
          have k18 := wd_at.pt ew15 kI1 (tg_ne tI1 tz12 (by omega))
          have k19 := wd_at.pt ew15 kI2 (tg_ne tI2 tz12 (by omega))
          have k20 := wd_at.pt ew15 kI3 (tg_ne tI3 tz12 (by omega))
          have k21 := wd_at.pt ew15 kI4 (tg_ne tI4 tz12 (by omega))
          have k22 := wd_at.pt ew15 kI5 (tg_ne tI5 tz12 (by omega))
          have k23 := wd_at.pt ew15 kI6 (tg_ne tI6 tz12 (by omega))
          have k24 := wd_at.pt ew15 kI7 (tg_ne tI7 tz12 (by omega))
          have k25 := wd_at.pt ew15 kI8 (tg_ne tI8 tz12 (by omega))
          have k26 := wd_at.pt ew15 kI9 (tg_ne tI9 tz12 (by omega))
          have k27 := wd_at.pt ew15 kI10 (tg_ne tI10 tz12 (by omega))
          have k28 := wd_at.pt ew15 kI11 (tg_ne tI11 tz12 (by omega))
          have k29 := wd_at.pt ew15 kI12 (tg_ne tI12 tz12 (by omega))
          have k30 := wd_at.pt ew15 kI13 (tg_ne tI13 tz12 (by omega))
          have k31 := wd_at.pt ew15 kI14 (tg_ne tI14 tz12 (by omega))
          have k32 := wd_at.pt ew15 kI15 (tg_ne tI15 tz12 (by omega))
          have k33 := wd_at.pt ew15 kI16 (tg_ne tI16 tz12 (by omega))
          have k34 := wd_at.pt ew15 kI17 (tg_ne tI17 tz12 (by omega))
          have k35 := wd_at.pt ew15 kI18 (tg_ne tI18 tz12 (by omega))
          have k36 := wd_at.pt ew15 kI19 (tg_ne tI19 tz12 (by omega))
          have k37 := wd_at.pt ew15 kI20 (tg_ne tI20 tz12 (by omega))
          have k38 := wd_at.pt ew15 kI21 (tg_ne tI21 tz12 (by omega))
          have k39 := wd_at.pt ew15 kI22 (tg_ne tI22 tz12 (by omega))
          have k40 := wd_at.pt ew15 kI23 (tg_ne tI23 tz12 (by omega))
          have k41 := wd_at.pt ew15 kI24 (tg_ne tI24 tz12 (by omega))
          have k42 := wd_at.pt ew15 kI25 (tg_ne tI25 tz12 (by omega))
          have k43 := wd_at.pt ew15 kI26 (tg_ne tI26 tz12 (by omega))
          have k44 : wd_at w14 (tn j) (.inr (8, [.int (co j), .int (ra j), .int ((se j) + x2), .ref (ag j)])) := wd_at.ps ew15 k11
          have fm45 : ∀ i9, i9 < 12 ∧ i9 ≠ j → tf i9 = some (tn i9) ∧ wd_at w14 (tn i9) (.inr (8, [.int (co i9), .int (ra i9), .int (se i9), .ref (ag i9)])) ∧ tg (tn i9) = 100 + i9 := fun i9 hi9 => ⟨(fm16 i9 hi9).1, wd_at.pt ew15 (fm16 i9 hi9).2.1 (tg_ne (fm16 i9 hi9).2.2 tz12 (by omega)), (fm16 i9 hi9).2.2⟩
          have fm46 : ∀ k9, k9 < 13 → (aOK (cf k9) (nf k9) ∧ ru k9 ≤ 12) ∧ wd_at w14 (aa k9) (.inr (1, [.ref (ga0 k9), .ref (ga1 k9), .ref (ga2 k9), .ref (ga3 k9), .ref (ga4 k9), .int (nI (ru k9))])) ∧ tg (aa k9) = 200 + k9 ∧ wd_at w14 (ga0 k9) (.inl (cy 2, 12, .inl (df k9))) ∧ tg (ga0 k9) = 220 + k9 ∧ wd_at w14 (ga1 k9) (.inl (cy 2, 12, .inl (cf k9))) ∧ tg (ga1 k9) = 240 + k9 ∧ wd_at w14 (ga2 k9) (.inl (cy 2, 72, .inl (nf k9))) ∧ tg (ga2 k9) = 260 + k9 ∧ wd_at w14 (ga3 k9) (.inl (cy 1, 72, .inl (sf k9))) ∧ tg (ga3 k9) = 280 + k9 ∧ wd_at w14 (ga4 k9) (.inl (cy 2, 72, .inl (uf k9))) ∧ tg (ga4 k9) = 300 + k9 := fun k9 hi9 => ⟨(hG9 k9 hi9).1, wd_at.pt ew15 (hG9 k9 hi9).2.1 (tg_ne (hG9 k9 hi9).2.2.1 tz12 (by omega)), (hG9 k9 hi9).2.2.1, wd_at.pt ew15 (hG9 k9 hi9).2.2.2.1 (tg_ne (hG9 k9 hi9).2.2.2.2.1 tz12 (by omega)), (hG9 k9 hi9).2.2.2.2.1, wd_at.pt ew15 (hG9 k9 hi9).2.2.2.2.2.1 (tg_ne (hG9 k9 hi9).2.2.2.2.2.2.1 tz12 (by omega)), (hG9 k9 hi9).2.2.2.2.2.2.1, wd_at.pt ew15 (hG9 k9 hi9).2.2.2.2.2.2.2.1 (tg_ne (hG9 k9 hi9).2.2.2.2.2.2.2.2.1 tz12 (by omega)), (hG9 k9 hi9).2.2.2.2.2.2.2.2.1, wd_at.pt ew15 (hG9 k9 hi9).2.2.2.2.2.2.2.2.2.1 (tg_ne (hG9 k9 hi9).2.2.2.2.2.2.2.2.2.2.1 tz12 (by omega)), (hG9 k9 hi9).2.2.2.2.2.2.2.2.2.2.1, wd_at.pt ew15 (hG9 k9 hi9).2.2.2.2.2.2.2.2.2.2.2.1 (tg_ne (hG9 k9 hi9).2.2.2.2.2.2.2.2.2.2.2.2 tz12 (by omega)), (hG9 k9 hi9).2.2.2.2.2.2.2.2.2.2.2.2⟩
          have fm47 : ∀ k9, k9 < pc → pf k9 = some (pa k9) ∧ wd_at w14 (pa k9) (.inr (3, [.int (plv k9), .int (pwo k9), .int (phd k9), .int (pgd k9), .int (pdy k9), .int (pno k9), .int (ptp k9)])) ∧ tg (pa k9) = 3000 + k9 := fun k9 hi9 => ⟨(hP9 k9 hi9).1, wd_at.pt ew15 (hP9 k9 hi9).2.1 (tg_ne (hP9 k9 hi9).2.2 tz12 (by omega)), (hP9 k9 hi9).2.2⟩
          have fm48 : ∀ k9, k9 < ac → af k9 = some (ad k9) ∧ wd_at w14 (ad k9) (.inr (0, [.int (av0 k9), .int (av1 k9), .int (av2 k9), .int (av3 k9)])) ∧ tg (ad k9) = 4000 + k9 := fun k9 hi9 => ⟨(hA9 k9 hi9).1, wd_at.pt ew15 (hA9 k9 hi9).2.1 (tg_ne (hA9 k9 hi9).2.2 tz12 (by omega)), (hA9 k9 hi9).2.2⟩
          have fm49 : ∀ k9, k9 < sc → zf k9 = some (so k9) ∧ wd_at w14 (so k9) (.inr (6, [.int (sp0 k9), .int (sp1 k9), .ref (sr k9)])) ∧ tg (so k9) = 5000 + k9 ∧ wd_at w14 (sr k9) (.inl (cy 2, 12, .inl (sd k9))) ∧ tg (sr k9) = 6000 + k9 := fun k9 hi9 => ⟨(hS9 k9 hi9).1, wd_at.pt ew15 (hS9 k9 hi9).2.1 (tg_ne (hS9 k9 hi9).2.2.1 tz12 (by omega)), (hS9 k9 hi9).2.2.1, wd_at.pt ew15 (hS9 k9 hi9).2.2.2.1 (tg_ne (hS9 k9 hi9).2.2.2.2 tz12 (by omega)), (hS9 k9 hi9).2.2.2.2⟩
          have fm50 : ∀ k9, k9 < sh → (hf k9 = some (sw k9) ∧ hto k9 < 12) ∧ wd_at w14 (sw k9) (.inr (5, [.int (nI (hto k9)), .int (hpp k9), .int (hle k9), .int (ham k9), .int (hhh k9), .int (hdd k9), .int (hru k9), .int (hde k9), .int (hcp k9), .int (hld k9)])) ∧ tg (sw k9) = 7000 + k9 := fun k9 hi9 => ⟨(hH9 k9 hi9).1, wd_at.pt ew15 (hH9 k9 hi9).2.1 (tg_ne (hH9 k9 hi9).2.2 tz12 (by omega)), (hH9 k9 hi9).2.2⟩
          have kp51 := kp0.put ew15 (tgS tz12 (by omega))
          refine lv_aload_n hx hb dX10_send_56 rfl (lv_at hl 0 rfl) ?_
          refine x_get (ref := "NoteHouse") F hP k17 rfl (fun _ h => List.mem_cons_of_mem _ (List.mem_append_left _ (List.mem_append_right _ (h)))) 1 (Nat.le_of_ble_eq_true rfl) (List.mem_cons_of_mem _ (List.mem_append_left _ (List.mem_append_left _ (List.mem_of_getElem? (i := 1) rfl)))) rfl rfl dX10_send_57 ?_
          refine lv_iload_n hx hb dX10_send_60 rfl (lv_at hl 1 rfl) ?_
          refine x_aald F hP k23 rfl (vp_in_nI (n := j) (N := 12) (by omega) (by decide)) dX10_send_61 ?_
          rw [nI_clamp (n := j) (by omega), pr10]
          refine W.eq (g2 := F0 m _ ls [.ref (tn j)]) rfl ?_
          refine x_get (ref := "NoteHouse$Town") F hP k44 rfl (fun _ h => List.mem_cons_of_mem _ (List.mem_append_right _ (h))) 2 (Nat.le_of_ble_eq_true rfl) (List.mem_cons_of_mem _ (List.mem_append_left _ (List.mem_append_left _ (List.mem_of_getElem? (i := 2) rfl)))) rfl rfl dX10_send_62 ?_
          have fm53 : ∀ i9, i9 < 12 → tf i9 = some (tn i9) ∧ wd_at w14 (tn i9) (.inr (8, [.int (co i9), .int (ra i9), .int ((va_up se j ((se j) + x2)) i9), .ref (ag i9)])) ∧ tg (tn i9) = 100 + i9 := by
            intro i9 hi9
            by_cases e9 : i9 = j
            · rw [e9]
              exact ⟨pr10, (by first | exact k44 | (simp only [va_up_self]; exact k44)), tz12⟩
            · simp only [va_up_ne _ _ e9]
              exact fm45 i9 (by omega)
          have hX54 : IX cy tg x td pc ac sc ln (va_up se j ((se j) + x2)) plv w14 := IX.mk a0 a1 a2 a3 a4 a5 a6 a7 a8 a10 a11 b0 b1 b2 b3 tb l0 l1 l2 l3 l4 l5 l6 l7 bl bm sh gc sg lu lv9 f0 f1 f2 f3 tbf e0 e1 e4 e5 e7 ff bf bf2 e2 e3 e6 ta sz fo to fo2 to2 tf tn ag co ra aa ru ga0 ga1 ga2 ga3 ga4 df cf nf sf uf pf pa pwo phd pgd pdy pno ptp af ad av0 av1 av2 av3 zf so sr sp0 sp1 sd hf sw hto hpp hle ham hhh hdd hru hde hcp hld (by omega) (by omega) (by omega) (by omega) (by omega) (by omega) (by omega) (by omega) hag k17 tI0 k18 tI1 k19 tI2 k20 tI3 k21 tI4 k22 tI5 k23 tI6 k24 tI7 k25 tI8 k26 tI9 k27 tI10 k28 tI11 k29 tI12 k30 tI13 k31 tI14 k32 tI15 k33 tI16 k34 tI17 k35 tI18 k36 tI19 k37 tI20 k38 tI21 k39 tI22 k40 tI23 k41 tI24 k42 tI25 k43 tI26 fm53 fm46 fm47 fm48 fm49 fm50
          exact y_ir K hP hD hS (Nat.le_of_ble_eq_true rfl) (Nat.le_of_ble_eq_true rfl) (ty := .int) rfl rfl dX10_send_65 (by refine ⟨(congrArg (fun z => some (Value.int z)) (show (se j) + x2 = sndA se (nI j) x2 from by simp [sndA, sndS, c_4, clj, c_5, c_9, c_13])), ?_⟩; rw [show sndS se (nI j) x2 = (va_up se j ((se j) + x2)) from by simp [sndA, sndS, c_4, clj, c_5, c_9, c_13]]; exact ⟨tg, (fun _ _ => rfl), kp51, hX54⟩)
        · refine lv_iconst (v := (-1)) hx hb dX10_send_39 (by decide) ?_
          exact y_ir K hP hD hS (Nat.le_of_ble_eq_true rfl) (Nat.le_of_ble_eq_true rfl) (ty := .int) rfl rfl dX10_send_40 (by refine ⟨(congrArg (fun z => some (Value.int z)) (show (-1) = sndA se (nI j) x2 from by simp [sndA, sndS, c_4, clj, c_5, c_9, c_13])), ?_⟩; rw [show sndS se (nI j) x2 = se from by simp [sndA, sndS, c_4, clj, c_5, c_9, c_13]]; exact ⟨tg, fun _ _ => rfl, wd_kp.rf, hIX0⟩)
      · refine lv_iconst (v := (-1)) hx hb dX10_send_21 (by decide) ?_
        exact y_ir K hP hD hS (Nat.le_of_ble_eq_true rfl) (Nat.le_of_ble_eq_true rfl) (ty := .int) rfl rfl dX10_send_22 (by refine ⟨(congrArg (fun z => some (Value.int z)) (show (-1) = sndA se (nI j) x2 from by simp [sndA, sndS, c_4, clj, c_5, c_9])), ?_⟩; rw [show sndS se (nI j) x2 = se from by simp [sndA, sndS, c_4, clj, c_5, c_9]]; exact ⟨tg, fun _ _ => rfl, wd_kp.rf, hIX0⟩)
set_option maxHeartbeats 4000000 in
set_option maxRecDepth 100000 in
theorem X_text (l : Launch) (D : va_G) (cy : Nat → ClassId) (sk sv : Nat → Nat) (w : Wd) (tg : Nat → Nat) (x : Nat) (td : Int32) (pc ac sc ln : Nat) (se plv : Nat → Int32) (x1 : Int32) (hIX0 : IX cy tg x td pc ac sc ln se plv w) : Ct l D cy sk sv yX10_text wsX10_text ({ frames := 10, cells := 0, slots := 0, locals := 236 }) [.ref x, .int x1] w (fun v w1 => (∃ r : Int32, v = some (.int r)) ∧ XP cy tg x td pc ac sc (txtC ln x1) se plv w w1) := by
  refine Ct.by (cc := cX10_text) (maxL := 4) (ret := (some .int)) (by decide +kernel) rfl (Nat.le_of_ble_eq_true rfl) ?_
  intro p e s m args below meth c A Q F hnm K ls hl
  have F : wd_Fx p s m args meth c cX10_text 4 wsX10_text RX10 D cy sk sv A := F
  have hl : lv_has ls 4 [(0, .ref x), (1, .int x1)] := hl
  have hx := F.1.1
  have hb := F.1.2.1
  have hown := F.1.2.2.2.1
  have hts := F.1.2.2.2.2
  intro H locs hP hD hS
  have kp0 : wd_kp (fun b => tg b < 10000) w w := wd_kp.rf
  refine hIX0 _ ?_
  intro a0 a1 a2 a3 a4 a5 a6 a7 a8 a10 a11 b0 b1 b2 b3 tb l0 l1 l2 l3 l4 l5 l6 l7 bl bm sh gc sg lu lv9 f0 f1 f2 f3 tbf e0 e1 e4 e5 e7 ff bf bf2 e2 e3 e6 ta sz fo to fo2 to2 tf tn ag co ra aa ru ga0 ga1 ga2 ga3 ga4 df cf nf sf uf pf pa pwo phd pgd pdy pno ptp af ad av0 av1 av2 av3 zf so sr sp0 sp1 sd hf sw hto hpp hle ham hhh hdd hru hde hcp hld hp90 hp91 hp92 hp93 hp94 hp95 hp96 hp97 hag kI0 tI0 kI1 tI1 kI2 tI2 kI3 tI3 kI4 tI4 kI5 tI5 kI6 tI6 kI7 tI7 kI8 tI8 kI9 tI9 kI10 tI10 kI11 tI11 kI12 tI12 kI13 tI13 kI14 tI14 kI15 tI15 kI16 tI16 kI17 tI17 kI18 tI18 kI19 tI19 kI20 tI20 kI21 tI21 kI22 tI22 kI23 tI23 kI24 tI24 kI25 tI25 kI26 tI26 hT9 hG9 hP9 hA9 hS9 hH9
  refine lv_iload_n hx hb dX10_text_0 rfl (lv_at hl 1 rfl) ?_
  refine x_callS (n := 1) (As := [.int x1]) (rest := []) F hP hD hS (g_isTown l D cy sk sv w x1) gX10_text_X10_isTown rfl (by decide +kernel) ⟨(Nat.le_of_ble_eq_true rfl), (Nat.le_of_ble_eq_true rfl)⟩ rfl hl.1 (Nat.le_of_ble_eq_true rfl) dX10_text_1 rfl ⟨(Nat.le_of_ble_eq_true rfl), (Nat.le_of_ble_eq_true rfl)⟩ (fun v2 w3 hp1 H locs hP hD hS => ?_)
  obtain ⟨rfl, rfl⟩ := hp1
  refine W.eq (g2 := F0 m 4 ls [.int (wi x1 0 11)]) rfl (W.widen (k := 0) (n := 0) (Nat.le_of_ble_eq_true rfl) (Nat.le_of_ble_eq_true rfl) ?_)
  refine lv_if_ne (tgt := 9) hx hb dX10_text_4 (by decide) (fun c_4 => ?_) (fun c_4 => ?_)
  · obtain ⟨j, hj, rfl, clj⟩ := wi_t c_4
    refine lv_aload_n hx hb dX10_text_9 rfl (lv_at hl 0 rfl) ?_
    refine x_get (ref := "NoteHouse") F hP kI0 rfl (fun _ h => List.mem_cons_of_mem _ (List.mem_append_left _ (List.mem_append_left _ (List.mem_append_left _ (List.mem_append_right _ (h)))))) 9 (Nat.le_of_ble_eq_true rfl) (List.mem_cons_of_mem _ (List.mem_append_left _ (List.mem_append_left _ (List.mem_append_left _ (List.mem_append_left _ (List.mem_append_left _ (List.mem_of_getElem? (i := 0) rfl))))))) rfl rfl dX10_text_10 ?_
    have pr5 := (hG9 sg (by omega)).1
    have pr5a := pr5.1
    have pr5b := pr5.2
    have k6 := (hG9 sg (by omega)).2.1
    have tz7 := (hG9 sg (by omega)).2.2.1
    have k8 := (hG9 sg (by omega)).2.2.2.1
    have tz9 := (hG9 sg (by omega)).2.2.2.2.1
    have k10 := (hG9 sg (by omega)).2.2.2.2.2.1
    have tz11 := (hG9 sg (by omega)).2.2.2.2.2.2.1
    have k12 := (hG9 sg (by omega)).2.2.2.2.2.2.2.1
    have tz13 := (hG9 sg (by omega)).2.2.2.2.2.2.2.2.1
    have k14 := (hG9 sg (by omega)).2.2.2.2.2.2.2.2.2.1
    have tz15 := (hG9 sg (by omega)).2.2.2.2.2.2.2.2.2.2.1
    have k16 := (hG9 sg (by omega)).2.2.2.2.2.2.2.2.2.2.2.1
    have tz17 := (hG9 sg (by omega)).2.2.2.2.2.2.2.2.2.2.2.2
    refine lv_aload_n hx hb dX10_text_13 rfl (lv_at hl 0 rfl) ?_
    refine x_get (ref := "NoteHouse") F hP kI0 rfl (fun _ h => List.mem_cons_of_mem _ (List.mem_append_left _ (List.mem_append_left _ (List.mem_append_left _ (List.mem_append_right _ (h)))))) 6 (Nat.le_of_ble_eq_true rfl) (List.mem_cons_of_mem _ (List.mem_append_left _ (List.mem_append_left _ (List.mem_append_left _ (List.mem_append_left _ (List.mem_append_left _ (List.mem_of_getElem? (i := 1) rfl))))))) rfl rfl dX10_text_14 ?_
    refine x_callV (n := 1) (As := [.ref a6]) (rest := []) F hP hD hS (g_learn l D cy sk sv w (aa sg) (ga0 sg) (ga1 sg) (ga2 sg) (ga3 sg) (ga4 sg) a6 tb ln (nI (ru sg)) ta (df sg) (cf sg) (nf sg) (sf sg) (uf sg) tbf k6 k8 k10 k12 k14 k16 kI11 kI12 (fun b => b = a6 ∨ b = (aa sg) ∨ b = (ga0 sg) ∨ b = (ga1 sg) ∨ b = (ga2 sg) ∨ b = (ga3 sg) ∨ b = (ga4 sg)) (Or.inl rfl) (Or.inr (Or.inl rfl)) (Or.inr (Or.inr (Or.inl rfl))) (Or.inr (Or.inr (Or.inr (Or.inl rfl)))) (Or.inr (Or.inr (Or.inr (Or.inr (Or.inl rfl))))) (Or.inr (Or.inr (Or.inr (Or.inr (Or.inr (Or.inl rfl)))))) (Or.inr (Or.inr (Or.inr (Or.inr (Or.inr (Or.inr rfl)))))) (by omega) (by assumption) (tg_ne tz9 tz11 (by omega)) (tg_ne tz13 tz15 (by omega)) (tg_ne tz13 tz17 (by omega)) (tg_ne tz15 tz17 (by omega))) gX10_text_X1_learn rfl rfl (by decide +kernel) ⟨(Nat.le_of_ble_eq_true rfl), (Nat.le_of_ble_eq_true rfl)⟩ rfl hl.1 (Nat.le_of_ble_eq_true rfl) k6 rfl dX10_text_17 rfl ⟨(Nat.le_of_ble_eq_true rfl), (Nat.le_of_ble_eq_true rfl)⟩ (fun v19 w20 hp18 H locs hP hD hS => ?_)
    obtain ⟨ax21, rrx22, dfx23, cfx24, nfx25, sfx26, ufx27, rx28, rfl, hz29, hz30, hz31, kq39, k32, k33, k34, k35, k36, k37, k38⟩ := hp18
    have fm40 : ∀ k9, k9 < 13 ∧ k9 ≠ sg → (aOK (cf k9) (nf k9) ∧ ru k9 ≤ 12) ∧ wd_at w (aa k9) (.inr (1, [.ref (ga0 k9), .ref (ga1 k9), .ref (ga2 k9), .ref (ga3 k9), .ref (ga4 k9), .int (nI (ru k9))])) ∧ tg (aa k9) = 200 + k9 ∧ wd_at w (ga0 k9) (.inl (cy 2, 12, .inl (df k9))) ∧ tg (ga0 k9) = 220 + k9 ∧ wd_at w (ga1 k9) (.inl (cy 2, 12, .inl (cf k9))) ∧ tg (ga1 k9) = 240 + k9 ∧ wd_at w (ga2 k9) (.inl (cy 2, 72, .inl (nf k9))) ∧ tg (ga2 k9) = 260 + k9 ∧ wd_at w (ga3 k9) (.inl (cy 1, 72, .inl (sf k9))) ∧ tg (ga3 k9) = 280 + k9 ∧ wd_at w (ga4 k9) (.inl (cy 2, 72, .inl (uf k9))) ∧ tg (ga4 k9) = 300 + k9 := fun k9 hi8 => hG9 k9 hi8.1
    have k41 := kq39.2 _ _ kI0 (fun q9 => Or.elim q9 (tg_ne tI0 tI11 (by omega)) (fun q9 => Or.elim q9 (tg_ne tI0 tz7 (by omega)) (fun q9 => Or.elim q9 (tg_ne tI0 tz9 (by omega)) (fun q9 => Or.elim q9 (tg_ne tI0 tz11 (by omega)) (fun q9 => Or.elim q9 (tg_ne tI0 tz13 (by omega)) (fun q9 => Or.elim q9 (tg_ne tI0 tz15 (by omega)) (fun q9 : x = (ga4 sg) => (tg_ne tI0 tz17 (by omega)) q9)))))))
    have k42 := kq39.2 _ _ kI1 (fun q9 => Or.elim q9 (tg_ne tI1 tI11 (by omega)) (fun q9 => Or.elim q9 (tg_ne tI1 tz7 (by omega)) (fun q9 => Or.elim q9 (tg_ne tI1 tz9 (by omega)) (fun q9 => Or.elim q9 (tg_ne tI1 tz11 (by omega)) (fun q9 => Or.elim q9 (tg_ne tI1 tz13 (by omega)) (fun q9 => Or.elim q9 (tg_ne tI1 tz15 (by omega)) (fun q9 : a0 = (ga4 sg) => (tg_ne tI1 tz17 (by omega)) q9)))))))
    have k43 := kq39.2 _ _ kI2 (fun q9 => Or.elim q9 (tg_ne tI2 tI11 (by omega)) (fun q9 => Or.elim q9 (tg_ne tI2 tz7 (by omega)) (fun q9 => Or.elim q9 (tg_ne tI2 tz9 (by omega)) (fun q9 => Or.elim q9 (tg_ne tI2 tz11 (by omega)) (fun q9 => Or.elim q9 (tg_ne tI2 tz13 (by omega)) (fun q9 => Or.elim q9 (tg_ne tI2 tz15 (by omega)) (fun q9 : b0 = (ga4 sg) => (tg_ne tI2 tz17 (by omega)) q9)))))))
    have k44 := kq39.2 _ _ kI3 (fun q9 => Or.elim q9 (tg_ne tI3 tI11 (by omega)) (fun q9 => Or.elim q9 (tg_ne tI3 tz7 (by omega)) (fun q9 => Or.elim q9 (tg_ne tI3 tz9 (by omega)) (fun q9 => Or.elim q9 (tg_ne tI3 tz11 (by omega)) (fun q9 => Or.elim q9 (tg_ne tI3 tz13 (by omega)) (fun q9 => Or.elim q9 (tg_ne tI3 tz15 (by omega)) (fun q9 : b1 = (ga4 sg) => (tg_ne tI3 tz17 (by omega)) q9)))))))
    have k45 := kq39.2 _ _ kI4 (fun q9 => Or.elim q9 (tg_ne tI4 tI11 (by omega)) (fun q9 => Or.elim q9 (tg_ne tI4 tz7 (by omega)) (fun q9 => Or.elim q9 (tg_ne tI4 tz9 (by omega)) (fun q9 => Or.elim q9 (tg_ne tI4 tz11 (by omega)) (fun q9 => Or.elim q9 (tg_ne tI4 tz13 (by omega)) (fun q9 => Or.elim q9 (tg_ne tI4 tz15 (by omega)) (fun q9 : b2 = (ga4 sg) => (tg_ne tI4 tz17 (by omega)) q9)))))))
    have k46 := kq39.2 _ _ kI5 (fun q9 => Or.elim q9 (tg_ne tI5 tI11 (by omega)) (fun q9 => Or.elim q9 (tg_ne tI5 tz7 (by omega)) (fun q9 => Or.elim q9 (tg_ne tI5 tz9 (by omega)) (fun q9 => Or.elim q9 (tg_ne tI5 tz11 (by omega)) (fun q9 => Or.elim q9 (tg_ne tI5 tz13 (by omega)) (fun q9 => Or.elim q9 (tg_ne tI5 tz15 (by omega)) (fun q9 : b3 = (ga4 sg) => (tg_ne tI5 tz17 (by omega)) q9)))))))
    have k47 := kq39.2 _ _ kI6 (fun q9 => Or.elim q9 (tg_ne tI6 tI11 (by omega)) (fun q9 => Or.elim q9 (tg_ne tI6 tz7 (by omega)) (fun q9 => Or.elim q9 (tg_ne tI6 tz9 (by omega)) (fun q9 => Or.elim q9 (tg_ne tI6 tz11 (by omega)) (fun q9 => Or.elim q9 (tg_ne tI6 tz13 (by omega)) (fun q9 => Or.elim q9 (tg_ne tI6 tz15 (by omega)) (fun q9 : a1 = (ga4 sg) => (tg_ne tI6 tz17 (by omega)) q9)))))))
    have k48 := kq39.2 _ _ kI7 (fun q9 => Or.elim q9 (tg_ne tI7 tI11 (by omega)) (fun q9 => Or.elim q9 (tg_ne tI7 tz7 (by omega)) (fun q9 => Or.elim q9 (tg_ne tI7 tz9 (by omega)) (fun q9 => Or.elim q9 (tg_ne tI7 tz11 (by omega)) (fun q9 => Or.elim q9 (tg_ne tI7 tz13 (by omega)) (fun q9 => Or.elim q9 (tg_ne tI7 tz15 (by omega)) (fun q9 : a2 = (ga4 sg) => (tg_ne tI7 tz17 (by omega)) q9)))))))
    have k49 := kq39.2 _ _ kI8 (fun q9 => Or.elim q9 (tg_ne tI8 tI11 (by omega)) (fun q9 => Or.elim q9 (tg_ne tI8 tz7 (by omega)) (fun q9 => Or.elim q9 (tg_ne tI8 tz9 (by omega)) (fun q9 => Or.elim q9 (tg_ne tI8 tz11 (by omega)) (fun q9 => Or.elim q9 (tg_ne tI8 tz13 (by omega)) (fun q9 => Or.elim q9 (tg_ne tI8 tz15 (by omega)) (fun q9 : a3 = (ga4 sg) => (tg_ne tI8 tz17 (by omega)) q9)))))))
    have k50 := kq39.2 _ _ kI9 (fun q9 => Or.elim q9 (tg_ne tI9 tI11 (by omega)) (fun q9 => Or.elim q9 (tg_ne tI9 tz7 (by omega)) (fun q9 => Or.elim q9 (tg_ne tI9 tz9 (by omega)) (fun q9 => Or.elim q9 (tg_ne tI9 tz11 (by omega)) (fun q9 => Or.elim q9 (tg_ne tI9 tz13 (by omega)) (fun q9 => Or.elim q9 (tg_ne tI9 tz15 (by omega)) (fun q9 : a4 = (ga4 sg) => (tg_ne tI9 tz17 (by omega)) q9)))))))
    have k51 := kq39.2 _ _ kI10 (fun q9 => Or.elim q9 (tg_ne tI10 tI11 (by omega)) (fun q9 => Or.elim q9 (tg_ne tI10 tz7 (by omega)) (fun q9 => Or.elim q9 (tg_ne tI10 tz9 (by omega)) (fun q9 => Or.elim q9 (tg_ne tI10 tz11 (by omega)) (fun q9 => Or.elim q9 (tg_ne tI10 tz13 (by omega)) (fun q9 => Or.elim q9 (tg_ne tI10 tz15 (by omega)) (fun q9 : a5 = (ga4 sg) => (tg_ne tI10 tz17 (by omega)) q9)))))))
    have k52 := kq39.2 _ _ kI12 (fun q9 => Or.elim q9 (tg_ne tI12 tI11 (by omega)) (fun q9 => Or.elim q9 (tg_ne tI12 tz7 (by omega)) (fun q9 => Or.elim q9 (tg_ne tI12 tz9 (by omega)) (fun q9 => Or.elim q9 (tg_ne tI12 tz11 (by omega)) (fun q9 => Or.elim q9 (tg_ne tI12 tz13 (by omega)) (fun q9 => Or.elim q9 (tg_ne tI12 tz15 (by omega)) (fun q9 : tb = (ga4 sg) => (tg_ne tI12 tz17 (by omega)) q9)))))))
    have k53 := kq39.2 _ _ kI13 (fun q9 => Or.elim q9 (tg_ne tI13 tI11 (by omega)) (fun q9 => Or.elim q9 (tg_ne tI13 tz7 (by omega)) (fun q9 => Or.elim q9 (tg_ne tI13 tz9 (by omega)) (fun q9 => Or.elim q9 (tg_ne tI13 tz11 (by omega)) (fun q9 => Or.elim q9 (tg_ne tI13 tz13 (by omega)) (fun q9 => Or.elim q9 (tg_ne tI13 tz15 (by omega)) (fun q9 : a7 = (ga4 sg) => (tg_ne tI13 tz17 (by omega)) q9)))))))
    have k54 := kq39.2 _ _ kI14 (fun q9 => Or.elim q9 (tg_ne tI14 tI11 (by omega)) (fun q9 => Or.elim q9 (tg_ne tI14 tz7 (by omega)) (fun q9 => Or.elim q9 (tg_ne tI14 tz9 (by omega)) (fun q9 => Or.elim q9 (tg_ne tI14 tz11 (by omega)) (fun q9 => Or.elim q9 (tg_ne tI14 tz13 (by omega)) (fun q9 => Or.elim q9 (tg_ne tI14 tz15 (by omega)) (fun q9 : l0 = (ga4 sg) => (tg_ne tI14 tz17 (by omega)) q9)))))))
    have k55 := kq39.2 _ _ kI15 (fun q9 => Or.elim q9 (tg_ne tI15 tI11 (by omega)) (fun q9 => Or.elim q9 (tg_ne tI15 tz7 (by omega)) (fun q9 => Or.elim q9 (tg_ne tI15 tz9 (by omega)) (fun q9 => Or.elim q9 (tg_ne tI15 tz11 (by omega)) (fun q9 => Or.elim q9 (tg_ne tI15 tz13 (by omega)) (fun q9 => Or.elim q9 (tg_ne tI15 tz15 (by omega)) (fun q9 : l1 = (ga4 sg) => (tg_ne tI15 tz17 (by omega)) q9)))))))
    have k56 := kq39.2 _ _ kI16 (fun q9 => Or.elim q9 (tg_ne tI16 tI11 (by omega)) (fun q9 => Or.elim q9 (tg_ne tI16 tz7 (by omega)) (fun q9 => Or.elim q9 (tg_ne tI16 tz9 (by omega)) (fun q9 => Or.elim q9 (tg_ne tI16 tz11 (by omega)) (fun q9 => Or.elim q9 (tg_ne tI16 tz13 (by omega)) (fun q9 => Or.elim q9 (tg_ne tI16 tz15 (by omega)) (fun q9 : l2 = (ga4 sg) => (tg_ne tI16 tz17 (by omega)) q9)))))))
    have k57 := kq39.2 _ _ kI17 (fun q9 => Or.elim q9 (tg_ne tI17 tI11 (by omega)) (fun q9 => Or.elim q9 (tg_ne tI17 tz7 (by omega)) (fun q9 => Or.elim q9 (tg_ne tI17 tz9 (by omega)) (fun q9 => Or.elim q9 (tg_ne tI17 tz11 (by omega)) (fun q9 => Or.elim q9 (tg_ne tI17 tz13 (by omega)) (fun q9 => Or.elim q9 (tg_ne tI17 tz15 (by omega)) (fun q9 : l3 = (ga4 sg) => (tg_ne tI17 tz17 (by omega)) q9)))))))
    have k58 := kq39.2 _ _ kI18 (fun q9 => Or.elim q9 (tg_ne tI18 tI11 (by omega)) (fun q9 => Or.elim q9 (tg_ne tI18 tz7 (by omega)) (fun q9 => Or.elim q9 (tg_ne tI18 tz9 (by omega)) (fun q9 => Or.elim q9 (tg_ne tI18 tz11 (by omega)) (fun q9 => Or.elim q9 (tg_ne tI18 tz13 (by omega)) (fun q9 => Or.elim q9 (tg_ne tI18 tz15 (by omega)) (fun q9 : l4 = (ga4 sg) => (tg_ne tI18 tz17 (by omega)) q9)))))))
    have k59 := kq39.2 _ _ kI19 (fun q9 => Or.elim q9 (tg_ne tI19 tI11 (by omega)) (fun q9 => Or.elim q9 (tg_ne tI19 tz7 (by omega)) (fun q9 => Or.elim q9 (tg_ne tI19 tz9 (by omega)) (fun q9 => Or.elim q9 (tg_ne tI19 tz11 (by omega)) (fun q9 => Or.elim q9 (tg_ne tI19 tz13 (by omega)) (fun q9 => Or.elim q9 (tg_ne tI19 tz15 (by omega)) (fun q9 : l5 = (ga4 sg) => (tg_ne tI19 tz17 (by omega)) q9)))))))
    have k60 := kq39.2 _ _ kI20 (fun q9 => Or.elim q9 (tg_ne tI20 tI11 (by omega)) (fun q9 => Or.elim q9 (tg_ne tI20 tz7 (by omega)) (fun q9 => Or.elim q9 (tg_ne tI20 tz9 (by omega)) (fun q9 => Or.elim q9 (tg_ne tI20 tz11 (by omega)) (fun q9 => Or.elim q9 (tg_ne tI20 tz13 (by omega)) (fun q9 => Or.elim q9 (tg_ne tI20 tz15 (by omega)) (fun q9 : l6 = (ga4 sg) => (tg_ne tI20 tz17 (by omega)) q9)))))))
    have k61 := kq39.2 _ _ kI21 (fun q9 => Or.elim q9 (tg_ne tI21 tI11 (by omega)) (fun q9 => Or.elim q9 (tg_ne tI21 tz7 (by omega)) (fun q9 => Or.elim q9 (tg_ne tI21 tz9 (by omega)) (fun q9 => Or.elim q9 (tg_ne tI21 tz11 (by omega)) (fun q9 => Or.elim q9 (tg_ne tI21 tz13 (by omega)) (fun q9 => Or.elim q9 (tg_ne tI21 tz15 (by omega)) (fun q9 : l7 = (ga4 sg) => (tg_ne tI21 tz17 (by omega)) q9)))))))
    have k62 := kq39.2 _ _ kI22 (fun q9 => Or.elim q9 (tg_ne tI22 tI11 (by omega)) (fun q9 => Or.elim q9 (tg_ne tI22 tz7 (by omega)) (fun q9 => Or.elim q9 (tg_ne tI22 tz9 (by omega)) (fun q9 => Or.elim q9 (tg_ne tI22 tz11 (by omega)) (fun q9 => Or.elim q9 (tg_ne tI22 tz13 (by omega)) (fun q9 => Or.elim q9 (tg_ne tI22 tz15 (by omega)) (fun q9 : a8 = (ga4 sg) => (tg_ne tI22 tz17 (by omega)) q9)))))))
    have k63 := kq39.2 _ _ kI23 (fun q9 => Or.elim q9 (tg_ne tI23 tI11 (by omega)) (fun q9 => Or.elim q9 (tg_ne tI23 tz7 (by omega)) (fun q9 => Or.elim q9 (tg_ne tI23 tz9 (by omega)) (fun q9 => Or.elim q9 (tg_ne tI23 tz11 (by omega)) (fun q9 => Or.elim q9 (tg_ne tI23 tz13 (by omega)) (fun q9 => Or.elim q9 (tg_ne tI23 tz15 (by omega)) (fun q9 : a10 = (ga4 sg) => (tg_ne tI23 tz17 (by omega)) q9)))))))
    have k64 := kq39.2 _ _ kI24 (fun q9 => Or.elim q9 (tg_ne tI24 tI11 (by omega)) (fun q9 => Or.elim q9 (tg_ne tI24 tz7 (by omega)) (fun q9 => Or.elim q9 (tg_ne tI24 tz9 (by omega)) (fun q9 => Or.elim q9 (tg_ne tI24 tz11 (by omega)) (fun q9 => Or.elim q9 (tg_ne tI24 tz13 (by omega)) (fun q9 => Or.elim q9 (tg_ne tI24 tz15 (by omega)) (fun q9 : bl = (ga4 sg) => (tg_ne tI24 tz17 (by omega)) q9)))))))
    have k65 := kq39.2 _ _ kI25 (fun q9 => Or.elim q9 (tg_ne tI25 tI11 (by omega)) (fun q9 => Or.elim q9 (tg_ne tI25 tz7 (by omega)) (fun q9 => Or.elim q9 (tg_ne tI25 tz9 (by omega)) (fun q9 => Or.elim q9 (tg_ne tI25 tz11 (by omega)) (fun q9 => Or.elim q9 (tg_ne tI25 tz13 (by omega)) (fun q9 => Or.elim q9 (tg_ne tI25 tz15 (by omega)) (fun q9 : a11 = (ga4 sg) => (tg_ne tI25 tz17 (by omega)) q9)))))))
    have k66 := kq39.2 _ _ kI26 (fun q9 => Or.elim q9 (tg_ne tI26 tI11 (by omega)) (fun q9 => Or.elim q9 (tg_ne tI26 tz7 (by omega)) (fun q9 => Or.elim q9 (tg_ne tI26 tz9 (by omega)) (fun q9 => Or.elim q9 (tg_ne tI26 tz11 (by omega)) (fun q9 => Or.elim q9 (tg_ne tI26 tz13 (by omega)) (fun q9 => Or.elim q9 (tg_ne tI26 tz15 (by omega)) (fun q9 : bm = (ga4 sg) => (tg_ne tI26 tz17 (by omega)) q9)))))))
    have fm67 : ∀ i9, i9 < 12 → tf i9 = some (tn i9) ∧ wd_at w20 (tn i9) (.inr (8, [.int (co i9), .int (ra i9), .int (se i9), .ref (ag i9)])) ∧ tg (tn i9) = 100 + i9 := fun i9 hi9 => ⟨(hT9 i9 hi9).1, kq39.2 _ _ (hT9 i9 hi9).2.1 (fun q9 => Or.elim q9 (tg_ne (hT9 i9 hi9).2.2 tI11 (by omega)) (fun q9 => Or.elim q9 (tg_ne (hT9 i9 hi9).2.2 tz7 (by omega)) (fun q9 => Or.elim q9 (tg_ne (hT9 i9 hi9).2.2 tz9 (by omega)) (fun q9 => Or.elim q9 (tg_ne (hT9 i9 hi9).2.2 tz11 (by omega)) (fun q9 => Or.elim q9 (tg_ne (hT9 i9 hi9).2.2 tz13 (by omega)) (fun q9 => Or.elim q9 (tg_ne (hT9 i9 hi9).2.2 tz15 (by omega)) (tg_ne (hT9 i9 hi9).2.2 tz17 (by omega)))))))), (hT9 i9 hi9).2.2⟩
    have fm68 : ∀ k9, k9 < 13 ∧ k9 ≠ sg → (aOK (cf k9) (nf k9) ∧ ru k9 ≤ 12) ∧ wd_at w20 (aa k9) (.inr (1, [.ref (ga0 k9), .ref (ga1 k9), .ref (ga2 k9), .ref (ga3 k9), .ref (ga4 k9), .int (nI (ru k9))])) ∧ tg (aa k9) = 200 + k9 ∧ wd_at w20 (ga0 k9) (.inl (cy 2, 12, .inl (df k9))) ∧ tg (ga0 k9) = 220 + k9 ∧ wd_at w20 (ga1 k9) (.inl (cy 2, 12, .inl (cf k9))) ∧ tg (ga1 k9) = 240 + k9 ∧ wd_at w20 (ga2 k9) (.inl (cy 2, 72, .inl (nf k9))) ∧ tg (ga2 k9) = 260 + k9 ∧ wd_at w20 (ga3 k9) (.inl (cy 1, 72, .inl (sf k9))) ∧ tg (ga3 k9) = 280 + k9 ∧ wd_at w20 (ga4 k9) (.inl (cy 2, 72, .inl (uf k9))) ∧ tg (ga4 k9) = 300 + k9 := fun k9 hi9 => ⟨(fm40 k9 hi9).1, kq39.2 _ _ (fm40 k9 hi9).2.1 (fun q9 => Or.elim q9 (tg_ne (fm40 k9 hi9).2.2.1 tI11 (by omega)) (fun q9 => Or.elim q9 (tg_ne (fm40 k9 hi9).2.2.1 tz7 (by omega)) (fun q9 => Or.elim q9 (tg_ne (fm40 k9 hi9).2.2.1 tz9 (by omega)) (fun q9 => Or.elim q9 (tg_ne (fm40 k9 hi9).2.2.1 tz11 (by omega)) (fun q9 => Or.elim q9 (tg_ne (fm40 k9 hi9).2.2.1 tz13 (by omega)) (fun q9 => Or.elim q9 (tg_ne (fm40 k9 hi9).2.2.1 tz15 (by omega)) (tg_ne (fm40 k9 hi9).2.2.1 tz17 (by omega)))))))), (fm40 k9 hi9).2.2.1, kq39.2 _ _ (fm40 k9 hi9).2.2.2.1 (fun q9 => Or.elim q9 (tg_ne (fm40 k9 hi9).2.2.2.2.1 tI11 (by omega)) (fun q9 => Or.elim q9 (tg_ne (fm40 k9 hi9).2.2.2.2.1 tz7 (by omega)) (fun q9 => Or.elim q9 (tg_ne (fm40 k9 hi9).2.2.2.2.1 tz9 (by omega)) (fun q9 => Or.elim q9 (tg_ne (fm40 k9 hi9).2.2.2.2.1 tz11 (by omega)) (fun q9 => Or.elim q9 (tg_ne (fm40 k9 hi9).2.2.2.2.1 tz13 (by omega)) (fun q9 => Or.elim q9 (tg_ne (fm40 k9 hi9).2.2.2.2.1 tz15 (by omega)) (tg_ne (fm40 k9 hi9).2.2.2.2.1 tz17 (by omega)))))))), (fm40 k9 hi9).2.2.2.2.1, kq39.2 _ _ (fm40 k9 hi9).2.2.2.2.2.1 (fun q9 => Or.elim q9 (tg_ne (fm40 k9 hi9).2.2.2.2.2.2.1 tI11 (by omega)) (fun q9 => Or.elim q9 (tg_ne (fm40 k9 hi9).2.2.2.2.2.2.1 tz7 (by omega)) (fun q9 => Or.elim q9 (tg_ne (fm40 k9 hi9).2.2.2.2.2.2.1 tz9 (by omega)) (fun q9 => Or.elim q9 (tg_ne (fm40 k9 hi9).2.2.2.2.2.2.1 tz11 (by omega)) (fun q9 => Or.elim q9 (tg_ne (fm40 k9 hi9).2.2.2.2.2.2.1 tz13 (by omega)) (fun q9 => Or.elim q9 (tg_ne (fm40 k9 hi9).2.2.2.2.2.2.1 tz15 (by omega)) (tg_ne (fm40 k9 hi9).2.2.2.2.2.2.1 tz17 (by omega)))))))), (fm40 k9 hi9).2.2.2.2.2.2.1, kq39.2 _ _ (fm40 k9 hi9).2.2.2.2.2.2.2.1 (fun q9 => Or.elim q9 (tg_ne (fm40 k9 hi9).2.2.2.2.2.2.2.2.1 tI11 (by omega)) (fun q9 => Or.elim q9 (tg_ne (fm40 k9 hi9).2.2.2.2.2.2.2.2.1 tz7 (by omega)) (fun q9 => Or.elim q9 (tg_ne (fm40 k9 hi9).2.2.2.2.2.2.2.2.1 tz9 (by omega)) (fun q9 => Or.elim q9 (tg_ne (fm40 k9 hi9).2.2.2.2.2.2.2.2.1 tz11 (by omega)) (fun q9 => Or.elim q9 (tg_ne (fm40 k9 hi9).2.2.2.2.2.2.2.2.1 tz13 (by omega)) (fun q9 => Or.elim q9 (tg_ne (fm40 k9 hi9).2.2.2.2.2.2.2.2.1 tz15 (by omega)) (tg_ne (fm40 k9 hi9).2.2.2.2.2.2.2.2.1 tz17 (by omega)))))))), (fm40 k9 hi9).2.2.2.2.2.2.2.2.1, kq39.2 _ _ (fm40 k9 hi9).2.2.2.2.2.2.2.2.2.1 (fun q9 => Or.elim q9 (tg_ne (fm40 k9 hi9).2.2.2.2.2.2.2.2.2.2.1 tI11 (by omega)) (fun q9 => Or.elim q9 (tg_ne (fm40 k9 hi9).2.2.2.2.2.2.2.2.2.2.1 tz7 (by omega)) (fun q9 => Or.elim q9 (tg_ne (fm40 k9 hi9).2.2.2.2.2.2.2.2.2.2.1 tz9 (by omega)) (fun q9 => Or.elim q9 (tg_ne (fm40 k9 hi9).2.2.2.2.2.2.2.2.2.2.1 tz11 (by omega)) (fun q9 => Or.elim q9 (tg_ne (fm40 k9 hi9).2.2.2.2.2.2.2.2.2.2.1 tz13 (by omega)) (fun q9 => Or.elim q9 (tg_ne (fm40 k9 hi9).2.2.2.2.2.2.2.2.2.2.1 tz15 (by omega)) (tg_ne (fm40 k9 hi9).2.2.2.2.2.2.2.2.2.2.1 tz17 (by omega)))))))), (fm40 k9 hi9).2.2.2.2.2.2.2.2.2.2.1, kq39.2 _ _ (fm40 k9 hi9).2.2.2.2.2.2.2.2.2.2.2.1 (fun q9 => Or.elim q9 (tg_ne (fm40 k9 hi9).2.2.2.2.2.2.2.2.2.2.2.2 tI11 (by omega)) (fun q9 => Or.elim q9 (tg_ne (fm40 k9 hi9).2.2.2.2.2.2.2.2.2.2.2.2 tz7 (by omega)) (fun q9 => Or.elim q9 (tg_ne (fm40 k9 hi9).2.2.2.2.2.2.2.2.2.2.2.2 tz9 (by omega)) (fun q9 => Or.elim q9 (tg_ne (fm40 k9 hi9).2.2.2.2.2.2.2.2.2.2.2.2 tz11 (by omega)) (fun q9 => Or.elim q9 (tg_ne (fm40 k9 hi9).2.2.2.2.2.2.2.2.2.2.2.2 tz13 (by omega)) (fun q9 => Or.elim q9 (tg_ne (fm40 k9 hi9).2.2.2.2.2.2.2.2.2.2.2.2 tz15 (by omega)) (tg_ne (fm40 k9 hi9).2.2.2.2.2.2.2.2.2.2.2.2 tz17 (by omega)))))))), (fm40 k9 hi9).2.2.2.2.2.2.2.2.2.2.2.2⟩
    have fm69 : ∀ k9, k9 < pc → pf k9 = some (pa k9) ∧ wd_at w20 (pa k9) (.inr (3, [.int (plv k9), .int (pwo k9), .int (phd k9), .int (pgd k9), .int (pdy k9), .int (pno k9), .int (ptp k9)])) ∧ tg (pa k9) = 3000 + k9 := fun k9 hi9 => ⟨(hP9 k9 hi9).1, kq39.2 _ _ (hP9 k9 hi9).2.1 (fun q9 => Or.elim q9 (tg_ne (hP9 k9 hi9).2.2 tI11 (by omega)) (fun q9 => Or.elim q9 (tg_ne (hP9 k9 hi9).2.2 tz7 (by omega)) (fun q9 => Or.elim q9 (tg_ne (hP9 k9 hi9).2.2 tz9 (by omega)) (fun q9 => Or.elim q9 (tg_ne (hP9 k9 hi9).2.2 tz11 (by omega)) (fun q9 => Or.elim q9 (tg_ne (hP9 k9 hi9).2.2 tz13 (by omega)) (fun q9 => Or.elim q9 (tg_ne (hP9 k9 hi9).2.2 tz15 (by omega)) (tg_ne (hP9 k9 hi9).2.2 tz17 (by omega)))))))), (hP9 k9 hi9).2.2⟩
    have fm70 : ∀ k9, k9 < ac → af k9 = some (ad k9) ∧ wd_at w20 (ad k9) (.inr (0, [.int (av0 k9), .int (av1 k9), .int (av2 k9), .int (av3 k9)])) ∧ tg (ad k9) = 4000 + k9 := fun k9 hi9 => ⟨(hA9 k9 hi9).1, kq39.2 _ _ (hA9 k9 hi9).2.1 (fun q9 => Or.elim q9 (tg_ne (hA9 k9 hi9).2.2 tI11 (by omega)) (fun q9 => Or.elim q9 (tg_ne (hA9 k9 hi9).2.2 tz7 (by omega)) (fun q9 => Or.elim q9 (tg_ne (hA9 k9 hi9).2.2 tz9 (by omega)) (fun q9 => Or.elim q9 (tg_ne (hA9 k9 hi9).2.2 tz11 (by omega)) (fun q9 => Or.elim q9 (tg_ne (hA9 k9 hi9).2.2 tz13 (by omega)) (fun q9 => Or.elim q9 (tg_ne (hA9 k9 hi9).2.2 tz15 (by omega)) (tg_ne (hA9 k9 hi9).2.2 tz17 (by omega)))))))), (hA9 k9 hi9).2.2⟩
    have fm71 : ∀ k9, k9 < sc → zf k9 = some (so k9) ∧ wd_at w20 (so k9) (.inr (6, [.int (sp0 k9), .int (sp1 k9), .ref (sr k9)])) ∧ tg (so k9) = 5000 + k9 ∧ wd_at w20 (sr k9) (.inl (cy 2, 12, .inl (sd k9))) ∧ tg (sr k9) = 6000 + k9 := fun k9 hi9 => ⟨(hS9 k9 hi9).1, kq39.2 _ _ (hS9 k9 hi9).2.1 (fun q9 => Or.elim q9 (tg_ne (hS9 k9 hi9).2.2.1 tI11 (by omega)) (fun q9 => Or.elim q9 (tg_ne (hS9 k9 hi9).2.2.1 tz7 (by omega)) (fun q9 => Or.elim q9 (tg_ne (hS9 k9 hi9).2.2.1 tz9 (by omega)) (fun q9 => Or.elim q9 (tg_ne (hS9 k9 hi9).2.2.1 tz11 (by omega)) (fun q9 => Or.elim q9 (tg_ne (hS9 k9 hi9).2.2.1 tz13 (by omega)) (fun q9 => Or.elim q9 (tg_ne (hS9 k9 hi9).2.2.1 tz15 (by omega)) (tg_ne (hS9 k9 hi9).2.2.1 tz17 (by omega)))))))), (hS9 k9 hi9).2.2.1, kq39.2 _ _ (hS9 k9 hi9).2.2.2.1 (fun q9 => Or.elim q9 (tg_ne (hS9 k9 hi9).2.2.2.2 tI11 (by omega)) (fun q9 => Or.elim q9 (tg_ne (hS9 k9 hi9).2.2.2.2 tz7 (by omega)) (fun q9 => Or.elim q9 (tg_ne (hS9 k9 hi9).2.2.2.2 tz9 (by omega)) (fun q9 => Or.elim q9 (tg_ne (hS9 k9 hi9).2.2.2.2 tz11 (by omega)) (fun q9 => Or.elim q9 (tg_ne (hS9 k9 hi9).2.2.2.2 tz13 (by omega)) (fun q9 => Or.elim q9 (tg_ne (hS9 k9 hi9).2.2.2.2 tz15 (by omega)) (tg_ne (hS9 k9 hi9).2.2.2.2 tz17 (by omega)))))))), (hS9 k9 hi9).2.2.2.2⟩
    have fm72 : ∀ k9, k9 < sh → (hf k9 = some (sw k9) ∧ hto k9 < 12) ∧ wd_at w20 (sw k9) (.inr (5, [.int (nI (hto k9)), .int (hpp k9), .int (hle k9), .int (ham k9), .int (hhh k9), .int (hdd k9), .int (hru k9), .int (hde k9), .int (hcp k9), .int (hld k9)])) ∧ tg (sw k9) = 7000 + k9 := fun k9 hi9 => ⟨(hH9 k9 hi9).1, kq39.2 _ _ (hH9 k9 hi9).2.1 (fun q9 => Or.elim q9 (tg_ne (hH9 k9 hi9).2.2 tI11 (by omega)) (fun q9 => Or.elim q9 (tg_ne (hH9 k9 hi9).2.2 tz7 (by omega)) (fun q9 => Or.elim q9 (tg_ne (hH9 k9 hi9).2.2 tz9 (by omega)) (fun q9 => Or.elim q9 (tg_ne (hH9 k9 hi9).2.2 tz11 (by omega)) (fun q9 => Or.elim q9 (tg_ne (hH9 k9 hi9).2.2 tz13 (by omega)) (fun q9 => Or.elim q9 (tg_ne (hH9 k9 hi9).2.2 tz15 (by omega)) (tg_ne (hH9 k9 hi9).2.2 tz17 (by omega)))))))), (hH9 k9 hi9).2.2⟩
    have kp73 := kp0.tr kq39 (fun b9 hm q9 => (fun q9 => Or.elim q9 (fun q9 => q9 ▸ (tgS tI11 (by omega))) (fun q9 => Or.elim q9 (fun q9 => q9 ▸ (tgS tz7 (by omega))) (fun q9 => Or.elim q9 (fun q9 => q9 ▸ (tgS tz9 (by omega))) (fun q9 => Or.elim q9 (fun q9 => q9 ▸ (tgS tz11 (by omega))) (fun q9 => Or.elim q9 (fun q9 => q9 ▸ (tgS tz13 (by omega))) (fun q9 => Or.elim q9 (fun q9 => q9 ▸ (tgS tz15 (by omega))) (fun q9 => q9 ▸ (tgS tz17 (by omega))))))))) q9)
    refine W.eq (g2 := F0 m 20 ls [.int rx28]) rfl (W.widen (k := 0) (n := 0) (Nat.le_of_ble_eq_true rfl) (Nat.le_of_ble_eq_true rfl) ?_)
    refine lv_istore_n (lv' := [(2, .int rx28), (0, .ref x), (1, .int (nI j))]) hx hb dX10_text_20 rfl hl (by decide) rfl (fun ls hl => ?_)
    refine lv_aload_n hx hb dX10_text_21 rfl (lv_at hl 1 rfl) ?_
    refine x_get (ref := "NoteHouse") F hP k41 rfl (fun _ h => List.mem_cons_of_mem _ (List.mem_append_left _ (List.mem_append_left _ (List.mem_append_left _ (List.mem_append_right _ (h)))))) 6 (Nat.le_of_ble_eq_true rfl) (List.mem_cons_of_mem _ (List.mem_append_left _ (List.mem_append_left _ (List.mem_append_left _ (List.mem_append_left _ (List.mem_append_left _ (List.mem_of_getElem? (i := 1) rfl))))))) rfl rfl dX10_text_22 ?_
    refine lv_iconst (v := 0) hx hb dX10_text_25 (by decide) ?_
    refine y_put (ref := "NoteHouse$Tape") F hP hD hS k32 rfl (fun _ h => List.mem_cons_of_mem _ (List.mem_append_left _ (List.mem_append_left _ (List.mem_append_right _ (h))))) tyX7_ok nmX7 1 (Nat.le_of_ble_eq_true rfl) (List.mem_cons_of_mem _ (List.mem_append_left _ (List.mem_append_left _ (List.mem_append_left _ (List.mem_append_left _ (List.mem_append_left _ (List.mem_of_getElem? (i := 2) rfl))))))) rfl rfl rfl rfl (Nat.le_of_ble_eq_true rfl) dX10_text_26 (fun w74 ew75 H locs hP hD hS => ?_)
    have k76 := wd_at.pt ew75 k41 (tg_ne tI0 tI11 (by omega))
    have k77 := wd_at.pt ew75 k42 (tg_ne tI1 tI11 (by omega))
    have k78 := wd_at.pt ew75 k43 (tg_ne tI2 tI11 (by omega))
    have k79 := wd_at.pt ew75 k44 (tg_ne tI3 tI11 (by omega))
    have k80 := wd_at.pt ew75 k45 (tg_ne tI4 tI11 (by omega))
    have k81 := wd_at.pt ew75 k46 (tg_ne tI5 tI11 (by omega))
    have k82 := wd_at.pt ew75 k47 (tg_ne tI6 tI11 (by omega))
    have k83 := wd_at.pt ew75 k48 (tg_ne tI7 tI11 (by omega))
    have k84 := wd_at.pt ew75 k49 (tg_ne tI8 tI11 (by omega))
    have k85 := wd_at.pt ew75 k50 (tg_ne tI9 tI11 (by omega))
    have k86 := wd_at.pt ew75 k51 (tg_ne tI10 tI11 (by omega))
    have k87 : wd_at w74 a6 (.inr (7, [.ref tb, .int 0, .int (nI ax21)])) := wd_at.ps ew75 k32
    have k88 := wd_at.pt ew75 k52 (tg_ne tI12 tI11 (by omega))
    have k89 := wd_at.pt ew75 k53 (tg_ne tI13 tI11 (by omega))
    have k90 := wd_at.pt ew75 k54 (tg_ne tI14 tI11 (by omega))
    have k91 := wd_at.pt ew75 k55 (tg_ne tI15 tI11 (by omega))
    have k92 := wd_at.pt ew75 k56 (tg_ne tI16 tI11 (by omega))
    have k93 := wd_at.pt ew75 k57 (tg_ne tI17 tI11 (by omega))
    have k94 := wd_at.pt ew75 k58 (tg_ne tI18 tI11 (by omega))
    have k95 := wd_at.pt ew75 k59 (tg_ne tI19 tI11 (by omega))
    have k96 := wd_at.pt ew75 k60 (tg_ne tI20 tI11 (by omega))
    have k97 := wd_at.pt ew75 k61 (tg_ne tI21 tI11 (by omega))
    have k98 := wd_at.pt ew75 k62 (tg_ne tI22 tI11 (by omega))
    have k99 := wd_at.pt ew75 k63 (tg_ne tI23 tI11 (by omega))
    have k100 := wd_at.pt ew75 k64 (tg_ne tI24 tI11 (by omega))
    have k101 := wd_at.pt ew75 k65 (tg_ne tI25 tI11 (by omega))
    have k102 := wd_at.pt ew75 k66 (tg_ne tI26 tI11 (by omega))
    have k103 := wd_at.pt ew75 k33 (tg_ne tz7 tI11 (by omega))
    have k104 := wd_at.pt ew75 k34 (tg_ne tz9 tI11 (by omega))
    have k105 := wd_at.pt ew75 k35 (tg_ne tz11 tI11 (by omega))
    have k106 := wd_at.pt ew75 k36 (tg_ne tz13 tI11 (by omega))
    have k107 := wd_at.pt ew75 k37 (tg_ne tz15 tI11 (by omega))
    have k108 := wd_at.pt ew75 k38 (tg_ne tz17 tI11 (by omega))
    have fm109 : ∀ i9, i9 < 12 → tf i9 = some (tn i9) ∧ wd_at w74 (tn i9) (.inr (8, [.int (co i9), .int (ra i9), .int (se i9), .ref (ag i9)])) ∧ tg (tn i9) = 100 + i9 := fun i9 hi9 => ⟨(fm67 i9 hi9).1, wd_at.pt ew75 (fm67 i9 hi9).2.1 (tg_ne (fm67 i9 hi9).2.2 tI11 (by omega)), (fm67 i9 hi9).2.2⟩
    have fm110 : ∀ k9, k9 < 13 ∧ k9 ≠ sg → (aOK (cf k9) (nf k9) ∧ ru k9 ≤ 12) ∧ wd_at w74 (aa k9) (.inr (1, [.ref (ga0 k9), .ref (ga1 k9), .ref (ga2 k9), .ref (ga3 k9), .ref (ga4 k9), .int (nI (ru k9))])) ∧ tg (aa k9) = 200 + k9 ∧ wd_at w74 (ga0 k9) (.inl (cy 2, 12, .inl (df k9))) ∧ tg (ga0 k9) = 220 + k9 ∧ wd_at w74 (ga1 k9) (.inl (cy 2, 12, .inl (cf k9))) ∧ tg (ga1 k9) = 240 + k9 ∧ wd_at w74 (ga2 k9) (.inl (cy 2, 72, .inl (nf k9))) ∧ tg (ga2 k9) = 260 + k9 ∧ wd_at w74 (ga3 k9) (.inl (cy 1, 72, .inl (sf k9))) ∧ tg (ga3 k9) = 280 + k9 ∧ wd_at w74 (ga4 k9) (.inl (cy 2, 72, .inl (uf k9))) ∧ tg (ga4 k9) = 300 + k9 := fun k9 hi9 => ⟨(fm68 k9 hi9).1, wd_at.pt ew75 (fm68 k9 hi9).2.1 (tg_ne (fm68 k9 hi9).2.2.1 tI11 (by omega)), (fm68 k9 hi9).2.2.1, wd_at.pt ew75 (fm68 k9 hi9).2.2.2.1 (tg_ne (fm68 k9 hi9).2.2.2.2.1 tI11 (by omega)), (fm68 k9 hi9).2.2.2.2.1, wd_at.pt ew75 (fm68 k9 hi9).2.2.2.2.2.1 (tg_ne (fm68 k9 hi9).2.2.2.2.2.2.1 tI11 (by omega)), (fm68 k9 hi9).2.2.2.2.2.2.1, wd_at.pt ew75 (fm68 k9 hi9).2.2.2.2.2.2.2.1 (tg_ne (fm68 k9 hi9).2.2.2.2.2.2.2.2.1 tI11 (by omega)), (fm68 k9 hi9).2.2.2.2.2.2.2.2.1, wd_at.pt ew75 (fm68 k9 hi9).2.2.2.2.2.2.2.2.2.1 (tg_ne (fm68 k9 hi9).2.2.2.2.2.2.2.2.2.2.1 tI11 (by omega)), (fm68 k9 hi9).2.2.2.2.2.2.2.2.2.2.1, wd_at.pt ew75 (fm68 k9 hi9).2.2.2.2.2.2.2.2.2.2.2.1 (tg_ne (fm68 k9 hi9).2.2.2.2.2.2.2.2.2.2.2.2 tI11 (by omega)), (fm68 k9 hi9).2.2.2.2.2.2.2.2.2.2.2.2⟩
    have fm111 : ∀ k9, k9 < pc → pf k9 = some (pa k9) ∧ wd_at w74 (pa k9) (.inr (3, [.int (plv k9), .int (pwo k9), .int (phd k9), .int (pgd k9), .int (pdy k9), .int (pno k9), .int (ptp k9)])) ∧ tg (pa k9) = 3000 + k9 := fun k9 hi9 => ⟨(fm69 k9 hi9).1, wd_at.pt ew75 (fm69 k9 hi9).2.1 (tg_ne (fm69 k9 hi9).2.2 tI11 (by omega)), (fm69 k9 hi9).2.2⟩
    have fm112 : ∀ k9, k9 < ac → af k9 = some (ad k9) ∧ wd_at w74 (ad k9) (.inr (0, [.int (av0 k9), .int (av1 k9), .int (av2 k9), .int (av3 k9)])) ∧ tg (ad k9) = 4000 + k9 := fun k9 hi9 => ⟨(fm70 k9 hi9).1, wd_at.pt ew75 (fm70 k9 hi9).2.1 (tg_ne (fm70 k9 hi9).2.2 tI11 (by omega)), (fm70 k9 hi9).2.2⟩
    have fm113 : ∀ k9, k9 < sc → zf k9 = some (so k9) ∧ wd_at w74 (so k9) (.inr (6, [.int (sp0 k9), .int (sp1 k9), .ref (sr k9)])) ∧ tg (so k9) = 5000 + k9 ∧ wd_at w74 (sr k9) (.inl (cy 2, 12, .inl (sd k9))) ∧ tg (sr k9) = 6000 + k9 := fun k9 hi9 => ⟨(fm71 k9 hi9).1, wd_at.pt ew75 (fm71 k9 hi9).2.1 (tg_ne (fm71 k9 hi9).2.2.1 tI11 (by omega)), (fm71 k9 hi9).2.2.1, wd_at.pt ew75 (fm71 k9 hi9).2.2.2.1 (tg_ne (fm71 k9 hi9).2.2.2.2 tI11 (by omega)), (fm71 k9 hi9).2.2.2.2⟩
    have fm114 : ∀ k9, k9 < sh → (hf k9 = some (sw k9) ∧ hto k9 < 12) ∧ wd_at w74 (sw k9) (.inr (5, [.int (nI (hto k9)), .int (hpp k9), .int (hle k9), .int (ham k9), .int (hhh k9), .int (hdd k9), .int (hru k9), .int (hde k9), .int (hcp k9), .int (hld k9)])) ∧ tg (sw k9) = 7000 + k9 := fun k9 hi9 => ⟨(fm72 k9 hi9).1, wd_at.pt ew75 (fm72 k9 hi9).2.1 (tg_ne (fm72 k9 hi9).2.2 tI11 (by omega)), (fm72 k9 hi9).2.2⟩
    have kp115 := kp73.put ew75 (tgS tI11 (by omega))
    refine lv_iload_n hx hb dX10_text_29 rfl (lv_at hl 0 rfl) ?_
    refine lv_if_eq (tgt := 38) hx hb dX10_text_30 (by decide) (fun c_116 => ?_) (fun c_116 => ?_)
    · refine lv_aload_n hx hb dX10_text_38 rfl (lv_at hl 1 rfl) ?_
      refine x_get (ref := "NoteHouse") F hP k76 rfl (fun _ h => List.mem_cons_of_mem _ (List.mem_append_left _ (List.mem_append_left _ (List.mem_append_left _ (List.mem_append_right _ (h)))))) 1 (Nat.le_of_ble_eq_true rfl) (List.mem_cons_of_mem _ (List.mem_append_left _ (List.mem_append_left _ (List.mem_append_left _ (List.mem_append_left _ (List.mem_append_left _ (List.mem_of_getElem? (i := 3) rfl))))))) rfl rfl dX10_text_39 ?_
      refine lv_iload_n hx hb dX10_text_42 rfl (lv_at hl 2 rfl) ?_
      refine x_aald F hP k82 rfl (vp_in_nI (n := j) (N := 12) (by omega) (by decide)) dX10_text_43 ?_
      have pr117 := (fm109 j (by omega)).1
      have k118 := (fm109 j (by omega)).2.1
      have tz119 := (fm109 j (by omega)).2.2
      rw [nI_clamp (n := j) (by omega), pr117]
      refine W.eq (g2 := F0 m _ ls [.ref (tn j)]) rfl ?_
      refine x_get (ref := "NoteHouse$Town") F hP k118 rfl (fun _ h => List.mem_cons_of_mem _ (List.mem_append_left _ (List.mem_append_right _ (h)))) 3 (Nat.le_of_ble_eq_true rfl) (List.mem_cons_of_mem _ (List.mem_append_left _ (List.mem_append_left _ (List.mem_append_left _ (List.mem_append_left _ (List.mem_append_left _ (List.mem_of_getElem? (i := 4) rfl))))))) rfl rfl dX10_text_44 ?_
      obtain ⟨s9, hs9, es9⟩ := hag j (by omega)
      rw [es9]
      refine W.eq (g2 := F0 m _ ls [.ref (aa s9)]) rfl ?_
      refine lv_astore_n (lv' := [(3, .ref (aa s9)), (2, .int rx28), (0, .ref x), (1, .int (nI j))]) hx hb dX10_text_47 rfl hl (by decide) rfl (fun ls hl => ?_)
      refine lv_aload_n hx hb dX10_text_48 rfl (lv_at hl 2 rfl) ?_
      refine x_get (ref := "NoteHouse") F hP k76 rfl (fun _ h => List.mem_cons_of_mem _ (List.mem_append_left _ (List.mem_append_left _ (List.mem_append_left _ (List.mem_append_right _ (h)))))) 1 (Nat.le_of_ble_eq_true rfl) (List.mem_cons_of_mem _ (List.mem_append_left _ (List.mem_append_left _ (List.mem_append_left _ (List.mem_append_left _ (List.mem_append_left _ (List.mem_of_getElem? (i := 3) rfl))))))) rfl rfl dX10_text_49 ?_
      refine lv_iload_n hx hb dX10_text_52 rfl (lv_at hl 3 rfl) ?_
      refine x_aald F hP k82 rfl (vp_in_nI (n := j) (N := 12) (by omega) (by decide)) dX10_text_53 ?_
      rw [nI_clamp (n := j) (by omega), pr117]
      refine W.eq (g2 := F0 m _ ls [.ref (tn j)]) rfl ?_
      refine lv_aload_n hx hb dX10_text_54 rfl (lv_at hl 2 rfl) ?_
      refine x_get (ref := "NoteHouse") F hP k76 rfl (fun _ h => List.mem_cons_of_mem _ (List.mem_append_left _ (List.mem_append_left _ (List.mem_append_left _ (List.mem_append_right _ (h)))))) 9 (Nat.le_of_ble_eq_true rfl) (List.mem_cons_of_mem _ (List.mem_append_left _ (List.mem_append_left _ (List.mem_append_left _ (List.mem_append_left _ (List.mem_append_left _ (List.mem_of_getElem? (i := 0) rfl))))))) rfl rfl dX10_text_55 ?_
      refine y_put (ref := "NoteHouse$Town") F hP hD hS k118 rfl (fun _ h => List.mem_cons_of_mem _ (List.mem_append_left _ (List.mem_append_right _ (h)))) tyX8_ok nmX8 3 (Nat.le_of_ble_eq_true rfl) (List.mem_cons_of_mem _ (List.mem_append_left _ (List.mem_append_left _ (List.mem_append_left _ (List.mem_append_left _ (List.mem_append_left _ (List.mem_of_getElem? (i := 4) rfl))))))) rfl rfl rfl rfl (Nat.le_of_ble_eq_true rfl) dX10_text_58 (fun w120 ew121 H locs hP hD hS => ?_)
      have fm122 : ∀ i9, i9 < 12 ∧ i9 ≠ j → tf i9 = some (tn i9) ∧ wd_at w74 (tn i9) (.inr (8, [.int (co i9), .int (ra i9), .int (se i9), .ref (ag i9)])) ∧ tg (tn i9) = 100 + i9 := fun i9 hi8 => fm109 i9 hi8.1
      have k123 := wd_at.pt ew121 k76 (tg_ne tI0 tz119 (by omega))
      have k124 := wd_at.pt ew121 k77 (tg_ne tI1 tz119 (by omega))
      have k125 := wd_at.pt ew121 k78 (tg_ne tI2 tz119 (by omega))
      have k126 := wd_at.pt ew121 k79 (tg_ne tI3 tz119 (by omega))
      have k127 := wd_at.pt ew121 k80 (tg_ne tI4 tz119 (by omega))
      have k128 := wd_at.pt ew121 k81 (tg_ne tI5 tz119 (by omega))
      have k129 := wd_at.pt ew121 k82 (tg_ne tI6 tz119 (by omega))
      have k130 := wd_at.pt ew121 k83 (tg_ne tI7 tz119 (by omega))
      have k131 := wd_at.pt ew121 k84 (tg_ne tI8 tz119 (by omega))
      have k132 := wd_at.pt ew121 k85 (tg_ne tI9 tz119 (by omega))
      have k133 := wd_at.pt ew121 k86 (tg_ne tI10 tz119 (by omega))
      have k134 := wd_at.pt ew121 k87 (tg_ne tI11 tz119 (by omega))
      have k135 := wd_at.pt ew121 k88 (tg_ne tI12 tz119 (by omega))
      have k136 := wd_at.pt ew121 k89 (tg_ne tI13 tz119 (by omega))
      have k137 := wd_at.pt ew121 k90 (tg_ne tI14 tz119 (by omega))
      have k138 := wd_at.pt ew121 k91 (tg_ne tI15 tz119 (by omega))
      have k139 := wd_at.pt ew121 k92 (tg_ne tI16 tz119 (by omega))
      have k140 := wd_at.pt ew121 k93 (tg_ne tI17 tz119 (by omega))
      have k141 := wd_at.pt ew121 k94 (tg_ne tI18 tz119 (by omega))
      have k142 := wd_at.pt ew121 k95 (tg_ne tI19 tz119 (by omega))
      have k143 := wd_at.pt ew121 k96 (tg_ne tI20 tz119 (by omega))
      have k144 := wd_at.pt ew121 k97 (tg_ne tI21 tz119 (by omega))
      have k145 := wd_at.pt ew121 k98 (tg_ne tI22 tz119 (by omega))
      have k146 := wd_at.pt ew121 k99 (tg_ne tI23 tz119 (by omega))
      have k147 := wd_at.pt ew121 k100 (tg_ne tI24 tz119 (by omega))
      have k148 := wd_at.pt ew121 k101 (tg_ne tI25 tz119 (by omega))
      have k149 := wd_at.pt ew121 k102 (tg_ne tI26 tz119 (by omega))
      have k150 := wd_at.pt ew121 k103 (tg_ne tz7 tz119 (by omega))
      have k151 := wd_at.pt ew121 k104 (tg_ne tz9 tz119 (by omega))
      have k152 := wd_at.pt ew121 k105 (tg_ne tz11 tz119 (by omega))
      have k153 := wd_at.pt ew121 k106 (tg_ne tz13 tz119 (by omega))
      have k154 := wd_at.pt ew121 k107 (tg_ne tz15 tz119 (by omega))
      have k155 := wd_at.pt ew121 k108 (tg_ne tz17 tz119 (by omega))
      have k156 : wd_at w120 (tn j) (.inr (8, [.int (co j), .int (ra j), .int (se j), .ref (aa sg)])) := wd_at.ps ew121 k118
      have fm157 : ∀ i9, i9 < 12 ∧ i9 ≠ j → tf i9 = some (tn i9) ∧ wd_at w120 (tn i9) (.inr (8, [.int (co i9), .int (ra i9), .int (se i9), .ref (ag i9)])) ∧ tg (tn i9) = 100 + i9 := fun i9 hi9 => ⟨(fm122 i9 hi9).1, wd_at.pt ew121 (fm122 i9 hi9).2.1 (tg_ne (fm122 i9 hi9).2.2 tz119 (by omega)), (fm122 i9 hi9).2.2⟩
      have fm158 : ∀ k9, k9 < 13 ∧ k9 ≠ sg → (aOK (cf k9) (nf k9) ∧ ru k9 ≤ 12) ∧ wd_at w120 (aa k9) (.inr (1, [.ref (ga0 k9), .ref (ga1 k9), .ref (ga2 k9), .ref (ga3 k9), .ref (ga4 k9), .int (nI (ru k9))])) ∧ tg (aa k9) = 200 + k9 ∧ wd_at w120 (ga0 k9) (.inl (cy 2, 12, .inl (df k9))) ∧ tg (ga0 k9) = 220 + k9 ∧ wd_at w120 (ga1 k9) (.inl (cy 2, 12, .inl (cf k9))) ∧ tg (ga1 k9) = 240 + k9 ∧ wd_at w120 (ga2 k9) (.inl (cy 2, 72, .inl (nf k9))) ∧ tg (ga2 k9) = 260 + k9 ∧ wd_at w120 (ga3 k9) (.inl (cy 1, 72, .inl (sf k9))) ∧ tg (ga3 k9) = 280 + k9 ∧ wd_at w120 (ga4 k9) (.inl (cy 2, 72, .inl (uf k9))) ∧ tg (ga4 k9) = 300 + k9 := fun k9 hi9 => ⟨(fm110 k9 hi9).1, wd_at.pt ew121 (fm110 k9 hi9).2.1 (tg_ne (fm110 k9 hi9).2.2.1 tz119 (by omega)), (fm110 k9 hi9).2.2.1, wd_at.pt ew121 (fm110 k9 hi9).2.2.2.1 (tg_ne (fm110 k9 hi9).2.2.2.2.1 tz119 (by omega)), (fm110 k9 hi9).2.2.2.2.1, wd_at.pt ew121 (fm110 k9 hi9).2.2.2.2.2.1 (tg_ne (fm110 k9 hi9).2.2.2.2.2.2.1 tz119 (by omega)), (fm110 k9 hi9).2.2.2.2.2.2.1, wd_at.pt ew121 (fm110 k9 hi9).2.2.2.2.2.2.2.1 (tg_ne (fm110 k9 hi9).2.2.2.2.2.2.2.2.1 tz119 (by omega)), (fm110 k9 hi9).2.2.2.2.2.2.2.2.1, wd_at.pt ew121 (fm110 k9 hi9).2.2.2.2.2.2.2.2.2.1 (tg_ne (fm110 k9 hi9).2.2.2.2.2.2.2.2.2.2.1 tz119 (by omega)), (fm110 k9 hi9).2.2.2.2.2.2.2.2.2.2.1, wd_at.pt ew121 (fm110 k9 hi9).2.2.2.2.2.2.2.2.2.2.2.1 (tg_ne (fm110 k9 hi9).2.2.2.2.2.2.2.2.2.2.2.2 tz119 (by omega)), (fm110 k9 hi9).2.2.2.2.2.2.2.2.2.2.2.2⟩
      have fm159 : ∀ k9, k9 < pc → pf k9 = some (pa k9) ∧ wd_at w120 (pa k9) (.inr (3, [.int (plv k9), .int (pwo k9), .int (phd k9), .int (pgd k9), .int (pdy k9), .int (pno k9), .int (ptp k9)])) ∧ tg (pa k9) = 3000 + k9 := fun k9 hi9 => ⟨(fm111 k9 hi9).1, wd_at.pt ew121 (fm111 k9 hi9).2.1 (tg_ne (fm111 k9 hi9).2.2 tz119 (by omega)), (fm111 k9 hi9).2.2⟩
      have fm160 : ∀ k9, k9 < ac → af k9 = some (ad k9) ∧ wd_at w120 (ad k9) (.inr (0, [.int (av0 k9), .int (av1 k9), .int (av2 k9), .int (av3 k9)])) ∧ tg (ad k9) = 4000 + k9 := fun k9 hi9 => ⟨(fm112 k9 hi9).1, wd_at.pt ew121 (fm112 k9 hi9).2.1 (tg_ne (fm112 k9 hi9).2.2 tz119 (by omega)), (fm112 k9 hi9).2.2⟩
      have fm161 : ∀ k9, k9 < sc → zf k9 = some (so k9) ∧ wd_at w120 (so k9) (.inr (6, [.int (sp0 k9), .int (sp1 k9), .ref (sr k9)])) ∧ tg (so k9) = 5000 + k9 ∧ wd_at w120 (sr k9) (.inl (cy 2, 12, .inl (sd k9))) ∧ tg (sr k9) = 6000 + k9 := fun k9 hi9 => ⟨(fm113 k9 hi9).1, wd_at.pt ew121 (fm113 k9 hi9).2.1 (tg_ne (fm113 k9 hi9).2.2.1 tz119 (by omega)), (fm113 k9 hi9).2.2.1, wd_at.pt ew121 (fm113 k9 hi9).2.2.2.1 (tg_ne (fm113 k9 hi9).2.2.2.2 tz119 (by omega)), (fm113 k9 hi9).2.2.2.2⟩
      have fm162 : ∀ k9, k9 < sh → (hf k9 = some (sw k9) ∧ hto k9 < 12) ∧ wd_at w120 (sw k9) (.inr (5, [.int (nI (hto k9)), .int (hpp k9), .int (hle k9), .int (ham k9), .int (hhh k9), .int (hdd k9), .int (hru k9), .int (hde k9), .int (hcp k9), .int (hld k9)])) ∧ tg (sw k9) = 7000 + k9 := fun k9 hi9 => ⟨(fm114 k9 hi9).1, wd_at.pt ew121 (fm114 k9 hi9).2.1 (tg_ne (fm114 k9 hi9).2.2 tz119 (by omega)), (fm114 k9 hi9).2.2⟩
      have kp163 := kp115.put ew121 (tgS tz119 (by omega))
      refine lv_aload_n hx hb dX10_text_61 rfl (lv_at hl 2 rfl) ?_
      refine lv_aload_n hx hb dX10_text_62 rfl (lv_at hl 0 rfl) ?_
      refine y_put (ref := "NoteHouse") F hP hD hS k123 rfl (fun _ h => List.mem_cons_of_mem _ (List.mem_append_left _ (List.mem_append_left _ (List.mem_append_left _ (List.mem_append_right _ (h)))))) tyX10_ok nmX10 9 (Nat.le_of_ble_eq_true rfl) (List.mem_cons_of_mem _ (List.mem_append_left _ (List.mem_append_left _ (List.mem_append_left _ (List.mem_append_left _ (List.mem_append_left _ (List.mem_of_getElem? (i := 0) rfl))))))) rfl rfl rfl rfl (Nat.le_of_ble_eq_true rfl) dX10_text_63 (fun w164 ew165 H locs hP hD hS => ?_)
      have k166 : wd_at w164 x (.inr (10, [.ref a0, .ref a1, .ref a2, .ref a3, .ref a4, .ref a5, .ref a6, .ref a7, .ref a8, .ref (aa s9), .ref a10, .ref a11, .int td, .int (nI pc), .int (nI ac), .int (nI sc), .int (nI sh)])) := wd_at.ps ew165 k123
      have k167 := wd_at.pt ew165 k124 (tg_ne tI1 tI0 (by omega))
      have k168 := wd_at.pt ew165 k125 (tg_ne tI2 tI0 (by omega))
      have k169 := wd_at.pt ew165 k126 (tg_ne tI3 tI0 (by omega))
      have k170 := wd_at.pt ew165 k127 (tg_ne tI4 tI0 (by omega))
      have k171 := wd_at.pt ew165 k128 (tg_ne tI5 tI0 (by omega))
      have k172 := wd_at.pt ew165 k129 (tg_ne tI6 tI0 (by omega))
      have k173 := wd_at.pt ew165 k130 (tg_ne tI7 tI0 (by omega))
      have k174 := wd_at.pt ew165 k131 (tg_ne tI8 tI0 (by omega))
      have k175 := wd_at.pt ew165 k132 (tg_ne tI9 tI0 (by omega))
      have k176 := wd_at.pt ew165 k133 (tg_ne tI10 tI0 (by omega))
      have k177 := wd_at.pt ew165 k134 (tg_ne tI11 tI0 (by omega))
      have k178 := wd_at.pt ew165 k135 (tg_ne tI12 tI0 (by omega))
      have k179 := wd_at.pt ew165 k136 (tg_ne tI13 tI0 (by omega))
      have k180 := wd_at.pt ew165 k137 (tg_ne tI14 tI0 (by omega))
      have k181 := wd_at.pt ew165 k138 (tg_ne tI15 tI0 (by omega))
      have k182 := wd_at.pt ew165 k139 (tg_ne tI16 tI0 (by omega))
      have k183 := wd_at.pt ew165 k140 (tg_ne tI17 tI0 (by omega))
      have k184 := wd_at.pt ew165 k141 (tg_ne tI18 tI0 (by omega))
      have k185 := wd_at.pt ew165 k142 (tg_ne tI19 tI0 (by omega))
      have k186 := wd_at.pt ew165 k143 (tg_ne tI20 tI0 (by omega))
      have k187 := wd_at.pt ew165 k144 (tg_ne tI21 tI0 (by omega))
      have k188 := wd_at.pt ew165 k145 (tg_ne tI22 tI0 (by omega))
      have k189 := wd_at.pt ew165 k146 (tg_ne tI23 tI0 (by omega))
      have k190 := wd_at.pt ew165 k147 (tg_ne tI24 tI0 (by omega))
      have k191 := wd_at.pt ew165 k148 (tg_ne tI25 tI0 (by omega))
      have k192 := wd_at.pt ew165 k149 (tg_ne tI26 tI0 (by omega))
      have k193 := wd_at.pt ew165 k150 (tg_ne tz7 tI0 (by omega))
      have k194 := wd_at.pt ew165 k151 (tg_ne tz9 tI0 (by omega))
      have k195 := wd_at.pt ew165 k152 (tg_ne tz11 tI0 (by omega))
      have k196 := wd_at.pt ew165 k153 (tg_ne tz13 tI0 (by omega))
      have k197 := wd_at.pt ew165 k154 (tg_ne tz15 tI0 (by omega))
      have k198 := wd_at.pt ew165 k155 (tg_ne tz17 tI0 (by omega))
      have k199 := wd_at.pt ew165 k156 (tg_ne tz119 tI0 (by omega))
      have fm200 : ∀ i9, i9 < 12 ∧ i9 ≠ j → tf i9 = some (tn i9) ∧ wd_at w164 (tn i9) (.inr (8, [.int (co i9), .int (ra i9), .int (se i9), .ref (ag i9)])) ∧ tg (tn i9) = 100 + i9 := fun i9 hi9 => ⟨(fm157 i9 hi9).1, wd_at.pt ew165 (fm157 i9 hi9).2.1 (tg_ne (fm157 i9 hi9).2.2 tI0 (by omega)), (fm157 i9 hi9).2.2⟩
      have fm201 : ∀ k9, k9 < 13 ∧ k9 ≠ sg → (aOK (cf k9) (nf k9) ∧ ru k9 ≤ 12) ∧ wd_at w164 (aa k9) (.inr (1, [.ref (ga0 k9), .ref (ga1 k9), .ref (ga2 k9), .ref (ga3 k9), .ref (ga4 k9), .int (nI (ru k9))])) ∧ tg (aa k9) = 200 + k9 ∧ wd_at w164 (ga0 k9) (.inl (cy 2, 12, .inl (df k9))) ∧ tg (ga0 k9) = 220 + k9 ∧ wd_at w164 (ga1 k9) (.inl (cy 2, 12, .inl (cf k9))) ∧ tg (ga1 k9) = 240 + k9 ∧ wd_at w164 (ga2 k9) (.inl (cy 2, 72, .inl (nf k9))) ∧ tg (ga2 k9) = 260 + k9 ∧ wd_at w164 (ga3 k9) (.inl (cy 1, 72, .inl (sf k9))) ∧ tg (ga3 k9) = 280 + k9 ∧ wd_at w164 (ga4 k9) (.inl (cy 2, 72, .inl (uf k9))) ∧ tg (ga4 k9) = 300 + k9 := fun k9 hi9 => ⟨(fm158 k9 hi9).1, wd_at.pt ew165 (fm158 k9 hi9).2.1 (tg_ne (fm158 k9 hi9).2.2.1 tI0 (by omega)), (fm158 k9 hi9).2.2.1, wd_at.pt ew165 (fm158 k9 hi9).2.2.2.1 (tg_ne (fm158 k9 hi9).2.2.2.2.1 tI0 (by omega)), (fm158 k9 hi9).2.2.2.2.1, wd_at.pt ew165 (fm158 k9 hi9).2.2.2.2.2.1 (tg_ne (fm158 k9 hi9).2.2.2.2.2.2.1 tI0 (by omega)), (fm158 k9 hi9).2.2.2.2.2.2.1, wd_at.pt ew165 (fm158 k9 hi9).2.2.2.2.2.2.2.1 (tg_ne (fm158 k9 hi9).2.2.2.2.2.2.2.2.1 tI0 (by omega)), (fm158 k9 hi9).2.2.2.2.2.2.2.2.1, wd_at.pt ew165 (fm158 k9 hi9).2.2.2.2.2.2.2.2.2.1 (tg_ne (fm158 k9 hi9).2.2.2.2.2.2.2.2.2.2.1 tI0 (by omega)), (fm158 k9 hi9).2.2.2.2.2.2.2.2.2.2.1, wd_at.pt ew165 (fm158 k9 hi9).2.2.2.2.2.2.2.2.2.2.2.1 (tg_ne (fm158 k9 hi9).2.2.2.2.2.2.2.2.2.2.2.2 tI0 (by omega)), (fm158 k9 hi9).2.2.2.2.2.2.2.2.2.2.2.2⟩
      have fm202 : ∀ k9, k9 < pc → pf k9 = some (pa k9) ∧ wd_at w164 (pa k9) (.inr (3, [.int (plv k9), .int (pwo k9), .int (phd k9), .int (pgd k9), .int (pdy k9), .int (pno k9), .int (ptp k9)])) ∧ tg (pa k9) = 3000 + k9 := fun k9 hi9 => ⟨(fm159 k9 hi9).1, wd_at.pt ew165 (fm159 k9 hi9).2.1 (tg_ne (fm159 k9 hi9).2.2 tI0 (by omega)), (fm159 k9 hi9).2.2⟩
      have fm203 : ∀ k9, k9 < ac → af k9 = some (ad k9) ∧ wd_at w164 (ad k9) (.inr (0, [.int (av0 k9), .int (av1 k9), .int (av2 k9), .int (av3 k9)])) ∧ tg (ad k9) = 4000 + k9 := fun k9 hi9 => ⟨(fm160 k9 hi9).1, wd_at.pt ew165 (fm160 k9 hi9).2.1 (tg_ne (fm160 k9 hi9).2.2 tI0 (by omega)), (fm160 k9 hi9).2.2⟩
      have fm204 : ∀ k9, k9 < sc → zf k9 = some (so k9) ∧ wd_at w164 (so k9) (.inr (6, [.int (sp0 k9), .int (sp1 k9), .ref (sr k9)])) ∧ tg (so k9) = 5000 + k9 ∧ wd_at w164 (sr k9) (.inl (cy 2, 12, .inl (sd k9))) ∧ tg (sr k9) = 6000 + k9 := fun k9 hi9 => ⟨(fm161 k9 hi9).1, wd_at.pt ew165 (fm161 k9 hi9).2.1 (tg_ne (fm161 k9 hi9).2.2.1 tI0 (by omega)), (fm161 k9 hi9).2.2.1, wd_at.pt ew165 (fm161 k9 hi9).2.2.2.1 (tg_ne (fm161 k9 hi9).2.2.2.2 tI0 (by omega)), (fm161 k9 hi9).2.2.2.2⟩
      have fm205 : ∀ k9, k9 < sh → (hf k9 = some (sw k9) ∧ hto k9 < 12) ∧ wd_at w164 (sw k9) (.inr (5, [.int (nI (hto k9)), .int (hpp k9), .int (hle k9), .int (ham k9), .int (hhh k9), .int (hdd k9), .int (hru k9), .int (hde k9), .int (hcp k9), .int (hld k9)])) ∧ tg (sw k9) = 7000 + k9 := fun k9 hi9 => ⟨(fm162 k9 hi9).1, wd_at.pt ew165 (fm162 k9 hi9).2.1 (tg_ne (fm162 k9 hi9).2.2 tI0 (by omega)), (fm162 k9 hi9).2.2⟩
      have kp206 := kp163.put ew165 (tgS tI0 (by omega))
      have hagn : ∀ i, i < 12 → ∃ s, s < 13 ∧ va_up ag j (aa sg) i = aa s := fun i hi => by
        by_cases e9 : i = j
        · exact ⟨sg, by omega, by rw [e9, va_up_self]⟩
        · rw [va_up_ne _ _ e9]; exact hag i hi
      refine lv_aload_n hx hb dX10_text_66 rfl (lv_at hl 2 rfl) ?_
      refine x_get (ref := "NoteHouse") F hP k166 rfl (fun _ h => List.mem_cons_of_mem _ (List.mem_append_left _ (List.mem_append_left _ (List.mem_append_left _ (List.mem_append_right _ (h)))))) 1 (Nat.le_of_ble_eq_true rfl) (List.mem_cons_of_mem _ (List.mem_append_left _ (List.mem_append_left _ (List.mem_append_left _ (List.mem_append_left _ (List.mem_append_left _ (List.mem_of_getElem? (i := 3) rfl))))))) rfl rfl dX10_text_67 ?_
      refine lv_iload_n hx hb dX10_text_70 rfl (lv_at hl 3 rfl) ?_
      refine x_aald F hP k172 rfl (vp_in_nI (n := j) (N := 12) (by omega) (by decide)) dX10_text_71 ?_
      rw [nI_clamp (n := j) (by omega), pr117]
      refine W.eq (g2 := F0 m _ ls [.ref (tn j)]) rfl ?_
      refine x_get (ref := "NoteHouse$Town") F hP k199 rfl (fun _ h => List.mem_cons_of_mem _ (List.mem_append_left _ (List.mem_append_right _ (h)))) 3 (Nat.le_of_ble_eq_true rfl) (List.mem_cons_of_mem _ (List.mem_append_left _ (List.mem_append_left _ (List.mem_append_left _ (List.mem_append_left _ (List.mem_append_left _ (List.mem_of_getElem? (i := 4) rfl))))))) rfl rfl dX10_text_72 ?_
      refine x_get (ref := "NoteHouse$Agent") F hP k193 rfl (fun _ h => List.mem_cons_of_mem _ (List.mem_append_right _ (h))) 5 (Nat.le_of_ble_eq_true rfl) (List.mem_cons_of_mem _ (List.mem_append_left _ (List.mem_append_left _ (List.mem_append_left _ (List.mem_append_left _ (List.mem_append_left _ (List.mem_of_getElem? (i := 5) rfl))))))) rfl rfl dX10_text_75 ?_
      have fm208 : ∀ i9, i9 < 12 → tf i9 = some (tn i9) ∧ wd_at w164 (tn i9) (.inr (8, [.int (co i9), .int (ra i9), .int (se i9), .ref ((va_up ag j (aa sg)) i9)])) ∧ tg (tn i9) = 100 + i9 := by
        intro i9 hi9
        by_cases e9 : i9 = j
        · rw [e9]
          exact ⟨pr117, (by first | exact k199 | (simp only [va_up_self]; exact k199)), tz119⟩
        · simp only [va_up_ne _ _ e9]
          exact fm200 i9 (by omega)
      have fm209 : ∀ k9, k9 < 13 → (aOK ((va_up cf sg cfx24) k9) ((va_up nf sg nfx25) k9) ∧ (va_up ru sg rrx22) k9 ≤ 12) ∧ wd_at w164 (aa k9) (.inr (1, [.ref (ga0 k9), .ref (ga1 k9), .ref (ga2 k9), .ref (ga3 k9), .ref (ga4 k9), .int (nI ((va_up ru sg rrx22) k9))])) ∧ tg (aa k9) = 200 + k9 ∧ wd_at w164 (ga0 k9) (.inl (cy 2, 12, .inl ((va_up df sg dfx23) k9))) ∧ tg (ga0 k9) = 220 + k9 ∧ wd_at w164 (ga1 k9) (.inl (cy 2, 12, .inl ((va_up cf sg cfx24) k9))) ∧ tg (ga1 k9) = 240 + k9 ∧ wd_at w164 (ga2 k9) (.inl (cy 2, 72, .inl ((va_up nf sg nfx25) k9))) ∧ tg (ga2 k9) = 260 + k9 ∧ wd_at w164 (ga3 k9) (.inl (cy 1, 72, .inl ((va_up sf sg sfx26) k9))) ∧ tg (ga3 k9) = 280 + k9 ∧ wd_at w164 (ga4 k9) (.inl (cy 2, 72, .inl ((va_up uf sg ufx27) k9))) ∧ tg (ga4 k9) = 300 + k9 := by
        intro k9 hi9
        by_cases e9 : k9 = sg
        · rw [e9]
          exact ⟨(by simp only [va_up_self]; exact ⟨hz31, hz30⟩), (by first | exact k193 | (simp only [va_up_self]; exact k193)), tz7, (by first | exact k194 | (simp only [va_up_self]; exact k194)), tz9, (by first | exact k195 | (simp only [va_up_self]; exact k195)), tz11, (by first | exact k196 | (simp only [va_up_self]; exact k196)), tz13, (by first | exact k197 | (simp only [va_up_self]; exact k197)), tz15, (by first | exact k198 | (simp only [va_up_self]; exact k198)), tz17⟩
        · simp only [va_up_ne _ _ e9]
          exact fm201 k9 (by omega)
      have hX210 : IX cy tg x td pc ac sc 0 se plv w164 := IX.mk a0 a1 a2 a3 a4 a5 a6 a7 a8 a10 a11 b0 b1 b2 b3 tb l0 l1 l2 l3 l4 l5 l6 l7 bl bm sh gc s9 lu lv9 f0 f1 f2 f3 tbf e0 e1 e4 e5 e7 ff bf bf2 e2 e3 e6 (nI ax21) sz fo to fo2 to2 tf tn (va_up ag j (aa sg)) co ra aa (va_up ru sg rrx22) ga0 ga1 ga2 ga3 ga4 (va_up df sg dfx23) (va_up cf sg cfx24) (va_up nf sg nfx25) (va_up sf sg sfx26) (va_up uf sg ufx27) pf pa pwo phd pgd pdy pno ptp af ad av0 av1 av2 av3 zf so sr sp0 sp1 sd hf sw hto hpp hle ham hhh hdd hru hde hcp hld (by omega) (by omega) (by omega) (by omega) (by omega) (by omega) (by omega) (by omega) hagn k166 tI0 k167 tI1 k168 tI2 k169 tI3 k170 tI4 k171 tI5 k172 tI6 k173 tI7 k174 tI8 k175 tI9 k176 tI10 k177 tI11 k178 tI12 k179 tI13 k180 tI14 k181 tI15 k182 tI16 k183 tI17 k184 tI18 k185 tI19 k186 tI20 k187 tI21 k188 tI22 k189 tI23 k190 tI24 k191 tI25 k192 tI26 fm208 fm209 fm202 fm203 fm204 fm205
      exact y_ir K hP hD hS (Nat.le_of_ble_eq_true rfl) (Nat.le_of_ble_eq_true rfl) (ty := .int) rfl rfl dX10_text_78 (by refine ⟨⟨_, rfl⟩, ?_⟩; rw [show txtC ln (nI j) = 0 from by simp [txtC, c_4, clj, c_116]]; exact ⟨tg, (fun _ _ => rfl), kp206, hX210⟩)
    · refine lv_bipush (v := (-2)) hx hb dX10_text_33 (by decide) ?_
      refine lv_iload_n hx hb dX10_text_35 rfl (lv_at hl 0 rfl) ?_
      refine lv_isub hx hb dX10_text_36 ?_
      have fm212 : ∀ k9, k9 < 13 → (aOK ((va_up cf sg cfx24) k9) ((va_up nf sg nfx25) k9) ∧ (va_up ru sg rrx22) k9 ≤ 12) ∧ wd_at w74 (aa k9) (.inr (1, [.ref (ga0 k9), .ref (ga1 k9), .ref (ga2 k9), .ref (ga3 k9), .ref (ga4 k9), .int (nI ((va_up ru sg rrx22) k9))])) ∧ tg (aa k9) = 200 + k9 ∧ wd_at w74 (ga0 k9) (.inl (cy 2, 12, .inl ((va_up df sg dfx23) k9))) ∧ tg (ga0 k9) = 220 + k9 ∧ wd_at w74 (ga1 k9) (.inl (cy 2, 12, .inl ((va_up cf sg cfx24) k9))) ∧ tg (ga1 k9) = 240 + k9 ∧ wd_at w74 (ga2 k9) (.inl (cy 2, 72, .inl ((va_up nf sg nfx25) k9))) ∧ tg (ga2 k9) = 260 + k9 ∧ wd_at w74 (ga3 k9) (.inl (cy 1, 72, .inl ((va_up sf sg sfx26) k9))) ∧ tg (ga3 k9) = 280 + k9 ∧ wd_at w74 (ga4 k9) (.inl (cy 2, 72, .inl ((va_up uf sg ufx27) k9))) ∧ tg (ga4 k9) = 300 + k9 := by
        intro k9 hi9
        by_cases e9 : k9 = sg
        · rw [e9]
          exact ⟨(by simp only [va_up_self]; exact ⟨hz31, hz30⟩), (by first | exact k103 | (simp only [va_up_self]; exact k103)), tz7, (by first | exact k104 | (simp only [va_up_self]; exact k104)), tz9, (by first | exact k105 | (simp only [va_up_self]; exact k105)), tz11, (by first | exact k106 | (simp only [va_up_self]; exact k106)), tz13, (by first | exact k107 | (simp only [va_up_self]; exact k107)), tz15, (by first | exact k108 | (simp only [va_up_self]; exact k108)), tz17⟩
        · simp only [va_up_ne _ _ e9]
          exact fm110 k9 (by omega)
      have hX213 : IX cy tg x td pc ac sc 0 se plv w74 := IX.mk a0 a1 a2 a3 a4 a5 a6 a7 a8 a10 a11 b0 b1 b2 b3 tb l0 l1 l2 l3 l4 l5 l6 l7 bl bm sh gc sg lu lv9 f0 f1 f2 f3 tbf e0 e1 e4 e5 e7 ff bf bf2 e2 e3 e6 (nI ax21) sz fo to fo2 to2 tf tn ag co ra aa (va_up ru sg rrx22) ga0 ga1 ga2 ga3 ga4 (va_up df sg dfx23) (va_up cf sg cfx24) (va_up nf sg nfx25) (va_up sf sg sfx26) (va_up uf sg ufx27) pf pa pwo phd pgd pdy pno ptp af ad av0 av1 av2 av3 zf so sr sp0 sp1 sd hf sw hto hpp hle ham hhh hdd hru hde hcp hld (by omega) (by omega) (by omega) (by omega) (by omega) (by omega) (by omega) (by omega) hag k76 tI0 k77 tI1 k78 tI2 k79 tI3 k80 tI4 k81 tI5 k82 tI6 k83 tI7 k84 tI8 k85 tI9 k86 tI10 k87 tI11 k88 tI12 k89 tI13 k90 tI14 k91 tI15 k92 tI16 k93 tI17 k94 tI18 k95 tI19 k96 tI20 k97 tI21 k98 tI22 k99 tI23 k100 tI24 k101 tI25 k102 tI26 fm109 fm212 fm111 fm112 fm113 fm114
      exact y_ir K hP hD hS (Nat.le_of_ble_eq_true rfl) (Nat.le_of_ble_eq_true rfl) (ty := .int) rfl rfl dX10_text_37 (by refine ⟨⟨_, rfl⟩, ?_⟩; rw [show txtC ln (nI j) = 0 from by simp [txtC, c_4, clj, c_116]]; exact ⟨tg, (fun _ _ => rfl), kp115, hX213⟩)
  · refine lv_iconst (v := (-1)) hx hb dX10_text_7 (by decide) ?_
    exact y_ir K hP hD hS (Nat.le_of_ble_eq_true rfl) (Nat.le_of_ble_eq_true rfl) (ty := .int) rfl rfl dX10_text_8 (by refine ⟨⟨_, rfl⟩, ?_⟩; rw [show txtC ln x1 = ln from by simp [txtC, c_4]]; exact ⟨tg, fun _ _ => rfl, wd_kp.rf, hIX0⟩)
set_option maxHeartbeats 4000000 in
set_option maxRecDepth 100000 in
theorem X_law (l : Launch) (D : va_G) (cy : Nat → ClassId) (sk sv : Nat → Nat) (w : Wd) (tg : Nat → Nat) (x : Nat) (td : Int32) (pc ac sc ln : Nat) (se plv : Nat → Int32)  (hIX0 : IX cy tg x td pc ac sc ln se plv w) : Ct l D cy sk sv yX10_law wsX10_law ({ frames := 10, cells := 0, slots := 0, locals := 228 }) [.ref x] w (fun v w1 => (∃ r : Int32, v = some (.int r)) ∧ XP cy tg x td pc ac sc 0 se plv w w1) := by
  refine Ct.by (cc := cX10_law) (maxL := 3) (ret := (some .int)) (by decide +kernel) rfl (Nat.le_of_ble_eq_true rfl) ?_
  intro p e s m args below meth c A Q F hnm K ls hl
  have F : wd_Fx p s m args meth c cX10_law 3 wsX10_law RX10 D cy sk sv A := F
  have hl : lv_has ls 3 [(0, .ref x)] := hl
  have hx := F.1.1
  have hb := F.1.2.1
  have hown := F.1.2.2.2.1
  have hts := F.1.2.2.2.2
  intro H locs hP hD hS
  have kp0 : wd_kp (fun b => tg b < 10000) w w := wd_kp.rf
  refine hIX0 _ ?_
  intro a0 a1 a2 a3 a4 a5 a6 a7 a8 a10 a11 b0 b1 b2 b3 tb l0 l1 l2 l3 l4 l5 l6 l7 bl bm sh gc sg lu lv9 f0 f1 f2 f3 tbf e0 e1 e4 e5 e7 ff bf bf2 e2 e3 e6 ta sz fo to fo2 to2 tf tn ag co ra aa ru ga0 ga1 ga2 ga3 ga4 df cf nf sf uf pf pa pwo phd pgd pdy pno ptp af ad av0 av1 av2 av3 zf so sr sp0 sp1 sd hf sw hto hpp hle ham hhh hdd hru hde hcp hld hp90 hp91 hp92 hp93 hp94 hp95 hp96 hp97 hag kI0 tI0 kI1 tI1 kI2 tI2 kI3 tI3 kI4 tI4 kI5 tI5 kI6 tI6 kI7 tI7 kI8 tI8 kI9 tI9 kI10 tI10 kI11 tI11 kI12 tI12 kI13 tI13 kI14 tI14 kI15 tI15 kI16 tI16 kI17 tI17 kI18 tI18 kI19 tI19 kI20 tI20 kI21 tI21 kI22 tI22 kI23 tI23 kI24 tI24 kI25 tI25 kI26 tI26 hT9 hG9 hP9 hA9 hS9 hH9
  refine lv_aload_n hx hb dX10_law_0 rfl (lv_at hl 0 rfl) ?_
  refine x_get (ref := "NoteHouse") F hP kI0 rfl (fun _ h => List.mem_cons_of_mem _ (List.mem_append_left _ (List.mem_append_left _ (List.mem_append_right _ (h))))) 11 (Nat.le_of_ble_eq_true rfl) (List.mem_cons_of_mem _ (List.mem_append_left _ (List.mem_append_left _ (List.mem_append_left _ (List.mem_append_left _ (List.mem_of_getElem? (i := 0) rfl)))))) rfl rfl dX10_law_1 ?_
  refine lv_aload_n hx hb dX10_law_4 rfl (lv_at hl 0 rfl) ?_
  refine x_get (ref := "NoteHouse") F hP kI0 rfl (fun _ h => List.mem_cons_of_mem _ (List.mem_append_left _ (List.mem_append_left _ (List.mem_append_right _ (h))))) 6 (Nat.le_of_ble_eq_true rfl) (List.mem_cons_of_mem _ (List.mem_append_left _ (List.mem_append_left _ (List.mem_append_left _ (List.mem_append_left _ (List.mem_of_getElem? (i := 1) rfl)))))) rfl rfl dX10_law_5 ?_
  refine x_callV (n := 1) (As := [.ref a6]) (rest := []) F hP hD hS (g_lawLearn l D cy sk sv w a11 bm a6 tb ln fo2 to2 ta tbf bf2 kI25 kI26 kI11 kI12 (fun b => b = a6 ∨ b = a11 ∨ b = bm) (Or.inl rfl) (Or.inr (Or.inl rfl)) (Or.inr (Or.inr rfl)) (by omega)) gX10_law_X2_learn rfl rfl (by decide +kernel) ⟨(Nat.le_of_ble_eq_true rfl), (Nat.le_of_ble_eq_true rfl)⟩ rfl hl.1 (Nat.le_of_ble_eq_true rfl) kI25 rfl dX10_law_8 rfl ⟨(Nat.le_of_ble_eq_true rfl), (Nat.le_of_ble_eq_true rfl)⟩ (fun v2 w3 hp1 H locs hP hD hS => ?_)
  obtain ⟨ax4, ffx5, ttx6, bfx7, rx8, rfl, kq12, k9, k10, k11⟩ := hp1
  have k13 := kq12.2 _ _ kI0 (fun q9 => Or.elim q9 (tg_ne tI0 tI11 (by omega)) (fun q9 => Or.elim q9 (tg_ne tI0 tI25 (by omega)) (fun q9 : x = bm => (tg_ne tI0 tI26 (by omega)) q9)))
  have k14 := kq12.2 _ _ kI1 (fun q9 => Or.elim q9 (tg_ne tI1 tI11 (by omega)) (fun q9 => Or.elim q9 (tg_ne tI1 tI25 (by omega)) (fun q9 : a0 = bm => (tg_ne tI1 tI26 (by omega)) q9)))
  have k15 := kq12.2 _ _ kI2 (fun q9 => Or.elim q9 (tg_ne tI2 tI11 (by omega)) (fun q9 => Or.elim q9 (tg_ne tI2 tI25 (by omega)) (fun q9 : b0 = bm => (tg_ne tI2 tI26 (by omega)) q9)))
  have k16 := kq12.2 _ _ kI3 (fun q9 => Or.elim q9 (tg_ne tI3 tI11 (by omega)) (fun q9 => Or.elim q9 (tg_ne tI3 tI25 (by omega)) (fun q9 : b1 = bm => (tg_ne tI3 tI26 (by omega)) q9)))
  have k17 := kq12.2 _ _ kI4 (fun q9 => Or.elim q9 (tg_ne tI4 tI11 (by omega)) (fun q9 => Or.elim q9 (tg_ne tI4 tI25 (by omega)) (fun q9 : b2 = bm => (tg_ne tI4 tI26 (by omega)) q9)))
  have k18 := kq12.2 _ _ kI5 (fun q9 => Or.elim q9 (tg_ne tI5 tI11 (by omega)) (fun q9 => Or.elim q9 (tg_ne tI5 tI25 (by omega)) (fun q9 : b3 = bm => (tg_ne tI5 tI26 (by omega)) q9)))
  have k19 := kq12.2 _ _ kI6 (fun q9 => Or.elim q9 (tg_ne tI6 tI11 (by omega)) (fun q9 => Or.elim q9 (tg_ne tI6 tI25 (by omega)) (fun q9 : a1 = bm => (tg_ne tI6 tI26 (by omega)) q9)))
  have k20 := kq12.2 _ _ kI7 (fun q9 => Or.elim q9 (tg_ne tI7 tI11 (by omega)) (fun q9 => Or.elim q9 (tg_ne tI7 tI25 (by omega)) (fun q9 : a2 = bm => (tg_ne tI7 tI26 (by omega)) q9)))
  have k21 := kq12.2 _ _ kI8 (fun q9 => Or.elim q9 (tg_ne tI8 tI11 (by omega)) (fun q9 => Or.elim q9 (tg_ne tI8 tI25 (by omega)) (fun q9 : a3 = bm => (tg_ne tI8 tI26 (by omega)) q9)))
  have k22 := kq12.2 _ _ kI9 (fun q9 => Or.elim q9 (tg_ne tI9 tI11 (by omega)) (fun q9 => Or.elim q9 (tg_ne tI9 tI25 (by omega)) (fun q9 : a4 = bm => (tg_ne tI9 tI26 (by omega)) q9)))
  have k23 := kq12.2 _ _ kI10 (fun q9 => Or.elim q9 (tg_ne tI10 tI11 (by omega)) (fun q9 => Or.elim q9 (tg_ne tI10 tI25 (by omega)) (fun q9 : a5 = bm => (tg_ne tI10 tI26 (by omega)) q9)))
  have k24 := kq12.2 _ _ kI12 (fun q9 => Or.elim q9 (tg_ne tI12 tI11 (by omega)) (fun q9 => Or.elim q9 (tg_ne tI12 tI25 (by omega)) (fun q9 : tb = bm => (tg_ne tI12 tI26 (by omega)) q9)))
  have k25 := kq12.2 _ _ kI13 (fun q9 => Or.elim q9 (tg_ne tI13 tI11 (by omega)) (fun q9 => Or.elim q9 (tg_ne tI13 tI25 (by omega)) (fun q9 : a7 = bm => (tg_ne tI13 tI26 (by omega)) q9)))
  have k26 := kq12.2 _ _ kI14 (fun q9 => Or.elim q9 (tg_ne tI14 tI11 (by omega)) (fun q9 => Or.elim q9 (tg_ne tI14 tI25 (by omega)) (fun q9 : l0 = bm => (tg_ne tI14 tI26 (by omega)) q9)))
  have k27 := kq12.2 _ _ kI15 (fun q9 => Or.elim q9 (tg_ne tI15 tI11 (by omega)) (fun q9 => Or.elim q9 (tg_ne tI15 tI25 (by omega)) (fun q9 : l1 = bm => (tg_ne tI15 tI26 (by omega)) q9)))
  have k28 := kq12.2 _ _ kI16 (fun q9 => Or.elim q9 (tg_ne tI16 tI11 (by omega)) (fun q9 => Or.elim q9 (tg_ne tI16 tI25 (by omega)) (fun q9 : l2 = bm => (tg_ne tI16 tI26 (by omega)) q9)))
  have k29 := kq12.2 _ _ kI17 (fun q9 => Or.elim q9 (tg_ne tI17 tI11 (by omega)) (fun q9 => Or.elim q9 (tg_ne tI17 tI25 (by omega)) (fun q9 : l3 = bm => (tg_ne tI17 tI26 (by omega)) q9)))
  have k30 := kq12.2 _ _ kI18 (fun q9 => Or.elim q9 (tg_ne tI18 tI11 (by omega)) (fun q9 => Or.elim q9 (tg_ne tI18 tI25 (by omega)) (fun q9 : l4 = bm => (tg_ne tI18 tI26 (by omega)) q9)))
  have k31 := kq12.2 _ _ kI19 (fun q9 => Or.elim q9 (tg_ne tI19 tI11 (by omega)) (fun q9 => Or.elim q9 (tg_ne tI19 tI25 (by omega)) (fun q9 : l5 = bm => (tg_ne tI19 tI26 (by omega)) q9)))
  have k32 := kq12.2 _ _ kI20 (fun q9 => Or.elim q9 (tg_ne tI20 tI11 (by omega)) (fun q9 => Or.elim q9 (tg_ne tI20 tI25 (by omega)) (fun q9 : l6 = bm => (tg_ne tI20 tI26 (by omega)) q9)))
  have k33 := kq12.2 _ _ kI21 (fun q9 => Or.elim q9 (tg_ne tI21 tI11 (by omega)) (fun q9 => Or.elim q9 (tg_ne tI21 tI25 (by omega)) (fun q9 : l7 = bm => (tg_ne tI21 tI26 (by omega)) q9)))
  have k34 := kq12.2 _ _ kI22 (fun q9 => Or.elim q9 (tg_ne tI22 tI11 (by omega)) (fun q9 => Or.elim q9 (tg_ne tI22 tI25 (by omega)) (fun q9 : a8 = bm => (tg_ne tI22 tI26 (by omega)) q9)))
  have k35 := kq12.2 _ _ kI23 (fun q9 => Or.elim q9 (tg_ne tI23 tI11 (by omega)) (fun q9 => Or.elim q9 (tg_ne tI23 tI25 (by omega)) (fun q9 : a10 = bm => (tg_ne tI23 tI26 (by omega)) q9)))
  have k36 := kq12.2 _ _ kI24 (fun q9 => Or.elim q9 (tg_ne tI24 tI11 (by omega)) (fun q9 => Or.elim q9 (tg_ne tI24 tI25 (by omega)) (fun q9 : bl = bm => (tg_ne tI24 tI26 (by omega)) q9)))
  have fm37 : ∀ i9, i9 < 12 → tf i9 = some (tn i9) ∧ wd_at w3 (tn i9) (.inr (8, [.int (co i9), .int (ra i9), .int (se i9), .ref (ag i9)])) ∧ tg (tn i9) = 100 + i9 := fun i9 hi9 => ⟨(hT9 i9 hi9).1, kq12.2 _ _ (hT9 i9 hi9).2.1 (fun q9 => Or.elim q9 (tg_ne (hT9 i9 hi9).2.2 tI11 (by omega)) (fun q9 => Or.elim q9 (tg_ne (hT9 i9 hi9).2.2 tI25 (by omega)) (tg_ne (hT9 i9 hi9).2.2 tI26 (by omega)))), (hT9 i9 hi9).2.2⟩
  have fm38 : ∀ k9, k9 < 13 → (aOK (cf k9) (nf k9) ∧ ru k9 ≤ 12) ∧ wd_at w3 (aa k9) (.inr (1, [.ref (ga0 k9), .ref (ga1 k9), .ref (ga2 k9), .ref (ga3 k9), .ref (ga4 k9), .int (nI (ru k9))])) ∧ tg (aa k9) = 200 + k9 ∧ wd_at w3 (ga0 k9) (.inl (cy 2, 12, .inl (df k9))) ∧ tg (ga0 k9) = 220 + k9 ∧ wd_at w3 (ga1 k9) (.inl (cy 2, 12, .inl (cf k9))) ∧ tg (ga1 k9) = 240 + k9 ∧ wd_at w3 (ga2 k9) (.inl (cy 2, 72, .inl (nf k9))) ∧ tg (ga2 k9) = 260 + k9 ∧ wd_at w3 (ga3 k9) (.inl (cy 1, 72, .inl (sf k9))) ∧ tg (ga3 k9) = 280 + k9 ∧ wd_at w3 (ga4 k9) (.inl (cy 2, 72, .inl (uf k9))) ∧ tg (ga4 k9) = 300 + k9 := fun k9 hi9 => ⟨(hG9 k9 hi9).1, kq12.2 _ _ (hG9 k9 hi9).2.1 (fun q9 => Or.elim q9 (tg_ne (hG9 k9 hi9).2.2.1 tI11 (by omega)) (fun q9 => Or.elim q9 (tg_ne (hG9 k9 hi9).2.2.1 tI25 (by omega)) (tg_ne (hG9 k9 hi9).2.2.1 tI26 (by omega)))), (hG9 k9 hi9).2.2.1, kq12.2 _ _ (hG9 k9 hi9).2.2.2.1 (fun q9 => Or.elim q9 (tg_ne (hG9 k9 hi9).2.2.2.2.1 tI11 (by omega)) (fun q9 => Or.elim q9 (tg_ne (hG9 k9 hi9).2.2.2.2.1 tI25 (by omega)) (tg_ne (hG9 k9 hi9).2.2.2.2.1 tI26 (by omega)))), (hG9 k9 hi9).2.2.2.2.1, kq12.2 _ _ (hG9 k9 hi9).2.2.2.2.2.1 (fun q9 => Or.elim q9 (tg_ne (hG9 k9 hi9).2.2.2.2.2.2.1 tI11 (by omega)) (fun q9 => Or.elim q9 (tg_ne (hG9 k9 hi9).2.2.2.2.2.2.1 tI25 (by omega)) (tg_ne (hG9 k9 hi9).2.2.2.2.2.2.1 tI26 (by omega)))), (hG9 k9 hi9).2.2.2.2.2.2.1, kq12.2 _ _ (hG9 k9 hi9).2.2.2.2.2.2.2.1 (fun q9 => Or.elim q9 (tg_ne (hG9 k9 hi9).2.2.2.2.2.2.2.2.1 tI11 (by omega)) (fun q9 => Or.elim q9 (tg_ne (hG9 k9 hi9).2.2.2.2.2.2.2.2.1 tI25 (by omega)) (tg_ne (hG9 k9 hi9).2.2.2.2.2.2.2.2.1 tI26 (by omega)))), (hG9 k9 hi9).2.2.2.2.2.2.2.2.1, kq12.2 _ _ (hG9 k9 hi9).2.2.2.2.2.2.2.2.2.1 (fun q9 => Or.elim q9 (tg_ne (hG9 k9 hi9).2.2.2.2.2.2.2.2.2.2.1 tI11 (by omega)) (fun q9 => Or.elim q9 (tg_ne (hG9 k9 hi9).2.2.2.2.2.2.2.2.2.2.1 tI25 (by omega)) (tg_ne (hG9 k9 hi9).2.2.2.2.2.2.2.2.2.2.1 tI26 (by omega)))), (hG9 k9 hi9).2.2.2.2.2.2.2.2.2.2.1, kq12.2 _ _ (hG9 k9 hi9).2.2.2.2.2.2.2.2.2.2.2.1 (fun q9 => Or.elim q9 (tg_ne (hG9 k9 hi9).2.2.2.2.2.2.2.2.2.2.2.2 tI11 (by omega)) (fun q9 => Or.elim q9 (tg_ne (hG9 k9 hi9).2.2.2.2.2.2.2.2.2.2.2.2 tI25 (by omega)) (tg_ne (hG9 k9 hi9).2.2.2.2.2.2.2.2.2.2.2.2 tI26 (by omega)))), (hG9 k9 hi9).2.2.2.2.2.2.2.2.2.2.2.2⟩
  have fm39 : ∀ k9, k9 < pc → pf k9 = some (pa k9) ∧ wd_at w3 (pa k9) (.inr (3, [.int (plv k9), .int (pwo k9), .int (phd k9), .int (pgd k9), .int (pdy k9), .int (pno k9), .int (ptp k9)])) ∧ tg (pa k9) = 3000 + k9 := fun k9 hi9 => ⟨(hP9 k9 hi9).1, kq12.2 _ _ (hP9 k9 hi9).2.1 (fun q9 => Or.elim q9 (tg_ne (hP9 k9 hi9).2.2 tI11 (by omega)) (fun q9 => Or.elim q9 (tg_ne (hP9 k9 hi9).2.2 tI25 (by omega)) (tg_ne (hP9 k9 hi9).2.2 tI26 (by omega)))), (hP9 k9 hi9).2.2⟩
  have fm40 : ∀ k9, k9 < ac → af k9 = some (ad k9) ∧ wd_at w3 (ad k9) (.inr (0, [.int (av0 k9), .int (av1 k9), .int (av2 k9), .int (av3 k9)])) ∧ tg (ad k9) = 4000 + k9 := fun k9 hi9 => ⟨(hA9 k9 hi9).1, kq12.2 _ _ (hA9 k9 hi9).2.1 (fun q9 => Or.elim q9 (tg_ne (hA9 k9 hi9).2.2 tI11 (by omega)) (fun q9 => Or.elim q9 (tg_ne (hA9 k9 hi9).2.2 tI25 (by omega)) (tg_ne (hA9 k9 hi9).2.2 tI26 (by omega)))), (hA9 k9 hi9).2.2⟩
  have fm41 : ∀ k9, k9 < sc → zf k9 = some (so k9) ∧ wd_at w3 (so k9) (.inr (6, [.int (sp0 k9), .int (sp1 k9), .ref (sr k9)])) ∧ tg (so k9) = 5000 + k9 ∧ wd_at w3 (sr k9) (.inl (cy 2, 12, .inl (sd k9))) ∧ tg (sr k9) = 6000 + k9 := fun k9 hi9 => ⟨(hS9 k9 hi9).1, kq12.2 _ _ (hS9 k9 hi9).2.1 (fun q9 => Or.elim q9 (tg_ne (hS9 k9 hi9).2.2.1 tI11 (by omega)) (fun q9 => Or.elim q9 (tg_ne (hS9 k9 hi9).2.2.1 tI25 (by omega)) (tg_ne (hS9 k9 hi9).2.2.1 tI26 (by omega)))), (hS9 k9 hi9).2.2.1, kq12.2 _ _ (hS9 k9 hi9).2.2.2.1 (fun q9 => Or.elim q9 (tg_ne (hS9 k9 hi9).2.2.2.2 tI11 (by omega)) (fun q9 => Or.elim q9 (tg_ne (hS9 k9 hi9).2.2.2.2 tI25 (by omega)) (tg_ne (hS9 k9 hi9).2.2.2.2 tI26 (by omega)))), (hS9 k9 hi9).2.2.2.2⟩
  have fm42 : ∀ k9, k9 < sh → (hf k9 = some (sw k9) ∧ hto k9 < 12) ∧ wd_at w3 (sw k9) (.inr (5, [.int (nI (hto k9)), .int (hpp k9), .int (hle k9), .int (ham k9), .int (hhh k9), .int (hdd k9), .int (hru k9), .int (hde k9), .int (hcp k9), .int (hld k9)])) ∧ tg (sw k9) = 7000 + k9 := fun k9 hi9 => ⟨(hH9 k9 hi9).1, kq12.2 _ _ (hH9 k9 hi9).2.1 (fun q9 => Or.elim q9 (tg_ne (hH9 k9 hi9).2.2 tI11 (by omega)) (fun q9 => Or.elim q9 (tg_ne (hH9 k9 hi9).2.2 tI25 (by omega)) (tg_ne (hH9 k9 hi9).2.2 tI26 (by omega)))), (hH9 k9 hi9).2.2⟩
  have kp43 := kp0.tr kq12 (fun b9 hm q9 => (fun q9 => Or.elim q9 (fun q9 => q9 ▸ (tgS tI11 (by omega))) (fun q9 => Or.elim q9 (fun q9 => q9 ▸ (tgS tI25 (by omega))) (fun q9 => q9 ▸ (tgS tI26 (by omega))))) q9)
  refine W.eq (g2 := F0 m 11 ls [.int rx8]) rfl (W.widen (k := 0) (n := 0) (Nat.le_of_ble_eq_true rfl) (Nat.le_of_ble_eq_true rfl) ?_)
  refine lv_istore_n (lv' := [(1, .int rx8), (0, .ref x)]) hx hb dX10_law_11 rfl hl (by decide) rfl (fun ls hl => ?_)
  refine lv_aload_n hx hb dX10_law_12 rfl (lv_at hl 1 rfl) ?_
  refine x_get (ref := "NoteHouse") F hP k13 rfl (fun _ h => List.mem_cons_of_mem _ (List.mem_append_left _ (List.mem_append_left _ (List.mem_append_right _ (h))))) 6 (Nat.le_of_ble_eq_true rfl) (List.mem_cons_of_mem _ (List.mem_append_left _ (List.mem_append_left _ (List.mem_append_left _ (List.mem_append_left _ (List.mem_of_getElem? (i := 1) rfl)))))) rfl rfl dX10_law_13 ?_
  refine lv_iconst (v := 0) hx hb dX10_law_16 (by decide) ?_
  refine y_put (ref := "NoteHouse$Tape") F hP hD hS k9 rfl (fun _ h => List.mem_cons_of_mem _ (List.mem_append_left _ (List.mem_append_right _ (h)))) tyX7_ok nmX7 1 (Nat.le_of_ble_eq_true rfl) (List.mem_cons_of_mem _ (List.mem_append_left _ (List.mem_append_left _ (List.mem_append_left _ (List.mem_append_left _ (List.mem_of_getElem? (i := 2) rfl)))))) rfl rfl rfl rfl (Nat.le_of_ble_eq_true rfl) dX10_law_17 (fun w44 ew45 H locs hP hD hS => ?_)
  have k46 := wd_at.pt ew45 k13 (tg_ne tI0 tI11 (by omega))
  have k47 := wd_at.pt ew45 k14 (tg_ne tI1 tI11 (by omega))
  have k48 := wd_at.pt ew45 k15 (tg_ne tI2 tI11 (by omega))
  have k49 := wd_at.pt ew45 k16 (tg_ne tI3 tI11 (by omega))
  have k50 := wd_at.pt ew45 k17 (tg_ne tI4 tI11 (by omega))
  have k51 := wd_at.pt ew45 k18 (tg_ne tI5 tI11 (by omega))
  have k52 := wd_at.pt ew45 k19 (tg_ne tI6 tI11 (by omega))
  have k53 := wd_at.pt ew45 k20 (tg_ne tI7 tI11 (by omega))
  have k54 := wd_at.pt ew45 k21 (tg_ne tI8 tI11 (by omega))
  have k55 := wd_at.pt ew45 k22 (tg_ne tI9 tI11 (by omega))
  have k56 := wd_at.pt ew45 k23 (tg_ne tI10 tI11 (by omega))
  have k57 : wd_at w44 a6 (.inr (7, [.ref tb, .int 0, .int ax4])) := wd_at.ps ew45 k9
  have k58 := wd_at.pt ew45 k24 (tg_ne tI12 tI11 (by omega))
  have k59 := wd_at.pt ew45 k25 (tg_ne tI13 tI11 (by omega))
  have k60 := wd_at.pt ew45 k26 (tg_ne tI14 tI11 (by omega))
  have k61 := wd_at.pt ew45 k27 (tg_ne tI15 tI11 (by omega))
  have k62 := wd_at.pt ew45 k28 (tg_ne tI16 tI11 (by omega))
  have k63 := wd_at.pt ew45 k29 (tg_ne tI17 tI11 (by omega))
  have k64 := wd_at.pt ew45 k30 (tg_ne tI18 tI11 (by omega))
  have k65 := wd_at.pt ew45 k31 (tg_ne tI19 tI11 (by omega))
  have k66 := wd_at.pt ew45 k32 (tg_ne tI20 tI11 (by omega))
  have k67 := wd_at.pt ew45 k33 (tg_ne tI21 tI11 (by omega))
  have k68 := wd_at.pt ew45 k34 (tg_ne tI22 tI11 (by omega))
  have k69 := wd_at.pt ew45 k35 (tg_ne tI23 tI11 (by omega))
  have k70 := wd_at.pt ew45 k36 (tg_ne tI24 tI11 (by omega))
  have k71 := wd_at.pt ew45 k10 (tg_ne tI25 tI11 (by omega))
  have k72 := wd_at.pt ew45 k11 (tg_ne tI26 tI11 (by omega))
  have fm73 : ∀ i9, i9 < 12 → tf i9 = some (tn i9) ∧ wd_at w44 (tn i9) (.inr (8, [.int (co i9), .int (ra i9), .int (se i9), .ref (ag i9)])) ∧ tg (tn i9) = 100 + i9 := fun i9 hi9 => ⟨(fm37 i9 hi9).1, wd_at.pt ew45 (fm37 i9 hi9).2.1 (tg_ne (fm37 i9 hi9).2.2 tI11 (by omega)), (fm37 i9 hi9).2.2⟩
  have fm74 : ∀ k9, k9 < 13 → (aOK (cf k9) (nf k9) ∧ ru k9 ≤ 12) ∧ wd_at w44 (aa k9) (.inr (1, [.ref (ga0 k9), .ref (ga1 k9), .ref (ga2 k9), .ref (ga3 k9), .ref (ga4 k9), .int (nI (ru k9))])) ∧ tg (aa k9) = 200 + k9 ∧ wd_at w44 (ga0 k9) (.inl (cy 2, 12, .inl (df k9))) ∧ tg (ga0 k9) = 220 + k9 ∧ wd_at w44 (ga1 k9) (.inl (cy 2, 12, .inl (cf k9))) ∧ tg (ga1 k9) = 240 + k9 ∧ wd_at w44 (ga2 k9) (.inl (cy 2, 72, .inl (nf k9))) ∧ tg (ga2 k9) = 260 + k9 ∧ wd_at w44 (ga3 k9) (.inl (cy 1, 72, .inl (sf k9))) ∧ tg (ga3 k9) = 280 + k9 ∧ wd_at w44 (ga4 k9) (.inl (cy 2, 72, .inl (uf k9))) ∧ tg (ga4 k9) = 300 + k9 := fun k9 hi9 => ⟨(fm38 k9 hi9).1, wd_at.pt ew45 (fm38 k9 hi9).2.1 (tg_ne (fm38 k9 hi9).2.2.1 tI11 (by omega)), (fm38 k9 hi9).2.2.1, wd_at.pt ew45 (fm38 k9 hi9).2.2.2.1 (tg_ne (fm38 k9 hi9).2.2.2.2.1 tI11 (by omega)), (fm38 k9 hi9).2.2.2.2.1, wd_at.pt ew45 (fm38 k9 hi9).2.2.2.2.2.1 (tg_ne (fm38 k9 hi9).2.2.2.2.2.2.1 tI11 (by omega)), (fm38 k9 hi9).2.2.2.2.2.2.1, wd_at.pt ew45 (fm38 k9 hi9).2.2.2.2.2.2.2.1 (tg_ne (fm38 k9 hi9).2.2.2.2.2.2.2.2.1 tI11 (by omega)), (fm38 k9 hi9).2.2.2.2.2.2.2.2.1, wd_at.pt ew45 (fm38 k9 hi9).2.2.2.2.2.2.2.2.2.1 (tg_ne (fm38 k9 hi9).2.2.2.2.2.2.2.2.2.2.1 tI11 (by omega)), (fm38 k9 hi9).2.2.2.2.2.2.2.2.2.2.1, wd_at.pt ew45 (fm38 k9 hi9).2.2.2.2.2.2.2.2.2.2.2.1 (tg_ne (fm38 k9 hi9).2.2.2.2.2.2.2.2.2.2.2.2 tI11 (by omega)), (fm38 k9 hi9).2.2.2.2.2.2.2.2.2.2.2.2⟩
  have fm75 : ∀ k9, k9 < pc → pf k9 = some (pa k9) ∧ wd_at w44 (pa k9) (.inr (3, [.int (plv k9), .int (pwo k9), .int (phd k9), .int (pgd k9), .int (pdy k9), .int (pno k9), .int (ptp k9)])) ∧ tg (pa k9) = 3000 + k9 := fun k9 hi9 => ⟨(fm39 k9 hi9).1, wd_at.pt ew45 (fm39 k9 hi9).2.1 (tg_ne (fm39 k9 hi9).2.2 tI11 (by omega)), (fm39 k9 hi9).2.2⟩
  have fm76 : ∀ k9, k9 < ac → af k9 = some (ad k9) ∧ wd_at w44 (ad k9) (.inr (0, [.int (av0 k9), .int (av1 k9), .int (av2 k9), .int (av3 k9)])) ∧ tg (ad k9) = 4000 + k9 := fun k9 hi9 => ⟨(fm40 k9 hi9).1, wd_at.pt ew45 (fm40 k9 hi9).2.1 (tg_ne (fm40 k9 hi9).2.2 tI11 (by omega)), (fm40 k9 hi9).2.2⟩
  have fm77 : ∀ k9, k9 < sc → zf k9 = some (so k9) ∧ wd_at w44 (so k9) (.inr (6, [.int (sp0 k9), .int (sp1 k9), .ref (sr k9)])) ∧ tg (so k9) = 5000 + k9 ∧ wd_at w44 (sr k9) (.inl (cy 2, 12, .inl (sd k9))) ∧ tg (sr k9) = 6000 + k9 := fun k9 hi9 => ⟨(fm41 k9 hi9).1, wd_at.pt ew45 (fm41 k9 hi9).2.1 (tg_ne (fm41 k9 hi9).2.2.1 tI11 (by omega)), (fm41 k9 hi9).2.2.1, wd_at.pt ew45 (fm41 k9 hi9).2.2.2.1 (tg_ne (fm41 k9 hi9).2.2.2.2 tI11 (by omega)), (fm41 k9 hi9).2.2.2.2⟩
  have fm78 : ∀ k9, k9 < sh → (hf k9 = some (sw k9) ∧ hto k9 < 12) ∧ wd_at w44 (sw k9) (.inr (5, [.int (nI (hto k9)), .int (hpp k9), .int (hle k9), .int (ham k9), .int (hhh k9), .int (hdd k9), .int (hru k9), .int (hde k9), .int (hcp k9), .int (hld k9)])) ∧ tg (sw k9) = 7000 + k9 := fun k9 hi9 => ⟨(fm42 k9 hi9).1, wd_at.pt ew45 (fm42 k9 hi9).2.1 (tg_ne (fm42 k9 hi9).2.2 tI11 (by omega)), (fm42 k9 hi9).2.2⟩
  have kp79 := kp43.put ew45 (tgS tI11 (by omega))
  refine lv_iload_n hx hb dX10_law_20 rfl (lv_at hl 0 rfl) ?_
  refine lv_if_eq (tgt := 26) hx hb dX10_law_21 (by decide) (fun c_80 => ?_) (fun c_80 => ?_)
  · refine lv_aload_n hx hb dX10_law_26 rfl (lv_at hl 1 rfl) ?_
    refine x_get (ref := "NoteHouse") F hP k46 rfl (fun _ h => List.mem_cons_of_mem _ (List.mem_append_left _ (List.mem_append_left _ (List.mem_append_right _ (h))))) 10 (Nat.le_of_ble_eq_true rfl) (List.mem_cons_of_mem _ (List.mem_append_left _ (List.mem_append_left _ (List.mem_append_left _ (List.mem_append_left _ (List.mem_of_getElem? (i := 3) rfl)))))) rfl rfl dX10_law_27 ?_
    refine lv_astore_n (lv' := [(2, .ref a10), (1, .int rx8), (0, .ref x)]) hx hb dX10_law_30 rfl hl (by decide) rfl (fun ls hl => ?_)
    refine lv_aload_n hx hb dX10_law_31 rfl (lv_at hl 2 rfl) ?_
    refine lv_aload_n hx hb dX10_law_32 rfl (lv_at hl 2 rfl) ?_
    refine x_get (ref := "NoteHouse") F hP k46 rfl (fun _ h => List.mem_cons_of_mem _ (List.mem_append_left _ (List.mem_append_left _ (List.mem_append_right _ (h))))) 11 (Nat.le_of_ble_eq_true rfl) (List.mem_cons_of_mem _ (List.mem_append_left _ (List.mem_append_left _ (List.mem_append_left _ (List.mem_append_left _ (List.mem_of_getElem? (i := 0) rfl)))))) rfl rfl dX10_law_33 ?_
    refine y_put (ref := "NoteHouse") F hP hD hS k46 rfl (fun _ h => List.mem_cons_of_mem _ (List.mem_append_left _ (List.mem_append_left _ (List.mem_append_right _ (h))))) tyX10_ok nmX10 10 (Nat.le_of_ble_eq_true rfl) (List.mem_cons_of_mem _ (List.mem_append_left _ (List.mem_append_left _ (List.mem_append_left _ (List.mem_append_left _ (List.mem_of_getElem? (i := 3) rfl)))))) rfl rfl rfl rfl (Nat.le_of_ble_eq_true rfl) dX10_law_36 (fun w81 ew82 H locs hP hD hS => ?_)
    have k83 : wd_at w81 x (.inr (10, [.ref a0, .ref a1, .ref a2, .ref a3, .ref a4, .ref a5, .ref a6, .ref a7, .ref a8, .ref (aa sg), .ref a11, .ref a11, .int td, .int (nI pc), .int (nI ac), .int (nI sc), .int (nI sh)])) := wd_at.ps ew82 k46
    have k84 := wd_at.pt ew82 k47 (tg_ne tI1 tI0 (by omega))
    have k85 := wd_at.pt ew82 k48 (tg_ne tI2 tI0 (by omega))
    have k86 := wd_at.pt ew82 k49 (tg_ne tI3 tI0 (by omega))
    have k87 := wd_at.pt ew82 k50 (tg_ne tI4 tI0 (by omega))
    have k88 := wd_at.pt ew82 k51 (tg_ne tI5 tI0 (by omega))
    have k89 := wd_at.pt ew82 k52 (tg_ne tI6 tI0 (by omega))
    have k90 := wd_at.pt ew82 k53 (tg_ne tI7 tI0 (by omega))
    have k91 := wd_at.pt ew82 k54 (tg_ne tI8 tI0 (by omega))
    have k92 := wd_at.pt ew82 k55 (tg_ne tI9 tI0 (by omega))
    have k93 := wd_at.pt ew82 k56 (tg_ne tI10 tI0 (by omega))
    have k94 := wd_at.pt ew82 k57 (tg_ne tI11 tI0 (by omega))
    have k95 := wd_at.pt ew82 k58 (tg_ne tI12 tI0 (by omega))
    have k96 := wd_at.pt ew82 k59 (tg_ne tI13 tI0 (by omega))
    have k97 := wd_at.pt ew82 k60 (tg_ne tI14 tI0 (by omega))
    have k98 := wd_at.pt ew82 k61 (tg_ne tI15 tI0 (by omega))
    have k99 := wd_at.pt ew82 k62 (tg_ne tI16 tI0 (by omega))
    have k100 := wd_at.pt ew82 k63 (tg_ne tI17 tI0 (by omega))
    have k101 := wd_at.pt ew82 k64 (tg_ne tI18 tI0 (by omega))
    have k102 := wd_at.pt ew82 k65 (tg_ne tI19 tI0 (by omega))
    have k103 := wd_at.pt ew82 k66 (tg_ne tI20 tI0 (by omega))
    have k104 := wd_at.pt ew82 k67 (tg_ne tI21 tI0 (by omega))
    have k105 := wd_at.pt ew82 k68 (tg_ne tI22 tI0 (by omega))
    have k106 := wd_at.pt ew82 k69 (tg_ne tI23 tI0 (by omega))
    have k107 := wd_at.pt ew82 k70 (tg_ne tI24 tI0 (by omega))
    have k108 := wd_at.pt ew82 k71 (tg_ne tI25 tI0 (by omega))
    have k109 := wd_at.pt ew82 k72 (tg_ne tI26 tI0 (by omega))
    have fm110 : ∀ i9, i9 < 12 → tf i9 = some (tn i9) ∧ wd_at w81 (tn i9) (.inr (8, [.int (co i9), .int (ra i9), .int (se i9), .ref (ag i9)])) ∧ tg (tn i9) = 100 + i9 := fun i9 hi9 => ⟨(fm73 i9 hi9).1, wd_at.pt ew82 (fm73 i9 hi9).2.1 (tg_ne (fm73 i9 hi9).2.2 tI0 (by omega)), (fm73 i9 hi9).2.2⟩
    have fm111 : ∀ k9, k9 < 13 → (aOK (cf k9) (nf k9) ∧ ru k9 ≤ 12) ∧ wd_at w81 (aa k9) (.inr (1, [.ref (ga0 k9), .ref (ga1 k9), .ref (ga2 k9), .ref (ga3 k9), .ref (ga4 k9), .int (nI (ru k9))])) ∧ tg (aa k9) = 200 + k9 ∧ wd_at w81 (ga0 k9) (.inl (cy 2, 12, .inl (df k9))) ∧ tg (ga0 k9) = 220 + k9 ∧ wd_at w81 (ga1 k9) (.inl (cy 2, 12, .inl (cf k9))) ∧ tg (ga1 k9) = 240 + k9 ∧ wd_at w81 (ga2 k9) (.inl (cy 2, 72, .inl (nf k9))) ∧ tg (ga2 k9) = 260 + k9 ∧ wd_at w81 (ga3 k9) (.inl (cy 1, 72, .inl (sf k9))) ∧ tg (ga3 k9) = 280 + k9 ∧ wd_at w81 (ga4 k9) (.inl (cy 2, 72, .inl (uf k9))) ∧ tg (ga4 k9) = 300 + k9 := fun k9 hi9 => ⟨(fm74 k9 hi9).1, wd_at.pt ew82 (fm74 k9 hi9).2.1 (tg_ne (fm74 k9 hi9).2.2.1 tI0 (by omega)), (fm74 k9 hi9).2.2.1, wd_at.pt ew82 (fm74 k9 hi9).2.2.2.1 (tg_ne (fm74 k9 hi9).2.2.2.2.1 tI0 (by omega)), (fm74 k9 hi9).2.2.2.2.1, wd_at.pt ew82 (fm74 k9 hi9).2.2.2.2.2.1 (tg_ne (fm74 k9 hi9).2.2.2.2.2.2.1 tI0 (by omega)), (fm74 k9 hi9).2.2.2.2.2.2.1, wd_at.pt ew82 (fm74 k9 hi9).2.2.2.2.2.2.2.1 (tg_ne (fm74 k9 hi9).2.2.2.2.2.2.2.2.1 tI0 (by omega)), (fm74 k9 hi9).2.2.2.2.2.2.2.2.1, wd_at.pt ew82 (fm74 k9 hi9).2.2.2.2.2.2.2.2.2.1 (tg_ne (fm74 k9 hi9).2.2.2.2.2.2.2.2.2.2.1 tI0 (by omega)), (fm74 k9 hi9).2.2.2.2.2.2.2.2.2.2.1, wd_at.pt ew82 (fm74 k9 hi9).2.2.2.2.2.2.2.2.2.2.2.1 (tg_ne (fm74 k9 hi9).2.2.2.2.2.2.2.2.2.2.2.2 tI0 (by omega)), (fm74 k9 hi9).2.2.2.2.2.2.2.2.2.2.2.2⟩
    have fm112 : ∀ k9, k9 < pc → pf k9 = some (pa k9) ∧ wd_at w81 (pa k9) (.inr (3, [.int (plv k9), .int (pwo k9), .int (phd k9), .int (pgd k9), .int (pdy k9), .int (pno k9), .int (ptp k9)])) ∧ tg (pa k9) = 3000 + k9 := fun k9 hi9 => ⟨(fm75 k9 hi9).1, wd_at.pt ew82 (fm75 k9 hi9).2.1 (tg_ne (fm75 k9 hi9).2.2 tI0 (by omega)), (fm75 k9 hi9).2.2⟩
    have fm113 : ∀ k9, k9 < ac → af k9 = some (ad k9) ∧ wd_at w81 (ad k9) (.inr (0, [.int (av0 k9), .int (av1 k9), .int (av2 k9), .int (av3 k9)])) ∧ tg (ad k9) = 4000 + k9 := fun k9 hi9 => ⟨(fm76 k9 hi9).1, wd_at.pt ew82 (fm76 k9 hi9).2.1 (tg_ne (fm76 k9 hi9).2.2 tI0 (by omega)), (fm76 k9 hi9).2.2⟩
    have fm114 : ∀ k9, k9 < sc → zf k9 = some (so k9) ∧ wd_at w81 (so k9) (.inr (6, [.int (sp0 k9), .int (sp1 k9), .ref (sr k9)])) ∧ tg (so k9) = 5000 + k9 ∧ wd_at w81 (sr k9) (.inl (cy 2, 12, .inl (sd k9))) ∧ tg (sr k9) = 6000 + k9 := fun k9 hi9 => ⟨(fm77 k9 hi9).1, wd_at.pt ew82 (fm77 k9 hi9).2.1 (tg_ne (fm77 k9 hi9).2.2.1 tI0 (by omega)), (fm77 k9 hi9).2.2.1, wd_at.pt ew82 (fm77 k9 hi9).2.2.2.1 (tg_ne (fm77 k9 hi9).2.2.2.2 tI0 (by omega)), (fm77 k9 hi9).2.2.2.2⟩
    have fm115 : ∀ k9, k9 < sh → (hf k9 = some (sw k9) ∧ hto k9 < 12) ∧ wd_at w81 (sw k9) (.inr (5, [.int (nI (hto k9)), .int (hpp k9), .int (hle k9), .int (ham k9), .int (hhh k9), .int (hdd k9), .int (hru k9), .int (hde k9), .int (hcp k9), .int (hld k9)])) ∧ tg (sw k9) = 7000 + k9 := fun k9 hi9 => ⟨(fm78 k9 hi9).1, wd_at.pt ew82 (fm78 k9 hi9).2.1 (tg_ne (fm78 k9 hi9).2.2 tI0 (by omega)), (fm78 k9 hi9).2.2⟩
    have kp116 := kp79.put ew82 (tgS tI0 (by omega))
    refine lv_aload_n hx hb dX10_law_39 rfl (lv_at hl 2 rfl) ?_
    refine lv_aload_n hx hb dX10_law_40 rfl (lv_at hl 0 rfl) ?_
    refine y_put (ref := "NoteHouse") F hP hD hS k83 rfl (fun _ h => List.mem_cons_of_mem _ (List.mem_append_left _ (List.mem_append_left _ (List.mem_append_right _ (h))))) tyX10_ok nmX10 11 (Nat.le_of_ble_eq_true rfl) (List.mem_cons_of_mem _ (List.mem_append_left _ (List.mem_append_left _ (List.mem_append_left _ (List.mem_append_left _ (List.mem_of_getElem? (i := 0) rfl)))))) rfl rfl rfl rfl (Nat.le_of_ble_eq_true rfl) dX10_law_41 (fun w117 ew118 H locs hP hD hS => ?_)
    have k119 : wd_at w117 x (.inr (10, [.ref a0, .ref a1, .ref a2, .ref a3, .ref a4, .ref a5, .ref a6, .ref a7, .ref a8, .ref (aa sg), .ref a11, .ref a10, .int td, .int (nI pc), .int (nI ac), .int (nI sc), .int (nI sh)])) := wd_at.ps ew118 k83
    have k120 := wd_at.pt ew118 k84 (tg_ne tI1 tI0 (by omega))
    have k121 := wd_at.pt ew118 k85 (tg_ne tI2 tI0 (by omega))
    have k122 := wd_at.pt ew118 k86 (tg_ne tI3 tI0 (by omega))
    have k123 := wd_at.pt ew118 k87 (tg_ne tI4 tI0 (by omega))
    have k124 := wd_at.pt ew118 k88 (tg_ne tI5 tI0 (by omega))
    have k125 := wd_at.pt ew118 k89 (tg_ne tI6 tI0 (by omega))
    have k126 := wd_at.pt ew118 k90 (tg_ne tI7 tI0 (by omega))
    have k127 := wd_at.pt ew118 k91 (tg_ne tI8 tI0 (by omega))
    have k128 := wd_at.pt ew118 k92 (tg_ne tI9 tI0 (by omega))
    have k129 := wd_at.pt ew118 k93 (tg_ne tI10 tI0 (by omega))
    have k130 := wd_at.pt ew118 k94 (tg_ne tI11 tI0 (by omega))
    have k131 := wd_at.pt ew118 k95 (tg_ne tI12 tI0 (by omega))
    have k132 := wd_at.pt ew118 k96 (tg_ne tI13 tI0 (by omega))
    have k133 := wd_at.pt ew118 k97 (tg_ne tI14 tI0 (by omega))
    have k134 := wd_at.pt ew118 k98 (tg_ne tI15 tI0 (by omega))
    have k135 := wd_at.pt ew118 k99 (tg_ne tI16 tI0 (by omega))
    have k136 := wd_at.pt ew118 k100 (tg_ne tI17 tI0 (by omega))
    have k137 := wd_at.pt ew118 k101 (tg_ne tI18 tI0 (by omega))
    have k138 := wd_at.pt ew118 k102 (tg_ne tI19 tI0 (by omega))
    have k139 := wd_at.pt ew118 k103 (tg_ne tI20 tI0 (by omega))
    have k140 := wd_at.pt ew118 k104 (tg_ne tI21 tI0 (by omega))
    have k141 := wd_at.pt ew118 k105 (tg_ne tI22 tI0 (by omega))
    have k142 := wd_at.pt ew118 k106 (tg_ne tI23 tI0 (by omega))
    have k143 := wd_at.pt ew118 k107 (tg_ne tI24 tI0 (by omega))
    have k144 := wd_at.pt ew118 k108 (tg_ne tI25 tI0 (by omega))
    have k145 := wd_at.pt ew118 k109 (tg_ne tI26 tI0 (by omega))
    have fm146 : ∀ i9, i9 < 12 → tf i9 = some (tn i9) ∧ wd_at w117 (tn i9) (.inr (8, [.int (co i9), .int (ra i9), .int (se i9), .ref (ag i9)])) ∧ tg (tn i9) = 100 + i9 := fun i9 hi9 => ⟨(fm110 i9 hi9).1, wd_at.pt ew118 (fm110 i9 hi9).2.1 (tg_ne (fm110 i9 hi9).2.2 tI0 (by omega)), (fm110 i9 hi9).2.2⟩
    have fm147 : ∀ k9, k9 < 13 → (aOK (cf k9) (nf k9) ∧ ru k9 ≤ 12) ∧ wd_at w117 (aa k9) (.inr (1, [.ref (ga0 k9), .ref (ga1 k9), .ref (ga2 k9), .ref (ga3 k9), .ref (ga4 k9), .int (nI (ru k9))])) ∧ tg (aa k9) = 200 + k9 ∧ wd_at w117 (ga0 k9) (.inl (cy 2, 12, .inl (df k9))) ∧ tg (ga0 k9) = 220 + k9 ∧ wd_at w117 (ga1 k9) (.inl (cy 2, 12, .inl (cf k9))) ∧ tg (ga1 k9) = 240 + k9 ∧ wd_at w117 (ga2 k9) (.inl (cy 2, 72, .inl (nf k9))) ∧ tg (ga2 k9) = 260 + k9 ∧ wd_at w117 (ga3 k9) (.inl (cy 1, 72, .inl (sf k9))) ∧ tg (ga3 k9) = 280 + k9 ∧ wd_at w117 (ga4 k9) (.inl (cy 2, 72, .inl (uf k9))) ∧ tg (ga4 k9) = 300 + k9 := fun k9 hi9 => ⟨(fm111 k9 hi9).1, wd_at.pt ew118 (fm111 k9 hi9).2.1 (tg_ne (fm111 k9 hi9).2.2.1 tI0 (by omega)), (fm111 k9 hi9).2.2.1, wd_at.pt ew118 (fm111 k9 hi9).2.2.2.1 (tg_ne (fm111 k9 hi9).2.2.2.2.1 tI0 (by omega)), (fm111 k9 hi9).2.2.2.2.1, wd_at.pt ew118 (fm111 k9 hi9).2.2.2.2.2.1 (tg_ne (fm111 k9 hi9).2.2.2.2.2.2.1 tI0 (by omega)), (fm111 k9 hi9).2.2.2.2.2.2.1, wd_at.pt ew118 (fm111 k9 hi9).2.2.2.2.2.2.2.1 (tg_ne (fm111 k9 hi9).2.2.2.2.2.2.2.2.1 tI0 (by omega)), (fm111 k9 hi9).2.2.2.2.2.2.2.2.1, wd_at.pt ew118 (fm111 k9 hi9).2.2.2.2.2.2.2.2.2.1 (tg_ne (fm111 k9 hi9).2.2.2.2.2.2.2.2.2.2.1 tI0 (by omega)), (fm111 k9 hi9).2.2.2.2.2.2.2.2.2.2.1, wd_at.pt ew118 (fm111 k9 hi9).2.2.2.2.2.2.2.2.2.2.2.1 (tg_ne (fm111 k9 hi9).2.2.2.2.2.2.2.2.2.2.2.2 tI0 (by omega)), (fm111 k9 hi9).2.2.2.2.2.2.2.2.2.2.2.2⟩
    have fm148 : ∀ k9, k9 < pc → pf k9 = some (pa k9) ∧ wd_at w117 (pa k9) (.inr (3, [.int (plv k9), .int (pwo k9), .int (phd k9), .int (pgd k9), .int (pdy k9), .int (pno k9), .int (ptp k9)])) ∧ tg (pa k9) = 3000 + k9 := fun k9 hi9 => ⟨(fm112 k9 hi9).1, wd_at.pt ew118 (fm112 k9 hi9).2.1 (tg_ne (fm112 k9 hi9).2.2 tI0 (by omega)), (fm112 k9 hi9).2.2⟩
    have fm149 : ∀ k9, k9 < ac → af k9 = some (ad k9) ∧ wd_at w117 (ad k9) (.inr (0, [.int (av0 k9), .int (av1 k9), .int (av2 k9), .int (av3 k9)])) ∧ tg (ad k9) = 4000 + k9 := fun k9 hi9 => ⟨(fm113 k9 hi9).1, wd_at.pt ew118 (fm113 k9 hi9).2.1 (tg_ne (fm113 k9 hi9).2.2 tI0 (by omega)), (fm113 k9 hi9).2.2⟩
    have fm150 : ∀ k9, k9 < sc → zf k9 = some (so k9) ∧ wd_at w117 (so k9) (.inr (6, [.int (sp0 k9), .int (sp1 k9), .ref (sr k9)])) ∧ tg (so k9) = 5000 + k9 ∧ wd_at w117 (sr k9) (.inl (cy 2, 12, .inl (sd k9))) ∧ tg (sr k9) = 6000 + k9 := fun k9 hi9 => ⟨(fm114 k9 hi9).1, wd_at.pt ew118 (fm114 k9 hi9).2.1 (tg_ne (fm114 k9 hi9).2.2.1 tI0 (by omega)), (fm114 k9 hi9).2.2.1, wd_at.pt ew118 (fm114 k9 hi9).2.2.2.1 (tg_ne (fm114 k9 hi9).2.2.2.2 tI0 (by omega)), (fm114 k9 hi9).2.2.2.2⟩
    have fm151 : ∀ k9, k9 < sh → (hf k9 = some (sw k9) ∧ hto k9 < 12) ∧ wd_at w117 (sw k9) (.inr (5, [.int (nI (hto k9)), .int (hpp k9), .int (hle k9), .int (ham k9), .int (hhh k9), .int (hdd k9), .int (hru k9), .int (hde k9), .int (hcp k9), .int (hld k9)])) ∧ tg (sw k9) = 7000 + k9 := fun k9 hi9 => ⟨(fm115 k9 hi9).1, wd_at.pt ew118 (fm115 k9 hi9).2.1 (tg_ne (fm115 k9 hi9).2.2 tI0 (by omega)), (fm115 k9 hi9).2.2⟩
    have kp152 := kp116.put ew118 (tgS tI0 (by omega))
    refine lv_iconst (v := 0) hx hb dX10_law_44 (by decide) ?_
    have hX154 : IX cy tg x td pc ac sc 0 se plv w117 := IX.mk a0 a1 a2 a3 a4 a5 a6 a7 a8 a11 a10 b0 b1 b2 b3 tb l0 l1 l2 l3 l4 l5 l6 l7 bm bl sh gc sg lv9 lu f0 f1 f2 f3 tbf e0 e1 e4 e5 e7 ff bfx7 bf e2 e3 e6 ax4 sz ffx5 ttx6 fo to tf tn ag co ra aa ru ga0 ga1 ga2 ga3 ga4 df cf nf sf uf pf pa pwo phd pgd pdy pno ptp af ad av0 av1 av2 av3 zf so sr sp0 sp1 sd hf sw hto hpp hle ham hhh hdd hru hde hcp hld (by omega) (by omega) (by omega) (by omega) (by omega) (by omega) (by omega) (by omega) hag k119 tI0 k120 tI1 k121 tI2 k122 tI3 k123 tI4 k124 tI5 k125 tI6 k126 tI7 k127 tI8 k128 tI9 k129 tI10 k130 tI11 k131 tI12 k132 tI13 k133 tI14 k134 tI15 k135 tI16 k136 tI17 k137 tI18 k138 tI19 k139 tI20 k140 tI21 k141 tI22 k144 tI25 k145 tI26 k142 tI23 k143 tI24 fm146 fm147 fm148 fm149 fm150 fm151
    exact y_ir K hP hD hS (Nat.le_of_ble_eq_true rfl) (Nat.le_of_ble_eq_true rfl) (ty := .int) rfl rfl dX10_law_45 (⟨⟨_, rfl⟩, ⟨tg, (fun _ _ => rfl), kp152, hX154⟩⟩)
  · refine lv_iload_n hx hb dX10_law_24 rfl (lv_at hl 0 rfl) ?_
    have hX156 : IX cy tg x td pc ac sc 0 se plv w44 := IX.mk a0 a1 a2 a3 a4 a5 a6 a7 a8 a10 a11 b0 b1 b2 b3 tb l0 l1 l2 l3 l4 l5 l6 l7 bl bm sh gc sg lu lv9 f0 f1 f2 f3 tbf e0 e1 e4 e5 e7 ff bf bfx7 e2 e3 e6 ax4 sz fo to ffx5 ttx6 tf tn ag co ra aa ru ga0 ga1 ga2 ga3 ga4 df cf nf sf uf pf pa pwo phd pgd pdy pno ptp af ad av0 av1 av2 av3 zf so sr sp0 sp1 sd hf sw hto hpp hle ham hhh hdd hru hde hcp hld (by omega) (by omega) (by omega) (by omega) (by omega) (by omega) (by omega) (by omega) hag k46 tI0 k47 tI1 k48 tI2 k49 tI3 k50 tI4 k51 tI5 k52 tI6 k53 tI7 k54 tI8 k55 tI9 k56 tI10 k57 tI11 k58 tI12 k59 tI13 k60 tI14 k61 tI15 k62 tI16 k63 tI17 k64 tI18 k65 tI19 k66 tI20 k67 tI21 k68 tI22 k69 tI23 k70 tI24 k71 tI25 k72 tI26 fm73 fm74 fm75 fm76 fm77 fm78
    exact y_ir K hP hD hS (Nat.le_of_ble_eq_true rfl) (Nat.le_of_ble_eq_true rfl) (ty := .int) rfl rfl dX10_law_25 (⟨⟨_, rfl⟩, ⟨tg, (fun _ _ => rfl), kp79, hX156⟩⟩)
set_option maxHeartbeats 4000000 in
set_option maxRecDepth 100000 in
theorem X_shown (l : Launch) (D : va_G) (cy : Nat → ClassId) (sk sv : Nat → Nat) (w : Wd) (tg : Nat → Nat) (x : Nat) (td : Int32) (pc ac sc ln : Nat) (se plv : Nat → Int32) (x1 x2 : Int32) (hIX0 : IX cy tg x td pc ac sc ln se plv w) : Ct l D cy sk sv yX10_shown wsX10_shown ({ frames := 1, cells := 0, slots := 0, locals := 21 }) [.ref x, .int x1, .int x2] w (fun v w1 => (∃ r : Int32, v = some (.int r)) ∧ XP cy tg x td pc ac sc ln se plv w w1) := by
  refine Ct.by (cc := cX10_shown) (maxL := 4) (ret := (some .int)) (by decide +kernel) rfl (Nat.le_of_ble_eq_true rfl) ?_
  intro p e s m args below meth c A Q F hnm K ls hl
  have F : wd_Fx p s m args meth c cX10_shown 4 wsX10_shown RX10 D cy sk sv A := F
  have hl : lv_has ls 4 [(0, .ref x), (1, .int x1), (2, .int x2)] := hl
  have hx := F.1.1
  have hb := F.1.2.1
  have hown := F.1.2.2.2.1
  have hts := F.1.2.2.2.2
  intro H locs hP hD hS
  have kp0 : wd_kp (fun b => tg b < 10000) w w := wd_kp.rf
  refine hIX0 _ ?_
  intro a0 a1 a2 a3 a4 a5 a6 a7 a8 a10 a11 b0 b1 b2 b3 tb l0 l1 l2 l3 l4 l5 l6 l7 bl bm sh gc sg lu lv9 f0 f1 f2 f3 tbf e0 e1 e4 e5 e7 ff bf bf2 e2 e3 e6 ta sz fo to fo2 to2 tf tn ag co ra aa ru ga0 ga1 ga2 ga3 ga4 df cf nf sf uf pf pa pwo phd pgd pdy pno ptp af ad av0 av1 av2 av3 zf so sr sp0 sp1 sd hf sw hto hpp hle ham hhh hdd hru hde hcp hld hp90 hp91 hp92 hp93 hp94 hp95 hp96 hp97 hag kI0 tI0 kI1 tI1 kI2 tI2 kI3 tI3 kI4 tI4 kI5 tI5 kI6 tI6 kI7 tI7 kI8 tI8 kI9 tI9 kI10 tI10 kI11 tI11 kI12 tI12 kI13 tI13 kI14 tI14 kI15 tI15 kI16 tI16 kI17 tI17 kI18 tI18 kI19 tI19 kI20 tI20 kI21 tI21 kI22 tI22 kI23 tI23 kI24 tI24 kI25 tI25 kI26 tI26 hT9 hG9 hP9 hA9 hS9 hH9
  refine lv_aload_n hx hb dX10_shown_0 rfl (lv_at hl 0 rfl) ?_
  refine lv_iload_n hx hb dX10_shown_1 rfl (lv_at hl 1 rfl) ?_
  refine x_callV (n := 1) (As := [.int x1]) (rest := []) F hP hD hS (g_shownAt l D cy sk sv w x a0 a1 a2 a3 a4 a5 a6 a7 a8 (aa sg) a10 a11 pc ac sc sh td x1 tg hf sw hto hpp hle ham hhh hdd hru hde hcp hld kI0 kI10 hH9 (by omega)) gX10_shown_X10_shownAt rfl rfl (by decide +kernel) ⟨(Nat.le_of_ble_eq_true rfl), (Nat.le_of_ble_eq_true rfl)⟩ rfl hl.1 (Nat.le_of_ble_eq_true rfl) kI0 rfl dX10_shown_2 rfl ⟨(Nat.le_of_ble_eq_true rfl), (Nat.le_of_ble_eq_true rfl)⟩ (fun v2 w3 hp1 H locs hP hD hS => ?_)
  obtain ⟨hp1, rfl⟩ := hp1
  rcases hp1 with ⟨rfl, hn5⟩ | ⟨j4, hn5, ej4, rfl⟩
  · refine W.eq (g2 := F0 m 5 ls [.null]) rfl (W.widen (k := 0) (n := 0) (Nat.le_of_ble_eq_true rfl) (Nat.le_of_ble_eq_true rfl) ?_)
    refine lv_astore_nN (lv' := [(3, .null), (0, .ref x), (1, .int x1), (2, .int x2)]) hx hb dX10_shown_5 rfl hl (by decide) rfl (fun ls hl => ?_)
    refine lv_aload_nN hx hb dX10_shown_6 rfl (lv_at hl 0 rfl) ?_
    refine lv_ifnonnullN hx hb dX10_shown_7 ?_
    refine lv_iconst (v := (-1)) hx hb dX10_shown_10 (by decide) ?_
    exact y_ir K hP hD hS (Nat.le_of_ble_eq_true rfl) (Nat.le_of_ble_eq_true rfl) (ty := .int) rfl rfl dX10_shown_11 (⟨⟨_, rfl⟩, ⟨tg, fun _ _ => rfl, wd_kp.rf, hIX0⟩⟩)
  · refine W.eq (g2 := F0 m 5 ls [.ref (sw j4)]) rfl (W.widen (k := 0) (n := 0) (Nat.le_of_ble_eq_true rfl) (Nat.le_of_ble_eq_true rfl) ?_)
    have pr6 := (hH9 j4 hn5).1
    have k7 := (hH9 j4 hn5).2.1
    have tz8 := (hH9 j4 hn5).2.2
    refine lv_astore_n (lv' := [(3, .ref (sw j4)), (0, .ref x), (1, .int x1), (2, .int x2)]) hx hb dX10_shown_5 rfl hl (by decide) rfl (fun ls hl => ?_)
    refine lv_aload_n hx hb dX10_shown_6 rfl (lv_at hl 0 rfl) ?_
    refine lv_ifnonnull (tgt := 12) hx hb dX10_shown_7 (by decide) ?_
    refine lv_iload_n hx hb dX10_shown_12 rfl (lv_at hl 3 rfl) ?_
    by_cases c_9 : x2 = 0
    · refine lv_tableIn (off := 51) (tgt := 64) hx hb dX10_shown_13 (by rw [c_9]; decide) (by rw [c_9]; decide) (by rw [c_9]; decide) (by decide) ?_
      refine lv_aload_n hx hb dX10_shown_64 rfl (lv_at hl 0 rfl) ?_
      refine x_get (ref := "NoteHouse$Shown") F hP k7 rfl (fun _ h => List.mem_cons_of_mem _ (List.mem_append_left _ (List.mem_append_right _ (h)))) 0 (Nat.le_of_ble_eq_true rfl) (List.mem_cons_of_mem _ (List.mem_append_left _ (List.mem_append_left _ (List.mem_of_getElem? (i := 0) rfl)))) rfl rfl dX10_shown_65 ?_
      exact y_ir K hP hD hS (Nat.le_of_ble_eq_true rfl) (Nat.le_of_ble_eq_true rfl) (ty := .int) rfl rfl dX10_shown_68 (⟨⟨_, rfl⟩, ⟨tg, fun _ _ => rfl, wd_kp.rf, hIX0⟩⟩)
    by_cases c_10 : x2 = 1
    · refine lv_tableIn (off := 56) (tgt := 69) hx hb dX10_shown_13 (by rw [c_10]; decide) (by rw [c_10]; decide) (by rw [c_10]; decide) (by decide) ?_
      refine lv_aload_n hx hb dX10_shown_69 rfl (lv_at hl 0 rfl) ?_
      refine x_get (ref := "NoteHouse$Shown") F hP k7 rfl (fun _ h => List.mem_cons_of_mem _ (List.mem_append_left _ (List.mem_append_right _ (h)))) 1 (Nat.le_of_ble_eq_true rfl) (List.mem_cons_of_mem _ (List.mem_append_left _ (List.mem_append_left _ (List.mem_of_getElem? (i := 1) rfl)))) rfl rfl dX10_shown_70 ?_
      exact y_ir K hP hD hS (Nat.le_of_ble_eq_true rfl) (Nat.le_of_ble_eq_true rfl) (ty := .int) rfl rfl dX10_shown_73 (⟨⟨_, rfl⟩, ⟨tg, fun _ _ => rfl, wd_kp.rf, hIX0⟩⟩)
    by_cases c_11 : x2 = 2
    · refine lv_tableIn (off := 61) (tgt := 74) hx hb dX10_shown_13 (by rw [c_11]; decide) (by rw [c_11]; decide) (by rw [c_11]; decide) (by decide) ?_
      refine lv_aload_n hx hb dX10_shown_74 rfl (lv_at hl 0 rfl) ?_
      refine x_get (ref := "NoteHouse$Shown") F hP k7 rfl (fun _ h => List.mem_cons_of_mem _ (List.mem_append_left _ (List.mem_append_right _ (h)))) 2 (Nat.le_of_ble_eq_true rfl) (List.mem_cons_of_mem _ (List.mem_append_left _ (List.mem_append_left _ (List.mem_of_getElem? (i := 2) rfl)))) rfl rfl dX10_shown_75 ?_
      exact y_ir K hP hD hS (Nat.le_of_ble_eq_true rfl) (Nat.le_of_ble_eq_true rfl) (ty := .int) rfl rfl dX10_shown_78 (⟨⟨_, rfl⟩, ⟨tg, fun _ _ => rfl, wd_kp.rf, hIX0⟩⟩)
    by_cases c_12 : x2 = 3
    · refine lv_tableIn (off := 66) (tgt := 79) hx hb dX10_shown_13 (by rw [c_12]; decide) (by rw [c_12]; decide) (by rw [c_12]; decide) (by decide) ?_
      refine lv_aload_n hx hb dX10_shown_79 rfl (lv_at hl 0 rfl) ?_
      refine x_get (ref := "NoteHouse$Shown") F hP k7 rfl (fun _ h => List.mem_cons_of_mem _ (List.mem_append_left _ (List.mem_append_right _ (h)))) 3 (Nat.le_of_ble_eq_true rfl) (List.mem_cons_of_mem _ (List.mem_append_left _ (List.mem_append_left _ (List.mem_of_getElem? (i := 3) rfl)))) rfl rfl dX10_shown_80 ?_
      exact y_ir K hP hD hS (Nat.le_of_ble_eq_true rfl) (Nat.le_of_ble_eq_true rfl) (ty := .int) rfl rfl dX10_shown_83 (⟨⟨_, rfl⟩, ⟨tg, fun _ _ => rfl, wd_kp.rf, hIX0⟩⟩)
    by_cases c_13 : x2 = 4
    · refine lv_tableIn (off := 71) (tgt := 84) hx hb dX10_shown_13 (by rw [c_13]; decide) (by rw [c_13]; decide) (by rw [c_13]; decide) (by decide) ?_
      refine lv_aload_n hx hb dX10_shown_84 rfl (lv_at hl 0 rfl) ?_
      refine x_get (ref := "NoteHouse$Shown") F hP k7 rfl (fun _ h => List.mem_cons_of_mem _ (List.mem_append_left _ (List.mem_append_right _ (h)))) 7 (Nat.le_of_ble_eq_true rfl) (List.mem_cons_of_mem _ (List.mem_append_left _ (List.mem_append_left _ (List.mem_of_getElem? (i := 4) rfl)))) rfl rfl dX10_shown_85 ?_
      exact y_ir K hP hD hS (Nat.le_of_ble_eq_true rfl) (Nat.le_of_ble_eq_true rfl) (ty := .int) rfl rfl dX10_shown_88 (⟨⟨_, rfl⟩, ⟨tg, fun _ _ => rfl, wd_kp.rf, hIX0⟩⟩)
    by_cases c_14 : x2 = 5
    · refine lv_tableIn (off := 76) (tgt := 89) hx hb dX10_shown_13 (by rw [c_14]; decide) (by rw [c_14]; decide) (by rw [c_14]; decide) (by decide) ?_
      refine lv_aload_n hx hb dX10_shown_89 rfl (lv_at hl 0 rfl) ?_
      refine x_get (ref := "NoteHouse$Shown") F hP k7 rfl (fun _ h => List.mem_cons_of_mem _ (List.mem_append_left _ (List.mem_append_right _ (h)))) 6 (Nat.le_of_ble_eq_true rfl) (List.mem_cons_of_mem _ (List.mem_append_left _ (List.mem_append_left _ (List.mem_of_getElem? (i := 5) rfl)))) rfl rfl dX10_shown_90 ?_
      exact y_ir K hP hD hS (Nat.le_of_ble_eq_true rfl) (Nat.le_of_ble_eq_true rfl) (ty := .int) rfl rfl dX10_shown_93 (⟨⟨_, rfl⟩, ⟨tg, fun _ _ => rfl, wd_kp.rf, hIX0⟩⟩)
    by_cases c_15 : x2 = 6
    · refine lv_tableIn (off := 81) (tgt := 94) hx hb dX10_shown_13 (by rw [c_15]; decide) (by rw [c_15]; decide) (by rw [c_15]; decide) (by decide) ?_
      refine lv_aload_n hx hb dX10_shown_94 rfl (lv_at hl 0 rfl) ?_
      refine x_get (ref := "NoteHouse$Shown") F hP k7 rfl (fun _ h => List.mem_cons_of_mem _ (List.mem_append_left _ (List.mem_append_right _ (h)))) 8 (Nat.le_of_ble_eq_true rfl) (List.mem_cons_of_mem _ (List.mem_append_left _ (List.mem_append_left _ (List.mem_of_getElem? (i := 6) rfl)))) rfl rfl dX10_shown_95 ?_
      exact y_ir K hP hD hS (Nat.le_of_ble_eq_true rfl) (Nat.le_of_ble_eq_true rfl) (ty := .int) rfl rfl dX10_shown_98 (⟨⟨_, rfl⟩, ⟨tg, fun _ _ => rfl, wd_kp.rf, hIX0⟩⟩)
    by_cases c_16 : x2 = 7
    · refine lv_tableIn (off := 86) (tgt := 99) hx hb dX10_shown_13 (by rw [c_16]; decide) (by rw [c_16]; decide) (by rw [c_16]; decide) (by decide) ?_
      refine lv_aload_n hx hb dX10_shown_99 rfl (lv_at hl 0 rfl) ?_
      refine x_get (ref := "NoteHouse$Shown") F hP k7 rfl (fun _ h => List.mem_cons_of_mem _ (List.mem_append_left _ (List.mem_append_right _ (h)))) 5 (Nat.le_of_ble_eq_true rfl) (List.mem_cons_of_mem _ (List.mem_append_left _ (List.mem_append_left _ (List.mem_of_getElem? (i := 7) rfl)))) rfl rfl dX10_shown_100 ?_
      exact y_ir K hP hD hS (Nat.le_of_ble_eq_true rfl) (Nat.le_of_ble_eq_true rfl) (ty := .int) rfl rfl dX10_shown_103 (⟨⟨_, rfl⟩, ⟨tg, fun _ _ => rfl, wd_kp.rf, hIX0⟩⟩)
    by_cases c_17 : x2 = 8
    · refine lv_tableIn (off := 91) (tgt := 104) hx hb dX10_shown_13 (by rw [c_17]; decide) (by rw [c_17]; decide) (by rw [c_17]; decide) (by decide) ?_
      refine lv_aload_n hx hb dX10_shown_104 rfl (lv_at hl 0 rfl) ?_
      refine x_get (ref := "NoteHouse$Shown") F hP k7 rfl (fun _ h => List.mem_cons_of_mem _ (List.mem_append_left _ (List.mem_append_right _ (h)))) 9 (Nat.le_of_ble_eq_true rfl) (List.mem_cons_of_mem _ (List.mem_append_left _ (List.mem_append_left _ (List.mem_of_getElem? (i := 8) rfl)))) rfl rfl dX10_shown_105 ?_
      exact y_ir K hP hD hS (Nat.le_of_ble_eq_true rfl) (Nat.le_of_ble_eq_true rfl) (ty := .int) rfl rfl dX10_shown_108 (⟨⟨_, rfl⟩, ⟨tg, fun _ _ => rfl, wd_kp.rf, hIX0⟩⟩)
    refine lv_tableOut (tgt := 109) hx hb dX10_shown_13 (by have z0 := lv_neT c_9 (show (0 : Int32).toInt = 0 by decide); have z1 := lv_neT c_10 (show (1 : Int32).toInt = 1 by decide); have z2 := lv_neT c_11 (show (2 : Int32).toInt = 2 by decide); have z3 := lv_neT c_12 (show (3 : Int32).toInt = 3 by decide); have z4 := lv_neT c_13 (show (4 : Int32).toInt = 4 by decide); have z5 := lv_neT c_14 (show (5 : Int32).toInt = 5 by decide); have z6 := lv_neT c_15 (show (6 : Int32).toInt = 6 by decide); have z7 := lv_neT c_16 (show (7 : Int32).toInt = 7 by decide); have z8 := lv_neT c_17 (show (8 : Int32).toInt = 8 by decide); omega) (by decide) ?_
    refine lv_iconst (v := (-1)) hx hb dX10_shown_109 (by decide) ?_
    exact y_ir K hP hD hS (Nat.le_of_ble_eq_true rfl) (Nat.le_of_ble_eq_true rfl) (ty := .int) rfl rfl dX10_shown_110 (⟨⟨_, rfl⟩, ⟨tg, fun _ _ => rfl, wd_kp.rf, hIX0⟩⟩)
set_option maxHeartbeats 4000000 in
set_option maxRecDepth 100000 in
theorem X_paper (l : Launch) (D : va_G) (cy : Nat → ClassId) (sk sv : Nat → Nat) (w : Wd) (tg : Nat → Nat) (x : Nat) (td : Int32) (pc ac sc ln : Nat) (se plv : Nat → Int32) (x1 x2 : Int32) (hIX0 : IX cy tg x td pc ac sc ln se plv w) : Ct l D cy sk sv yX10_paper wsX10_paper ({ frames := 1, cells := 0, slots := 0, locals := 21 }) [.ref x, .int x1, .int x2] w (fun v w1 => (∃ r : Int32, v = some (.int r)) ∧ XP cy tg x td pc ac sc ln se plv w w1) := by
  refine Ct.by (cc := cX10_paper) (maxL := 4) (ret := (some .int)) (by decide +kernel) rfl (Nat.le_of_ble_eq_true rfl) ?_
  intro p e s m args below meth c A Q F hnm K ls hl
  have F : wd_Fx p s m args meth c cX10_paper 4 wsX10_paper RX10 D cy sk sv A := F
  have hl : lv_has ls 4 [(0, .ref x), (1, .int x1), (2, .int x2)] := hl
  have hx := F.1.1
  have hb := F.1.2.1
  have hown := F.1.2.2.2.1
  have hts := F.1.2.2.2.2
  intro H locs hP hD hS
  have kp0 : wd_kp (fun b => tg b < 10000) w w := wd_kp.rf
  refine hIX0 _ ?_
  intro a0 a1 a2 a3 a4 a5 a6 a7 a8 a10 a11 b0 b1 b2 b3 tb l0 l1 l2 l3 l4 l5 l6 l7 bl bm sh gc sg lu lv9 f0 f1 f2 f3 tbf e0 e1 e4 e5 e7 ff bf bf2 e2 e3 e6 ta sz fo to fo2 to2 tf tn ag co ra aa ru ga0 ga1 ga2 ga3 ga4 df cf nf sf uf pf pa pwo phd pgd pdy pno ptp af ad av0 av1 av2 av3 zf so sr sp0 sp1 sd hf sw hto hpp hle ham hhh hdd hru hde hcp hld hp90 hp91 hp92 hp93 hp94 hp95 hp96 hp97 hag kI0 tI0 kI1 tI1 kI2 tI2 kI3 tI3 kI4 tI4 kI5 tI5 kI6 tI6 kI7 tI7 kI8 tI8 kI9 tI9 kI10 tI10 kI11 tI11 kI12 tI12 kI13 tI13 kI14 tI14 kI15 tI15 kI16 tI16 kI17 tI17 kI18 tI18 kI19 tI19 kI20 tI20 kI21 tI21 kI22 tI22 kI23 tI23 kI24 tI24 kI25 tI25 kI26 tI26 hT9 hG9 hP9 hA9 hS9 hH9
  refine lv_aload_n hx hb dX10_paper_0 rfl (lv_at hl 0 rfl) ?_
  refine lv_iload_n hx hb dX10_paper_1 rfl (lv_at hl 1 rfl) ?_
  refine x_callV (n := 1) (As := [.int x1]) (rest := []) F hP hD hS (g_paperAt l D cy sk sv w x a0 a1 a2 a3 a4 a5 a6 a7 a8 (aa sg) a10 a11 pc ac sc sh td x1 tg pf pa plv pwo phd pgd pdy pno ptp kI0 kI7 hP9 (by omega)) gX10_paper_X10_paperAt rfl rfl (by decide +kernel) ⟨(Nat.le_of_ble_eq_true rfl), (Nat.le_of_ble_eq_true rfl)⟩ rfl hl.1 (Nat.le_of_ble_eq_true rfl) kI0 rfl dX10_paper_2 rfl ⟨(Nat.le_of_ble_eq_true rfl), (Nat.le_of_ble_eq_true rfl)⟩ (fun v2 w3 hp1 H locs hP hD hS => ?_)
  obtain ⟨hp1, rfl⟩ := hp1
  rcases hp1 with ⟨rfl, hn5⟩ | ⟨j4, hn5, ej4, rfl⟩
  · have pb6 := pb_n (by omega) hn5
    refine W.eq (g2 := F0 m 5 ls [.null]) rfl (W.widen (k := 0) (n := 0) (Nat.le_of_ble_eq_true rfl) (Nat.le_of_ble_eq_true rfl) ?_)
    refine lv_astore_nN (lv' := [(3, .null), (0, .ref x), (1, .int x1), (2, .int x2)]) hx hb dX10_paper_5 rfl hl (by decide) rfl (fun ls hl => ?_)
    refine lv_aload_nN hx hb dX10_paper_6 rfl (lv_at hl 0 rfl) ?_
    refine lv_ifnonnullN hx hb dX10_paper_7 ?_
    refine lv_iconst (v := (-1)) hx hb dX10_paper_10 (by decide) ?_
    exact y_ir K hP hD hS (Nat.le_of_ble_eq_true rfl) (Nat.le_of_ble_eq_true rfl) (ty := .int) rfl rfl dX10_paper_11 (⟨⟨_, rfl⟩, ⟨tg, fun _ _ => rfl, wd_kp.rf, hIX0⟩⟩)
  · refine W.eq (g2 := F0 m 5 ls [.ref (pa j4)]) rfl (W.widen (k := 0) (n := 0) (Nat.le_of_ble_eq_true rfl) (Nat.le_of_ble_eq_true rfl) ?_)
    have pr7 := (hP9 j4 hn5).1
    have pb8 := pb_r (by omega) hn5 ej4
    have k9 := (hP9 j4 hn5).2.1
    have tz10 := (hP9 j4 hn5).2.2
    refine lv_astore_n (lv' := [(3, .ref (pa j4)), (0, .ref x), (1, .int x1), (2, .int x2)]) hx hb dX10_paper_5 rfl hl (by decide) rfl (fun ls hl => ?_)
    refine lv_aload_n hx hb dX10_paper_6 rfl (lv_at hl 0 rfl) ?_
    refine lv_ifnonnull (tgt := 12) hx hb dX10_paper_7 (by decide) ?_
    refine lv_iload_n hx hb dX10_paper_12 rfl (lv_at hl 3 rfl) ?_
    by_cases c_11 : x2 = 0
    · refine lv_tableIn (off := 35) (tgt := 48) hx hb dX10_paper_13 (by rw [c_11]; decide) (by rw [c_11]; decide) (by rw [c_11]; decide) (by decide) ?_
      refine lv_aload_n hx hb dX10_paper_48 rfl (lv_at hl 0 rfl) ?_
      refine x_get (ref := "NoteHouse$Paper") F hP k9 rfl (fun _ h => List.mem_cons_of_mem _ (List.mem_append_left _ (List.mem_append_right _ (h)))) 0 (Nat.le_of_ble_eq_true rfl) (List.mem_cons_of_mem _ (List.mem_append_left _ (List.mem_append_left _ (List.mem_of_getElem? (i := 0) rfl)))) rfl rfl dX10_paper_49 ?_
      exact y_ir K hP hD hS (Nat.le_of_ble_eq_true rfl) (Nat.le_of_ble_eq_true rfl) (ty := .int) rfl rfl dX10_paper_52 (⟨⟨_, rfl⟩, ⟨tg, fun _ _ => rfl, wd_kp.rf, hIX0⟩⟩)
    by_cases c_12 : x2 = 1
    · refine lv_tableIn (off := 40) (tgt := 53) hx hb dX10_paper_13 (by rw [c_12]; decide) (by rw [c_12]; decide) (by rw [c_12]; decide) (by decide) ?_
      refine lv_aload_n hx hb dX10_paper_53 rfl (lv_at hl 0 rfl) ?_
      refine x_get (ref := "NoteHouse$Paper") F hP k9 rfl (fun _ h => List.mem_cons_of_mem _ (List.mem_append_left _ (List.mem_append_right _ (h)))) 1 (Nat.le_of_ble_eq_true rfl) (List.mem_cons_of_mem _ (List.mem_append_left _ (List.mem_append_left _ (List.mem_of_getElem? (i := 1) rfl)))) rfl rfl dX10_paper_54 ?_
      exact y_ir K hP hD hS (Nat.le_of_ble_eq_true rfl) (Nat.le_of_ble_eq_true rfl) (ty := .int) rfl rfl dX10_paper_57 (⟨⟨_, rfl⟩, ⟨tg, fun _ _ => rfl, wd_kp.rf, hIX0⟩⟩)
    by_cases c_13 : x2 = 2
    · refine lv_tableIn (off := 45) (tgt := 58) hx hb dX10_paper_13 (by rw [c_13]; decide) (by rw [c_13]; decide) (by rw [c_13]; decide) (by decide) ?_
      refine lv_aload_n hx hb dX10_paper_58 rfl (lv_at hl 0 rfl) ?_
      refine x_get (ref := "NoteHouse$Paper") F hP k9 rfl (fun _ h => List.mem_cons_of_mem _ (List.mem_append_left _ (List.mem_append_right _ (h)))) 4 (Nat.le_of_ble_eq_true rfl) (List.mem_cons_of_mem _ (List.mem_append_left _ (List.mem_append_left _ (List.mem_of_getElem? (i := 2) rfl)))) rfl rfl dX10_paper_59 ?_
      exact y_ir K hP hD hS (Nat.le_of_ble_eq_true rfl) (Nat.le_of_ble_eq_true rfl) (ty := .int) rfl rfl dX10_paper_62 (⟨⟨_, rfl⟩, ⟨tg, fun _ _ => rfl, wd_kp.rf, hIX0⟩⟩)
    by_cases c_14 : x2 = 3
    · refine lv_tableIn (off := 50) (tgt := 63) hx hb dX10_paper_13 (by rw [c_14]; decide) (by rw [c_14]; decide) (by rw [c_14]; decide) (by decide) ?_
      refine lv_aload_n hx hb dX10_paper_63 rfl (lv_at hl 0 rfl) ?_
      refine x_get (ref := "NoteHouse$Paper") F hP k9 rfl (fun _ h => List.mem_cons_of_mem _ (List.mem_append_left _ (List.mem_append_right _ (h)))) 5 (Nat.le_of_ble_eq_true rfl) (List.mem_cons_of_mem _ (List.mem_append_left _ (List.mem_append_left _ (List.mem_of_getElem? (i := 3) rfl)))) rfl rfl dX10_paper_64 ?_
      exact y_ir K hP hD hS (Nat.le_of_ble_eq_true rfl) (Nat.le_of_ble_eq_true rfl) (ty := .int) rfl rfl dX10_paper_67 (⟨⟨_, rfl⟩, ⟨tg, fun _ _ => rfl, wd_kp.rf, hIX0⟩⟩)
    by_cases c_15 : x2 = 4
    · refine lv_tableIn (off := 55) (tgt := 68) hx hb dX10_paper_13 (by rw [c_15]; decide) (by rw [c_15]; decide) (by rw [c_15]; decide) (by decide) ?_
      refine lv_aload_n hx hb dX10_paper_68 rfl (lv_at hl 0 rfl) ?_
      refine x_get (ref := "NoteHouse$Paper") F hP k9 rfl (fun _ h => List.mem_cons_of_mem _ (List.mem_append_left _ (List.mem_append_right _ (h)))) 6 (Nat.le_of_ble_eq_true rfl) (List.mem_cons_of_mem _ (List.mem_append_left _ (List.mem_append_left _ (List.mem_of_getElem? (i := 4) rfl)))) rfl rfl dX10_paper_69 ?_
      exact y_ir K hP hD hS (Nat.le_of_ble_eq_true rfl) (Nat.le_of_ble_eq_true rfl) (ty := .int) rfl rfl dX10_paper_72 (⟨⟨_, rfl⟩, ⟨tg, fun _ _ => rfl, wd_kp.rf, hIX0⟩⟩)
    refine lv_tableOut (tgt := 73) hx hb dX10_paper_13 (by have z0 := lv_neT c_11 (show (0 : Int32).toInt = 0 by decide); have z1 := lv_neT c_12 (show (1 : Int32).toInt = 1 by decide); have z2 := lv_neT c_13 (show (2 : Int32).toInt = 2 by decide); have z3 := lv_neT c_14 (show (3 : Int32).toInt = 3 by decide); have z4 := lv_neT c_15 (show (4 : Int32).toInt = 4 by decide); omega) (by decide) ?_
    refine lv_iconst (v := (-1)) hx hb dX10_paper_73 (by decide) ?_
    exact y_ir K hP hD hS (Nat.le_of_ble_eq_true rfl) (Nat.le_of_ble_eq_true rfl) (ty := .int) rfl rfl dX10_paper_74 (⟨⟨_, rfl⟩, ⟨tg, fun _ _ => rfl, wd_kp.rf, hIX0⟩⟩)
set_option maxHeartbeats 4000000 in
set_option maxRecDepth 100000 in
theorem X_comes (l : Launch) (D : va_G) (cy : Nat → ClassId) (sk sv : Nat → Nat) (w : Wd) (tg : Nat → Nat) (x : Nat) (td : Int32) (pc ac sc ln : Nat) (se plv : Nat → Int32) (x1 x2 x3 : Int32) (hIX0 : IX cy tg x td pc ac sc ln se plv w) : Ct l D cy sk sv yX10_comes wsX10_comes ({ frames := 2, cells := 0, slots := 0, locals := 42 }) [.ref x, .int x1, .int x2, .int x3] w (fun v w1 => (∃ r : Int32, v = some (.int r)) ∧ XP cy tg x td pc ac sc ln se plv w w1) := by
  refine Ct.by (cc := cX10_comes) (maxL := 5) (ret := (some .int)) (by decide +kernel) rfl (Nat.le_of_ble_eq_true rfl) ?_
  intro p e s m args below meth c A Q F hnm K ls hl
  have F : wd_Fx p s m args meth c cX10_comes 5 wsX10_comes RX10 D cy sk sv A := F
  have hl : lv_has ls 5 [(0, .ref x), (1, .int x1), (2, .int x2), (3, .int x3)] := hl
  have hx := F.1.1
  have hb := F.1.2.1
  have hown := F.1.2.2.2.1
  have hts := F.1.2.2.2.2
  intro H locs hP hD hS
  have kp0 : wd_kp (fun b => tg b < 10000) w w := wd_kp.rf
  refine hIX0 _ ?_
  intro a0 a1 a2 a3 a4 a5 a6 a7 a8 a10 a11 b0 b1 b2 b3 tb l0 l1 l2 l3 l4 l5 l6 l7 bl bm sh gc sg lu lv9 f0 f1 f2 f3 tbf e0 e1 e4 e5 e7 ff bf bf2 e2 e3 e6 ta sz fo to fo2 to2 tf tn ag co ra aa ru ga0 ga1 ga2 ga3 ga4 df cf nf sf uf pf pa pwo phd pgd pdy pno ptp af ad av0 av1 av2 av3 zf so sr sp0 sp1 sd hf sw hto hpp hle ham hhh hdd hru hde hcp hld hp90 hp91 hp92 hp93 hp94 hp95 hp96 hp97 hag kI0 tI0 kI1 tI1 kI2 tI2 kI3 tI3 kI4 tI4 kI5 tI5 kI6 tI6 kI7 tI7 kI8 tI8 kI9 tI9 kI10 tI10 kI11 tI11 kI12 tI12 kI13 tI13 kI14 tI14 kI15 tI15 kI16 tI16 kI17 tI17 kI18 tI18 kI19 tI19 kI20 tI20 kI21 tI21 kI22 tI22 kI23 tI23 kI24 tI24 kI25 tI25 kI26 tI26 hT9 hG9 hP9 hA9 hS9 hH9
  refine lv_iload_n hx hb dX10_comes_0 rfl (lv_at hl 3 rfl) ?_
  refine x_callS (n := 1) (As := [.int x3]) (rest := []) F hP hD hS (g_isTown l D cy sk sv w x3) gX10_comes_X10_isTown rfl (by decide +kernel) ⟨(Nat.le_of_ble_eq_true rfl), (Nat.le_of_ble_eq_true rfl)⟩ rfl hl.1 (Nat.le_of_ble_eq_true rfl) dX10_comes_1 rfl ⟨(Nat.le_of_ble_eq_true rfl), (Nat.le_of_ble_eq_true rfl)⟩ (fun v2 w3 hp1 H locs hP hD hS => ?_)
  obtain ⟨rfl, rfl⟩ := hp1
  refine W.eq (g2 := F0 m 4 ls [.int (wi x3 0 11)]) rfl (W.widen (k := 0) (n := 0) (Nat.le_of_ble_eq_true rfl) (Nat.le_of_ble_eq_true rfl) ?_)
  refine lv_if_ne (tgt := 9) hx hb dX10_comes_4 (by decide) (fun c_4 => ?_) (fun c_4 => ?_)
  · obtain ⟨t, ht, rfl, clt⟩ := wi_t c_4
    refine lv_iload_n hx hb dX10_comes_9 rfl (lv_at hl 1 rfl) ?_
    refine lv_if_ne (tgt := 44) hx hb dX10_comes_10 (by decide) (fun c_5 => ?_) (fun c_5 => ?_)
    · refine lv_iload_n hx hb dX10_comes_44 rfl (lv_at hl 1 rfl) ?_
      refine lv_iconst (v := 1) hx hb dX10_comes_45 (by decide) ?_
      refine lv_icmp_ne (tgt := 73) hx hb dX10_comes_46 (by decide) (fun c_6 => ?_) (fun c_6 => ?_)
      · refine lv_iconst (v := (-1)) hx hb dX10_comes_73 (by decide) ?_
        exact y_ir K hP hD hS (Nat.le_of_ble_eq_true rfl) (Nat.le_of_ble_eq_true rfl) (ty := .int) rfl rfl dX10_comes_74 (⟨⟨_, rfl⟩, ⟨tg, fun _ _ => rfl, wd_kp.rf, hIX0⟩⟩)
      · refine lv_aload_n hx hb dX10_comes_49 rfl (lv_at hl 0 rfl) ?_
        refine lv_iload_n hx hb dX10_comes_50 rfl (lv_at hl 2 rfl) ?_
        refine x_callV (n := 1) (As := [.int x2]) (rest := []) F hP hD hS (g_stopAt l D cy sk sv w x a0 a1 a2 a3 a4 a5 a6 a7 a8 (aa sg) a10 a11 pc ac sc sh td x2 tg zf so sr sp0 sp1 sd kI0 kI9 hS9 (by omega)) gX10_comes_X10_stopAt rfl rfl (by decide +kernel) ⟨(Nat.le_of_ble_eq_true rfl), (Nat.le_of_ble_eq_true rfl)⟩ rfl hl.1 (Nat.le_of_ble_eq_true rfl) kI0 rfl dX10_comes_51 rfl ⟨(Nat.le_of_ble_eq_true rfl), (Nat.le_of_ble_eq_true rfl)⟩ (fun v8 w9 hp7 H locs hP hD hS => ?_)
        obtain ⟨hp7, rfl⟩ := hp7
        rcases hp7 with ⟨rfl, hn11⟩ | ⟨j10, hn11, ej10, rfl⟩
        · refine W.eq (g2 := F0 m 54 ls [.null]) rfl (W.widen (k := 0) (n := 0) (Nat.le_of_ble_eq_true rfl) (Nat.le_of_ble_eq_true rfl) ?_)
          refine lv_astoreN (lv' := [(4, .null), (0, .ref x), (1, .int x1), (2, .int x2), (3, .int (nI t))]) hx hb dX10_comes_54 hl (by decide) rfl (fun ls hl => ?_)
          refine lv_aloadN hx hb dX10_comes_56 (lv_at hl 0 rfl) ?_
          refine lv_ifnonnullN hx hb dX10_comes_58 ?_
          refine lv_iconst (v := (-1)) hx hb dX10_comes_61 (by decide) ?_
          refine lv_goto (tgt := 72) hx hb dX10_comes_62 (by decide) ?_
          exact y_ir K hP hD hS (Nat.le_of_ble_eq_true rfl) (Nat.le_of_ble_eq_true rfl) (ty := .int) rfl rfl dX10_comes_72 (⟨⟨_, rfl⟩, ⟨tg, fun _ _ => rfl, wd_kp.rf, hIX0⟩⟩)
        · refine W.eq (g2 := F0 m 54 ls [.ref (so j10)]) rfl (W.widen (k := 0) (n := 0) (Nat.le_of_ble_eq_true rfl) (Nat.le_of_ble_eq_true rfl) ?_)
          have pr12 := (hS9 j10 hn11).1
          have k13 := (hS9 j10 hn11).2.1
          have tz14 := (hS9 j10 hn11).2.2.1
          have k15 := (hS9 j10 hn11).2.2.2.1
          have tz16 := (hS9 j10 hn11).2.2.2.2
          refine lv_astore (lv' := [(4, .ref (so j10)), (0, .ref x), (1, .int x1), (2, .int x2), (3, .int (nI t))]) hx hb dX10_comes_54 hl (by decide) rfl (fun ls hl => ?_)
          refine lv_aload hx hb dX10_comes_56 (lv_at hl 0 rfl) ?_
          refine lv_ifnonnull (tgt := 65) hx hb dX10_comes_58 (by decide) ?_
          refine lv_aload hx hb dX10_comes_65 (lv_at hl 0 rfl) ?_
          refine x_get (ref := "NoteHouse$Stop") F hP k13 rfl (fun _ h => List.mem_cons_of_mem _ (List.mem_append_left _ (List.mem_append_right _ (h)))) 2 (Nat.le_of_ble_eq_true rfl) (List.mem_cons_of_mem _ (List.mem_append_left _ (List.mem_append_left _ (List.mem_append_left _ (List.mem_of_getElem? (i := 2) rfl))))) rfl rfl dX10_comes_67 ?_
          refine lv_iload_n hx hb dX10_comes_70 rfl (lv_at hl 4 rfl) ?_
          refine x_iald F hP k15 (vp_in_nI (n := t) (N := 12) (by omega) (by decide)) dX10_comes_71 ?_
          exact y_ir K hP hD hS (Nat.le_of_ble_eq_true rfl) (Nat.le_of_ble_eq_true rfl) (ty := .int) rfl rfl dX10_comes_72 (⟨⟨_, rfl⟩, ⟨tg, fun _ _ => rfl, wd_kp.rf, hIX0⟩⟩)
    · refine lv_aload_n hx hb dX10_comes_13 rfl (lv_at hl 0 rfl) ?_
      refine lv_iload_n hx hb dX10_comes_14 rfl (lv_at hl 2 rfl) ?_
      refine x_callV (n := 1) (As := [.int x2]) (rest := []) F hP hD hS (g_adviceAt l D cy sk sv w x a0 a1 a2 a3 a4 a5 a6 a7 a8 (aa sg) a10 a11 pc ac sc sh td x2 tg af ad av0 av1 av2 av3 kI0 kI8 hA9 (by omega)) gX10_comes_X10_adviceAt rfl rfl (by decide +kernel) ⟨(Nat.le_of_ble_eq_true rfl), (Nat.le_of_ble_eq_true rfl)⟩ rfl hl.1 (Nat.le_of_ble_eq_true rfl) kI0 rfl dX10_comes_15 rfl ⟨(Nat.le_of_ble_eq_true rfl), (Nat.le_of_ble_eq_true rfl)⟩ (fun v18 w19 hp17 H locs hP hD hS => ?_)
      obtain ⟨hp17, rfl⟩ := hp17
      rcases hp17 with ⟨rfl, hn21⟩ | ⟨j20, hn21, ej20, rfl⟩
      · refine W.eq (g2 := F0 m 18 ls [.null]) rfl (W.widen (k := 0) (n := 0) (Nat.le_of_ble_eq_true rfl) (Nat.le_of_ble_eq_true rfl) ?_)
        refine lv_astoreN (lv' := [(4, .null), (0, .ref x), (1, .int x1), (2, .int x2), (3, .int (nI t))]) hx hb dX10_comes_18 hl (by decide) rfl (fun ls hl => ?_)
        refine lv_aloadN hx hb dX10_comes_20 (lv_at hl 0 rfl) ?_
        refine lv_ifnullN (tgt := 34) hx hb dX10_comes_22 (by decide) ?_
        refine lv_iconst (v := (-1)) hx hb dX10_comes_34 (by decide) ?_
        refine lv_goto (tgt := 43) hx hb dX10_comes_35 (by decide) ?_
        exact y_ir K hP hD hS (Nat.le_of_ble_eq_true rfl) (Nat.le_of_ble_eq_true rfl) (ty := .int) rfl rfl dX10_comes_43 (⟨⟨_, rfl⟩, ⟨tg, fun _ _ => rfl, wd_kp.rf, hIX0⟩⟩)
      · refine W.eq (g2 := F0 m 18 ls [.ref (ad j20)]) rfl (W.widen (k := 0) (n := 0) (Nat.le_of_ble_eq_true rfl) (Nat.le_of_ble_eq_true rfl) ?_)
        have pr22 := (hA9 j20 hn21).1
        have k23 := (hA9 j20 hn21).2.1
        have tz24 := (hA9 j20 hn21).2.2
        refine lv_astore (lv' := [(4, .ref (ad j20)), (0, .ref x), (1, .int x1), (2, .int x2), (3, .int (nI t))]) hx hb dX10_comes_18 hl (by decide) rfl (fun ls hl => ?_)
        refine lv_aload hx hb dX10_comes_20 (lv_at hl 0 rfl) ?_
        refine lv_ifnull hx hb dX10_comes_22 ?_
        refine lv_aload hx hb dX10_comes_25 (lv_at hl 0 rfl) ?_
        refine x_get (ref := "NoteHouse$Advice") F hP k23 rfl (fun _ h => List.mem_cons_of_mem _ (List.mem_append_left _ (List.mem_append_left _ (List.mem_append_right _ (h))))) 1 (Nat.le_of_ble_eq_true rfl) (List.mem_cons_of_mem _ (List.mem_append_left _ (List.mem_append_left _ (List.mem_append_left _ (List.mem_of_getElem? (i := 0) rfl))))) rfl rfl dX10_comes_27 ?_
        refine lv_iload_n hx hb dX10_comes_30 rfl (lv_at hl 4 rfl) ?_
        refine lv_icmp_eq (tgt := 38) hx hb dX10_comes_31 (by decide) (fun c_25 => ?_) (fun c_25 => ?_)
        · refine lv_aload hx hb dX10_comes_38 (lv_at hl 0 rfl) ?_
          refine x_get (ref := "NoteHouse$Advice") F hP k23 rfl (fun _ h => List.mem_cons_of_mem _ (List.mem_append_left _ (List.mem_append_left _ (List.mem_append_right _ (h))))) 2 (Nat.le_of_ble_eq_true rfl) (List.mem_cons_of_mem _ (List.mem_append_left _ (List.mem_append_left _ (List.mem_append_left _ (List.mem_of_getElem? (i := 1) rfl))))) rfl rfl dX10_comes_40 ?_
          exact y_ir K hP hD hS (Nat.le_of_ble_eq_true rfl) (Nat.le_of_ble_eq_true rfl) (ty := .int) rfl rfl dX10_comes_43 (⟨⟨_, rfl⟩, ⟨tg, fun _ _ => rfl, wd_kp.rf, hIX0⟩⟩)
        · refine lv_iconst (v := (-1)) hx hb dX10_comes_34 (by decide) ?_
          refine lv_goto (tgt := 43) hx hb dX10_comes_35 (by decide) ?_
          exact y_ir K hP hD hS (Nat.le_of_ble_eq_true rfl) (Nat.le_of_ble_eq_true rfl) (ty := .int) rfl rfl dX10_comes_43 (⟨⟨_, rfl⟩, ⟨tg, fun _ _ => rfl, wd_kp.rf, hIX0⟩⟩)
  · refine lv_iconst (v := (-1)) hx hb dX10_comes_7 (by decide) ?_
    exact y_ir K hP hD hS (Nat.le_of_ble_eq_true rfl) (Nat.le_of_ble_eq_true rfl) (ty := .int) rfl rfl dX10_comes_8 (⟨⟨_, rfl⟩, ⟨tg, fun _ _ => rfl, wd_kp.rf, hIX0⟩⟩)
set_option maxHeartbeats 4000000 in
set_option maxRecDepth 100000 in
theorem X_due (l : Launch) (D : va_G) (cy : Nat → ClassId) (sk sv : Nat → Nat) (w : Wd) (tg : Nat → Nat) (x : Nat) (td : Int32) (pc ac sc ln : Nat) (se plv : Nat → Int32) (x1 : Int32) (hIX0 : IX cy tg x td pc ac sc ln se plv w) : Ct l D cy sk sv yX10_due wsX10_due ({ frames := 2, cells := 0, slots := 0, locals := 42 }) [.ref x, .int x1] w (fun v w1 => (∃ r : Int64, v = some (.long r)) ∧ XP cy tg x td pc ac sc ln se plv w w1) := by
  refine Ct.by (cc := cX10_due) (maxL := 2) (ret := (some .long)) (by decide +kernel) rfl (Nat.le_of_ble_eq_true rfl) ?_
  intro p e s m args below meth c A Q F hnm K ls hl
  have F : wd_Fx p s m args meth c cX10_due 2 wsX10_due RX10 D cy sk sv A := F
  have hl : lv_has ls 2 [(0, .ref x), (1, .int x1)] := hl
  have hx := F.1.1
  have hb := F.1.2.1
  have hown := F.1.2.2.2.1
  have hts := F.1.2.2.2.2
  intro H locs hP hD hS
  have kp0 : wd_kp (fun b => tg b < 10000) w w := wd_kp.rf
  refine hIX0 _ ?_
  intro a0 a1 a2 a3 a4 a5 a6 a7 a8 a10 a11 b0 b1 b2 b3 tb l0 l1 l2 l3 l4 l5 l6 l7 bl bm sh gc sg lu lv9 f0 f1 f2 f3 tbf e0 e1 e4 e5 e7 ff bf bf2 e2 e3 e6 ta sz fo to fo2 to2 tf tn ag co ra aa ru ga0 ga1 ga2 ga3 ga4 df cf nf sf uf pf pa pwo phd pgd pdy pno ptp af ad av0 av1 av2 av3 zf so sr sp0 sp1 sd hf sw hto hpp hle ham hhh hdd hru hde hcp hld hp90 hp91 hp92 hp93 hp94 hp95 hp96 hp97 hag kI0 tI0 kI1 tI1 kI2 tI2 kI3 tI3 kI4 tI4 kI5 tI5 kI6 tI6 kI7 tI7 kI8 tI8 kI9 tI9 kI10 tI10 kI11 tI11 kI12 tI12 kI13 tI13 kI14 tI14 kI15 tI15 kI16 tI16 kI17 tI17 kI18 tI18 kI19 tI19 kI20 tI20 kI21 tI21 kI22 tI22 kI23 tI23 kI24 tI24 kI25 tI25 kI26 tI26 hT9 hG9 hP9 hA9 hS9 hH9
  refine lv_iload_n hx hb dX10_due_0 rfl (lv_at hl 1 rfl) ?_
  refine x_callS (n := 1) (As := [.int x1]) (rest := []) F hP hD hS (g_isTown l D cy sk sv w x1) gX10_due_X10_isTown rfl (by decide +kernel) ⟨(Nat.le_of_ble_eq_true rfl), (Nat.le_of_ble_eq_true rfl)⟩ rfl hl.1 (Nat.le_of_ble_eq_true rfl) dX10_due_1 rfl ⟨(Nat.le_of_ble_eq_true rfl), (Nat.le_of_ble_eq_true rfl)⟩ (fun v2 w3 hp1 H locs hP hD hS => ?_)
  obtain ⟨rfl, rfl⟩ := hp1
  refine W.eq (g2 := F0 m 4 ls [.int (wi x1 0 11)]) rfl (W.widen (k := 0) (n := 0) (Nat.le_of_ble_eq_true rfl) (Nat.le_of_ble_eq_true rfl) ?_)
  refine lv_if_eq (tgt := 19) hx hb dX10_due_4 (by decide) (fun c_4 => ?_) (fun c_4 => ?_)
  · refine lv_lconst (v := 0) hx hb dX10_due_19 (by decide) ?_
    exact y_lr K hP hD hS (Nat.le_of_ble_eq_true rfl) (Nat.le_of_ble_eq_true rfl) rfl dX10_due_20 (⟨⟨_, rfl⟩, ⟨tg, fun _ _ => rfl, wd_kp.rf, hIX0⟩⟩)
  · obtain ⟨t, ht, rfl, clt⟩ := wi_t c_4
    refine lv_aload_n hx hb dX10_due_7 rfl (lv_at hl 0 rfl) ?_
    refine x_get (ref := "NoteHouse") F hP kI0 rfl (fun _ h => List.mem_cons_of_mem _ (List.mem_append_left _ (List.mem_append_right _ (h)))) 7 (Nat.le_of_ble_eq_true rfl) (List.mem_cons_of_mem _ (List.mem_append_left _ (List.mem_append_left _ (List.mem_of_getElem? (i := 0) rfl)))) rfl rfl dX10_due_8 ?_
    refine x_get (ref := "NoteHouse$Settlement") F hP kI13 rfl (fun _ h => List.mem_cons_of_mem _ (List.mem_append_right _ (h))) 2 (Nat.le_of_ble_eq_true rfl) (List.mem_cons_of_mem _ (List.mem_append_left _ (List.mem_append_left _ (List.mem_of_getElem? (i := 1) rfl)))) rfl rfl dX10_due_11 ?_
    refine lv_iload_n hx hb dX10_due_14 rfl (lv_at hl 1 rfl) ?_
    refine x_lald F hP kI16 (vp_in_nI (n := t) (N := 12) (by omega) (by decide)) dX10_due_15 ?_
    refine lv_goto (tgt := 20) hx hb dX10_due_16 (by decide) ?_
    exact y_lr K hP hD hS (Nat.le_of_ble_eq_true rfl) (Nat.le_of_ble_eq_true rfl) rfl dX10_due_20 (⟨⟨_, rfl⟩, ⟨tg, fun _ _ => rfl, wd_kp.rf, hIX0⟩⟩)
set_option maxHeartbeats 4000000 in
set_option maxRecDepth 100000 in
theorem X_netted (l : Launch) (D : va_G) (cy : Nat → ClassId) (sk sv : Nat → Nat) (w : Wd) (tg : Nat → Nat) (x : Nat) (td : Int32) (pc ac sc ln : Nat) (se plv : Nat → Int32) (x1 x2 : Int32) (hIX0 : IX cy tg x td pc ac sc ln se plv w) : Ct l D cy sk sv yX10_netted wsX10_netted ({ frames := 0, cells := 0, slots := 0, locals := 0 }) [.ref x, .int x1, .int x2] w (fun v w1 => (∃ r : Int64, v = some (.long r)) ∧ XP cy tg x td pc ac sc ln se plv w w1) := by
  refine Ct.by (cc := cX10_netted) (maxL := 3) (ret := (some .long)) (by decide +kernel) rfl (Nat.le_of_ble_eq_true rfl) ?_
  intro p e s m args below meth c A Q F hnm K ls hl
  have F : wd_Fx p s m args meth c cX10_netted 3 wsX10_netted RX10 D cy sk sv A := F
  have hl : lv_has ls 3 [(0, .ref x), (1, .int x1), (2, .int x2)] := hl
  have hx := F.1.1
  have hb := F.1.2.1
  have hown := F.1.2.2.2.1
  have hts := F.1.2.2.2.2
  intro H locs hP hD hS
  have kp0 : wd_kp (fun b => tg b < 10000) w w := wd_kp.rf
  refine hIX0 _ ?_
  intro a0 a1 a2 a3 a4 a5 a6 a7 a8 a10 a11 b0 b1 b2 b3 tb l0 l1 l2 l3 l4 l5 l6 l7 bl bm sh gc sg lu lv9 f0 f1 f2 f3 tbf e0 e1 e4 e5 e7 ff bf bf2 e2 e3 e6 ta sz fo to fo2 to2 tf tn ag co ra aa ru ga0 ga1 ga2 ga3 ga4 df cf nf sf uf pf pa pwo phd pgd pdy pno ptp af ad av0 av1 av2 av3 zf so sr sp0 sp1 sd hf sw hto hpp hle ham hhh hdd hru hde hcp hld hp90 hp91 hp92 hp93 hp94 hp95 hp96 hp97 hag kI0 tI0 kI1 tI1 kI2 tI2 kI3 tI3 kI4 tI4 kI5 tI5 kI6 tI6 kI7 tI7 kI8 tI8 kI9 tI9 kI10 tI10 kI11 tI11 kI12 tI12 kI13 tI13 kI14 tI14 kI15 tI15 kI16 tI16 kI17 tI17 kI18 tI18 kI19 tI19 kI20 tI20 kI21 tI21 kI22 tI22 kI23 tI23 kI24 tI24 kI25 tI25 kI26 tI26 hT9 hG9 hP9 hA9 hS9 hH9
  refine lv_iload_n hx hb dX10_netted_0 rfl (lv_at hl 1 rfl) ?_
  refine lv_if_lt (tgt := 15) hx hb dX10_netted_1 (by decide) (fun cA => ?_) (fun cA => ?_)
  · refine lv_ldc2 (v := (-1)) hx hb hown (hts _ (List.mem_cons_of_mem _ (List.mem_append_left _ (List.mem_append_left _ (List.mem_of_getElem? (i := 2) rfl))))) dX10_netted_15 ?_
    exact y_lr K hP hD hS (Nat.le_of_ble_eq_true rfl) (Nat.le_of_ble_eq_true rfl) rfl dX10_netted_18 (⟨⟨_, rfl⟩, ⟨tg, fun _ _ => rfl, wd_kp.rf, hIX0⟩⟩)
  · refine lv_iload_n hx hb dX10_netted_4 rfl (lv_at hl 1 rfl) ?_
    refine lv_aload_n hx hb dX10_netted_5 rfl (lv_at hl 0 rfl) ?_
    refine x_get (ref := "NoteHouse") F hP kI0 rfl (fun _ h => List.mem_cons_of_mem _ (List.mem_append_left _ (List.mem_append_right _ (h)))) 7 (Nat.le_of_ble_eq_true rfl) (List.mem_cons_of_mem _ (List.mem_append_left _ (List.mem_append_left _ (List.mem_of_getElem? (i := 0) rfl)))) rfl rfl dX10_netted_6 ?_
    refine x_get (ref := "NoteHouse$Settlement") F hP kI13 rfl (fun _ h => List.mem_cons_of_mem _ (List.mem_append_right _ (h))) 8 (Nat.le_of_ble_eq_true rfl) (List.mem_cons_of_mem _ (List.mem_append_left _ (List.mem_append_left _ (List.mem_of_getElem? (i := 1) rfl)))) rfl rfl dX10_netted_9 ?_
    refine lv_icmp_lt (tgt := 19) hx hb dX10_netted_12 (by decide) (fun c_1 => ?_) (fun c_1 => ?_)
    · obtain ⟨j, hj, rfl⟩ := nI_of cA
      have hjl : j < gc := (nI_ltI (by omega) (by omega)).mp c_1
      refine lv_iload_n hx hb dX10_netted_19 rfl (lv_at hl 2 rfl) ?_
      by_cases c_2 : x2 = 0
      · refine lv_tableIn (off := 32) (tgt := 52) hx hb dX10_netted_20 (by rw [c_2]; decide) (by rw [c_2]; decide) (by rw [c_2]; decide) (by decide) ?_
        refine lv_aload_n hx hb dX10_netted_52 rfl (lv_at hl 0 rfl) ?_
        refine x_get (ref := "NoteHouse") F hP kI0 rfl (fun _ h => List.mem_cons_of_mem _ (List.mem_append_left _ (List.mem_append_right _ (h)))) 7 (Nat.le_of_ble_eq_true rfl) (List.mem_cons_of_mem _ (List.mem_append_left _ (List.mem_append_left _ (List.mem_of_getElem? (i := 0) rfl)))) rfl rfl dX10_netted_53 ?_
        refine x_get (ref := "NoteHouse$Settlement") F hP kI13 rfl (fun _ h => List.mem_cons_of_mem _ (List.mem_append_right _ (h))) 4 (Nat.le_of_ble_eq_true rfl) (List.mem_cons_of_mem _ (List.mem_append_left _ (List.mem_append_left _ (List.mem_of_getElem? (i := 3) rfl)))) rfl rfl dX10_netted_56 ?_
        refine lv_iload_n hx hb dX10_netted_59 rfl (lv_at hl 1 rfl) ?_
        refine x_iald F hP kI18 (vp_in_nI (n := j) (N := 12) (by omega) (by decide)) dX10_netted_60 ?_
        refine lv_i2l (v := (e4 (nI j).toNatClampNeg).toInt64) hx hb dX10_netted_61 (rfl) ?_
        exact y_lr K hP hD hS (Nat.le_of_ble_eq_true rfl) (Nat.le_of_ble_eq_true rfl) rfl dX10_netted_62 (⟨⟨_, rfl⟩, ⟨tg, fun _ _ => rfl, wd_kp.rf, hIX0⟩⟩)
      by_cases c_3 : x2 = 1
      · refine lv_tableIn (off := 43) (tgt := 63) hx hb dX10_netted_20 (by rw [c_3]; decide) (by rw [c_3]; decide) (by rw [c_3]; decide) (by decide) ?_
        refine lv_aload_n hx hb dX10_netted_63 rfl (lv_at hl 0 rfl) ?_
        refine x_get (ref := "NoteHouse") F hP kI0 rfl (fun _ h => List.mem_cons_of_mem _ (List.mem_append_left _ (List.mem_append_right _ (h)))) 7 (Nat.le_of_ble_eq_true rfl) (List.mem_cons_of_mem _ (List.mem_append_left _ (List.mem_append_left _ (List.mem_of_getElem? (i := 0) rfl)))) rfl rfl dX10_netted_64 ?_
        refine x_get (ref := "NoteHouse$Settlement") F hP kI13 rfl (fun _ h => List.mem_cons_of_mem _ (List.mem_append_right _ (h))) 5 (Nat.le_of_ble_eq_true rfl) (List.mem_cons_of_mem _ (List.mem_append_left _ (List.mem_append_left _ (List.mem_of_getElem? (i := 4) rfl)))) rfl rfl dX10_netted_67 ?_
        refine lv_iload_n hx hb dX10_netted_70 rfl (lv_at hl 1 rfl) ?_
        refine x_iald F hP kI19 (vp_in_nI (n := j) (N := 12) (by omega) (by decide)) dX10_netted_71 ?_
        refine lv_i2l (v := (e5 (nI j).toNatClampNeg).toInt64) hx hb dX10_netted_72 (rfl) ?_
        exact y_lr K hP hD hS (Nat.le_of_ble_eq_true rfl) (Nat.le_of_ble_eq_true rfl) rfl dX10_netted_73 (⟨⟨_, rfl⟩, ⟨tg, fun _ _ => rfl, wd_kp.rf, hIX0⟩⟩)
      by_cases c_4 : x2 = 2
      · refine lv_tableIn (off := 54) (tgt := 74) hx hb dX10_netted_20 (by rw [c_4]; decide) (by rw [c_4]; decide) (by rw [c_4]; decide) (by decide) ?_
        refine lv_aload_n hx hb dX10_netted_74 rfl (lv_at hl 0 rfl) ?_
        refine x_get (ref := "NoteHouse") F hP kI0 rfl (fun _ h => List.mem_cons_of_mem _ (List.mem_append_left _ (List.mem_append_right _ (h)))) 7 (Nat.le_of_ble_eq_true rfl) (List.mem_cons_of_mem _ (List.mem_append_left _ (List.mem_append_left _ (List.mem_of_getElem? (i := 0) rfl)))) rfl rfl dX10_netted_75 ?_
        refine x_get (ref := "NoteHouse$Settlement") F hP kI13 rfl (fun _ h => List.mem_cons_of_mem _ (List.mem_append_right _ (h))) 6 (Nat.le_of_ble_eq_true rfl) (List.mem_cons_of_mem _ (List.mem_append_left _ (List.mem_append_left _ (List.mem_of_getElem? (i := 5) rfl)))) rfl rfl dX10_netted_78 ?_
        refine lv_iload_n hx hb dX10_netted_81 rfl (lv_at hl 1 rfl) ?_
        refine x_lald F hP kI20 (vp_in_nI (n := j) (N := 12) (by omega) (by decide)) dX10_netted_82 ?_
        exact y_lr K hP hD hS (Nat.le_of_ble_eq_true rfl) (Nat.le_of_ble_eq_true rfl) rfl dX10_netted_83 (⟨⟨_, rfl⟩, ⟨tg, fun _ _ => rfl, wd_kp.rf, hIX0⟩⟩)
      by_cases c_5 : x2 = 3
      · refine lv_tableIn (off := 64) (tgt := 84) hx hb dX10_netted_20 (by rw [c_5]; decide) (by rw [c_5]; decide) (by rw [c_5]; decide) (by decide) ?_
        refine lv_aload_n hx hb dX10_netted_84 rfl (lv_at hl 0 rfl) ?_
        refine x_get (ref := "NoteHouse") F hP kI0 rfl (fun _ h => List.mem_cons_of_mem _ (List.mem_append_left _ (List.mem_append_right _ (h)))) 7 (Nat.le_of_ble_eq_true rfl) (List.mem_cons_of_mem _ (List.mem_append_left _ (List.mem_append_left _ (List.mem_of_getElem? (i := 0) rfl)))) rfl rfl dX10_netted_85 ?_
        refine x_get (ref := "NoteHouse$Settlement") F hP kI13 rfl (fun _ h => List.mem_cons_of_mem _ (List.mem_append_right _ (h))) 7 (Nat.le_of_ble_eq_true rfl) (List.mem_cons_of_mem _ (List.mem_append_left _ (List.mem_append_left _ (List.mem_of_getElem? (i := 6) rfl)))) rfl rfl dX10_netted_88 ?_
        refine lv_iload_n hx hb dX10_netted_91 rfl (lv_at hl 1 rfl) ?_
        refine x_iald F hP kI21 (vp_in_nI (n := j) (N := 12) (by omega) (by decide)) dX10_netted_92 ?_
        refine lv_i2l (v := (e7 (nI j).toNatClampNeg).toInt64) hx hb dX10_netted_93 (rfl) ?_
        exact y_lr K hP hD hS (Nat.le_of_ble_eq_true rfl) (Nat.le_of_ble_eq_true rfl) rfl dX10_netted_94 (⟨⟨_, rfl⟩, ⟨tg, fun _ _ => rfl, wd_kp.rf, hIX0⟩⟩)
      refine lv_tableOut (tgt := 95) hx hb dX10_netted_20 (by have z0 := lv_neT c_2 (show (0 : Int32).toInt = 0 by decide); have z1 := lv_neT c_3 (show (1 : Int32).toInt = 1 by decide); have z2 := lv_neT c_4 (show (2 : Int32).toInt = 2 by decide); have z3 := lv_neT c_5 (show (3 : Int32).toInt = 3 by decide); omega) (by decide) ?_
      refine lv_ldc2 (v := (-1)) hx hb hown (hts _ (List.mem_cons_of_mem _ (List.mem_append_left _ (List.mem_append_left _ (List.mem_of_getElem? (i := 2) rfl))))) dX10_netted_95 ?_
      exact y_lr K hP hD hS (Nat.le_of_ble_eq_true rfl) (Nat.le_of_ble_eq_true rfl) rfl dX10_netted_98 (⟨⟨_, rfl⟩, ⟨tg, fun _ _ => rfl, wd_kp.rf, hIX0⟩⟩)
    · refine lv_ldc2 (v := (-1)) hx hb hown (hts _ (List.mem_cons_of_mem _ (List.mem_append_left _ (List.mem_append_left _ (List.mem_of_getElem? (i := 2) rfl))))) dX10_netted_15 ?_
      exact y_lr K hP hD hS (Nat.le_of_ble_eq_true rfl) (Nat.le_of_ble_eq_true rfl) rfl dX10_netted_18 (⟨⟨_, rfl⟩, ⟨tg, fun _ _ => rfl, wd_kp.rf, hIX0⟩⟩)
set_option maxHeartbeats 4000000 in
set_option maxRecDepth 100000 in
theorem X_settled (l : Launch) (D : va_G) (cy : Nat → ClassId) (sk sv : Nat → Nat) (w : Wd) (tg : Nat → Nat) (x : Nat) (td : Int32) (pc ac sc ln : Nat) (se plv : Nat → Int32) (x1 x2 : Int32) (hIX0 : IX cy tg x td pc ac sc ln se plv w) : Ct l D cy sk sv yX10_settled wsX10_settled ({ frames := 1, cells := 0, slots := 0, locals := 21 }) [.ref x, .int x1, .int x2] w (fun v w1 => (∃ r : Int32, v = some (.int r)) ∧ XP cy tg x td pc ac sc ln se plv w w1) := by
  refine Ct.by (cc := cX10_settled) (maxL := 3) (ret := (some .int)) (by decide +kernel) rfl (Nat.le_of_ble_eq_true rfl) ?_
  intro p e s m args below meth c A Q F hnm K ls hl
  have F : wd_Fx p s m args meth c cX10_settled 3 wsX10_settled RX10 D cy sk sv A := F
  have hl : lv_has ls 3 [(0, .ref x), (1, .int x1), (2, .int x2)] := hl
  have hx := F.1.1
  have hb := F.1.2.1
  have hown := F.1.2.2.2.1
  have hts := F.1.2.2.2.2
  intro H locs hP hD hS
  have kp0 : wd_kp (fun b => tg b < 10000) w w := wd_kp.rf
  refine hIX0 _ ?_
  intro a0 a1 a2 a3 a4 a5 a6 a7 a8 a10 a11 b0 b1 b2 b3 tb l0 l1 l2 l3 l4 l5 l6 l7 bl bm sh gc sg lu lv9 f0 f1 f2 f3 tbf e0 e1 e4 e5 e7 ff bf bf2 e2 e3 e6 ta sz fo to fo2 to2 tf tn ag co ra aa ru ga0 ga1 ga2 ga3 ga4 df cf nf sf uf pf pa pwo phd pgd pdy pno ptp af ad av0 av1 av2 av3 zf so sr sp0 sp1 sd hf sw hto hpp hle ham hhh hdd hru hde hcp hld hp90 hp91 hp92 hp93 hp94 hp95 hp96 hp97 hag kI0 tI0 kI1 tI1 kI2 tI2 kI3 tI3 kI4 tI4 kI5 tI5 kI6 tI6 kI7 tI7 kI8 tI8 kI9 tI9 kI10 tI10 kI11 tI11 kI12 tI12 kI13 tI13 kI14 tI14 kI15 tI15 kI16 tI16 kI17 tI17 kI18 tI18 kI19 tI19 kI20 tI20 kI21 tI21 kI22 tI22 kI23 tI23 kI24 tI24 kI25 tI25 kI26 tI26 hT9 hG9 hP9 hA9 hS9 hH9
  refine lv_aload_n hx hb dX10_settled_0 rfl (lv_at hl 0 rfl) ?_
  refine x_get (ref := "NoteHouse") F hP kI0 rfl (fun _ h => List.mem_cons_of_mem _ (List.mem_append_left _ (List.mem_append_right _ (h)))) 7 (Nat.le_of_ble_eq_true rfl) (List.mem_cons_of_mem _ (List.mem_append_left _ (List.mem_append_left _ (List.mem_of_getElem? (i := 0) rfl)))) rfl rfl dX10_settled_1 ?_
  refine lv_iload_n hx hb dX10_settled_4 rfl (lv_at hl 1 rfl) ?_
  refine x_callV (n := 1) (As := [.int x1]) (rest := []) F hP hD hS (g_holds l D cy sk sv w a7 l0 l1 l2 l3 l4 l5 l6 l7 (nI gc) sz x1 e0 kI13 kI14) gX10_settled_X4_holds rfl rfl (by decide +kernel) ⟨(Nat.le_of_ble_eq_true rfl), (Nat.le_of_ble_eq_true rfl)⟩ rfl hl.1 (Nat.le_of_ble_eq_true rfl) kI13 rfl dX10_settled_5 rfl ⟨(Nat.le_of_ble_eq_true rfl), (Nat.le_of_ble_eq_true rfl)⟩ (fun v2 w3 hp1 H locs hP hD hS => ?_)
  obtain ⟨rx4, rfl, hz5, hz6, rfl⟩ := hp1
  refine W.eq (g2 := F0 m 8 ls [.int rx4]) rfl (W.widen (k := 0) (n := 0) (Nat.le_of_ble_eq_true rfl) (Nat.le_of_ble_eq_true rfl) ?_)
  refine lv_if_ne (tgt := 13) hx hb dX10_settled_8 (by decide) (fun c_7 => ?_) (fun c_7 => ?_)
  · obtain ⟨j, hj, rfl⟩ := (hz6).resolve_left c_7
    refine lv_iload_n hx hb dX10_settled_13 rfl (lv_at hl 2 rfl) ?_
    refine lv_if_ne (tgt := 27) hx hb dX10_settled_14 (by decide) (fun c_8 => ?_) (fun c_8 => ?_)
    · refine lv_iload_n hx hb dX10_settled_27 rfl (lv_at hl 2 rfl) ?_
      refine lv_iconst (v := 1) hx hb dX10_settled_28 (by decide) ?_
      refine lv_icmp_ne (tgt := 44) hx hb dX10_settled_29 (by decide) (fun c_9 => ?_) (fun c_9 => ?_)
      · refine lv_iconst (v := (-1)) hx hb dX10_settled_44 (by decide) ?_
        exact y_ir K hP hD hS (Nat.le_of_ble_eq_true rfl) (Nat.le_of_ble_eq_true rfl) (ty := .int) rfl rfl dX10_settled_45 (⟨⟨_, rfl⟩, ⟨tg, fun _ _ => rfl, wd_kp.rf, hIX0⟩⟩)
      · refine lv_aload_n hx hb dX10_settled_32 rfl (lv_at hl 0 rfl) ?_
        refine x_get (ref := "NoteHouse") F hP kI0 rfl (fun _ h => List.mem_cons_of_mem _ (List.mem_append_left _ (List.mem_append_right _ (h)))) 7 (Nat.le_of_ble_eq_true rfl) (List.mem_cons_of_mem _ (List.mem_append_left _ (List.mem_append_left _ (List.mem_of_getElem? (i := 0) rfl)))) rfl rfl dX10_settled_33 ?_
        refine x_get (ref := "NoteHouse$Settlement") F hP kI13 rfl (fun _ h => List.mem_cons_of_mem _ (List.mem_append_right _ (h))) 1 (Nat.le_of_ble_eq_true rfl) (List.mem_cons_of_mem _ (List.mem_append_left _ (List.mem_append_left _ (List.mem_of_getElem? (i := 2) rfl)))) rfl rfl dX10_settled_36 ?_
        refine lv_iload_n hx hb dX10_settled_39 rfl (lv_at hl 1 rfl) ?_
        refine x_iald F hP kI15 (vp_in_nI (n := j) (N := 200) (by omega) (by decide)) dX10_settled_40 ?_
        refine lv_goto (tgt := 45) hx hb dX10_settled_41 (by decide) ?_
        exact y_ir K hP hD hS (Nat.le_of_ble_eq_true rfl) (Nat.le_of_ble_eq_true rfl) (ty := .int) rfl rfl dX10_settled_45 (⟨⟨_, rfl⟩, ⟨tg, fun _ _ => rfl, wd_kp.rf, hIX0⟩⟩)
    · refine lv_aload_n hx hb dX10_settled_17 rfl (lv_at hl 0 rfl) ?_
      refine x_get (ref := "NoteHouse") F hP kI0 rfl (fun _ h => List.mem_cons_of_mem _ (List.mem_append_left _ (List.mem_append_right _ (h)))) 7 (Nat.le_of_ble_eq_true rfl) (List.mem_cons_of_mem _ (List.mem_append_left _ (List.mem_append_left _ (List.mem_of_getElem? (i := 0) rfl)))) rfl rfl dX10_settled_18 ?_
      refine x_get (ref := "NoteHouse$Settlement") F hP kI13 rfl (fun _ h => List.mem_cons_of_mem _ (List.mem_append_right _ (h))) 0 (Nat.le_of_ble_eq_true rfl) (List.mem_cons_of_mem _ (List.mem_append_left _ (List.mem_append_left _ (List.mem_of_getElem? (i := 1) rfl)))) rfl rfl dX10_settled_21 ?_
      refine lv_iload_n hx hb dX10_settled_24 rfl (lv_at hl 1 rfl) ?_
      refine x_iald F hP kI14 (vp_in_nI (n := j) (N := 200) (by omega) (by decide)) dX10_settled_25 ?_
      exact y_ir K hP hD hS (Nat.le_of_ble_eq_true rfl) (Nat.le_of_ble_eq_true rfl) (ty := .int) rfl rfl dX10_settled_26 (⟨⟨_, rfl⟩, ⟨tg, fun _ _ => rfl, wd_kp.rf, hIX0⟩⟩)
  · refine lv_iconst (v := (-1)) hx hb dX10_settled_11 (by decide) ?_
    exact y_ir K hP hD hS (Nat.le_of_ble_eq_true rfl) (Nat.le_of_ble_eq_true rfl) (ty := .int) rfl rfl dX10_settled_12 (⟨⟨_, rfl⟩, ⟨tg, fun _ _ => rfl, wd_kp.rf, hIX0⟩⟩)
set_option maxHeartbeats 4000000 in
set_option maxRecDepth 100000 in
theorem X_count (l : Launch) (D : va_G) (cy : Nat → ClassId) (sk sv : Nat → Nat) (w : Wd) (tg : Nat → Nat) (x : Nat) (td : Int32) (pc ac sc ln : Nat) (se plv : Nat → Int32) (x1 : Int32) (hIX0 : IX cy tg x td pc ac sc ln se plv w) : Ct l D cy sk sv yX10_count wsX10_count ({ frames := 1, cells := 0, slots := 0, locals := 22 }) [.ref x, .int x1] w (fun v w1 => (∃ r : Int32, v = some (.int r)) ∧ XP cy tg x td pc ac sc ln se plv w w1) := by
  refine Ct.by (cc := cX10_count) (maxL := 2) (ret := (some .int)) (by decide +kernel) rfl (Nat.le_of_ble_eq_true rfl) ?_
  intro p e s m args below meth c A Q F hnm K ls hl
  have F : wd_Fx p s m args meth c cX10_count 2 wsX10_count RX10 D cy sk sv A := F
  have hl : lv_has ls 2 [(0, .ref x), (1, .int x1)] := hl
  have hx := F.1.1
  have hb := F.1.2.1
  have hown := F.1.2.2.2.1
  have hts := F.1.2.2.2.2
  intro H locs hP hD hS
  have kp0 : wd_kp (fun b => tg b < 10000) w w := wd_kp.rf
  refine hIX0 _ ?_
  intro a0 a1 a2 a3 a4 a5 a6 a7 a8 a10 a11 b0 b1 b2 b3 tb l0 l1 l2 l3 l4 l5 l6 l7 bl bm sh gc sg lu lv9 f0 f1 f2 f3 tbf e0 e1 e4 e5 e7 ff bf bf2 e2 e3 e6 ta sz fo to fo2 to2 tf tn ag co ra aa ru ga0 ga1 ga2 ga3 ga4 df cf nf sf uf pf pa pwo phd pgd pdy pno ptp af ad av0 av1 av2 av3 zf so sr sp0 sp1 sd hf sw hto hpp hle ham hhh hdd hru hde hcp hld hp90 hp91 hp92 hp93 hp94 hp95 hp96 hp97 hag kI0 tI0 kI1 tI1 kI2 tI2 kI3 tI3 kI4 tI4 kI5 tI5 kI6 tI6 kI7 tI7 kI8 tI8 kI9 tI9 kI10 tI10 kI11 tI11 kI12 tI12 kI13 tI13 kI14 tI14 kI15 tI15 kI16 tI16 kI17 tI17 kI18 tI18 kI19 tI19 kI20 tI20 kI21 tI21 kI22 tI22 kI23 tI23 kI24 tI24 kI25 tI25 kI26 tI26 hT9 hG9 hP9 hA9 hS9 hH9
  refine lv_iload_n hx hb dX10_count_0 rfl (lv_at hl 1 rfl) ?_
  refine lv_bipush (v := 10) hx hb dX10_count_1 (by decide) ?_
  refine lv_bipush (v := 21) hx hb dX10_count_3 (by decide) ?_
  refine x_callS (n := 3) (As := [.int x1, .int 10, .int 21]) (rest := []) F hP hD hS (g_isWithin l D cy sk sv w x1 10 21) gX10_count_X10_isWithin rfl (by decide +kernel) ⟨(Nat.le_of_ble_eq_true rfl), (Nat.le_of_ble_eq_true rfl)⟩ rfl hl.1 (Nat.le_of_ble_eq_true rfl) dX10_count_5 rfl ⟨(Nat.le_of_ble_eq_true rfl), (Nat.le_of_ble_eq_true rfl)⟩ (fun v2 w3 hp1 H locs hP hD hS => ?_)
  obtain ⟨rfl, rfl⟩ := hp1
  refine W.eq (g2 := F0 m 8 ls [.int (wi x1 10 21)]) rfl (W.widen (k := 0) (n := 0) (Nat.le_of_ble_eq_true rfl) (Nat.le_of_ble_eq_true rfl) ?_)
  refine lv_if_eq (tgt := 27) hx hb dX10_count_8 (by decide) (fun c_4 => ?_) (fun c_4 => ?_)
  · refine lv_iload_n hx hb dX10_count_27 rfl (lv_at hl 1 rfl) ?_
    refine lv_bipush (v := 30) hx hb dX10_count_28 (by decide) ?_
    refine lv_bipush (v := 33) hx hb dX10_count_30 (by decide) ?_
    refine x_callS (n := 3) (As := [.int x1, .int 30, .int 33]) (rest := []) F hP hD hS (g_isWithin l D cy sk sv w x1 30 33) gX10_count_X10_isWithin rfl (by decide +kernel) ⟨(Nat.le_of_ble_eq_true rfl), (Nat.le_of_ble_eq_true rfl)⟩ rfl hl.1 (Nat.le_of_ble_eq_true rfl) dX10_count_32 rfl ⟨(Nat.le_of_ble_eq_true rfl), (Nat.le_of_ble_eq_true rfl)⟩ (fun v6 w7 hp5 H locs hP hD hS => ?_)
    obtain ⟨rfl, rfl⟩ := hp5
    refine W.eq (g2 := F0 m 35 ls [.int (wi x1 30 33)]) rfl (W.widen (k := 0) (n := 0) (Nat.le_of_ble_eq_true rfl) (Nat.le_of_ble_eq_true rfl) ?_)
    refine lv_if_eq (tgt := 51) hx hb dX10_count_35 (by decide) (fun c_8 => ?_) (fun c_8 => ?_)
    · refine lv_iload_n hx hb dX10_count_51 rfl (lv_at hl 1 rfl) ?_
      by_cases c_9 : x1 = 0
      · refine lv_lookup (off := 76) (tgt := 128) hx hb dX10_count_52 (by decide) (by rw [c_9]; decide) (by decide) ?_
        refine lv_aload_n hx hb dX10_count_128 rfl (lv_at hl 0 rfl) ?_
        refine x_get (ref := "NoteHouse") F hP kI0 rfl (fun _ h => List.mem_cons_of_mem _ (List.mem_append_left _ (List.mem_append_left _ (List.mem_append_left _ (List.mem_append_left _ (List.mem_append_left _ (List.mem_append_right _ (h)))))))) 12 (Nat.le_of_ble_eq_true rfl) (List.mem_cons_of_mem _ (List.mem_append_left _ (List.mem_append_left _ (List.mem_append_left _ (List.mem_append_left _ (List.mem_append_left _ (List.mem_append_left _ (List.mem_of_getElem? (i := 5) rfl)))))))) rfl rfl dX10_count_129 ?_
        exact y_ir K hP hD hS (Nat.le_of_ble_eq_true rfl) (Nat.le_of_ble_eq_true rfl) (ty := .int) rfl rfl dX10_count_132 (⟨⟨_, rfl⟩, ⟨tg, fun _ _ => rfl, wd_kp.rf, hIX0⟩⟩)
      by_cases c_10 : x1 = 1
      · refine lv_lookup (off := 81) (tgt := 133) hx hb dX10_count_52 (by decide) (by rw [c_10]; decide) (by decide) ?_
        refine lv_aload_n hx hb dX10_count_133 rfl (lv_at hl 0 rfl) ?_
        refine x_get (ref := "NoteHouse") F hP kI0 rfl (fun _ h => List.mem_cons_of_mem _ (List.mem_append_left _ (List.mem_append_left _ (List.mem_append_left _ (List.mem_append_left _ (List.mem_append_left _ (List.mem_append_right _ (h)))))))) 13 (Nat.le_of_ble_eq_true rfl) (List.mem_cons_of_mem _ (List.mem_append_left _ (List.mem_append_left _ (List.mem_append_left _ (List.mem_append_left _ (List.mem_append_left _ (List.mem_append_left _ (List.mem_of_getElem? (i := 6) rfl)))))))) rfl rfl dX10_count_134 ?_
        exact y_ir K hP hD hS (Nat.le_of_ble_eq_true rfl) (Nat.le_of_ble_eq_true rfl) (ty := .int) rfl rfl dX10_count_137 (⟨⟨_, rfl⟩, ⟨tg, fun _ _ => rfl, wd_kp.rf, hIX0⟩⟩)
      by_cases c_11 : x1 = 2
      · refine lv_lookup (off := 86) (tgt := 138) hx hb dX10_count_52 (by decide) (by rw [c_11]; decide) (by decide) ?_
        refine lv_aload_n hx hb dX10_count_138 rfl (lv_at hl 0 rfl) ?_
        refine x_get (ref := "NoteHouse") F hP kI0 rfl (fun _ h => List.mem_cons_of_mem _ (List.mem_append_left _ (List.mem_append_left _ (List.mem_append_left _ (List.mem_append_left _ (List.mem_append_left _ (List.mem_append_right _ (h)))))))) 14 (Nat.le_of_ble_eq_true rfl) (List.mem_cons_of_mem _ (List.mem_append_left _ (List.mem_append_left _ (List.mem_append_left _ (List.mem_append_left _ (List.mem_append_left _ (List.mem_append_left _ (List.mem_of_getElem? (i := 7) rfl)))))))) rfl rfl dX10_count_139 ?_
        exact y_ir K hP hD hS (Nat.le_of_ble_eq_true rfl) (Nat.le_of_ble_eq_true rfl) (ty := .int) rfl rfl dX10_count_142 (⟨⟨_, rfl⟩, ⟨tg, fun _ _ => rfl, wd_kp.rf, hIX0⟩⟩)
      by_cases c_12 : x1 = 3
      · refine lv_lookup (off := 91) (tgt := 143) hx hb dX10_count_52 (by decide) (by rw [c_12]; decide) (by decide) ?_
        refine lv_aload_n hx hb dX10_count_143 rfl (lv_at hl 0 rfl) ?_
        refine x_get (ref := "NoteHouse") F hP kI0 rfl (fun _ h => List.mem_cons_of_mem _ (List.mem_append_left _ (List.mem_append_left _ (List.mem_append_left _ (List.mem_append_left _ (List.mem_append_left _ (List.mem_append_right _ (h)))))))) 15 (Nat.le_of_ble_eq_true rfl) (List.mem_cons_of_mem _ (List.mem_append_left _ (List.mem_append_left _ (List.mem_append_left _ (List.mem_append_left _ (List.mem_append_left _ (List.mem_append_left _ (List.mem_of_getElem? (i := 8) rfl)))))))) rfl rfl dX10_count_144 ?_
        exact y_ir K hP hD hS (Nat.le_of_ble_eq_true rfl) (Nat.le_of_ble_eq_true rfl) (ty := .int) rfl rfl dX10_count_147 (⟨⟨_, rfl⟩, ⟨tg, fun _ _ => rfl, wd_kp.rf, hIX0⟩⟩)
      by_cases c_13 : x1 = 4
      · refine lv_lookup (off := 96) (tgt := 148) hx hb dX10_count_52 (by decide) (by rw [c_13]; decide) (by decide) ?_
        refine lv_aload_n hx hb dX10_count_148 rfl (lv_at hl 0 rfl) ?_
        refine x_get (ref := "NoteHouse") F hP kI0 rfl (fun _ h => List.mem_cons_of_mem _ (List.mem_append_left _ (List.mem_append_left _ (List.mem_append_left _ (List.mem_append_left _ (List.mem_append_left _ (List.mem_append_right _ (h)))))))) 16 (Nat.le_of_ble_eq_true rfl) (List.mem_cons_of_mem _ (List.mem_append_left _ (List.mem_append_left _ (List.mem_append_left _ (List.mem_append_left _ (List.mem_append_left _ (List.mem_append_left _ (List.mem_of_getElem? (i := 9) rfl)))))))) rfl rfl dX10_count_149 ?_
        exact y_ir K hP hD hS (Nat.le_of_ble_eq_true rfl) (Nat.le_of_ble_eq_true rfl) (ty := .int) rfl rfl dX10_count_152 (⟨⟨_, rfl⟩, ⟨tg, fun _ _ => rfl, wd_kp.rf, hIX0⟩⟩)
      by_cases c_14 : x1 = 5
      · refine lv_lookup (off := 101) (tgt := 153) hx hb dX10_count_52 (by decide) (by rw [c_14]; decide) (by decide) ?_
        refine lv_aload_n hx hb dX10_count_153 rfl (lv_at hl 0 rfl) ?_
        refine x_get (ref := "NoteHouse") F hP kI0 rfl (fun _ h => List.mem_cons_of_mem _ (List.mem_append_left _ (List.mem_append_left _ (List.mem_append_left _ (List.mem_append_left _ (List.mem_append_left _ (List.mem_append_right _ (h)))))))) 6 (Nat.le_of_ble_eq_true rfl) (List.mem_cons_of_mem _ (List.mem_append_left _ (List.mem_append_left _ (List.mem_append_left _ (List.mem_append_left _ (List.mem_append_left _ (List.mem_append_left _ (List.mem_of_getElem? (i := 10) rfl)))))))) rfl rfl dX10_count_154 ?_
        refine x_get (ref := "NoteHouse$Tape") F hP kI11 rfl (fun _ h => List.mem_cons_of_mem _ (List.mem_append_left _ (List.mem_append_right _ (h)))) 1 (Nat.le_of_ble_eq_true rfl) (List.mem_cons_of_mem _ (List.mem_append_left _ (List.mem_append_left _ (List.mem_append_left _ (List.mem_append_left _ (List.mem_append_left _ (List.mem_append_left _ (List.mem_of_getElem? (i := 11) rfl)))))))) rfl rfl dX10_count_157 ?_
        exact y_ir K hP hD hS (Nat.le_of_ble_eq_true rfl) (Nat.le_of_ble_eq_true rfl) (ty := .int) rfl rfl dX10_count_160 (⟨⟨_, rfl⟩, ⟨tg, fun _ _ => rfl, wd_kp.rf, hIX0⟩⟩)
      by_cases c_15 : x1 = 6
      · refine lv_lookup (off := 109) (tgt := 161) hx hb dX10_count_52 (by decide) (by rw [c_15]; decide) (by decide) ?_
        refine lv_aload_n hx hb dX10_count_161 rfl (lv_at hl 0 rfl) ?_
        refine x_get (ref := "NoteHouse") F hP kI0 rfl (fun _ h => List.mem_cons_of_mem _ (List.mem_append_left _ (List.mem_append_left _ (List.mem_append_left _ (List.mem_append_left _ (List.mem_append_left _ (List.mem_append_right _ (h)))))))) 7 (Nat.le_of_ble_eq_true rfl) (List.mem_cons_of_mem _ (List.mem_append_left _ (List.mem_append_left _ (List.mem_append_left _ (List.mem_append_left _ (List.mem_append_left _ (List.mem_append_left _ (List.mem_of_getElem? (i := 12) rfl)))))))) rfl rfl dX10_count_162 ?_
        refine x_get (ref := "NoteHouse$Settlement") F hP kI13 rfl (fun _ h => List.mem_cons_of_mem _ (List.mem_append_right _ (h))) 8 (Nat.le_of_ble_eq_true rfl) (List.mem_cons_of_mem _ (List.mem_append_left _ (List.mem_append_left _ (List.mem_append_left _ (List.mem_append_left _ (List.mem_append_left _ (List.mem_append_left _ (List.mem_of_getElem? (i := 13) rfl)))))))) rfl rfl dX10_count_165 ?_
        exact y_ir K hP hD hS (Nat.le_of_ble_eq_true rfl) (Nat.le_of_ble_eq_true rfl) (ty := .int) rfl rfl dX10_count_168 (⟨⟨_, rfl⟩, ⟨tg, fun _ _ => rfl, wd_kp.rf, hIX0⟩⟩)
      by_cases c_16 : x1 = 34
      · refine lv_lookup (off := 117) (tgt := 169) hx hb dX10_count_52 (by decide) (by rw [c_16]; decide) (by decide) ?_
        refine lv_aload_n hx hb dX10_count_169 rfl (lv_at hl 0 rfl) ?_
        refine x_get (ref := "NoteHouse") F hP kI0 rfl (fun _ h => List.mem_cons_of_mem _ (List.mem_append_left _ (List.mem_append_left _ (List.mem_append_left _ (List.mem_append_left _ (List.mem_append_left _ (List.mem_append_right _ (h)))))))) 10 (Nat.le_of_ble_eq_true rfl) (List.mem_cons_of_mem _ (List.mem_append_left _ (List.mem_append_left _ (List.mem_append_left _ (List.mem_append_left _ (List.mem_append_left _ (List.mem_append_left _ (List.mem_of_getElem? (i := 3) rfl)))))))) rfl rfl dX10_count_170 ?_
        refine x_get (ref := "NoteHouse$Law") F hP kI23 rfl (fun _ h => List.mem_cons_of_mem _ (List.mem_append_left _ (List.mem_append_left _ (List.mem_append_right _ (h))))) 1 (Nat.le_of_ble_eq_true rfl) (List.mem_cons_of_mem _ (List.mem_append_left _ (List.mem_append_left _ (List.mem_append_left _ (List.mem_append_left _ (List.mem_append_left _ (List.mem_append_left _ (List.mem_of_getElem? (i := 14) rfl)))))))) rfl rfl dX10_count_173 ?_
        exact y_ir K hP hD hS (Nat.le_of_ble_eq_true rfl) (Nat.le_of_ble_eq_true rfl) (ty := .int) rfl rfl dX10_count_176 (⟨⟨_, rfl⟩, ⟨tg, fun _ _ => rfl, wd_kp.rf, hIX0⟩⟩)
      refine lv_lookup (off := 125) (tgt := 177) hx hb dX10_count_52 (by decide) (show Op.lookupswitch.offset [(0, 76), (1, 81), (2, 86), (3, 91), (4, 96), (5, 101), (6, 109), (34, 117)] 125 x1.toInt = 125 from ((lv_osw c_9 (show (0 : Int32).toInt = 0 by decide)).trans ((lv_osw c_10 (show (1 : Int32).toInt = 1 by decide)).trans ((lv_osw c_11 (show (2 : Int32).toInt = 2 by decide)).trans ((lv_osw c_12 (show (3 : Int32).toInt = 3 by decide)).trans ((lv_osw c_13 (show (4 : Int32).toInt = 4 by decide)).trans ((lv_osw c_14 (show (5 : Int32).toInt = 5 by decide)).trans ((lv_osw c_15 (show (6 : Int32).toInt = 6 by decide)).trans ((lv_osw c_16 (show (34 : Int32).toInt = 34 by decide)).trans rfl))))))))) (by decide) ?_
      refine lv_iconst (v := (-1)) hx hb dX10_count_177 (by decide) ?_
      exact y_ir K hP hD hS (Nat.le_of_ble_eq_true rfl) (Nat.le_of_ble_eq_true rfl) (ty := .int) rfl rfl dX10_count_178 (⟨⟨_, rfl⟩, ⟨tg, fun _ _ => rfl, wd_kp.rf, hIX0⟩⟩)
    · obtain ⟨j, hj, rfl⟩ := wi_o3 c_8
      refine lv_aload_n hx hb dX10_count_38 rfl (lv_at hl 0 rfl) ?_
      refine x_get (ref := "NoteHouse") F hP kI0 rfl (fun _ h => List.mem_cons_of_mem _ (List.mem_append_left _ (List.mem_append_left _ (List.mem_append_left _ (List.mem_append_left _ (List.mem_append_left _ (List.mem_append_right _ (h)))))))) 10 (Nat.le_of_ble_eq_true rfl) (List.mem_cons_of_mem _ (List.mem_append_left _ (List.mem_append_left _ (List.mem_append_left _ (List.mem_append_left _ (List.mem_append_left _ (List.mem_append_left _ (List.mem_of_getElem? (i := 3) rfl)))))))) rfl rfl dX10_count_39 ?_
      refine x_get (ref := "NoteHouse$Law") F hP kI23 rfl (fun _ h => List.mem_cons_of_mem _ (List.mem_append_left _ (List.mem_append_left _ (List.mem_append_right _ (h))))) 0 (Nat.le_of_ble_eq_true rfl) (List.mem_cons_of_mem _ (List.mem_append_left _ (List.mem_append_left _ (List.mem_append_left _ (List.mem_append_left _ (List.mem_append_left _ (List.mem_append_left _ (List.mem_of_getElem? (i := 4) rfl)))))))) rfl rfl dX10_count_42 ?_
      refine lv_iload_n hx hb dX10_count_45 rfl (lv_at hl 1 rfl) ?_
      refine lv_bipush (v := 30) hx hb dX10_count_46 (by decide) ?_
      refine lv_isub hx hb dX10_count_48 ?_
      rw [show ((nI (j + 30)) - 30 : Int32) = nI j from ((pk_sub (a := j + 30) (b := 30) (by omega)).trans (congrArg nI (Nat.add_sub_cancel j 30)))]
      refine x_iald F hP kI24 (vp_in_nI (n := j) (N := 4) (by omega) (by decide)) dX10_count_49 ?_
      exact y_ir K hP hD hS (Nat.le_of_ble_eq_true rfl) (Nat.le_of_ble_eq_true rfl) (ty := .int) rfl rfl dX10_count_50 (⟨⟨_, rfl⟩, ⟨tg, fun _ _ => rfl, wd_kp.rf, hIX0⟩⟩)
  · obtain ⟨j, hj, rfl⟩ := wi_o c_4
    refine lv_aload_n hx hb dX10_count_11 rfl (lv_at hl 0 rfl) ?_
    refine x_get (ref := "NoteHouse") F hP kI0 rfl (fun _ h => List.mem_cons_of_mem _ (List.mem_append_left _ (List.mem_append_left _ (List.mem_append_left _ (List.mem_append_left _ (List.mem_append_left _ (List.mem_append_right _ (h)))))))) 1 (Nat.le_of_ble_eq_true rfl) (List.mem_cons_of_mem _ (List.mem_append_left _ (List.mem_append_left _ (List.mem_append_left _ (List.mem_append_left _ (List.mem_append_left _ (List.mem_append_left _ (List.mem_of_getElem? (i := 0) rfl)))))))) rfl rfl dX10_count_12 ?_
    refine lv_iload_n hx hb dX10_count_15 rfl (lv_at hl 1 rfl) ?_
    refine lv_bipush (v := 10) hx hb dX10_count_16 (by decide) ?_
    refine lv_isub hx hb dX10_count_18 ?_
    rw [show ((nI (j + 10)) - 10 : Int32) = nI j from ((pk_sub (a := j + 10) (b := 10) (by omega)).trans (congrArg nI (Nat.add_sub_cancel j 10)))]
    refine x_aald F hP kI6 rfl (vp_in_nI (n := j) (N := 12) (by omega) (by decide)) dX10_count_19 ?_
    have pr17 := (hT9 j (by omega)).1
    have k18 := (hT9 j (by omega)).2.1
    have tz19 := (hT9 j (by omega)).2.2
    rw [nI_clamp (n := j) (by omega), pr17]
    refine W.eq (g2 := F0 m _ ls [.ref (tn j)]) rfl ?_
    refine x_get (ref := "NoteHouse$Town") F hP k18 rfl (fun _ h => List.mem_cons_of_mem _ (List.mem_append_left _ (List.mem_append_left _ (List.mem_append_left _ (List.mem_append_left _ (List.mem_append_right _ (h))))))) 3 (Nat.le_of_ble_eq_true rfl) (List.mem_cons_of_mem _ (List.mem_append_left _ (List.mem_append_left _ (List.mem_append_left _ (List.mem_append_left _ (List.mem_append_left _ (List.mem_append_left _ (List.mem_of_getElem? (i := 1) rfl)))))))) rfl rfl dX10_count_20 ?_
    obtain ⟨s9, hs9, es9⟩ := hag j (by omega)
    rw [es9]
    refine W.eq (g2 := F0 m _ ls [.ref (aa s9)]) rfl ?_
    have pr20 := (hG9 s9 (by omega)).1
    have pr20a := pr20.1
    have pr20b := pr20.2
    have k21 := (hG9 s9 (by omega)).2.1
    have tz22 := (hG9 s9 (by omega)).2.2.1
    have k23 := (hG9 s9 (by omega)).2.2.2.1
    have tz24 := (hG9 s9 (by omega)).2.2.2.2.1
    have k25 := (hG9 s9 (by omega)).2.2.2.2.2.1
    have tz26 := (hG9 s9 (by omega)).2.2.2.2.2.2.1
    have k27 := (hG9 s9 (by omega)).2.2.2.2.2.2.2.1
    have tz28 := (hG9 s9 (by omega)).2.2.2.2.2.2.2.2.1
    have k29 := (hG9 s9 (by omega)).2.2.2.2.2.2.2.2.2.1
    have tz30 := (hG9 s9 (by omega)).2.2.2.2.2.2.2.2.2.2.1
    have k31 := (hG9 s9 (by omega)).2.2.2.2.2.2.2.2.2.2.2.1
    have tz32 := (hG9 s9 (by omega)).2.2.2.2.2.2.2.2.2.2.2.2
    refine x_get (ref := "NoteHouse$Agent") F hP k21 rfl (fun _ h => List.mem_cons_of_mem _ (List.mem_append_left _ (List.mem_append_left _ (List.mem_append_left _ (List.mem_append_right _ (h)))))) 5 (Nat.le_of_ble_eq_true rfl) (List.mem_cons_of_mem _ (List.mem_append_left _ (List.mem_append_left _ (List.mem_append_left _ (List.mem_append_left _ (List.mem_append_left _ (List.mem_append_left _ (List.mem_of_getElem? (i := 2) rfl)))))))) rfl rfl dX10_count_23 ?_
    exact y_ir K hP hD hS (Nat.le_of_ble_eq_true rfl) (Nat.le_of_ble_eq_true rfl) (ty := .int) rfl rfl dX10_count_26 (⟨⟨_, rfl⟩, ⟨tg, fun _ _ => rfl, wd_kp.rf, hIX0⟩⟩)
