set_option maxHeartbeats 4000000 in
set_option maxRecDepth 100000 in
theorem X_lose (l : Launch) (D : va_G) (cy : Nat → ClassId) (sk sv : Nat → Nat) (w : Wd) (tg : Nat → Nat) (x : Nat) (td : Int32) (pc ac sc ln : Nat) (se plv : Nat → Int32) (x1 : Int32) (hIX0 : IX cy tg x td pc ac sc ln se plv w) : Ct l D cy sk sv yX10_lose wsX10_lose ({ frames := 1, cells := 0, slots := 0, locals := 21 }) [.ref x, .int x1] w (fun v w1 => (∃ r : Int32, v = some (.int r)) ∧ XP cy tg x td pc ac sc ln se plv w w1) := by
  refine Ct.by (cc := cX10_lose) (maxL := 3) (ret := (some .boolean)) (by decide +kernel) rfl (Nat.le_of_ble_eq_true rfl) ?_
  intro p e s m args below meth c A Q F hnm K ls hl
  have F : wd_Fx p s m args meth c cX10_lose 3 wsX10_lose RX10 D cy sk sv A := F
  have hl : lv_has ls 3 [(0, .ref x), (1, .int x1)] := hl
  have hx := F.1.1
  have hb := F.1.2.1
  have hown := F.1.2.2.2.1
  have hts := F.1.2.2.2.2
  intro H locs hP hD hS
  have kp0 : wd_kp (fun b => tg b < 10000) w w := wd_kp.rf
  refine hIX0 _ ?_
  intro a0 a1 a2 a3 a4 a5 a6 a7 a8 a10 a11 b0 b1 b2 b3 tb l0 l1 l2 l3 l4 l5 l6 l7 bl bm sh gc sg lu lv9 f0 f1 f2 f3 tbf e0 e1 e4 e5 e7 ff bf bf2 e2 e3 e6 ta sz fo to fo2 to2 tf tn ag co ra aa ru ga0 ga1 ga2 ga3 ga4 df cf nf sf uf pf pa pwo phd pgd pdy pno ptp af ad av0 av1 av2 av3 zf so sr sp0 sp1 sd hf sw hto hpp hle ham hhh hdd hru hde hcp hld hp90 hp91 hp92 hp93 hp94 hp95 hp96 hp97 hag kI0 tI0 kI1 tI1 kI2 tI2 kI3 tI3 kI4 tI4 kI5 tI5 kI6 tI6 kI7 tI7 kI8 tI8 kI9 tI9 kI10 tI10 kI11 tI11 kI12 tI12 kI13 tI13 kI14 tI14 kI15 tI15 kI16 tI16 kI17 tI17 kI18 tI18 kI19 tI19 kI20 tI20 kI21 tI21 kI22 tI22 kI23 tI23 kI24 tI24 kI25 tI25 kI26 tI26 hT9 hG9 hP9 hA9 hS9 hH9
  have hlu : lu < 2 := by omega
  have hlv : lv9 < 2 := by omega
  refine lv_aload_n hx hb dX10_lose_0 rfl (lv_at hl 0 rfl) ?_
  refine lv_iload_n hx hb dX10_lose_1 rfl (lv_at hl 1 rfl) ?_
  refine x_callV (n := 1) (As := [.int x1]) (rest := []) F hP hD hS (g_adviceAt l D cy sk sv w x a0 a1 a2 a3 a4 a5 a6 a7 a8 (aa sg) a10 a11 pc ac sc sh td x1 tg af ad av0 av1 av2 av3 kI0 kI8 hA9 (by omega)) gX10_lose_X10_adviceAt rfl rfl (by decide +kernel) ⟨(Nat.le_of_ble_eq_true rfl), (Nat.le_of_ble_eq_true rfl)⟩ rfl hl.1 (Nat.le_of_ble_eq_true rfl) kI0 rfl dX10_lose_2 rfl ⟨(Nat.le_of_ble_eq_true rfl), (Nat.le_of_ble_eq_true rfl)⟩ (fun v2 w3 hp1 H locs hP hD hS => ?_)
  obtain ⟨hp1, rfl⟩ := hp1
  rcases hp1 with ⟨rfl, hn5⟩ | ⟨j4, hn5, ej4, rfl⟩
  · refine W.eq (g2 := F0 m 5 ls [.null]) rfl (W.widen (k := 0) (n := 0) (Nat.le_of_ble_eq_true rfl) (Nat.le_of_ble_eq_true rfl) ?_)
    refine lv_astore_nN (lv' := [(2, .null), (0, .ref x), (1, .int x1)]) hx hb dX10_lose_5 rfl hl (by decide) rfl (fun ls hl => ?_)
    refine lv_aload_nN hx hb dX10_lose_6 rfl (lv_at hl 0 rfl) ?_
    refine lv_ifnullN (tgt := 31) hx hb dX10_lose_7 (by decide) ?_
    refine lv_iconst (v := 0) hx hb dX10_lose_31 (by decide) ?_
    exact y_ir K hP hD hS (Nat.le_of_ble_eq_true rfl) (Nat.le_of_ble_eq_true rfl) (ty := .boolean) rfl rfl dX10_lose_32 (⟨⟨_, rfl⟩, ⟨tg, fun _ _ => rfl, wd_kp.rf, hIX0⟩⟩)
  · refine W.eq (g2 := F0 m 5 ls [.ref (ad j4)]) rfl (W.widen (k := 0) (n := 0) (Nat.le_of_ble_eq_true rfl) (Nat.le_of_ble_eq_true rfl) ?_)
    have pr6 := (hA9 j4 hn5).1
    have k7 := (hA9 j4 hn5).2.1
    have tz8 := (hA9 j4 hn5).2.2
    refine lv_astore_n (lv' := [(2, .ref (ad j4)), (0, .ref x), (1, .int x1)]) hx hb dX10_lose_5 rfl hl (by decide) rfl (fun ls hl => ?_)
    refine lv_aload_n hx hb dX10_lose_6 rfl (lv_at hl 0 rfl) ?_
    refine lv_ifnull hx hb dX10_lose_7 ?_
    refine lv_aload_n hx hb dX10_lose_10 rfl (lv_at hl 0 rfl) ?_
    refine x_get (ref := "NoteHouse$Advice") F hP k7 rfl (fun _ h => List.mem_cons_of_mem _ (List.mem_append_left _ (List.mem_append_right _ (h)))) 3 (Nat.le_of_ble_eq_true rfl) (List.mem_cons_of_mem _ (List.mem_append_left _ (List.mem_append_left _ (List.mem_of_getElem? (i := 0) rfl)))) rfl rfl dX10_lose_11 ?_
    refine lv_if_ne (tgt := 31) hx hb dX10_lose_14 (by decide) (fun c_9 => ?_) (fun c_9 => ?_)
    · refine lv_iconst (v := 0) hx hb dX10_lose_31 (by decide) ?_
      exact y_ir K hP hD hS (Nat.le_of_ble_eq_true rfl) (Nat.le_of_ble_eq_true rfl) (ty := .boolean) rfl rfl dX10_lose_32 (⟨⟨_, rfl⟩, ⟨tg, fun _ _ => rfl, wd_kp.rf, hIX0⟩⟩)
    · refine lv_aload_n hx hb dX10_lose_17 rfl (lv_at hl 0 rfl) ?_
      refine x_get (ref := "NoteHouse$Advice") F hP k7 rfl (fun _ h => List.mem_cons_of_mem _ (List.mem_append_left _ (List.mem_append_right _ (h)))) 2 (Nat.le_of_ble_eq_true rfl) (List.mem_cons_of_mem _ (List.mem_append_left _ (List.mem_append_left _ (List.mem_of_getElem? (i := 1) rfl)))) rfl rfl dX10_lose_18 ?_
      refine lv_aload_n hx hb dX10_lose_21 rfl (lv_at hl 1 rfl) ?_
      refine x_get (ref := "NoteHouse") F hP kI0 rfl (fun _ h => List.mem_cons_of_mem _ (List.mem_append_right _ (h))) 12 (Nat.le_of_ble_eq_true rfl) (List.mem_cons_of_mem _ (List.mem_append_left _ (List.mem_append_left _ (List.mem_of_getElem? (i := 2) rfl)))) rfl rfl dX10_lose_22 ?_
      refine x_callS (n := 2) (As := [.int (av2 j4), .int td]) (rest := []) F hP hD hS (g_hasCome l D cy sk sv w (av2 j4) td) gX10_lose_X10_hasCome rfl (by decide +kernel) ⟨(Nat.le_of_ble_eq_true rfl), (Nat.le_of_ble_eq_true rfl)⟩ rfl hl.1 (Nat.le_of_ble_eq_true rfl) dX10_lose_25 rfl ⟨(Nat.le_of_ble_eq_true rfl), (Nat.le_of_ble_eq_true rfl)⟩ (fun v11 w12 hp10 H locs hP hD hS => ?_)
      obtain ⟨rx13, rfl, hz14, rfl⟩ := hp10
      refine W.eq (g2 := F0 m 28 ls [.int rx13]) rfl (W.widen (k := 0) (n := 0) (Nat.le_of_ble_eq_true rfl) (Nat.le_of_ble_eq_true rfl) ?_)
      refine lv_if_eq (tgt := 33) hx hb dX10_lose_28 (by decide) (fun c_15 => ?_) (fun c_15 => ?_)
      · refine lv_aload_n hx hb dX10_lose_33 rfl (lv_at hl 0 rfl) ?_
        refine lv_iconst (v := 1) hx hb dX10_lose_34 (by decide) ?_
        refine y_put (ref := "NoteHouse$Advice") F hP hD hS k7 rfl (fun _ h => List.mem_cons_of_mem _ (List.mem_append_left _ (List.mem_append_right _ (h)))) tyX0_ok nmX0 3 (Nat.le_of_ble_eq_true rfl) (List.mem_cons_of_mem _ (List.mem_append_left _ (List.mem_append_left _ (List.mem_of_getElem? (i := 0) rfl)))) rfl rfl rfl rfl (Nat.le_of_ble_eq_true rfl) dX10_lose_35 (fun w16 ew17 H locs hP hD hS => ?_)
        have fm18 : ∀ k9, k9 < ac ∧ k9 ≠ j4 → af k9 = some (ad k9) ∧ wd_at w (ad k9) (.inr (0, [.int (av0 k9), .int (av1 k9), .int (av2 k9), .int (av3 k9)])) ∧ tg (ad k9) = 4000 + k9 := fun k9 hi8 => hA9 k9 hi8.1
        have k19 := wd_at.pt ew17 kI0 (tg_ne tI0 tz8 (tnA2 (show 0 < 4000 by decide)))
        have k20 := wd_at.pt ew17 kI1 (tg_ne tI1 tz8 (tnA2 (show 1 < 4000 by decide)))
        have k21 := wd_at.pt ew17 kI2 (tg_ne tI2 tz8 (tnA2 (show 2 < 4000 by decide)))
        have k22 := wd_at.pt ew17 kI3 (tg_ne tI3 tz8 (tnA2 (show 3 < 4000 by decide)))
        have k23 := wd_at.pt ew17 kI4 (tg_ne tI4 tz8 (tnA2 (show 4 < 4000 by decide)))
        have k24 := wd_at.pt ew17 kI5 (tg_ne tI5 tz8 (tnA2 (show 5 < 4000 by decide)))
        have k25 := wd_at.pt ew17 kI6 (tg_ne tI6 tz8 (tnA2 (show 6 < 4000 by decide)))
        have k26 := wd_at.pt ew17 kI7 (tg_ne tI7 tz8 (tnA2 (show 7 < 4000 by decide)))
        have k27 := wd_at.pt ew17 kI8 (tg_ne tI8 tz8 (tnA2 (show 8 < 4000 by decide)))
        have k28 := wd_at.pt ew17 kI9 (tg_ne tI9 tz8 (tnA2 (show 9 < 4000 by decide)))
        have k29 := wd_at.pt ew17 kI10 (tg_ne tI10 tz8 (tnA2 (show 10 < 4000 by decide)))
        have k30 := wd_at.pt ew17 kI11 (tg_ne tI11 tz8 (tnA2 (show 11 < 4000 by decide)))
        have k31 := wd_at.pt ew17 kI12 (tg_ne tI12 tz8 (tnA2 (show 12 < 4000 by decide)))
        have k32 := wd_at.pt ew17 kI13 (tg_ne tI13 tz8 (tnA2 (show 13 < 4000 by decide)))
        have k33 := wd_at.pt ew17 kI14 (tg_ne tI14 tz8 (tnA2 (show 14 < 4000 by decide)))
        have k34 := wd_at.pt ew17 kI15 (tg_ne tI15 tz8 (tnA2 (show 15 < 4000 by decide)))
        have k35 := wd_at.pt ew17 kI16 (tg_ne tI16 tz8 (tnA2 (show 16 < 4000 by decide)))
        have k36 := wd_at.pt ew17 kI17 (tg_ne tI17 tz8 (tnA2 (show 17 < 4000 by decide)))
        have k37 := wd_at.pt ew17 kI18 (tg_ne tI18 tz8 (tnA2 (show 18 < 4000 by decide)))
        have k38 := wd_at.pt ew17 kI19 (tg_ne tI19 tz8 (tnA2 (show 19 < 4000 by decide)))
        have k39 := wd_at.pt ew17 kI20 (tg_ne tI20 tz8 (tnA2 (show 20 < 4000 by decide)))
        have k40 := wd_at.pt ew17 kI21 (tg_ne tI21 tz8 (tnA2 (show 21 < 4000 by decide)))
        have k41 := wd_at.pt ew17 kI22 (tg_ne tI22 tz8 (tnA2 (show 22 < 4000 by decide)))
        have k42 := wd_at.pt ew17 kI23 (tg_ne tI23 tz8 (tnB (n := 2) hlu (by decide)))
        have k43 := wd_at.pt ew17 kI24 (tg_ne tI24 tz8 (tnB (n := 2) hlu (by decide)))
        have k44 := wd_at.pt ew17 kI25 (tg_ne tI25 tz8 (tnB (n := 2) hlv (by decide)))
        have k45 := wd_at.pt ew17 kI26 (tg_ne tI26 tz8 (tnB (n := 2) hlv (by decide)))
        have k46 : wd_at w16 (ad j4) (.inr (0, [.int (av0 j4), .int (av1 j4), .int (av2 j4), .int 1])) := wd_at.ps ew17 k7
        have fm47 : ∀ i9, i9 < 12 → tf i9 = some (tn i9) ∧ wd_at w16 (tn i9) (.inr (8, [.int (co i9), .int (ra i9), .int (se i9), .ref (ag i9)])) ∧ tg (tn i9) = 100 + i9 := fun i9 hi9 => ⟨(hT9 i9 hi9).1, wd_at.pt ew17 (hT9 i9 hi9).2.1 (tg_ne (hT9 i9 hi9).2.2 tz8 (tnB (n := 12) hi9 (by decide))), (hT9 i9 hi9).2.2⟩
        have fm48 : ∀ k9, k9 < 13 → (aOK (cf k9) (nf k9) ∧ ru k9 ≤ 12) ∧ wd_at w16 (aa k9) (.inr (1, [.ref (ga0 k9), .ref (ga1 k9), .ref (ga2 k9), .ref (ga3 k9), .ref (ga4 k9), .int (nI (ru k9))])) ∧ tg (aa k9) = 200 + k9 ∧ wd_at w16 (ga0 k9) (.inl (cy 2, 12, .inl (df k9))) ∧ tg (ga0 k9) = 220 + k9 ∧ wd_at w16 (ga1 k9) (.inl (cy 2, 12, .inl (cf k9))) ∧ tg (ga1 k9) = 240 + k9 ∧ wd_at w16 (ga2 k9) (.inl (cy 2, 72, .inl (nf k9))) ∧ tg (ga2 k9) = 260 + k9 ∧ wd_at w16 (ga3 k9) (.inl (cy 1, 72, .inl (sf k9))) ∧ tg (ga3 k9) = 280 + k9 ∧ wd_at w16 (ga4 k9) (.inl (cy 2, 72, .inl (uf k9))) ∧ tg (ga4 k9) = 300 + k9 := fun k9 hi9 => ⟨(hG9 k9 hi9).1, wd_at.pt ew17 (hG9 k9 hi9).2.1 (tg_ne (hG9 k9 hi9).2.2.1 tz8 (tnB (n := 13) hi9 (by decide))), (hG9 k9 hi9).2.2.1, wd_at.pt ew17 (hG9 k9 hi9).2.2.2.1 (tg_ne (hG9 k9 hi9).2.2.2.2.1 tz8 (tnB (n := 13) hi9 (by decide))), (hG9 k9 hi9).2.2.2.2.1, wd_at.pt ew17 (hG9 k9 hi9).2.2.2.2.2.1 (tg_ne (hG9 k9 hi9).2.2.2.2.2.2.1 tz8 (tnB (n := 13) hi9 (by decide))), (hG9 k9 hi9).2.2.2.2.2.2.1, wd_at.pt ew17 (hG9 k9 hi9).2.2.2.2.2.2.2.1 (tg_ne (hG9 k9 hi9).2.2.2.2.2.2.2.2.1 tz8 (tnB (n := 13) hi9 (by decide))), (hG9 k9 hi9).2.2.2.2.2.2.2.2.1, wd_at.pt ew17 (hG9 k9 hi9).2.2.2.2.2.2.2.2.2.1 (tg_ne (hG9 k9 hi9).2.2.2.2.2.2.2.2.2.2.1 tz8 (tnB (n := 13) hi9 (by decide))), (hG9 k9 hi9).2.2.2.2.2.2.2.2.2.2.1, wd_at.pt ew17 (hG9 k9 hi9).2.2.2.2.2.2.2.2.2.2.2.1 (tg_ne (hG9 k9 hi9).2.2.2.2.2.2.2.2.2.2.2.2 tz8 (tnB (n := 13) hi9 (by decide))), (hG9 k9 hi9).2.2.2.2.2.2.2.2.2.2.2.2⟩
        have fm49 : ∀ k9, k9 < pc → pf k9 = some (pa k9) ∧ wd_at w16 (pa k9) (.inr (3, [.int (plv k9), .int (pwo k9), .int (phd k9), .int (pgd k9), .int (pdy k9), .int (pno k9), .int (ptp k9)])) ∧ tg (pa k9) = 3000 + k9 := fun k9 hi9 => ⟨(hP9 k9 hi9).1, wd_at.pt ew17 (hP9 k9 hi9).2.1 (tg_ne (hP9 k9 hi9).2.2 tz8 (tnB (n := 30) (Nat.lt_of_lt_of_le hi9 hp90) (by decide))), (hP9 k9 hi9).2.2⟩
        have fm50 : ∀ k9, k9 < ac ∧ k9 ≠ j4 → af k9 = some (ad k9) ∧ wd_at w16 (ad k9) (.inr (0, [.int (av0 k9), .int (av1 k9), .int (av2 k9), .int (av3 k9)])) ∧ tg (ad k9) = 4000 + k9 := fun k9 hi9 => ⟨(fm18 k9 hi9).1, wd_at.pt ew17 (fm18 k9 hi9).2.1 (tg_ne (fm18 k9 hi9).2.2 tz8 (tnS hi9.2)), (fm18 k9 hi9).2.2⟩
        have fm51 : ∀ k9, k9 < sc → zf k9 = some (so k9) ∧ wd_at w16 (so k9) (.inr (6, [.int (sp0 k9), .int (sp1 k9), .ref (sr k9)])) ∧ tg (so k9) = 5000 + k9 ∧ wd_at w16 (sr k9) (.inl (cy 2, 12, .inl (sd k9))) ∧ tg (sr k9) = 6000 + k9 := fun k9 hi9 => ⟨(hS9 k9 hi9).1, wd_at.pt ew17 (hS9 k9 hi9).2.1 (tg_ne (hS9 k9 hi9).2.2.1 tz8 (tnB2 (n := 60) (Nat.lt_of_lt_of_le hn5 hp91) (by decide))), (hS9 k9 hi9).2.2.1, wd_at.pt ew17 (hS9 k9 hi9).2.2.2.1 (tg_ne (hS9 k9 hi9).2.2.2.2 tz8 (tnB2 (n := 60) (Nat.lt_of_lt_of_le hn5 hp91) (by decide))), (hS9 k9 hi9).2.2.2.2⟩
        have fm52 : ∀ k9, k9 < sh → (hf k9 = some (sw k9) ∧ hto k9 < 12) ∧ wd_at w16 (sw k9) (.inr (5, [.int (nI (hto k9)), .int (hpp k9), .int (hle k9), .int (ham k9), .int (hhh k9), .int (hdd k9), .int (hru k9), .int (hde k9), .int (hcp k9), .int (hld k9)])) ∧ tg (sw k9) = 7000 + k9 := fun k9 hi9 => ⟨(hH9 k9 hi9).1, wd_at.pt ew17 (hH9 k9 hi9).2.1 (tg_ne (hH9 k9 hi9).2.2 tz8 (tnB2 (n := 60) (Nat.lt_of_lt_of_le hn5 hp91) (by decide))), (hH9 k9 hi9).2.2⟩
        have kp53 := kp0.put ew17 (tgS tz8 (by omega))
        refine lv_aload_n hx hb dX10_lose_38 rfl (lv_at hl 0 rfl) ?_
        refine lv_iconst (v := (-1)) hx hb dX10_lose_39 (by decide) ?_
        refine y_put (ref := "NoteHouse$Advice") F hP hD hS k46 rfl (fun _ h => List.mem_cons_of_mem _ (List.mem_append_left _ (List.mem_append_right _ (h)))) tyX0_ok nmX0 2 (Nat.le_of_ble_eq_true rfl) (List.mem_cons_of_mem _ (List.mem_append_left _ (List.mem_append_left _ (List.mem_of_getElem? (i := 1) rfl)))) rfl rfl rfl rfl (Nat.le_of_ble_eq_true rfl) dX10_lose_40 (fun w54 ew55 H locs hP hD hS => ?_)
        have k56 := wd_at.pt ew55 k19 (tg_ne tI0 tz8 (tnA2 (show 0 < 4000 by decide)))
        have k57 := wd_at.pt ew55 k20 (tg_ne tI1 tz8 (tnA2 (show 1 < 4000 by decide)))
        have k58 := wd_at.pt ew55 k21 (tg_ne tI2 tz8 (tnA2 (show 2 < 4000 by decide)))
        have k59 := wd_at.pt ew55 k22 (tg_ne tI3 tz8 (tnA2 (show 3 < 4000 by decide)))
        have k60 := wd_at.pt ew55 k23 (tg_ne tI4 tz8 (tnA2 (show 4 < 4000 by decide)))
        have k61 := wd_at.pt ew55 k24 (tg_ne tI5 tz8 (tnA2 (show 5 < 4000 by decide)))
        have k62 := wd_at.pt ew55 k25 (tg_ne tI6 tz8 (tnA2 (show 6 < 4000 by decide)))
        have k63 := wd_at.pt ew55 k26 (tg_ne tI7 tz8 (tnA2 (show 7 < 4000 by decide)))
        have k64 := wd_at.pt ew55 k27 (tg_ne tI8 tz8 (tnA2 (show 8 < 4000 by decide)))
        have k65 := wd_at.pt ew55 k28 (tg_ne tI9 tz8 (tnA2 (show 9 < 4000 by decide)))
        have k66 := wd_at.pt ew55 k29 (tg_ne tI10 tz8 (tnA2 (show 10 < 4000 by decide)))
        have k67 := wd_at.pt ew55 k30 (tg_ne tI11 tz8 (tnA2 (show 11 < 4000 by decide)))
        have k68 := wd_at.pt ew55 k31 (tg_ne tI12 tz8 (tnA2 (show 12 < 4000 by decide)))
        have k69 := wd_at.pt ew55 k32 (tg_ne tI13 tz8 (tnA2 (show 13 < 4000 by decide)))
        have k70 := wd_at.pt ew55 k33 (tg_ne tI14 tz8 (tnA2 (show 14 < 4000 by decide)))
        have k71 := wd_at.pt ew55 k34 (tg_ne tI15 tz8 (tnA2 (show 15 < 4000 by decide)))
        have k72 := wd_at.pt ew55 k35 (tg_ne tI16 tz8 (tnA2 (show 16 < 4000 by decide)))
        have k73 := wd_at.pt ew55 k36 (tg_ne tI17 tz8 (tnA2 (show 17 < 4000 by decide)))
        have k74 := wd_at.pt ew55 k37 (tg_ne tI18 tz8 (tnA2 (show 18 < 4000 by decide)))
        have k75 := wd_at.pt ew55 k38 (tg_ne tI19 tz8 (tnA2 (show 19 < 4000 by decide)))
        have k76 := wd_at.pt ew55 k39 (tg_ne tI20 tz8 (tnA2 (show 20 < 4000 by decide)))
        have k77 := wd_at.pt ew55 k40 (tg_ne tI21 tz8 (tnA2 (show 21 < 4000 by decide)))
        have k78 := wd_at.pt ew55 k41 (tg_ne tI22 tz8 (tnA2 (show 22 < 4000 by decide)))
        have k79 := wd_at.pt ew55 k42 (tg_ne tI23 tz8 (tnB (n := 2) hlu (by decide)))
        have k80 := wd_at.pt ew55 k43 (tg_ne tI24 tz8 (tnB (n := 2) hlu (by decide)))
        have k81 := wd_at.pt ew55 k44 (tg_ne tI25 tz8 (tnB (n := 2) hlv (by decide)))
        have k82 := wd_at.pt ew55 k45 (tg_ne tI26 tz8 (tnB (n := 2) hlv (by decide)))
        have k83 : wd_at w54 (ad j4) (.inr (0, [.int (av0 j4), .int (av1 j4), .int (-1), .int 1])) := wd_at.ps ew55 k46
        have fm84 : ∀ i9, i9 < 12 → tf i9 = some (tn i9) ∧ wd_at w54 (tn i9) (.inr (8, [.int (co i9), .int (ra i9), .int (se i9), .ref (ag i9)])) ∧ tg (tn i9) = 100 + i9 := fun i9 hi9 => ⟨(fm47 i9 hi9).1, wd_at.pt ew55 (fm47 i9 hi9).2.1 (tg_ne (fm47 i9 hi9).2.2 tz8 (tnB (n := 12) hi9 (by decide))), (fm47 i9 hi9).2.2⟩
        have fm85 : ∀ k9, k9 < 13 → (aOK (cf k9) (nf k9) ∧ ru k9 ≤ 12) ∧ wd_at w54 (aa k9) (.inr (1, [.ref (ga0 k9), .ref (ga1 k9), .ref (ga2 k9), .ref (ga3 k9), .ref (ga4 k9), .int (nI (ru k9))])) ∧ tg (aa k9) = 200 + k9 ∧ wd_at w54 (ga0 k9) (.inl (cy 2, 12, .inl (df k9))) ∧ tg (ga0 k9) = 220 + k9 ∧ wd_at w54 (ga1 k9) (.inl (cy 2, 12, .inl (cf k9))) ∧ tg (ga1 k9) = 240 + k9 ∧ wd_at w54 (ga2 k9) (.inl (cy 2, 72, .inl (nf k9))) ∧ tg (ga2 k9) = 260 + k9 ∧ wd_at w54 (ga3 k9) (.inl (cy 1, 72, .inl (sf k9))) ∧ tg (ga3 k9) = 280 + k9 ∧ wd_at w54 (ga4 k9) (.inl (cy 2, 72, .inl (uf k9))) ∧ tg (ga4 k9) = 300 + k9 := fun k9 hi9 => ⟨(fm48 k9 hi9).1, wd_at.pt ew55 (fm48 k9 hi9).2.1 (tg_ne (fm48 k9 hi9).2.2.1 tz8 (tnB (n := 13) hi9 (by decide))), (fm48 k9 hi9).2.2.1, wd_at.pt ew55 (fm48 k9 hi9).2.2.2.1 (tg_ne (fm48 k9 hi9).2.2.2.2.1 tz8 (tnB (n := 13) hi9 (by decide))), (fm48 k9 hi9).2.2.2.2.1, wd_at.pt ew55 (fm48 k9 hi9).2.2.2.2.2.1 (tg_ne (fm48 k9 hi9).2.2.2.2.2.2.1 tz8 (tnB (n := 13) hi9 (by decide))), (fm48 k9 hi9).2.2.2.2.2.2.1, wd_at.pt ew55 (fm48 k9 hi9).2.2.2.2.2.2.2.1 (tg_ne (fm48 k9 hi9).2.2.2.2.2.2.2.2.1 tz8 (tnB (n := 13) hi9 (by decide))), (fm48 k9 hi9).2.2.2.2.2.2.2.2.1, wd_at.pt ew55 (fm48 k9 hi9).2.2.2.2.2.2.2.2.2.1 (tg_ne (fm48 k9 hi9).2.2.2.2.2.2.2.2.2.2.1 tz8 (tnB (n := 13) hi9 (by decide))), (fm48 k9 hi9).2.2.2.2.2.2.2.2.2.2.1, wd_at.pt ew55 (fm48 k9 hi9).2.2.2.2.2.2.2.2.2.2.2.1 (tg_ne (fm48 k9 hi9).2.2.2.2.2.2.2.2.2.2.2.2 tz8 (tnB (n := 13) hi9 (by decide))), (fm48 k9 hi9).2.2.2.2.2.2.2.2.2.2.2.2⟩
        have fm86 : ∀ k9, k9 < pc → pf k9 = some (pa k9) ∧ wd_at w54 (pa k9) (.inr (3, [.int (plv k9), .int (pwo k9), .int (phd k9), .int (pgd k9), .int (pdy k9), .int (pno k9), .int (ptp k9)])) ∧ tg (pa k9) = 3000 + k9 := fun k9 hi9 => ⟨(fm49 k9 hi9).1, wd_at.pt ew55 (fm49 k9 hi9).2.1 (tg_ne (fm49 k9 hi9).2.2 tz8 (tnB (n := 30) (Nat.lt_of_lt_of_le hi9 hp90) (by decide))), (fm49 k9 hi9).2.2⟩
        have fm87 : ∀ k9, k9 < ac ∧ k9 ≠ j4 → af k9 = some (ad k9) ∧ wd_at w54 (ad k9) (.inr (0, [.int (av0 k9), .int (av1 k9), .int (av2 k9), .int (av3 k9)])) ∧ tg (ad k9) = 4000 + k9 := fun k9 hi9 => ⟨(fm50 k9 hi9).1, wd_at.pt ew55 (fm50 k9 hi9).2.1 (tg_ne (fm50 k9 hi9).2.2 tz8 (tnS hi9.2)), (fm50 k9 hi9).2.2⟩
        have fm88 : ∀ k9, k9 < sc → zf k9 = some (so k9) ∧ wd_at w54 (so k9) (.inr (6, [.int (sp0 k9), .int (sp1 k9), .ref (sr k9)])) ∧ tg (so k9) = 5000 + k9 ∧ wd_at w54 (sr k9) (.inl (cy 2, 12, .inl (sd k9))) ∧ tg (sr k9) = 6000 + k9 := fun k9 hi9 => ⟨(fm51 k9 hi9).1, wd_at.pt ew55 (fm51 k9 hi9).2.1 (tg_ne (fm51 k9 hi9).2.2.1 tz8 (tnB2 (n := 60) (Nat.lt_of_lt_of_le hn5 hp91) (by decide))), (fm51 k9 hi9).2.2.1, wd_at.pt ew55 (fm51 k9 hi9).2.2.2.1 (tg_ne (fm51 k9 hi9).2.2.2.2 tz8 (tnB2 (n := 60) (Nat.lt_of_lt_of_le hn5 hp91) (by decide))), (fm51 k9 hi9).2.2.2.2⟩
        have fm89 : ∀ k9, k9 < sh → (hf k9 = some (sw k9) ∧ hto k9 < 12) ∧ wd_at w54 (sw k9) (.inr (5, [.int (nI (hto k9)), .int (hpp k9), .int (hle k9), .int (ham k9), .int (hhh k9), .int (hdd k9), .int (hru k9), .int (hde k9), .int (hcp k9), .int (hld k9)])) ∧ tg (sw k9) = 7000 + k9 := fun k9 hi9 => ⟨(fm52 k9 hi9).1, wd_at.pt ew55 (fm52 k9 hi9).2.1 (tg_ne (fm52 k9 hi9).2.2 tz8 (tnB2 (n := 60) (Nat.lt_of_lt_of_le hn5 hp91) (by decide))), (fm52 k9 hi9).2.2⟩
        have kp90 := kp53.put ew55 (tgS tz8 (by omega))
        refine lv_iconst (v := 1) hx hb dX10_lose_43 (by decide) ?_
        have fm92 : ∀ k9, k9 < ac → af k9 = some (ad k9) ∧ wd_at w54 (ad k9) (.inr (0, [.int (av0 k9), .int (av1 k9), .int ((va_up av2 j4 (-1)) k9), .int ((va_up av3 j4 1) k9)])) ∧ tg (ad k9) = 4000 + k9 := by
          intro k9 hi9
          by_cases e9 : k9 = j4
          · rw [e9]
            exact ⟨pr6, (by simp only [va_up_self]; exact k83), tz8⟩
          · simp only [va_up_ne _ _ e9]
            exact fm87 k9 (by omega)
        have hX93 : IX cy tg x td pc ac sc ln se plv w54 := IX.mk a0 a1 a2 a3 a4 a5 a6 a7 a8 a10 a11 b0 b1 b2 b3 tb l0 l1 l2 l3 l4 l5 l6 l7 bl bm sh gc sg lu lv9 f0 f1 f2 f3 tbf e0 e1 e4 e5 e7 ff bf bf2 e2 e3 e6 ta sz fo to fo2 to2 tf tn ag co ra aa ru ga0 ga1 ga2 ga3 ga4 df cf nf sf uf pf pa pwo phd pgd pdy pno ptp af ad av0 av1 (va_up av2 j4 (-1)) (va_up av3 j4 1) zf so sr sp0 sp1 sd hf sw hto hpp hle ham hhh hdd hru hde hcp hld (by omega) (by omega) (by omega) (by omega) (by omega) (by omega) (by omega) (by omega) hag k56 tI0 k57 tI1 k58 tI2 k59 tI3 k60 tI4 k61 tI5 k62 tI6 k63 tI7 k64 tI8 k65 tI9 k66 tI10 k67 tI11 k68 tI12 k69 tI13 k70 tI14 k71 tI15 k72 tI16 k73 tI17 k74 tI18 k75 tI19 k76 tI20 k77 tI21 k78 tI22 k79 tI23 k80 tI24 k81 tI25 k82 tI26 fm84 fm85 fm86 fm92 fm88 fm89
        exact y_ir K hP hD hS (Nat.le_of_ble_eq_true rfl) (Nat.le_of_ble_eq_true rfl) (ty := .boolean) rfl rfl dX10_lose_44 (⟨⟨_, rfl⟩, ⟨tg, (fun _ _ => rfl), kp90, hX93⟩⟩)
      · refine lv_iconst (v := 0) hx hb dX10_lose_31 (by decide) ?_
        exact y_ir K hP hD hS (Nat.le_of_ble_eq_true rfl) (Nat.le_of_ble_eq_true rfl) (ty := .boolean) rfl rfl dX10_lose_32 (⟨⟨_, rfl⟩, ⟨tg, fun _ _ => rfl, wd_kp.rf, hIX0⟩⟩)
set_option maxHeartbeats 4000000 in
set_option maxRecDepth 100000 in
theorem X_feed (l : Launch) (D : va_G) (cy : Nat → ClassId) (sk sv : Nat → Nat) (w : Wd) (tg : Nat → Nat) (x : Nat) (td : Int32) (pc ac sc ln : Nat) (se plv : Nat → Int32) (x1 x2 x3 x4 x5 : Int32) (hIX0 : IX cy tg x td pc ac sc ln se plv w) : Ct l D cy sk sv yX10_feed wsX10_feed ({ frames := 1, cells := 0, slots := 0, locals := 22 }) [.ref x, .int x1, .int x2, .int x3, .int x4, .int x5] w (fun v w1 => v = some (.int (feedA ln)) ∧ XP cy tg x td pc ac sc (feedC ln) se plv w w1) := by
  refine Ct.by (cc := cX10_feed) (maxL := 6) (ret := (some .int)) (by decide +kernel) rfl (Nat.le_of_ble_eq_true rfl) ?_
  intro p e s m args below meth c A Q F hnm K ls hl
  have F : wd_Fx p s m args meth c cX10_feed 6 wsX10_feed RX10 D cy sk sv A := F
  have hl : lv_has ls 6 [(0, .ref x), (1, .int x1), (2, .int x2), (3, .int x3), (4, .int x4), (5, .int x5)] := hl
  have hx := F.1.1
  have hb := F.1.2.1
  have hown := F.1.2.2.2.1
  have hts := F.1.2.2.2.2
  intro H locs hP hD hS
  have kp0 : wd_kp (fun b => tg b < 10000) w w := wd_kp.rf
  refine hIX0 _ ?_
  intro a0 a1 a2 a3 a4 a5 a6 a7 a8 a10 a11 b0 b1 b2 b3 tb l0 l1 l2 l3 l4 l5 l6 l7 bl bm sh gc sg lu lv9 f0 f1 f2 f3 tbf e0 e1 e4 e5 e7 ff bf bf2 e2 e3 e6 ta sz fo to fo2 to2 tf tn ag co ra aa ru ga0 ga1 ga2 ga3 ga4 df cf nf sf uf pf pa pwo phd pgd pdy pno ptp af ad av0 av1 av2 av3 zf so sr sp0 sp1 sd hf sw hto hpp hle ham hhh hdd hru hde hcp hld hp90 hp91 hp92 hp93 hp94 hp95 hp96 hp97 hag kI0 tI0 kI1 tI1 kI2 tI2 kI3 tI3 kI4 tI4 kI5 tI5 kI6 tI6 kI7 tI7 kI8 tI8 kI9 tI9 kI10 tI10 kI11 tI11 kI12 tI12 kI13 tI13 kI14 tI14 kI15 tI15 kI16 tI16 kI17 tI17 kI18 tI18 kI19 tI19 kI20 tI20 kI21 tI21 kI22 tI22 kI23 tI23 kI24 tI24 kI25 tI25 kI26 tI26 hT9 hG9 hP9 hA9 hS9 hH9
  have hlu : lu < 2 := by omega
  have hlv : lv9 < 2 := by omega
  refine lv_aload_n hx hb dX10_feed_0 rfl (lv_at hl 0 rfl) ?_
  refine x_get (ref := "NoteHouse") F hP kI0 rfl (fun _ h => List.mem_cons_of_mem _ (List.mem_append_left _ (List.mem_append_right _ (h)))) 6 (Nat.le_of_ble_eq_true rfl) (List.mem_cons_of_mem _ (List.mem_append_left _ (List.mem_append_left _ (List.mem_of_getElem? (i := 0) rfl)))) rfl rfl dX10_feed_1 ?_
  refine lv_bipush (v := 20) hx hb dX10_feed_4 (by decide) ?_
  refine x_callV (n := 1) (As := [.int 20]) (rest := []) F hP hD hS (g_hasRoom l D cy sk sv w a6 tb ln ta kI11 (by omega)) gX10_feed_X7_hasRoom rfl rfl (by decide +kernel) ⟨(Nat.le_of_ble_eq_true rfl), (Nat.le_of_ble_eq_true rfl)⟩ rfl hl.1 (Nat.le_of_ble_eq_true rfl) kI11 rfl dX10_feed_6 rfl ⟨(Nat.le_of_ble_eq_true rfl), (Nat.le_of_ble_eq_true rfl)⟩ (fun v2 w3 hp1 H locs hP hD hS => ?_)
  obtain ⟨rx4, rfl, hz5, hz6, hz7, rfl⟩ := hp1
  refine W.eq (g2 := F0 m 9 ls [.int rx4]) rfl (W.widen (k := 0) (n := 0) (Nat.le_of_ble_eq_true rfl) (Nat.le_of_ble_eq_true rfl) ?_)
  refine lv_if_ne (tgt := 14) hx hb dX10_feed_9 (by decide) (fun c_8 => ?_) (fun c_8 => ?_)
  · have hrm := hz7 c_8
    refine lv_aload_n hx hb dX10_feed_14 rfl (lv_at hl 0 rfl) ?_
    refine x_get (ref := "NoteHouse") F hP kI0 rfl (fun _ h => List.mem_cons_of_mem _ (List.mem_append_left _ (List.mem_append_right _ (h)))) 6 (Nat.le_of_ble_eq_true rfl) (List.mem_cons_of_mem _ (List.mem_append_left _ (List.mem_append_left _ (List.mem_of_getElem? (i := 0) rfl)))) rfl rfl dX10_feed_15 ?_
    refine lv_iload_n hx hb dX10_feed_18 rfl (lv_at hl 1 rfl) ?_
    refine x_callV (n := 1) (As := [.int x1]) (rest := []) F hP hD hS (g_append l D cy sk sv w a6 tb ln ta x1 tbf kI11 kI12 (fun b => b = a6 ∨ b = tb) (Or.inl rfl) (Or.inr rfl) (by omega)) gX10_feed_X7_append rfl rfl (by decide +kernel) ⟨(Nat.le_of_ble_eq_true rfl), (Nat.le_of_ble_eq_true rfl)⟩ rfl hl.1 (Nat.le_of_ble_eq_true rfl) kI11 rfl dX10_feed_19 rfl ⟨(Nat.le_of_ble_eq_true rfl), (Nat.le_of_ble_eq_true rfl)⟩ (fun v10 w11 hp9 H locs hP hD hS => ?_)
    obtain ⟨gx12, rfl, kq15, k13, k14⟩ := hp9
    have k16 := kq15.2 _ _ kI0 (orN (tg_ne tI0 tI11 (by decide)) (tg_ne tI0 tI12 (by decide)))
    have k17 := kq15.2 _ _ kI1 (orN (tg_ne tI1 tI11 (by decide)) (tg_ne tI1 tI12 (by decide)))
    have k18 := kq15.2 _ _ kI2 (orN (tg_ne tI2 tI11 (by decide)) (tg_ne tI2 tI12 (by decide)))
    have k19 := kq15.2 _ _ kI3 (orN (tg_ne tI3 tI11 (by decide)) (tg_ne tI3 tI12 (by decide)))
    have k20 := kq15.2 _ _ kI4 (orN (tg_ne tI4 tI11 (by decide)) (tg_ne tI4 tI12 (by decide)))
    have k21 := kq15.2 _ _ kI5 (orN (tg_ne tI5 tI11 (by decide)) (tg_ne tI5 tI12 (by decide)))
    have k22 := kq15.2 _ _ kI6 (orN (tg_ne tI6 tI11 (by decide)) (tg_ne tI6 tI12 (by decide)))
    have k23 := kq15.2 _ _ kI7 (orN (tg_ne tI7 tI11 (by decide)) (tg_ne tI7 tI12 (by decide)))
    have k24 := kq15.2 _ _ kI8 (orN (tg_ne tI8 tI11 (by decide)) (tg_ne tI8 tI12 (by decide)))
    have k25 := kq15.2 _ _ kI9 (orN (tg_ne tI9 tI11 (by decide)) (tg_ne tI9 tI12 (by decide)))
    have k26 := kq15.2 _ _ kI10 (orN (tg_ne tI10 tI11 (by decide)) (tg_ne tI10 tI12 (by decide)))
    have k27 := kq15.2 _ _ kI13 (orN (tg_ne tI13 tI11 (by decide)) (tg_ne tI13 tI12 (by decide)))
    have k28 := kq15.2 _ _ kI14 (orN (tg_ne tI14 tI11 (by decide)) (tg_ne tI14 tI12 (by decide)))
    have k29 := kq15.2 _ _ kI15 (orN (tg_ne tI15 tI11 (by decide)) (tg_ne tI15 tI12 (by decide)))
    have k30 := kq15.2 _ _ kI16 (orN (tg_ne tI16 tI11 (by decide)) (tg_ne tI16 tI12 (by decide)))
    have k31 := kq15.2 _ _ kI17 (orN (tg_ne tI17 tI11 (by decide)) (tg_ne tI17 tI12 (by decide)))
    have k32 := kq15.2 _ _ kI18 (orN (tg_ne tI18 tI11 (by decide)) (tg_ne tI18 tI12 (by decide)))
    have k33 := kq15.2 _ _ kI19 (orN (tg_ne tI19 tI11 (by decide)) (tg_ne tI19 tI12 (by decide)))
    have k34 := kq15.2 _ _ kI20 (orN (tg_ne tI20 tI11 (by decide)) (tg_ne tI20 tI12 (by decide)))
    have k35 := kq15.2 _ _ kI21 (orN (tg_ne tI21 tI11 (by decide)) (tg_ne tI21 tI12 (by decide)))
    have k36 := kq15.2 _ _ kI22 (orN (tg_ne tI22 tI11 (by decide)) (tg_ne tI22 tI12 (by decide)))
    have k37 := kq15.2 _ _ kI23 (orN (tg_ne tI23 tI11 (tnA (show 11 < 30 by decide))) (tg_ne tI23 tI12 (tnA (show 12 < 30 by decide))))
    have k38 := kq15.2 _ _ kI24 (orN (tg_ne tI24 tI11 (tnA (show 11 < 32 by decide))) (tg_ne tI24 tI12 (tnA (show 12 < 32 by decide))))
    have k39 := kq15.2 _ _ kI25 (orN (tg_ne tI25 tI11 (tnA (show 11 < 30 by decide))) (tg_ne tI25 tI12 (tnA (show 12 < 30 by decide))))
    have k40 := kq15.2 _ _ kI26 (orN (tg_ne tI26 tI11 (tnA (show 11 < 32 by decide))) (tg_ne tI26 tI12 (tnA (show 12 < 32 by decide))))
    have fm41 : ∀ i9, i9 < 12 → tf i9 = some (tn i9) ∧ wd_at w11 (tn i9) (.inr (8, [.int (co i9), .int (ra i9), .int (se i9), .ref (ag i9)])) ∧ tg (tn i9) = 100 + i9 := fun i9 hi9 => ⟨(hT9 i9 hi9).1, kq15.2 _ _ (hT9 i9 hi9).2.1 (orN (tg_ne (hT9 i9 hi9).2.2 tI11 (tnA (show 11 < 100 by decide))) (tg_ne (hT9 i9 hi9).2.2 tI12 (tnA (show 12 < 100 by decide)))), (hT9 i9 hi9).2.2⟩
    have fm42 : ∀ k9, k9 < 13 → (aOK (cf k9) (nf k9) ∧ ru k9 ≤ 12) ∧ wd_at w11 (aa k9) (.inr (1, [.ref (ga0 k9), .ref (ga1 k9), .ref (ga2 k9), .ref (ga3 k9), .ref (ga4 k9), .int (nI (ru k9))])) ∧ tg (aa k9) = 200 + k9 ∧ wd_at w11 (ga0 k9) (.inl (cy 2, 12, .inl (df k9))) ∧ tg (ga0 k9) = 220 + k9 ∧ wd_at w11 (ga1 k9) (.inl (cy 2, 12, .inl (cf k9))) ∧ tg (ga1 k9) = 240 + k9 ∧ wd_at w11 (ga2 k9) (.inl (cy 2, 72, .inl (nf k9))) ∧ tg (ga2 k9) = 260 + k9 ∧ wd_at w11 (ga3 k9) (.inl (cy 1, 72, .inl (sf k9))) ∧ tg (ga3 k9) = 280 + k9 ∧ wd_at w11 (ga4 k9) (.inl (cy 2, 72, .inl (uf k9))) ∧ tg (ga4 k9) = 300 + k9 := fun k9 hi9 => ⟨(hG9 k9 hi9).1, kq15.2 _ _ (hG9 k9 hi9).2.1 (orN (tg_ne (hG9 k9 hi9).2.2.1 tI11 (tnA (show 11 < 200 by decide))) (tg_ne (hG9 k9 hi9).2.2.1 tI12 (tnA (show 12 < 200 by decide)))), (hG9 k9 hi9).2.2.1, kq15.2 _ _ (hG9 k9 hi9).2.2.2.1 (orN (tg_ne (hG9 k9 hi9).2.2.2.2.1 tI11 (tnA (show 11 < 220 by decide))) (tg_ne (hG9 k9 hi9).2.2.2.2.1 tI12 (tnA (show 12 < 220 by decide)))), (hG9 k9 hi9).2.2.2.2.1, kq15.2 _ _ (hG9 k9 hi9).2.2.2.2.2.1 (orN (tg_ne (hG9 k9 hi9).2.2.2.2.2.2.1 tI11 (tnA (show 11 < 240 by decide))) (tg_ne (hG9 k9 hi9).2.2.2.2.2.2.1 tI12 (tnA (show 12 < 240 by decide)))), (hG9 k9 hi9).2.2.2.2.2.2.1, kq15.2 _ _ (hG9 k9 hi9).2.2.2.2.2.2.2.1 (orN (tg_ne (hG9 k9 hi9).2.2.2.2.2.2.2.2.1 tI11 (tnA (show 11 < 260 by decide))) (tg_ne (hG9 k9 hi9).2.2.2.2.2.2.2.2.1 tI12 (tnA (show 12 < 260 by decide)))), (hG9 k9 hi9).2.2.2.2.2.2.2.2.1, kq15.2 _ _ (hG9 k9 hi9).2.2.2.2.2.2.2.2.2.1 (orN (tg_ne (hG9 k9 hi9).2.2.2.2.2.2.2.2.2.2.1 tI11 (tnA (show 11 < 280 by decide))) (tg_ne (hG9 k9 hi9).2.2.2.2.2.2.2.2.2.2.1 tI12 (tnA (show 12 < 280 by decide)))), (hG9 k9 hi9).2.2.2.2.2.2.2.2.2.2.1, kq15.2 _ _ (hG9 k9 hi9).2.2.2.2.2.2.2.2.2.2.2.1 (orN (tg_ne (hG9 k9 hi9).2.2.2.2.2.2.2.2.2.2.2.2 tI11 (tnA (show 11 < 300 by decide))) (tg_ne (hG9 k9 hi9).2.2.2.2.2.2.2.2.2.2.2.2 tI12 (tnA (show 12 < 300 by decide)))), (hG9 k9 hi9).2.2.2.2.2.2.2.2.2.2.2.2⟩
    have fm43 : ∀ k9, k9 < pc → pf k9 = some (pa k9) ∧ wd_at w11 (pa k9) (.inr (3, [.int (plv k9), .int (pwo k9), .int (phd k9), .int (pgd k9), .int (pdy k9), .int (pno k9), .int (ptp k9)])) ∧ tg (pa k9) = 3000 + k9 := fun k9 hi9 => ⟨(hP9 k9 hi9).1, kq15.2 _ _ (hP9 k9 hi9).2.1 (orN (tg_ne (hP9 k9 hi9).2.2 tI11 (tnA (show 11 < 3000 by decide))) (tg_ne (hP9 k9 hi9).2.2 tI12 (tnA (show 12 < 3000 by decide)))), (hP9 k9 hi9).2.2⟩
    have fm44 : ∀ k9, k9 < ac → af k9 = some (ad k9) ∧ wd_at w11 (ad k9) (.inr (0, [.int (av0 k9), .int (av1 k9), .int (av2 k9), .int (av3 k9)])) ∧ tg (ad k9) = 4000 + k9 := fun k9 hi9 => ⟨(hA9 k9 hi9).1, kq15.2 _ _ (hA9 k9 hi9).2.1 (orN (tg_ne (hA9 k9 hi9).2.2 tI11 (tnA (show 11 < 4000 by decide))) (tg_ne (hA9 k9 hi9).2.2 tI12 (tnA (show 12 < 4000 by decide)))), (hA9 k9 hi9).2.2⟩
    have fm45 : ∀ k9, k9 < sc → zf k9 = some (so k9) ∧ wd_at w11 (so k9) (.inr (6, [.int (sp0 k9), .int (sp1 k9), .ref (sr k9)])) ∧ tg (so k9) = 5000 + k9 ∧ wd_at w11 (sr k9) (.inl (cy 2, 12, .inl (sd k9))) ∧ tg (sr k9) = 6000 + k9 := fun k9 hi9 => ⟨(hS9 k9 hi9).1, kq15.2 _ _ (hS9 k9 hi9).2.1 (orN (tg_ne (hS9 k9 hi9).2.2.1 tI11 (tnA (show 11 < 5000 by decide))) (tg_ne (hS9 k9 hi9).2.2.1 tI12 (tnA (show 12 < 5000 by decide)))), (hS9 k9 hi9).2.2.1, kq15.2 _ _ (hS9 k9 hi9).2.2.2.1 (orN (tg_ne (hS9 k9 hi9).2.2.2.2 tI11 (tnA (show 11 < 6000 by decide))) (tg_ne (hS9 k9 hi9).2.2.2.2 tI12 (tnA (show 12 < 6000 by decide)))), (hS9 k9 hi9).2.2.2.2⟩
    have fm46 : ∀ k9, k9 < sh → (hf k9 = some (sw k9) ∧ hto k9 < 12) ∧ wd_at w11 (sw k9) (.inr (5, [.int (nI (hto k9)), .int (hpp k9), .int (hle k9), .int (ham k9), .int (hhh k9), .int (hdd k9), .int (hru k9), .int (hde k9), .int (hcp k9), .int (hld k9)])) ∧ tg (sw k9) = 7000 + k9 := fun k9 hi9 => ⟨(hH9 k9 hi9).1, kq15.2 _ _ (hH9 k9 hi9).2.1 (orN (tg_ne (hH9 k9 hi9).2.2 tI11 (tnA (show 11 < 7000 by decide))) (tg_ne (hH9 k9 hi9).2.2 tI12 (tnA (show 12 < 7000 by decide)))), (hH9 k9 hi9).2.2⟩
    have kp47 := kp0.tr kq15 (fun b9 hm q9 => (fun q9 => Or.elim q9 (fun q9 => q9 ▸ (tgS tI11 (by decide))) (fun q9 => q9 ▸ (tgS tI12 (by decide)))) q9)
    refine W.eq (g2 := F0 m 22 ls []) rfl (W.widen (k := 0) (n := 0) (Nat.le_of_ble_eq_true rfl) (Nat.le_of_ble_eq_true rfl) ?_)
    refine lv_aload_n hx hb dX10_feed_22 rfl (lv_at hl 0 rfl) ?_
    refine x_get (ref := "NoteHouse") F hP k16 rfl (fun _ h => List.mem_cons_of_mem _ (List.mem_append_left _ (List.mem_append_right _ (h)))) 6 (Nat.le_of_ble_eq_true rfl) (List.mem_cons_of_mem _ (List.mem_append_left _ (List.mem_append_left _ (List.mem_of_getElem? (i := 0) rfl)))) rfl rfl dX10_feed_23 ?_
    refine lv_iload_n hx hb dX10_feed_26 rfl (lv_at hl 2 rfl) ?_
    refine x_callV (n := 1) (As := [.int x2]) (rest := []) F hP hD hS (g_append l D cy sk sv w11 a6 tb (ln + 4) ta x2 gx12 k13 k14 (fun b => b = a6 ∨ b = tb) (Or.inl rfl) (Or.inr rfl) (by omega)) gX10_feed_X7_append rfl rfl (by decide +kernel) ⟨(Nat.le_of_ble_eq_true rfl), (Nat.le_of_ble_eq_true rfl)⟩ rfl hl.1 (Nat.le_of_ble_eq_true rfl) k13 rfl dX10_feed_27 rfl ⟨(Nat.le_of_ble_eq_true rfl), (Nat.le_of_ble_eq_true rfl)⟩ (fun v49 w50 hp48 H locs hP hD hS => ?_)
    obtain ⟨gx51, rfl, kq54, k52, k53⟩ := hp48
    have k55 := kq54.2 _ _ k16 (orN (tg_ne tI0 tI11 (by decide)) (tg_ne tI0 tI12 (by decide)))
    have k56 := kq54.2 _ _ k17 (orN (tg_ne tI1 tI11 (by decide)) (tg_ne tI1 tI12 (by decide)))
    have k57 := kq54.2 _ _ k18 (orN (tg_ne tI2 tI11 (by decide)) (tg_ne tI2 tI12 (by decide)))
    have k58 := kq54.2 _ _ k19 (orN (tg_ne tI3 tI11 (by decide)) (tg_ne tI3 tI12 (by decide)))
    have k59 := kq54.2 _ _ k20 (orN (tg_ne tI4 tI11 (by decide)) (tg_ne tI4 tI12 (by decide)))
    have k60 := kq54.2 _ _ k21 (orN (tg_ne tI5 tI11 (by decide)) (tg_ne tI5 tI12 (by decide)))
    have k61 := kq54.2 _ _ k22 (orN (tg_ne tI6 tI11 (by decide)) (tg_ne tI6 tI12 (by decide)))
    have k62 := kq54.2 _ _ k23 (orN (tg_ne tI7 tI11 (by decide)) (tg_ne tI7 tI12 (by decide)))
    have k63 := kq54.2 _ _ k24 (orN (tg_ne tI8 tI11 (by decide)) (tg_ne tI8 tI12 (by decide)))
    have k64 := kq54.2 _ _ k25 (orN (tg_ne tI9 tI11 (by decide)) (tg_ne tI9 tI12 (by decide)))
    have k65 := kq54.2 _ _ k26 (orN (tg_ne tI10 tI11 (by decide)) (tg_ne tI10 tI12 (by decide)))
    have k66 := kq54.2 _ _ k27 (orN (tg_ne tI13 tI11 (by decide)) (tg_ne tI13 tI12 (by decide)))
    have k67 := kq54.2 _ _ k28 (orN (tg_ne tI14 tI11 (by decide)) (tg_ne tI14 tI12 (by decide)))
    have k68 := kq54.2 _ _ k29 (orN (tg_ne tI15 tI11 (by decide)) (tg_ne tI15 tI12 (by decide)))
    have k69 := kq54.2 _ _ k30 (orN (tg_ne tI16 tI11 (by decide)) (tg_ne tI16 tI12 (by decide)))
    have k70 := kq54.2 _ _ k31 (orN (tg_ne tI17 tI11 (by decide)) (tg_ne tI17 tI12 (by decide)))
    have k71 := kq54.2 _ _ k32 (orN (tg_ne tI18 tI11 (by decide)) (tg_ne tI18 tI12 (by decide)))
    have k72 := kq54.2 _ _ k33 (orN (tg_ne tI19 tI11 (by decide)) (tg_ne tI19 tI12 (by decide)))
    have k73 := kq54.2 _ _ k34 (orN (tg_ne tI20 tI11 (by decide)) (tg_ne tI20 tI12 (by decide)))
    have k74 := kq54.2 _ _ k35 (orN (tg_ne tI21 tI11 (by decide)) (tg_ne tI21 tI12 (by decide)))
    have k75 := kq54.2 _ _ k36 (orN (tg_ne tI22 tI11 (by decide)) (tg_ne tI22 tI12 (by decide)))
    have k76 := kq54.2 _ _ k37 (orN (tg_ne tI23 tI11 (tnA (show 11 < 30 by decide))) (tg_ne tI23 tI12 (tnA (show 12 < 30 by decide))))
    have k77 := kq54.2 _ _ k38 (orN (tg_ne tI24 tI11 (tnA (show 11 < 32 by decide))) (tg_ne tI24 tI12 (tnA (show 12 < 32 by decide))))
    have k78 := kq54.2 _ _ k39 (orN (tg_ne tI25 tI11 (tnA (show 11 < 30 by decide))) (tg_ne tI25 tI12 (tnA (show 12 < 30 by decide))))
    have k79 := kq54.2 _ _ k40 (orN (tg_ne tI26 tI11 (tnA (show 11 < 32 by decide))) (tg_ne tI26 tI12 (tnA (show 12 < 32 by decide))))
    have fm80 : ∀ i9, i9 < 12 → tf i9 = some (tn i9) ∧ wd_at w50 (tn i9) (.inr (8, [.int (co i9), .int (ra i9), .int (se i9), .ref (ag i9)])) ∧ tg (tn i9) = 100 + i9 := fun i9 hi9 => ⟨(fm41 i9 hi9).1, kq54.2 _ _ (fm41 i9 hi9).2.1 (orN (tg_ne (fm41 i9 hi9).2.2 tI11 (tnA (show 11 < 100 by decide))) (tg_ne (fm41 i9 hi9).2.2 tI12 (tnA (show 12 < 100 by decide)))), (fm41 i9 hi9).2.2⟩
    have fm81 : ∀ k9, k9 < 13 → (aOK (cf k9) (nf k9) ∧ ru k9 ≤ 12) ∧ wd_at w50 (aa k9) (.inr (1, [.ref (ga0 k9), .ref (ga1 k9), .ref (ga2 k9), .ref (ga3 k9), .ref (ga4 k9), .int (nI (ru k9))])) ∧ tg (aa k9) = 200 + k9 ∧ wd_at w50 (ga0 k9) (.inl (cy 2, 12, .inl (df k9))) ∧ tg (ga0 k9) = 220 + k9 ∧ wd_at w50 (ga1 k9) (.inl (cy 2, 12, .inl (cf k9))) ∧ tg (ga1 k9) = 240 + k9 ∧ wd_at w50 (ga2 k9) (.inl (cy 2, 72, .inl (nf k9))) ∧ tg (ga2 k9) = 260 + k9 ∧ wd_at w50 (ga3 k9) (.inl (cy 1, 72, .inl (sf k9))) ∧ tg (ga3 k9) = 280 + k9 ∧ wd_at w50 (ga4 k9) (.inl (cy 2, 72, .inl (uf k9))) ∧ tg (ga4 k9) = 300 + k9 := fun k9 hi9 => ⟨(fm42 k9 hi9).1, kq54.2 _ _ (fm42 k9 hi9).2.1 (orN (tg_ne (fm42 k9 hi9).2.2.1 tI11 (tnA (show 11 < 200 by decide))) (tg_ne (fm42 k9 hi9).2.2.1 tI12 (tnA (show 12 < 200 by decide)))), (fm42 k9 hi9).2.2.1, kq54.2 _ _ (fm42 k9 hi9).2.2.2.1 (orN (tg_ne (fm42 k9 hi9).2.2.2.2.1 tI11 (tnA (show 11 < 220 by decide))) (tg_ne (fm42 k9 hi9).2.2.2.2.1 tI12 (tnA (show 12 < 220 by decide)))), (fm42 k9 hi9).2.2.2.2.1, kq54.2 _ _ (fm42 k9 hi9).2.2.2.2.2.1 (orN (tg_ne (fm42 k9 hi9).2.2.2.2.2.2.1 tI11 (tnA (show 11 < 240 by decide))) (tg_ne (fm42 k9 hi9).2.2.2.2.2.2.1 tI12 (tnA (show 12 < 240 by decide)))), (fm42 k9 hi9).2.2.2.2.2.2.1, kq54.2 _ _ (fm42 k9 hi9).2.2.2.2.2.2.2.1 (orN (tg_ne (fm42 k9 hi9).2.2.2.2.2.2.2.2.1 tI11 (tnA (show 11 < 260 by decide))) (tg_ne (fm42 k9 hi9).2.2.2.2.2.2.2.2.1 tI12 (tnA (show 12 < 260 by decide)))), (fm42 k9 hi9).2.2.2.2.2.2.2.2.1, kq54.2 _ _ (fm42 k9 hi9).2.2.2.2.2.2.2.2.2.1 (orN (tg_ne (fm42 k9 hi9).2.2.2.2.2.2.2.2.2.2.1 tI11 (tnA (show 11 < 280 by decide))) (tg_ne (fm42 k9 hi9).2.2.2.2.2.2.2.2.2.2.1 tI12 (tnA (show 12 < 280 by decide)))), (fm42 k9 hi9).2.2.2.2.2.2.2.2.2.2.1, kq54.2 _ _ (fm42 k9 hi9).2.2.2.2.2.2.2.2.2.2.2.1 (orN (tg_ne (fm42 k9 hi9).2.2.2.2.2.2.2.2.2.2.2.2 tI11 (tnA (show 11 < 300 by decide))) (tg_ne (fm42 k9 hi9).2.2.2.2.2.2.2.2.2.2.2.2 tI12 (tnA (show 12 < 300 by decide)))), (fm42 k9 hi9).2.2.2.2.2.2.2.2.2.2.2.2⟩
    have fm82 : ∀ k9, k9 < pc → pf k9 = some (pa k9) ∧ wd_at w50 (pa k9) (.inr (3, [.int (plv k9), .int (pwo k9), .int (phd k9), .int (pgd k9), .int (pdy k9), .int (pno k9), .int (ptp k9)])) ∧ tg (pa k9) = 3000 + k9 := fun k9 hi9 => ⟨(fm43 k9 hi9).1, kq54.2 _ _ (fm43 k9 hi9).2.1 (orN (tg_ne (fm43 k9 hi9).2.2 tI11 (tnA (show 11 < 3000 by decide))) (tg_ne (fm43 k9 hi9).2.2 tI12 (tnA (show 12 < 3000 by decide)))), (fm43 k9 hi9).2.2⟩
    have fm83 : ∀ k9, k9 < ac → af k9 = some (ad k9) ∧ wd_at w50 (ad k9) (.inr (0, [.int (av0 k9), .int (av1 k9), .int (av2 k9), .int (av3 k9)])) ∧ tg (ad k9) = 4000 + k9 := fun k9 hi9 => ⟨(fm44 k9 hi9).1, kq54.2 _ _ (fm44 k9 hi9).2.1 (orN (tg_ne (fm44 k9 hi9).2.2 tI11 (tnA (show 11 < 4000 by decide))) (tg_ne (fm44 k9 hi9).2.2 tI12 (tnA (show 12 < 4000 by decide)))), (fm44 k9 hi9).2.2⟩
    have fm84 : ∀ k9, k9 < sc → zf k9 = some (so k9) ∧ wd_at w50 (so k9) (.inr (6, [.int (sp0 k9), .int (sp1 k9), .ref (sr k9)])) ∧ tg (so k9) = 5000 + k9 ∧ wd_at w50 (sr k9) (.inl (cy 2, 12, .inl (sd k9))) ∧ tg (sr k9) = 6000 + k9 := fun k9 hi9 => ⟨(fm45 k9 hi9).1, kq54.2 _ _ (fm45 k9 hi9).2.1 (orN (tg_ne (fm45 k9 hi9).2.2.1 tI11 (tnA (show 11 < 5000 by decide))) (tg_ne (fm45 k9 hi9).2.2.1 tI12 (tnA (show 12 < 5000 by decide)))), (fm45 k9 hi9).2.2.1, kq54.2 _ _ (fm45 k9 hi9).2.2.2.1 (orN (tg_ne (fm45 k9 hi9).2.2.2.2 tI11 (tnA (show 11 < 6000 by decide))) (tg_ne (fm45 k9 hi9).2.2.2.2 tI12 (tnA (show 12 < 6000 by decide)))), (fm45 k9 hi9).2.2.2.2⟩
    have fm85 : ∀ k9, k9 < sh → (hf k9 = some (sw k9) ∧ hto k9 < 12) ∧ wd_at w50 (sw k9) (.inr (5, [.int (nI (hto k9)), .int (hpp k9), .int (hle k9), .int (ham k9), .int (hhh k9), .int (hdd k9), .int (hru k9), .int (hde k9), .int (hcp k9), .int (hld k9)])) ∧ tg (sw k9) = 7000 + k9 := fun k9 hi9 => ⟨(fm46 k9 hi9).1, kq54.2 _ _ (fm46 k9 hi9).2.1 (orN (tg_ne (fm46 k9 hi9).2.2 tI11 (tnA (show 11 < 7000 by decide))) (tg_ne (fm46 k9 hi9).2.2 tI12 (tnA (show 12 < 7000 by decide)))), (fm46 k9 hi9).2.2⟩
    have kp86 := kp47.tr kq54 (fun b9 hm q9 => (fun q9 => Or.elim q9 (fun q9 => q9 ▸ (tgS tI11 (by decide))) (fun q9 => q9 ▸ (tgS tI12 (by decide)))) q9)
    refine W.eq (g2 := F0 m 30 ls []) rfl (W.widen (k := 0) (n := 0) (Nat.le_of_ble_eq_true rfl) (Nat.le_of_ble_eq_true rfl) ?_)
    refine lv_aload_n hx hb dX10_feed_30 rfl (lv_at hl 0 rfl) ?_
    refine x_get (ref := "NoteHouse") F hP k55 rfl (fun _ h => List.mem_cons_of_mem _ (List.mem_append_left _ (List.mem_append_right _ (h)))) 6 (Nat.le_of_ble_eq_true rfl) (List.mem_cons_of_mem _ (List.mem_append_left _ (List.mem_append_left _ (List.mem_of_getElem? (i := 0) rfl)))) rfl rfl dX10_feed_31 ?_
    refine lv_iload_n hx hb dX10_feed_34 rfl (lv_at hl 3 rfl) ?_
    refine x_callV (n := 1) (As := [.int x3]) (rest := []) F hP hD hS (g_append l D cy sk sv w50 a6 tb ((ln + 4) + 4) ta x3 gx51 k52 k53 (fun b => b = a6 ∨ b = tb) (Or.inl rfl) (Or.inr rfl) (by omega)) gX10_feed_X7_append rfl rfl (by decide +kernel) ⟨(Nat.le_of_ble_eq_true rfl), (Nat.le_of_ble_eq_true rfl)⟩ rfl hl.1 (Nat.le_of_ble_eq_true rfl) k52 rfl dX10_feed_35 rfl ⟨(Nat.le_of_ble_eq_true rfl), (Nat.le_of_ble_eq_true rfl)⟩ (fun v88 w89 hp87 H locs hP hD hS => ?_)
    obtain ⟨gx90, rfl, kq93, k91, k92⟩ := hp87
    have k94 := kq93.2 _ _ k55 (orN (tg_ne tI0 tI11 (by decide)) (tg_ne tI0 tI12 (by decide)))
    have k95 := kq93.2 _ _ k56 (orN (tg_ne tI1 tI11 (by decide)) (tg_ne tI1 tI12 (by decide)))
    have k96 := kq93.2 _ _ k57 (orN (tg_ne tI2 tI11 (by decide)) (tg_ne tI2 tI12 (by decide)))
    have k97 := kq93.2 _ _ k58 (orN (tg_ne tI3 tI11 (by decide)) (tg_ne tI3 tI12 (by decide)))
    have k98 := kq93.2 _ _ k59 (orN (tg_ne tI4 tI11 (by decide)) (tg_ne tI4 tI12 (by decide)))
    have k99 := kq93.2 _ _ k60 (orN (tg_ne tI5 tI11 (by decide)) (tg_ne tI5 tI12 (by decide)))
    have k100 := kq93.2 _ _ k61 (orN (tg_ne tI6 tI11 (by decide)) (tg_ne tI6 tI12 (by decide)))
    have k101 := kq93.2 _ _ k62 (orN (tg_ne tI7 tI11 (by decide)) (tg_ne tI7 tI12 (by decide)))
    have k102 := kq93.2 _ _ k63 (orN (tg_ne tI8 tI11 (by decide)) (tg_ne tI8 tI12 (by decide)))
    have k103 := kq93.2 _ _ k64 (orN (tg_ne tI9 tI11 (by decide)) (tg_ne tI9 tI12 (by decide)))
    have k104 := kq93.2 _ _ k65 (orN (tg_ne tI10 tI11 (by decide)) (tg_ne tI10 tI12 (by decide)))
    have k105 := kq93.2 _ _ k66 (orN (tg_ne tI13 tI11 (by decide)) (tg_ne tI13 tI12 (by decide)))
    have k106 := kq93.2 _ _ k67 (orN (tg_ne tI14 tI11 (by decide)) (tg_ne tI14 tI12 (by decide)))
    have k107 := kq93.2 _ _ k68 (orN (tg_ne tI15 tI11 (by decide)) (tg_ne tI15 tI12 (by decide)))
    have k108 := kq93.2 _ _ k69 (orN (tg_ne tI16 tI11 (by decide)) (tg_ne tI16 tI12 (by decide)))
    have k109 := kq93.2 _ _ k70 (orN (tg_ne tI17 tI11 (by decide)) (tg_ne tI17 tI12 (by decide)))
    have k110 := kq93.2 _ _ k71 (orN (tg_ne tI18 tI11 (by decide)) (tg_ne tI18 tI12 (by decide)))
    have k111 := kq93.2 _ _ k72 (orN (tg_ne tI19 tI11 (by decide)) (tg_ne tI19 tI12 (by decide)))
    have k112 := kq93.2 _ _ k73 (orN (tg_ne tI20 tI11 (by decide)) (tg_ne tI20 tI12 (by decide)))
    have k113 := kq93.2 _ _ k74 (orN (tg_ne tI21 tI11 (by decide)) (tg_ne tI21 tI12 (by decide)))
    have k114 := kq93.2 _ _ k75 (orN (tg_ne tI22 tI11 (by decide)) (tg_ne tI22 tI12 (by decide)))
    have k115 := kq93.2 _ _ k76 (orN (tg_ne tI23 tI11 (tnA (show 11 < 30 by decide))) (tg_ne tI23 tI12 (tnA (show 12 < 30 by decide))))
    have k116 := kq93.2 _ _ k77 (orN (tg_ne tI24 tI11 (tnA (show 11 < 32 by decide))) (tg_ne tI24 tI12 (tnA (show 12 < 32 by decide))))
    have k117 := kq93.2 _ _ k78 (orN (tg_ne tI25 tI11 (tnA (show 11 < 30 by decide))) (tg_ne tI25 tI12 (tnA (show 12 < 30 by decide))))
    have k118 := kq93.2 _ _ k79 (orN (tg_ne tI26 tI11 (tnA (show 11 < 32 by decide))) (tg_ne tI26 tI12 (tnA (show 12 < 32 by decide))))
    have fm119 : ∀ i9, i9 < 12 → tf i9 = some (tn i9) ∧ wd_at w89 (tn i9) (.inr (8, [.int (co i9), .int (ra i9), .int (se i9), .ref (ag i9)])) ∧ tg (tn i9) = 100 + i9 := fun i9 hi9 => ⟨(fm80 i9 hi9).1, kq93.2 _ _ (fm80 i9 hi9).2.1 (orN (tg_ne (fm80 i9 hi9).2.2 tI11 (tnA (show 11 < 100 by decide))) (tg_ne (fm80 i9 hi9).2.2 tI12 (tnA (show 12 < 100 by decide)))), (fm80 i9 hi9).2.2⟩
    have fm120 : ∀ k9, k9 < 13 → (aOK (cf k9) (nf k9) ∧ ru k9 ≤ 12) ∧ wd_at w89 (aa k9) (.inr (1, [.ref (ga0 k9), .ref (ga1 k9), .ref (ga2 k9), .ref (ga3 k9), .ref (ga4 k9), .int (nI (ru k9))])) ∧ tg (aa k9) = 200 + k9 ∧ wd_at w89 (ga0 k9) (.inl (cy 2, 12, .inl (df k9))) ∧ tg (ga0 k9) = 220 + k9 ∧ wd_at w89 (ga1 k9) (.inl (cy 2, 12, .inl (cf k9))) ∧ tg (ga1 k9) = 240 + k9 ∧ wd_at w89 (ga2 k9) (.inl (cy 2, 72, .inl (nf k9))) ∧ tg (ga2 k9) = 260 + k9 ∧ wd_at w89 (ga3 k9) (.inl (cy 1, 72, .inl (sf k9))) ∧ tg (ga3 k9) = 280 + k9 ∧ wd_at w89 (ga4 k9) (.inl (cy 2, 72, .inl (uf k9))) ∧ tg (ga4 k9) = 300 + k9 := fun k9 hi9 => ⟨(fm81 k9 hi9).1, kq93.2 _ _ (fm81 k9 hi9).2.1 (orN (tg_ne (fm81 k9 hi9).2.2.1 tI11 (tnA (show 11 < 200 by decide))) (tg_ne (fm81 k9 hi9).2.2.1 tI12 (tnA (show 12 < 200 by decide)))), (fm81 k9 hi9).2.2.1, kq93.2 _ _ (fm81 k9 hi9).2.2.2.1 (orN (tg_ne (fm81 k9 hi9).2.2.2.2.1 tI11 (tnA (show 11 < 220 by decide))) (tg_ne (fm81 k9 hi9).2.2.2.2.1 tI12 (tnA (show 12 < 220 by decide)))), (fm81 k9 hi9).2.2.2.2.1, kq93.2 _ _ (fm81 k9 hi9).2.2.2.2.2.1 (orN (tg_ne (fm81 k9 hi9).2.2.2.2.2.2.1 tI11 (tnA (show 11 < 240 by decide))) (tg_ne (fm81 k9 hi9).2.2.2.2.2.2.1 tI12 (tnA (show 12 < 240 by decide)))), (fm81 k9 hi9).2.2.2.2.2.2.1, kq93.2 _ _ (fm81 k9 hi9).2.2.2.2.2.2.2.1 (orN (tg_ne (fm81 k9 hi9).2.2.2.2.2.2.2.2.1 tI11 (tnA (show 11 < 260 by decide))) (tg_ne (fm81 k9 hi9).2.2.2.2.2.2.2.2.1 tI12 (tnA (show 12 < 260 by decide)))), (fm81 k9 hi9).2.2.2.2.2.2.2.2.1, kq93.2 _ _ (fm81 k9 hi9).2.2.2.2.2.2.2.2.2.1 (orN (tg_ne (fm81 k9 hi9).2.2.2.2.2.2.2.2.2.2.1 tI11 (tnA (show 11 < 280 by decide))) (tg_ne (fm81 k9 hi9).2.2.2.2.2.2.2.2.2.2.1 tI12 (tnA (show 12 < 280 by decide)))), (fm81 k9 hi9).2.2.2.2.2.2.2.2.2.2.1, kq93.2 _ _ (fm81 k9 hi9).2.2.2.2.2.2.2.2.2.2.2.1 (orN (tg_ne (fm81 k9 hi9).2.2.2.2.2.2.2.2.2.2.2.2 tI11 (tnA (show 11 < 300 by decide))) (tg_ne (fm81 k9 hi9).2.2.2.2.2.2.2.2.2.2.2.2 tI12 (tnA (show 12 < 300 by decide)))), (fm81 k9 hi9).2.2.2.2.2.2.2.2.2.2.2.2⟩
    have fm121 : ∀ k9, k9 < pc → pf k9 = some (pa k9) ∧ wd_at w89 (pa k9) (.inr (3, [.int (plv k9), .int (pwo k9), .int (phd k9), .int (pgd k9), .int (pdy k9), .int (pno k9), .int (ptp k9)])) ∧ tg (pa k9) = 3000 + k9 := fun k9 hi9 => ⟨(fm82 k9 hi9).1, kq93.2 _ _ (fm82 k9 hi9).2.1 (orN (tg_ne (fm82 k9 hi9).2.2 tI11 (tnA (show 11 < 3000 by decide))) (tg_ne (fm82 k9 hi9).2.2 tI12 (tnA (show 12 < 3000 by decide)))), (fm82 k9 hi9).2.2⟩
    have fm122 : ∀ k9, k9 < ac → af k9 = some (ad k9) ∧ wd_at w89 (ad k9) (.inr (0, [.int (av0 k9), .int (av1 k9), .int (av2 k9), .int (av3 k9)])) ∧ tg (ad k9) = 4000 + k9 := fun k9 hi9 => ⟨(fm83 k9 hi9).1, kq93.2 _ _ (fm83 k9 hi9).2.1 (orN (tg_ne (fm83 k9 hi9).2.2 tI11 (tnA (show 11 < 4000 by decide))) (tg_ne (fm83 k9 hi9).2.2 tI12 (tnA (show 12 < 4000 by decide)))), (fm83 k9 hi9).2.2⟩
    have fm123 : ∀ k9, k9 < sc → zf k9 = some (so k9) ∧ wd_at w89 (so k9) (.inr (6, [.int (sp0 k9), .int (sp1 k9), .ref (sr k9)])) ∧ tg (so k9) = 5000 + k9 ∧ wd_at w89 (sr k9) (.inl (cy 2, 12, .inl (sd k9))) ∧ tg (sr k9) = 6000 + k9 := fun k9 hi9 => ⟨(fm84 k9 hi9).1, kq93.2 _ _ (fm84 k9 hi9).2.1 (orN (tg_ne (fm84 k9 hi9).2.2.1 tI11 (tnA (show 11 < 5000 by decide))) (tg_ne (fm84 k9 hi9).2.2.1 tI12 (tnA (show 12 < 5000 by decide)))), (fm84 k9 hi9).2.2.1, kq93.2 _ _ (fm84 k9 hi9).2.2.2.1 (orN (tg_ne (fm84 k9 hi9).2.2.2.2 tI11 (tnA (show 11 < 6000 by decide))) (tg_ne (fm84 k9 hi9).2.2.2.2 tI12 (tnA (show 12 < 6000 by decide)))), (fm84 k9 hi9).2.2.2.2⟩
    have fm124 : ∀ k9, k9 < sh → (hf k9 = some (sw k9) ∧ hto k9 < 12) ∧ wd_at w89 (sw k9) (.inr (5, [.int (nI (hto k9)), .int (hpp k9), .int (hle k9), .int (ham k9), .int (hhh k9), .int (hdd k9), .int (hru k9), .int (hde k9), .int (hcp k9), .int (hld k9)])) ∧ tg (sw k9) = 7000 + k9 := fun k9 hi9 => ⟨(fm85 k9 hi9).1, kq93.2 _ _ (fm85 k9 hi9).2.1 (orN (tg_ne (fm85 k9 hi9).2.2 tI11 (tnA (show 11 < 7000 by decide))) (tg_ne (fm85 k9 hi9).2.2 tI12 (tnA (show 12 < 7000 by decide)))), (fm85 k9 hi9).2.2⟩
    have kp125 := kp86.tr kq93 (fun b9 hm q9 => (fun q9 => Or.elim q9 (fun q9 => q9 ▸ (tgS tI11 (by decide))) (fun q9 => q9 ▸ (tgS tI12 (by decide)))) q9)
    refine W.eq (g2 := F0 m 38 ls []) rfl (W.widen (k := 0) (n := 0) (Nat.le_of_ble_eq_true rfl) (Nat.le_of_ble_eq_true rfl) ?_)
    refine lv_aload_n hx hb dX10_feed_38 rfl (lv_at hl 0 rfl) ?_
    refine x_get (ref := "NoteHouse") F hP k94 rfl (fun _ h => List.mem_cons_of_mem _ (List.mem_append_left _ (List.mem_append_right _ (h)))) 6 (Nat.le_of_ble_eq_true rfl) (List.mem_cons_of_mem _ (List.mem_append_left _ (List.mem_append_left _ (List.mem_of_getElem? (i := 0) rfl)))) rfl rfl dX10_feed_39 ?_
    refine lv_iload hx hb dX10_feed_42 (lv_at hl 4 rfl) ?_
    refine x_callV (n := 1) (As := [.int x4]) (rest := []) F hP hD hS (g_append l D cy sk sv w89 a6 tb (((ln + 4) + 4) + 4) ta x4 gx90 k91 k92 (fun b => b = a6 ∨ b = tb) (Or.inl rfl) (Or.inr rfl) (by omega)) gX10_feed_X7_append rfl rfl (by decide +kernel) ⟨(Nat.le_of_ble_eq_true rfl), (Nat.le_of_ble_eq_true rfl)⟩ rfl hl.1 (Nat.le_of_ble_eq_true rfl) k91 rfl dX10_feed_44 rfl ⟨(Nat.le_of_ble_eq_true rfl), (Nat.le_of_ble_eq_true rfl)⟩ (fun v127 w128 hp126 H locs hP hD hS => ?_)
    obtain ⟨gx129, rfl, kq132, k130, k131⟩ := hp126
    have k133 := kq132.2 _ _ k94 (orN (tg_ne tI0 tI11 (by decide)) (tg_ne tI0 tI12 (by decide)))
    have k134 := kq132.2 _ _ k95 (orN (tg_ne tI1 tI11 (by decide)) (tg_ne tI1 tI12 (by decide)))
    have k135 := kq132.2 _ _ k96 (orN (tg_ne tI2 tI11 (by decide)) (tg_ne tI2 tI12 (by decide)))
    have k136 := kq132.2 _ _ k97 (orN (tg_ne tI3 tI11 (by decide)) (tg_ne tI3 tI12 (by decide)))
    have k137 := kq132.2 _ _ k98 (orN (tg_ne tI4 tI11 (by decide)) (tg_ne tI4 tI12 (by decide)))
    have k138 := kq132.2 _ _ k99 (orN (tg_ne tI5 tI11 (by decide)) (tg_ne tI5 tI12 (by decide)))
    have k139 := kq132.2 _ _ k100 (orN (tg_ne tI6 tI11 (by decide)) (tg_ne tI6 tI12 (by decide)))
    have k140 := kq132.2 _ _ k101 (orN (tg_ne tI7 tI11 (by decide)) (tg_ne tI7 tI12 (by decide)))
    have k141 := kq132.2 _ _ k102 (orN (tg_ne tI8 tI11 (by decide)) (tg_ne tI8 tI12 (by decide)))
    have k142 := kq132.2 _ _ k103 (orN (tg_ne tI9 tI11 (by decide)) (tg_ne tI9 tI12 (by decide)))
    have k143 := kq132.2 _ _ k104 (orN (tg_ne tI10 tI11 (by decide)) (tg_ne tI10 tI12 (by decide)))
    have k144 := kq132.2 _ _ k105 (orN (tg_ne tI13 tI11 (by decide)) (tg_ne tI13 tI12 (by decide)))
    have k145 := kq132.2 _ _ k106 (orN (tg_ne tI14 tI11 (by decide)) (tg_ne tI14 tI12 (by decide)))
    have k146 := kq132.2 _ _ k107 (orN (tg_ne tI15 tI11 (by decide)) (tg_ne tI15 tI12 (by decide)))
    have k147 := kq132.2 _ _ k108 (orN (tg_ne tI16 tI11 (by decide)) (tg_ne tI16 tI12 (by decide)))
    have k148 := kq132.2 _ _ k109 (orN (tg_ne tI17 tI11 (by decide)) (tg_ne tI17 tI12 (by decide)))
    have k149 := kq132.2 _ _ k110 (orN (tg_ne tI18 tI11 (by decide)) (tg_ne tI18 tI12 (by decide)))
    have k150 := kq132.2 _ _ k111 (orN (tg_ne tI19 tI11 (by decide)) (tg_ne tI19 tI12 (by decide)))
    have k151 := kq132.2 _ _ k112 (orN (tg_ne tI20 tI11 (by decide)) (tg_ne tI20 tI12 (by decide)))
    have k152 := kq132.2 _ _ k113 (orN (tg_ne tI21 tI11 (by decide)) (tg_ne tI21 tI12 (by decide)))
    have k153 := kq132.2 _ _ k114 (orN (tg_ne tI22 tI11 (by decide)) (tg_ne tI22 tI12 (by decide)))
    have k154 := kq132.2 _ _ k115 (orN (tg_ne tI23 tI11 (tnA (show 11 < 30 by decide))) (tg_ne tI23 tI12 (tnA (show 12 < 30 by decide))))
    have k155 := kq132.2 _ _ k116 (orN (tg_ne tI24 tI11 (tnA (show 11 < 32 by decide))) (tg_ne tI24 tI12 (tnA (show 12 < 32 by decide))))
    have k156 := kq132.2 _ _ k117 (orN (tg_ne tI25 tI11 (tnA (show 11 < 30 by decide))) (tg_ne tI25 tI12 (tnA (show 12 < 30 by decide))))
    have k157 := kq132.2 _ _ k118 (orN (tg_ne tI26 tI11 (tnA (show 11 < 32 by decide))) (tg_ne tI26 tI12 (tnA (show 12 < 32 by decide))))
    have fm158 : ∀ i9, i9 < 12 → tf i9 = some (tn i9) ∧ wd_at w128 (tn i9) (.inr (8, [.int (co i9), .int (ra i9), .int (se i9), .ref (ag i9)])) ∧ tg (tn i9) = 100 + i9 := fun i9 hi9 => ⟨(fm119 i9 hi9).1, kq132.2 _ _ (fm119 i9 hi9).2.1 (orN (tg_ne (fm119 i9 hi9).2.2 tI11 (tnA (show 11 < 100 by decide))) (tg_ne (fm119 i9 hi9).2.2 tI12 (tnA (show 12 < 100 by decide)))), (fm119 i9 hi9).2.2⟩
    have fm159 : ∀ k9, k9 < 13 → (aOK (cf k9) (nf k9) ∧ ru k9 ≤ 12) ∧ wd_at w128 (aa k9) (.inr (1, [.ref (ga0 k9), .ref (ga1 k9), .ref (ga2 k9), .ref (ga3 k9), .ref (ga4 k9), .int (nI (ru k9))])) ∧ tg (aa k9) = 200 + k9 ∧ wd_at w128 (ga0 k9) (.inl (cy 2, 12, .inl (df k9))) ∧ tg (ga0 k9) = 220 + k9 ∧ wd_at w128 (ga1 k9) (.inl (cy 2, 12, .inl (cf k9))) ∧ tg (ga1 k9) = 240 + k9 ∧ wd_at w128 (ga2 k9) (.inl (cy 2, 72, .inl (nf k9))) ∧ tg (ga2 k9) = 260 + k9 ∧ wd_at w128 (ga3 k9) (.inl (cy 1, 72, .inl (sf k9))) ∧ tg (ga3 k9) = 280 + k9 ∧ wd_at w128 (ga4 k9) (.inl (cy 2, 72, .inl (uf k9))) ∧ tg (ga4 k9) = 300 + k9 := fun k9 hi9 => ⟨(fm120 k9 hi9).1, kq132.2 _ _ (fm120 k9 hi9).2.1 (orN (tg_ne (fm120 k9 hi9).2.2.1 tI11 (tnA (show 11 < 200 by decide))) (tg_ne (fm120 k9 hi9).2.2.1 tI12 (tnA (show 12 < 200 by decide)))), (fm120 k9 hi9).2.2.1, kq132.2 _ _ (fm120 k9 hi9).2.2.2.1 (orN (tg_ne (fm120 k9 hi9).2.2.2.2.1 tI11 (tnA (show 11 < 220 by decide))) (tg_ne (fm120 k9 hi9).2.2.2.2.1 tI12 (tnA (show 12 < 220 by decide)))), (fm120 k9 hi9).2.2.2.2.1, kq132.2 _ _ (fm120 k9 hi9).2.2.2.2.2.1 (orN (tg_ne (fm120 k9 hi9).2.2.2.2.2.2.1 tI11 (tnA (show 11 < 240 by decide))) (tg_ne (fm120 k9 hi9).2.2.2.2.2.2.1 tI12 (tnA (show 12 < 240 by decide)))), (fm120 k9 hi9).2.2.2.2.2.2.1, kq132.2 _ _ (fm120 k9 hi9).2.2.2.2.2.2.2.1 (orN (tg_ne (fm120 k9 hi9).2.2.2.2.2.2.2.2.1 tI11 (tnA (show 11 < 260 by decide))) (tg_ne (fm120 k9 hi9).2.2.2.2.2.2.2.2.1 tI12 (tnA (show 12 < 260 by decide)))), (fm120 k9 hi9).2.2.2.2.2.2.2.2.1, kq132.2 _ _ (fm120 k9 hi9).2.2.2.2.2.2.2.2.2.1 (orN (tg_ne (fm120 k9 hi9).2.2.2.2.2.2.2.2.2.2.1 tI11 (tnA (show 11 < 280 by decide))) (tg_ne (fm120 k9 hi9).2.2.2.2.2.2.2.2.2.2.1 tI12 (tnA (show 12 < 280 by decide)))), (fm120 k9 hi9).2.2.2.2.2.2.2.2.2.2.1, kq132.2 _ _ (fm120 k9 hi9).2.2.2.2.2.2.2.2.2.2.2.1 (orN (tg_ne (fm120 k9 hi9).2.2.2.2.2.2.2.2.2.2.2.2 tI11 (tnA (show 11 < 300 by decide))) (tg_ne (fm120 k9 hi9).2.2.2.2.2.2.2.2.2.2.2.2 tI12 (tnA (show 12 < 300 by decide)))), (fm120 k9 hi9).2.2.2.2.2.2.2.2.2.2.2.2⟩
    have fm160 : ∀ k9, k9 < pc → pf k9 = some (pa k9) ∧ wd_at w128 (pa k9) (.inr (3, [.int (plv k9), .int (pwo k9), .int (phd k9), .int (pgd k9), .int (pdy k9), .int (pno k9), .int (ptp k9)])) ∧ tg (pa k9) = 3000 + k9 := fun k9 hi9 => ⟨(fm121 k9 hi9).1, kq132.2 _ _ (fm121 k9 hi9).2.1 (orN (tg_ne (fm121 k9 hi9).2.2 tI11 (tnA (show 11 < 3000 by decide))) (tg_ne (fm121 k9 hi9).2.2 tI12 (tnA (show 12 < 3000 by decide)))), (fm121 k9 hi9).2.2⟩
    have fm161 : ∀ k9, k9 < ac → af k9 = some (ad k9) ∧ wd_at w128 (ad k9) (.inr (0, [.int (av0 k9), .int (av1 k9), .int (av2 k9), .int (av3 k9)])) ∧ tg (ad k9) = 4000 + k9 := fun k9 hi9 => ⟨(fm122 k9 hi9).1, kq132.2 _ _ (fm122 k9 hi9).2.1 (orN (tg_ne (fm122 k9 hi9).2.2 tI11 (tnA (show 11 < 4000 by decide))) (tg_ne (fm122 k9 hi9).2.2 tI12 (tnA (show 12 < 4000 by decide)))), (fm122 k9 hi9).2.2⟩
    have fm162 : ∀ k9, k9 < sc → zf k9 = some (so k9) ∧ wd_at w128 (so k9) (.inr (6, [.int (sp0 k9), .int (sp1 k9), .ref (sr k9)])) ∧ tg (so k9) = 5000 + k9 ∧ wd_at w128 (sr k9) (.inl (cy 2, 12, .inl (sd k9))) ∧ tg (sr k9) = 6000 + k9 := fun k9 hi9 => ⟨(fm123 k9 hi9).1, kq132.2 _ _ (fm123 k9 hi9).2.1 (orN (tg_ne (fm123 k9 hi9).2.2.1 tI11 (tnA (show 11 < 5000 by decide))) (tg_ne (fm123 k9 hi9).2.2.1 tI12 (tnA (show 12 < 5000 by decide)))), (fm123 k9 hi9).2.2.1, kq132.2 _ _ (fm123 k9 hi9).2.2.2.1 (orN (tg_ne (fm123 k9 hi9).2.2.2.2 tI11 (tnA (show 11 < 6000 by decide))) (tg_ne (fm123 k9 hi9).2.2.2.2 tI12 (tnA (show 12 < 6000 by decide)))), (fm123 k9 hi9).2.2.2.2⟩
    have fm163 : ∀ k9, k9 < sh → (hf k9 = some (sw k9) ∧ hto k9 < 12) ∧ wd_at w128 (sw k9) (.inr (5, [.int (nI (hto k9)), .int (hpp k9), .int (hle k9), .int (ham k9), .int (hhh k9), .int (hdd k9), .int (hru k9), .int (hde k9), .int (hcp k9), .int (hld k9)])) ∧ tg (sw k9) = 7000 + k9 := fun k9 hi9 => ⟨(fm124 k9 hi9).1, kq132.2 _ _ (fm124 k9 hi9).2.1 (orN (tg_ne (fm124 k9 hi9).2.2 tI11 (tnA (show 11 < 7000 by decide))) (tg_ne (fm124 k9 hi9).2.2 tI12 (tnA (show 12 < 7000 by decide)))), (fm124 k9 hi9).2.2⟩
    have kp164 := kp125.tr kq132 (fun b9 hm q9 => (fun q9 => Or.elim q9 (fun q9 => q9 ▸ (tgS tI11 (by decide))) (fun q9 => q9 ▸ (tgS tI12 (by decide)))) q9)
    refine W.eq (g2 := F0 m 47 ls []) rfl (W.widen (k := 0) (n := 0) (Nat.le_of_ble_eq_true rfl) (Nat.le_of_ble_eq_true rfl) ?_)
    refine lv_aload_n hx hb dX10_feed_47 rfl (lv_at hl 0 rfl) ?_
    refine x_get (ref := "NoteHouse") F hP k133 rfl (fun _ h => List.mem_cons_of_mem _ (List.mem_append_left _ (List.mem_append_right _ (h)))) 6 (Nat.le_of_ble_eq_true rfl) (List.mem_cons_of_mem _ (List.mem_append_left _ (List.mem_append_left _ (List.mem_of_getElem? (i := 0) rfl)))) rfl rfl dX10_feed_48 ?_
    refine lv_iload hx hb dX10_feed_51 (lv_at hl 5 rfl) ?_
    refine x_callV (n := 1) (As := [.int x5]) (rest := []) F hP hD hS (g_append l D cy sk sv w128 a6 tb ((((ln + 4) + 4) + 4) + 4) ta x5 gx129 k130 k131 (fun b => b = a6 ∨ b = tb) (Or.inl rfl) (Or.inr rfl) (by omega)) gX10_feed_X7_append rfl rfl (by decide +kernel) ⟨(Nat.le_of_ble_eq_true rfl), (Nat.le_of_ble_eq_true rfl)⟩ rfl hl.1 (Nat.le_of_ble_eq_true rfl) k130 rfl dX10_feed_53 rfl ⟨(Nat.le_of_ble_eq_true rfl), (Nat.le_of_ble_eq_true rfl)⟩ (fun v166 w167 hp165 H locs hP hD hS => ?_)
    obtain ⟨gx168, rfl, kq171, k169, k170⟩ := hp165
    have k172 := kq171.2 _ _ k133 (orN (tg_ne tI0 tI11 (by decide)) (tg_ne tI0 tI12 (by decide)))
    have k173 := kq171.2 _ _ k134 (orN (tg_ne tI1 tI11 (by decide)) (tg_ne tI1 tI12 (by decide)))
    have k174 := kq171.2 _ _ k135 (orN (tg_ne tI2 tI11 (by decide)) (tg_ne tI2 tI12 (by decide)))
    have k175 := kq171.2 _ _ k136 (orN (tg_ne tI3 tI11 (by decide)) (tg_ne tI3 tI12 (by decide)))
    have k176 := kq171.2 _ _ k137 (orN (tg_ne tI4 tI11 (by decide)) (tg_ne tI4 tI12 (by decide)))
    have k177 := kq171.2 _ _ k138 (orN (tg_ne tI5 tI11 (by decide)) (tg_ne tI5 tI12 (by decide)))
    have k178 := kq171.2 _ _ k139 (orN (tg_ne tI6 tI11 (by decide)) (tg_ne tI6 tI12 (by decide)))
    have k179 := kq171.2 _ _ k140 (orN (tg_ne tI7 tI11 (by decide)) (tg_ne tI7 tI12 (by decide)))
    have k180 := kq171.2 _ _ k141 (orN (tg_ne tI8 tI11 (by decide)) (tg_ne tI8 tI12 (by decide)))
    have k181 := kq171.2 _ _ k142 (orN (tg_ne tI9 tI11 (by decide)) (tg_ne tI9 tI12 (by decide)))
    have k182 := kq171.2 _ _ k143 (orN (tg_ne tI10 tI11 (by decide)) (tg_ne tI10 tI12 (by decide)))
    have k183 := kq171.2 _ _ k144 (orN (tg_ne tI13 tI11 (by decide)) (tg_ne tI13 tI12 (by decide)))
    have k184 := kq171.2 _ _ k145 (orN (tg_ne tI14 tI11 (by decide)) (tg_ne tI14 tI12 (by decide)))
    have k185 := kq171.2 _ _ k146 (orN (tg_ne tI15 tI11 (by decide)) (tg_ne tI15 tI12 (by decide)))
    have k186 := kq171.2 _ _ k147 (orN (tg_ne tI16 tI11 (by decide)) (tg_ne tI16 tI12 (by decide)))
    have k187 := kq171.2 _ _ k148 (orN (tg_ne tI17 tI11 (by decide)) (tg_ne tI17 tI12 (by decide)))
    have k188 := kq171.2 _ _ k149 (orN (tg_ne tI18 tI11 (by decide)) (tg_ne tI18 tI12 (by decide)))
    have k189 := kq171.2 _ _ k150 (orN (tg_ne tI19 tI11 (by decide)) (tg_ne tI19 tI12 (by decide)))
    have k190 := kq171.2 _ _ k151 (orN (tg_ne tI20 tI11 (by decide)) (tg_ne tI20 tI12 (by decide)))
    have k191 := kq171.2 _ _ k152 (orN (tg_ne tI21 tI11 (by decide)) (tg_ne tI21 tI12 (by decide)))
    have k192 := kq171.2 _ _ k153 (orN (tg_ne tI22 tI11 (by decide)) (tg_ne tI22 tI12 (by decide)))
    have k193 := kq171.2 _ _ k154 (orN (tg_ne tI23 tI11 (tnA (show 11 < 30 by decide))) (tg_ne tI23 tI12 (tnA (show 12 < 30 by decide))))
    have k194 := kq171.2 _ _ k155 (orN (tg_ne tI24 tI11 (tnA (show 11 < 32 by decide))) (tg_ne tI24 tI12 (tnA (show 12 < 32 by decide))))
    have k195 := kq171.2 _ _ k156 (orN (tg_ne tI25 tI11 (tnA (show 11 < 30 by decide))) (tg_ne tI25 tI12 (tnA (show 12 < 30 by decide))))
    have k196 := kq171.2 _ _ k157 (orN (tg_ne tI26 tI11 (tnA (show 11 < 32 by decide))) (tg_ne tI26 tI12 (tnA (show 12 < 32 by decide))))
    have fm197 : ∀ i9, i9 < 12 → tf i9 = some (tn i9) ∧ wd_at w167 (tn i9) (.inr (8, [.int (co i9), .int (ra i9), .int (se i9), .ref (ag i9)])) ∧ tg (tn i9) = 100 + i9 := fun i9 hi9 => ⟨(fm158 i9 hi9).1, kq171.2 _ _ (fm158 i9 hi9).2.1 (orN (tg_ne (fm158 i9 hi9).2.2 tI11 (tnA (show 11 < 100 by decide))) (tg_ne (fm158 i9 hi9).2.2 tI12 (tnA (show 12 < 100 by decide)))), (fm158 i9 hi9).2.2⟩
    have fm198 : ∀ k9, k9 < 13 → (aOK (cf k9) (nf k9) ∧ ru k9 ≤ 12) ∧ wd_at w167 (aa k9) (.inr (1, [.ref (ga0 k9), .ref (ga1 k9), .ref (ga2 k9), .ref (ga3 k9), .ref (ga4 k9), .int (nI (ru k9))])) ∧ tg (aa k9) = 200 + k9 ∧ wd_at w167 (ga0 k9) (.inl (cy 2, 12, .inl (df k9))) ∧ tg (ga0 k9) = 220 + k9 ∧ wd_at w167 (ga1 k9) (.inl (cy 2, 12, .inl (cf k9))) ∧ tg (ga1 k9) = 240 + k9 ∧ wd_at w167 (ga2 k9) (.inl (cy 2, 72, .inl (nf k9))) ∧ tg (ga2 k9) = 260 + k9 ∧ wd_at w167 (ga3 k9) (.inl (cy 1, 72, .inl (sf k9))) ∧ tg (ga3 k9) = 280 + k9 ∧ wd_at w167 (ga4 k9) (.inl (cy 2, 72, .inl (uf k9))) ∧ tg (ga4 k9) = 300 + k9 := fun k9 hi9 => ⟨(fm159 k9 hi9).1, kq171.2 _ _ (fm159 k9 hi9).2.1 (orN (tg_ne (fm159 k9 hi9).2.2.1 tI11 (tnA (show 11 < 200 by decide))) (tg_ne (fm159 k9 hi9).2.2.1 tI12 (tnA (show 12 < 200 by decide)))), (fm159 k9 hi9).2.2.1, kq171.2 _ _ (fm159 k9 hi9).2.2.2.1 (orN (tg_ne (fm159 k9 hi9).2.2.2.2.1 tI11 (tnA (show 11 < 220 by decide))) (tg_ne (fm159 k9 hi9).2.2.2.2.1 tI12 (tnA (show 12 < 220 by decide)))), (fm159 k9 hi9).2.2.2.2.1, kq171.2 _ _ (fm159 k9 hi9).2.2.2.2.2.1 (orN (tg_ne (fm159 k9 hi9).2.2.2.2.2.2.1 tI11 (tnA (show 11 < 240 by decide))) (tg_ne (fm159 k9 hi9).2.2.2.2.2.2.1 tI12 (tnA (show 12 < 240 by decide)))), (fm159 k9 hi9).2.2.2.2.2.2.1, kq171.2 _ _ (fm159 k9 hi9).2.2.2.2.2.2.2.1 (orN (tg_ne (fm159 k9 hi9).2.2.2.2.2.2.2.2.1 tI11 (tnA (show 11 < 260 by decide))) (tg_ne (fm159 k9 hi9).2.2.2.2.2.2.2.2.1 tI12 (tnA (show 12 < 260 by decide)))), (fm159 k9 hi9).2.2.2.2.2.2.2.2.1, kq171.2 _ _ (fm159 k9 hi9).2.2.2.2.2.2.2.2.2.1 (orN (tg_ne (fm159 k9 hi9).2.2.2.2.2.2.2.2.2.2.1 tI11 (tnA (show 11 < 280 by decide))) (tg_ne (fm159 k9 hi9).2.2.2.2.2.2.2.2.2.2.1 tI12 (tnA (show 12 < 280 by decide)))), (fm159 k9 hi9).2.2.2.2.2.2.2.2.2.2.1, kq171.2 _ _ (fm159 k9 hi9).2.2.2.2.2.2.2.2.2.2.2.1 (orN (tg_ne (fm159 k9 hi9).2.2.2.2.2.2.2.2.2.2.2.2 tI11 (tnA (show 11 < 300 by decide))) (tg_ne (fm159 k9 hi9).2.2.2.2.2.2.2.2.2.2.2.2 tI12 (tnA (show 12 < 300 by decide)))), (fm159 k9 hi9).2.2.2.2.2.2.2.2.2.2.2.2⟩
    have fm199 : ∀ k9, k9 < pc → pf k9 = some (pa k9) ∧ wd_at w167 (pa k9) (.inr (3, [.int (plv k9), .int (pwo k9), .int (phd k9), .int (pgd k9), .int (pdy k9), .int (pno k9), .int (ptp k9)])) ∧ tg (pa k9) = 3000 + k9 := fun k9 hi9 => ⟨(fm160 k9 hi9).1, kq171.2 _ _ (fm160 k9 hi9).2.1 (orN (tg_ne (fm160 k9 hi9).2.2 tI11 (tnA (show 11 < 3000 by decide))) (tg_ne (fm160 k9 hi9).2.2 tI12 (tnA (show 12 < 3000 by decide)))), (fm160 k9 hi9).2.2⟩
    have fm200 : ∀ k9, k9 < ac → af k9 = some (ad k9) ∧ wd_at w167 (ad k9) (.inr (0, [.int (av0 k9), .int (av1 k9), .int (av2 k9), .int (av3 k9)])) ∧ tg (ad k9) = 4000 + k9 := fun k9 hi9 => ⟨(fm161 k9 hi9).1, kq171.2 _ _ (fm161 k9 hi9).2.1 (orN (tg_ne (fm161 k9 hi9).2.2 tI11 (tnA (show 11 < 4000 by decide))) (tg_ne (fm161 k9 hi9).2.2 tI12 (tnA (show 12 < 4000 by decide)))), (fm161 k9 hi9).2.2⟩
    have fm201 : ∀ k9, k9 < sc → zf k9 = some (so k9) ∧ wd_at w167 (so k9) (.inr (6, [.int (sp0 k9), .int (sp1 k9), .ref (sr k9)])) ∧ tg (so k9) = 5000 + k9 ∧ wd_at w167 (sr k9) (.inl (cy 2, 12, .inl (sd k9))) ∧ tg (sr k9) = 6000 + k9 := fun k9 hi9 => ⟨(fm162 k9 hi9).1, kq171.2 _ _ (fm162 k9 hi9).2.1 (orN (tg_ne (fm162 k9 hi9).2.2.1 tI11 (tnA (show 11 < 5000 by decide))) (tg_ne (fm162 k9 hi9).2.2.1 tI12 (tnA (show 12 < 5000 by decide)))), (fm162 k9 hi9).2.2.1, kq171.2 _ _ (fm162 k9 hi9).2.2.2.1 (orN (tg_ne (fm162 k9 hi9).2.2.2.2 tI11 (tnA (show 11 < 6000 by decide))) (tg_ne (fm162 k9 hi9).2.2.2.2 tI12 (tnA (show 12 < 6000 by decide)))), (fm162 k9 hi9).2.2.2.2⟩
    have fm202 : ∀ k9, k9 < sh → (hf k9 = some (sw k9) ∧ hto k9 < 12) ∧ wd_at w167 (sw k9) (.inr (5, [.int (nI (hto k9)), .int (hpp k9), .int (hle k9), .int (ham k9), .int (hhh k9), .int (hdd k9), .int (hru k9), .int (hde k9), .int (hcp k9), .int (hld k9)])) ∧ tg (sw k9) = 7000 + k9 := fun k9 hi9 => ⟨(fm163 k9 hi9).1, kq171.2 _ _ (fm163 k9 hi9).2.1 (orN (tg_ne (fm163 k9 hi9).2.2 tI11 (tnA (show 11 < 7000 by decide))) (tg_ne (fm163 k9 hi9).2.2 tI12 (tnA (show 12 < 7000 by decide)))), (fm163 k9 hi9).2.2⟩
    have kp203 := kp164.tr kq171 (fun b9 hm q9 => (fun q9 => Or.elim q9 (fun q9 => q9 ▸ (tgS tI11 (by decide))) (fun q9 => q9 ▸ (tgS tI12 (by decide)))) q9)
    refine W.eq (g2 := F0 m 56 ls []) rfl (W.widen (k := 0) (n := 0) (Nat.le_of_ble_eq_true rfl) (Nat.le_of_ble_eq_true rfl) ?_)
    refine lv_aload_n hx hb dX10_feed_56 rfl (lv_at hl 0 rfl) ?_
    refine x_get (ref := "NoteHouse") F hP k172 rfl (fun _ h => List.mem_cons_of_mem _ (List.mem_append_left _ (List.mem_append_right _ (h)))) 6 (Nat.le_of_ble_eq_true rfl) (List.mem_cons_of_mem _ (List.mem_append_left _ (List.mem_append_left _ (List.mem_of_getElem? (i := 0) rfl)))) rfl rfl dX10_feed_57 ?_
    refine x_get (ref := "NoteHouse$Tape") F hP k169 rfl (fun _ h => List.mem_cons_of_mem _ (List.mem_append_right _ (h))) 1 (Nat.le_of_ble_eq_true rfl) (List.mem_cons_of_mem _ (List.mem_append_left _ (List.mem_append_left _ (List.mem_of_getElem? (i := 1) rfl)))) rfl rfl dX10_feed_60 ?_
    have hX205 : IX cy tg x td pc ac sc (((((ln + 4) + 4) + 4) + 4) + 4) se plv w167 := IX.mk a0 a1 a2 a3 a4 a5 a6 a7 a8 a10 a11 b0 b1 b2 b3 tb l0 l1 l2 l3 l4 l5 l6 l7 bl bm sh gc sg lu lv9 f0 f1 f2 f3 gx168 e0 e1 e4 e5 e7 ff bf bf2 e2 e3 e6 ta sz fo to fo2 to2 tf tn ag co ra aa ru ga0 ga1 ga2 ga3 ga4 df cf nf sf uf pf pa pwo phd pgd pdy pno ptp af ad av0 av1 av2 av3 zf so sr sp0 sp1 sd hf sw hto hpp hle ham hhh hdd hru hde hcp hld (by omega) (by omega) (by omega) (by omega) (by omega) (by omega) (by omega) (by omega) hag k172 tI0 k173 tI1 k174 tI2 k175 tI3 k176 tI4 k177 tI5 k178 tI6 k179 tI7 k180 tI8 k181 tI9 k182 tI10 k169 tI11 k170 tI12 k183 tI13 k184 tI14 k185 tI15 k186 tI16 k187 tI17 k188 tI18 k189 tI19 k190 tI20 k191 tI21 k192 tI22 k193 tI23 k194 tI24 k195 tI25 k196 tI26 fm197 fm198 fm199 fm200 fm201 fm202
    exact y_ir K hP hD hS (Nat.le_of_ble_eq_true rfl) (Nat.le_of_ble_eq_true rfl) (ty := .int) rfl rfl dX10_feed_63 (by refine ⟨(congrArg (fun z => some (Value.int z)) (show nI (((((ln + 4) + 4) + 4) + 4) + 4) = feedA ln from by simp [feedA, feedC, c_8, hrm])), ?_⟩; rw [show feedC ln = (((((ln + 4) + 4) + 4) + 4) + 4) from by simp [feedA, feedC, c_8, hrm]]; exact ⟨tg, (fun _ _ => rfl), kp203, hX205⟩)
  · have hrm := hz6 c_8
    refine lv_iconst (v := (-1)) hx hb dX10_feed_12 (by decide) ?_
    exact y_ir K hP hD hS (Nat.le_of_ble_eq_true rfl) (Nat.le_of_ble_eq_true rfl) (ty := .int) rfl rfl dX10_feed_13 (by refine ⟨(congrArg (fun z => some (Value.int z)) (show (-1) = feedA ln from by simp [feedA, feedC, c_8, hrm])), ?_⟩; rw [show feedC ln = ln from by simp [feedA, feedC, c_8, hrm]]; exact ⟨tg, fun _ _ => rfl, wd_kp.rf, hIX0⟩)
set_option maxHeartbeats 4000000 in
set_option maxRecDepth 100000 in
theorem X_end (l : Launch) (D : va_G) (cy : Nat → ClassId) (sk sv : Nat → Nat) (w : Wd) (tg : Nat → Nat) (x : Nat) (td : Int32) (pc ac sc ln : Nat) (se plv : Nat → Int32) (x1 : Int32) (hIX0 : IX cy tg x td pc ac sc ln se plv w) : Ct l D cy sk sv yX10_end wsX10_end ({ frames := 0, cells := 0, slots := 0, locals := 0 }) [.ref x, .int x1] w (fun v w1 => v = some (.int (endA ln x1)) ∧ XP cy tg x td pc ac sc (endC ln x1) se plv w w1) := by
  refine Ct.by (cc := cX10_end) (maxL := 2) (ret := (some .int)) (by decide +kernel) rfl (Nat.le_of_ble_eq_true rfl) ?_
  intro p e s m args below meth c A Q F hnm K ls hl
  have F : wd_Fx p s m args meth c cX10_end 2 wsX10_end RX10 D cy sk sv A := F
  have hl : lv_has ls 2 [(0, .ref x), (1, .int x1)] := hl
  have hx := F.1.1
  have hb := F.1.2.1
  have hown := F.1.2.2.2.1
  have hts := F.1.2.2.2.2
  intro H locs hP hD hS
  have kp0 : wd_kp (fun b => tg b < 10000) w w := wd_kp.rf
  refine hIX0 _ ?_
  intro a0 a1 a2 a3 a4 a5 a6 a7 a8 a10 a11 b0 b1 b2 b3 tb l0 l1 l2 l3 l4 l5 l6 l7 bl bm sh gc sg lu lv9 f0 f1 f2 f3 tbf e0 e1 e4 e5 e7 ff bf bf2 e2 e3 e6 ta sz fo to fo2 to2 tf tn ag co ra aa ru ga0 ga1 ga2 ga3 ga4 df cf nf sf uf pf pa pwo phd pgd pdy pno ptp af ad av0 av1 av2 av3 zf so sr sp0 sp1 sd hf sw hto hpp hle ham hhh hdd hru hde hcp hld hp90 hp91 hp92 hp93 hp94 hp95 hp96 hp97 hag kI0 tI0 kI1 tI1 kI2 tI2 kI3 tI3 kI4 tI4 kI5 tI5 kI6 tI6 kI7 tI7 kI8 tI8 kI9 tI9 kI10 tI10 kI11 tI11 kI12 tI12 kI13 tI13 kI14 tI14 kI15 tI15 kI16 tI16 kI17 tI17 kI18 tI18 kI19 tI19 kI20 tI20 kI21 tI21 kI22 tI22 kI23 tI23 kI24 tI24 kI25 tI25 kI26 tI26 hT9 hG9 hP9 hA9 hS9 hH9
  have hlu : lu < 2 := by omega
  have hlv : lv9 < 2 := by omega
  refine lv_iload_n hx hb dX10_end_0 rfl (lv_at hl 1 rfl) ?_
  refine lv_if_lt (tgt := 15) hx hb dX10_end_1 (by decide) (fun cA => ?_) (fun cA => ?_)
  · refine lv_iconst (v := (-1)) hx hb dX10_end_15 (by decide) ?_
    exact y_ir K hP hD hS (Nat.le_of_ble_eq_true rfl) (Nat.le_of_ble_eq_true rfl) (ty := .int) rfl rfl dX10_end_16 (by refine ⟨(congrArg (fun z => some (Value.int z)) (show (-1) = endA ln x1 from by simp [endA, endC, cA])), ?_⟩; rw [show endC ln x1 = ln from by simp [endA, endC, cA]]; exact ⟨tg, fun _ _ => rfl, wd_kp.rf, hIX0⟩)
  · refine lv_iload_n hx hb dX10_end_4 rfl (lv_at hl 1 rfl) ?_
    refine lv_aload_n hx hb dX10_end_5 rfl (lv_at hl 0 rfl) ?_
    refine x_get (ref := "NoteHouse") F hP kI0 rfl (fun _ h => List.mem_cons_of_mem _ (List.mem_append_left _ (List.mem_append_right _ (h)))) 6 (Nat.le_of_ble_eq_true rfl) (List.mem_cons_of_mem _ (List.mem_append_left _ (List.mem_append_left _ (List.mem_of_getElem? (i := 0) rfl)))) rfl rfl dX10_end_6 ?_
    refine x_get (ref := "NoteHouse$Tape") F hP kI11 rfl (fun _ h => List.mem_cons_of_mem _ (List.mem_append_right _ (h))) 1 (Nat.le_of_ble_eq_true rfl) (List.mem_cons_of_mem _ (List.mem_append_left _ (List.mem_append_left _ (List.mem_of_getElem? (i := 1) rfl)))) rfl rfl dX10_end_9 ?_
    refine lv_icmp_le (tgt := 17) hx hb dX10_end_12 (by decide) (fun c_1 => ?_) (fun c_1 => ?_)
    · obtain ⟨j, hj, rfl⟩ := nI_of cA
      have hjl : j ≤ ln := (nI_leI (by omega) (by omega)).mp c_1
      have clj : (nI j).toNatClampNeg = j := nI_clamp (by omega)
      refine lv_aload_n hx hb dX10_end_17 rfl (lv_at hl 0 rfl) ?_
      refine x_get (ref := "NoteHouse") F hP kI0 rfl (fun _ h => List.mem_cons_of_mem _ (List.mem_append_left _ (List.mem_append_right _ (h)))) 6 (Nat.le_of_ble_eq_true rfl) (List.mem_cons_of_mem _ (List.mem_append_left _ (List.mem_append_left _ (List.mem_of_getElem? (i := 0) rfl)))) rfl rfl dX10_end_18 ?_
      refine lv_iload_n hx hb dX10_end_21 rfl (lv_at hl 1 rfl) ?_
      refine y_put (ref := "NoteHouse$Tape") F hP hD hS kI11 rfl (fun _ h => List.mem_cons_of_mem _ (List.mem_append_right _ (h))) tyX7_ok nmX7 1 (Nat.le_of_ble_eq_true rfl) (List.mem_cons_of_mem _ (List.mem_append_left _ (List.mem_append_left _ (List.mem_of_getElem? (i := 1) rfl)))) rfl rfl rfl rfl (Nat.le_of_ble_eq_true rfl) dX10_end_22 (fun w2 ew3 H locs hP hD hS => ?_)
      have k4 := wd_at.pt ew3 kI0 (tg_ne tI0 tI11 (by decide))
      have k5 := wd_at.pt ew3 kI1 (tg_ne tI1 tI11 (by decide))
      have k6 := wd_at.pt ew3 kI2 (tg_ne tI2 tI11 (by decide))
      have k7 := wd_at.pt ew3 kI3 (tg_ne tI3 tI11 (by decide))
      have k8 := wd_at.pt ew3 kI4 (tg_ne tI4 tI11 (by decide))
      have k9 := wd_at.pt ew3 kI5 (tg_ne tI5 tI11 (by decide))
      have k10 := wd_at.pt ew3 kI6 (tg_ne tI6 tI11 (by decide))
      have k11 := wd_at.pt ew3 kI7 (tg_ne tI7 tI11 (by decide))
      have k12 := wd_at.pt ew3 kI8 (tg_ne tI8 tI11 (by decide))
      have k13 := wd_at.pt ew3 kI9 (tg_ne tI9 tI11 (by decide))
      have k14 := wd_at.pt ew3 kI10 (tg_ne tI10 tI11 (by decide))
      have k15 : wd_at w2 a6 (.inr (7, [.ref tb, .int (nI j), .int ta])) := wd_at.ps ew3 kI11
      have k16 := wd_at.pt ew3 kI12 (tg_ne tI12 tI11 (by decide))
      have k17 := wd_at.pt ew3 kI13 (tg_ne tI13 tI11 (by decide))
      have k18 := wd_at.pt ew3 kI14 (tg_ne tI14 tI11 (by decide))
      have k19 := wd_at.pt ew3 kI15 (tg_ne tI15 tI11 (by decide))
      have k20 := wd_at.pt ew3 kI16 (tg_ne tI16 tI11 (by decide))
      have k21 := wd_at.pt ew3 kI17 (tg_ne tI17 tI11 (by decide))
      have k22 := wd_at.pt ew3 kI18 (tg_ne tI18 tI11 (by decide))
      have k23 := wd_at.pt ew3 kI19 (tg_ne tI19 tI11 (by decide))
      have k24 := wd_at.pt ew3 kI20 (tg_ne tI20 tI11 (by decide))
      have k25 := wd_at.pt ew3 kI21 (tg_ne tI21 tI11 (by decide))
      have k26 := wd_at.pt ew3 kI22 (tg_ne tI22 tI11 (by decide))
      have k27 := wd_at.pt ew3 kI23 (tg_ne tI23 tI11 (tnA (show 11 < 30 by decide)))
      have k28 := wd_at.pt ew3 kI24 (tg_ne tI24 tI11 (tnA (show 11 < 32 by decide)))
      have k29 := wd_at.pt ew3 kI25 (tg_ne tI25 tI11 (tnA (show 11 < 30 by decide)))
      have k30 := wd_at.pt ew3 kI26 (tg_ne tI26 tI11 (tnA (show 11 < 32 by decide)))
      have fm31 : ∀ i9, i9 < 12 → tf i9 = some (tn i9) ∧ wd_at w2 (tn i9) (.inr (8, [.int (co i9), .int (ra i9), .int (se i9), .ref (ag i9)])) ∧ tg (tn i9) = 100 + i9 := fun i9 hi9 => ⟨(hT9 i9 hi9).1, wd_at.pt ew3 (hT9 i9 hi9).2.1 (tg_ne (hT9 i9 hi9).2.2 tI11 (tnA (show 11 < 100 by decide))), (hT9 i9 hi9).2.2⟩
      have fm32 : ∀ k9, k9 < 13 → (aOK (cf k9) (nf k9) ∧ ru k9 ≤ 12) ∧ wd_at w2 (aa k9) (.inr (1, [.ref (ga0 k9), .ref (ga1 k9), .ref (ga2 k9), .ref (ga3 k9), .ref (ga4 k9), .int (nI (ru k9))])) ∧ tg (aa k9) = 200 + k9 ∧ wd_at w2 (ga0 k9) (.inl (cy 2, 12, .inl (df k9))) ∧ tg (ga0 k9) = 220 + k9 ∧ wd_at w2 (ga1 k9) (.inl (cy 2, 12, .inl (cf k9))) ∧ tg (ga1 k9) = 240 + k9 ∧ wd_at w2 (ga2 k9) (.inl (cy 2, 72, .inl (nf k9))) ∧ tg (ga2 k9) = 260 + k9 ∧ wd_at w2 (ga3 k9) (.inl (cy 1, 72, .inl (sf k9))) ∧ tg (ga3 k9) = 280 + k9 ∧ wd_at w2 (ga4 k9) (.inl (cy 2, 72, .inl (uf k9))) ∧ tg (ga4 k9) = 300 + k9 := fun k9 hi9 => ⟨(hG9 k9 hi9).1, wd_at.pt ew3 (hG9 k9 hi9).2.1 (tg_ne (hG9 k9 hi9).2.2.1 tI11 (tnA (show 11 < 200 by decide))), (hG9 k9 hi9).2.2.1, wd_at.pt ew3 (hG9 k9 hi9).2.2.2.1 (tg_ne (hG9 k9 hi9).2.2.2.2.1 tI11 (tnA (show 11 < 220 by decide))), (hG9 k9 hi9).2.2.2.2.1, wd_at.pt ew3 (hG9 k9 hi9).2.2.2.2.2.1 (tg_ne (hG9 k9 hi9).2.2.2.2.2.2.1 tI11 (tnA (show 11 < 240 by decide))), (hG9 k9 hi9).2.2.2.2.2.2.1, wd_at.pt ew3 (hG9 k9 hi9).2.2.2.2.2.2.2.1 (tg_ne (hG9 k9 hi9).2.2.2.2.2.2.2.2.1 tI11 (tnA (show 11 < 260 by decide))), (hG9 k9 hi9).2.2.2.2.2.2.2.2.1, wd_at.pt ew3 (hG9 k9 hi9).2.2.2.2.2.2.2.2.2.1 (tg_ne (hG9 k9 hi9).2.2.2.2.2.2.2.2.2.2.1 tI11 (tnA (show 11 < 280 by decide))), (hG9 k9 hi9).2.2.2.2.2.2.2.2.2.2.1, wd_at.pt ew3 (hG9 k9 hi9).2.2.2.2.2.2.2.2.2.2.2.1 (tg_ne (hG9 k9 hi9).2.2.2.2.2.2.2.2.2.2.2.2 tI11 (tnA (show 11 < 300 by decide))), (hG9 k9 hi9).2.2.2.2.2.2.2.2.2.2.2.2⟩
      have fm33 : ∀ k9, k9 < pc → pf k9 = some (pa k9) ∧ wd_at w2 (pa k9) (.inr (3, [.int (plv k9), .int (pwo k9), .int (phd k9), .int (pgd k9), .int (pdy k9), .int (pno k9), .int (ptp k9)])) ∧ tg (pa k9) = 3000 + k9 := fun k9 hi9 => ⟨(hP9 k9 hi9).1, wd_at.pt ew3 (hP9 k9 hi9).2.1 (tg_ne (hP9 k9 hi9).2.2 tI11 (tnA (show 11 < 3000 by decide))), (hP9 k9 hi9).2.2⟩
      have fm34 : ∀ k9, k9 < ac → af k9 = some (ad k9) ∧ wd_at w2 (ad k9) (.inr (0, [.int (av0 k9), .int (av1 k9), .int (av2 k9), .int (av3 k9)])) ∧ tg (ad k9) = 4000 + k9 := fun k9 hi9 => ⟨(hA9 k9 hi9).1, wd_at.pt ew3 (hA9 k9 hi9).2.1 (tg_ne (hA9 k9 hi9).2.2 tI11 (tnA (show 11 < 4000 by decide))), (hA9 k9 hi9).2.2⟩
      have fm35 : ∀ k9, k9 < sc → zf k9 = some (so k9) ∧ wd_at w2 (so k9) (.inr (6, [.int (sp0 k9), .int (sp1 k9), .ref (sr k9)])) ∧ tg (so k9) = 5000 + k9 ∧ wd_at w2 (sr k9) (.inl (cy 2, 12, .inl (sd k9))) ∧ tg (sr k9) = 6000 + k9 := fun k9 hi9 => ⟨(hS9 k9 hi9).1, wd_at.pt ew3 (hS9 k9 hi9).2.1 (tg_ne (hS9 k9 hi9).2.2.1 tI11 (tnA (show 11 < 5000 by decide))), (hS9 k9 hi9).2.2.1, wd_at.pt ew3 (hS9 k9 hi9).2.2.2.1 (tg_ne (hS9 k9 hi9).2.2.2.2 tI11 (tnA (show 11 < 6000 by decide))), (hS9 k9 hi9).2.2.2.2⟩
      have fm36 : ∀ k9, k9 < sh → (hf k9 = some (sw k9) ∧ hto k9 < 12) ∧ wd_at w2 (sw k9) (.inr (5, [.int (nI (hto k9)), .int (hpp k9), .int (hle k9), .int (ham k9), .int (hhh k9), .int (hdd k9), .int (hru k9), .int (hde k9), .int (hcp k9), .int (hld k9)])) ∧ tg (sw k9) = 7000 + k9 := fun k9 hi9 => ⟨(hH9 k9 hi9).1, wd_at.pt ew3 (hH9 k9 hi9).2.1 (tg_ne (hH9 k9 hi9).2.2 tI11 (tnA (show 11 < 7000 by decide))), (hH9 k9 hi9).2.2⟩
      have kp37 := kp0.put ew3 (tgS tI11 (by decide))
      refine lv_iload_n hx hb dX10_end_25 rfl (lv_at hl 1 rfl) ?_
      have hX39 : IX cy tg x td pc ac sc j se plv w2 := IX.mk a0 a1 a2 a3 a4 a5 a6 a7 a8 a10 a11 b0 b1 b2 b3 tb l0 l1 l2 l3 l4 l5 l6 l7 bl bm sh gc sg lu lv9 f0 f1 f2 f3 tbf e0 e1 e4 e5 e7 ff bf bf2 e2 e3 e6 ta sz fo to fo2 to2 tf tn ag co ra aa ru ga0 ga1 ga2 ga3 ga4 df cf nf sf uf pf pa pwo phd pgd pdy pno ptp af ad av0 av1 av2 av3 zf so sr sp0 sp1 sd hf sw hto hpp hle ham hhh hdd hru hde hcp hld (by omega) (by omega) (by omega) (by omega) (by omega) (by omega) (by omega) (by omega) hag k4 tI0 k5 tI1 k6 tI2 k7 tI3 k8 tI4 k9 tI5 k10 tI6 k11 tI7 k12 tI8 k13 tI9 k14 tI10 k15 tI11 k16 tI12 k17 tI13 k18 tI14 k19 tI15 k20 tI16 k21 tI17 k22 tI18 k23 tI19 k24 tI20 k25 tI21 k26 tI22 k27 tI23 k28 tI24 k29 tI25 k30 tI26 fm31 fm32 fm33 fm34 fm35 fm36
      exact y_ir K hP hD hS (Nat.le_of_ble_eq_true rfl) (Nat.le_of_ble_eq_true rfl) (ty := .int) rfl rfl dX10_end_26 (by refine ⟨(congrArg (fun z => some (Value.int z)) (show (nI j) = endA ln (nI j) from by simp [endA, endC, cA, c_1, clj])), ?_⟩; rw [show endC ln (nI j) = j from by simp [endA, endC, cA, c_1, clj]]; exact ⟨tg, (fun _ _ => rfl), kp37, hX39⟩)
    · refine lv_iconst (v := (-1)) hx hb dX10_end_15 (by decide) ?_
      exact y_ir K hP hD hS (Nat.le_of_ble_eq_true rfl) (Nat.le_of_ble_eq_true rfl) (ty := .int) rfl rfl dX10_end_16 (by refine ⟨(congrArg (fun z => some (Value.int z)) (show (-1) = endA ln x1 from by simp [endA, endC, cA, c_1])), ?_⟩; rw [show endC ln x1 = ln from by simp [endA, endC, cA, c_1]]; exact ⟨tg, fun _ _ => rfl, wd_kp.rf, hIX0⟩)
set_option maxHeartbeats 4000000 in
set_option maxRecDepth 100000 in
theorem X_send (l : Launch) (D : va_G) (cy : Nat → ClassId) (sk sv : Nat → Nat) (w : Wd) (tg : Nat → Nat) (x : Nat) (td : Int32) (pc ac sc ln : Nat) (se plv : Nat → Int32) (x1 x2 : Int32) (hIX0 : IX cy tg x td pc ac sc ln se plv w) : Ct l D cy sk sv yX10_send wsX10_send ({ frames := 2, cells := 0, slots := 0, locals := 42 }) [.ref x, .int x1, .int x2] w (fun v w1 => v = some (.int (sndA se x1 x2)) ∧ XP cy tg x td pc ac sc ln (sndS se x1 x2) plv w w1) := by
  refine Ct.by (cc := cX10_send) (maxL := 3) (ret := (some .int)) (by decide +kernel) rfl (Nat.le_of_ble_eq_true rfl) ?_
  intro p e s m args below meth c A Q F hnm K ls hl
  have F : wd_Fx p s m args meth c cX10_send 3 wsX10_send RX10 D cy sk sv A := F
  have hl : lv_has ls 3 [(0, .ref x), (1, .int x1), (2, .int x2)] := hl
  have hx := F.1.1
  have hb := F.1.2.1
  have hown := F.1.2.2.2.1
  have hts := F.1.2.2.2.2
  intro H locs hP hD hS
  have kp0 : wd_kp (fun b => tg b < 10000) w w := wd_kp.rf
  refine hIX0 _ ?_
  intro a0 a1 a2 a3 a4 a5 a6 a7 a8 a10 a11 b0 b1 b2 b3 tb l0 l1 l2 l3 l4 l5 l6 l7 bl bm sh gc sg lu lv9 f0 f1 f2 f3 tbf e0 e1 e4 e5 e7 ff bf bf2 e2 e3 e6 ta sz fo to fo2 to2 tf tn ag co ra aa ru ga0 ga1 ga2 ga3 ga4 df cf nf sf uf pf pa pwo phd pgd pdy pno ptp af ad av0 av1 av2 av3 zf so sr sp0 sp1 sd hf sw hto hpp hle ham hhh hdd hru hde hcp hld hp90 hp91 hp92 hp93 hp94 hp95 hp96 hp97 hag kI0 tI0 kI1 tI1 kI2 tI2 kI3 tI3 kI4 tI4 kI5 tI5 kI6 tI6 kI7 tI7 kI8 tI8 kI9 tI9 kI10 tI10 kI11 tI11 kI12 tI12 kI13 tI13 kI14 tI14 kI15 tI15 kI16 tI16 kI17 tI17 kI18 tI18 kI19 tI19 kI20 tI20 kI21 tI21 kI22 tI22 kI23 tI23 kI24 tI24 kI25 tI25 kI26 tI26 hT9 hG9 hP9 hA9 hS9 hH9
  have hlu : lu < 2 := by omega
  have hlv : lv9 < 2 := by omega
  refine lv_iload_n hx hb dX10_send_0 rfl (lv_at hl 1 rfl) ?_
  refine x_callS (n := 1) (As := [.int x1]) (rest := []) F hP hD hS (g_isTown l D cy sk sv w x1) gX10_send_X10_isTown rfl (by decide +kernel) ⟨(Nat.le_of_ble_eq_true rfl), (Nat.le_of_ble_eq_true rfl)⟩ rfl hl.1 (Nat.le_of_ble_eq_true rfl) dX10_send_1 rfl ⟨(Nat.le_of_ble_eq_true rfl), (Nat.le_of_ble_eq_true rfl)⟩ (fun v2 w3 hp1 H locs hP hD hS => ?_)
  obtain ⟨rfl, rfl⟩ := hp1
  refine W.eq (g2 := F0 m 4 ls [.int (wi x1 0 11)]) rfl (W.widen (k := 0) (n := 0) (Nat.le_of_ble_eq_true rfl) (Nat.le_of_ble_eq_true rfl) ?_)
  refine lv_if_eq (tgt := 21) hx hb dX10_send_4 (by decide) (fun c_4 => ?_) (fun c_4 => ?_)
  · refine lv_iconst (v := (-1)) hx hb dX10_send_21 (by decide) ?_
    exact y_ir K hP hD hS (Nat.le_of_ble_eq_true rfl) (Nat.le_of_ble_eq_true rfl) (ty := .int) rfl rfl dX10_send_22 (by refine ⟨(congrArg (fun z => some (Value.int z)) (show (-1) = sndA se x1 x2 from by simp [sndA, sndS, c_4])), ?_⟩; rw [show sndS se x1 x2 = se from by simp [sndA, sndS, c_4]]; exact ⟨tg, fun _ _ => rfl, wd_kp.rf, hIX0⟩)
  · obtain ⟨j, hj, rfl, clj⟩ := wi_t c_4
    refine lv_iload_n hx hb dX10_send_7 rfl (lv_at hl 1 rfl) ?_
    refine lv_if_eq (tgt := 21) hx hb dX10_send_8 (by decide) (fun c_5 => ?_) (fun c_5 => ?_)
    · refine lv_iconst (v := (-1)) hx hb dX10_send_21 (by decide) ?_
      exact y_ir K hP hD hS (Nat.le_of_ble_eq_true rfl) (Nat.le_of_ble_eq_true rfl) (ty := .int) rfl rfl dX10_send_22 (by refine ⟨(congrArg (fun z => some (Value.int z)) (show (-1) = sndA se (nI j) x2 from by simp [sndA, sndS, c_4, clj, c_5])), ?_⟩; rw [show sndS se (nI j) x2 = se from by simp [sndA, sndS, c_4, clj, c_5]]; exact ⟨tg, fun _ _ => rfl, wd_kp.rf, hIX0⟩)
    · refine lv_iload_n hx hb dX10_send_11 rfl (lv_at hl 2 rfl) ?_
      refine lv_iconst (v := 1) hx hb dX10_send_12 (by decide) ?_
      refine lv_ldc (v := 1000000) hx hb hown (hts _ (List.mem_cons_of_mem _ (List.mem_append_left _ (List.mem_append_left _ (List.mem_of_getElem? (i := 0) rfl))))) dX10_send_13 ?_
      refine x_callS (n := 3) (As := [.int x2, .int 1, .int 1000000]) (rest := []) F hP hD hS (g_isWithin l D cy sk sv w x2 1 1000000) gX10_send_X10_isWithin rfl (by decide +kernel) ⟨(Nat.le_of_ble_eq_true rfl), (Nat.le_of_ble_eq_true rfl)⟩ rfl hl.1 (Nat.le_of_ble_eq_true rfl) dX10_send_15 rfl ⟨(Nat.le_of_ble_eq_true rfl), (Nat.le_of_ble_eq_true rfl)⟩ (fun v7 w8 hp6 H locs hP hD hS => ?_)
      obtain ⟨rfl, rfl⟩ := hp6
      refine W.eq (g2 := F0 m 18 ls [.int (wi x2 1 1000000)]) rfl (W.widen (k := 0) (n := 0) (Nat.le_of_ble_eq_true rfl) (Nat.le_of_ble_eq_true rfl) ?_)
      refine lv_if_ne (tgt := 23) hx hb dX10_send_18 (by decide) (fun c_9 => ?_) (fun c_9 => ?_)
      · refine lv_aload_n hx hb dX10_send_23 rfl (lv_at hl 0 rfl) ?_
        refine x_get (ref := "NoteHouse") F hP kI0 rfl (fun _ h => List.mem_cons_of_mem _ (List.mem_append_left _ (List.mem_append_right _ (h)))) 1 (Nat.le_of_ble_eq_true rfl) (List.mem_cons_of_mem _ (List.mem_append_left _ (List.mem_append_left _ (List.mem_of_getElem? (i := 1) rfl)))) rfl rfl dX10_send_24 ?_
        refine lv_iload_n hx hb dX10_send_27 rfl (lv_at hl 1 rfl) ?_
        refine x_aald F hP kI6 rfl (vp_in_nI (n := j) (N := 12) (by omega) (by decide)) dX10_send_28 ?_
        have pr10 := (hT9 j (by omega)).1
        have k11 := (hT9 j (by omega)).2.1
        have tz12 := (hT9 j (by omega)).2.2
        rw [nI_clamp (n := j) (by omega), pr10]
        refine W.eq (g2 := F0 m _ ls [.ref (tn j)]) rfl ?_
        refine x_get (ref := "NoteHouse$Town") F hP k11 rfl (fun _ h => List.mem_cons_of_mem _ (List.mem_append_right _ (h))) 2 (Nat.le_of_ble_eq_true rfl) (List.mem_cons_of_mem _ (List.mem_append_left _ (List.mem_append_left _ (List.mem_of_getElem? (i := 2) rfl)))) rfl rfl dX10_send_29 ?_
        refine lv_ldc (v := 1000000000) hx hb hown (hts _ (List.mem_cons_of_mem _ (List.mem_append_left _ (List.mem_append_left _ (List.mem_of_getElem? (i := 3) rfl))))) dX10_send_32 ?_
        refine lv_iload_n hx hb dX10_send_34 rfl (lv_at hl 2 rfl) ?_
        refine lv_isub hx hb dX10_send_35 ?_
        refine lv_icmp_le (tgt := 41) hx hb dX10_send_36 (by decide) (fun c_13 => ?_) (fun c_13 => ?_)
        · refine lv_aload_n hx hb dX10_send_41 rfl (lv_at hl 0 rfl) ?_
          refine x_get (ref := "NoteHouse") F hP kI0 rfl (fun _ h => List.mem_cons_of_mem _ (List.mem_append_left _ (List.mem_append_right _ (h)))) 1 (Nat.le_of_ble_eq_true rfl) (List.mem_cons_of_mem _ (List.mem_append_left _ (List.mem_append_left _ (List.mem_of_getElem? (i := 1) rfl)))) rfl rfl dX10_send_42 ?_
          refine lv_iload_n hx hb dX10_send_45 rfl (lv_at hl 1 rfl) ?_
          refine x_aald F hP kI6 rfl (vp_in_nI (n := j) (N := 12) (by omega) (by decide)) dX10_send_46 ?_
          rw [nI_clamp (n := j) (by omega), pr10]
          refine W.eq (g2 := F0 m _ ls [.ref (tn j)]) rfl ?_
          refine lv_dup hx hb dX10_send_47 rfl ?_
          refine x_get (ref := "NoteHouse$Town") F hP k11 rfl (fun _ h => List.mem_cons_of_mem _ (List.mem_append_right _ (h))) 2 (Nat.le_of_ble_eq_true rfl) (List.mem_cons_of_mem _ (List.mem_append_left _ (List.mem_append_left _ (List.mem_of_getElem? (i := 2) rfl)))) rfl rfl dX10_send_48 ?_
          refine lv_iload_n hx hb dX10_send_51 rfl (lv_at hl 2 rfl) ?_
          refine lv_iadd hx hb dX10_send_52 ?_
          refine y_put (ref := "NoteHouse$Town") F hP hD hS k11 rfl (fun _ h => List.mem_cons_of_mem _ (List.mem_append_right _ (h))) tyX8_ok nmX8 2 (Nat.le_of_ble_eq_true rfl) (List.mem_cons_of_mem _ (List.mem_append_left _ (List.mem_append_left _ (List.mem_of_getElem? (i := 2) rfl)))) rfl rfl rfl rfl (Nat.le_of_ble_eq_true rfl) dX10_send_53 (fun w14 ew15 H locs hP hD hS => ?_)
          have fm16 : ∀ i9, i9 < 12 ∧ i9 ≠ j → tf i9 = some (tn i9) ∧ wd_at w (tn i9) (.inr (8, [.int (co i9), .int (ra i9), .int (se i9), .ref (ag i9)])) ∧ tg (tn i9) = 100 + i9 := fun i9 hi8 => hT9 i9 hi8.1
          have k17 := wd_at.pt ew15 kI0 (tg_ne tI0 tz12 (tnA2 (show 0 < 100 by decide)))
          have k18 := wd_at.pt ew15 kI1 (tg_ne tI1 tz12 (tnA2 (show 1 < 100 by decide)))
          have k19 := wd_at.pt ew15 kI2 (tg_ne tI2 tz12 (tnA2 (show 2 < 100 by decide)))
          have k20 := wd_at.pt ew15 kI3 (tg_ne tI3 tz12 (tnA2 (show 3 < 100 by decide)))
          have k21 := wd_at.pt ew15 kI4 (tg_ne tI4 tz12 (tnA2 (show 4 < 100 by decide)))
          have k22 := wd_at.pt ew15 kI5 (tg_ne tI5 tz12 (tnA2 (show 5 < 100 by decide)))
          have k23 := wd_at.pt ew15 kI6 (tg_ne tI6 tz12 (tnA2 (show 6 < 100 by decide)))
          have k24 := wd_at.pt ew15 kI7 (tg_ne tI7 tz12 (tnA2 (show 7 < 100 by decide)))
          have k25 := wd_at.pt ew15 kI8 (tg_ne tI8 tz12 (tnA2 (show 8 < 100 by decide)))
          have k26 := wd_at.pt ew15 kI9 (tg_ne tI9 tz12 (tnA2 (show 9 < 100 by decide)))
          have k27 := wd_at.pt ew15 kI10 (tg_ne tI10 tz12 (tnA2 (show 10 < 100 by decide)))
          have k28 := wd_at.pt ew15 kI11 (tg_ne tI11 tz12 (tnA2 (show 11 < 100 by decide)))
          have k29 := wd_at.pt ew15 kI12 (tg_ne tI12 tz12 (tnA2 (show 12 < 100 by decide)))
          have k30 := wd_at.pt ew15 kI13 (tg_ne tI13 tz12 (tnA2 (show 13 < 100 by decide)))
          have k31 := wd_at.pt ew15 kI14 (tg_ne tI14 tz12 (tnA2 (show 14 < 100 by decide)))
          have k32 := wd_at.pt ew15 kI15 (tg_ne tI15 tz12 (tnA2 (show 15 < 100 by decide)))
          have k33 := wd_at.pt ew15 kI16 (tg_ne tI16 tz12 (tnA2 (show 16 < 100 by decide)))
          have k34 := wd_at.pt ew15 kI17 (tg_ne tI17 tz12 (tnA2 (show 17 < 100 by decide)))
          have k35 := wd_at.pt ew15 kI18 (tg_ne tI18 tz12 (tnA2 (show 18 < 100 by decide)))
          have k36 := wd_at.pt ew15 kI19 (tg_ne tI19 tz12 (tnA2 (show 19 < 100 by decide)))
          have k37 := wd_at.pt ew15 kI20 (tg_ne tI20 tz12 (tnA2 (show 20 < 100 by decide)))
          have k38 := wd_at.pt ew15 kI21 (tg_ne tI21 tz12 (tnA2 (show 21 < 100 by decide)))
          have k39 := wd_at.pt ew15 kI22 (tg_ne tI22 tz12 (tnA2 (show 22 < 100 by decide)))
          have k40 := wd_at.pt ew15 kI23 (tg_ne tI23 tz12 (tnB (n := 2) hlu (by decide)))
          have k41 := wd_at.pt ew15 kI24 (tg_ne tI24 tz12 (tnB (n := 2) hlu (by decide)))
          have k42 := wd_at.pt ew15 kI25 (tg_ne tI25 tz12 (tnB (n := 2) hlv (by decide)))
          have k43 := wd_at.pt ew15 kI26 (tg_ne tI26 tz12 (tnB (n := 2) hlv (by decide)))
          have k44 : wd_at w14 (tn j) (.inr (8, [.int (co j), .int (ra j), .int ((se j) + x2), .ref (ag j)])) := wd_at.ps ew15 k11
          have fm45 : ∀ i9, i9 < 12 ∧ i9 ≠ j → tf i9 = some (tn i9) ∧ wd_at w14 (tn i9) (.inr (8, [.int (co i9), .int (ra i9), .int (se i9), .ref (ag i9)])) ∧ tg (tn i9) = 100 + i9 := fun i9 hi9 => ⟨(fm16 i9 hi9).1, wd_at.pt ew15 (fm16 i9 hi9).2.1 (tg_ne (fm16 i9 hi9).2.2 tz12 (tnS hi9.2)), (fm16 i9 hi9).2.2⟩
          have fm46 : ∀ k9, k9 < 13 → (aOK (cf k9) (nf k9) ∧ ru k9 ≤ 12) ∧ wd_at w14 (aa k9) (.inr (1, [.ref (ga0 k9), .ref (ga1 k9), .ref (ga2 k9), .ref (ga3 k9), .ref (ga4 k9), .int (nI (ru k9))])) ∧ tg (aa k9) = 200 + k9 ∧ wd_at w14 (ga0 k9) (.inl (cy 2, 12, .inl (df k9))) ∧ tg (ga0 k9) = 220 + k9 ∧ wd_at w14 (ga1 k9) (.inl (cy 2, 12, .inl (cf k9))) ∧ tg (ga1 k9) = 240 + k9 ∧ wd_at w14 (ga2 k9) (.inl (cy 2, 72, .inl (nf k9))) ∧ tg (ga2 k9) = 260 + k9 ∧ wd_at w14 (ga3 k9) (.inl (cy 1, 72, .inl (sf k9))) ∧ tg (ga3 k9) = 280 + k9 ∧ wd_at w14 (ga4 k9) (.inl (cy 2, 72, .inl (uf k9))) ∧ tg (ga4 k9) = 300 + k9 := fun k9 hi9 => ⟨(hG9 k9 hi9).1, wd_at.pt ew15 (hG9 k9 hi9).2.1 (tg_ne (hG9 k9 hi9).2.2.1 tz12 (tnB2 (n := 12) hj (by decide))), (hG9 k9 hi9).2.2.1, wd_at.pt ew15 (hG9 k9 hi9).2.2.2.1 (tg_ne (hG9 k9 hi9).2.2.2.2.1 tz12 (tnB2 (n := 12) hj (by decide))), (hG9 k9 hi9).2.2.2.2.1, wd_at.pt ew15 (hG9 k9 hi9).2.2.2.2.2.1 (tg_ne (hG9 k9 hi9).2.2.2.2.2.2.1 tz12 (tnB2 (n := 12) hj (by decide))), (hG9 k9 hi9).2.2.2.2.2.2.1, wd_at.pt ew15 (hG9 k9 hi9).2.2.2.2.2.2.2.1 (tg_ne (hG9 k9 hi9).2.2.2.2.2.2.2.2.1 tz12 (tnB2 (n := 12) hj (by decide))), (hG9 k9 hi9).2.2.2.2.2.2.2.2.1, wd_at.pt ew15 (hG9 k9 hi9).2.2.2.2.2.2.2.2.2.1 (tg_ne (hG9 k9 hi9).2.2.2.2.2.2.2.2.2.2.1 tz12 (tnB2 (n := 12) hj (by decide))), (hG9 k9 hi9).2.2.2.2.2.2.2.2.2.2.1, wd_at.pt ew15 (hG9 k9 hi9).2.2.2.2.2.2.2.2.2.2.2.1 (tg_ne (hG9 k9 hi9).2.2.2.2.2.2.2.2.2.2.2.2 tz12 (tnB2 (n := 12) hj (by decide))), (hG9 k9 hi9).2.2.2.2.2.2.2.2.2.2.2.2⟩
          have fm47 : ∀ k9, k9 < pc → pf k9 = some (pa k9) ∧ wd_at w14 (pa k9) (.inr (3, [.int (plv k9), .int (pwo k9), .int (phd k9), .int (pgd k9), .int (pdy k9), .int (pno k9), .int (ptp k9)])) ∧ tg (pa k9) = 3000 + k9 := fun k9 hi9 => ⟨(hP9 k9 hi9).1, wd_at.pt ew15 (hP9 k9 hi9).2.1 (tg_ne (hP9 k9 hi9).2.2 tz12 (tnB2 (n := 12) hj (by decide))), (hP9 k9 hi9).2.2⟩
          have fm48 : ∀ k9, k9 < ac → af k9 = some (ad k9) ∧ wd_at w14 (ad k9) (.inr (0, [.int (av0 k9), .int (av1 k9), .int (av2 k9), .int (av3 k9)])) ∧ tg (ad k9) = 4000 + k9 := fun k9 hi9 => ⟨(hA9 k9 hi9).1, wd_at.pt ew15 (hA9 k9 hi9).2.1 (tg_ne (hA9 k9 hi9).2.2 tz12 (tnB2 (n := 12) hj (by decide))), (hA9 k9 hi9).2.2⟩
          have fm49 : ∀ k9, k9 < sc → zf k9 = some (so k9) ∧ wd_at w14 (so k9) (.inr (6, [.int (sp0 k9), .int (sp1 k9), .ref (sr k9)])) ∧ tg (so k9) = 5000 + k9 ∧ wd_at w14 (sr k9) (.inl (cy 2, 12, .inl (sd k9))) ∧ tg (sr k9) = 6000 + k9 := fun k9 hi9 => ⟨(hS9 k9 hi9).1, wd_at.pt ew15 (hS9 k9 hi9).2.1 (tg_ne (hS9 k9 hi9).2.2.1 tz12 (tnB2 (n := 12) hj (by decide))), (hS9 k9 hi9).2.2.1, wd_at.pt ew15 (hS9 k9 hi9).2.2.2.1 (tg_ne (hS9 k9 hi9).2.2.2.2 tz12 (tnB2 (n := 12) hj (by decide))), (hS9 k9 hi9).2.2.2.2⟩
          have fm50 : ∀ k9, k9 < sh → (hf k9 = some (sw k9) ∧ hto k9 < 12) ∧ wd_at w14 (sw k9) (.inr (5, [.int (nI (hto k9)), .int (hpp k9), .int (hle k9), .int (ham k9), .int (hhh k9), .int (hdd k9), .int (hru k9), .int (hde k9), .int (hcp k9), .int (hld k9)])) ∧ tg (sw k9) = 7000 + k9 := fun k9 hi9 => ⟨(hH9 k9 hi9).1, wd_at.pt ew15 (hH9 k9 hi9).2.1 (tg_ne (hH9 k9 hi9).2.2 tz12 (tnB2 (n := 12) hj (by decide))), (hH9 k9 hi9).2.2⟩
          have kp51 := kp0.put ew15 (tgS tz12 (by omega))
          refine lv_aload_n hx hb dX10_send_56 rfl (lv_at hl 0 rfl) ?_
          refine x_get (ref := "NoteHouse") F hP k17 rfl (fun _ h => List.mem_cons_of_mem _ (List.mem_append_left _ (List.mem_append_right _ (h)))) 1 (Nat.le_of_ble_eq_true rfl) (List.mem_cons_of_mem _ (List.mem_append_left _ (List.mem_append_left _ (List.mem_of_getElem? (i := 1) rfl)))) rfl rfl dX10_send_57 ?_
          refine lv_iload_n hx hb dX10_send_60 rfl (lv_at hl 1 rfl) ?_
          refine x_aald F hP k23 rfl (vp_in_nI (n := j) (N := 12) (by omega) (by decide)) dX10_send_61 ?_
          rw [nI_clamp (n := j) (by omega), pr10]
          refine W.eq (g2 := F0 m _ ls [.ref (tn j)]) rfl ?_
          refine x_get (ref := "NoteHouse$Town") F hP k44 rfl (fun _ h => List.mem_cons_of_mem _ (List.mem_append_right _ (h))) 2 (Nat.le_of_ble_eq_true rfl) (List.mem_cons_of_mem _ (List.mem_append_left _ (List.mem_append_left _ (List.mem_of_getElem? (i := 2) rfl)))) rfl rfl dX10_send_62 ?_
          have fm53 : ∀ i9, i9 < 12 → tf i9 = some (tn i9) ∧ wd_at w14 (tn i9) (.inr (8, [.int (co i9), .int (ra i9), .int ((va_up se j ((se j) + x2)) i9), .ref (ag i9)])) ∧ tg (tn i9) = 100 + i9 := by
            intro i9 hi9
            by_cases e9 : i9 = j
            · rw [e9]
              exact ⟨pr10, (by simp only [va_up_self]; exact k44), tz12⟩
            · simp only [va_up_ne _ _ e9]
              exact fm45 i9 (by omega)
          have hX54 : IX cy tg x td pc ac sc ln (va_up se j ((se j) + x2)) plv w14 := IX.mk a0 a1 a2 a3 a4 a5 a6 a7 a8 a10 a11 b0 b1 b2 b3 tb l0 l1 l2 l3 l4 l5 l6 l7 bl bm sh gc sg lu lv9 f0 f1 f2 f3 tbf e0 e1 e4 e5 e7 ff bf bf2 e2 e3 e6 ta sz fo to fo2 to2 tf tn ag co ra aa ru ga0 ga1 ga2 ga3 ga4 df cf nf sf uf pf pa pwo phd pgd pdy pno ptp af ad av0 av1 av2 av3 zf so sr sp0 sp1 sd hf sw hto hpp hle ham hhh hdd hru hde hcp hld (by omega) (by omega) (by omega) (by omega) (by omega) (by omega) (by omega) (by omega) hag k17 tI0 k18 tI1 k19 tI2 k20 tI3 k21 tI4 k22 tI5 k23 tI6 k24 tI7 k25 tI8 k26 tI9 k27 tI10 k28 tI11 k29 tI12 k30 tI13 k31 tI14 k32 tI15 k33 tI16 k34 tI17 k35 tI18 k36 tI19 k37 tI20 k38 tI21 k39 tI22 k40 tI23 k41 tI24 k42 tI25 k43 tI26 fm53 fm46 fm47 fm48 fm49 fm50
          exact y_ir K hP hD hS (Nat.le_of_ble_eq_true rfl) (Nat.le_of_ble_eq_true rfl) (ty := .int) rfl rfl dX10_send_65 (by refine ⟨(congrArg (fun z => some (Value.int z)) (show (se j) + x2 = sndA se (nI j) x2 from by simp [sndA, sndS, c_4, clj, c_5, c_9, c_13])), ?_⟩; rw [show sndS se (nI j) x2 = (va_up se j ((se j) + x2)) from by simp [sndA, sndS, c_4, clj, c_5, c_9, c_13]]; exact ⟨tg, (fun _ _ => rfl), kp51, hX54⟩)
        · refine lv_iconst (v := (-1)) hx hb dX10_send_39 (by decide) ?_
          exact y_ir K hP hD hS (Nat.le_of_ble_eq_true rfl) (Nat.le_of_ble_eq_true rfl) (ty := .int) rfl rfl dX10_send_40 (by refine ⟨(congrArg (fun z => some (Value.int z)) (show (-1) = sndA se (nI j) x2 from by simp [sndA, sndS, c_4, clj, c_5, c_9, c_13])), ?_⟩; rw [show sndS se (nI j) x2 = se from by simp [sndA, sndS, c_4, clj, c_5, c_9, c_13]]; exact ⟨tg, fun _ _ => rfl, wd_kp.rf, hIX0⟩)
      · refine lv_iconst (v := (-1)) hx hb dX10_send_21 (by decide) ?_
        exact y_ir K hP hD hS (Nat.le_of_ble_eq_true rfl) (Nat.le_of_ble_eq_true rfl) (ty := .int) rfl rfl dX10_send_22 (by refine ⟨(congrArg (fun z => some (Value.int z)) (show (-1) = sndA se (nI j) x2 from by simp [sndA, sndS, c_4, clj, c_5, c_9])), ?_⟩; rw [show sndS se (nI j) x2 = se from by simp [sndA, sndS, c_4, clj, c_5, c_9]]; exact ⟨tg, fun _ _ => rfl, wd_kp.rf, hIX0⟩)
