set_option maxHeartbeats 4000000 in
set_option maxRecDepth 100000 in
theorem X_show (l : Launch) (D : va_G) (cy : Nat → ClassId) (sk sv : Nat → Nat) (w : Wd) (tg : Nat → Nat) (x : Nat) (td : Int32) (pc ac sc ln : Nat) (se plv : Nat → Int32) (x1 x2 x3 x4 x5 x6 : Int32) (hIX0 : IX cy tg x td pc ac sc ln se plv w) : Ct l D cy sk sv yX10_show wsX10_show ({ frames := 6, cells := 1, slots := 10, locals := 131 }) [.ref x, .int x1, .int x2, .int x3, .int x4, .int x5, .int x6] w (fun v w1 => (∃ r : Int32, v = some (.int r)) ∧ XP cy tg x td pc ac sc ln se plv w w1) := by
  refine Ct.by (cc := cX10_show) (maxL := 10) (ret := (some .int)) (by decide +kernel) rfl (Nat.le_of_ble_eq_true rfl) ?_
  intro p e s m args below meth c A Q F hnm K ls hl
  have F : wd_Fx p s m args meth c cX10_show 10 wsX10_show RX10 D cy sk sv A := F
  have hl : lv_has ls 10 [(0, .ref x), (1, .int x1), (2, .int x2), (3, .int x3), (4, .int x4), (5, .int x5), (6, .int x6)] := hl
  have hx := F.1.1
  have hb := F.1.2.1
  have hown := F.1.2.2.2.1
  have hts := F.1.2.2.2.2
  intro H locs hP hD hS
  have kp0 : wd_kp (fun b => tg b < 10000) w w := wd_kp.rf
  refine hIX0 _ ?_
  intro a0 a1 a2 a3 a4 a5 a6 a7 a8 a10 a11 b0 b1 b2 b3 tb l0 l1 l2 l3 l4 l5 l6 l7 bl bm sh gc sg lu lv9 f0 f1 f2 f3 tbf e0 e1 e4 e5 e7 ff bf bf2 e2 e3 e6 ta sz fo to fo2 to2 tf tn ag co ra aa ru ga0 ga1 ga2 ga3 ga4 df cf nf sf uf pf pa pwo phd pgd pdy pno ptp af ad av0 av1 av2 av3 zf so sr sp0 sp1 sd hf sw hto hpp hle ham hhh hdd hru hde hcp hld hp90 hp91 hp92 hp93 hp94 hp95 hp96 hp97 hag kI0 tI0 kI1 tI1 kI2 tI2 kI3 tI3 kI4 tI4 kI5 tI5 kI6 tI6 kI7 tI7 kI8 tI8 kI9 tI9 kI10 tI10 kI11 tI11 kI12 tI12 kI13 tI13 kI14 tI14 kI15 tI15 kI16 tI16 kI17 tI17 kI18 tI18 kI19 tI19 kI20 tI20 kI21 tI21 kI22 tI22 kI23 tI23 kI24 tI24 kI25 tI25 kI26 tI26 hT9 hG9 hP9 hA9 hS9 hH9
  have hlu : lu < 2 := by omega
  have hlv : lv9 < 2 := by omega
  refine lv_aload_n hx hb dX10_show_0 rfl (lv_at hl 0 rfl) ?_
  refine lv_iload_n hx hb dX10_show_1 rfl (lv_at hl 2 rfl) ?_
  refine x_callV (n := 1) (As := [.int x2]) (rest := []) F hP hD hS (g_paperAt l D cy sk sv w x a0 a1 a2 a3 a4 a5 a6 a7 a8 (aa sg) a10 a11 pc ac sc sh td x2 tg pf pa plv pwo phd pgd pdy pno ptp kI0 kI7 hP9 (by omega)) gX10_show_X10_paperAt rfl rfl (by decide +kernel) ⟨(Nat.le_of_ble_eq_true rfl), (Nat.le_of_ble_eq_true rfl)⟩ rfl hl.1 (Nat.le_of_ble_eq_true rfl) kI0 rfl dX10_show_2 rfl ⟨(Nat.le_of_ble_eq_true rfl), (Nat.le_of_ble_eq_true rfl)⟩ (fun v2 w3 hp1 H locs hP hD hS => ?_)
  obtain ⟨hp1, rfl⟩ := hp1
  rcases hp1 with ⟨rfl, hn5⟩ | ⟨j4, hn5, ej4, rfl⟩
  · have pb6 := pb_n (by omega) hn5
    refine W.eq (g2 := F0 m 5 ls [.null]) rfl (W.widen (k := 0) (n := 0) (Nat.le_of_ble_eq_true rfl) (Nat.le_of_ble_eq_true rfl) ?_)
    refine lv_astoreN (lv' := [(7, .null), (0, .ref x), (1, .int x1), (2, .int x2), (3, .int x3), (4, .int x4), (5, .int x5), (6, .int x6)]) hx hb dX10_show_5 hl (by decide) rfl (fun ls hl => ?_)
    refine lv_aload_n hx hb dX10_show_7 rfl (lv_at hl 1 rfl) ?_
    refine x_get (ref := "NoteHouse") F hP kI0 rfl (fun _ h => List.mem_cons_of_mem _ (List.mem_append_left _ (List.mem_append_left _ (List.mem_append_left _ (List.mem_append_left _ (List.mem_append_left _ (List.mem_append_left _ (List.mem_append_left _ (List.mem_append_right _ (h)))))))))) 16 (Nat.le_of_ble_eq_true rfl) (List.mem_cons_of_mem _ (List.mem_append_left _ (List.mem_append_left _ (List.mem_append_left _ (List.mem_append_left _ (List.mem_append_left _ (List.mem_append_left _ (List.mem_append_left _ (List.mem_append_left _ (List.mem_append_left _ (List.mem_of_getElem? (i := 0) rfl))))))))))) rfl rfl dX10_show_8 ?_
    refine lv_sipush (v := 200) hx hb dX10_show_11 (by decide) ?_
    refine lv_icmp_ge (tgt := 37) hx hb dX10_show_14 (by decide) (fun c_7 => ?_) (fun c_7 => ?_)
    · refine lv_iconst (v := (-1)) hx hb dX10_show_37 (by decide) ?_
      exact y_ir K hP hD hS (Nat.le_of_ble_eq_true rfl) (Nat.le_of_ble_eq_true rfl) (ty := .int) rfl rfl dX10_show_38 (⟨⟨_, rfl⟩, ⟨tg, fun _ _ => rfl, wd_kp.rf, hIX0⟩⟩)
    · have hb_sh : sh < 200 := nI_lt_of (n := 200) c_7 (by omega)
      refine lv_iload_n hx hb dX10_show_17 rfl (lv_at hl 2 rfl) ?_
      refine x_callS (n := 1) (As := [.int x1]) (rest := []) F hP hD hS (g_isTown l D cy sk sv w x1) gX10_show_X10_isTown rfl (by decide +kernel) ⟨(Nat.le_of_ble_eq_true rfl), (Nat.le_of_ble_eq_true rfl)⟩ rfl hl.1 (Nat.le_of_ble_eq_true rfl) dX10_show_18 rfl ⟨(Nat.le_of_ble_eq_true rfl), (Nat.le_of_ble_eq_true rfl)⟩ (fun v9 w10 hp8 H locs hP hD hS => ?_)
      obtain ⟨rfl, rfl⟩ := hp8
      refine W.eq (g2 := F0 m 21 ls [.int (wi x1 0 11)]) rfl (W.widen (k := 0) (n := 0) (Nat.le_of_ble_eq_true rfl) (Nat.le_of_ble_eq_true rfl) ?_)
      refine lv_if_eq (tgt := 37) hx hb dX10_show_21 (by decide) (fun c_11 => ?_) (fun c_11 => ?_)
      · refine lv_iconst (v := (-1)) hx hb dX10_show_37 (by decide) ?_
        exact y_ir K hP hD hS (Nat.le_of_ble_eq_true rfl) (Nat.le_of_ble_eq_true rfl) (ty := .int) rfl rfl dX10_show_38 (⟨⟨_, rfl⟩, ⟨tg, fun _ _ => rfl, wd_kp.rf, hIX0⟩⟩)
      · obtain ⟨t, ht, rfl, clt⟩ := wi_t c_11
        refine lv_aloadN hx hb dX10_show_24 (lv_at hl 0 rfl) ?_
        refine lv_ifnullN (tgt := 37) hx hb dX10_show_26 (by decide) ?_
        refine lv_iconst (v := (-1)) hx hb dX10_show_37 (by decide) ?_
        exact y_ir K hP hD hS (Nat.le_of_ble_eq_true rfl) (Nat.le_of_ble_eq_true rfl) (ty := .int) rfl rfl dX10_show_38 (⟨⟨_, rfl⟩, ⟨tg, fun _ _ => rfl, wd_kp.rf, hIX0⟩⟩)
  · refine W.eq (g2 := F0 m 5 ls [.ref (pa j4)]) rfl (W.widen (k := 0) (n := 0) (Nat.le_of_ble_eq_true rfl) (Nat.le_of_ble_eq_true rfl) ?_)
    have pr12 := (hP9 j4 hn5).1
    have pb13 := pb_r (by omega) hn5 ej4
    have k14 := (hP9 j4 hn5).2.1
    have tz15 := (hP9 j4 hn5).2.2
    refine lv_astore (lv' := [(7, .ref (pa j4)), (0, .ref x), (1, .int x1), (2, .int x2), (3, .int x3), (4, .int x4), (5, .int x5), (6, .int x6)]) hx hb dX10_show_5 hl (by decide) rfl (fun ls hl => ?_)
    refine lv_aload_n hx hb dX10_show_7 rfl (lv_at hl 1 rfl) ?_
    refine x_get (ref := "NoteHouse") F hP kI0 rfl (fun _ h => List.mem_cons_of_mem _ (List.mem_append_left _ (List.mem_append_left _ (List.mem_append_left _ (List.mem_append_left _ (List.mem_append_left _ (List.mem_append_left _ (List.mem_append_left _ (List.mem_append_right _ (h)))))))))) 16 (Nat.le_of_ble_eq_true rfl) (List.mem_cons_of_mem _ (List.mem_append_left _ (List.mem_append_left _ (List.mem_append_left _ (List.mem_append_left _ (List.mem_append_left _ (List.mem_append_left _ (List.mem_append_left _ (List.mem_append_left _ (List.mem_append_left _ (List.mem_of_getElem? (i := 0) rfl))))))))))) rfl rfl dX10_show_8 ?_
    refine lv_sipush (v := 200) hx hb dX10_show_11 (by decide) ?_
    refine lv_icmp_ge (tgt := 37) hx hb dX10_show_14 (by decide) (fun c_16 => ?_) (fun c_16 => ?_)
    · refine lv_iconst (v := (-1)) hx hb dX10_show_37 (by decide) ?_
      exact y_ir K hP hD hS (Nat.le_of_ble_eq_true rfl) (Nat.le_of_ble_eq_true rfl) (ty := .int) rfl rfl dX10_show_38 (⟨⟨_, rfl⟩, ⟨tg, fun _ _ => rfl, wd_kp.rf, hIX0⟩⟩)
    · have hb_sh : sh < 200 := nI_lt_of (n := 200) c_16 (by omega)
      refine lv_iload_n hx hb dX10_show_17 rfl (lv_at hl 2 rfl) ?_
      refine x_callS (n := 1) (As := [.int x1]) (rest := []) F hP hD hS (g_isTown l D cy sk sv w x1) gX10_show_X10_isTown rfl (by decide +kernel) ⟨(Nat.le_of_ble_eq_true rfl), (Nat.le_of_ble_eq_true rfl)⟩ rfl hl.1 (Nat.le_of_ble_eq_true rfl) dX10_show_18 rfl ⟨(Nat.le_of_ble_eq_true rfl), (Nat.le_of_ble_eq_true rfl)⟩ (fun v18 w19 hp17 H locs hP hD hS => ?_)
      obtain ⟨rfl, rfl⟩ := hp17
      refine W.eq (g2 := F0 m 21 ls [.int (wi x1 0 11)]) rfl (W.widen (k := 0) (n := 0) (Nat.le_of_ble_eq_true rfl) (Nat.le_of_ble_eq_true rfl) ?_)
      refine lv_if_eq (tgt := 37) hx hb dX10_show_21 (by decide) (fun c_20 => ?_) (fun c_20 => ?_)
      · refine lv_iconst (v := (-1)) hx hb dX10_show_37 (by decide) ?_
        exact y_ir K hP hD hS (Nat.le_of_ble_eq_true rfl) (Nat.le_of_ble_eq_true rfl) (ty := .int) rfl rfl dX10_show_38 (⟨⟨_, rfl⟩, ⟨tg, fun _ _ => rfl, wd_kp.rf, hIX0⟩⟩)
      · obtain ⟨t, ht, rfl, clt⟩ := wi_t c_20
        refine lv_aload hx hb dX10_show_24 (lv_at hl 0 rfl) ?_
        refine lv_ifnull hx hb dX10_show_26 ?_
        refine lv_iload hx hb dX10_show_29 (lv_at hl 6 rfl) ?_
        refine x_callS (n := 1) (As := [.int x5]) (rest := []) F hP hD hS (g_isHand l D cy sk sv w x5) gX10_show_X10_isHand rfl (by decide +kernel) ⟨(Nat.le_of_ble_eq_true rfl), (Nat.le_of_ble_eq_true rfl)⟩ rfl hl.1 (Nat.le_of_ble_eq_true rfl) dX10_show_31 rfl ⟨(Nat.le_of_ble_eq_true rfl), (Nat.le_of_ble_eq_true rfl)⟩ (fun v22 w23 hp21 H locs hP hD hS => ?_)
        obtain ⟨rfl, rfl⟩ := hp21
        refine W.eq (g2 := F0 m 34 ls [.int (wi x5 0 99999)]) rfl (W.widen (k := 0) (n := 0) (Nat.le_of_ble_eq_true rfl) (Nat.le_of_ble_eq_true rfl) ?_)
        refine lv_if_ne (tgt := 39) hx hb dX10_show_34 (by decide) (fun c_24 => ?_) (fun c_24 => ?_)
        · refine lv_aload hx hb dX10_show_39 (lv_at hl 0 rfl) ?_
          refine lv_iload_n hx hb dX10_show_41 rfl (lv_at hl 4 rfl) ?_
          refine lv_iload hx hb dX10_show_42 (lv_at hl 5 rfl) ?_
          refine x_callV (n := 2) (As := [.int x3, .int x4]) (rest := []) F hP hD hS (g_canBeShown l D cy sk sv w (pa j4) x3 x4 (plv j4) (pwo j4) (phd j4) (pgd j4) (pdy j4) (pno j4) (ptp j4) k14) gX10_show_X3_canBeShown rfl rfl (by decide +kernel) ⟨(Nat.le_of_ble_eq_true rfl), (Nat.le_of_ble_eq_true rfl)⟩ rfl hl.1 (Nat.le_of_ble_eq_true rfl) k14 rfl dX10_show_44 rfl ⟨(Nat.le_of_ble_eq_true rfl), (Nat.le_of_ble_eq_true rfl)⟩ (fun v26 w27 hp25 H locs hP hD hS => ?_)
          obtain ⟨rx28, rfl, hz29, rfl⟩ := hp25
          refine W.eq (g2 := F0 m 47 ls [.int rx28]) rfl (W.widen (k := 0) (n := 0) (Nat.le_of_ble_eq_true rfl) (Nat.le_of_ble_eq_true rfl) ?_)
          refine lv_if_ne (tgt := 52) hx hb dX10_show_47 (by decide) (fun c_30 => ?_) (fun c_30 => ?_)
          · refine lv_aload hx hb dX10_show_52 (lv_at hl 0 rfl) ?_
            refine x_callV (n := 0) (As := []) (rest := []) F hP hD hS (g_isBook l D cy sk sv w (pa j4) (plv j4) (pwo j4) (phd j4) (pgd j4) (pdy j4) (pno j4) (ptp j4) k14) gX10_show_X3_isBook rfl rfl (by decide +kernel) ⟨(Nat.le_of_ble_eq_true rfl), (Nat.le_of_ble_eq_true rfl)⟩ rfl hl.1 (Nat.le_of_ble_eq_true rfl) k14 rfl dX10_show_54 rfl ⟨(Nat.le_of_ble_eq_true rfl), (Nat.le_of_ble_eq_true rfl)⟩ (fun v32 w33 hp31 H locs hP hD hS => ?_)
            obtain ⟨rx34, rfl, hz35, hz36, hz37, rfl⟩ := hp31
            refine W.eq (g2 := F0 m 57 ls [.int rx34]) rfl (W.widen (k := 0) (n := 0) (Nat.le_of_ble_eq_true rfl) (Nat.le_of_ble_eq_true rfl) ?_)
            refine lv_if_eq (tgt := 68) hx hb dX10_show_57 (by decide) (fun c_38 => ?_) (fun c_38 => ?_)
            · refine lv_iload hx hb dX10_show_68 (lv_at hl 5 rfl) ?_
              refine lv_istore (lv' := [(8, .int x4), (7, .ref (pa j4)), (0, .ref x), (1, .int (nI t)), (2, .int x2), (3, .int x3), (4, .int x4), (5, .int x5), (6, .int x6)]) hx hb dX10_show_70 hl (by decide) rfl (fun ls hl => ?_)
              refine y_new (fs := [.int 0, .int 0, .int 0, .int 0, .int 0, .int 0, .int 0, .int 0, .int 0, .int 0]) F hP hD hS (ci := 5) rfl (fun _ h => List.mem_cons_of_mem _ (List.mem_append_left _ (List.mem_append_left _ (List.mem_append_left _ (List.mem_append_left _ (List.mem_append_left _ (List.mem_append_right _ (h)))))))) tyX5_ok (List.mem_cons_of_mem _ (List.mem_append_left _ (List.mem_append_left _ (List.mem_append_left _ (List.mem_append_left _ (List.mem_append_left _ (List.mem_append_left _ (List.mem_append_left _ (List.mem_append_left _ (List.mem_append_left _ (List.mem_of_getElem? (i := 2) rfl))))))))))) (List.mem_cons_of_mem _ (List.mem_append_left _ (List.mem_append_left _ (List.mem_append_left _ (List.mem_append_left _ (List.mem_append_left _ (List.mem_append_left _ (List.mem_append_left _ (List.mem_append_left _ (List.mem_append_left _ (List.mem_of_getElem? (i := 3) rfl))))))))))) (List.mem_cons_of_mem _ (List.mem_append_left _ (List.mem_append_left _ (List.mem_append_left _ (List.mem_append_left _ (List.mem_append_left _ (List.mem_append_left _ (List.mem_append_left _ (List.mem_append_left _ (List.mem_append_left _ (List.mem_of_getElem? (i := 4) rfl))))))))))) df_5 (Nat.le_of_ble_eq_true rfl) (Nat.le_of_ble_eq_true rfl) dX10_show_72 (fun q39 w40 ew41 hq42 H hP hD hS => ?_)
              refine W.widen (k := 1) (n := 10) (Nat.le_of_ble_eq_true rfl) (Nat.le_of_ble_eq_true rfl) ?_
              have k43 := wd_at.ad ew41 hq42 kI0
              have k44 := wd_at.ad ew41 hq42 kI1
              have k45 := wd_at.ad ew41 hq42 kI2
              have k46 := wd_at.ad ew41 hq42 kI3
              have k47 := wd_at.ad ew41 hq42 kI4
              have k48 := wd_at.ad ew41 hq42 kI5
              have k49 := wd_at.ad ew41 hq42 kI6
              have k50 := wd_at.ad ew41 hq42 kI7
              have k51 := wd_at.ad ew41 hq42 kI8
              have k52 := wd_at.ad ew41 hq42 kI9
              have k53 := wd_at.ad ew41 hq42 kI10
              have k54 := wd_at.ad ew41 hq42 kI11
              have k55 := wd_at.ad ew41 hq42 kI12
              have k56 := wd_at.ad ew41 hq42 kI13
              have k57 := wd_at.ad ew41 hq42 kI14
              have k58 := wd_at.ad ew41 hq42 kI15
              have k59 := wd_at.ad ew41 hq42 kI16
              have k60 := wd_at.ad ew41 hq42 kI17
              have k61 := wd_at.ad ew41 hq42 kI18
              have k62 := wd_at.ad ew41 hq42 kI19
              have k63 := wd_at.ad ew41 hq42 kI20
              have k64 := wd_at.ad ew41 hq42 kI21
              have k65 := wd_at.ad ew41 hq42 kI22
              have k66 := wd_at.ad ew41 hq42 kI23
              have k67 := wd_at.ad ew41 hq42 kI24
              have k68 := wd_at.ad ew41 hq42 kI25
              have k69 := wd_at.ad ew41 hq42 kI26
              have k70 := wd_at.ad ew41 hq42 k14
              have k71 : wd_at w40 q39 (.inr (5, [.int 0, .int 0, .int 0, .int 0, .int 0, .int 0, .int 0, .int 0, .int 0, .int 0])) := wd_at.nw ew41
              have fm72 : ∀ i9, i9 < 12 → tf i9 = some (tn i9) ∧ wd_at w40 (tn i9) (.inr (8, [.int (co i9), .int (ra i9), .int (se i9), .ref (ag i9)])) ∧ tg (tn i9) = 100 + i9 := fun i9 hi9 => ⟨(hT9 i9 hi9).1, wd_at.ad ew41 hq42 (hT9 i9 hi9).2.1, (hT9 i9 hi9).2.2⟩
              have fn73 : ∀ i9, i9 < 12 → (tn i9) ≠ q39 := fun i9 hi9 => wd_nL hq42 (hT9 i9 hi9).2.1
              have fm74 : ∀ k9, k9 < 13 → (aOK (cf k9) (nf k9) ∧ ru k9 ≤ 12) ∧ wd_at w40 (aa k9) (.inr (1, [.ref (ga0 k9), .ref (ga1 k9), .ref (ga2 k9), .ref (ga3 k9), .ref (ga4 k9), .int (nI (ru k9))])) ∧ tg (aa k9) = 200 + k9 ∧ wd_at w40 (ga0 k9) (.inl (cy 2, 12, .inl (df k9))) ∧ tg (ga0 k9) = 220 + k9 ∧ wd_at w40 (ga1 k9) (.inl (cy 2, 12, .inl (cf k9))) ∧ tg (ga1 k9) = 240 + k9 ∧ wd_at w40 (ga2 k9) (.inl (cy 2, 72, .inl (nf k9))) ∧ tg (ga2 k9) = 260 + k9 ∧ wd_at w40 (ga3 k9) (.inl (cy 1, 72, .inl (sf k9))) ∧ tg (ga3 k9) = 280 + k9 ∧ wd_at w40 (ga4 k9) (.inl (cy 2, 72, .inl (uf k9))) ∧ tg (ga4 k9) = 300 + k9 := fun k9 hi9 => ⟨(hG9 k9 hi9).1, wd_at.ad ew41 hq42 (hG9 k9 hi9).2.1, (hG9 k9 hi9).2.2.1, wd_at.ad ew41 hq42 (hG9 k9 hi9).2.2.2.1, (hG9 k9 hi9).2.2.2.2.1, wd_at.ad ew41 hq42 (hG9 k9 hi9).2.2.2.2.2.1, (hG9 k9 hi9).2.2.2.2.2.2.1, wd_at.ad ew41 hq42 (hG9 k9 hi9).2.2.2.2.2.2.2.1, (hG9 k9 hi9).2.2.2.2.2.2.2.2.1, wd_at.ad ew41 hq42 (hG9 k9 hi9).2.2.2.2.2.2.2.2.2.1, (hG9 k9 hi9).2.2.2.2.2.2.2.2.2.2.1, wd_at.ad ew41 hq42 (hG9 k9 hi9).2.2.2.2.2.2.2.2.2.2.2.1, (hG9 k9 hi9).2.2.2.2.2.2.2.2.2.2.2.2⟩
              have fn75 : ∀ k9, k9 < 13 → (aa k9) ≠ q39 ∧ (ga0 k9) ≠ q39 ∧ (ga1 k9) ≠ q39 ∧ (ga2 k9) ≠ q39 ∧ (ga3 k9) ≠ q39 ∧ (ga4 k9) ≠ q39 := fun k9 hi9 => ⟨wd_nL hq42 (hG9 k9 hi9).2.1, wd_nL hq42 (hG9 k9 hi9).2.2.2.1, wd_nL hq42 (hG9 k9 hi9).2.2.2.2.2.1, wd_nL hq42 (hG9 k9 hi9).2.2.2.2.2.2.2.1, wd_nL hq42 (hG9 k9 hi9).2.2.2.2.2.2.2.2.2.1, wd_nL hq42 (hG9 k9 hi9).2.2.2.2.2.2.2.2.2.2.2.1⟩
              have fm76 : ∀ k9, k9 < pc → pf k9 = some (pa k9) ∧ wd_at w40 (pa k9) (.inr (3, [.int (plv k9), .int (pwo k9), .int (phd k9), .int (pgd k9), .int (pdy k9), .int (pno k9), .int (ptp k9)])) ∧ tg (pa k9) = 3000 + k9 := fun k9 hi9 => ⟨(hP9 k9 hi9).1, wd_at.ad ew41 hq42 (hP9 k9 hi9).2.1, (hP9 k9 hi9).2.2⟩
              have fn77 : ∀ k9, k9 < pc → (pa k9) ≠ q39 := fun k9 hi9 => wd_nL hq42 (hP9 k9 hi9).2.1
              have fm78 : ∀ k9, k9 < ac → af k9 = some (ad k9) ∧ wd_at w40 (ad k9) (.inr (0, [.int (av0 k9), .int (av1 k9), .int (av2 k9), .int (av3 k9)])) ∧ tg (ad k9) = 4000 + k9 := fun k9 hi9 => ⟨(hA9 k9 hi9).1, wd_at.ad ew41 hq42 (hA9 k9 hi9).2.1, (hA9 k9 hi9).2.2⟩
              have fn79 : ∀ k9, k9 < ac → (ad k9) ≠ q39 := fun k9 hi9 => wd_nL hq42 (hA9 k9 hi9).2.1
              have fm80 : ∀ k9, k9 < sc → zf k9 = some (so k9) ∧ wd_at w40 (so k9) (.inr (6, [.int (sp0 k9), .int (sp1 k9), .ref (sr k9)])) ∧ tg (so k9) = 5000 + k9 ∧ wd_at w40 (sr k9) (.inl (cy 2, 12, .inl (sd k9))) ∧ tg (sr k9) = 6000 + k9 := fun k9 hi9 => ⟨(hS9 k9 hi9).1, wd_at.ad ew41 hq42 (hS9 k9 hi9).2.1, (hS9 k9 hi9).2.2.1, wd_at.ad ew41 hq42 (hS9 k9 hi9).2.2.2.1, (hS9 k9 hi9).2.2.2.2⟩
              have fn81 : ∀ k9, k9 < sc → (so k9) ≠ q39 ∧ (sr k9) ≠ q39 := fun k9 hi9 => ⟨wd_nL hq42 (hS9 k9 hi9).2.1, wd_nL hq42 (hS9 k9 hi9).2.2.2.1⟩
              have fm82 : ∀ k9, k9 < sh → (hf k9 = some (sw k9) ∧ hto k9 < 12) ∧ wd_at w40 (sw k9) (.inr (5, [.int (nI (hto k9)), .int (hpp k9), .int (hle k9), .int (ham k9), .int (hhh k9), .int (hdd k9), .int (hru k9), .int (hde k9), .int (hcp k9), .int (hld k9)])) ∧ tg (sw k9) = 7000 + k9 := fun k9 hi9 => ⟨(hH9 k9 hi9).1, wd_at.ad ew41 hq42 (hH9 k9 hi9).2.1, (hH9 k9 hi9).2.2⟩
              have fn83 : ∀ k9, k9 < sh → (sw k9) ≠ q39 := fun k9 hi9 => wd_nL hq42 (hH9 k9 hi9).2.1
              have kp84 := kp0.add ew41 hq42
              refine lv_dup hx hb dX10_show_75 rfl ?_
              refine lv_iload_n hx hb dX10_show_76 rfl (lv_at hl 3 rfl) ?_
              refine lv_iload_n hx hb dX10_show_77 rfl (lv_at hl 4 rfl) ?_
              refine lv_iload_n hx hb dX10_show_78 rfl (lv_at hl 5 rfl) ?_
              refine lv_iload hx hb dX10_show_79 (lv_at hl 0 rfl) ?_
              refine lv_iload hx hb dX10_show_81 (lv_at hl 7 rfl) ?_
              refine lv_aload_n hx hb dX10_show_83 rfl (lv_at hl 2 rfl) ?_
              refine x_get (ref := "NoteHouse") F hP k43 rfl (fun _ h => List.mem_cons_of_mem _ (List.mem_append_left _ (List.mem_append_left _ (List.mem_append_left _ (List.mem_append_left _ (List.mem_append_left _ (List.mem_append_left _ (List.mem_append_left _ (List.mem_append_right _ (h)))))))))) 12 (Nat.le_of_ble_eq_true rfl) (List.mem_cons_of_mem _ (List.mem_append_left _ (List.mem_append_left _ (List.mem_append_left _ (List.mem_append_left _ (List.mem_append_left _ (List.mem_append_left _ (List.mem_append_left _ (List.mem_append_left _ (List.mem_append_left _ (List.mem_of_getElem? (i := 5) rfl))))))))))) rfl rfl dX10_show_84 ?_
              refine x_callI (ret := none) (n := 6) (As := [.int (nI t), .int x2, .int x3, .int x4, .int x5, .int td]) (rest := [.ref q39]) F hP hD hS (g_shown_init l D cy sk sv w40 q39 (nI t) x2 x3 x4 x5 td k71 (fun b => b = q39) rfl) gX10_show_X5_init rfl (List.mem_cons_of_mem _ (List.mem_append_left _ (List.mem_append_left _ (List.mem_append_left _ (List.mem_append_left _ (List.mem_append_left _ (List.mem_append_left _ (List.mem_append_left _ (List.mem_append_left _ (List.mem_append_left _ (List.mem_of_getElem? (i := 4) rfl))))))))))) (List.mem_cons_of_mem _ (List.mem_append_left _ (List.mem_append_left _ (List.mem_append_left _ (List.mem_append_left _ (List.mem_append_left _ (List.mem_append_left _ (List.mem_append_left _ (List.mem_append_left _ (List.mem_append_right _ (List.mem_append_left _ (List.mem_of_getElem? (i := 21) rfl)))))))))))) (List.mem_cons_of_mem _ (List.mem_append_left _ (List.mem_append_left _ (List.mem_append_left _ (List.mem_append_left _ (List.mem_append_left _ (List.mem_append_left _ (List.mem_append_left _ (List.mem_append_left _ (List.mem_append_right _ (List.mem_append_left _ (List.mem_of_getElem? (i := 22) rfl)))))))))))) rfl (by decide +kernel) ⟨(Nat.le_of_ble_eq_true rfl), (Nat.le_of_ble_eq_true rfl)⟩ rfl hl.1 (Nat.le_of_ble_eq_true rfl) dX10_show_87 rfl ⟨(Nat.le_of_ble_eq_true rfl), (Nat.le_of_ble_eq_true rfl)⟩ (fun v86 w87 hp85 H locs hP hD hS => ?_)
              obtain ⟨rfl, kq89, k88⟩ := hp85
              have k90 := kq89.2 _ _ k43 (wd_nL hq42 kI0)
              have k91 := kq89.2 _ _ k44 (wd_nL hq42 kI1)
              have k92 := kq89.2 _ _ k45 (wd_nL hq42 kI2)
              have k93 := kq89.2 _ _ k46 (wd_nL hq42 kI3)
              have k94 := kq89.2 _ _ k47 (wd_nL hq42 kI4)
              have k95 := kq89.2 _ _ k48 (wd_nL hq42 kI5)
              have k96 := kq89.2 _ _ k49 (wd_nL hq42 kI6)
              have k97 := kq89.2 _ _ k50 (wd_nL hq42 kI7)
              have k98 := kq89.2 _ _ k51 (wd_nL hq42 kI8)
              have k99 := kq89.2 _ _ k52 (wd_nL hq42 kI9)
              have k100 := kq89.2 _ _ k53 (wd_nL hq42 kI10)
              have k101 := kq89.2 _ _ k54 (wd_nL hq42 kI11)
              have k102 := kq89.2 _ _ k55 (wd_nL hq42 kI12)
              have k103 := kq89.2 _ _ k56 (wd_nL hq42 kI13)
              have k104 := kq89.2 _ _ k57 (wd_nL hq42 kI14)
              have k105 := kq89.2 _ _ k58 (wd_nL hq42 kI15)
              have k106 := kq89.2 _ _ k59 (wd_nL hq42 kI16)
              have k107 := kq89.2 _ _ k60 (wd_nL hq42 kI17)
              have k108 := kq89.2 _ _ k61 (wd_nL hq42 kI18)
              have k109 := kq89.2 _ _ k62 (wd_nL hq42 kI19)
              have k110 := kq89.2 _ _ k63 (wd_nL hq42 kI20)
              have k111 := kq89.2 _ _ k64 (wd_nL hq42 kI21)
              have k112 := kq89.2 _ _ k65 (wd_nL hq42 kI22)
              have k113 := kq89.2 _ _ k66 (wd_nL hq42 kI23)
              have k114 := kq89.2 _ _ k67 (wd_nL hq42 kI24)
              have k115 := kq89.2 _ _ k68 (wd_nL hq42 kI25)
              have k116 := kq89.2 _ _ k69 (wd_nL hq42 kI26)
              have k117 := kq89.2 _ _ k70 (wd_nL hq42 k14)
              have fm118 : ∀ i9, i9 < 12 → tf i9 = some (tn i9) ∧ wd_at w87 (tn i9) (.inr (8, [.int (co i9), .int (ra i9), .int (se i9), .ref (ag i9)])) ∧ tg (tn i9) = 100 + i9 := fun i9 hi9 => ⟨(fm72 i9 hi9).1, kq89.2 _ _ (fm72 i9 hi9).2.1 (fn73 i9 hi9), (fm72 i9 hi9).2.2⟩
              have fm119 : ∀ k9, k9 < 13 → (aOK (cf k9) (nf k9) ∧ ru k9 ≤ 12) ∧ wd_at w87 (aa k9) (.inr (1, [.ref (ga0 k9), .ref (ga1 k9), .ref (ga2 k9), .ref (ga3 k9), .ref (ga4 k9), .int (nI (ru k9))])) ∧ tg (aa k9) = 200 + k9 ∧ wd_at w87 (ga0 k9) (.inl (cy 2, 12, .inl (df k9))) ∧ tg (ga0 k9) = 220 + k9 ∧ wd_at w87 (ga1 k9) (.inl (cy 2, 12, .inl (cf k9))) ∧ tg (ga1 k9) = 240 + k9 ∧ wd_at w87 (ga2 k9) (.inl (cy 2, 72, .inl (nf k9))) ∧ tg (ga2 k9) = 260 + k9 ∧ wd_at w87 (ga3 k9) (.inl (cy 1, 72, .inl (sf k9))) ∧ tg (ga3 k9) = 280 + k9 ∧ wd_at w87 (ga4 k9) (.inl (cy 2, 72, .inl (uf k9))) ∧ tg (ga4 k9) = 300 + k9 := fun k9 hi9 => ⟨(fm74 k9 hi9).1, kq89.2 _ _ (fm74 k9 hi9).2.1 ((fn75 k9 hi9).1), (fm74 k9 hi9).2.2.1, kq89.2 _ _ (fm74 k9 hi9).2.2.2.1 ((fn75 k9 hi9).2.1), (fm74 k9 hi9).2.2.2.2.1, kq89.2 _ _ (fm74 k9 hi9).2.2.2.2.2.1 ((fn75 k9 hi9).2.2.1), (fm74 k9 hi9).2.2.2.2.2.2.1, kq89.2 _ _ (fm74 k9 hi9).2.2.2.2.2.2.2.1 ((fn75 k9 hi9).2.2.2.1), (fm74 k9 hi9).2.2.2.2.2.2.2.2.1, kq89.2 _ _ (fm74 k9 hi9).2.2.2.2.2.2.2.2.2.1 ((fn75 k9 hi9).2.2.2.2.1), (fm74 k9 hi9).2.2.2.2.2.2.2.2.2.2.1, kq89.2 _ _ (fm74 k9 hi9).2.2.2.2.2.2.2.2.2.2.2.1 ((fn75 k9 hi9).2.2.2.2.2), (fm74 k9 hi9).2.2.2.2.2.2.2.2.2.2.2.2⟩
              have fm120 : ∀ k9, k9 < pc → pf k9 = some (pa k9) ∧ wd_at w87 (pa k9) (.inr (3, [.int (plv k9), .int (pwo k9), .int (phd k9), .int (pgd k9), .int (pdy k9), .int (pno k9), .int (ptp k9)])) ∧ tg (pa k9) = 3000 + k9 := fun k9 hi9 => ⟨(fm76 k9 hi9).1, kq89.2 _ _ (fm76 k9 hi9).2.1 (fn77 k9 hi9), (fm76 k9 hi9).2.2⟩
              have fm121 : ∀ k9, k9 < ac → af k9 = some (ad k9) ∧ wd_at w87 (ad k9) (.inr (0, [.int (av0 k9), .int (av1 k9), .int (av2 k9), .int (av3 k9)])) ∧ tg (ad k9) = 4000 + k9 := fun k9 hi9 => ⟨(fm78 k9 hi9).1, kq89.2 _ _ (fm78 k9 hi9).2.1 (fn79 k9 hi9), (fm78 k9 hi9).2.2⟩
              have fm122 : ∀ k9, k9 < sc → zf k9 = some (so k9) ∧ wd_at w87 (so k9) (.inr (6, [.int (sp0 k9), .int (sp1 k9), .ref (sr k9)])) ∧ tg (so k9) = 5000 + k9 ∧ wd_at w87 (sr k9) (.inl (cy 2, 12, .inl (sd k9))) ∧ tg (sr k9) = 6000 + k9 := fun k9 hi9 => ⟨(fm80 k9 hi9).1, kq89.2 _ _ (fm80 k9 hi9).2.1 ((fn81 k9 hi9).1), (fm80 k9 hi9).2.2.1, kq89.2 _ _ (fm80 k9 hi9).2.2.2.1 ((fn81 k9 hi9).2), (fm80 k9 hi9).2.2.2.2⟩
              have fm123 : ∀ k9, k9 < sh → (hf k9 = some (sw k9) ∧ hto k9 < 12) ∧ wd_at w87 (sw k9) (.inr (5, [.int (nI (hto k9)), .int (hpp k9), .int (hle k9), .int (ham k9), .int (hhh k9), .int (hdd k9), .int (hru k9), .int (hde k9), .int (hcp k9), .int (hld k9)])) ∧ tg (sw k9) = 7000 + k9 := fun k9 hi9 => ⟨(fm82 k9 hi9).1, kq89.2 _ _ (fm82 k9 hi9).2.1 (fn83 k9 hi9), (fm82 k9 hi9).2.2⟩
              have kp124 := kp84.tr kq89 (fun b9 hm q9 => (fun q9 => absurd (q9 ▸ hm) (kp0.out hq42)) q9)
              refine W.eq (g2 := F0 m 90 ls [.ref q39]) rfl (W.widen (k := 1) (n := 10) (Nat.le_of_ble_eq_true rfl) (Nat.le_of_ble_eq_true rfl) ?_)
              refine lv_astore (lv' := [(9, .ref q39), (8, .int x4), (7, .ref (pa j4)), (0, .ref x), (1, .int (nI t)), (2, .int x2), (3, .int x3), (4, .int x4), (5, .int x5), (6, .int x6)]) hx hb dX10_show_90 hl (by decide) rfl (fun ls hl => ?_)
              refine lv_aload_n hx hb dX10_show_92 rfl (lv_at hl 3 rfl) ?_
              refine lv_aload hx hb dX10_show_93 (lv_at hl 0 rfl) ?_
              refine lv_aload hx hb dX10_show_95 (lv_at hl 2 rfl) ?_
              refine x_callV (n := 2) (As := [.ref q39, .ref (pa j4)]) (rest := []) F hP hD hS (g_gatherFacts l D cy sk sv w87 x a0 a1 a2 a3 a4 a5 a6 a7 a8 (aa sg) a10 a11 pc ac sc sh td tg af ad av0 av1 av2 av3 zf so sr sp0 sp1 sd q39 t x2 x3 x4 x5 td (-1) 1 0 (-1) (pa j4) (plv j4) (pwo j4) (phd j4) (pgd j4) (pdy j4) (pno j4) (ptp j4) ff k90 k98 k99 k112 k88 k117 fm121 fm122 (fun b => b = a8) rfl (by omega) (by omega) (by omega)) gX10_show_X10_gatherFacts rfl rfl (by decide +kernel) ⟨(Nat.le_of_ble_eq_true rfl), (Nat.le_of_ble_eq_true rfl)⟩ rfl hl.1 (Nat.le_of_ble_eq_true rfl) k90 rfl dX10_show_97 rfl ⟨(Nat.le_of_ble_eq_true rfl), (Nat.le_of_ble_eq_true rfl)⟩ (fun v126 w127 hp125 H locs hP hD hS => ?_)
              obtain ⟨ffx128, rfl, kq130, k129⟩ := hp125
              have k131 := kq130.2 _ _ k90 (tg_ne tI0 tI22 (by decide))
              have k132 := kq130.2 _ _ k91 (tg_ne tI1 tI22 (by decide))
              have k133 := kq130.2 _ _ k92 (tg_ne tI2 tI22 (by decide))
              have k134 := kq130.2 _ _ k93 (tg_ne tI3 tI22 (by decide))
              have k135 := kq130.2 _ _ k94 (tg_ne tI4 tI22 (by decide))
              have k136 := kq130.2 _ _ k95 (tg_ne tI5 tI22 (by decide))
              have k137 := kq130.2 _ _ k96 (tg_ne tI6 tI22 (by decide))
              have k138 := kq130.2 _ _ k97 (tg_ne tI7 tI22 (by decide))
              have k139 := kq130.2 _ _ k98 (tg_ne tI8 tI22 (by decide))
              have k140 := kq130.2 _ _ k99 (tg_ne tI9 tI22 (by decide))
              have k141 := kq130.2 _ _ k100 (tg_ne tI10 tI22 (by decide))
              have k142 := kq130.2 _ _ k101 (tg_ne tI11 tI22 (by decide))
              have k143 := kq130.2 _ _ k102 (tg_ne tI12 tI22 (by decide))
              have k144 := kq130.2 _ _ k103 (tg_ne tI13 tI22 (by decide))
              have k145 := kq130.2 _ _ k104 (tg_ne tI14 tI22 (by decide))
              have k146 := kq130.2 _ _ k105 (tg_ne tI15 tI22 (by decide))
              have k147 := kq130.2 _ _ k106 (tg_ne tI16 tI22 (by decide))
              have k148 := kq130.2 _ _ k107 (tg_ne tI17 tI22 (by decide))
              have k149 := kq130.2 _ _ k108 (tg_ne tI18 tI22 (by decide))
              have k150 := kq130.2 _ _ k109 (tg_ne tI19 tI22 (by decide))
              have k151 := kq130.2 _ _ k110 (tg_ne tI20 tI22 (by decide))
              have k152 := kq130.2 _ _ k111 (tg_ne tI21 tI22 (by decide))
              have k153 := kq130.2 _ _ k113 (tg_ne tI23 tI22 (tnA (show 22 < 30 by decide)))
              have k154 := kq130.2 _ _ k114 (tg_ne tI24 tI22 (tnA (show 22 < 32 by decide)))
              have k155 := kq130.2 _ _ k115 (tg_ne tI25 tI22 (tnA (show 22 < 30 by decide)))
              have k156 := kq130.2 _ _ k116 (tg_ne tI26 tI22 (tnA (show 22 < 32 by decide)))
              have k157 := kq130.2 _ _ k117 (tg_ne tz15 tI22 (tnA (show 22 < 3000 by decide)))
              have k158 := kq130.2 _ _ k88 (Ne.symm (wd_nL hq42 kI22))
              have fm159 : ∀ i9, i9 < 12 → tf i9 = some (tn i9) ∧ wd_at w127 (tn i9) (.inr (8, [.int (co i9), .int (ra i9), .int (se i9), .ref (ag i9)])) ∧ tg (tn i9) = 100 + i9 := fun i9 hi9 => ⟨(fm118 i9 hi9).1, kq130.2 _ _ (fm118 i9 hi9).2.1 (tg_ne (fm118 i9 hi9).2.2 tI22 (tnA (show 22 < 100 by decide))), (fm118 i9 hi9).2.2⟩
              have fm160 : ∀ k9, k9 < 13 → (aOK (cf k9) (nf k9) ∧ ru k9 ≤ 12) ∧ wd_at w127 (aa k9) (.inr (1, [.ref (ga0 k9), .ref (ga1 k9), .ref (ga2 k9), .ref (ga3 k9), .ref (ga4 k9), .int (nI (ru k9))])) ∧ tg (aa k9) = 200 + k9 ∧ wd_at w127 (ga0 k9) (.inl (cy 2, 12, .inl (df k9))) ∧ tg (ga0 k9) = 220 + k9 ∧ wd_at w127 (ga1 k9) (.inl (cy 2, 12, .inl (cf k9))) ∧ tg (ga1 k9) = 240 + k9 ∧ wd_at w127 (ga2 k9) (.inl (cy 2, 72, .inl (nf k9))) ∧ tg (ga2 k9) = 260 + k9 ∧ wd_at w127 (ga3 k9) (.inl (cy 1, 72, .inl (sf k9))) ∧ tg (ga3 k9) = 280 + k9 ∧ wd_at w127 (ga4 k9) (.inl (cy 2, 72, .inl (uf k9))) ∧ tg (ga4 k9) = 300 + k9 := fun k9 hi9 => ⟨(fm119 k9 hi9).1, kq130.2 _ _ (fm119 k9 hi9).2.1 (tg_ne (fm119 k9 hi9).2.2.1 tI22 (tnA (show 22 < 200 by decide))), (fm119 k9 hi9).2.2.1, kq130.2 _ _ (fm119 k9 hi9).2.2.2.1 (tg_ne (fm119 k9 hi9).2.2.2.2.1 tI22 (tnA (show 22 < 220 by decide))), (fm119 k9 hi9).2.2.2.2.1, kq130.2 _ _ (fm119 k9 hi9).2.2.2.2.2.1 (tg_ne (fm119 k9 hi9).2.2.2.2.2.2.1 tI22 (tnA (show 22 < 240 by decide))), (fm119 k9 hi9).2.2.2.2.2.2.1, kq130.2 _ _ (fm119 k9 hi9).2.2.2.2.2.2.2.1 (tg_ne (fm119 k9 hi9).2.2.2.2.2.2.2.2.1 tI22 (tnA (show 22 < 260 by decide))), (fm119 k9 hi9).2.2.2.2.2.2.2.2.1, kq130.2 _ _ (fm119 k9 hi9).2.2.2.2.2.2.2.2.2.1 (tg_ne (fm119 k9 hi9).2.2.2.2.2.2.2.2.2.2.1 tI22 (tnA (show 22 < 280 by decide))), (fm119 k9 hi9).2.2.2.2.2.2.2.2.2.2.1, kq130.2 _ _ (fm119 k9 hi9).2.2.2.2.2.2.2.2.2.2.2.1 (tg_ne (fm119 k9 hi9).2.2.2.2.2.2.2.2.2.2.2.2 tI22 (tnA (show 22 < 300 by decide))), (fm119 k9 hi9).2.2.2.2.2.2.2.2.2.2.2.2⟩
              have fm161 : ∀ k9, k9 < pc → pf k9 = some (pa k9) ∧ wd_at w127 (pa k9) (.inr (3, [.int (plv k9), .int (pwo k9), .int (phd k9), .int (pgd k9), .int (pdy k9), .int (pno k9), .int (ptp k9)])) ∧ tg (pa k9) = 3000 + k9 := fun k9 hi9 => ⟨(fm120 k9 hi9).1, kq130.2 _ _ (fm120 k9 hi9).2.1 (tg_ne (fm120 k9 hi9).2.2 tI22 (tnA (show 22 < 3000 by decide))), (fm120 k9 hi9).2.2⟩
              have fm162 : ∀ k9, k9 < ac → af k9 = some (ad k9) ∧ wd_at w127 (ad k9) (.inr (0, [.int (av0 k9), .int (av1 k9), .int (av2 k9), .int (av3 k9)])) ∧ tg (ad k9) = 4000 + k9 := fun k9 hi9 => ⟨(fm121 k9 hi9).1, kq130.2 _ _ (fm121 k9 hi9).2.1 (tg_ne (fm121 k9 hi9).2.2 tI22 (tnA (show 22 < 4000 by decide))), (fm121 k9 hi9).2.2⟩
              have fm163 : ∀ k9, k9 < sc → zf k9 = some (so k9) ∧ wd_at w127 (so k9) (.inr (6, [.int (sp0 k9), .int (sp1 k9), .ref (sr k9)])) ∧ tg (so k9) = 5000 + k9 ∧ wd_at w127 (sr k9) (.inl (cy 2, 12, .inl (sd k9))) ∧ tg (sr k9) = 6000 + k9 := fun k9 hi9 => ⟨(fm122 k9 hi9).1, kq130.2 _ _ (fm122 k9 hi9).2.1 (tg_ne (fm122 k9 hi9).2.2.1 tI22 (tnA (show 22 < 5000 by decide))), (fm122 k9 hi9).2.2.1, kq130.2 _ _ (fm122 k9 hi9).2.2.2.1 (tg_ne (fm122 k9 hi9).2.2.2.2 tI22 (tnA (show 22 < 6000 by decide))), (fm122 k9 hi9).2.2.2.2⟩
              have fm164 : ∀ k9, k9 < sh → (hf k9 = some (sw k9) ∧ hto k9 < 12) ∧ wd_at w127 (sw k9) (.inr (5, [.int (nI (hto k9)), .int (hpp k9), .int (hle k9), .int (ham k9), .int (hhh k9), .int (hdd k9), .int (hru k9), .int (hde k9), .int (hcp k9), .int (hld k9)])) ∧ tg (sw k9) = 7000 + k9 := fun k9 hi9 => ⟨(fm123 k9 hi9).1, kq130.2 _ _ (fm123 k9 hi9).2.1 (tg_ne (fm123 k9 hi9).2.2 tI22 (tnA (show 22 < 7000 by decide))), (fm123 k9 hi9).2.2⟩
              have kp165 := kp124.tr kq130 (fun b9 hm q9 => (fun q9 => q9 ▸ (tgS tI22 (by decide))) q9)
              refine W.eq (g2 := F0 m 100 ls []) rfl (W.widen (k := 1) (n := 10) (Nat.le_of_ble_eq_true rfl) (Nat.le_of_ble_eq_true rfl) ?_)
              refine lv_aload hx hb dX10_show_100 (lv_at hl 0 rfl) ?_
              refine lv_aload_n hx hb dX10_show_102 rfl (lv_at hl 3 rfl) ?_
              refine x_get (ref := "NoteHouse") F hP k131 rfl (fun _ h => List.mem_cons_of_mem _ (List.mem_append_left _ (List.mem_append_left _ (List.mem_append_left _ (List.mem_append_left _ (List.mem_append_left _ (List.mem_append_left _ (List.mem_append_left _ (List.mem_append_right _ (h)))))))))) 1 (Nat.le_of_ble_eq_true rfl) (List.mem_cons_of_mem _ (List.mem_append_left _ (List.mem_append_left _ (List.mem_append_left _ (List.mem_append_left _ (List.mem_append_left _ (List.mem_append_left _ (List.mem_append_left _ (List.mem_append_left _ (List.mem_append_left _ (List.mem_of_getElem? (i := 6) rfl))))))))))) rfl rfl dX10_show_103 ?_
              refine lv_iload_n hx hb dX10_show_106 rfl (lv_at hl 4 rfl) ?_
              refine x_aald F hP k137 rfl (vp_in_nI (n := t) (N := 12) (by omega) (by decide)) dX10_show_107 ?_
              have pr166 := (fm159 t (by omega)).1
              have k167 := (fm159 t (by omega)).2.1
              have tz168 := (fm159 t (by omega)).2.2
              rw [nI_clamp (n := t) (by omega), pr166]
              refine W.eq (g2 := F0 m _ ls [.ref (tn t), .ref q39]) rfl ?_
              refine x_get (ref := "NoteHouse$Town") F hP k167 rfl (fun _ h => List.mem_cons_of_mem _ (List.mem_append_left _ (List.mem_append_left _ (List.mem_append_left _ (List.mem_append_left _ (List.mem_append_right _ (h))))))) 3 (Nat.le_of_ble_eq_true rfl) (List.mem_cons_of_mem _ (List.mem_append_left _ (List.mem_append_left _ (List.mem_append_left _ (List.mem_append_left _ (List.mem_append_left _ (List.mem_append_left _ (List.mem_append_left _ (List.mem_append_left _ (List.mem_append_left _ (List.mem_of_getElem? (i := 7) rfl))))))))))) rfl rfl dX10_show_108 ?_
              obtain ⟨s9, hs9, es9⟩ := hag t (by omega)
              rw [es9]
              refine W.eq (g2 := F0 m _ ls [.ref (aa s9), .ref q39]) rfl ?_
              have pr169 := (fm160 s9 (by omega)).1
              have pr169a := pr169.1
              have pr169b := pr169.2
              have k170 := (fm160 s9 (by omega)).2.1
              have tz171 := (fm160 s9 (by omega)).2.2.1
              have k172 := (fm160 s9 (by omega)).2.2.2.1
              have tz173 := (fm160 s9 (by omega)).2.2.2.2.1
              have k174 := (fm160 s9 (by omega)).2.2.2.2.2.1
              have tz175 := (fm160 s9 (by omega)).2.2.2.2.2.2.1
              have k176 := (fm160 s9 (by omega)).2.2.2.2.2.2.2.1
              have tz177 := (fm160 s9 (by omega)).2.2.2.2.2.2.2.2.1
              have k178 := (fm160 s9 (by omega)).2.2.2.2.2.2.2.2.2.1
              have tz179 := (fm160 s9 (by omega)).2.2.2.2.2.2.2.2.2.2.1
              have k180 := (fm160 s9 (by omega)).2.2.2.2.2.2.2.2.2.2.2.1
              have tz181 := (fm160 s9 (by omega)).2.2.2.2.2.2.2.2.2.2.2.2
              refine lv_aload_n hx hb dX10_show_111 rfl (lv_at hl 3 rfl) ?_
              refine x_get (ref := "NoteHouse") F hP k131 rfl (fun _ h => List.mem_cons_of_mem _ (List.mem_append_left _ (List.mem_append_left _ (List.mem_append_left _ (List.mem_append_left _ (List.mem_append_left _ (List.mem_append_left _ (List.mem_append_left _ (List.mem_append_right _ (h)))))))))) 8 (Nat.le_of_ble_eq_true rfl) (List.mem_cons_of_mem _ (List.mem_append_left _ (List.mem_append_left _ (List.mem_append_left _ (List.mem_append_left _ (List.mem_append_left _ (List.mem_append_left _ (List.mem_append_left _ (List.mem_append_left _ (List.mem_append_left _ (List.mem_of_getElem? (i := 8) rfl))))))))))) rfl rfl dX10_show_112 ?_
              refine x_callV (n := 1) (As := [.ref a8]) (rest := [.ref q39]) F hP hD hS (g_firstRuleFor l D cy sk sv w127 (aa s9) (ga0 s9) (ga1 s9) (ga2 s9) (ga3 s9) (ga4 s9) a8 (ru s9) (cf s9) (nf s9) (sf s9) (uf s9) ffx128 k170 k174 k176 k178 k180 k129 (by assumption) (by omega)) gX10_show_X1_firstRuleFor rfl rfl (by decide +kernel) ⟨(Nat.le_of_ble_eq_true rfl), (Nat.le_of_ble_eq_true rfl)⟩ rfl hl.1 (Nat.le_of_ble_eq_true rfl) k170 rfl dX10_show_115 rfl ⟨(Nat.le_of_ble_eq_true rfl), (Nat.le_of_ble_eq_true rfl)⟩ (fun v183 w184 hp182 H locs hP hD hS => ?_)
              obtain ⟨rx185, rfl, hz186, rfl⟩ := hp182
              refine W.eq (g2 := F0 m 118 ls [.int rx185, .ref q39]) rfl (W.widen (k := 1) (n := 10) (Nat.le_of_ble_eq_true rfl) (Nat.le_of_ble_eq_true rfl) ?_)
              refine y_put (ref := "NoteHouse$Shown") F hP hD hS k158 rfl (fun _ h => List.mem_cons_of_mem _ (List.mem_append_left _ (List.mem_append_left _ (List.mem_append_left _ (List.mem_append_left _ (List.mem_append_left _ (List.mem_append_right _ (h)))))))) tyX5_ok nmX5 6 (Nat.le_of_ble_eq_true rfl) (List.mem_cons_of_mem _ (List.mem_append_left _ (List.mem_append_left _ (List.mem_append_left _ (List.mem_append_left _ (List.mem_append_left _ (List.mem_append_left _ (List.mem_append_left _ (List.mem_append_left _ (List.mem_append_left _ (List.mem_of_getElem? (i := 9) rfl))))))))))) rfl rfl rfl rfl (Nat.le_of_ble_eq_true rfl) dX10_show_118 (fun w187 ew188 H locs hP hD hS => ?_)
              have k189 := wd_at.pt ew188 k131 (wd_nL hq42 kI0)
              have k190 := wd_at.pt ew188 k132 (wd_nL hq42 kI1)
              have k191 := wd_at.pt ew188 k133 (wd_nL hq42 kI2)
              have k192 := wd_at.pt ew188 k134 (wd_nL hq42 kI3)
              have k193 := wd_at.pt ew188 k135 (wd_nL hq42 kI4)
              have k194 := wd_at.pt ew188 k136 (wd_nL hq42 kI5)
              have k195 := wd_at.pt ew188 k137 (wd_nL hq42 kI6)
              have k196 := wd_at.pt ew188 k138 (wd_nL hq42 kI7)
              have k197 := wd_at.pt ew188 k139 (wd_nL hq42 kI8)
              have k198 := wd_at.pt ew188 k140 (wd_nL hq42 kI9)
              have k199 := wd_at.pt ew188 k141 (wd_nL hq42 kI10)
              have k200 := wd_at.pt ew188 k142 (wd_nL hq42 kI11)
              have k201 := wd_at.pt ew188 k143 (wd_nL hq42 kI12)
              have k202 := wd_at.pt ew188 k144 (wd_nL hq42 kI13)
              have k203 := wd_at.pt ew188 k145 (wd_nL hq42 kI14)
              have k204 := wd_at.pt ew188 k146 (wd_nL hq42 kI15)
              have k205 := wd_at.pt ew188 k147 (wd_nL hq42 kI16)
              have k206 := wd_at.pt ew188 k148 (wd_nL hq42 kI17)
              have k207 := wd_at.pt ew188 k149 (wd_nL hq42 kI18)
              have k208 := wd_at.pt ew188 k150 (wd_nL hq42 kI19)
              have k209 := wd_at.pt ew188 k151 (wd_nL hq42 kI20)
              have k210 := wd_at.pt ew188 k152 (wd_nL hq42 kI21)
              have k211 := wd_at.pt ew188 k129 (wd_nL hq42 kI22)
              have k212 := wd_at.pt ew188 k153 (wd_nL hq42 kI23)
              have k213 := wd_at.pt ew188 k154 (wd_nL hq42 kI24)
              have k214 := wd_at.pt ew188 k155 (wd_nL hq42 kI25)
              have k215 := wd_at.pt ew188 k156 (wd_nL hq42 kI26)
              have k216 := wd_at.pt ew188 k157 (wd_nL hq42 k14)
              have k217 : wd_at w187 q39 (.inr (5, [.int (nI t), .int x2, .int x3, .int x4, .int x5, .int td, .int rx185, .int 1, .int 0, .int (-1)])) := wd_at.ps ew188 k158
              have k218 := wd_at.pt ew188 k167 (wd_nk k167 k158 rfl)
              have k219 := wd_at.pt ew188 k170 (wd_nk k170 k158 rfl)
              have k220 := wd_at.pt ew188 k172 (wd_nk k172 k158 rfl)
              have k221 := wd_at.pt ew188 k174 (wd_nk k174 k158 rfl)
              have k222 := wd_at.pt ew188 k176 (wd_nk k176 k158 rfl)
              have k223 := wd_at.pt ew188 k178 (wd_nk k178 k158 rfl)
              have k224 := wd_at.pt ew188 k180 (wd_nk k180 k158 rfl)
              have fm225 : ∀ i9, i9 < 12 → tf i9 = some (tn i9) ∧ wd_at w187 (tn i9) (.inr (8, [.int (co i9), .int (ra i9), .int (se i9), .ref (ag i9)])) ∧ tg (tn i9) = 100 + i9 := fun i9 hi9 => ⟨(fm159 i9 hi9).1, wd_at.pt ew188 (fm159 i9 hi9).2.1 (fn73 i9 hi9), (fm159 i9 hi9).2.2⟩
              have fm226 : ∀ k9, k9 < 13 → (aOK (cf k9) (nf k9) ∧ ru k9 ≤ 12) ∧ wd_at w187 (aa k9) (.inr (1, [.ref (ga0 k9), .ref (ga1 k9), .ref (ga2 k9), .ref (ga3 k9), .ref (ga4 k9), .int (nI (ru k9))])) ∧ tg (aa k9) = 200 + k9 ∧ wd_at w187 (ga0 k9) (.inl (cy 2, 12, .inl (df k9))) ∧ tg (ga0 k9) = 220 + k9 ∧ wd_at w187 (ga1 k9) (.inl (cy 2, 12, .inl (cf k9))) ∧ tg (ga1 k9) = 240 + k9 ∧ wd_at w187 (ga2 k9) (.inl (cy 2, 72, .inl (nf k9))) ∧ tg (ga2 k9) = 260 + k9 ∧ wd_at w187 (ga3 k9) (.inl (cy 1, 72, .inl (sf k9))) ∧ tg (ga3 k9) = 280 + k9 ∧ wd_at w187 (ga4 k9) (.inl (cy 2, 72, .inl (uf k9))) ∧ tg (ga4 k9) = 300 + k9 := fun k9 hi9 => ⟨(fm160 k9 hi9).1, wd_at.pt ew188 (fm160 k9 hi9).2.1 ((fn75 k9 hi9).1), (fm160 k9 hi9).2.2.1, wd_at.pt ew188 (fm160 k9 hi9).2.2.2.1 ((fn75 k9 hi9).2.1), (fm160 k9 hi9).2.2.2.2.1, wd_at.pt ew188 (fm160 k9 hi9).2.2.2.2.2.1 ((fn75 k9 hi9).2.2.1), (fm160 k9 hi9).2.2.2.2.2.2.1, wd_at.pt ew188 (fm160 k9 hi9).2.2.2.2.2.2.2.1 ((fn75 k9 hi9).2.2.2.1), (fm160 k9 hi9).2.2.2.2.2.2.2.2.1, wd_at.pt ew188 (fm160 k9 hi9).2.2.2.2.2.2.2.2.2.1 ((fn75 k9 hi9).2.2.2.2.1), (fm160 k9 hi9).2.2.2.2.2.2.2.2.2.2.1, wd_at.pt ew188 (fm160 k9 hi9).2.2.2.2.2.2.2.2.2.2.2.1 ((fn75 k9 hi9).2.2.2.2.2), (fm160 k9 hi9).2.2.2.2.2.2.2.2.2.2.2.2⟩
              have fm227 : ∀ k9, k9 < pc → pf k9 = some (pa k9) ∧ wd_at w187 (pa k9) (.inr (3, [.int (plv k9), .int (pwo k9), .int (phd k9), .int (pgd k9), .int (pdy k9), .int (pno k9), .int (ptp k9)])) ∧ tg (pa k9) = 3000 + k9 := fun k9 hi9 => ⟨(fm161 k9 hi9).1, wd_at.pt ew188 (fm161 k9 hi9).2.1 (fn77 k9 hi9), (fm161 k9 hi9).2.2⟩
              have fm228 : ∀ k9, k9 < ac → af k9 = some (ad k9) ∧ wd_at w187 (ad k9) (.inr (0, [.int (av0 k9), .int (av1 k9), .int (av2 k9), .int (av3 k9)])) ∧ tg (ad k9) = 4000 + k9 := fun k9 hi9 => ⟨(fm162 k9 hi9).1, wd_at.pt ew188 (fm162 k9 hi9).2.1 (fn79 k9 hi9), (fm162 k9 hi9).2.2⟩
              have fm229 : ∀ k9, k9 < sc → zf k9 = some (so k9) ∧ wd_at w187 (so k9) (.inr (6, [.int (sp0 k9), .int (sp1 k9), .ref (sr k9)])) ∧ tg (so k9) = 5000 + k9 ∧ wd_at w187 (sr k9) (.inl (cy 2, 12, .inl (sd k9))) ∧ tg (sr k9) = 6000 + k9 := fun k9 hi9 => ⟨(fm163 k9 hi9).1, wd_at.pt ew188 (fm163 k9 hi9).2.1 ((fn81 k9 hi9).1), (fm163 k9 hi9).2.2.1, wd_at.pt ew188 (fm163 k9 hi9).2.2.2.1 ((fn81 k9 hi9).2), (fm163 k9 hi9).2.2.2.2⟩
              have fm230 : ∀ k9, k9 < sh → (hf k9 = some (sw k9) ∧ hto k9 < 12) ∧ wd_at w187 (sw k9) (.inr (5, [.int (nI (hto k9)), .int (hpp k9), .int (hle k9), .int (ham k9), .int (hhh k9), .int (hdd k9), .int (hru k9), .int (hde k9), .int (hcp k9), .int (hld k9)])) ∧ tg (sw k9) = 7000 + k9 := fun k9 hi9 => ⟨(fm164 k9 hi9).1, wd_at.pt ew188 (fm164 k9 hi9).2.1 (fn83 k9 hi9), (fm164 k9 hi9).2.2⟩
              have kp231 := kp165.putN ew188 (kp0.out hq42)
              refine lv_aload hx hb dX10_show_121 (lv_at hl 0 rfl) ?_
              refine lv_aload_n hx hb dX10_show_123 rfl (lv_at hl 3 rfl) ?_
              refine x_get (ref := "NoteHouse") F hP k189 rfl (fun _ h => List.mem_cons_of_mem _ (List.mem_append_left _ (List.mem_append_left _ (List.mem_append_left _ (List.mem_append_left _ (List.mem_append_left _ (List.mem_append_left _ (List.mem_append_left _ (List.mem_append_right _ (h)))))))))) 1 (Nat.le_of_ble_eq_true rfl) (List.mem_cons_of_mem _ (List.mem_append_left _ (List.mem_append_left _ (List.mem_append_left _ (List.mem_append_left _ (List.mem_append_left _ (List.mem_append_left _ (List.mem_append_left _ (List.mem_append_left _ (List.mem_append_left _ (List.mem_of_getElem? (i := 6) rfl))))))))))) rfl rfl dX10_show_124 ?_
              refine lv_iload_n hx hb dX10_show_127 rfl (lv_at hl 4 rfl) ?_
              refine x_aald F hP k195 rfl (vp_in_nI (n := t) (N := 12) (by omega) (by decide)) dX10_show_128 ?_
              rw [nI_clamp (n := t) (by omega), pr166]
              refine W.eq (g2 := F0 m _ ls [.ref (tn t), .ref q39]) rfl ?_
              refine x_get (ref := "NoteHouse$Town") F hP k218 rfl (fun _ h => List.mem_cons_of_mem _ (List.mem_append_left _ (List.mem_append_left _ (List.mem_append_left _ (List.mem_append_left _ (List.mem_append_right _ (h))))))) 3 (Nat.le_of_ble_eq_true rfl) (List.mem_cons_of_mem _ (List.mem_append_left _ (List.mem_append_left _ (List.mem_append_left _ (List.mem_append_left _ (List.mem_append_left _ (List.mem_append_left _ (List.mem_append_left _ (List.mem_append_left _ (List.mem_append_left _ (List.mem_of_getElem? (i := 7) rfl))))))))))) rfl rfl dX10_show_129 ?_
              rw [es9]
              refine W.eq (g2 := F0 m _ ls [.ref (aa s9), .ref q39]) rfl ?_
              refine lv_aload hx hb dX10_show_132 (lv_at hl 0 rfl) ?_
              refine x_get (ref := "NoteHouse$Shown") F hP k217 rfl (fun _ h => List.mem_cons_of_mem _ (List.mem_append_left _ (List.mem_append_left _ (List.mem_append_left _ (List.mem_append_left _ (List.mem_append_left _ (List.mem_append_right _ (h)))))))) 6 (Nat.le_of_ble_eq_true rfl) (List.mem_cons_of_mem _ (List.mem_append_left _ (List.mem_append_left _ (List.mem_append_left _ (List.mem_append_left _ (List.mem_append_left _ (List.mem_append_left _ (List.mem_append_left _ (List.mem_append_left _ (List.mem_append_left _ (List.mem_of_getElem? (i := 9) rfl))))))))))) rfl rfl dX10_show_134 ?_
              refine x_callV (n := 1) (As := [.int rx185]) (rest := [.ref q39]) F hP hD hS (g_deedOf l D cy sk sv w187 (aa s9) (ga0 s9) (ga1 s9) (ga2 s9) (ga3 s9) (ga4 s9) (ru s9) (df s9) rx185 k219 k220 (by omega)) gX10_show_X1_deedOf rfl rfl (by decide +kernel) ⟨(Nat.le_of_ble_eq_true rfl), (Nat.le_of_ble_eq_true rfl)⟩ rfl hl.1 (Nat.le_of_ble_eq_true rfl) k219 rfl dX10_show_137 rfl ⟨(Nat.le_of_ble_eq_true rfl), (Nat.le_of_ble_eq_true rfl)⟩ (fun v233 w234 hp232 H locs hP hD hS => ?_)
              obtain ⟨rx235, rfl, rfl⟩ := hp232
              refine W.eq (g2 := F0 m 140 ls [.int rx235, .ref q39]) rfl (W.widen (k := 1) (n := 10) (Nat.le_of_ble_eq_true rfl) (Nat.le_of_ble_eq_true rfl) ?_)
              refine y_put (ref := "NoteHouse$Shown") F hP hD hS k217 rfl (fun _ h => List.mem_cons_of_mem _ (List.mem_append_left _ (List.mem_append_left _ (List.mem_append_left _ (List.mem_append_left _ (List.mem_append_left _ (List.mem_append_right _ (h)))))))) tyX5_ok nmX5 7 (Nat.le_of_ble_eq_true rfl) (List.mem_cons_of_mem _ (List.mem_append_left _ (List.mem_append_left _ (List.mem_append_left _ (List.mem_append_left _ (List.mem_append_left _ (List.mem_append_left _ (List.mem_append_left _ (List.mem_append_left _ (List.mem_append_left _ (List.mem_of_getElem? (i := 10) rfl))))))))))) rfl rfl rfl rfl (Nat.le_of_ble_eq_true rfl) dX10_show_140 (fun w236 ew237 H locs hP hD hS => ?_)
              have k238 := wd_at.pt ew237 k189 (wd_nL hq42 kI0)
              have k239 := wd_at.pt ew237 k190 (wd_nL hq42 kI1)
              have k240 := wd_at.pt ew237 k191 (wd_nL hq42 kI2)
              have k241 := wd_at.pt ew237 k192 (wd_nL hq42 kI3)
              have k242 := wd_at.pt ew237 k193 (wd_nL hq42 kI4)
              have k243 := wd_at.pt ew237 k194 (wd_nL hq42 kI5)
              have k244 := wd_at.pt ew237 k195 (wd_nL hq42 kI6)
              have k245 := wd_at.pt ew237 k196 (wd_nL hq42 kI7)
              have k246 := wd_at.pt ew237 k197 (wd_nL hq42 kI8)
              have k247 := wd_at.pt ew237 k198 (wd_nL hq42 kI9)
              have k248 := wd_at.pt ew237 k199 (wd_nL hq42 kI10)
              have k249 := wd_at.pt ew237 k200 (wd_nL hq42 kI11)
              have k250 := wd_at.pt ew237 k201 (wd_nL hq42 kI12)
              have k251 := wd_at.pt ew237 k202 (wd_nL hq42 kI13)
              have k252 := wd_at.pt ew237 k203 (wd_nL hq42 kI14)
              have k253 := wd_at.pt ew237 k204 (wd_nL hq42 kI15)
              have k254 := wd_at.pt ew237 k205 (wd_nL hq42 kI16)
              have k255 := wd_at.pt ew237 k206 (wd_nL hq42 kI17)
              have k256 := wd_at.pt ew237 k207 (wd_nL hq42 kI18)
              have k257 := wd_at.pt ew237 k208 (wd_nL hq42 kI19)
              have k258 := wd_at.pt ew237 k209 (wd_nL hq42 kI20)
              have k259 := wd_at.pt ew237 k210 (wd_nL hq42 kI21)
              have k260 := wd_at.pt ew237 k211 (wd_nL hq42 kI22)
              have k261 := wd_at.pt ew237 k212 (wd_nL hq42 kI23)
              have k262 := wd_at.pt ew237 k213 (wd_nL hq42 kI24)
              have k263 := wd_at.pt ew237 k214 (wd_nL hq42 kI25)
              have k264 := wd_at.pt ew237 k215 (wd_nL hq42 kI26)
              have k265 := wd_at.pt ew237 k216 (wd_nL hq42 k14)
              have k266 : wd_at w236 q39 (.inr (5, [.int (nI t), .int x2, .int x3, .int x4, .int x5, .int td, .int rx185, .int rx235, .int 0, .int (-1)])) := wd_at.ps ew237 k217
              have k267 := wd_at.pt ew237 k218 (wd_nk k218 k217 rfl)
              have k268 := wd_at.pt ew237 k219 (wd_nk k219 k217 rfl)
              have k269 := wd_at.pt ew237 k220 (wd_nk k220 k217 rfl)
              have k270 := wd_at.pt ew237 k221 (wd_nk k221 k217 rfl)
              have k271 := wd_at.pt ew237 k222 (wd_nk k222 k217 rfl)
              have k272 := wd_at.pt ew237 k223 (wd_nk k223 k217 rfl)
              have k273 := wd_at.pt ew237 k224 (wd_nk k224 k217 rfl)
              have fm274 : ∀ i9, i9 < 12 → tf i9 = some (tn i9) ∧ wd_at w236 (tn i9) (.inr (8, [.int (co i9), .int (ra i9), .int (se i9), .ref (ag i9)])) ∧ tg (tn i9) = 100 + i9 := fun i9 hi9 => ⟨(fm225 i9 hi9).1, wd_at.pt ew237 (fm225 i9 hi9).2.1 (fn73 i9 hi9), (fm225 i9 hi9).2.2⟩
              have fm275 : ∀ k9, k9 < 13 → (aOK (cf k9) (nf k9) ∧ ru k9 ≤ 12) ∧ wd_at w236 (aa k9) (.inr (1, [.ref (ga0 k9), .ref (ga1 k9), .ref (ga2 k9), .ref (ga3 k9), .ref (ga4 k9), .int (nI (ru k9))])) ∧ tg (aa k9) = 200 + k9 ∧ wd_at w236 (ga0 k9) (.inl (cy 2, 12, .inl (df k9))) ∧ tg (ga0 k9) = 220 + k9 ∧ wd_at w236 (ga1 k9) (.inl (cy 2, 12, .inl (cf k9))) ∧ tg (ga1 k9) = 240 + k9 ∧ wd_at w236 (ga2 k9) (.inl (cy 2, 72, .inl (nf k9))) ∧ tg (ga2 k9) = 260 + k9 ∧ wd_at w236 (ga3 k9) (.inl (cy 1, 72, .inl (sf k9))) ∧ tg (ga3 k9) = 280 + k9 ∧ wd_at w236 (ga4 k9) (.inl (cy 2, 72, .inl (uf k9))) ∧ tg (ga4 k9) = 300 + k9 := fun k9 hi9 => ⟨(fm226 k9 hi9).1, wd_at.pt ew237 (fm226 k9 hi9).2.1 ((fn75 k9 hi9).1), (fm226 k9 hi9).2.2.1, wd_at.pt ew237 (fm226 k9 hi9).2.2.2.1 ((fn75 k9 hi9).2.1), (fm226 k9 hi9).2.2.2.2.1, wd_at.pt ew237 (fm226 k9 hi9).2.2.2.2.2.1 ((fn75 k9 hi9).2.2.1), (fm226 k9 hi9).2.2.2.2.2.2.1, wd_at.pt ew237 (fm226 k9 hi9).2.2.2.2.2.2.2.1 ((fn75 k9 hi9).2.2.2.1), (fm226 k9 hi9).2.2.2.2.2.2.2.2.1, wd_at.pt ew237 (fm226 k9 hi9).2.2.2.2.2.2.2.2.2.1 ((fn75 k9 hi9).2.2.2.2.1), (fm226 k9 hi9).2.2.2.2.2.2.2.2.2.2.1, wd_at.pt ew237 (fm226 k9 hi9).2.2.2.2.2.2.2.2.2.2.2.1 ((fn75 k9 hi9).2.2.2.2.2), (fm226 k9 hi9).2.2.2.2.2.2.2.2.2.2.2.2⟩
              have fm276 : ∀ k9, k9 < pc → pf k9 = some (pa k9) ∧ wd_at w236 (pa k9) (.inr (3, [.int (plv k9), .int (pwo k9), .int (phd k9), .int (pgd k9), .int (pdy k9), .int (pno k9), .int (ptp k9)])) ∧ tg (pa k9) = 3000 + k9 := fun k9 hi9 => ⟨(fm227 k9 hi9).1, wd_at.pt ew237 (fm227 k9 hi9).2.1 (fn77 k9 hi9), (fm227 k9 hi9).2.2⟩
              have fm277 : ∀ k9, k9 < ac → af k9 = some (ad k9) ∧ wd_at w236 (ad k9) (.inr (0, [.int (av0 k9), .int (av1 k9), .int (av2 k9), .int (av3 k9)])) ∧ tg (ad k9) = 4000 + k9 := fun k9 hi9 => ⟨(fm228 k9 hi9).1, wd_at.pt ew237 (fm228 k9 hi9).2.1 (fn79 k9 hi9), (fm228 k9 hi9).2.2⟩
              have fm278 : ∀ k9, k9 < sc → zf k9 = some (so k9) ∧ wd_at w236 (so k9) (.inr (6, [.int (sp0 k9), .int (sp1 k9), .ref (sr k9)])) ∧ tg (so k9) = 5000 + k9 ∧ wd_at w236 (sr k9) (.inl (cy 2, 12, .inl (sd k9))) ∧ tg (sr k9) = 6000 + k9 := fun k9 hi9 => ⟨(fm229 k9 hi9).1, wd_at.pt ew237 (fm229 k9 hi9).2.1 ((fn81 k9 hi9).1), (fm229 k9 hi9).2.2.1, wd_at.pt ew237 (fm229 k9 hi9).2.2.2.1 ((fn81 k9 hi9).2), (fm229 k9 hi9).2.2.2.2⟩
              have fm279 : ∀ k9, k9 < sh → (hf k9 = some (sw k9) ∧ hto k9 < 12) ∧ wd_at w236 (sw k9) (.inr (5, [.int (nI (hto k9)), .int (hpp k9), .int (hle k9), .int (ham k9), .int (hhh k9), .int (hdd k9), .int (hru k9), .int (hde k9), .int (hcp k9), .int (hld k9)])) ∧ tg (sw k9) = 7000 + k9 := fun k9 hi9 => ⟨(fm230 k9 hi9).1, wd_at.pt ew237 (fm230 k9 hi9).2.1 (fn83 k9 hi9), (fm230 k9 hi9).2.2⟩
              have kp280 := kp231.putN ew237 (kp0.out hq42)
              refine lv_aload hx hb dX10_show_143 (lv_at hl 0 rfl) ?_
              refine x_get (ref := "NoteHouse$Shown") F hP k266 rfl (fun _ h => List.mem_cons_of_mem _ (List.mem_append_left _ (List.mem_append_left _ (List.mem_append_left _ (List.mem_append_left _ (List.mem_append_left _ (List.mem_append_right _ (h)))))))) 7 (Nat.le_of_ble_eq_true rfl) (List.mem_cons_of_mem _ (List.mem_append_left _ (List.mem_append_left _ (List.mem_append_left _ (List.mem_append_left _ (List.mem_append_left _ (List.mem_append_left _ (List.mem_append_left _ (List.mem_append_left _ (List.mem_append_left _ (List.mem_of_getElem? (i := 10) rfl))))))))))) rfl rfl dX10_show_145 ?_
              refine lv_if_ne (tgt := 161) hx hb dX10_show_148 (by decide) (fun c_281 => ?_) (fun c_281 => ?_)
              · refine lv_aload_n hx hb dX10_show_161 rfl (lv_at hl 3 rfl) ?_
                refine x_get (ref := "NoteHouse") F hP k238 rfl (fun _ h => List.mem_cons_of_mem _ (List.mem_append_left _ (List.mem_append_left _ (List.mem_append_left _ (List.mem_append_left _ (List.mem_append_left _ (List.mem_append_left _ (List.mem_append_left _ (List.mem_append_right _ (h)))))))))) 5 (Nat.le_of_ble_eq_true rfl) (List.mem_cons_of_mem _ (List.mem_append_left _ (List.mem_append_left _ (List.mem_append_left _ (List.mem_append_left _ (List.mem_append_left _ (List.mem_append_left _ (List.mem_append_left _ (List.mem_append_left _ (List.mem_append_left _ (List.mem_of_getElem? (i := 11) rfl))))))))))) rfl rfl dX10_show_162 ?_
                refine lv_aload_n hx hb dX10_show_165 rfl (lv_at hl 3 rfl) ?_
                refine x_get (ref := "NoteHouse") F hP k238 rfl (fun _ h => List.mem_cons_of_mem _ (List.mem_append_left _ (List.mem_append_left _ (List.mem_append_left _ (List.mem_append_left _ (List.mem_append_left _ (List.mem_append_left _ (List.mem_append_left _ (List.mem_append_right _ (h)))))))))) 16 (Nat.le_of_ble_eq_true rfl) (List.mem_cons_of_mem _ (List.mem_append_left _ (List.mem_append_left _ (List.mem_append_left _ (List.mem_append_left _ (List.mem_append_left _ (List.mem_append_left _ (List.mem_append_left _ (List.mem_append_left _ (List.mem_append_left _ (List.mem_of_getElem? (i := 0) rfl))))))))))) rfl rfl dX10_show_166 ?_
                refine lv_aload hx hb dX10_show_169 (lv_at hl 0 rfl) ?_
                refine y_aast F hP hD hS k248 rfl k266 rfl (vp_in_nI (n := sh) (N := 200) (by omega) (by decide)) dX10_show_171 (fun w282 ew283 H locs hP hD hS => ?_)
                have k284 := wd_at.pt ew283 k238 (tg_ne tI0 tI10 (by decide))
                have k285 := wd_at.pt ew283 k239 (tg_ne tI1 tI10 (by decide))
                have k286 := wd_at.pt ew283 k240 (tg_ne tI2 tI10 (by decide))
                have k287 := wd_at.pt ew283 k241 (tg_ne tI3 tI10 (by decide))
                have k288 := wd_at.pt ew283 k242 (tg_ne tI4 tI10 (by decide))
                have k289 := wd_at.pt ew283 k243 (tg_ne tI5 tI10 (by decide))
                have k290 := wd_at.pt ew283 k244 (tg_ne tI6 tI10 (by decide))
                have k291 := wd_at.pt ew283 k245 (tg_ne tI7 tI10 (by decide))
                have k292 := wd_at.pt ew283 k246 (tg_ne tI8 tI10 (by decide))
                have k293 := wd_at.pt ew283 k247 (tg_ne tI9 tI10 (by decide))
                have k294 : wd_at w282 a5 (.inl (cy 7, 200, .inr (.inr (.inr (.inr (va_up hf (nI sh).toNatClampNeg (some q39))))))) := wd_at.ps ew283 k248
                have k295 := wd_at.pt ew283 k249 (tg_ne tI11 tI10 (by decide))
                have k296 := wd_at.pt ew283 k250 (tg_ne tI12 tI10 (by decide))
                have k297 := wd_at.pt ew283 k251 (tg_ne tI13 tI10 (by decide))
                have k298 := wd_at.pt ew283 k252 (tg_ne tI14 tI10 (by decide))
                have k299 := wd_at.pt ew283 k253 (tg_ne tI15 tI10 (by decide))
                have k300 := wd_at.pt ew283 k254 (tg_ne tI16 tI10 (by decide))
                have k301 := wd_at.pt ew283 k255 (tg_ne tI17 tI10 (by decide))
                have k302 := wd_at.pt ew283 k256 (tg_ne tI18 tI10 (by decide))
                have k303 := wd_at.pt ew283 k257 (tg_ne tI19 tI10 (by decide))
                have k304 := wd_at.pt ew283 k258 (tg_ne tI20 tI10 (by decide))
                have k305 := wd_at.pt ew283 k259 (tg_ne tI21 tI10 (by decide))
                have k306 := wd_at.pt ew283 k260 (tg_ne tI22 tI10 (by decide))
                have k307 := wd_at.pt ew283 k261 (tg_ne tI23 tI10 (tnA (show 10 < 30 by decide)))
                have k308 := wd_at.pt ew283 k262 (tg_ne tI24 tI10 (tnA (show 10 < 32 by decide)))
                have k309 := wd_at.pt ew283 k263 (tg_ne tI25 tI10 (tnA (show 10 < 30 by decide)))
                have k310 := wd_at.pt ew283 k264 (tg_ne tI26 tI10 (tnA (show 10 < 32 by decide)))
                have k311 := wd_at.pt ew283 k265 (tg_ne tz15 tI10 (tnA (show 10 < 3000 by decide)))
                have k312 := wd_at.pt ew283 k266 (Ne.symm (wd_nL hq42 kI10))
                have k313 := wd_at.pt ew283 k267 (tg_ne tz168 tI10 (tnA (show 10 < 100 by decide)))
                have k314 := wd_at.pt ew283 k268 (tg_ne tz171 tI10 (tnA (show 10 < 200 by decide)))
                have k315 := wd_at.pt ew283 k269 (tg_ne tz173 tI10 (tnA (show 10 < 220 by decide)))
                have k316 := wd_at.pt ew283 k270 (tg_ne tz175 tI10 (tnA (show 10 < 240 by decide)))
                have k317 := wd_at.pt ew283 k271 (tg_ne tz177 tI10 (tnA (show 10 < 260 by decide)))
                have k318 := wd_at.pt ew283 k272 (tg_ne tz179 tI10 (tnA (show 10 < 280 by decide)))
                have k319 := wd_at.pt ew283 k273 (tg_ne tz181 tI10 (tnA (show 10 < 300 by decide)))
                have fm320 : ∀ i9, i9 < 12 → tf i9 = some (tn i9) ∧ wd_at w282 (tn i9) (.inr (8, [.int (co i9), .int (ra i9), .int (se i9), .ref (ag i9)])) ∧ tg (tn i9) = 100 + i9 := fun i9 hi9 => ⟨(fm274 i9 hi9).1, wd_at.pt ew283 (fm274 i9 hi9).2.1 (tg_ne (fm274 i9 hi9).2.2 tI10 (tnA (show 10 < 100 by decide))), (fm274 i9 hi9).2.2⟩
                have fm321 : ∀ k9, k9 < 13 → (aOK (cf k9) (nf k9) ∧ ru k9 ≤ 12) ∧ wd_at w282 (aa k9) (.inr (1, [.ref (ga0 k9), .ref (ga1 k9), .ref (ga2 k9), .ref (ga3 k9), .ref (ga4 k9), .int (nI (ru k9))])) ∧ tg (aa k9) = 200 + k9 ∧ wd_at w282 (ga0 k9) (.inl (cy 2, 12, .inl (df k9))) ∧ tg (ga0 k9) = 220 + k9 ∧ wd_at w282 (ga1 k9) (.inl (cy 2, 12, .inl (cf k9))) ∧ tg (ga1 k9) = 240 + k9 ∧ wd_at w282 (ga2 k9) (.inl (cy 2, 72, .inl (nf k9))) ∧ tg (ga2 k9) = 260 + k9 ∧ wd_at w282 (ga3 k9) (.inl (cy 1, 72, .inl (sf k9))) ∧ tg (ga3 k9) = 280 + k9 ∧ wd_at w282 (ga4 k9) (.inl (cy 2, 72, .inl (uf k9))) ∧ tg (ga4 k9) = 300 + k9 := fun k9 hi9 => ⟨(fm275 k9 hi9).1, wd_at.pt ew283 (fm275 k9 hi9).2.1 (tg_ne (fm275 k9 hi9).2.2.1 tI10 (tnA (show 10 < 200 by decide))), (fm275 k9 hi9).2.2.1, wd_at.pt ew283 (fm275 k9 hi9).2.2.2.1 (tg_ne (fm275 k9 hi9).2.2.2.2.1 tI10 (tnA (show 10 < 220 by decide))), (fm275 k9 hi9).2.2.2.2.1, wd_at.pt ew283 (fm275 k9 hi9).2.2.2.2.2.1 (tg_ne (fm275 k9 hi9).2.2.2.2.2.2.1 tI10 (tnA (show 10 < 240 by decide))), (fm275 k9 hi9).2.2.2.2.2.2.1, wd_at.pt ew283 (fm275 k9 hi9).2.2.2.2.2.2.2.1 (tg_ne (fm275 k9 hi9).2.2.2.2.2.2.2.2.1 tI10 (tnA (show 10 < 260 by decide))), (fm275 k9 hi9).2.2.2.2.2.2.2.2.1, wd_at.pt ew283 (fm275 k9 hi9).2.2.2.2.2.2.2.2.2.1 (tg_ne (fm275 k9 hi9).2.2.2.2.2.2.2.2.2.2.1 tI10 (tnA (show 10 < 280 by decide))), (fm275 k9 hi9).2.2.2.2.2.2.2.2.2.2.1, wd_at.pt ew283 (fm275 k9 hi9).2.2.2.2.2.2.2.2.2.2.2.1 (tg_ne (fm275 k9 hi9).2.2.2.2.2.2.2.2.2.2.2.2 tI10 (tnA (show 10 < 300 by decide))), (fm275 k9 hi9).2.2.2.2.2.2.2.2.2.2.2.2⟩
                have fm322 : ∀ k9, k9 < pc → pf k9 = some (pa k9) ∧ wd_at w282 (pa k9) (.inr (3, [.int (plv k9), .int (pwo k9), .int (phd k9), .int (pgd k9), .int (pdy k9), .int (pno k9), .int (ptp k9)])) ∧ tg (pa k9) = 3000 + k9 := fun k9 hi9 => ⟨(fm276 k9 hi9).1, wd_at.pt ew283 (fm276 k9 hi9).2.1 (tg_ne (fm276 k9 hi9).2.2 tI10 (tnA (show 10 < 3000 by decide))), (fm276 k9 hi9).2.2⟩
                have fm323 : ∀ k9, k9 < ac → af k9 = some (ad k9) ∧ wd_at w282 (ad k9) (.inr (0, [.int (av0 k9), .int (av1 k9), .int (av2 k9), .int (av3 k9)])) ∧ tg (ad k9) = 4000 + k9 := fun k9 hi9 => ⟨(fm277 k9 hi9).1, wd_at.pt ew283 (fm277 k9 hi9).2.1 (tg_ne (fm277 k9 hi9).2.2 tI10 (tnA (show 10 < 4000 by decide))), (fm277 k9 hi9).2.2⟩
                have fm324 : ∀ k9, k9 < sc → zf k9 = some (so k9) ∧ wd_at w282 (so k9) (.inr (6, [.int (sp0 k9), .int (sp1 k9), .ref (sr k9)])) ∧ tg (so k9) = 5000 + k9 ∧ wd_at w282 (sr k9) (.inl (cy 2, 12, .inl (sd k9))) ∧ tg (sr k9) = 6000 + k9 := fun k9 hi9 => ⟨(fm278 k9 hi9).1, wd_at.pt ew283 (fm278 k9 hi9).2.1 (tg_ne (fm278 k9 hi9).2.2.1 tI10 (tnA (show 10 < 5000 by decide))), (fm278 k9 hi9).2.2.1, wd_at.pt ew283 (fm278 k9 hi9).2.2.2.1 (tg_ne (fm278 k9 hi9).2.2.2.2 tI10 (tnA (show 10 < 6000 by decide))), (fm278 k9 hi9).2.2.2.2⟩
                have fm325 : ∀ k9, k9 < sh → (hf k9 = some (sw k9) ∧ hto k9 < 12) ∧ wd_at w282 (sw k9) (.inr (5, [.int (nI (hto k9)), .int (hpp k9), .int (hle k9), .int (ham k9), .int (hhh k9), .int (hdd k9), .int (hru k9), .int (hde k9), .int (hcp k9), .int (hld k9)])) ∧ tg (sw k9) = 7000 + k9 := fun k9 hi9 => ⟨(fm279 k9 hi9).1, wd_at.pt ew283 (fm279 k9 hi9).2.1 (tg_ne (fm279 k9 hi9).2.2 tI10 (tnA (show 10 < 7000 by decide))), (fm279 k9 hi9).2.2⟩
                have kp326 := kp280.put ew283 (tgS tI10 (by decide))
                refine lv_aload_n hx hb dX10_show_172 rfl (lv_at hl 3 rfl) ?_
                refine lv_dup hx hb dX10_show_173 rfl ?_
                refine x_get (ref := "NoteHouse") F hP k284 rfl (fun _ h => List.mem_cons_of_mem _ (List.mem_append_left _ (List.mem_append_left _ (List.mem_append_left _ (List.mem_append_left _ (List.mem_append_left _ (List.mem_append_left _ (List.mem_append_left _ (List.mem_append_right _ (h)))))))))) 16 (Nat.le_of_ble_eq_true rfl) (List.mem_cons_of_mem _ (List.mem_append_left _ (List.mem_append_left _ (List.mem_append_left _ (List.mem_append_left _ (List.mem_append_left _ (List.mem_append_left _ (List.mem_append_left _ (List.mem_append_left _ (List.mem_append_left _ (List.mem_of_getElem? (i := 0) rfl))))))))))) rfl rfl dX10_show_174 ?_
                refine lv_iconst (v := 1) hx hb dX10_show_177 (by decide) ?_
                refine lv_iadd hx hb dX10_show_178 ?_
                rw [show ((nI sh) + 1 : Int32) = nI (sh + 1) from nI_add sh 1]
                refine y_put (ref := "NoteHouse") F hP hD hS k284 rfl (fun _ h => List.mem_cons_of_mem _ (List.mem_append_left _ (List.mem_append_left _ (List.mem_append_left _ (List.mem_append_left _ (List.mem_append_left _ (List.mem_append_left _ (List.mem_append_left _ (List.mem_append_right _ (h)))))))))) tyX10_ok nmX10 16 (Nat.le_of_ble_eq_true rfl) (List.mem_cons_of_mem _ (List.mem_append_left _ (List.mem_append_left _ (List.mem_append_left _ (List.mem_append_left _ (List.mem_append_left _ (List.mem_append_left _ (List.mem_append_left _ (List.mem_append_left _ (List.mem_append_left _ (List.mem_of_getElem? (i := 0) rfl))))))))))) rfl rfl rfl rfl (Nat.le_of_ble_eq_true rfl) dX10_show_179 (fun w327 ew328 H locs hP hD hS => ?_)
                have k329 : wd_at w327 x (.inr (10, [.ref a0, .ref a1, .ref a2, .ref a3, .ref a4, .ref a5, .ref a6, .ref a7, .ref a8, .ref (aa sg), .ref a10, .ref a11, .int td, .int (nI pc), .int (nI ac), .int (nI sc), .int (nI (sh + 1))])) := wd_at.ps ew328 k284
                have k330 := wd_at.pt ew328 k285 (tg_ne tI1 tI0 (by decide))
                have k331 := wd_at.pt ew328 k286 (tg_ne tI2 tI0 (by decide))
                have k332 := wd_at.pt ew328 k287 (tg_ne tI3 tI0 (by decide))
                have k333 := wd_at.pt ew328 k288 (tg_ne tI4 tI0 (by decide))
                have k334 := wd_at.pt ew328 k289 (tg_ne tI5 tI0 (by decide))
                have k335 := wd_at.pt ew328 k290 (tg_ne tI6 tI0 (by decide))
                have k336 := wd_at.pt ew328 k291 (tg_ne tI7 tI0 (by decide))
                have k337 := wd_at.pt ew328 k292 (tg_ne tI8 tI0 (by decide))
                have k338 := wd_at.pt ew328 k293 (tg_ne tI9 tI0 (by decide))
                have k339 := wd_at.pt ew328 k294 (tg_ne tI10 tI0 (by decide))
                have k340 := wd_at.pt ew328 k295 (tg_ne tI11 tI0 (by decide))
                have k341 := wd_at.pt ew328 k296 (tg_ne tI12 tI0 (by decide))
                have k342 := wd_at.pt ew328 k297 (tg_ne tI13 tI0 (by decide))
                have k343 := wd_at.pt ew328 k298 (tg_ne tI14 tI0 (by decide))
                have k344 := wd_at.pt ew328 k299 (tg_ne tI15 tI0 (by decide))
                have k345 := wd_at.pt ew328 k300 (tg_ne tI16 tI0 (by decide))
                have k346 := wd_at.pt ew328 k301 (tg_ne tI17 tI0 (by decide))
                have k347 := wd_at.pt ew328 k302 (tg_ne tI18 tI0 (by decide))
                have k348 := wd_at.pt ew328 k303 (tg_ne tI19 tI0 (by decide))
                have k349 := wd_at.pt ew328 k304 (tg_ne tI20 tI0 (by decide))
                have k350 := wd_at.pt ew328 k305 (tg_ne tI21 tI0 (by decide))
                have k351 := wd_at.pt ew328 k306 (tg_ne tI22 tI0 (by decide))
                have k352 := wd_at.pt ew328 k307 (tg_ne tI23 tI0 (tnA (show 0 < 30 by decide)))
                have k353 := wd_at.pt ew328 k308 (tg_ne tI24 tI0 (tnA (show 0 < 32 by decide)))
                have k354 := wd_at.pt ew328 k309 (tg_ne tI25 tI0 (tnA (show 0 < 30 by decide)))
                have k355 := wd_at.pt ew328 k310 (tg_ne tI26 tI0 (tnA (show 0 < 32 by decide)))
                have k356 := wd_at.pt ew328 k311 (tg_ne tz15 tI0 (tnA (show 0 < 3000 by decide)))
                have k357 := wd_at.pt ew328 k312 (Ne.symm (wd_nL hq42 kI0))
                have k358 := wd_at.pt ew328 k313 (tg_ne tz168 tI0 (tnA (show 0 < 100 by decide)))
                have k359 := wd_at.pt ew328 k314 (tg_ne tz171 tI0 (tnA (show 0 < 200 by decide)))
                have k360 := wd_at.pt ew328 k315 (tg_ne tz173 tI0 (tnA (show 0 < 220 by decide)))
                have k361 := wd_at.pt ew328 k316 (tg_ne tz175 tI0 (tnA (show 0 < 240 by decide)))
                have k362 := wd_at.pt ew328 k317 (tg_ne tz177 tI0 (tnA (show 0 < 260 by decide)))
                have k363 := wd_at.pt ew328 k318 (tg_ne tz179 tI0 (tnA (show 0 < 280 by decide)))
                have k364 := wd_at.pt ew328 k319 (tg_ne tz181 tI0 (tnA (show 0 < 300 by decide)))
                have fm365 : ∀ i9, i9 < 12 → tf i9 = some (tn i9) ∧ wd_at w327 (tn i9) (.inr (8, [.int (co i9), .int (ra i9), .int (se i9), .ref (ag i9)])) ∧ tg (tn i9) = 100 + i9 := fun i9 hi9 => ⟨(fm320 i9 hi9).1, wd_at.pt ew328 (fm320 i9 hi9).2.1 (tg_ne (fm320 i9 hi9).2.2 tI0 (tnA (show 0 < 100 by decide))), (fm320 i9 hi9).2.2⟩
                have fm366 : ∀ k9, k9 < 13 → (aOK (cf k9) (nf k9) ∧ ru k9 ≤ 12) ∧ wd_at w327 (aa k9) (.inr (1, [.ref (ga0 k9), .ref (ga1 k9), .ref (ga2 k9), .ref (ga3 k9), .ref (ga4 k9), .int (nI (ru k9))])) ∧ tg (aa k9) = 200 + k9 ∧ wd_at w327 (ga0 k9) (.inl (cy 2, 12, .inl (df k9))) ∧ tg (ga0 k9) = 220 + k9 ∧ wd_at w327 (ga1 k9) (.inl (cy 2, 12, .inl (cf k9))) ∧ tg (ga1 k9) = 240 + k9 ∧ wd_at w327 (ga2 k9) (.inl (cy 2, 72, .inl (nf k9))) ∧ tg (ga2 k9) = 260 + k9 ∧ wd_at w327 (ga3 k9) (.inl (cy 1, 72, .inl (sf k9))) ∧ tg (ga3 k9) = 280 + k9 ∧ wd_at w327 (ga4 k9) (.inl (cy 2, 72, .inl (uf k9))) ∧ tg (ga4 k9) = 300 + k9 := fun k9 hi9 => ⟨(fm321 k9 hi9).1, wd_at.pt ew328 (fm321 k9 hi9).2.1 (tg_ne (fm321 k9 hi9).2.2.1 tI0 (tnA (show 0 < 200 by decide))), (fm321 k9 hi9).2.2.1, wd_at.pt ew328 (fm321 k9 hi9).2.2.2.1 (tg_ne (fm321 k9 hi9).2.2.2.2.1 tI0 (tnA (show 0 < 220 by decide))), (fm321 k9 hi9).2.2.2.2.1, wd_at.pt ew328 (fm321 k9 hi9).2.2.2.2.2.1 (tg_ne (fm321 k9 hi9).2.2.2.2.2.2.1 tI0 (tnA (show 0 < 240 by decide))), (fm321 k9 hi9).2.2.2.2.2.2.1, wd_at.pt ew328 (fm321 k9 hi9).2.2.2.2.2.2.2.1 (tg_ne (fm321 k9 hi9).2.2.2.2.2.2.2.2.1 tI0 (tnA (show 0 < 260 by decide))), (fm321 k9 hi9).2.2.2.2.2.2.2.2.1, wd_at.pt ew328 (fm321 k9 hi9).2.2.2.2.2.2.2.2.2.1 (tg_ne (fm321 k9 hi9).2.2.2.2.2.2.2.2.2.2.1 tI0 (tnA (show 0 < 280 by decide))), (fm321 k9 hi9).2.2.2.2.2.2.2.2.2.2.1, wd_at.pt ew328 (fm321 k9 hi9).2.2.2.2.2.2.2.2.2.2.2.1 (tg_ne (fm321 k9 hi9).2.2.2.2.2.2.2.2.2.2.2.2 tI0 (tnA (show 0 < 300 by decide))), (fm321 k9 hi9).2.2.2.2.2.2.2.2.2.2.2.2⟩
                have fm367 : ∀ k9, k9 < pc → pf k9 = some (pa k9) ∧ wd_at w327 (pa k9) (.inr (3, [.int (plv k9), .int (pwo k9), .int (phd k9), .int (pgd k9), .int (pdy k9), .int (pno k9), .int (ptp k9)])) ∧ tg (pa k9) = 3000 + k9 := fun k9 hi9 => ⟨(fm322 k9 hi9).1, wd_at.pt ew328 (fm322 k9 hi9).2.1 (tg_ne (fm322 k9 hi9).2.2 tI0 (tnA (show 0 < 3000 by decide))), (fm322 k9 hi9).2.2⟩
                have fm368 : ∀ k9, k9 < ac → af k9 = some (ad k9) ∧ wd_at w327 (ad k9) (.inr (0, [.int (av0 k9), .int (av1 k9), .int (av2 k9), .int (av3 k9)])) ∧ tg (ad k9) = 4000 + k9 := fun k9 hi9 => ⟨(fm323 k9 hi9).1, wd_at.pt ew328 (fm323 k9 hi9).2.1 (tg_ne (fm323 k9 hi9).2.2 tI0 (tnA (show 0 < 4000 by decide))), (fm323 k9 hi9).2.2⟩
                have fm369 : ∀ k9, k9 < sc → zf k9 = some (so k9) ∧ wd_at w327 (so k9) (.inr (6, [.int (sp0 k9), .int (sp1 k9), .ref (sr k9)])) ∧ tg (so k9) = 5000 + k9 ∧ wd_at w327 (sr k9) (.inl (cy 2, 12, .inl (sd k9))) ∧ tg (sr k9) = 6000 + k9 := fun k9 hi9 => ⟨(fm324 k9 hi9).1, wd_at.pt ew328 (fm324 k9 hi9).2.1 (tg_ne (fm324 k9 hi9).2.2.1 tI0 (tnA (show 0 < 5000 by decide))), (fm324 k9 hi9).2.2.1, wd_at.pt ew328 (fm324 k9 hi9).2.2.2.1 (tg_ne (fm324 k9 hi9).2.2.2.2 tI0 (tnA (show 0 < 6000 by decide))), (fm324 k9 hi9).2.2.2.2⟩
                have fm370 : ∀ k9, k9 < sh → (hf k9 = some (sw k9) ∧ hto k9 < 12) ∧ wd_at w327 (sw k9) (.inr (5, [.int (nI (hto k9)), .int (hpp k9), .int (hle k9), .int (ham k9), .int (hhh k9), .int (hdd k9), .int (hru k9), .int (hde k9), .int (hcp k9), .int (hld k9)])) ∧ tg (sw k9) = 7000 + k9 := fun k9 hi9 => ⟨(fm325 k9 hi9).1, wd_at.pt ew328 (fm325 k9 hi9).2.1 (tg_ne (fm325 k9 hi9).2.2 tI0 (tnA (show 0 < 7000 by decide))), (fm325 k9 hi9).2.2⟩
                have kp371 := kp326.put ew328 (tgS tI0 (by decide))
                refine lv_aload hx hb dX10_show_182 (lv_at hl 0 rfl) ?_
                refine x_get (ref := "NoteHouse$Shown") F hP k357 rfl (fun _ h => List.mem_cons_of_mem _ (List.mem_append_left _ (List.mem_append_left _ (List.mem_append_left _ (List.mem_append_left _ (List.mem_append_left _ (List.mem_append_right _ (h)))))))) 7 (Nat.le_of_ble_eq_true rfl) (List.mem_cons_of_mem _ (List.mem_append_left _ (List.mem_append_left _ (List.mem_append_left _ (List.mem_append_left _ (List.mem_append_left _ (List.mem_append_left _ (List.mem_append_left _ (List.mem_append_left _ (List.mem_append_left _ (List.mem_of_getElem? (i := 10) rfl))))))))))) rfl rfl dX10_show_184 ?_
                have fm373 : ∀ i9, i9 < 12 → tf i9 = some (tn i9) ∧ wd_at w327 (tn i9) (.inr (8, [.int (co i9), .int (ra i9), .int (se i9), .ref (ag i9)])) ∧ (va_up tg q39 (7000 + sh)) (tn i9) = 100 + i9 := fun i9 hi9 => ⟨(fm365 i9 hi9).1, (fm365 i9 hi9).2.1, ((va_up_ne _ _ (fn73 i9 hi9)).trans (fm365 i9 hi9).2.2)⟩
                have fm374 : ∀ k9, k9 < 13 → (aOK (cf k9) (nf k9) ∧ ru k9 ≤ 12) ∧ wd_at w327 (aa k9) (.inr (1, [.ref (ga0 k9), .ref (ga1 k9), .ref (ga2 k9), .ref (ga3 k9), .ref (ga4 k9), .int (nI (ru k9))])) ∧ (va_up tg q39 (7000 + sh)) (aa k9) = 200 + k9 ∧ wd_at w327 (ga0 k9) (.inl (cy 2, 12, .inl (df k9))) ∧ (va_up tg q39 (7000 + sh)) (ga0 k9) = 220 + k9 ∧ wd_at w327 (ga1 k9) (.inl (cy 2, 12, .inl (cf k9))) ∧ (va_up tg q39 (7000 + sh)) (ga1 k9) = 240 + k9 ∧ wd_at w327 (ga2 k9) (.inl (cy 2, 72, .inl (nf k9))) ∧ (va_up tg q39 (7000 + sh)) (ga2 k9) = 260 + k9 ∧ wd_at w327 (ga3 k9) (.inl (cy 1, 72, .inl (sf k9))) ∧ (va_up tg q39 (7000 + sh)) (ga3 k9) = 280 + k9 ∧ wd_at w327 (ga4 k9) (.inl (cy 2, 72, .inl (uf k9))) ∧ (va_up tg q39 (7000 + sh)) (ga4 k9) = 300 + k9 := fun k9 hi9 => ⟨(fm366 k9 hi9).1, (fm366 k9 hi9).2.1, ((va_up_ne _ _ ((fn75 k9 hi9).1)).trans (fm366 k9 hi9).2.2.1), (fm366 k9 hi9).2.2.2.1, ((va_up_ne _ _ ((fn75 k9 hi9).2.1)).trans (fm366 k9 hi9).2.2.2.2.1), (fm366 k9 hi9).2.2.2.2.2.1, ((va_up_ne _ _ ((fn75 k9 hi9).2.2.1)).trans (fm366 k9 hi9).2.2.2.2.2.2.1), (fm366 k9 hi9).2.2.2.2.2.2.2.1, ((va_up_ne _ _ ((fn75 k9 hi9).2.2.2.1)).trans (fm366 k9 hi9).2.2.2.2.2.2.2.2.1), (fm366 k9 hi9).2.2.2.2.2.2.2.2.2.1, ((va_up_ne _ _ ((fn75 k9 hi9).2.2.2.2.1)).trans (fm366 k9 hi9).2.2.2.2.2.2.2.2.2.2.1), (fm366 k9 hi9).2.2.2.2.2.2.2.2.2.2.2.1, ((va_up_ne _ _ ((fn75 k9 hi9).2.2.2.2.2)).trans (fm366 k9 hi9).2.2.2.2.2.2.2.2.2.2.2.2)⟩
                have fm375 : ∀ k9, k9 < pc → pf k9 = some (pa k9) ∧ wd_at w327 (pa k9) (.inr (3, [.int (plv k9), .int (pwo k9), .int (phd k9), .int (pgd k9), .int (pdy k9), .int (pno k9), .int (ptp k9)])) ∧ (va_up tg q39 (7000 + sh)) (pa k9) = 3000 + k9 := fun k9 hi9 => ⟨(fm367 k9 hi9).1, (fm367 k9 hi9).2.1, ((va_up_ne _ _ (fn77 k9 hi9)).trans (fm367 k9 hi9).2.2)⟩
                have fm376 : ∀ k9, k9 < ac → af k9 = some (ad k9) ∧ wd_at w327 (ad k9) (.inr (0, [.int (av0 k9), .int (av1 k9), .int (av2 k9), .int (av3 k9)])) ∧ (va_up tg q39 (7000 + sh)) (ad k9) = 4000 + k9 := fun k9 hi9 => ⟨(fm368 k9 hi9).1, (fm368 k9 hi9).2.1, ((va_up_ne _ _ (fn79 k9 hi9)).trans (fm368 k9 hi9).2.2)⟩
                have fm377 : ∀ k9, k9 < sc → zf k9 = some (so k9) ∧ wd_at w327 (so k9) (.inr (6, [.int (sp0 k9), .int (sp1 k9), .ref (sr k9)])) ∧ (va_up tg q39 (7000 + sh)) (so k9) = 5000 + k9 ∧ wd_at w327 (sr k9) (.inl (cy 2, 12, .inl (sd k9))) ∧ (va_up tg q39 (7000 + sh)) (sr k9) = 6000 + k9 := fun k9 hi9 => ⟨(fm369 k9 hi9).1, (fm369 k9 hi9).2.1, ((va_up_ne _ _ ((fn81 k9 hi9).1)).trans (fm369 k9 hi9).2.2.1), (fm369 k9 hi9).2.2.2.1, ((va_up_ne _ _ ((fn81 k9 hi9).2)).trans (fm369 k9 hi9).2.2.2.2)⟩
                have fm378 : ∀ k9, k9 < sh → (hf k9 = some (sw k9) ∧ hto k9 < 12) ∧ wd_at w327 (sw k9) (.inr (5, [.int (nI (hto k9)), .int (hpp k9), .int (hle k9), .int (ham k9), .int (hhh k9), .int (hdd k9), .int (hru k9), .int (hde k9), .int (hcp k9), .int (hld k9)])) ∧ (va_up tg q39 (7000 + sh)) (sw k9) = 7000 + k9 := fun k9 hi9 => ⟨(fm370 k9 hi9).1, (fm370 k9 hi9).2.1, ((va_up_ne _ _ (fn83 k9 hi9)).trans (fm370 k9 hi9).2.2)⟩
                have k379 : wd_at w327 a5 (.inl (cy 7, 200, .inr (.inr (.inr (.inr (va_up hf sh (some q39))))))) := by have h9 := k339; rw [nI_clamp (n := sh) (by omega)] at h9; exact h9
                have fm380 : ∀ k9, k9 < (sh + 1) → ((va_up hf sh (some q39)) k9 = some ((va_up sw sh q39) k9) ∧ (va_up hto sh t) k9 < 12) ∧ wd_at w327 ((va_up sw sh q39) k9) (.inr (5, [.int (nI ((va_up hto sh t) k9)), .int ((va_up hpp sh x2) k9), .int ((va_up hle sh x3) k9), .int ((va_up ham sh x4) k9), .int ((va_up hhh sh x5) k9), .int ((va_up hdd sh td) k9), .int ((va_up hru sh rx185) k9), .int ((va_up hde sh rx235) k9), .int ((va_up hcp sh 0) k9), .int ((va_up hld sh (-1)) k9)])) ∧ (va_up tg q39 (7000 + sh)) ((va_up sw sh q39) k9) = 7000 + k9 := by
                  intro k9 hi9
                  by_cases e9 : k9 = sh
                  · rw [e9]
                    exact ⟨⟨by rw [va_up_self, va_up_self], by rw [va_up_self]; omega⟩, (by simp only [va_up_self]; exact k357), (by rw [va_up_self]; exact (va_up_self _ _ _))⟩
                  · simp only [va_up_ne _ _ e9]
                    exact fm378 k9 (by omega)
                have hX381 : IX cy (va_up tg q39 (7000 + sh)) x td pc ac sc ln se plv w327 := IX.mk a0 a1 a2 a3 a4 a5 a6 a7 a8 a10 a11 b0 b1 b2 b3 tb l0 l1 l2 l3 l4 l5 l6 l7 bl bm (sh + 1) gc sg lu lv9 f0 f1 f2 f3 tbf e0 e1 e4 e5 e7 ffx128 bf bf2 e2 e3 e6 ta sz fo to fo2 to2 tf tn ag co ra aa ru ga0 ga1 ga2 ga3 ga4 df cf nf sf uf pf pa pwo phd pgd pdy pno ptp af ad av0 av1 av2 av3 zf so sr sp0 sp1 sd (va_up hf sh (some q39)) (va_up sw sh q39) (va_up hto sh t) (va_up hpp sh x2) (va_up hle sh x3) (va_up ham sh x4) (va_up hhh sh x5) (va_up hdd sh td) (va_up hru sh rx185) (va_up hde sh rx235) (va_up hcp sh 0) (va_up hld sh (-1)) (by omega) (by omega) (by omega) (by omega) (by omega) (by omega) (by omega) (by omega) hag k329 ((va_up_ne _ _ (wd_nL hq42 kI0)).trans tI0) k330 ((va_up_ne _ _ (wd_nL hq42 kI1)).trans tI1) k331 ((va_up_ne _ _ (wd_nL hq42 kI2)).trans tI2) k332 ((va_up_ne _ _ (wd_nL hq42 kI3)).trans tI3) k333 ((va_up_ne _ _ (wd_nL hq42 kI4)).trans tI4) k334 ((va_up_ne _ _ (wd_nL hq42 kI5)).trans tI5) k335 ((va_up_ne _ _ (wd_nL hq42 kI6)).trans tI6) k336 ((va_up_ne _ _ (wd_nL hq42 kI7)).trans tI7) k337 ((va_up_ne _ _ (wd_nL hq42 kI8)).trans tI8) k338 ((va_up_ne _ _ (wd_nL hq42 kI9)).trans tI9) k379 ((va_up_ne _ _ (wd_nL hq42 kI10)).trans tI10) k340 ((va_up_ne _ _ (wd_nL hq42 kI11)).trans tI11) k341 ((va_up_ne _ _ (wd_nL hq42 kI12)).trans tI12) k342 ((va_up_ne _ _ (wd_nL hq42 kI13)).trans tI13) k343 ((va_up_ne _ _ (wd_nL hq42 kI14)).trans tI14) k344 ((va_up_ne _ _ (wd_nL hq42 kI15)).trans tI15) k345 ((va_up_ne _ _ (wd_nL hq42 kI16)).trans tI16) k346 ((va_up_ne _ _ (wd_nL hq42 kI17)).trans tI17) k347 ((va_up_ne _ _ (wd_nL hq42 kI18)).trans tI18) k348 ((va_up_ne _ _ (wd_nL hq42 kI19)).trans tI19) k349 ((va_up_ne _ _ (wd_nL hq42 kI20)).trans tI20) k350 ((va_up_ne _ _ (wd_nL hq42 kI21)).trans tI21) k351 ((va_up_ne _ _ (wd_nL hq42 kI22)).trans tI22) k352 ((va_up_ne _ _ (wd_nL hq42 kI23)).trans tI23) k353 ((va_up_ne _ _ (wd_nL hq42 kI24)).trans tI24) k354 ((va_up_ne _ _ (wd_nL hq42 kI25)).trans tI25) k355 ((va_up_ne _ _ (wd_nL hq42 kI26)).trans tI26) fm373 fm374 fm375 fm376 fm377 fm380
                exact y_ir K hP hD hS (Nat.le_of_ble_eq_true rfl) (Nat.le_of_ble_eq_true rfl) (ty := .int) rfl rfl dX10_show_187 (⟨⟨_, rfl⟩, ⟨(va_up tg q39 (7000 + sh)), (fun a9 ha9 => (va_up_ne _ _ (fun q9 : a9 = q39 => (kp0.out hq42) (q9 ▸ ha9)))), kp371, hX381⟩⟩)
              · refine lv_aload_n hx hb dX10_show_151 rfl (lv_at hl 3 rfl) ?_
                refine lv_aload hx hb dX10_show_152 (lv_at hl 0 rfl) ?_
                refine lv_aload hx hb dX10_show_154 (lv_at hl 2 rfl) ?_
                refine lv_iload hx hb dX10_show_156 (lv_at hl 9 rfl) ?_
                refine x_callV (n := 3) (As := [.ref q39, .ref (pa j4), .int x6]) (rest := []) F hP hD hS (g_payOut l D cy sk sv w236 x a0 a1 a2 a3 a4 a5 a6 a7 a8 (aa sg) a10 a11 pc ac sc sh td tg tf tn ag co ra se b0 b1 b2 b3 f0 f1 f2 f3 q39 t x2 x3 x4 x5 td rx185 rx235 0 (-1) (pa j4) (plv j4) (pwo j4) (phd j4) (pgd j4) (pdy j4) (pno j4) (ptp j4) x6 k238 k244 k239 k240 k241 k242 k243 k266 k265 fm274 (fun b => b = q39 ∨ b = (pa j4) ∨ b = b2 ∨ b = b3) (Or.inl rfl) (Or.inr (Or.inl rfl)) (Or.inr (Or.inr (Or.inl rfl))) (Or.inr (Or.inr (Or.inr rfl))) (by omega) (tg_ne tI4 tI5 (by decide))) gX10_show_X10_payOut rfl rfl (by decide +kernel) ⟨(Nat.le_of_ble_eq_true rfl), (Nat.le_of_ble_eq_true rfl)⟩ rfl hl.1 (Nat.le_of_ble_eq_true rfl) k238 rfl dX10_show_158 rfl ⟨(Nat.le_of_ble_eq_true rfl), (Nat.le_of_ble_eq_true rfl)⟩ (fun v383 w384 hp382 H locs hP hD hS => ?_)
                obtain ⟨cpx385, ldx386, nox387, tpx388, dx389, px390, rfl, kq395, k391, k392, k393, k394⟩ := hp382
                have fm396 : ∀ k9, k9 < pc ∧ k9 ≠ j4 → pf k9 = some (pa k9) ∧ wd_at w236 (pa k9) (.inr (3, [.int (plv k9), .int (pwo k9), .int (phd k9), .int (pgd k9), .int (pdy k9), .int (pno k9), .int (ptp k9)])) ∧ tg (pa k9) = 3000 + k9 := fun k9 hi8 => fm276 k9 hi8.1
                have fn397 := fun k9 (hi8 : k9 < pc ∧ k9 ≠ j4) => fn77 k9 hi8.1
                have k398 := kq395.2 _ _ k238 (orN (wd_nL hq42 kI0) (orN (tg_ne tI0 tz15 (tnA2 (show 0 < 3000 by decide))) (orN (tg_ne tI0 tI4 (by decide)) (tg_ne tI0 tI5 (by decide)))))
                have k399 := kq395.2 _ _ k239 (orN (wd_nL hq42 kI1) (orN (tg_ne tI1 tz15 (tnA2 (show 1 < 3000 by decide))) (orN (tg_ne tI1 tI4 (by decide)) (tg_ne tI1 tI5 (by decide)))))
                have k400 := kq395.2 _ _ k240 (orN (wd_nL hq42 kI2) (orN (tg_ne tI2 tz15 (tnA2 (show 2 < 3000 by decide))) (orN (tg_ne tI2 tI4 (by decide)) (tg_ne tI2 tI5 (by decide)))))
                have k401 := kq395.2 _ _ k241 (orN (wd_nL hq42 kI3) (orN (tg_ne tI3 tz15 (tnA2 (show 3 < 3000 by decide))) (orN (tg_ne tI3 tI4 (by decide)) (tg_ne tI3 tI5 (by decide)))))
                have k402 := kq395.2 _ _ k244 (orN (wd_nL hq42 kI6) (orN (tg_ne tI6 tz15 (tnA2 (show 6 < 3000 by decide))) (orN (tg_ne tI6 tI4 (by decide)) (tg_ne tI6 tI5 (by decide)))))
                have k403 := kq395.2 _ _ k245 (orN (wd_nL hq42 kI7) (orN (tg_ne tI7 tz15 (tnA2 (show 7 < 3000 by decide))) (orN (tg_ne tI7 tI4 (by decide)) (tg_ne tI7 tI5 (by decide)))))
                have k404 := kq395.2 _ _ k246 (orN (wd_nL hq42 kI8) (orN (tg_ne tI8 tz15 (tnA2 (show 8 < 3000 by decide))) (orN (tg_ne tI8 tI4 (by decide)) (tg_ne tI8 tI5 (by decide)))))
                have k405 := kq395.2 _ _ k247 (orN (wd_nL hq42 kI9) (orN (tg_ne tI9 tz15 (tnA2 (show 9 < 3000 by decide))) (orN (tg_ne tI9 tI4 (by decide)) (tg_ne tI9 tI5 (by decide)))))
                have k406 := kq395.2 _ _ k248 (orN (wd_nL hq42 kI10) (orN (tg_ne tI10 tz15 (tnA2 (show 10 < 3000 by decide))) (orN (tg_ne tI10 tI4 (by decide)) (tg_ne tI10 tI5 (by decide)))))
                have k407 := kq395.2 _ _ k249 (orN (wd_nL hq42 kI11) (orN (tg_ne tI11 tz15 (tnA2 (show 11 < 3000 by decide))) (orN (tg_ne tI11 tI4 (by decide)) (tg_ne tI11 tI5 (by decide)))))
                have k408 := kq395.2 _ _ k250 (orN (wd_nL hq42 kI12) (orN (tg_ne tI12 tz15 (tnA2 (show 12 < 3000 by decide))) (orN (tg_ne tI12 tI4 (by decide)) (tg_ne tI12 tI5 (by decide)))))
                have k409 := kq395.2 _ _ k251 (orN (wd_nL hq42 kI13) (orN (tg_ne tI13 tz15 (tnA2 (show 13 < 3000 by decide))) (orN (tg_ne tI13 tI4 (by decide)) (tg_ne tI13 tI5 (by decide)))))
                have k410 := kq395.2 _ _ k252 (orN (wd_nL hq42 kI14) (orN (tg_ne tI14 tz15 (tnA2 (show 14 < 3000 by decide))) (orN (tg_ne tI14 tI4 (by decide)) (tg_ne tI14 tI5 (by decide)))))
                have k411 := kq395.2 _ _ k253 (orN (wd_nL hq42 kI15) (orN (tg_ne tI15 tz15 (tnA2 (show 15 < 3000 by decide))) (orN (tg_ne tI15 tI4 (by decide)) (tg_ne tI15 tI5 (by decide)))))
                have k412 := kq395.2 _ _ k254 (orN (wd_nL hq42 kI16) (orN (tg_ne tI16 tz15 (tnA2 (show 16 < 3000 by decide))) (orN (tg_ne tI16 tI4 (by decide)) (tg_ne tI16 tI5 (by decide)))))
                have k413 := kq395.2 _ _ k255 (orN (wd_nL hq42 kI17) (orN (tg_ne tI17 tz15 (tnA2 (show 17 < 3000 by decide))) (orN (tg_ne tI17 tI4 (by decide)) (tg_ne tI17 tI5 (by decide)))))
                have k414 := kq395.2 _ _ k256 (orN (wd_nL hq42 kI18) (orN (tg_ne tI18 tz15 (tnA2 (show 18 < 3000 by decide))) (orN (tg_ne tI18 tI4 (by decide)) (tg_ne tI18 tI5 (by decide)))))
                have k415 := kq395.2 _ _ k257 (orN (wd_nL hq42 kI19) (orN (tg_ne tI19 tz15 (tnA2 (show 19 < 3000 by decide))) (orN (tg_ne tI19 tI4 (by decide)) (tg_ne tI19 tI5 (by decide)))))
                have k416 := kq395.2 _ _ k258 (orN (wd_nL hq42 kI20) (orN (tg_ne tI20 tz15 (tnA2 (show 20 < 3000 by decide))) (orN (tg_ne tI20 tI4 (by decide)) (tg_ne tI20 tI5 (by decide)))))
                have k417 := kq395.2 _ _ k259 (orN (wd_nL hq42 kI21) (orN (tg_ne tI21 tz15 (tnA2 (show 21 < 3000 by decide))) (orN (tg_ne tI21 tI4 (by decide)) (tg_ne tI21 tI5 (by decide)))))
                have k418 := kq395.2 _ _ k260 (orN (wd_nL hq42 kI22) (orN (tg_ne tI22 tz15 (tnA2 (show 22 < 3000 by decide))) (orN (tg_ne tI22 tI4 (by decide)) (tg_ne tI22 tI5 (by decide)))))
                have k419 := kq395.2 _ _ k261 (orN (wd_nL hq42 kI23) (orN (tg_ne tI23 tz15 (tnB (n := 2) hlu (by decide))) (orN (tg_ne tI23 tI4 (tnA (show 4 < 30 by decide))) (tg_ne tI23 tI5 (tnA (show 5 < 30 by decide))))))
                have k420 := kq395.2 _ _ k262 (orN (wd_nL hq42 kI24) (orN (tg_ne tI24 tz15 (tnB (n := 2) hlu (by decide))) (orN (tg_ne tI24 tI4 (tnA (show 4 < 32 by decide))) (tg_ne tI24 tI5 (tnA (show 5 < 32 by decide))))))
                have k421 := kq395.2 _ _ k263 (orN (wd_nL hq42 kI25) (orN (tg_ne tI25 tz15 (tnB (n := 2) hlv (by decide))) (orN (tg_ne tI25 tI4 (tnA (show 4 < 30 by decide))) (tg_ne tI25 tI5 (tnA (show 5 < 30 by decide))))))
                have k422 := kq395.2 _ _ k264 (orN (wd_nL hq42 kI26) (orN (tg_ne tI26 tz15 (tnB (n := 2) hlv (by decide))) (orN (tg_ne tI26 tI4 (tnA (show 4 < 32 by decide))) (tg_ne tI26 tI5 (tnA (show 5 < 32 by decide))))))
                have k423 := kq395.2 _ _ k267 (orN (wd_nk k267 k266 rfl) (orN (tg_ne tz168 tz15 (tnB (n := 12) ht (by decide))) (orN (tg_ne tz168 tI4 (tnA (show 4 < 100 by decide))) (tg_ne tz168 tI5 (tnA (show 5 < 100 by decide))))))
                have k424 := kq395.2 _ _ k268 (orN (wd_nk k268 k266 rfl) (orN (tg_ne tz171 tz15 (tnB (n := 13) hs9 (by decide))) (orN (tg_ne tz171 tI4 (tnA (show 4 < 200 by decide))) (tg_ne tz171 tI5 (tnA (show 5 < 200 by decide))))))
                have k425 := kq395.2 _ _ k269 (orN (wd_nk k269 k266 rfl) (orN (tg_ne tz173 tz15 (tnB (n := 13) hs9 (by decide))) (orN (tg_ne tz173 tI4 (tnA (show 4 < 220 by decide))) (tg_ne tz173 tI5 (tnA (show 5 < 220 by decide))))))
                have k426 := kq395.2 _ _ k270 (orN (wd_nk k270 k266 rfl) (orN (tg_ne tz175 tz15 (tnB (n := 13) hs9 (by decide))) (orN (tg_ne tz175 tI4 (tnA (show 4 < 240 by decide))) (tg_ne tz175 tI5 (tnA (show 5 < 240 by decide))))))
                have k427 := kq395.2 _ _ k271 (orN (wd_nk k271 k266 rfl) (orN (tg_ne tz177 tz15 (tnB (n := 13) hs9 (by decide))) (orN (tg_ne tz177 tI4 (tnA (show 4 < 260 by decide))) (tg_ne tz177 tI5 (tnA (show 5 < 260 by decide))))))
                have k428 := kq395.2 _ _ k272 (orN (wd_nk k272 k266 rfl) (orN (tg_ne tz179 tz15 (tnB (n := 13) hs9 (by decide))) (orN (tg_ne tz179 tI4 (tnA (show 4 < 280 by decide))) (tg_ne tz179 tI5 (tnA (show 5 < 280 by decide))))))
                have k429 := kq395.2 _ _ k273 (orN (wd_nk k273 k266 rfl) (orN (tg_ne tz181 tz15 (tnB (n := 13) hs9 (by decide))) (orN (tg_ne tz181 tI4 (tnA (show 4 < 300 by decide))) (tg_ne tz181 tI5 (tnA (show 5 < 300 by decide))))))
                have fm430 : ∀ i9, i9 < 12 → tf i9 = some (tn i9) ∧ wd_at w384 (tn i9) (.inr (8, [.int (co i9), .int (ra i9), .int (se i9), .ref (ag i9)])) ∧ tg (tn i9) = 100 + i9 := fun i9 hi9 => ⟨(fm274 i9 hi9).1, kq395.2 _ _ (fm274 i9 hi9).2.1 (orN (fn73 i9 hi9) (orN (tg_ne (fm274 i9 hi9).2.2 tz15 (tnB (n := 12) hi9 (by decide))) (orN (tg_ne (fm274 i9 hi9).2.2 tI4 (tnA (show 4 < 100 by decide))) (tg_ne (fm274 i9 hi9).2.2 tI5 (tnA (show 5 < 100 by decide)))))), (fm274 i9 hi9).2.2⟩
                have fm431 : ∀ k9, k9 < 13 → (aOK (cf k9) (nf k9) ∧ ru k9 ≤ 12) ∧ wd_at w384 (aa k9) (.inr (1, [.ref (ga0 k9), .ref (ga1 k9), .ref (ga2 k9), .ref (ga3 k9), .ref (ga4 k9), .int (nI (ru k9))])) ∧ tg (aa k9) = 200 + k9 ∧ wd_at w384 (ga0 k9) (.inl (cy 2, 12, .inl (df k9))) ∧ tg (ga0 k9) = 220 + k9 ∧ wd_at w384 (ga1 k9) (.inl (cy 2, 12, .inl (cf k9))) ∧ tg (ga1 k9) = 240 + k9 ∧ wd_at w384 (ga2 k9) (.inl (cy 2, 72, .inl (nf k9))) ∧ tg (ga2 k9) = 260 + k9 ∧ wd_at w384 (ga3 k9) (.inl (cy 1, 72, .inl (sf k9))) ∧ tg (ga3 k9) = 280 + k9 ∧ wd_at w384 (ga4 k9) (.inl (cy 2, 72, .inl (uf k9))) ∧ tg (ga4 k9) = 300 + k9 := fun k9 hi9 => ⟨(fm275 k9 hi9).1, kq395.2 _ _ (fm275 k9 hi9).2.1 (orN ((fn75 k9 hi9).1) (orN (tg_ne (fm275 k9 hi9).2.2.1 tz15 (tnB (n := 13) hi9 (by decide))) (orN (tg_ne (fm275 k9 hi9).2.2.1 tI4 (tnA (show 4 < 200 by decide))) (tg_ne (fm275 k9 hi9).2.2.1 tI5 (tnA (show 5 < 200 by decide)))))), (fm275 k9 hi9).2.2.1, kq395.2 _ _ (fm275 k9 hi9).2.2.2.1 (orN ((fn75 k9 hi9).2.1) (orN (tg_ne (fm275 k9 hi9).2.2.2.2.1 tz15 (tnB (n := 13) hi9 (by decide))) (orN (tg_ne (fm275 k9 hi9).2.2.2.2.1 tI4 (tnA (show 4 < 220 by decide))) (tg_ne (fm275 k9 hi9).2.2.2.2.1 tI5 (tnA (show 5 < 220 by decide)))))), (fm275 k9 hi9).2.2.2.2.1, kq395.2 _ _ (fm275 k9 hi9).2.2.2.2.2.1 (orN ((fn75 k9 hi9).2.2.1) (orN (tg_ne (fm275 k9 hi9).2.2.2.2.2.2.1 tz15 (tnB (n := 13) hi9 (by decide))) (orN (tg_ne (fm275 k9 hi9).2.2.2.2.2.2.1 tI4 (tnA (show 4 < 240 by decide))) (tg_ne (fm275 k9 hi9).2.2.2.2.2.2.1 tI5 (tnA (show 5 < 240 by decide)))))), (fm275 k9 hi9).2.2.2.2.2.2.1, kq395.2 _ _ (fm275 k9 hi9).2.2.2.2.2.2.2.1 (orN ((fn75 k9 hi9).2.2.2.1) (orN (tg_ne (fm275 k9 hi9).2.2.2.2.2.2.2.2.1 tz15 (tnB (n := 13) hi9 (by decide))) (orN (tg_ne (fm275 k9 hi9).2.2.2.2.2.2.2.2.1 tI4 (tnA (show 4 < 260 by decide))) (tg_ne (fm275 k9 hi9).2.2.2.2.2.2.2.2.1 tI5 (tnA (show 5 < 260 by decide)))))), (fm275 k9 hi9).2.2.2.2.2.2.2.2.1, kq395.2 _ _ (fm275 k9 hi9).2.2.2.2.2.2.2.2.2.1 (orN ((fn75 k9 hi9).2.2.2.2.1) (orN (tg_ne (fm275 k9 hi9).2.2.2.2.2.2.2.2.2.2.1 tz15 (tnB (n := 13) hi9 (by decide))) (orN (tg_ne (fm275 k9 hi9).2.2.2.2.2.2.2.2.2.2.1 tI4 (tnA (show 4 < 280 by decide))) (tg_ne (fm275 k9 hi9).2.2.2.2.2.2.2.2.2.2.1 tI5 (tnA (show 5 < 280 by decide)))))), (fm275 k9 hi9).2.2.2.2.2.2.2.2.2.2.1, kq395.2 _ _ (fm275 k9 hi9).2.2.2.2.2.2.2.2.2.2.2.1 (orN ((fn75 k9 hi9).2.2.2.2.2) (orN (tg_ne (fm275 k9 hi9).2.2.2.2.2.2.2.2.2.2.2.2 tz15 (tnB (n := 13) hi9 (by decide))) (orN (tg_ne (fm275 k9 hi9).2.2.2.2.2.2.2.2.2.2.2.2 tI4 (tnA (show 4 < 300 by decide))) (tg_ne (fm275 k9 hi9).2.2.2.2.2.2.2.2.2.2.2.2 tI5 (tnA (show 5 < 300 by decide)))))), (fm275 k9 hi9).2.2.2.2.2.2.2.2.2.2.2.2⟩
                have fm432 : ∀ k9, k9 < pc ∧ k9 ≠ j4 → pf k9 = some (pa k9) ∧ wd_at w384 (pa k9) (.inr (3, [.int (plv k9), .int (pwo k9), .int (phd k9), .int (pgd k9), .int (pdy k9), .int (pno k9), .int (ptp k9)])) ∧ tg (pa k9) = 3000 + k9 := fun k9 hi9 => ⟨(fm396 k9 hi9).1, kq395.2 _ _ (fm396 k9 hi9).2.1 (orN (fn397 k9 hi9) (orN (tg_ne (fm396 k9 hi9).2.2 tz15 (tnS hi9.2)) (orN (tg_ne (fm396 k9 hi9).2.2 tI4 (tnA (show 4 < 3000 by decide))) (tg_ne (fm396 k9 hi9).2.2 tI5 (tnA (show 5 < 3000 by decide)))))), (fm396 k9 hi9).2.2⟩
                have fm433 : ∀ k9, k9 < ac → af k9 = some (ad k9) ∧ wd_at w384 (ad k9) (.inr (0, [.int (av0 k9), .int (av1 k9), .int (av2 k9), .int (av3 k9)])) ∧ tg (ad k9) = 4000 + k9 := fun k9 hi9 => ⟨(fm277 k9 hi9).1, kq395.2 _ _ (fm277 k9 hi9).2.1 (orN (fn79 k9 hi9) (orN (tg_ne (fm277 k9 hi9).2.2 tz15 (tnB2 (n := 30) (Nat.lt_of_lt_of_le hn5 hp90) (by decide))) (orN (tg_ne (fm277 k9 hi9).2.2 tI4 (tnA (show 4 < 4000 by decide))) (tg_ne (fm277 k9 hi9).2.2 tI5 (tnA (show 5 < 4000 by decide)))))), (fm277 k9 hi9).2.2⟩
                have fm434 : ∀ k9, k9 < sc → zf k9 = some (so k9) ∧ wd_at w384 (so k9) (.inr (6, [.int (sp0 k9), .int (sp1 k9), .ref (sr k9)])) ∧ tg (so k9) = 5000 + k9 ∧ wd_at w384 (sr k9) (.inl (cy 2, 12, .inl (sd k9))) ∧ tg (sr k9) = 6000 + k9 := fun k9 hi9 => ⟨(fm278 k9 hi9).1, kq395.2 _ _ (fm278 k9 hi9).2.1 (orN ((fn81 k9 hi9).1) (orN (tg_ne (fm278 k9 hi9).2.2.1 tz15 (tnB2 (n := 30) (Nat.lt_of_lt_of_le hn5 hp90) (by decide))) (orN (tg_ne (fm278 k9 hi9).2.2.1 tI4 (tnA (show 4 < 5000 by decide))) (tg_ne (fm278 k9 hi9).2.2.1 tI5 (tnA (show 5 < 5000 by decide)))))), (fm278 k9 hi9).2.2.1, kq395.2 _ _ (fm278 k9 hi9).2.2.2.1 (orN ((fn81 k9 hi9).2) (orN (tg_ne (fm278 k9 hi9).2.2.2.2 tz15 (tnB2 (n := 30) (Nat.lt_of_lt_of_le hn5 hp90) (by decide))) (orN (tg_ne (fm278 k9 hi9).2.2.2.2 tI4 (tnA (show 4 < 6000 by decide))) (tg_ne (fm278 k9 hi9).2.2.2.2 tI5 (tnA (show 5 < 6000 by decide)))))), (fm278 k9 hi9).2.2.2.2⟩
                have fm435 : ∀ k9, k9 < sh → (hf k9 = some (sw k9) ∧ hto k9 < 12) ∧ wd_at w384 (sw k9) (.inr (5, [.int (nI (hto k9)), .int (hpp k9), .int (hle k9), .int (ham k9), .int (hhh k9), .int (hdd k9), .int (hru k9), .int (hde k9), .int (hcp k9), .int (hld k9)])) ∧ tg (sw k9) = 7000 + k9 := fun k9 hi9 => ⟨(fm279 k9 hi9).1, kq395.2 _ _ (fm279 k9 hi9).2.1 (orN (fn83 k9 hi9) (orN (tg_ne (fm279 k9 hi9).2.2 tz15 (tnB2 (n := 30) (Nat.lt_of_lt_of_le hn5 hp90) (by decide))) (orN (tg_ne (fm279 k9 hi9).2.2 tI4 (tnA (show 4 < 7000 by decide))) (tg_ne (fm279 k9 hi9).2.2 tI5 (tnA (show 5 < 7000 by decide)))))), (fm279 k9 hi9).2.2⟩
                have kp436 := kp280.tr kq395 (fun b9 hm q9 => (fun q9 => Or.elim q9 (fun q9 => absurd (q9 ▸ hm) (kp0.out hq42)) (fun q9 => Or.elim q9 (fun q9 => q9 ▸ (tgS tz15 (by omega))) (fun q9 => Or.elim q9 (fun q9 => q9 ▸ (tgS tI4 (by decide))) (fun q9 => q9 ▸ (tgS tI5 (by decide)))))) q9)
                refine W.eq (g2 := F0 m 161 ls []) rfl (W.widen (k := 1) (n := 10) (Nat.le_of_ble_eq_true rfl) (Nat.le_of_ble_eq_true rfl) ?_)
                refine lv_aload_n hx hb dX10_show_161 rfl (lv_at hl 3 rfl) ?_
                refine x_get (ref := "NoteHouse") F hP k398 rfl (fun _ h => List.mem_cons_of_mem _ (List.mem_append_left _ (List.mem_append_left _ (List.mem_append_left _ (List.mem_append_left _ (List.mem_append_left _ (List.mem_append_left _ (List.mem_append_left _ (List.mem_append_right _ (h)))))))))) 5 (Nat.le_of_ble_eq_true rfl) (List.mem_cons_of_mem _ (List.mem_append_left _ (List.mem_append_left _ (List.mem_append_left _ (List.mem_append_left _ (List.mem_append_left _ (List.mem_append_left _ (List.mem_append_left _ (List.mem_append_left _ (List.mem_append_left _ (List.mem_of_getElem? (i := 11) rfl))))))))))) rfl rfl dX10_show_162 ?_
                refine lv_aload_n hx hb dX10_show_165 rfl (lv_at hl 3 rfl) ?_
                refine x_get (ref := "NoteHouse") F hP k398 rfl (fun _ h => List.mem_cons_of_mem _ (List.mem_append_left _ (List.mem_append_left _ (List.mem_append_left _ (List.mem_append_left _ (List.mem_append_left _ (List.mem_append_left _ (List.mem_append_left _ (List.mem_append_right _ (h)))))))))) 16 (Nat.le_of_ble_eq_true rfl) (List.mem_cons_of_mem _ (List.mem_append_left _ (List.mem_append_left _ (List.mem_append_left _ (List.mem_append_left _ (List.mem_append_left _ (List.mem_append_left _ (List.mem_append_left _ (List.mem_append_left _ (List.mem_append_left _ (List.mem_of_getElem? (i := 0) rfl))))))))))) rfl rfl dX10_show_166 ?_
                refine lv_aload hx hb dX10_show_169 (lv_at hl 0 rfl) ?_
                refine y_aast F hP hD hS k406 rfl k391 rfl (vp_in_nI (n := sh) (N := 200) (by omega) (by decide)) dX10_show_171 (fun w437 ew438 H locs hP hD hS => ?_)
                have k439 := wd_at.pt ew438 k398 (tg_ne tI0 tI10 (by decide))
                have k440 := wd_at.pt ew438 k399 (tg_ne tI1 tI10 (by decide))
                have k441 := wd_at.pt ew438 k400 (tg_ne tI2 tI10 (by decide))
                have k442 := wd_at.pt ew438 k401 (tg_ne tI3 tI10 (by decide))
                have k443 := wd_at.pt ew438 k393 (tg_ne tI4 tI10 (by decide))
                have k444 := wd_at.pt ew438 k394 (tg_ne tI5 tI10 (by decide))
                have k445 := wd_at.pt ew438 k402 (tg_ne tI6 tI10 (by decide))
                have k446 := wd_at.pt ew438 k403 (tg_ne tI7 tI10 (by decide))
                have k447 := wd_at.pt ew438 k404 (tg_ne tI8 tI10 (by decide))
                have k448 := wd_at.pt ew438 k405 (tg_ne tI9 tI10 (by decide))
                have k449 : wd_at w437 a5 (.inl (cy 7, 200, .inr (.inr (.inr (.inr (va_up hf (nI sh).toNatClampNeg (some q39))))))) := wd_at.ps ew438 k406
                have k450 := wd_at.pt ew438 k407 (tg_ne tI11 tI10 (by decide))
                have k451 := wd_at.pt ew438 k408 (tg_ne tI12 tI10 (by decide))
                have k452 := wd_at.pt ew438 k409 (tg_ne tI13 tI10 (by decide))
                have k453 := wd_at.pt ew438 k410 (tg_ne tI14 tI10 (by decide))
                have k454 := wd_at.pt ew438 k411 (tg_ne tI15 tI10 (by decide))
                have k455 := wd_at.pt ew438 k412 (tg_ne tI16 tI10 (by decide))
                have k456 := wd_at.pt ew438 k413 (tg_ne tI17 tI10 (by decide))
                have k457 := wd_at.pt ew438 k414 (tg_ne tI18 tI10 (by decide))
                have k458 := wd_at.pt ew438 k415 (tg_ne tI19 tI10 (by decide))
                have k459 := wd_at.pt ew438 k416 (tg_ne tI20 tI10 (by decide))
                have k460 := wd_at.pt ew438 k417 (tg_ne tI21 tI10 (by decide))
                have k461 := wd_at.pt ew438 k418 (tg_ne tI22 tI10 (by decide))
                have k462 := wd_at.pt ew438 k419 (tg_ne tI23 tI10 (tnA (show 10 < 30 by decide)))
                have k463 := wd_at.pt ew438 k420 (tg_ne tI24 tI10 (tnA (show 10 < 32 by decide)))
                have k464 := wd_at.pt ew438 k421 (tg_ne tI25 tI10 (tnA (show 10 < 30 by decide)))
                have k465 := wd_at.pt ew438 k422 (tg_ne tI26 tI10 (tnA (show 10 < 32 by decide)))
                have k466 := wd_at.pt ew438 k392 (tg_ne tz15 tI10 (tnA (show 10 < 3000 by decide)))
                have k467 := wd_at.pt ew438 k391 (Ne.symm (wd_nL hq42 kI10))
                have k468 := wd_at.pt ew438 k423 (tg_ne tz168 tI10 (tnA (show 10 < 100 by decide)))
                have k469 := wd_at.pt ew438 k424 (tg_ne tz171 tI10 (tnA (show 10 < 200 by decide)))
                have k470 := wd_at.pt ew438 k425 (tg_ne tz173 tI10 (tnA (show 10 < 220 by decide)))
                have k471 := wd_at.pt ew438 k426 (tg_ne tz175 tI10 (tnA (show 10 < 240 by decide)))
                have k472 := wd_at.pt ew438 k427 (tg_ne tz177 tI10 (tnA (show 10 < 260 by decide)))
                have k473 := wd_at.pt ew438 k428 (tg_ne tz179 tI10 (tnA (show 10 < 280 by decide)))
                have k474 := wd_at.pt ew438 k429 (tg_ne tz181 tI10 (tnA (show 10 < 300 by decide)))
                have fm475 : ∀ i9, i9 < 12 → tf i9 = some (tn i9) ∧ wd_at w437 (tn i9) (.inr (8, [.int (co i9), .int (ra i9), .int (se i9), .ref (ag i9)])) ∧ tg (tn i9) = 100 + i9 := fun i9 hi9 => ⟨(fm430 i9 hi9).1, wd_at.pt ew438 (fm430 i9 hi9).2.1 (tg_ne (fm430 i9 hi9).2.2 tI10 (tnA (show 10 < 100 by decide))), (fm430 i9 hi9).2.2⟩
                have fm476 : ∀ k9, k9 < 13 → (aOK (cf k9) (nf k9) ∧ ru k9 ≤ 12) ∧ wd_at w437 (aa k9) (.inr (1, [.ref (ga0 k9), .ref (ga1 k9), .ref (ga2 k9), .ref (ga3 k9), .ref (ga4 k9), .int (nI (ru k9))])) ∧ tg (aa k9) = 200 + k9 ∧ wd_at w437 (ga0 k9) (.inl (cy 2, 12, .inl (df k9))) ∧ tg (ga0 k9) = 220 + k9 ∧ wd_at w437 (ga1 k9) (.inl (cy 2, 12, .inl (cf k9))) ∧ tg (ga1 k9) = 240 + k9 ∧ wd_at w437 (ga2 k9) (.inl (cy 2, 72, .inl (nf k9))) ∧ tg (ga2 k9) = 260 + k9 ∧ wd_at w437 (ga3 k9) (.inl (cy 1, 72, .inl (sf k9))) ∧ tg (ga3 k9) = 280 + k9 ∧ wd_at w437 (ga4 k9) (.inl (cy 2, 72, .inl (uf k9))) ∧ tg (ga4 k9) = 300 + k9 := fun k9 hi9 => ⟨(fm431 k9 hi9).1, wd_at.pt ew438 (fm431 k9 hi9).2.1 (tg_ne (fm431 k9 hi9).2.2.1 tI10 (tnA (show 10 < 200 by decide))), (fm431 k9 hi9).2.2.1, wd_at.pt ew438 (fm431 k9 hi9).2.2.2.1 (tg_ne (fm431 k9 hi9).2.2.2.2.1 tI10 (tnA (show 10 < 220 by decide))), (fm431 k9 hi9).2.2.2.2.1, wd_at.pt ew438 (fm431 k9 hi9).2.2.2.2.2.1 (tg_ne (fm431 k9 hi9).2.2.2.2.2.2.1 tI10 (tnA (show 10 < 240 by decide))), (fm431 k9 hi9).2.2.2.2.2.2.1, wd_at.pt ew438 (fm431 k9 hi9).2.2.2.2.2.2.2.1 (tg_ne (fm431 k9 hi9).2.2.2.2.2.2.2.2.1 tI10 (tnA (show 10 < 260 by decide))), (fm431 k9 hi9).2.2.2.2.2.2.2.2.1, wd_at.pt ew438 (fm431 k9 hi9).2.2.2.2.2.2.2.2.2.1 (tg_ne (fm431 k9 hi9).2.2.2.2.2.2.2.2.2.2.1 tI10 (tnA (show 10 < 280 by decide))), (fm431 k9 hi9).2.2.2.2.2.2.2.2.2.2.1, wd_at.pt ew438 (fm431 k9 hi9).2.2.2.2.2.2.2.2.2.2.2.1 (tg_ne (fm431 k9 hi9).2.2.2.2.2.2.2.2.2.2.2.2 tI10 (tnA (show 10 < 300 by decide))), (fm431 k9 hi9).2.2.2.2.2.2.2.2.2.2.2.2⟩
                have fm477 : ∀ k9, k9 < pc ∧ k9 ≠ j4 → pf k9 = some (pa k9) ∧ wd_at w437 (pa k9) (.inr (3, [.int (plv k9), .int (pwo k9), .int (phd k9), .int (pgd k9), .int (pdy k9), .int (pno k9), .int (ptp k9)])) ∧ tg (pa k9) = 3000 + k9 := fun k9 hi9 => ⟨(fm432 k9 hi9).1, wd_at.pt ew438 (fm432 k9 hi9).2.1 (tg_ne (fm432 k9 hi9).2.2 tI10 (tnA (show 10 < 3000 by decide))), (fm432 k9 hi9).2.2⟩
                have fm478 : ∀ k9, k9 < ac → af k9 = some (ad k9) ∧ wd_at w437 (ad k9) (.inr (0, [.int (av0 k9), .int (av1 k9), .int (av2 k9), .int (av3 k9)])) ∧ tg (ad k9) = 4000 + k9 := fun k9 hi9 => ⟨(fm433 k9 hi9).1, wd_at.pt ew438 (fm433 k9 hi9).2.1 (tg_ne (fm433 k9 hi9).2.2 tI10 (tnA (show 10 < 4000 by decide))), (fm433 k9 hi9).2.2⟩
                have fm479 : ∀ k9, k9 < sc → zf k9 = some (so k9) ∧ wd_at w437 (so k9) (.inr (6, [.int (sp0 k9), .int (sp1 k9), .ref (sr k9)])) ∧ tg (so k9) = 5000 + k9 ∧ wd_at w437 (sr k9) (.inl (cy 2, 12, .inl (sd k9))) ∧ tg (sr k9) = 6000 + k9 := fun k9 hi9 => ⟨(fm434 k9 hi9).1, wd_at.pt ew438 (fm434 k9 hi9).2.1 (tg_ne (fm434 k9 hi9).2.2.1 tI10 (tnA (show 10 < 5000 by decide))), (fm434 k9 hi9).2.2.1, wd_at.pt ew438 (fm434 k9 hi9).2.2.2.1 (tg_ne (fm434 k9 hi9).2.2.2.2 tI10 (tnA (show 10 < 6000 by decide))), (fm434 k9 hi9).2.2.2.2⟩
                have fm480 : ∀ k9, k9 < sh → (hf k9 = some (sw k9) ∧ hto k9 < 12) ∧ wd_at w437 (sw k9) (.inr (5, [.int (nI (hto k9)), .int (hpp k9), .int (hle k9), .int (ham k9), .int (hhh k9), .int (hdd k9), .int (hru k9), .int (hde k9), .int (hcp k9), .int (hld k9)])) ∧ tg (sw k9) = 7000 + k9 := fun k9 hi9 => ⟨(fm435 k9 hi9).1, wd_at.pt ew438 (fm435 k9 hi9).2.1 (tg_ne (fm435 k9 hi9).2.2 tI10 (tnA (show 10 < 7000 by decide))), (fm435 k9 hi9).2.2⟩
                have kp481 := kp436.put ew438 (tgS tI10 (by decide))
                refine lv_aload_n hx hb dX10_show_172 rfl (lv_at hl 3 rfl) ?_
                refine lv_dup hx hb dX10_show_173 rfl ?_
                refine x_get (ref := "NoteHouse") F hP k439 rfl (fun _ h => List.mem_cons_of_mem _ (List.mem_append_left _ (List.mem_append_left _ (List.mem_append_left _ (List.mem_append_left _ (List.mem_append_left _ (List.mem_append_left _ (List.mem_append_left _ (List.mem_append_right _ (h)))))))))) 16 (Nat.le_of_ble_eq_true rfl) (List.mem_cons_of_mem _ (List.mem_append_left _ (List.mem_append_left _ (List.mem_append_left _ (List.mem_append_left _ (List.mem_append_left _ (List.mem_append_left _ (List.mem_append_left _ (List.mem_append_left _ (List.mem_append_left _ (List.mem_of_getElem? (i := 0) rfl))))))))))) rfl rfl dX10_show_174 ?_
                refine lv_iconst (v := 1) hx hb dX10_show_177 (by decide) ?_
                refine lv_iadd hx hb dX10_show_178 ?_
                rw [show ((nI sh) + 1 : Int32) = nI (sh + 1) from nI_add sh 1]
                refine y_put (ref := "NoteHouse") F hP hD hS k439 rfl (fun _ h => List.mem_cons_of_mem _ (List.mem_append_left _ (List.mem_append_left _ (List.mem_append_left _ (List.mem_append_left _ (List.mem_append_left _ (List.mem_append_left _ (List.mem_append_left _ (List.mem_append_right _ (h)))))))))) tyX10_ok nmX10 16 (Nat.le_of_ble_eq_true rfl) (List.mem_cons_of_mem _ (List.mem_append_left _ (List.mem_append_left _ (List.mem_append_left _ (List.mem_append_left _ (List.mem_append_left _ (List.mem_append_left _ (List.mem_append_left _ (List.mem_append_left _ (List.mem_append_left _ (List.mem_of_getElem? (i := 0) rfl))))))))))) rfl rfl rfl rfl (Nat.le_of_ble_eq_true rfl) dX10_show_179 (fun w482 ew483 H locs hP hD hS => ?_)
                have k484 : wd_at w482 x (.inr (10, [.ref a0, .ref a1, .ref a2, .ref a3, .ref a4, .ref a5, .ref a6, .ref a7, .ref a8, .ref (aa sg), .ref a10, .ref a11, .int td, .int (nI pc), .int (nI ac), .int (nI sc), .int (nI (sh + 1))])) := wd_at.ps ew483 k439
                have k485 := wd_at.pt ew483 k440 (tg_ne tI1 tI0 (by decide))
                have k486 := wd_at.pt ew483 k441 (tg_ne tI2 tI0 (by decide))
                have k487 := wd_at.pt ew483 k442 (tg_ne tI3 tI0 (by decide))
                have k488 := wd_at.pt ew483 k443 (tg_ne tI4 tI0 (by decide))
                have k489 := wd_at.pt ew483 k444 (tg_ne tI5 tI0 (by decide))
                have k490 := wd_at.pt ew483 k445 (tg_ne tI6 tI0 (by decide))
                have k491 := wd_at.pt ew483 k446 (tg_ne tI7 tI0 (by decide))
                have k492 := wd_at.pt ew483 k447 (tg_ne tI8 tI0 (by decide))
                have k493 := wd_at.pt ew483 k448 (tg_ne tI9 tI0 (by decide))
                have k494 := wd_at.pt ew483 k449 (tg_ne tI10 tI0 (by decide))
                have k495 := wd_at.pt ew483 k450 (tg_ne tI11 tI0 (by decide))
                have k496 := wd_at.pt ew483 k451 (tg_ne tI12 tI0 (by decide))
                have k497 := wd_at.pt ew483 k452 (tg_ne tI13 tI0 (by decide))
                have k498 := wd_at.pt ew483 k453 (tg_ne tI14 tI0 (by decide))
                have k499 := wd_at.pt ew483 k454 (tg_ne tI15 tI0 (by decide))
                have k500 := wd_at.pt ew483 k455 (tg_ne tI16 tI0 (by decide))
                have k501 := wd_at.pt ew483 k456 (tg_ne tI17 tI0 (by decide))
                have k502 := wd_at.pt ew483 k457 (tg_ne tI18 tI0 (by decide))
                have k503 := wd_at.pt ew483 k458 (tg_ne tI19 tI0 (by decide))
                have k504 := wd_at.pt ew483 k459 (tg_ne tI20 tI0 (by decide))
                have k505 := wd_at.pt ew483 k460 (tg_ne tI21 tI0 (by decide))
                have k506 := wd_at.pt ew483 k461 (tg_ne tI22 tI0 (by decide))
                have k507 := wd_at.pt ew483 k462 (tg_ne tI23 tI0 (tnA (show 0 < 30 by decide)))
                have k508 := wd_at.pt ew483 k463 (tg_ne tI24 tI0 (tnA (show 0 < 32 by decide)))
                have k509 := wd_at.pt ew483 k464 (tg_ne tI25 tI0 (tnA (show 0 < 30 by decide)))
                have k510 := wd_at.pt ew483 k465 (tg_ne tI26 tI0 (tnA (show 0 < 32 by decide)))
                have k511 := wd_at.pt ew483 k466 (tg_ne tz15 tI0 (tnA (show 0 < 3000 by decide)))
                have k512 := wd_at.pt ew483 k467 (Ne.symm (wd_nL hq42 kI0))
                have k513 := wd_at.pt ew483 k468 (tg_ne tz168 tI0 (tnA (show 0 < 100 by decide)))
                have k514 := wd_at.pt ew483 k469 (tg_ne tz171 tI0 (tnA (show 0 < 200 by decide)))
                have k515 := wd_at.pt ew483 k470 (tg_ne tz173 tI0 (tnA (show 0 < 220 by decide)))
                have k516 := wd_at.pt ew483 k471 (tg_ne tz175 tI0 (tnA (show 0 < 240 by decide)))
                have k517 := wd_at.pt ew483 k472 (tg_ne tz177 tI0 (tnA (show 0 < 260 by decide)))
                have k518 := wd_at.pt ew483 k473 (tg_ne tz179 tI0 (tnA (show 0 < 280 by decide)))
                have k519 := wd_at.pt ew483 k474 (tg_ne tz181 tI0 (tnA (show 0 < 300 by decide)))
                have fm520 : ∀ i9, i9 < 12 → tf i9 = some (tn i9) ∧ wd_at w482 (tn i9) (.inr (8, [.int (co i9), .int (ra i9), .int (se i9), .ref (ag i9)])) ∧ tg (tn i9) = 100 + i9 := fun i9 hi9 => ⟨(fm475 i9 hi9).1, wd_at.pt ew483 (fm475 i9 hi9).2.1 (tg_ne (fm475 i9 hi9).2.2 tI0 (tnA (show 0 < 100 by decide))), (fm475 i9 hi9).2.2⟩
                have fm521 : ∀ k9, k9 < 13 → (aOK (cf k9) (nf k9) ∧ ru k9 ≤ 12) ∧ wd_at w482 (aa k9) (.inr (1, [.ref (ga0 k9), .ref (ga1 k9), .ref (ga2 k9), .ref (ga3 k9), .ref (ga4 k9), .int (nI (ru k9))])) ∧ tg (aa k9) = 200 + k9 ∧ wd_at w482 (ga0 k9) (.inl (cy 2, 12, .inl (df k9))) ∧ tg (ga0 k9) = 220 + k9 ∧ wd_at w482 (ga1 k9) (.inl (cy 2, 12, .inl (cf k9))) ∧ tg (ga1 k9) = 240 + k9 ∧ wd_at w482 (ga2 k9) (.inl (cy 2, 72, .inl (nf k9))) ∧ tg (ga2 k9) = 260 + k9 ∧ wd_at w482 (ga3 k9) (.inl (cy 1, 72, .inl (sf k9))) ∧ tg (ga3 k9) = 280 + k9 ∧ wd_at w482 (ga4 k9) (.inl (cy 2, 72, .inl (uf k9))) ∧ tg (ga4 k9) = 300 + k9 := fun k9 hi9 => ⟨(fm476 k9 hi9).1, wd_at.pt ew483 (fm476 k9 hi9).2.1 (tg_ne (fm476 k9 hi9).2.2.1 tI0 (tnA (show 0 < 200 by decide))), (fm476 k9 hi9).2.2.1, wd_at.pt ew483 (fm476 k9 hi9).2.2.2.1 (tg_ne (fm476 k9 hi9).2.2.2.2.1 tI0 (tnA (show 0 < 220 by decide))), (fm476 k9 hi9).2.2.2.2.1, wd_at.pt ew483 (fm476 k9 hi9).2.2.2.2.2.1 (tg_ne (fm476 k9 hi9).2.2.2.2.2.2.1 tI0 (tnA (show 0 < 240 by decide))), (fm476 k9 hi9).2.2.2.2.2.2.1, wd_at.pt ew483 (fm476 k9 hi9).2.2.2.2.2.2.2.1 (tg_ne (fm476 k9 hi9).2.2.2.2.2.2.2.2.1 tI0 (tnA (show 0 < 260 by decide))), (fm476 k9 hi9).2.2.2.2.2.2.2.2.1, wd_at.pt ew483 (fm476 k9 hi9).2.2.2.2.2.2.2.2.2.1 (tg_ne (fm476 k9 hi9).2.2.2.2.2.2.2.2.2.2.1 tI0 (tnA (show 0 < 280 by decide))), (fm476 k9 hi9).2.2.2.2.2.2.2.2.2.2.1, wd_at.pt ew483 (fm476 k9 hi9).2.2.2.2.2.2.2.2.2.2.2.1 (tg_ne (fm476 k9 hi9).2.2.2.2.2.2.2.2.2.2.2.2 tI0 (tnA (show 0 < 300 by decide))), (fm476 k9 hi9).2.2.2.2.2.2.2.2.2.2.2.2⟩
                have fm522 : ∀ k9, k9 < pc ∧ k9 ≠ j4 → pf k9 = some (pa k9) ∧ wd_at w482 (pa k9) (.inr (3, [.int (plv k9), .int (pwo k9), .int (phd k9), .int (pgd k9), .int (pdy k9), .int (pno k9), .int (ptp k9)])) ∧ tg (pa k9) = 3000 + k9 := fun k9 hi9 => ⟨(fm477 k9 hi9).1, wd_at.pt ew483 (fm477 k9 hi9).2.1 (tg_ne (fm477 k9 hi9).2.2 tI0 (tnA (show 0 < 3000 by decide))), (fm477 k9 hi9).2.2⟩
                have fm523 : ∀ k9, k9 < ac → af k9 = some (ad k9) ∧ wd_at w482 (ad k9) (.inr (0, [.int (av0 k9), .int (av1 k9), .int (av2 k9), .int (av3 k9)])) ∧ tg (ad k9) = 4000 + k9 := fun k9 hi9 => ⟨(fm478 k9 hi9).1, wd_at.pt ew483 (fm478 k9 hi9).2.1 (tg_ne (fm478 k9 hi9).2.2 tI0 (tnA (show 0 < 4000 by decide))), (fm478 k9 hi9).2.2⟩
                have fm524 : ∀ k9, k9 < sc → zf k9 = some (so k9) ∧ wd_at w482 (so k9) (.inr (6, [.int (sp0 k9), .int (sp1 k9), .ref (sr k9)])) ∧ tg (so k9) = 5000 + k9 ∧ wd_at w482 (sr k9) (.inl (cy 2, 12, .inl (sd k9))) ∧ tg (sr k9) = 6000 + k9 := fun k9 hi9 => ⟨(fm479 k9 hi9).1, wd_at.pt ew483 (fm479 k9 hi9).2.1 (tg_ne (fm479 k9 hi9).2.2.1 tI0 (tnA (show 0 < 5000 by decide))), (fm479 k9 hi9).2.2.1, wd_at.pt ew483 (fm479 k9 hi9).2.2.2.1 (tg_ne (fm479 k9 hi9).2.2.2.2 tI0 (tnA (show 0 < 6000 by decide))), (fm479 k9 hi9).2.2.2.2⟩
                have fm525 : ∀ k9, k9 < sh → (hf k9 = some (sw k9) ∧ hto k9 < 12) ∧ wd_at w482 (sw k9) (.inr (5, [.int (nI (hto k9)), .int (hpp k9), .int (hle k9), .int (ham k9), .int (hhh k9), .int (hdd k9), .int (hru k9), .int (hde k9), .int (hcp k9), .int (hld k9)])) ∧ tg (sw k9) = 7000 + k9 := fun k9 hi9 => ⟨(fm480 k9 hi9).1, wd_at.pt ew483 (fm480 k9 hi9).2.1 (tg_ne (fm480 k9 hi9).2.2 tI0 (tnA (show 0 < 7000 by decide))), (fm480 k9 hi9).2.2⟩
                have kp526 := kp481.put ew483 (tgS tI0 (by decide))
                refine lv_aload hx hb dX10_show_182 (lv_at hl 0 rfl) ?_
                refine x_get (ref := "NoteHouse$Shown") F hP k512 rfl (fun _ h => List.mem_cons_of_mem _ (List.mem_append_left _ (List.mem_append_left _ (List.mem_append_left _ (List.mem_append_left _ (List.mem_append_left _ (List.mem_append_right _ (h)))))))) 7 (Nat.le_of_ble_eq_true rfl) (List.mem_cons_of_mem _ (List.mem_append_left _ (List.mem_append_left _ (List.mem_append_left _ (List.mem_append_left _ (List.mem_append_left _ (List.mem_append_left _ (List.mem_append_left _ (List.mem_append_left _ (List.mem_append_left _ (List.mem_of_getElem? (i := 10) rfl))))))))))) rfl rfl dX10_show_184 ?_
                have fm528 : ∀ k9, k9 < pc → pf k9 = some (pa k9) ∧ wd_at w482 (pa k9) (.inr (3, [.int (plv k9), .int (pwo k9), .int (phd k9), .int (pgd k9), .int (pdy k9), .int ((va_up pno j4 nox387) k9), .int ((va_up ptp j4 tpx388) k9)])) ∧ tg (pa k9) = 3000 + k9 := by
                  intro k9 hi9
                  by_cases e9 : k9 = j4
                  · rw [e9]
                    exact ⟨pr12, (by simp only [va_up_self]; exact k511), tz15⟩
                  · simp only [va_up_ne _ _ e9]
                    exact fm522 k9 (by omega)
                have fm529 : ∀ i9, i9 < 12 → tf i9 = some (tn i9) ∧ wd_at w482 (tn i9) (.inr (8, [.int (co i9), .int (ra i9), .int (se i9), .ref (ag i9)])) ∧ (va_up tg q39 (7000 + sh)) (tn i9) = 100 + i9 := fun i9 hi9 => ⟨(fm520 i9 hi9).1, (fm520 i9 hi9).2.1, ((va_up_ne _ _ (fn73 i9 hi9)).trans (fm520 i9 hi9).2.2)⟩
                have fm530 : ∀ k9, k9 < 13 → (aOK (cf k9) (nf k9) ∧ ru k9 ≤ 12) ∧ wd_at w482 (aa k9) (.inr (1, [.ref (ga0 k9), .ref (ga1 k9), .ref (ga2 k9), .ref (ga3 k9), .ref (ga4 k9), .int (nI (ru k9))])) ∧ (va_up tg q39 (7000 + sh)) (aa k9) = 200 + k9 ∧ wd_at w482 (ga0 k9) (.inl (cy 2, 12, .inl (df k9))) ∧ (va_up tg q39 (7000 + sh)) (ga0 k9) = 220 + k9 ∧ wd_at w482 (ga1 k9) (.inl (cy 2, 12, .inl (cf k9))) ∧ (va_up tg q39 (7000 + sh)) (ga1 k9) = 240 + k9 ∧ wd_at w482 (ga2 k9) (.inl (cy 2, 72, .inl (nf k9))) ∧ (va_up tg q39 (7000 + sh)) (ga2 k9) = 260 + k9 ∧ wd_at w482 (ga3 k9) (.inl (cy 1, 72, .inl (sf k9))) ∧ (va_up tg q39 (7000 + sh)) (ga3 k9) = 280 + k9 ∧ wd_at w482 (ga4 k9) (.inl (cy 2, 72, .inl (uf k9))) ∧ (va_up tg q39 (7000 + sh)) (ga4 k9) = 300 + k9 := fun k9 hi9 => ⟨(fm521 k9 hi9).1, (fm521 k9 hi9).2.1, ((va_up_ne _ _ ((fn75 k9 hi9).1)).trans (fm521 k9 hi9).2.2.1), (fm521 k9 hi9).2.2.2.1, ((va_up_ne _ _ ((fn75 k9 hi9).2.1)).trans (fm521 k9 hi9).2.2.2.2.1), (fm521 k9 hi9).2.2.2.2.2.1, ((va_up_ne _ _ ((fn75 k9 hi9).2.2.1)).trans (fm521 k9 hi9).2.2.2.2.2.2.1), (fm521 k9 hi9).2.2.2.2.2.2.2.1, ((va_up_ne _ _ ((fn75 k9 hi9).2.2.2.1)).trans (fm521 k9 hi9).2.2.2.2.2.2.2.2.1), (fm521 k9 hi9).2.2.2.2.2.2.2.2.2.1, ((va_up_ne _ _ ((fn75 k9 hi9).2.2.2.2.1)).trans (fm521 k9 hi9).2.2.2.2.2.2.2.2.2.2.1), (fm521 k9 hi9).2.2.2.2.2.2.2.2.2.2.2.1, ((va_up_ne _ _ ((fn75 k9 hi9).2.2.2.2.2)).trans (fm521 k9 hi9).2.2.2.2.2.2.2.2.2.2.2.2)⟩
                have fm531 : ∀ k9, k9 < pc → pf k9 = some (pa k9) ∧ wd_at w482 (pa k9) (.inr (3, [.int (plv k9), .int (pwo k9), .int (phd k9), .int (pgd k9), .int (pdy k9), .int ((va_up pno j4 nox387) k9), .int ((va_up ptp j4 tpx388) k9)])) ∧ (va_up tg q39 (7000 + sh)) (pa k9) = 3000 + k9 := fun k9 hi9 => ⟨(fm528 k9 hi9).1, (fm528 k9 hi9).2.1, ((va_up_ne _ _ (fn77 k9 hi9)).trans (fm528 k9 hi9).2.2)⟩
                have fm532 : ∀ k9, k9 < ac → af k9 = some (ad k9) ∧ wd_at w482 (ad k9) (.inr (0, [.int (av0 k9), .int (av1 k9), .int (av2 k9), .int (av3 k9)])) ∧ (va_up tg q39 (7000 + sh)) (ad k9) = 4000 + k9 := fun k9 hi9 => ⟨(fm523 k9 hi9).1, (fm523 k9 hi9).2.1, ((va_up_ne _ _ (fn79 k9 hi9)).trans (fm523 k9 hi9).2.2)⟩
                have fm533 : ∀ k9, k9 < sc → zf k9 = some (so k9) ∧ wd_at w482 (so k9) (.inr (6, [.int (sp0 k9), .int (sp1 k9), .ref (sr k9)])) ∧ (va_up tg q39 (7000 + sh)) (so k9) = 5000 + k9 ∧ wd_at w482 (sr k9) (.inl (cy 2, 12, .inl (sd k9))) ∧ (va_up tg q39 (7000 + sh)) (sr k9) = 6000 + k9 := fun k9 hi9 => ⟨(fm524 k9 hi9).1, (fm524 k9 hi9).2.1, ((va_up_ne _ _ ((fn81 k9 hi9).1)).trans (fm524 k9 hi9).2.2.1), (fm524 k9 hi9).2.2.2.1, ((va_up_ne _ _ ((fn81 k9 hi9).2)).trans (fm524 k9 hi9).2.2.2.2)⟩
                have fm534 : ∀ k9, k9 < sh → (hf k9 = some (sw k9) ∧ hto k9 < 12) ∧ wd_at w482 (sw k9) (.inr (5, [.int (nI (hto k9)), .int (hpp k9), .int (hle k9), .int (ham k9), .int (hhh k9), .int (hdd k9), .int (hru k9), .int (hde k9), .int (hcp k9), .int (hld k9)])) ∧ (va_up tg q39 (7000 + sh)) (sw k9) = 7000 + k9 := fun k9 hi9 => ⟨(fm525 k9 hi9).1, (fm525 k9 hi9).2.1, ((va_up_ne _ _ (fn83 k9 hi9)).trans (fm525 k9 hi9).2.2)⟩
                have k535 : wd_at w482 a5 (.inl (cy 7, 200, .inr (.inr (.inr (.inr (va_up hf sh (some q39))))))) := by have h9 := k494; rw [nI_clamp (n := sh) (by omega)] at h9; exact h9
                have fm536 : ∀ k9, k9 < (sh + 1) → ((va_up hf sh (some q39)) k9 = some ((va_up sw sh q39) k9) ∧ (va_up hto sh t) k9 < 12) ∧ wd_at w482 ((va_up sw sh q39) k9) (.inr (5, [.int (nI ((va_up hto sh t) k9)), .int ((va_up hpp sh x2) k9), .int ((va_up hle sh x3) k9), .int ((va_up ham sh x4) k9), .int ((va_up hhh sh x5) k9), .int ((va_up hdd sh td) k9), .int ((va_up hru sh rx185) k9), .int ((va_up hde sh rx235) k9), .int ((va_up hcp sh cpx385) k9), .int ((va_up hld sh ldx386) k9)])) ∧ (va_up tg q39 (7000 + sh)) ((va_up sw sh q39) k9) = 7000 + k9 := by
                  intro k9 hi9
                  by_cases e9 : k9 = sh
                  · rw [e9]
                    exact ⟨⟨by rw [va_up_self, va_up_self], by rw [va_up_self]; omega⟩, (by simp only [va_up_self]; exact k512), (by rw [va_up_self]; exact (va_up_self _ _ _))⟩
                  · simp only [va_up_ne _ _ e9]
                    exact fm534 k9 (by omega)
                have hX537 : IX cy (va_up tg q39 (7000 + sh)) x td pc ac sc ln se plv w482 := IX.mk a0 a1 a2 a3 a4 a5 a6 a7 a8 a10 a11 b0 b1 b2 b3 tb l0 l1 l2 l3 l4 l5 l6 l7 bl bm (sh + 1) gc sg lu lv9 f0 f1 dx389 px390 tbf e0 e1 e4 e5 e7 ffx128 bf bf2 e2 e3 e6 ta sz fo to fo2 to2 tf tn ag co ra aa ru ga0 ga1 ga2 ga3 ga4 df cf nf sf uf pf pa pwo phd pgd pdy (va_up pno j4 nox387) (va_up ptp j4 tpx388) af ad av0 av1 av2 av3 zf so sr sp0 sp1 sd (va_up hf sh (some q39)) (va_up sw sh q39) (va_up hto sh t) (va_up hpp sh x2) (va_up hle sh x3) (va_up ham sh x4) (va_up hhh sh x5) (va_up hdd sh td) (va_up hru sh rx185) (va_up hde sh rx235) (va_up hcp sh cpx385) (va_up hld sh ldx386) (by omega) (by omega) (by omega) (by omega) (by omega) (by omega) (by omega) (by omega) hag k484 ((va_up_ne _ _ (wd_nL hq42 kI0)).trans tI0) k485 ((va_up_ne _ _ (wd_nL hq42 kI1)).trans tI1) k486 ((va_up_ne _ _ (wd_nL hq42 kI2)).trans tI2) k487 ((va_up_ne _ _ (wd_nL hq42 kI3)).trans tI3) k488 ((va_up_ne _ _ (wd_nL hq42 kI4)).trans tI4) k489 ((va_up_ne _ _ (wd_nL hq42 kI5)).trans tI5) k490 ((va_up_ne _ _ (wd_nL hq42 kI6)).trans tI6) k491 ((va_up_ne _ _ (wd_nL hq42 kI7)).trans tI7) k492 ((va_up_ne _ _ (wd_nL hq42 kI8)).trans tI8) k493 ((va_up_ne _ _ (wd_nL hq42 kI9)).trans tI9) k535 ((va_up_ne _ _ (wd_nL hq42 kI10)).trans tI10) k495 ((va_up_ne _ _ (wd_nL hq42 kI11)).trans tI11) k496 ((va_up_ne _ _ (wd_nL hq42 kI12)).trans tI12) k497 ((va_up_ne _ _ (wd_nL hq42 kI13)).trans tI13) k498 ((va_up_ne _ _ (wd_nL hq42 kI14)).trans tI14) k499 ((va_up_ne _ _ (wd_nL hq42 kI15)).trans tI15) k500 ((va_up_ne _ _ (wd_nL hq42 kI16)).trans tI16) k501 ((va_up_ne _ _ (wd_nL hq42 kI17)).trans tI17) k502 ((va_up_ne _ _ (wd_nL hq42 kI18)).trans tI18) k503 ((va_up_ne _ _ (wd_nL hq42 kI19)).trans tI19) k504 ((va_up_ne _ _ (wd_nL hq42 kI20)).trans tI20) k505 ((va_up_ne _ _ (wd_nL hq42 kI21)).trans tI21) k506 ((va_up_ne _ _ (wd_nL hq42 kI22)).trans tI22) k507 ((va_up_ne _ _ (wd_nL hq42 kI23)).trans tI23) k508 ((va_up_ne _ _ (wd_nL hq42 kI24)).trans tI24) k509 ((va_up_ne _ _ (wd_nL hq42 kI25)).trans tI25) k510 ((va_up_ne _ _ (wd_nL hq42 kI26)).trans tI26) fm529 fm530 fm531 fm532 fm533 fm536
                exact y_ir K hP hD hS (Nat.le_of_ble_eq_true rfl) (Nat.le_of_ble_eq_true rfl) (ty := .int) rfl rfl dX10_show_187 (⟨⟨_, rfl⟩, ⟨(va_up tg q39 (7000 + sh)), (fun a9 ha9 => (va_up_ne _ _ (fun q9 : a9 = q39 => (kp0.out hq42) (q9 ▸ ha9)))), kp526, hX537⟩⟩)
            · refine lv_aload hx hb dX10_show_60 (lv_at hl 0 rfl) ?_
              refine x_get (ref := "NoteHouse$Paper") F hP k14 rfl (fun _ h => List.mem_cons_of_mem _ (List.mem_append_left _ (List.mem_append_left _ (List.mem_append_left _ (List.mem_append_left _ (List.mem_append_left _ (List.mem_append_left _ (List.mem_append_right _ (h))))))))) 1 (Nat.le_of_ble_eq_true rfl) (List.mem_cons_of_mem _ (List.mem_append_left _ (List.mem_append_left _ (List.mem_append_left _ (List.mem_append_left _ (List.mem_append_left _ (List.mem_append_left _ (List.mem_append_left _ (List.mem_append_left _ (List.mem_append_left _ (List.mem_of_getElem? (i := 1) rfl))))))))))) rfl rfl dX10_show_62 ?_
              refine lv_goto (tgt := 70) hx hb dX10_show_65 (by decide) ?_
              refine lv_istore (lv' := [(8, .int (pwo j4)), (7, .ref (pa j4)), (0, .ref x), (1, .int (nI t)), (2, .int x2), (3, .int x3), (4, .int x4), (5, .int x5), (6, .int x6)]) hx hb dX10_show_70 hl (by decide) rfl (fun ls hl => ?_)
              refine y_new (fs := [.int 0, .int 0, .int 0, .int 0, .int 0, .int 0, .int 0, .int 0, .int 0, .int 0]) F hP hD hS (ci := 5) rfl (fun _ h => List.mem_cons_of_mem _ (List.mem_append_left _ (List.mem_append_left _ (List.mem_append_left _ (List.mem_append_left _ (List.mem_append_left _ (List.mem_append_right _ (h)))))))) tyX5_ok (List.mem_cons_of_mem _ (List.mem_append_left _ (List.mem_append_left _ (List.mem_append_left _ (List.mem_append_left _ (List.mem_append_left _ (List.mem_append_left _ (List.mem_append_left _ (List.mem_append_left _ (List.mem_append_left _ (List.mem_of_getElem? (i := 2) rfl))))))))))) (List.mem_cons_of_mem _ (List.mem_append_left _ (List.mem_append_left _ (List.mem_append_left _ (List.mem_append_left _ (List.mem_append_left _ (List.mem_append_left _ (List.mem_append_left _ (List.mem_append_left _ (List.mem_append_left _ (List.mem_of_getElem? (i := 3) rfl))))))))))) (List.mem_cons_of_mem _ (List.mem_append_left _ (List.mem_append_left _ (List.mem_append_left _ (List.mem_append_left _ (List.mem_append_left _ (List.mem_append_left _ (List.mem_append_left _ (List.mem_append_left _ (List.mem_append_left _ (List.mem_of_getElem? (i := 4) rfl))))))))))) df_5 (Nat.le_of_ble_eq_true rfl) (Nat.le_of_ble_eq_true rfl) dX10_show_72 (fun q538 w539 ew540 hq541 H hP hD hS => ?_)
              refine W.widen (k := 1) (n := 10) (Nat.le_of_ble_eq_true rfl) (Nat.le_of_ble_eq_true rfl) ?_
              have k542 := wd_at.ad ew540 hq541 kI0
              have k543 := wd_at.ad ew540 hq541 kI1
              have k544 := wd_at.ad ew540 hq541 kI2
              have k545 := wd_at.ad ew540 hq541 kI3
              have k546 := wd_at.ad ew540 hq541 kI4
              have k547 := wd_at.ad ew540 hq541 kI5
              have k548 := wd_at.ad ew540 hq541 kI6
              have k549 := wd_at.ad ew540 hq541 kI7
              have k550 := wd_at.ad ew540 hq541 kI8
              have k551 := wd_at.ad ew540 hq541 kI9
              have k552 := wd_at.ad ew540 hq541 kI10
              have k553 := wd_at.ad ew540 hq541 kI11
              have k554 := wd_at.ad ew540 hq541 kI12
              have k555 := wd_at.ad ew540 hq541 kI13
              have k556 := wd_at.ad ew540 hq541 kI14
              have k557 := wd_at.ad ew540 hq541 kI15
              have k558 := wd_at.ad ew540 hq541 kI16
              have k559 := wd_at.ad ew540 hq541 kI17
              have k560 := wd_at.ad ew540 hq541 kI18
              have k561 := wd_at.ad ew540 hq541 kI19
              have k562 := wd_at.ad ew540 hq541 kI20
              have k563 := wd_at.ad ew540 hq541 kI21
              have k564 := wd_at.ad ew540 hq541 kI22
              have k565 := wd_at.ad ew540 hq541 kI23
              have k566 := wd_at.ad ew540 hq541 kI24
              have k567 := wd_at.ad ew540 hq541 kI25
              have k568 := wd_at.ad ew540 hq541 kI26
              have k569 := wd_at.ad ew540 hq541 k14
              have k570 : wd_at w539 q538 (.inr (5, [.int 0, .int 0, .int 0, .int 0, .int 0, .int 0, .int 0, .int 0, .int 0, .int 0])) := wd_at.nw ew540
              have fm571 : ∀ i9, i9 < 12 → tf i9 = some (tn i9) ∧ wd_at w539 (tn i9) (.inr (8, [.int (co i9), .int (ra i9), .int (se i9), .ref (ag i9)])) ∧ tg (tn i9) = 100 + i9 := fun i9 hi9 => ⟨(hT9 i9 hi9).1, wd_at.ad ew540 hq541 (hT9 i9 hi9).2.1, (hT9 i9 hi9).2.2⟩
              have fn572 : ∀ i9, i9 < 12 → (tn i9) ≠ q538 := fun i9 hi9 => wd_nL hq541 (hT9 i9 hi9).2.1
              have fm573 : ∀ k9, k9 < 13 → (aOK (cf k9) (nf k9) ∧ ru k9 ≤ 12) ∧ wd_at w539 (aa k9) (.inr (1, [.ref (ga0 k9), .ref (ga1 k9), .ref (ga2 k9), .ref (ga3 k9), .ref (ga4 k9), .int (nI (ru k9))])) ∧ tg (aa k9) = 200 + k9 ∧ wd_at w539 (ga0 k9) (.inl (cy 2, 12, .inl (df k9))) ∧ tg (ga0 k9) = 220 + k9 ∧ wd_at w539 (ga1 k9) (.inl (cy 2, 12, .inl (cf k9))) ∧ tg (ga1 k9) = 240 + k9 ∧ wd_at w539 (ga2 k9) (.inl (cy 2, 72, .inl (nf k9))) ∧ tg (ga2 k9) = 260 + k9 ∧ wd_at w539 (ga3 k9) (.inl (cy 1, 72, .inl (sf k9))) ∧ tg (ga3 k9) = 280 + k9 ∧ wd_at w539 (ga4 k9) (.inl (cy 2, 72, .inl (uf k9))) ∧ tg (ga4 k9) = 300 + k9 := fun k9 hi9 => ⟨(hG9 k9 hi9).1, wd_at.ad ew540 hq541 (hG9 k9 hi9).2.1, (hG9 k9 hi9).2.2.1, wd_at.ad ew540 hq541 (hG9 k9 hi9).2.2.2.1, (hG9 k9 hi9).2.2.2.2.1, wd_at.ad ew540 hq541 (hG9 k9 hi9).2.2.2.2.2.1, (hG9 k9 hi9).2.2.2.2.2.2.1, wd_at.ad ew540 hq541 (hG9 k9 hi9).2.2.2.2.2.2.2.1, (hG9 k9 hi9).2.2.2.2.2.2.2.2.1, wd_at.ad ew540 hq541 (hG9 k9 hi9).2.2.2.2.2.2.2.2.2.1, (hG9 k9 hi9).2.2.2.2.2.2.2.2.2.2.1, wd_at.ad ew540 hq541 (hG9 k9 hi9).2.2.2.2.2.2.2.2.2.2.2.1, (hG9 k9 hi9).2.2.2.2.2.2.2.2.2.2.2.2⟩
              have fn574 : ∀ k9, k9 < 13 → (aa k9) ≠ q538 ∧ (ga0 k9) ≠ q538 ∧ (ga1 k9) ≠ q538 ∧ (ga2 k9) ≠ q538 ∧ (ga3 k9) ≠ q538 ∧ (ga4 k9) ≠ q538 := fun k9 hi9 => ⟨wd_nL hq541 (hG9 k9 hi9).2.1, wd_nL hq541 (hG9 k9 hi9).2.2.2.1, wd_nL hq541 (hG9 k9 hi9).2.2.2.2.2.1, wd_nL hq541 (hG9 k9 hi9).2.2.2.2.2.2.2.1, wd_nL hq541 (hG9 k9 hi9).2.2.2.2.2.2.2.2.2.1, wd_nL hq541 (hG9 k9 hi9).2.2.2.2.2.2.2.2.2.2.2.1⟩
              have fm575 : ∀ k9, k9 < pc → pf k9 = some (pa k9) ∧ wd_at w539 (pa k9) (.inr (3, [.int (plv k9), .int (pwo k9), .int (phd k9), .int (pgd k9), .int (pdy k9), .int (pno k9), .int (ptp k9)])) ∧ tg (pa k9) = 3000 + k9 := fun k9 hi9 => ⟨(hP9 k9 hi9).1, wd_at.ad ew540 hq541 (hP9 k9 hi9).2.1, (hP9 k9 hi9).2.2⟩
              have fn576 : ∀ k9, k9 < pc → (pa k9) ≠ q538 := fun k9 hi9 => wd_nL hq541 (hP9 k9 hi9).2.1
              have fm577 : ∀ k9, k9 < ac → af k9 = some (ad k9) ∧ wd_at w539 (ad k9) (.inr (0, [.int (av0 k9), .int (av1 k9), .int (av2 k9), .int (av3 k9)])) ∧ tg (ad k9) = 4000 + k9 := fun k9 hi9 => ⟨(hA9 k9 hi9).1, wd_at.ad ew540 hq541 (hA9 k9 hi9).2.1, (hA9 k9 hi9).2.2⟩
              have fn578 : ∀ k9, k9 < ac → (ad k9) ≠ q538 := fun k9 hi9 => wd_nL hq541 (hA9 k9 hi9).2.1
              have fm579 : ∀ k9, k9 < sc → zf k9 = some (so k9) ∧ wd_at w539 (so k9) (.inr (6, [.int (sp0 k9), .int (sp1 k9), .ref (sr k9)])) ∧ tg (so k9) = 5000 + k9 ∧ wd_at w539 (sr k9) (.inl (cy 2, 12, .inl (sd k9))) ∧ tg (sr k9) = 6000 + k9 := fun k9 hi9 => ⟨(hS9 k9 hi9).1, wd_at.ad ew540 hq541 (hS9 k9 hi9).2.1, (hS9 k9 hi9).2.2.1, wd_at.ad ew540 hq541 (hS9 k9 hi9).2.2.2.1, (hS9 k9 hi9).2.2.2.2⟩
              have fn580 : ∀ k9, k9 < sc → (so k9) ≠ q538 ∧ (sr k9) ≠ q538 := fun k9 hi9 => ⟨wd_nL hq541 (hS9 k9 hi9).2.1, wd_nL hq541 (hS9 k9 hi9).2.2.2.1⟩
              have fm581 : ∀ k9, k9 < sh → (hf k9 = some (sw k9) ∧ hto k9 < 12) ∧ wd_at w539 (sw k9) (.inr (5, [.int (nI (hto k9)), .int (hpp k9), .int (hle k9), .int (ham k9), .int (hhh k9), .int (hdd k9), .int (hru k9), .int (hde k9), .int (hcp k9), .int (hld k9)])) ∧ tg (sw k9) = 7000 + k9 := fun k9 hi9 => ⟨(hH9 k9 hi9).1, wd_at.ad ew540 hq541 (hH9 k9 hi9).2.1, (hH9 k9 hi9).2.2⟩
              have fn582 : ∀ k9, k9 < sh → (sw k9) ≠ q538 := fun k9 hi9 => wd_nL hq541 (hH9 k9 hi9).2.1
              have kp583 := kp0.add ew540 hq541
              refine lv_dup hx hb dX10_show_75 rfl ?_
              refine lv_iload_n hx hb dX10_show_76 rfl (lv_at hl 3 rfl) ?_
              refine lv_iload_n hx hb dX10_show_77 rfl (lv_at hl 4 rfl) ?_
              refine lv_iload_n hx hb dX10_show_78 rfl (lv_at hl 5 rfl) ?_
              refine lv_iload hx hb dX10_show_79 (lv_at hl 0 rfl) ?_
              refine lv_iload hx hb dX10_show_81 (lv_at hl 7 rfl) ?_
              refine lv_aload_n hx hb dX10_show_83 rfl (lv_at hl 2 rfl) ?_
              refine x_get (ref := "NoteHouse") F hP k542 rfl (fun _ h => List.mem_cons_of_mem _ (List.mem_append_left _ (List.mem_append_left _ (List.mem_append_left _ (List.mem_append_left _ (List.mem_append_left _ (List.mem_append_left _ (List.mem_append_left _ (List.mem_append_right _ (h)))))))))) 12 (Nat.le_of_ble_eq_true rfl) (List.mem_cons_of_mem _ (List.mem_append_left _ (List.mem_append_left _ (List.mem_append_left _ (List.mem_append_left _ (List.mem_append_left _ (List.mem_append_left _ (List.mem_append_left _ (List.mem_append_left _ (List.mem_append_left _ (List.mem_of_getElem? (i := 5) rfl))))))))))) rfl rfl dX10_show_84 ?_
              refine x_callI (ret := none) (n := 6) (As := [.int (nI t), .int x2, .int x3, .int (pwo j4), .int x5, .int td]) (rest := [.ref q538]) F hP hD hS (g_shown_init l D cy sk sv w539 q538 (nI t) x2 x3 (pwo j4) x5 td k570 (fun b => b = q538) rfl) gX10_show_X5_init rfl (List.mem_cons_of_mem _ (List.mem_append_left _ (List.mem_append_left _ (List.mem_append_left _ (List.mem_append_left _ (List.mem_append_left _ (List.mem_append_left _ (List.mem_append_left _ (List.mem_append_left _ (List.mem_append_left _ (List.mem_of_getElem? (i := 4) rfl))))))))))) (List.mem_cons_of_mem _ (List.mem_append_left _ (List.mem_append_left _ (List.mem_append_left _ (List.mem_append_left _ (List.mem_append_left _ (List.mem_append_left _ (List.mem_append_left _ (List.mem_append_left _ (List.mem_append_right _ (List.mem_append_left _ (List.mem_of_getElem? (i := 21) rfl)))))))))))) (List.mem_cons_of_mem _ (List.mem_append_left _ (List.mem_append_left _ (List.mem_append_left _ (List.mem_append_left _ (List.mem_append_left _ (List.mem_append_left _ (List.mem_append_left _ (List.mem_append_left _ (List.mem_append_right _ (List.mem_append_left _ (List.mem_of_getElem? (i := 22) rfl)))))))))))) rfl (by decide +kernel) ⟨(Nat.le_of_ble_eq_true rfl), (Nat.le_of_ble_eq_true rfl)⟩ rfl hl.1 (Nat.le_of_ble_eq_true rfl) dX10_show_87 rfl ⟨(Nat.le_of_ble_eq_true rfl), (Nat.le_of_ble_eq_true rfl)⟩ (fun v585 w586 hp584 H locs hP hD hS => ?_)
              obtain ⟨rfl, kq588, k587⟩ := hp584
              have k589 := kq588.2 _ _ k542 (wd_nL hq541 kI0)
              have k590 := kq588.2 _ _ k543 (wd_nL hq541 kI1)
              have k591 := kq588.2 _ _ k544 (wd_nL hq541 kI2)
              have k592 := kq588.2 _ _ k545 (wd_nL hq541 kI3)
              have k593 := kq588.2 _ _ k546 (wd_nL hq541 kI4)
              have k594 := kq588.2 _ _ k547 (wd_nL hq541 kI5)
              have k595 := kq588.2 _ _ k548 (wd_nL hq541 kI6)
              have k596 := kq588.2 _ _ k549 (wd_nL hq541 kI7)
              have k597 := kq588.2 _ _ k550 (wd_nL hq541 kI8)
              have k598 := kq588.2 _ _ k551 (wd_nL hq541 kI9)
              have k599 := kq588.2 _ _ k552 (wd_nL hq541 kI10)
              have k600 := kq588.2 _ _ k553 (wd_nL hq541 kI11)
              have k601 := kq588.2 _ _ k554 (wd_nL hq541 kI12)
              have k602 := kq588.2 _ _ k555 (wd_nL hq541 kI13)
              have k603 := kq588.2 _ _ k556 (wd_nL hq541 kI14)
              have k604 := kq588.2 _ _ k557 (wd_nL hq541 kI15)
              have k605 := kq588.2 _ _ k558 (wd_nL hq541 kI16)
              have k606 := kq588.2 _ _ k559 (wd_nL hq541 kI17)
              have k607 := kq588.2 _ _ k560 (wd_nL hq541 kI18)
              have k608 := kq588.2 _ _ k561 (wd_nL hq541 kI19)
              have k609 := kq588.2 _ _ k562 (wd_nL hq541 kI20)
              have k610 := kq588.2 _ _ k563 (wd_nL hq541 kI21)
              have k611 := kq588.2 _ _ k564 (wd_nL hq541 kI22)
              have k612 := kq588.2 _ _ k565 (wd_nL hq541 kI23)
              have k613 := kq588.2 _ _ k566 (wd_nL hq541 kI24)
              have k614 := kq588.2 _ _ k567 (wd_nL hq541 kI25)
              have k615 := kq588.2 _ _ k568 (wd_nL hq541 kI26)
              have k616 := kq588.2 _ _ k569 (wd_nL hq541 k14)
              have fm617 : ∀ i9, i9 < 12 → tf i9 = some (tn i9) ∧ wd_at w586 (tn i9) (.inr (8, [.int (co i9), .int (ra i9), .int (se i9), .ref (ag i9)])) ∧ tg (tn i9) = 100 + i9 := fun i9 hi9 => ⟨(fm571 i9 hi9).1, kq588.2 _ _ (fm571 i9 hi9).2.1 (fn572 i9 hi9), (fm571 i9 hi9).2.2⟩
              have fm618 : ∀ k9, k9 < 13 → (aOK (cf k9) (nf k9) ∧ ru k9 ≤ 12) ∧ wd_at w586 (aa k9) (.inr (1, [.ref (ga0 k9), .ref (ga1 k9), .ref (ga2 k9), .ref (ga3 k9), .ref (ga4 k9), .int (nI (ru k9))])) ∧ tg (aa k9) = 200 + k9 ∧ wd_at w586 (ga0 k9) (.inl (cy 2, 12, .inl (df k9))) ∧ tg (ga0 k9) = 220 + k9 ∧ wd_at w586 (ga1 k9) (.inl (cy 2, 12, .inl (cf k9))) ∧ tg (ga1 k9) = 240 + k9 ∧ wd_at w586 (ga2 k9) (.inl (cy 2, 72, .inl (nf k9))) ∧ tg (ga2 k9) = 260 + k9 ∧ wd_at w586 (ga3 k9) (.inl (cy 1, 72, .inl (sf k9))) ∧ tg (ga3 k9) = 280 + k9 ∧ wd_at w586 (ga4 k9) (.inl (cy 2, 72, .inl (uf k9))) ∧ tg (ga4 k9) = 300 + k9 := fun k9 hi9 => ⟨(fm573 k9 hi9).1, kq588.2 _ _ (fm573 k9 hi9).2.1 ((fn574 k9 hi9).1), (fm573 k9 hi9).2.2.1, kq588.2 _ _ (fm573 k9 hi9).2.2.2.1 ((fn574 k9 hi9).2.1), (fm573 k9 hi9).2.2.2.2.1, kq588.2 _ _ (fm573 k9 hi9).2.2.2.2.2.1 ((fn574 k9 hi9).2.2.1), (fm573 k9 hi9).2.2.2.2.2.2.1, kq588.2 _ _ (fm573 k9 hi9).2.2.2.2.2.2.2.1 ((fn574 k9 hi9).2.2.2.1), (fm573 k9 hi9).2.2.2.2.2.2.2.2.1, kq588.2 _ _ (fm573 k9 hi9).2.2.2.2.2.2.2.2.2.1 ((fn574 k9 hi9).2.2.2.2.1), (fm573 k9 hi9).2.2.2.2.2.2.2.2.2.2.1, kq588.2 _ _ (fm573 k9 hi9).2.2.2.2.2.2.2.2.2.2.2.1 ((fn574 k9 hi9).2.2.2.2.2), (fm573 k9 hi9).2.2.2.2.2.2.2.2.2.2.2.2⟩
              have fm619 : ∀ k9, k9 < pc → pf k9 = some (pa k9) ∧ wd_at w586 (pa k9) (.inr (3, [.int (plv k9), .int (pwo k9), .int (phd k9), .int (pgd k9), .int (pdy k9), .int (pno k9), .int (ptp k9)])) ∧ tg (pa k9) = 3000 + k9 := fun k9 hi9 => ⟨(fm575 k9 hi9).1, kq588.2 _ _ (fm575 k9 hi9).2.1 (fn576 k9 hi9), (fm575 k9 hi9).2.2⟩
              have fm620 : ∀ k9, k9 < ac → af k9 = some (ad k9) ∧ wd_at w586 (ad k9) (.inr (0, [.int (av0 k9), .int (av1 k9), .int (av2 k9), .int (av3 k9)])) ∧ tg (ad k9) = 4000 + k9 := fun k9 hi9 => ⟨(fm577 k9 hi9).1, kq588.2 _ _ (fm577 k9 hi9).2.1 (fn578 k9 hi9), (fm577 k9 hi9).2.2⟩
              have fm621 : ∀ k9, k9 < sc → zf k9 = some (so k9) ∧ wd_at w586 (so k9) (.inr (6, [.int (sp0 k9), .int (sp1 k9), .ref (sr k9)])) ∧ tg (so k9) = 5000 + k9 ∧ wd_at w586 (sr k9) (.inl (cy 2, 12, .inl (sd k9))) ∧ tg (sr k9) = 6000 + k9 := fun k9 hi9 => ⟨(fm579 k9 hi9).1, kq588.2 _ _ (fm579 k9 hi9).2.1 ((fn580 k9 hi9).1), (fm579 k9 hi9).2.2.1, kq588.2 _ _ (fm579 k9 hi9).2.2.2.1 ((fn580 k9 hi9).2), (fm579 k9 hi9).2.2.2.2⟩
              have fm622 : ∀ k9, k9 < sh → (hf k9 = some (sw k9) ∧ hto k9 < 12) ∧ wd_at w586 (sw k9) (.inr (5, [.int (nI (hto k9)), .int (hpp k9), .int (hle k9), .int (ham k9), .int (hhh k9), .int (hdd k9), .int (hru k9), .int (hde k9), .int (hcp k9), .int (hld k9)])) ∧ tg (sw k9) = 7000 + k9 := fun k9 hi9 => ⟨(fm581 k9 hi9).1, kq588.2 _ _ (fm581 k9 hi9).2.1 (fn582 k9 hi9), (fm581 k9 hi9).2.2⟩
              have kp623 := kp583.tr kq588 (fun b9 hm q9 => (fun q9 => absurd (q9 ▸ hm) (kp0.out hq541)) q9)
              refine W.eq (g2 := F0 m 90 ls [.ref q538]) rfl (W.widen (k := 1) (n := 10) (Nat.le_of_ble_eq_true rfl) (Nat.le_of_ble_eq_true rfl) ?_)
              refine lv_astore (lv' := [(9, .ref q538), (8, .int (pwo j4)), (7, .ref (pa j4)), (0, .ref x), (1, .int (nI t)), (2, .int x2), (3, .int x3), (4, .int x4), (5, .int x5), (6, .int x6)]) hx hb dX10_show_90 hl (by decide) rfl (fun ls hl => ?_)
              refine lv_aload_n hx hb dX10_show_92 rfl (lv_at hl 3 rfl) ?_
              refine lv_aload hx hb dX10_show_93 (lv_at hl 0 rfl) ?_
              refine lv_aload hx hb dX10_show_95 (lv_at hl 2 rfl) ?_
              refine x_callV (n := 2) (As := [.ref q538, .ref (pa j4)]) (rest := []) F hP hD hS (g_gatherFacts l D cy sk sv w586 x a0 a1 a2 a3 a4 a5 a6 a7 a8 (aa sg) a10 a11 pc ac sc sh td tg af ad av0 av1 av2 av3 zf so sr sp0 sp1 sd q538 t x2 x3 (pwo j4) x5 td (-1) 1 0 (-1) (pa j4) (plv j4) (pwo j4) (phd j4) (pgd j4) (pdy j4) (pno j4) (ptp j4) ff k589 k597 k598 k611 k587 k616 fm620 fm621 (fun b => b = a8) rfl (by omega) (by omega) (by omega)) gX10_show_X10_gatherFacts rfl rfl (by decide +kernel) ⟨(Nat.le_of_ble_eq_true rfl), (Nat.le_of_ble_eq_true rfl)⟩ rfl hl.1 (Nat.le_of_ble_eq_true rfl) k589 rfl dX10_show_97 rfl ⟨(Nat.le_of_ble_eq_true rfl), (Nat.le_of_ble_eq_true rfl)⟩ (fun v625 w626 hp624 H locs hP hD hS => ?_)
              obtain ⟨ffx627, rfl, kq629, k628⟩ := hp624
              have k630 := kq629.2 _ _ k589 (tg_ne tI0 tI22 (by decide))
              have k631 := kq629.2 _ _ k590 (tg_ne tI1 tI22 (by decide))
              have k632 := kq629.2 _ _ k591 (tg_ne tI2 tI22 (by decide))
              have k633 := kq629.2 _ _ k592 (tg_ne tI3 tI22 (by decide))
              have k634 := kq629.2 _ _ k593 (tg_ne tI4 tI22 (by decide))
              have k635 := kq629.2 _ _ k594 (tg_ne tI5 tI22 (by decide))
              have k636 := kq629.2 _ _ k595 (tg_ne tI6 tI22 (by decide))
              have k637 := kq629.2 _ _ k596 (tg_ne tI7 tI22 (by decide))
              have k638 := kq629.2 _ _ k597 (tg_ne tI8 tI22 (by decide))
              have k639 := kq629.2 _ _ k598 (tg_ne tI9 tI22 (by decide))
              have k640 := kq629.2 _ _ k599 (tg_ne tI10 tI22 (by decide))
              have k641 := kq629.2 _ _ k600 (tg_ne tI11 tI22 (by decide))
              have k642 := kq629.2 _ _ k601 (tg_ne tI12 tI22 (by decide))
              have k643 := kq629.2 _ _ k602 (tg_ne tI13 tI22 (by decide))
              have k644 := kq629.2 _ _ k603 (tg_ne tI14 tI22 (by decide))
              have k645 := kq629.2 _ _ k604 (tg_ne tI15 tI22 (by decide))
              have k646 := kq629.2 _ _ k605 (tg_ne tI16 tI22 (by decide))
              have k647 := kq629.2 _ _ k606 (tg_ne tI17 tI22 (by decide))
              have k648 := kq629.2 _ _ k607 (tg_ne tI18 tI22 (by decide))
              have k649 := kq629.2 _ _ k608 (tg_ne tI19 tI22 (by decide))
              have k650 := kq629.2 _ _ k609 (tg_ne tI20 tI22 (by decide))
              have k651 := kq629.2 _ _ k610 (tg_ne tI21 tI22 (by decide))
              have k652 := kq629.2 _ _ k612 (tg_ne tI23 tI22 (tnA (show 22 < 30 by decide)))
              have k653 := kq629.2 _ _ k613 (tg_ne tI24 tI22 (tnA (show 22 < 32 by decide)))
              have k654 := kq629.2 _ _ k614 (tg_ne tI25 tI22 (tnA (show 22 < 30 by decide)))
              have k655 := kq629.2 _ _ k615 (tg_ne tI26 tI22 (tnA (show 22 < 32 by decide)))
              have k656 := kq629.2 _ _ k616 (tg_ne tz15 tI22 (tnA (show 22 < 3000 by decide)))
              have k657 := kq629.2 _ _ k587 (Ne.symm (wd_nL hq541 kI22))
              have fm658 : ∀ i9, i9 < 12 → tf i9 = some (tn i9) ∧ wd_at w626 (tn i9) (.inr (8, [.int (co i9), .int (ra i9), .int (se i9), .ref (ag i9)])) ∧ tg (tn i9) = 100 + i9 := fun i9 hi9 => ⟨(fm617 i9 hi9).1, kq629.2 _ _ (fm617 i9 hi9).2.1 (tg_ne (fm617 i9 hi9).2.2 tI22 (tnA (show 22 < 100 by decide))), (fm617 i9 hi9).2.2⟩
              have fm659 : ∀ k9, k9 < 13 → (aOK (cf k9) (nf k9) ∧ ru k9 ≤ 12) ∧ wd_at w626 (aa k9) (.inr (1, [.ref (ga0 k9), .ref (ga1 k9), .ref (ga2 k9), .ref (ga3 k9), .ref (ga4 k9), .int (nI (ru k9))])) ∧ tg (aa k9) = 200 + k9 ∧ wd_at w626 (ga0 k9) (.inl (cy 2, 12, .inl (df k9))) ∧ tg (ga0 k9) = 220 + k9 ∧ wd_at w626 (ga1 k9) (.inl (cy 2, 12, .inl (cf k9))) ∧ tg (ga1 k9) = 240 + k9 ∧ wd_at w626 (ga2 k9) (.inl (cy 2, 72, .inl (nf k9))) ∧ tg (ga2 k9) = 260 + k9 ∧ wd_at w626 (ga3 k9) (.inl (cy 1, 72, .inl (sf k9))) ∧ tg (ga3 k9) = 280 + k9 ∧ wd_at w626 (ga4 k9) (.inl (cy 2, 72, .inl (uf k9))) ∧ tg (ga4 k9) = 300 + k9 := fun k9 hi9 => ⟨(fm618 k9 hi9).1, kq629.2 _ _ (fm618 k9 hi9).2.1 (tg_ne (fm618 k9 hi9).2.2.1 tI22 (tnA (show 22 < 200 by decide))), (fm618 k9 hi9).2.2.1, kq629.2 _ _ (fm618 k9 hi9).2.2.2.1 (tg_ne (fm618 k9 hi9).2.2.2.2.1 tI22 (tnA (show 22 < 220 by decide))), (fm618 k9 hi9).2.2.2.2.1, kq629.2 _ _ (fm618 k9 hi9).2.2.2.2.2.1 (tg_ne (fm618 k9 hi9).2.2.2.2.2.2.1 tI22 (tnA (show 22 < 240 by decide))), (fm618 k9 hi9).2.2.2.2.2.2.1, kq629.2 _ _ (fm618 k9 hi9).2.2.2.2.2.2.2.1 (tg_ne (fm618 k9 hi9).2.2.2.2.2.2.2.2.1 tI22 (tnA (show 22 < 260 by decide))), (fm618 k9 hi9).2.2.2.2.2.2.2.2.1, kq629.2 _ _ (fm618 k9 hi9).2.2.2.2.2.2.2.2.2.1 (tg_ne (fm618 k9 hi9).2.2.2.2.2.2.2.2.2.2.1 tI22 (tnA (show 22 < 280 by decide))), (fm618 k9 hi9).2.2.2.2.2.2.2.2.2.2.1, kq629.2 _ _ (fm618 k9 hi9).2.2.2.2.2.2.2.2.2.2.2.1 (tg_ne (fm618 k9 hi9).2.2.2.2.2.2.2.2.2.2.2.2 tI22 (tnA (show 22 < 300 by decide))), (fm618 k9 hi9).2.2.2.2.2.2.2.2.2.2.2.2⟩
              have fm660 : ∀ k9, k9 < pc → pf k9 = some (pa k9) ∧ wd_at w626 (pa k9) (.inr (3, [.int (plv k9), .int (pwo k9), .int (phd k9), .int (pgd k9), .int (pdy k9), .int (pno k9), .int (ptp k9)])) ∧ tg (pa k9) = 3000 + k9 := fun k9 hi9 => ⟨(fm619 k9 hi9).1, kq629.2 _ _ (fm619 k9 hi9).2.1 (tg_ne (fm619 k9 hi9).2.2 tI22 (tnA (show 22 < 3000 by decide))), (fm619 k9 hi9).2.2⟩
              have fm661 : ∀ k9, k9 < ac → af k9 = some (ad k9) ∧ wd_at w626 (ad k9) (.inr (0, [.int (av0 k9), .int (av1 k9), .int (av2 k9), .int (av3 k9)])) ∧ tg (ad k9) = 4000 + k9 := fun k9 hi9 => ⟨(fm620 k9 hi9).1, kq629.2 _ _ (fm620 k9 hi9).2.1 (tg_ne (fm620 k9 hi9).2.2 tI22 (tnA (show 22 < 4000 by decide))), (fm620 k9 hi9).2.2⟩
              have fm662 : ∀ k9, k9 < sc → zf k9 = some (so k9) ∧ wd_at w626 (so k9) (.inr (6, [.int (sp0 k9), .int (sp1 k9), .ref (sr k9)])) ∧ tg (so k9) = 5000 + k9 ∧ wd_at w626 (sr k9) (.inl (cy 2, 12, .inl (sd k9))) ∧ tg (sr k9) = 6000 + k9 := fun k9 hi9 => ⟨(fm621 k9 hi9).1, kq629.2 _ _ (fm621 k9 hi9).2.1 (tg_ne (fm621 k9 hi9).2.2.1 tI22 (tnA (show 22 < 5000 by decide))), (fm621 k9 hi9).2.2.1, kq629.2 _ _ (fm621 k9 hi9).2.2.2.1 (tg_ne (fm621 k9 hi9).2.2.2.2 tI22 (tnA (show 22 < 6000 by decide))), (fm621 k9 hi9).2.2.2.2⟩
              have fm663 : ∀ k9, k9 < sh → (hf k9 = some (sw k9) ∧ hto k9 < 12) ∧ wd_at w626 (sw k9) (.inr (5, [.int (nI (hto k9)), .int (hpp k9), .int (hle k9), .int (ham k9), .int (hhh k9), .int (hdd k9), .int (hru k9), .int (hde k9), .int (hcp k9), .int (hld k9)])) ∧ tg (sw k9) = 7000 + k9 := fun k9 hi9 => ⟨(fm622 k9 hi9).1, kq629.2 _ _ (fm622 k9 hi9).2.1 (tg_ne (fm622 k9 hi9).2.2 tI22 (tnA (show 22 < 7000 by decide))), (fm622 k9 hi9).2.2⟩
              have kp664 := kp623.tr kq629 (fun b9 hm q9 => (fun q9 => q9 ▸ (tgS tI22 (by decide))) q9)
              refine W.eq (g2 := F0 m 100 ls []) rfl (W.widen (k := 1) (n := 10) (Nat.le_of_ble_eq_true rfl) (Nat.le_of_ble_eq_true rfl) ?_)
              refine lv_aload hx hb dX10_show_100 (lv_at hl 0 rfl) ?_
              refine lv_aload_n hx hb dX10_show_102 rfl (lv_at hl 3 rfl) ?_
              refine x_get (ref := "NoteHouse") F hP k630 rfl (fun _ h => List.mem_cons_of_mem _ (List.mem_append_left _ (List.mem_append_left _ (List.mem_append_left _ (List.mem_append_left _ (List.mem_append_left _ (List.mem_append_left _ (List.mem_append_left _ (List.mem_append_right _ (h)))))))))) 1 (Nat.le_of_ble_eq_true rfl) (List.mem_cons_of_mem _ (List.mem_append_left _ (List.mem_append_left _ (List.mem_append_left _ (List.mem_append_left _ (List.mem_append_left _ (List.mem_append_left _ (List.mem_append_left _ (List.mem_append_left _ (List.mem_append_left _ (List.mem_of_getElem? (i := 6) rfl))))))))))) rfl rfl dX10_show_103 ?_
              refine lv_iload_n hx hb dX10_show_106 rfl (lv_at hl 4 rfl) ?_
              refine x_aald F hP k636 rfl (vp_in_nI (n := t) (N := 12) (by omega) (by decide)) dX10_show_107 ?_
              have pr665 := (fm658 t (by omega)).1
              have k666 := (fm658 t (by omega)).2.1
              have tz667 := (fm658 t (by omega)).2.2
              rw [nI_clamp (n := t) (by omega), pr665]
              refine W.eq (g2 := F0 m _ ls [.ref (tn t), .ref q538]) rfl ?_
              refine x_get (ref := "NoteHouse$Town") F hP k666 rfl (fun _ h => List.mem_cons_of_mem _ (List.mem_append_left _ (List.mem_append_left _ (List.mem_append_left _ (List.mem_append_left _ (List.mem_append_right _ (h))))))) 3 (Nat.le_of_ble_eq_true rfl) (List.mem_cons_of_mem _ (List.mem_append_left _ (List.mem_append_left _ (List.mem_append_left _ (List.mem_append_left _ (List.mem_append_left _ (List.mem_append_left _ (List.mem_append_left _ (List.mem_append_left _ (List.mem_append_left _ (List.mem_of_getElem? (i := 7) rfl))))))))))) rfl rfl dX10_show_108 ?_
              obtain ⟨s9, hs9, es9⟩ := hag t (by omega)
              rw [es9]
              refine W.eq (g2 := F0 m _ ls [.ref (aa s9), .ref q538]) rfl ?_
              have pr668 := (fm659 s9 (by omega)).1
              have pr668a := pr668.1
              have pr668b := pr668.2
              have k669 := (fm659 s9 (by omega)).2.1
              have tz670 := (fm659 s9 (by omega)).2.2.1
              have k671 := (fm659 s9 (by omega)).2.2.2.1
              have tz672 := (fm659 s9 (by omega)).2.2.2.2.1
              have k673 := (fm659 s9 (by omega)).2.2.2.2.2.1
              have tz674 := (fm659 s9 (by omega)).2.2.2.2.2.2.1
              have k675 := (fm659 s9 (by omega)).2.2.2.2.2.2.2.1
              have tz676 := (fm659 s9 (by omega)).2.2.2.2.2.2.2.2.1
              have k677 := (fm659 s9 (by omega)).2.2.2.2.2.2.2.2.2.1
              have tz678 := (fm659 s9 (by omega)).2.2.2.2.2.2.2.2.2.2.1
              have k679 := (fm659 s9 (by omega)).2.2.2.2.2.2.2.2.2.2.2.1
              have tz680 := (fm659 s9 (by omega)).2.2.2.2.2.2.2.2.2.2.2.2
              refine lv_aload_n hx hb dX10_show_111 rfl (lv_at hl 3 rfl) ?_
              refine x_get (ref := "NoteHouse") F hP k630 rfl (fun _ h => List.mem_cons_of_mem _ (List.mem_append_left _ (List.mem_append_left _ (List.mem_append_left _ (List.mem_append_left _ (List.mem_append_left _ (List.mem_append_left _ (List.mem_append_left _ (List.mem_append_right _ (h)))))))))) 8 (Nat.le_of_ble_eq_true rfl) (List.mem_cons_of_mem _ (List.mem_append_left _ (List.mem_append_left _ (List.mem_append_left _ (List.mem_append_left _ (List.mem_append_left _ (List.mem_append_left _ (List.mem_append_left _ (List.mem_append_left _ (List.mem_append_left _ (List.mem_of_getElem? (i := 8) rfl))))))))))) rfl rfl dX10_show_112 ?_
              refine x_callV (n := 1) (As := [.ref a8]) (rest := [.ref q538]) F hP hD hS (g_firstRuleFor l D cy sk sv w626 (aa s9) (ga0 s9) (ga1 s9) (ga2 s9) (ga3 s9) (ga4 s9) a8 (ru s9) (cf s9) (nf s9) (sf s9) (uf s9) ffx627 k669 k673 k675 k677 k679 k628 (by assumption) (by omega)) gX10_show_X1_firstRuleFor rfl rfl (by decide +kernel) ⟨(Nat.le_of_ble_eq_true rfl), (Nat.le_of_ble_eq_true rfl)⟩ rfl hl.1 (Nat.le_of_ble_eq_true rfl) k669 rfl dX10_show_115 rfl ⟨(Nat.le_of_ble_eq_true rfl), (Nat.le_of_ble_eq_true rfl)⟩ (fun v682 w683 hp681 H locs hP hD hS => ?_)
              obtain ⟨rx684, rfl, hz685, rfl⟩ := hp681
              refine W.eq (g2 := F0 m 118 ls [.int rx684, .ref q538]) rfl (W.widen (k := 1) (n := 10) (Nat.le_of_ble_eq_true rfl) (Nat.le_of_ble_eq_true rfl) ?_)
              refine y_put (ref := "NoteHouse$Shown") F hP hD hS k657 rfl (fun _ h => List.mem_cons_of_mem _ (List.mem_append_left _ (List.mem_append_left _ (List.mem_append_left _ (List.mem_append_left _ (List.mem_append_left _ (List.mem_append_right _ (h)))))))) tyX5_ok nmX5 6 (Nat.le_of_ble_eq_true rfl) (List.mem_cons_of_mem _ (List.mem_append_left _ (List.mem_append_left _ (List.mem_append_left _ (List.mem_append_left _ (List.mem_append_left _ (List.mem_append_left _ (List.mem_append_left _ (List.mem_append_left _ (List.mem_append_left _ (List.mem_of_getElem? (i := 9) rfl))))))))))) rfl rfl rfl rfl (Nat.le_of_ble_eq_true rfl) dX10_show_118 (fun w686 ew687 H locs hP hD hS => ?_)
              have k688 := wd_at.pt ew687 k630 (wd_nL hq541 kI0)
              have k689 := wd_at.pt ew687 k631 (wd_nL hq541 kI1)
              have k690 := wd_at.pt ew687 k632 (wd_nL hq541 kI2)
              have k691 := wd_at.pt ew687 k633 (wd_nL hq541 kI3)
              have k692 := wd_at.pt ew687 k634 (wd_nL hq541 kI4)
              have k693 := wd_at.pt ew687 k635 (wd_nL hq541 kI5)
              have k694 := wd_at.pt ew687 k636 (wd_nL hq541 kI6)
              have k695 := wd_at.pt ew687 k637 (wd_nL hq541 kI7)
              have k696 := wd_at.pt ew687 k638 (wd_nL hq541 kI8)
              have k697 := wd_at.pt ew687 k639 (wd_nL hq541 kI9)
              have k698 := wd_at.pt ew687 k640 (wd_nL hq541 kI10)
              have k699 := wd_at.pt ew687 k641 (wd_nL hq541 kI11)
              have k700 := wd_at.pt ew687 k642 (wd_nL hq541 kI12)
              have k701 := wd_at.pt ew687 k643 (wd_nL hq541 kI13)
              have k702 := wd_at.pt ew687 k644 (wd_nL hq541 kI14)
              have k703 := wd_at.pt ew687 k645 (wd_nL hq541 kI15)
              have k704 := wd_at.pt ew687 k646 (wd_nL hq541 kI16)
              have k705 := wd_at.pt ew687 k647 (wd_nL hq541 kI17)
              have k706 := wd_at.pt ew687 k648 (wd_nL hq541 kI18)
              have k707 := wd_at.pt ew687 k649 (wd_nL hq541 kI19)
              have k708 := wd_at.pt ew687 k650 (wd_nL hq541 kI20)
              have k709 := wd_at.pt ew687 k651 (wd_nL hq541 kI21)
              have k710 := wd_at.pt ew687 k628 (wd_nL hq541 kI22)
              have k711 := wd_at.pt ew687 k652 (wd_nL hq541 kI23)
              have k712 := wd_at.pt ew687 k653 (wd_nL hq541 kI24)
              have k713 := wd_at.pt ew687 k654 (wd_nL hq541 kI25)
              have k714 := wd_at.pt ew687 k655 (wd_nL hq541 kI26)
              have k715 := wd_at.pt ew687 k656 (wd_nL hq541 k14)
              have k716 : wd_at w686 q538 (.inr (5, [.int (nI t), .int x2, .int x3, .int (pwo j4), .int x5, .int td, .int rx684, .int 1, .int 0, .int (-1)])) := wd_at.ps ew687 k657
              have k717 := wd_at.pt ew687 k666 (wd_nk k666 k657 rfl)
              have k718 := wd_at.pt ew687 k669 (wd_nk k669 k657 rfl)
              have k719 := wd_at.pt ew687 k671 (wd_nk k671 k657 rfl)
              have k720 := wd_at.pt ew687 k673 (wd_nk k673 k657 rfl)
              have k721 := wd_at.pt ew687 k675 (wd_nk k675 k657 rfl)
              have k722 := wd_at.pt ew687 k677 (wd_nk k677 k657 rfl)
              have k723 := wd_at.pt ew687 k679 (wd_nk k679 k657 rfl)
              have fm724 : ∀ i9, i9 < 12 → tf i9 = some (tn i9) ∧ wd_at w686 (tn i9) (.inr (8, [.int (co i9), .int (ra i9), .int (se i9), .ref (ag i9)])) ∧ tg (tn i9) = 100 + i9 := fun i9 hi9 => ⟨(fm658 i9 hi9).1, wd_at.pt ew687 (fm658 i9 hi9).2.1 (fn572 i9 hi9), (fm658 i9 hi9).2.2⟩
              have fm725 : ∀ k9, k9 < 13 → (aOK (cf k9) (nf k9) ∧ ru k9 ≤ 12) ∧ wd_at w686 (aa k9) (.inr (1, [.ref (ga0 k9), .ref (ga1 k9), .ref (ga2 k9), .ref (ga3 k9), .ref (ga4 k9), .int (nI (ru k9))])) ∧ tg (aa k9) = 200 + k9 ∧ wd_at w686 (ga0 k9) (.inl (cy 2, 12, .inl (df k9))) ∧ tg (ga0 k9) = 220 + k9 ∧ wd_at w686 (ga1 k9) (.inl (cy 2, 12, .inl (cf k9))) ∧ tg (ga1 k9) = 240 + k9 ∧ wd_at w686 (ga2 k9) (.inl (cy 2, 72, .inl (nf k9))) ∧ tg (ga2 k9) = 260 + k9 ∧ wd_at w686 (ga3 k9) (.inl (cy 1, 72, .inl (sf k9))) ∧ tg (ga3 k9) = 280 + k9 ∧ wd_at w686 (ga4 k9) (.inl (cy 2, 72, .inl (uf k9))) ∧ tg (ga4 k9) = 300 + k9 := fun k9 hi9 => ⟨(fm659 k9 hi9).1, wd_at.pt ew687 (fm659 k9 hi9).2.1 ((fn574 k9 hi9).1), (fm659 k9 hi9).2.2.1, wd_at.pt ew687 (fm659 k9 hi9).2.2.2.1 ((fn574 k9 hi9).2.1), (fm659 k9 hi9).2.2.2.2.1, wd_at.pt ew687 (fm659 k9 hi9).2.2.2.2.2.1 ((fn574 k9 hi9).2.2.1), (fm659 k9 hi9).2.2.2.2.2.2.1, wd_at.pt ew687 (fm659 k9 hi9).2.2.2.2.2.2.2.1 ((fn574 k9 hi9).2.2.2.1), (fm659 k9 hi9).2.2.2.2.2.2.2.2.1, wd_at.pt ew687 (fm659 k9 hi9).2.2.2.2.2.2.2.2.2.1 ((fn574 k9 hi9).2.2.2.2.1), (fm659 k9 hi9).2.2.2.2.2.2.2.2.2.2.1, wd_at.pt ew687 (fm659 k9 hi9).2.2.2.2.2.2.2.2.2.2.2.1 ((fn574 k9 hi9).2.2.2.2.2), (fm659 k9 hi9).2.2.2.2.2.2.2.2.2.2.2.2⟩
              have fm726 : ∀ k9, k9 < pc → pf k9 = some (pa k9) ∧ wd_at w686 (pa k9) (.inr (3, [.int (plv k9), .int (pwo k9), .int (phd k9), .int (pgd k9), .int (pdy k9), .int (pno k9), .int (ptp k9)])) ∧ tg (pa k9) = 3000 + k9 := fun k9 hi9 => ⟨(fm660 k9 hi9).1, wd_at.pt ew687 (fm660 k9 hi9).2.1 (fn576 k9 hi9), (fm660 k9 hi9).2.2⟩
              have fm727 : ∀ k9, k9 < ac → af k9 = some (ad k9) ∧ wd_at w686 (ad k9) (.inr (0, [.int (av0 k9), .int (av1 k9), .int (av2 k9), .int (av3 k9)])) ∧ tg (ad k9) = 4000 + k9 := fun k9 hi9 => ⟨(fm661 k9 hi9).1, wd_at.pt ew687 (fm661 k9 hi9).2.1 (fn578 k9 hi9), (fm661 k9 hi9).2.2⟩
              have fm728 : ∀ k9, k9 < sc → zf k9 = some (so k9) ∧ wd_at w686 (so k9) (.inr (6, [.int (sp0 k9), .int (sp1 k9), .ref (sr k9)])) ∧ tg (so k9) = 5000 + k9 ∧ wd_at w686 (sr k9) (.inl (cy 2, 12, .inl (sd k9))) ∧ tg (sr k9) = 6000 + k9 := fun k9 hi9 => ⟨(fm662 k9 hi9).1, wd_at.pt ew687 (fm662 k9 hi9).2.1 ((fn580 k9 hi9).1), (fm662 k9 hi9).2.2.1, wd_at.pt ew687 (fm662 k9 hi9).2.2.2.1 ((fn580 k9 hi9).2), (fm662 k9 hi9).2.2.2.2⟩
              have fm729 : ∀ k9, k9 < sh → (hf k9 = some (sw k9) ∧ hto k9 < 12) ∧ wd_at w686 (sw k9) (.inr (5, [.int (nI (hto k9)), .int (hpp k9), .int (hle k9), .int (ham k9), .int (hhh k9), .int (hdd k9), .int (hru k9), .int (hde k9), .int (hcp k9), .int (hld k9)])) ∧ tg (sw k9) = 7000 + k9 := fun k9 hi9 => ⟨(fm663 k9 hi9).1, wd_at.pt ew687 (fm663 k9 hi9).2.1 (fn582 k9 hi9), (fm663 k9 hi9).2.2⟩
              have kp730 := kp664.putN ew687 (kp0.out hq541)
              refine lv_aload hx hb dX10_show_121 (lv_at hl 0 rfl) ?_
              refine lv_aload_n hx hb dX10_show_123 rfl (lv_at hl 3 rfl) ?_
              refine x_get (ref := "NoteHouse") F hP k688 rfl (fun _ h => List.mem_cons_of_mem _ (List.mem_append_left _ (List.mem_append_left _ (List.mem_append_left _ (List.mem_append_left _ (List.mem_append_left _ (List.mem_append_left _ (List.mem_append_left _ (List.mem_append_right _ (h)))))))))) 1 (Nat.le_of_ble_eq_true rfl) (List.mem_cons_of_mem _ (List.mem_append_left _ (List.mem_append_left _ (List.mem_append_left _ (List.mem_append_left _ (List.mem_append_left _ (List.mem_append_left _ (List.mem_append_left _ (List.mem_append_left _ (List.mem_append_left _ (List.mem_of_getElem? (i := 6) rfl))))))))))) rfl rfl dX10_show_124 ?_
              refine lv_iload_n hx hb dX10_show_127 rfl (lv_at hl 4 rfl) ?_
              refine x_aald F hP k694 rfl (vp_in_nI (n := t) (N := 12) (by omega) (by decide)) dX10_show_128 ?_
              rw [nI_clamp (n := t) (by omega), pr665]
              refine W.eq (g2 := F0 m _ ls [.ref (tn t), .ref q538]) rfl ?_
              refine x_get (ref := "NoteHouse$Town") F hP k717 rfl (fun _ h => List.mem_cons_of_mem _ (List.mem_append_left _ (List.mem_append_left _ (List.mem_append_left _ (List.mem_append_left _ (List.mem_append_right _ (h))))))) 3 (Nat.le_of_ble_eq_true rfl) (List.mem_cons_of_mem _ (List.mem_append_left _ (List.mem_append_left _ (List.mem_append_left _ (List.mem_append_left _ (List.mem_append_left _ (List.mem_append_left _ (List.mem_append_left _ (List.mem_append_left _ (List.mem_append_left _ (List.mem_of_getElem? (i := 7) rfl))))))))))) rfl rfl dX10_show_129 ?_
              rw [es9]
              refine W.eq (g2 := F0 m _ ls [.ref (aa s9), .ref q538]) rfl ?_
              refine lv_aload hx hb dX10_show_132 (lv_at hl 0 rfl) ?_
              refine x_get (ref := "NoteHouse$Shown") F hP k716 rfl (fun _ h => List.mem_cons_of_mem _ (List.mem_append_left _ (List.mem_append_left _ (List.mem_append_left _ (List.mem_append_left _ (List.mem_append_left _ (List.mem_append_right _ (h)))))))) 6 (Nat.le_of_ble_eq_true rfl) (List.mem_cons_of_mem _ (List.mem_append_left _ (List.mem_append_left _ (List.mem_append_left _ (List.mem_append_left _ (List.mem_append_left _ (List.mem_append_left _ (List.mem_append_left _ (List.mem_append_left _ (List.mem_append_left _ (List.mem_of_getElem? (i := 9) rfl))))))))))) rfl rfl dX10_show_134 ?_
              refine x_callV (n := 1) (As := [.int rx684]) (rest := [.ref q538]) F hP hD hS (g_deedOf l D cy sk sv w686 (aa s9) (ga0 s9) (ga1 s9) (ga2 s9) (ga3 s9) (ga4 s9) (ru s9) (df s9) rx684 k718 k719 (by omega)) gX10_show_X1_deedOf rfl rfl (by decide +kernel) ⟨(Nat.le_of_ble_eq_true rfl), (Nat.le_of_ble_eq_true rfl)⟩ rfl hl.1 (Nat.le_of_ble_eq_true rfl) k718 rfl dX10_show_137 rfl ⟨(Nat.le_of_ble_eq_true rfl), (Nat.le_of_ble_eq_true rfl)⟩ (fun v732 w733 hp731 H locs hP hD hS => ?_)
              obtain ⟨rx734, rfl, rfl⟩ := hp731
              refine W.eq (g2 := F0 m 140 ls [.int rx734, .ref q538]) rfl (W.widen (k := 1) (n := 10) (Nat.le_of_ble_eq_true rfl) (Nat.le_of_ble_eq_true rfl) ?_)
              refine y_put (ref := "NoteHouse$Shown") F hP hD hS k716 rfl (fun _ h => List.mem_cons_of_mem _ (List.mem_append_left _ (List.mem_append_left _ (List.mem_append_left _ (List.mem_append_left _ (List.mem_append_left _ (List.mem_append_right _ (h)))))))) tyX5_ok nmX5 7 (Nat.le_of_ble_eq_true rfl) (List.mem_cons_of_mem _ (List.mem_append_left _ (List.mem_append_left _ (List.mem_append_left _ (List.mem_append_left _ (List.mem_append_left _ (List.mem_append_left _ (List.mem_append_left _ (List.mem_append_left _ (List.mem_append_left _ (List.mem_of_getElem? (i := 10) rfl))))))))))) rfl rfl rfl rfl (Nat.le_of_ble_eq_true rfl) dX10_show_140 (fun w735 ew736 H locs hP hD hS => ?_)
              have k737 := wd_at.pt ew736 k688 (wd_nL hq541 kI0)
              have k738 := wd_at.pt ew736 k689 (wd_nL hq541 kI1)
              have k739 := wd_at.pt ew736 k690 (wd_nL hq541 kI2)
              have k740 := wd_at.pt ew736 k691 (wd_nL hq541 kI3)
              have k741 := wd_at.pt ew736 k692 (wd_nL hq541 kI4)
              have k742 := wd_at.pt ew736 k693 (wd_nL hq541 kI5)
              have k743 := wd_at.pt ew736 k694 (wd_nL hq541 kI6)
              have k744 := wd_at.pt ew736 k695 (wd_nL hq541 kI7)
              have k745 := wd_at.pt ew736 k696 (wd_nL hq541 kI8)
              have k746 := wd_at.pt ew736 k697 (wd_nL hq541 kI9)
              have k747 := wd_at.pt ew736 k698 (wd_nL hq541 kI10)
              have k748 := wd_at.pt ew736 k699 (wd_nL hq541 kI11)
              have k749 := wd_at.pt ew736 k700 (wd_nL hq541 kI12)
              have k750 := wd_at.pt ew736 k701 (wd_nL hq541 kI13)
              have k751 := wd_at.pt ew736 k702 (wd_nL hq541 kI14)
              have k752 := wd_at.pt ew736 k703 (wd_nL hq541 kI15)
              have k753 := wd_at.pt ew736 k704 (wd_nL hq541 kI16)
              have k754 := wd_at.pt ew736 k705 (wd_nL hq541 kI17)
              have k755 := wd_at.pt ew736 k706 (wd_nL hq541 kI18)
              have k756 := wd_at.pt ew736 k707 (wd_nL hq541 kI19)
              have k757 := wd_at.pt ew736 k708 (wd_nL hq541 kI20)
              have k758 := wd_at.pt ew736 k709 (wd_nL hq541 kI21)
              have k759 := wd_at.pt ew736 k710 (wd_nL hq541 kI22)
              have k760 := wd_at.pt ew736 k711 (wd_nL hq541 kI23)
              have k761 := wd_at.pt ew736 k712 (wd_nL hq541 kI24)
              have k762 := wd_at.pt ew736 k713 (wd_nL hq541 kI25)
              have k763 := wd_at.pt ew736 k714 (wd_nL hq541 kI26)
              have k764 := wd_at.pt ew736 k715 (wd_nL hq541 k14)
              have k765 : wd_at w735 q538 (.inr (5, [.int (nI t), .int x2, .int x3, .int (pwo j4), .int x5, .int td, .int rx684, .int rx734, .int 0, .int (-1)])) := wd_at.ps ew736 k716
              have k766 := wd_at.pt ew736 k717 (wd_nk k717 k716 rfl)
              have k767 := wd_at.pt ew736 k718 (wd_nk k718 k716 rfl)
              have k768 := wd_at.pt ew736 k719 (wd_nk k719 k716 rfl)
              have k769 := wd_at.pt ew736 k720 (wd_nk k720 k716 rfl)
              have k770 := wd_at.pt ew736 k721 (wd_nk k721 k716 rfl)
              have k771 := wd_at.pt ew736 k722 (wd_nk k722 k716 rfl)
              have k772 := wd_at.pt ew736 k723 (wd_nk k723 k716 rfl)
              have fm773 : ∀ i9, i9 < 12 → tf i9 = some (tn i9) ∧ wd_at w735 (tn i9) (.inr (8, [.int (co i9), .int (ra i9), .int (se i9), .ref (ag i9)])) ∧ tg (tn i9) = 100 + i9 := fun i9 hi9 => ⟨(fm724 i9 hi9).1, wd_at.pt ew736 (fm724 i9 hi9).2.1 (fn572 i9 hi9), (fm724 i9 hi9).2.2⟩
              have fm774 : ∀ k9, k9 < 13 → (aOK (cf k9) (nf k9) ∧ ru k9 ≤ 12) ∧ wd_at w735 (aa k9) (.inr (1, [.ref (ga0 k9), .ref (ga1 k9), .ref (ga2 k9), .ref (ga3 k9), .ref (ga4 k9), .int (nI (ru k9))])) ∧ tg (aa k9) = 200 + k9 ∧ wd_at w735 (ga0 k9) (.inl (cy 2, 12, .inl (df k9))) ∧ tg (ga0 k9) = 220 + k9 ∧ wd_at w735 (ga1 k9) (.inl (cy 2, 12, .inl (cf k9))) ∧ tg (ga1 k9) = 240 + k9 ∧ wd_at w735 (ga2 k9) (.inl (cy 2, 72, .inl (nf k9))) ∧ tg (ga2 k9) = 260 + k9 ∧ wd_at w735 (ga3 k9) (.inl (cy 1, 72, .inl (sf k9))) ∧ tg (ga3 k9) = 280 + k9 ∧ wd_at w735 (ga4 k9) (.inl (cy 2, 72, .inl (uf k9))) ∧ tg (ga4 k9) = 300 + k9 := fun k9 hi9 => ⟨(fm725 k9 hi9).1, wd_at.pt ew736 (fm725 k9 hi9).2.1 ((fn574 k9 hi9).1), (fm725 k9 hi9).2.2.1, wd_at.pt ew736 (fm725 k9 hi9).2.2.2.1 ((fn574 k9 hi9).2.1), (fm725 k9 hi9).2.2.2.2.1, wd_at.pt ew736 (fm725 k9 hi9).2.2.2.2.2.1 ((fn574 k9 hi9).2.2.1), (fm725 k9 hi9).2.2.2.2.2.2.1, wd_at.pt ew736 (fm725 k9 hi9).2.2.2.2.2.2.2.1 ((fn574 k9 hi9).2.2.2.1), (fm725 k9 hi9).2.2.2.2.2.2.2.2.1, wd_at.pt ew736 (fm725 k9 hi9).2.2.2.2.2.2.2.2.2.1 ((fn574 k9 hi9).2.2.2.2.1), (fm725 k9 hi9).2.2.2.2.2.2.2.2.2.2.1, wd_at.pt ew736 (fm725 k9 hi9).2.2.2.2.2.2.2.2.2.2.2.1 ((fn574 k9 hi9).2.2.2.2.2), (fm725 k9 hi9).2.2.2.2.2.2.2.2.2.2.2.2⟩
              have fm775 : ∀ k9, k9 < pc → pf k9 = some (pa k9) ∧ wd_at w735 (pa k9) (.inr (3, [.int (plv k9), .int (pwo k9), .int (phd k9), .int (pgd k9), .int (pdy k9), .int (pno k9), .int (ptp k9)])) ∧ tg (pa k9) = 3000 + k9 := fun k9 hi9 => ⟨(fm726 k9 hi9).1, wd_at.pt ew736 (fm726 k9 hi9).2.1 (fn576 k9 hi9), (fm726 k9 hi9).2.2⟩
              have fm776 : ∀ k9, k9 < ac → af k9 = some (ad k9) ∧ wd_at w735 (ad k9) (.inr (0, [.int (av0 k9), .int (av1 k9), .int (av2 k9), .int (av3 k9)])) ∧ tg (ad k9) = 4000 + k9 := fun k9 hi9 => ⟨(fm727 k9 hi9).1, wd_at.pt ew736 (fm727 k9 hi9).2.1 (fn578 k9 hi9), (fm727 k9 hi9).2.2⟩
              have fm777 : ∀ k9, k9 < sc → zf k9 = some (so k9) ∧ wd_at w735 (so k9) (.inr (6, [.int (sp0 k9), .int (sp1 k9), .ref (sr k9)])) ∧ tg (so k9) = 5000 + k9 ∧ wd_at w735 (sr k9) (.inl (cy 2, 12, .inl (sd k9))) ∧ tg (sr k9) = 6000 + k9 := fun k9 hi9 => ⟨(fm728 k9 hi9).1, wd_at.pt ew736 (fm728 k9 hi9).2.1 ((fn580 k9 hi9).1), (fm728 k9 hi9).2.2.1, wd_at.pt ew736 (fm728 k9 hi9).2.2.2.1 ((fn580 k9 hi9).2), (fm728 k9 hi9).2.2.2.2⟩
              have fm778 : ∀ k9, k9 < sh → (hf k9 = some (sw k9) ∧ hto k9 < 12) ∧ wd_at w735 (sw k9) (.inr (5, [.int (nI (hto k9)), .int (hpp k9), .int (hle k9), .int (ham k9), .int (hhh k9), .int (hdd k9), .int (hru k9), .int (hde k9), .int (hcp k9), .int (hld k9)])) ∧ tg (sw k9) = 7000 + k9 := fun k9 hi9 => ⟨(fm729 k9 hi9).1, wd_at.pt ew736 (fm729 k9 hi9).2.1 (fn582 k9 hi9), (fm729 k9 hi9).2.2⟩
              have kp779 := kp730.putN ew736 (kp0.out hq541)
              refine lv_aload hx hb dX10_show_143 (lv_at hl 0 rfl) ?_
              refine x_get (ref := "NoteHouse$Shown") F hP k765 rfl (fun _ h => List.mem_cons_of_mem _ (List.mem_append_left _ (List.mem_append_left _ (List.mem_append_left _ (List.mem_append_left _ (List.mem_append_left _ (List.mem_append_right _ (h)))))))) 7 (Nat.le_of_ble_eq_true rfl) (List.mem_cons_of_mem _ (List.mem_append_left _ (List.mem_append_left _ (List.mem_append_left _ (List.mem_append_left _ (List.mem_append_left _ (List.mem_append_left _ (List.mem_append_left _ (List.mem_append_left _ (List.mem_append_left _ (List.mem_of_getElem? (i := 10) rfl))))))))))) rfl rfl dX10_show_145 ?_
              refine lv_if_ne (tgt := 161) hx hb dX10_show_148 (by decide) (fun c_780 => ?_) (fun c_780 => ?_)
              · refine lv_aload_n hx hb dX10_show_161 rfl (lv_at hl 3 rfl) ?_
                refine x_get (ref := "NoteHouse") F hP k737 rfl (fun _ h => List.mem_cons_of_mem _ (List.mem_append_left _ (List.mem_append_left _ (List.mem_append_left _ (List.mem_append_left _ (List.mem_append_left _ (List.mem_append_left _ (List.mem_append_left _ (List.mem_append_right _ (h)))))))))) 5 (Nat.le_of_ble_eq_true rfl) (List.mem_cons_of_mem _ (List.mem_append_left _ (List.mem_append_left _ (List.mem_append_left _ (List.mem_append_left _ (List.mem_append_left _ (List.mem_append_left _ (List.mem_append_left _ (List.mem_append_left _ (List.mem_append_left _ (List.mem_of_getElem? (i := 11) rfl))))))))))) rfl rfl dX10_show_162 ?_
                refine lv_aload_n hx hb dX10_show_165 rfl (lv_at hl 3 rfl) ?_
                refine x_get (ref := "NoteHouse") F hP k737 rfl (fun _ h => List.mem_cons_of_mem _ (List.mem_append_left _ (List.mem_append_left _ (List.mem_append_left _ (List.mem_append_left _ (List.mem_append_left _ (List.mem_append_left _ (List.mem_append_left _ (List.mem_append_right _ (h)))))))))) 16 (Nat.le_of_ble_eq_true rfl) (List.mem_cons_of_mem _ (List.mem_append_left _ (List.mem_append_left _ (List.mem_append_left _ (List.mem_append_left _ (List.mem_append_left _ (List.mem_append_left _ (List.mem_append_left _ (List.mem_append_left _ (List.mem_append_left _ (List.mem_of_getElem? (i := 0) rfl))))))))))) rfl rfl dX10_show_166 ?_
                refine lv_aload hx hb dX10_show_169 (lv_at hl 0 rfl) ?_
                refine y_aast F hP hD hS k747 rfl k765 rfl (vp_in_nI (n := sh) (N := 200) (by omega) (by decide)) dX10_show_171 (fun w781 ew782 H locs hP hD hS => ?_)
                have k783 := wd_at.pt ew782 k737 (tg_ne tI0 tI10 (by decide))
                have k784 := wd_at.pt ew782 k738 (tg_ne tI1 tI10 (by decide))
                have k785 := wd_at.pt ew782 k739 (tg_ne tI2 tI10 (by decide))
                have k786 := wd_at.pt ew782 k740 (tg_ne tI3 tI10 (by decide))
                have k787 := wd_at.pt ew782 k741 (tg_ne tI4 tI10 (by decide))
                have k788 := wd_at.pt ew782 k742 (tg_ne tI5 tI10 (by decide))
                have k789 := wd_at.pt ew782 k743 (tg_ne tI6 tI10 (by decide))
                have k790 := wd_at.pt ew782 k744 (tg_ne tI7 tI10 (by decide))
                have k791 := wd_at.pt ew782 k745 (tg_ne tI8 tI10 (by decide))
                have k792 := wd_at.pt ew782 k746 (tg_ne tI9 tI10 (by decide))
                have k793 : wd_at w781 a5 (.inl (cy 7, 200, .inr (.inr (.inr (.inr (va_up hf (nI sh).toNatClampNeg (some q538))))))) := wd_at.ps ew782 k747
                have k794 := wd_at.pt ew782 k748 (tg_ne tI11 tI10 (by decide))
                have k795 := wd_at.pt ew782 k749 (tg_ne tI12 tI10 (by decide))
                have k796 := wd_at.pt ew782 k750 (tg_ne tI13 tI10 (by decide))
                have k797 := wd_at.pt ew782 k751 (tg_ne tI14 tI10 (by decide))
                have k798 := wd_at.pt ew782 k752 (tg_ne tI15 tI10 (by decide))
                have k799 := wd_at.pt ew782 k753 (tg_ne tI16 tI10 (by decide))
                have k800 := wd_at.pt ew782 k754 (tg_ne tI17 tI10 (by decide))
                have k801 := wd_at.pt ew782 k755 (tg_ne tI18 tI10 (by decide))
                have k802 := wd_at.pt ew782 k756 (tg_ne tI19 tI10 (by decide))
                have k803 := wd_at.pt ew782 k757 (tg_ne tI20 tI10 (by decide))
                have k804 := wd_at.pt ew782 k758 (tg_ne tI21 tI10 (by decide))
                have k805 := wd_at.pt ew782 k759 (tg_ne tI22 tI10 (by decide))
                have k806 := wd_at.pt ew782 k760 (tg_ne tI23 tI10 (tnA (show 10 < 30 by decide)))
                have k807 := wd_at.pt ew782 k761 (tg_ne tI24 tI10 (tnA (show 10 < 32 by decide)))
                have k808 := wd_at.pt ew782 k762 (tg_ne tI25 tI10 (tnA (show 10 < 30 by decide)))
                have k809 := wd_at.pt ew782 k763 (tg_ne tI26 tI10 (tnA (show 10 < 32 by decide)))
                have k810 := wd_at.pt ew782 k764 (tg_ne tz15 tI10 (tnA (show 10 < 3000 by decide)))
                have k811 := wd_at.pt ew782 k765 (Ne.symm (wd_nL hq541 kI10))
                have k812 := wd_at.pt ew782 k766 (tg_ne tz667 tI10 (tnA (show 10 < 100 by decide)))
                have k813 := wd_at.pt ew782 k767 (tg_ne tz670 tI10 (tnA (show 10 < 200 by decide)))
                have k814 := wd_at.pt ew782 k768 (tg_ne tz672 tI10 (tnA (show 10 < 220 by decide)))
                have k815 := wd_at.pt ew782 k769 (tg_ne tz674 tI10 (tnA (show 10 < 240 by decide)))
                have k816 := wd_at.pt ew782 k770 (tg_ne tz676 tI10 (tnA (show 10 < 260 by decide)))
                have k817 := wd_at.pt ew782 k771 (tg_ne tz678 tI10 (tnA (show 10 < 280 by decide)))
                have k818 := wd_at.pt ew782 k772 (tg_ne tz680 tI10 (tnA (show 10 < 300 by decide)))
                have fm819 : ∀ i9, i9 < 12 → tf i9 = some (tn i9) ∧ wd_at w781 (tn i9) (.inr (8, [.int (co i9), .int (ra i9), .int (se i9), .ref (ag i9)])) ∧ tg (tn i9) = 100 + i9 := fun i9 hi9 => ⟨(fm773 i9 hi9).1, wd_at.pt ew782 (fm773 i9 hi9).2.1 (tg_ne (fm773 i9 hi9).2.2 tI10 (tnA (show 10 < 100 by decide))), (fm773 i9 hi9).2.2⟩
                have fm820 : ∀ k9, k9 < 13 → (aOK (cf k9) (nf k9) ∧ ru k9 ≤ 12) ∧ wd_at w781 (aa k9) (.inr (1, [.ref (ga0 k9), .ref (ga1 k9), .ref (ga2 k9), .ref (ga3 k9), .ref (ga4 k9), .int (nI (ru k9))])) ∧ tg (aa k9) = 200 + k9 ∧ wd_at w781 (ga0 k9) (.inl (cy 2, 12, .inl (df k9))) ∧ tg (ga0 k9) = 220 + k9 ∧ wd_at w781 (ga1 k9) (.inl (cy 2, 12, .inl (cf k9))) ∧ tg (ga1 k9) = 240 + k9 ∧ wd_at w781 (ga2 k9) (.inl (cy 2, 72, .inl (nf k9))) ∧ tg (ga2 k9) = 260 + k9 ∧ wd_at w781 (ga3 k9) (.inl (cy 1, 72, .inl (sf k9))) ∧ tg (ga3 k9) = 280 + k9 ∧ wd_at w781 (ga4 k9) (.inl (cy 2, 72, .inl (uf k9))) ∧ tg (ga4 k9) = 300 + k9 := fun k9 hi9 => ⟨(fm774 k9 hi9).1, wd_at.pt ew782 (fm774 k9 hi9).2.1 (tg_ne (fm774 k9 hi9).2.2.1 tI10 (tnA (show 10 < 200 by decide))), (fm774 k9 hi9).2.2.1, wd_at.pt ew782 (fm774 k9 hi9).2.2.2.1 (tg_ne (fm774 k9 hi9).2.2.2.2.1 tI10 (tnA (show 10 < 220 by decide))), (fm774 k9 hi9).2.2.2.2.1, wd_at.pt ew782 (fm774 k9 hi9).2.2.2.2.2.1 (tg_ne (fm774 k9 hi9).2.2.2.2.2.2.1 tI10 (tnA (show 10 < 240 by decide))), (fm774 k9 hi9).2.2.2.2.2.2.1, wd_at.pt ew782 (fm774 k9 hi9).2.2.2.2.2.2.2.1 (tg_ne (fm774 k9 hi9).2.2.2.2.2.2.2.2.1 tI10 (tnA (show 10 < 260 by decide))), (fm774 k9 hi9).2.2.2.2.2.2.2.2.1, wd_at.pt ew782 (fm774 k9 hi9).2.2.2.2.2.2.2.2.2.1 (tg_ne (fm774 k9 hi9).2.2.2.2.2.2.2.2.2.2.1 tI10 (tnA (show 10 < 280 by decide))), (fm774 k9 hi9).2.2.2.2.2.2.2.2.2.2.1, wd_at.pt ew782 (fm774 k9 hi9).2.2.2.2.2.2.2.2.2.2.2.1 (tg_ne (fm774 k9 hi9).2.2.2.2.2.2.2.2.2.2.2.2 tI10 (tnA (show 10 < 300 by decide))), (fm774 k9 hi9).2.2.2.2.2.2.2.2.2.2.2.2⟩
                have fm821 : ∀ k9, k9 < pc → pf k9 = some (pa k9) ∧ wd_at w781 (pa k9) (.inr (3, [.int (plv k9), .int (pwo k9), .int (phd k9), .int (pgd k9), .int (pdy k9), .int (pno k9), .int (ptp k9)])) ∧ tg (pa k9) = 3000 + k9 := fun k9 hi9 => ⟨(fm775 k9 hi9).1, wd_at.pt ew782 (fm775 k9 hi9).2.1 (tg_ne (fm775 k9 hi9).2.2 tI10 (tnA (show 10 < 3000 by decide))), (fm775 k9 hi9).2.2⟩
                have fm822 : ∀ k9, k9 < ac → af k9 = some (ad k9) ∧ wd_at w781 (ad k9) (.inr (0, [.int (av0 k9), .int (av1 k9), .int (av2 k9), .int (av3 k9)])) ∧ tg (ad k9) = 4000 + k9 := fun k9 hi9 => ⟨(fm776 k9 hi9).1, wd_at.pt ew782 (fm776 k9 hi9).2.1 (tg_ne (fm776 k9 hi9).2.2 tI10 (tnA (show 10 < 4000 by decide))), (fm776 k9 hi9).2.2⟩
                have fm823 : ∀ k9, k9 < sc → zf k9 = some (so k9) ∧ wd_at w781 (so k9) (.inr (6, [.int (sp0 k9), .int (sp1 k9), .ref (sr k9)])) ∧ tg (so k9) = 5000 + k9 ∧ wd_at w781 (sr k9) (.inl (cy 2, 12, .inl (sd k9))) ∧ tg (sr k9) = 6000 + k9 := fun k9 hi9 => ⟨(fm777 k9 hi9).1, wd_at.pt ew782 (fm777 k9 hi9).2.1 (tg_ne (fm777 k9 hi9).2.2.1 tI10 (tnA (show 10 < 5000 by decide))), (fm777 k9 hi9).2.2.1, wd_at.pt ew782 (fm777 k9 hi9).2.2.2.1 (tg_ne (fm777 k9 hi9).2.2.2.2 tI10 (tnA (show 10 < 6000 by decide))), (fm777 k9 hi9).2.2.2.2⟩
                have fm824 : ∀ k9, k9 < sh → (hf k9 = some (sw k9) ∧ hto k9 < 12) ∧ wd_at w781 (sw k9) (.inr (5, [.int (nI (hto k9)), .int (hpp k9), .int (hle k9), .int (ham k9), .int (hhh k9), .int (hdd k9), .int (hru k9), .int (hde k9), .int (hcp k9), .int (hld k9)])) ∧ tg (sw k9) = 7000 + k9 := fun k9 hi9 => ⟨(fm778 k9 hi9).1, wd_at.pt ew782 (fm778 k9 hi9).2.1 (tg_ne (fm778 k9 hi9).2.2 tI10 (tnA (show 10 < 7000 by decide))), (fm778 k9 hi9).2.2⟩
                have kp825 := kp779.put ew782 (tgS tI10 (by decide))
                refine lv_aload_n hx hb dX10_show_172 rfl (lv_at hl 3 rfl) ?_
                refine lv_dup hx hb dX10_show_173 rfl ?_
                refine x_get (ref := "NoteHouse") F hP k783 rfl (fun _ h => List.mem_cons_of_mem _ (List.mem_append_left _ (List.mem_append_left _ (List.mem_append_left _ (List.mem_append_left _ (List.mem_append_left _ (List.mem_append_left _ (List.mem_append_left _ (List.mem_append_right _ (h)))))))))) 16 (Nat.le_of_ble_eq_true rfl) (List.mem_cons_of_mem _ (List.mem_append_left _ (List.mem_append_left _ (List.mem_append_left _ (List.mem_append_left _ (List.mem_append_left _ (List.mem_append_left _ (List.mem_append_left _ (List.mem_append_left _ (List.mem_append_left _ (List.mem_of_getElem? (i := 0) rfl))))))))))) rfl rfl dX10_show_174 ?_
                refine lv_iconst (v := 1) hx hb dX10_show_177 (by decide) ?_
                refine lv_iadd hx hb dX10_show_178 ?_
                rw [show ((nI sh) + 1 : Int32) = nI (sh + 1) from nI_add sh 1]
                refine y_put (ref := "NoteHouse") F hP hD hS k783 rfl (fun _ h => List.mem_cons_of_mem _ (List.mem_append_left _ (List.mem_append_left _ (List.mem_append_left _ (List.mem_append_left _ (List.mem_append_left _ (List.mem_append_left _ (List.mem_append_left _ (List.mem_append_right _ (h)))))))))) tyX10_ok nmX10 16 (Nat.le_of_ble_eq_true rfl) (List.mem_cons_of_mem _ (List.mem_append_left _ (List.mem_append_left _ (List.mem_append_left _ (List.mem_append_left _ (List.mem_append_left _ (List.mem_append_left _ (List.mem_append_left _ (List.mem_append_left _ (List.mem_append_left _ (List.mem_of_getElem? (i := 0) rfl))))))))))) rfl rfl rfl rfl (Nat.le_of_ble_eq_true rfl) dX10_show_179 (fun w826 ew827 H locs hP hD hS => ?_)
                have k828 : wd_at w826 x (.inr (10, [.ref a0, .ref a1, .ref a2, .ref a3, .ref a4, .ref a5, .ref a6, .ref a7, .ref a8, .ref (aa sg), .ref a10, .ref a11, .int td, .int (nI pc), .int (nI ac), .int (nI sc), .int (nI (sh + 1))])) := wd_at.ps ew827 k783
                have k829 := wd_at.pt ew827 k784 (tg_ne tI1 tI0 (by decide))
                have k830 := wd_at.pt ew827 k785 (tg_ne tI2 tI0 (by decide))
                have k831 := wd_at.pt ew827 k786 (tg_ne tI3 tI0 (by decide))
                have k832 := wd_at.pt ew827 k787 (tg_ne tI4 tI0 (by decide))
                have k833 := wd_at.pt ew827 k788 (tg_ne tI5 tI0 (by decide))
                have k834 := wd_at.pt ew827 k789 (tg_ne tI6 tI0 (by decide))
                have k835 := wd_at.pt ew827 k790 (tg_ne tI7 tI0 (by decide))
                have k836 := wd_at.pt ew827 k791 (tg_ne tI8 tI0 (by decide))
                have k837 := wd_at.pt ew827 k792 (tg_ne tI9 tI0 (by decide))
                have k838 := wd_at.pt ew827 k793 (tg_ne tI10 tI0 (by decide))
                have k839 := wd_at.pt ew827 k794 (tg_ne tI11 tI0 (by decide))
                have k840 := wd_at.pt ew827 k795 (tg_ne tI12 tI0 (by decide))
                have k841 := wd_at.pt ew827 k796 (tg_ne tI13 tI0 (by decide))
                have k842 := wd_at.pt ew827 k797 (tg_ne tI14 tI0 (by decide))
                have k843 := wd_at.pt ew827 k798 (tg_ne tI15 tI0 (by decide))
                have k844 := wd_at.pt ew827 k799 (tg_ne tI16 tI0 (by decide))
                have k845 := wd_at.pt ew827 k800 (tg_ne tI17 tI0 (by decide))
                have k846 := wd_at.pt ew827 k801 (tg_ne tI18 tI0 (by decide))
                have k847 := wd_at.pt ew827 k802 (tg_ne tI19 tI0 (by decide))
                have k848 := wd_at.pt ew827 k803 (tg_ne tI20 tI0 (by decide))
                have k849 := wd_at.pt ew827 k804 (tg_ne tI21 tI0 (by decide))
                have k850 := wd_at.pt ew827 k805 (tg_ne tI22 tI0 (by decide))
                have k851 := wd_at.pt ew827 k806 (tg_ne tI23 tI0 (tnA (show 0 < 30 by decide)))
                have k852 := wd_at.pt ew827 k807 (tg_ne tI24 tI0 (tnA (show 0 < 32 by decide)))
                have k853 := wd_at.pt ew827 k808 (tg_ne tI25 tI0 (tnA (show 0 < 30 by decide)))
                have k854 := wd_at.pt ew827 k809 (tg_ne tI26 tI0 (tnA (show 0 < 32 by decide)))
                have k855 := wd_at.pt ew827 k810 (tg_ne tz15 tI0 (tnA (show 0 < 3000 by decide)))
                have k856 := wd_at.pt ew827 k811 (Ne.symm (wd_nL hq541 kI0))
                have k857 := wd_at.pt ew827 k812 (tg_ne tz667 tI0 (tnA (show 0 < 100 by decide)))
                have k858 := wd_at.pt ew827 k813 (tg_ne tz670 tI0 (tnA (show 0 < 200 by decide)))
                have k859 := wd_at.pt ew827 k814 (tg_ne tz672 tI0 (tnA (show 0 < 220 by decide)))
                have k860 := wd_at.pt ew827 k815 (tg_ne tz674 tI0 (tnA (show 0 < 240 by decide)))
                have k861 := wd_at.pt ew827 k816 (tg_ne tz676 tI0 (tnA (show 0 < 260 by decide)))
                have k862 := wd_at.pt ew827 k817 (tg_ne tz678 tI0 (tnA (show 0 < 280 by decide)))
                have k863 := wd_at.pt ew827 k818 (tg_ne tz680 tI0 (tnA (show 0 < 300 by decide)))
                have fm864 : ∀ i9, i9 < 12 → tf i9 = some (tn i9) ∧ wd_at w826 (tn i9) (.inr (8, [.int (co i9), .int (ra i9), .int (se i9), .ref (ag i9)])) ∧ tg (tn i9) = 100 + i9 := fun i9 hi9 => ⟨(fm819 i9 hi9).1, wd_at.pt ew827 (fm819 i9 hi9).2.1 (tg_ne (fm819 i9 hi9).2.2 tI0 (tnA (show 0 < 100 by decide))), (fm819 i9 hi9).2.2⟩
                have fm865 : ∀ k9, k9 < 13 → (aOK (cf k9) (nf k9) ∧ ru k9 ≤ 12) ∧ wd_at w826 (aa k9) (.inr (1, [.ref (ga0 k9), .ref (ga1 k9), .ref (ga2 k9), .ref (ga3 k9), .ref (ga4 k9), .int (nI (ru k9))])) ∧ tg (aa k9) = 200 + k9 ∧ wd_at w826 (ga0 k9) (.inl (cy 2, 12, .inl (df k9))) ∧ tg (ga0 k9) = 220 + k9 ∧ wd_at w826 (ga1 k9) (.inl (cy 2, 12, .inl (cf k9))) ∧ tg (ga1 k9) = 240 + k9 ∧ wd_at w826 (ga2 k9) (.inl (cy 2, 72, .inl (nf k9))) ∧ tg (ga2 k9) = 260 + k9 ∧ wd_at w826 (ga3 k9) (.inl (cy 1, 72, .inl (sf k9))) ∧ tg (ga3 k9) = 280 + k9 ∧ wd_at w826 (ga4 k9) (.inl (cy 2, 72, .inl (uf k9))) ∧ tg (ga4 k9) = 300 + k9 := fun k9 hi9 => ⟨(fm820 k9 hi9).1, wd_at.pt ew827 (fm820 k9 hi9).2.1 (tg_ne (fm820 k9 hi9).2.2.1 tI0 (tnA (show 0 < 200 by decide))), (fm820 k9 hi9).2.2.1, wd_at.pt ew827 (fm820 k9 hi9).2.2.2.1 (tg_ne (fm820 k9 hi9).2.2.2.2.1 tI0 (tnA (show 0 < 220 by decide))), (fm820 k9 hi9).2.2.2.2.1, wd_at.pt ew827 (fm820 k9 hi9).2.2.2.2.2.1 (tg_ne (fm820 k9 hi9).2.2.2.2.2.2.1 tI0 (tnA (show 0 < 240 by decide))), (fm820 k9 hi9).2.2.2.2.2.2.1, wd_at.pt ew827 (fm820 k9 hi9).2.2.2.2.2.2.2.1 (tg_ne (fm820 k9 hi9).2.2.2.2.2.2.2.2.1 tI0 (tnA (show 0 < 260 by decide))), (fm820 k9 hi9).2.2.2.2.2.2.2.2.1, wd_at.pt ew827 (fm820 k9 hi9).2.2.2.2.2.2.2.2.2.1 (tg_ne (fm820 k9 hi9).2.2.2.2.2.2.2.2.2.2.1 tI0 (tnA (show 0 < 280 by decide))), (fm820 k9 hi9).2.2.2.2.2.2.2.2.2.2.1, wd_at.pt ew827 (fm820 k9 hi9).2.2.2.2.2.2.2.2.2.2.2.1 (tg_ne (fm820 k9 hi9).2.2.2.2.2.2.2.2.2.2.2.2 tI0 (tnA (show 0 < 300 by decide))), (fm820 k9 hi9).2.2.2.2.2.2.2.2.2.2.2.2⟩
                have fm866 : ∀ k9, k9 < pc → pf k9 = some (pa k9) ∧ wd_at w826 (pa k9) (.inr (3, [.int (plv k9), .int (pwo k9), .int (phd k9), .int (pgd k9), .int (pdy k9), .int (pno k9), .int (ptp k9)])) ∧ tg (pa k9) = 3000 + k9 := fun k9 hi9 => ⟨(fm821 k9 hi9).1, wd_at.pt ew827 (fm821 k9 hi9).2.1 (tg_ne (fm821 k9 hi9).2.2 tI0 (tnA (show 0 < 3000 by decide))), (fm821 k9 hi9).2.2⟩
                have fm867 : ∀ k9, k9 < ac → af k9 = some (ad k9) ∧ wd_at w826 (ad k9) (.inr (0, [.int (av0 k9), .int (av1 k9), .int (av2 k9), .int (av3 k9)])) ∧ tg (ad k9) = 4000 + k9 := fun k9 hi9 => ⟨(fm822 k9 hi9).1, wd_at.pt ew827 (fm822 k9 hi9).2.1 (tg_ne (fm822 k9 hi9).2.2 tI0 (tnA (show 0 < 4000 by decide))), (fm822 k9 hi9).2.2⟩
                have fm868 : ∀ k9, k9 < sc → zf k9 = some (so k9) ∧ wd_at w826 (so k9) (.inr (6, [.int (sp0 k9), .int (sp1 k9), .ref (sr k9)])) ∧ tg (so k9) = 5000 + k9 ∧ wd_at w826 (sr k9) (.inl (cy 2, 12, .inl (sd k9))) ∧ tg (sr k9) = 6000 + k9 := fun k9 hi9 => ⟨(fm823 k9 hi9).1, wd_at.pt ew827 (fm823 k9 hi9).2.1 (tg_ne (fm823 k9 hi9).2.2.1 tI0 (tnA (show 0 < 5000 by decide))), (fm823 k9 hi9).2.2.1, wd_at.pt ew827 (fm823 k9 hi9).2.2.2.1 (tg_ne (fm823 k9 hi9).2.2.2.2 tI0 (tnA (show 0 < 6000 by decide))), (fm823 k9 hi9).2.2.2.2⟩
                have fm869 : ∀ k9, k9 < sh → (hf k9 = some (sw k9) ∧ hto k9 < 12) ∧ wd_at w826 (sw k9) (.inr (5, [.int (nI (hto k9)), .int (hpp k9), .int (hle k9), .int (ham k9), .int (hhh k9), .int (hdd k9), .int (hru k9), .int (hde k9), .int (hcp k9), .int (hld k9)])) ∧ tg (sw k9) = 7000 + k9 := fun k9 hi9 => ⟨(fm824 k9 hi9).1, wd_at.pt ew827 (fm824 k9 hi9).2.1 (tg_ne (fm824 k9 hi9).2.2 tI0 (tnA (show 0 < 7000 by decide))), (fm824 k9 hi9).2.2⟩
                have kp870 := kp825.put ew827 (tgS tI0 (by decide))
                refine lv_aload hx hb dX10_show_182 (lv_at hl 0 rfl) ?_
                refine x_get (ref := "NoteHouse$Shown") F hP k856 rfl (fun _ h => List.mem_cons_of_mem _ (List.mem_append_left _ (List.mem_append_left _ (List.mem_append_left _ (List.mem_append_left _ (List.mem_append_left _ (List.mem_append_right _ (h)))))))) 7 (Nat.le_of_ble_eq_true rfl) (List.mem_cons_of_mem _ (List.mem_append_left _ (List.mem_append_left _ (List.mem_append_left _ (List.mem_append_left _ (List.mem_append_left _ (List.mem_append_left _ (List.mem_append_left _ (List.mem_append_left _ (List.mem_append_left _ (List.mem_of_getElem? (i := 10) rfl))))))))))) rfl rfl dX10_show_184 ?_
                have fm872 : ∀ i9, i9 < 12 → tf i9 = some (tn i9) ∧ wd_at w826 (tn i9) (.inr (8, [.int (co i9), .int (ra i9), .int (se i9), .ref (ag i9)])) ∧ (va_up tg q538 (7000 + sh)) (tn i9) = 100 + i9 := fun i9 hi9 => ⟨(fm864 i9 hi9).1, (fm864 i9 hi9).2.1, ((va_up_ne _ _ (fn572 i9 hi9)).trans (fm864 i9 hi9).2.2)⟩
                have fm873 : ∀ k9, k9 < 13 → (aOK (cf k9) (nf k9) ∧ ru k9 ≤ 12) ∧ wd_at w826 (aa k9) (.inr (1, [.ref (ga0 k9), .ref (ga1 k9), .ref (ga2 k9), .ref (ga3 k9), .ref (ga4 k9), .int (nI (ru k9))])) ∧ (va_up tg q538 (7000 + sh)) (aa k9) = 200 + k9 ∧ wd_at w826 (ga0 k9) (.inl (cy 2, 12, .inl (df k9))) ∧ (va_up tg q538 (7000 + sh)) (ga0 k9) = 220 + k9 ∧ wd_at w826 (ga1 k9) (.inl (cy 2, 12, .inl (cf k9))) ∧ (va_up tg q538 (7000 + sh)) (ga1 k9) = 240 + k9 ∧ wd_at w826 (ga2 k9) (.inl (cy 2, 72, .inl (nf k9))) ∧ (va_up tg q538 (7000 + sh)) (ga2 k9) = 260 + k9 ∧ wd_at w826 (ga3 k9) (.inl (cy 1, 72, .inl (sf k9))) ∧ (va_up tg q538 (7000 + sh)) (ga3 k9) = 280 + k9 ∧ wd_at w826 (ga4 k9) (.inl (cy 2, 72, .inl (uf k9))) ∧ (va_up tg q538 (7000 + sh)) (ga4 k9) = 300 + k9 := fun k9 hi9 => ⟨(fm865 k9 hi9).1, (fm865 k9 hi9).2.1, ((va_up_ne _ _ ((fn574 k9 hi9).1)).trans (fm865 k9 hi9).2.2.1), (fm865 k9 hi9).2.2.2.1, ((va_up_ne _ _ ((fn574 k9 hi9).2.1)).trans (fm865 k9 hi9).2.2.2.2.1), (fm865 k9 hi9).2.2.2.2.2.1, ((va_up_ne _ _ ((fn574 k9 hi9).2.2.1)).trans (fm865 k9 hi9).2.2.2.2.2.2.1), (fm865 k9 hi9).2.2.2.2.2.2.2.1, ((va_up_ne _ _ ((fn574 k9 hi9).2.2.2.1)).trans (fm865 k9 hi9).2.2.2.2.2.2.2.2.1), (fm865 k9 hi9).2.2.2.2.2.2.2.2.2.1, ((va_up_ne _ _ ((fn574 k9 hi9).2.2.2.2.1)).trans (fm865 k9 hi9).2.2.2.2.2.2.2.2.2.2.1), (fm865 k9 hi9).2.2.2.2.2.2.2.2.2.2.2.1, ((va_up_ne _ _ ((fn574 k9 hi9).2.2.2.2.2)).trans (fm865 k9 hi9).2.2.2.2.2.2.2.2.2.2.2.2)⟩
                have fm874 : ∀ k9, k9 < pc → pf k9 = some (pa k9) ∧ wd_at w826 (pa k9) (.inr (3, [.int (plv k9), .int (pwo k9), .int (phd k9), .int (pgd k9), .int (pdy k9), .int (pno k9), .int (ptp k9)])) ∧ (va_up tg q538 (7000 + sh)) (pa k9) = 3000 + k9 := fun k9 hi9 => ⟨(fm866 k9 hi9).1, (fm866 k9 hi9).2.1, ((va_up_ne _ _ (fn576 k9 hi9)).trans (fm866 k9 hi9).2.2)⟩
                have fm875 : ∀ k9, k9 < ac → af k9 = some (ad k9) ∧ wd_at w826 (ad k9) (.inr (0, [.int (av0 k9), .int (av1 k9), .int (av2 k9), .int (av3 k9)])) ∧ (va_up tg q538 (7000 + sh)) (ad k9) = 4000 + k9 := fun k9 hi9 => ⟨(fm867 k9 hi9).1, (fm867 k9 hi9).2.1, ((va_up_ne _ _ (fn578 k9 hi9)).trans (fm867 k9 hi9).2.2)⟩
                have fm876 : ∀ k9, k9 < sc → zf k9 = some (so k9) ∧ wd_at w826 (so k9) (.inr (6, [.int (sp0 k9), .int (sp1 k9), .ref (sr k9)])) ∧ (va_up tg q538 (7000 + sh)) (so k9) = 5000 + k9 ∧ wd_at w826 (sr k9) (.inl (cy 2, 12, .inl (sd k9))) ∧ (va_up tg q538 (7000 + sh)) (sr k9) = 6000 + k9 := fun k9 hi9 => ⟨(fm868 k9 hi9).1, (fm868 k9 hi9).2.1, ((va_up_ne _ _ ((fn580 k9 hi9).1)).trans (fm868 k9 hi9).2.2.1), (fm868 k9 hi9).2.2.2.1, ((va_up_ne _ _ ((fn580 k9 hi9).2)).trans (fm868 k9 hi9).2.2.2.2)⟩
                have fm877 : ∀ k9, k9 < sh → (hf k9 = some (sw k9) ∧ hto k9 < 12) ∧ wd_at w826 (sw k9) (.inr (5, [.int (nI (hto k9)), .int (hpp k9), .int (hle k9), .int (ham k9), .int (hhh k9), .int (hdd k9), .int (hru k9), .int (hde k9), .int (hcp k9), .int (hld k9)])) ∧ (va_up tg q538 (7000 + sh)) (sw k9) = 7000 + k9 := fun k9 hi9 => ⟨(fm869 k9 hi9).1, (fm869 k9 hi9).2.1, ((va_up_ne _ _ (fn582 k9 hi9)).trans (fm869 k9 hi9).2.2)⟩
                have k878 : wd_at w826 a5 (.inl (cy 7, 200, .inr (.inr (.inr (.inr (va_up hf sh (some q538))))))) := by have h9 := k838; rw [nI_clamp (n := sh) (by omega)] at h9; exact h9
                have fm879 : ∀ k9, k9 < (sh + 1) → ((va_up hf sh (some q538)) k9 = some ((va_up sw sh q538) k9) ∧ (va_up hto sh t) k9 < 12) ∧ wd_at w826 ((va_up sw sh q538) k9) (.inr (5, [.int (nI ((va_up hto sh t) k9)), .int ((va_up hpp sh x2) k9), .int ((va_up hle sh x3) k9), .int ((va_up ham sh (pwo j4)) k9), .int ((va_up hhh sh x5) k9), .int ((va_up hdd sh td) k9), .int ((va_up hru sh rx684) k9), .int ((va_up hde sh rx734) k9), .int ((va_up hcp sh 0) k9), .int ((va_up hld sh (-1)) k9)])) ∧ (va_up tg q538 (7000 + sh)) ((va_up sw sh q538) k9) = 7000 + k9 := by
                  intro k9 hi9
                  by_cases e9 : k9 = sh
                  · rw [e9]
                    exact ⟨⟨by rw [va_up_self, va_up_self], by rw [va_up_self]; omega⟩, (by simp only [va_up_self]; exact k856), (by rw [va_up_self]; exact (va_up_self _ _ _))⟩
                  · simp only [va_up_ne _ _ e9]
                    exact fm877 k9 (by omega)
                have hX880 : IX cy (va_up tg q538 (7000 + sh)) x td pc ac sc ln se plv w826 := IX.mk a0 a1 a2 a3 a4 a5 a6 a7 a8 a10 a11 b0 b1 b2 b3 tb l0 l1 l2 l3 l4 l5 l6 l7 bl bm (sh + 1) gc sg lu lv9 f0 f1 f2 f3 tbf e0 e1 e4 e5 e7 ffx627 bf bf2 e2 e3 e6 ta sz fo to fo2 to2 tf tn ag co ra aa ru ga0 ga1 ga2 ga3 ga4 df cf nf sf uf pf pa pwo phd pgd pdy pno ptp af ad av0 av1 av2 av3 zf so sr sp0 sp1 sd (va_up hf sh (some q538)) (va_up sw sh q538) (va_up hto sh t) (va_up hpp sh x2) (va_up hle sh x3) (va_up ham sh (pwo j4)) (va_up hhh sh x5) (va_up hdd sh td) (va_up hru sh rx684) (va_up hde sh rx734) (va_up hcp sh 0) (va_up hld sh (-1)) (by omega) (by omega) (by omega) (by omega) (by omega) (by omega) (by omega) (by omega) hag k828 ((va_up_ne _ _ (wd_nL hq541 kI0)).trans tI0) k829 ((va_up_ne _ _ (wd_nL hq541 kI1)).trans tI1) k830 ((va_up_ne _ _ (wd_nL hq541 kI2)).trans tI2) k831 ((va_up_ne _ _ (wd_nL hq541 kI3)).trans tI3) k832 ((va_up_ne _ _ (wd_nL hq541 kI4)).trans tI4) k833 ((va_up_ne _ _ (wd_nL hq541 kI5)).trans tI5) k834 ((va_up_ne _ _ (wd_nL hq541 kI6)).trans tI6) k835 ((va_up_ne _ _ (wd_nL hq541 kI7)).trans tI7) k836 ((va_up_ne _ _ (wd_nL hq541 kI8)).trans tI8) k837 ((va_up_ne _ _ (wd_nL hq541 kI9)).trans tI9) k878 ((va_up_ne _ _ (wd_nL hq541 kI10)).trans tI10) k839 ((va_up_ne _ _ (wd_nL hq541 kI11)).trans tI11) k840 ((va_up_ne _ _ (wd_nL hq541 kI12)).trans tI12) k841 ((va_up_ne _ _ (wd_nL hq541 kI13)).trans tI13) k842 ((va_up_ne _ _ (wd_nL hq541 kI14)).trans tI14) k843 ((va_up_ne _ _ (wd_nL hq541 kI15)).trans tI15) k844 ((va_up_ne _ _ (wd_nL hq541 kI16)).trans tI16) k845 ((va_up_ne _ _ (wd_nL hq541 kI17)).trans tI17) k846 ((va_up_ne _ _ (wd_nL hq541 kI18)).trans tI18) k847 ((va_up_ne _ _ (wd_nL hq541 kI19)).trans tI19) k848 ((va_up_ne _ _ (wd_nL hq541 kI20)).trans tI20) k849 ((va_up_ne _ _ (wd_nL hq541 kI21)).trans tI21) k850 ((va_up_ne _ _ (wd_nL hq541 kI22)).trans tI22) k851 ((va_up_ne _ _ (wd_nL hq541 kI23)).trans tI23) k852 ((va_up_ne _ _ (wd_nL hq541 kI24)).trans tI24) k853 ((va_up_ne _ _ (wd_nL hq541 kI25)).trans tI25) k854 ((va_up_ne _ _ (wd_nL hq541 kI26)).trans tI26) fm872 fm873 fm874 fm875 fm876 fm879
                exact y_ir K hP hD hS (Nat.le_of_ble_eq_true rfl) (Nat.le_of_ble_eq_true rfl) (ty := .int) rfl rfl dX10_show_187 (⟨⟨_, rfl⟩, ⟨(va_up tg q538 (7000 + sh)), (fun a9 ha9 => (va_up_ne _ _ (fun q9 : a9 = q538 => (kp0.out hq541) (q9 ▸ ha9)))), kp870, hX880⟩⟩)
              · refine lv_aload_n hx hb dX10_show_151 rfl (lv_at hl 3 rfl) ?_
                refine lv_aload hx hb dX10_show_152 (lv_at hl 0 rfl) ?_
                refine lv_aload hx hb dX10_show_154 (lv_at hl 2 rfl) ?_
                refine lv_iload hx hb dX10_show_156 (lv_at hl 9 rfl) ?_
                refine x_callV (n := 3) (As := [.ref q538, .ref (pa j4), .int x6]) (rest := []) F hP hD hS (g_payOut l D cy sk sv w735 x a0 a1 a2 a3 a4 a5 a6 a7 a8 (aa sg) a10 a11 pc ac sc sh td tg tf tn ag co ra se b0 b1 b2 b3 f0 f1 f2 f3 q538 t x2 x3 (pwo j4) x5 td rx684 rx734 0 (-1) (pa j4) (plv j4) (pwo j4) (phd j4) (pgd j4) (pdy j4) (pno j4) (ptp j4) x6 k737 k743 k738 k739 k740 k741 k742 k765 k764 fm773 (fun b => b = q538 ∨ b = (pa j4) ∨ b = b2 ∨ b = b3) (Or.inl rfl) (Or.inr (Or.inl rfl)) (Or.inr (Or.inr (Or.inl rfl))) (Or.inr (Or.inr (Or.inr rfl))) (by omega) (tg_ne tI4 tI5 (by decide))) gX10_show_X10_payOut rfl rfl (by decide +kernel) ⟨(Nat.le_of_ble_eq_true rfl), (Nat.le_of_ble_eq_true rfl)⟩ rfl hl.1 (Nat.le_of_ble_eq_true rfl) k737 rfl dX10_show_158 rfl ⟨(Nat.le_of_ble_eq_true rfl), (Nat.le_of_ble_eq_true rfl)⟩ (fun v882 w883 hp881 H locs hP hD hS => ?_)
                obtain ⟨cpx884, ldx885, nox886, tpx887, dx888, px889, rfl, kq894, k890, k891, k892, k893⟩ := hp881
                have fm895 : ∀ k9, k9 < pc ∧ k9 ≠ j4 → pf k9 = some (pa k9) ∧ wd_at w735 (pa k9) (.inr (3, [.int (plv k9), .int (pwo k9), .int (phd k9), .int (pgd k9), .int (pdy k9), .int (pno k9), .int (ptp k9)])) ∧ tg (pa k9) = 3000 + k9 := fun k9 hi8 => fm775 k9 hi8.1
                have fn896 := fun k9 (hi8 : k9 < pc ∧ k9 ≠ j4) => fn576 k9 hi8.1
                have k897 := kq894.2 _ _ k737 (orN (wd_nL hq541 kI0) (orN (tg_ne tI0 tz15 (tnA2 (show 0 < 3000 by decide))) (orN (tg_ne tI0 tI4 (by decide)) (tg_ne tI0 tI5 (by decide)))))
                have k898 := kq894.2 _ _ k738 (orN (wd_nL hq541 kI1) (orN (tg_ne tI1 tz15 (tnA2 (show 1 < 3000 by decide))) (orN (tg_ne tI1 tI4 (by decide)) (tg_ne tI1 tI5 (by decide)))))
                have k899 := kq894.2 _ _ k739 (orN (wd_nL hq541 kI2) (orN (tg_ne tI2 tz15 (tnA2 (show 2 < 3000 by decide))) (orN (tg_ne tI2 tI4 (by decide)) (tg_ne tI2 tI5 (by decide)))))
                have k900 := kq894.2 _ _ k740 (orN (wd_nL hq541 kI3) (orN (tg_ne tI3 tz15 (tnA2 (show 3 < 3000 by decide))) (orN (tg_ne tI3 tI4 (by decide)) (tg_ne tI3 tI5 (by decide)))))
                have k901 := kq894.2 _ _ k743 (orN (wd_nL hq541 kI6) (orN (tg_ne tI6 tz15 (tnA2 (show 6 < 3000 by decide))) (orN (tg_ne tI6 tI4 (by decide)) (tg_ne tI6 tI5 (by decide)))))
                have k902 := kq894.2 _ _ k744 (orN (wd_nL hq541 kI7) (orN (tg_ne tI7 tz15 (tnA2 (show 7 < 3000 by decide))) (orN (tg_ne tI7 tI4 (by decide)) (tg_ne tI7 tI5 (by decide)))))
                have k903 := kq894.2 _ _ k745 (orN (wd_nL hq541 kI8) (orN (tg_ne tI8 tz15 (tnA2 (show 8 < 3000 by decide))) (orN (tg_ne tI8 tI4 (by decide)) (tg_ne tI8 tI5 (by decide)))))
                have k904 := kq894.2 _ _ k746 (orN (wd_nL hq541 kI9) (orN (tg_ne tI9 tz15 (tnA2 (show 9 < 3000 by decide))) (orN (tg_ne tI9 tI4 (by decide)) (tg_ne tI9 tI5 (by decide)))))
                have k905 := kq894.2 _ _ k747 (orN (wd_nL hq541 kI10) (orN (tg_ne tI10 tz15 (tnA2 (show 10 < 3000 by decide))) (orN (tg_ne tI10 tI4 (by decide)) (tg_ne tI10 tI5 (by decide)))))
                have k906 := kq894.2 _ _ k748 (orN (wd_nL hq541 kI11) (orN (tg_ne tI11 tz15 (tnA2 (show 11 < 3000 by decide))) (orN (tg_ne tI11 tI4 (by decide)) (tg_ne tI11 tI5 (by decide)))))
                have k907 := kq894.2 _ _ k749 (orN (wd_nL hq541 kI12) (orN (tg_ne tI12 tz15 (tnA2 (show 12 < 3000 by decide))) (orN (tg_ne tI12 tI4 (by decide)) (tg_ne tI12 tI5 (by decide)))))
                have k908 := kq894.2 _ _ k750 (orN (wd_nL hq541 kI13) (orN (tg_ne tI13 tz15 (tnA2 (show 13 < 3000 by decide))) (orN (tg_ne tI13 tI4 (by decide)) (tg_ne tI13 tI5 (by decide)))))
                have k909 := kq894.2 _ _ k751 (orN (wd_nL hq541 kI14) (orN (tg_ne tI14 tz15 (tnA2 (show 14 < 3000 by decide))) (orN (tg_ne tI14 tI4 (by decide)) (tg_ne tI14 tI5 (by decide)))))
                have k910 := kq894.2 _ _ k752 (orN (wd_nL hq541 kI15) (orN (tg_ne tI15 tz15 (tnA2 (show 15 < 3000 by decide))) (orN (tg_ne tI15 tI4 (by decide)) (tg_ne tI15 tI5 (by decide)))))
                have k911 := kq894.2 _ _ k753 (orN (wd_nL hq541 kI16) (orN (tg_ne tI16 tz15 (tnA2 (show 16 < 3000 by decide))) (orN (tg_ne tI16 tI4 (by decide)) (tg_ne tI16 tI5 (by decide)))))
                have k912 := kq894.2 _ _ k754 (orN (wd_nL hq541 kI17) (orN (tg_ne tI17 tz15 (tnA2 (show 17 < 3000 by decide))) (orN (tg_ne tI17 tI4 (by decide)) (tg_ne tI17 tI5 (by decide)))))
                have k913 := kq894.2 _ _ k755 (orN (wd_nL hq541 kI18) (orN (tg_ne tI18 tz15 (tnA2 (show 18 < 3000 by decide))) (orN (tg_ne tI18 tI4 (by decide)) (tg_ne tI18 tI5 (by decide)))))
                have k914 := kq894.2 _ _ k756 (orN (wd_nL hq541 kI19) (orN (tg_ne tI19 tz15 (tnA2 (show 19 < 3000 by decide))) (orN (tg_ne tI19 tI4 (by decide)) (tg_ne tI19 tI5 (by decide)))))
                have k915 := kq894.2 _ _ k757 (orN (wd_nL hq541 kI20) (orN (tg_ne tI20 tz15 (tnA2 (show 20 < 3000 by decide))) (orN (tg_ne tI20 tI4 (by decide)) (tg_ne tI20 tI5 (by decide)))))
                have k916 := kq894.2 _ _ k758 (orN (wd_nL hq541 kI21) (orN (tg_ne tI21 tz15 (tnA2 (show 21 < 3000 by decide))) (orN (tg_ne tI21 tI4 (by decide)) (tg_ne tI21 tI5 (by decide)))))
                have k917 := kq894.2 _ _ k759 (orN (wd_nL hq541 kI22) (orN (tg_ne tI22 tz15 (tnA2 (show 22 < 3000 by decide))) (orN (tg_ne tI22 tI4 (by decide)) (tg_ne tI22 tI5 (by decide)))))
                have k918 := kq894.2 _ _ k760 (orN (wd_nL hq541 kI23) (orN (tg_ne tI23 tz15 (tnB (n := 2) hlu (by decide))) (orN (tg_ne tI23 tI4 (tnA (show 4 < 30 by decide))) (tg_ne tI23 tI5 (tnA (show 5 < 30 by decide))))))
                have k919 := kq894.2 _ _ k761 (orN (wd_nL hq541 kI24) (orN (tg_ne tI24 tz15 (tnB (n := 2) hlu (by decide))) (orN (tg_ne tI24 tI4 (tnA (show 4 < 32 by decide))) (tg_ne tI24 tI5 (tnA (show 5 < 32 by decide))))))
                have k920 := kq894.2 _ _ k762 (orN (wd_nL hq541 kI25) (orN (tg_ne tI25 tz15 (tnB (n := 2) hlv (by decide))) (orN (tg_ne tI25 tI4 (tnA (show 4 < 30 by decide))) (tg_ne tI25 tI5 (tnA (show 5 < 30 by decide))))))
                have k921 := kq894.2 _ _ k763 (orN (wd_nL hq541 kI26) (orN (tg_ne tI26 tz15 (tnB (n := 2) hlv (by decide))) (orN (tg_ne tI26 tI4 (tnA (show 4 < 32 by decide))) (tg_ne tI26 tI5 (tnA (show 5 < 32 by decide))))))
                have k922 := kq894.2 _ _ k766 (orN (wd_nk k766 k765 rfl) (orN (tg_ne tz667 tz15 (tnB (n := 12) ht (by decide))) (orN (tg_ne tz667 tI4 (tnA (show 4 < 100 by decide))) (tg_ne tz667 tI5 (tnA (show 5 < 100 by decide))))))
                have k923 := kq894.2 _ _ k767 (orN (wd_nk k767 k765 rfl) (orN (tg_ne tz670 tz15 (tnB (n := 13) hs9 (by decide))) (orN (tg_ne tz670 tI4 (tnA (show 4 < 200 by decide))) (tg_ne tz670 tI5 (tnA (show 5 < 200 by decide))))))
                have k924 := kq894.2 _ _ k768 (orN (wd_nk k768 k765 rfl) (orN (tg_ne tz672 tz15 (tnB (n := 13) hs9 (by decide))) (orN (tg_ne tz672 tI4 (tnA (show 4 < 220 by decide))) (tg_ne tz672 tI5 (tnA (show 5 < 220 by decide))))))
                have k925 := kq894.2 _ _ k769 (orN (wd_nk k769 k765 rfl) (orN (tg_ne tz674 tz15 (tnB (n := 13) hs9 (by decide))) (orN (tg_ne tz674 tI4 (tnA (show 4 < 240 by decide))) (tg_ne tz674 tI5 (tnA (show 5 < 240 by decide))))))
                have k926 := kq894.2 _ _ k770 (orN (wd_nk k770 k765 rfl) (orN (tg_ne tz676 tz15 (tnB (n := 13) hs9 (by decide))) (orN (tg_ne tz676 tI4 (tnA (show 4 < 260 by decide))) (tg_ne tz676 tI5 (tnA (show 5 < 260 by decide))))))
                have k927 := kq894.2 _ _ k771 (orN (wd_nk k771 k765 rfl) (orN (tg_ne tz678 tz15 (tnB (n := 13) hs9 (by decide))) (orN (tg_ne tz678 tI4 (tnA (show 4 < 280 by decide))) (tg_ne tz678 tI5 (tnA (show 5 < 280 by decide))))))
                have k928 := kq894.2 _ _ k772 (orN (wd_nk k772 k765 rfl) (orN (tg_ne tz680 tz15 (tnB (n := 13) hs9 (by decide))) (orN (tg_ne tz680 tI4 (tnA (show 4 < 300 by decide))) (tg_ne tz680 tI5 (tnA (show 5 < 300 by decide))))))
                have fm929 : ∀ i9, i9 < 12 → tf i9 = some (tn i9) ∧ wd_at w883 (tn i9) (.inr (8, [.int (co i9), .int (ra i9), .int (se i9), .ref (ag i9)])) ∧ tg (tn i9) = 100 + i9 := fun i9 hi9 => ⟨(fm773 i9 hi9).1, kq894.2 _ _ (fm773 i9 hi9).2.1 (orN (fn572 i9 hi9) (orN (tg_ne (fm773 i9 hi9).2.2 tz15 (tnB (n := 12) hi9 (by decide))) (orN (tg_ne (fm773 i9 hi9).2.2 tI4 (tnA (show 4 < 100 by decide))) (tg_ne (fm773 i9 hi9).2.2 tI5 (tnA (show 5 < 100 by decide)))))), (fm773 i9 hi9).2.2⟩
                have fm930 : ∀ k9, k9 < 13 → (aOK (cf k9) (nf k9) ∧ ru k9 ≤ 12) ∧ wd_at w883 (aa k9) (.inr (1, [.ref (ga0 k9), .ref (ga1 k9), .ref (ga2 k9), .ref (ga3 k9), .ref (ga4 k9), .int (nI (ru k9))])) ∧ tg (aa k9) = 200 + k9 ∧ wd_at w883 (ga0 k9) (.inl (cy 2, 12, .inl (df k9))) ∧ tg (ga0 k9) = 220 + k9 ∧ wd_at w883 (ga1 k9) (.inl (cy 2, 12, .inl (cf k9))) ∧ tg (ga1 k9) = 240 + k9 ∧ wd_at w883 (ga2 k9) (.inl (cy 2, 72, .inl (nf k9))) ∧ tg (ga2 k9) = 260 + k9 ∧ wd_at w883 (ga3 k9) (.inl (cy 1, 72, .inl (sf k9))) ∧ tg (ga3 k9) = 280 + k9 ∧ wd_at w883 (ga4 k9) (.inl (cy 2, 72, .inl (uf k9))) ∧ tg (ga4 k9) = 300 + k9 := fun k9 hi9 => ⟨(fm774 k9 hi9).1, kq894.2 _ _ (fm774 k9 hi9).2.1 (orN ((fn574 k9 hi9).1) (orN (tg_ne (fm774 k9 hi9).2.2.1 tz15 (tnB (n := 13) hi9 (by decide))) (orN (tg_ne (fm774 k9 hi9).2.2.1 tI4 (tnA (show 4 < 200 by decide))) (tg_ne (fm774 k9 hi9).2.2.1 tI5 (tnA (show 5 < 200 by decide)))))), (fm774 k9 hi9).2.2.1, kq894.2 _ _ (fm774 k9 hi9).2.2.2.1 (orN ((fn574 k9 hi9).2.1) (orN (tg_ne (fm774 k9 hi9).2.2.2.2.1 tz15 (tnB (n := 13) hi9 (by decide))) (orN (tg_ne (fm774 k9 hi9).2.2.2.2.1 tI4 (tnA (show 4 < 220 by decide))) (tg_ne (fm774 k9 hi9).2.2.2.2.1 tI5 (tnA (show 5 < 220 by decide)))))), (fm774 k9 hi9).2.2.2.2.1, kq894.2 _ _ (fm774 k9 hi9).2.2.2.2.2.1 (orN ((fn574 k9 hi9).2.2.1) (orN (tg_ne (fm774 k9 hi9).2.2.2.2.2.2.1 tz15 (tnB (n := 13) hi9 (by decide))) (orN (tg_ne (fm774 k9 hi9).2.2.2.2.2.2.1 tI4 (tnA (show 4 < 240 by decide))) (tg_ne (fm774 k9 hi9).2.2.2.2.2.2.1 tI5 (tnA (show 5 < 240 by decide)))))), (fm774 k9 hi9).2.2.2.2.2.2.1, kq894.2 _ _ (fm774 k9 hi9).2.2.2.2.2.2.2.1 (orN ((fn574 k9 hi9).2.2.2.1) (orN (tg_ne (fm774 k9 hi9).2.2.2.2.2.2.2.2.1 tz15 (tnB (n := 13) hi9 (by decide))) (orN (tg_ne (fm774 k9 hi9).2.2.2.2.2.2.2.2.1 tI4 (tnA (show 4 < 260 by decide))) (tg_ne (fm774 k9 hi9).2.2.2.2.2.2.2.2.1 tI5 (tnA (show 5 < 260 by decide)))))), (fm774 k9 hi9).2.2.2.2.2.2.2.2.1, kq894.2 _ _ (fm774 k9 hi9).2.2.2.2.2.2.2.2.2.1 (orN ((fn574 k9 hi9).2.2.2.2.1) (orN (tg_ne (fm774 k9 hi9).2.2.2.2.2.2.2.2.2.2.1 tz15 (tnB (n := 13) hi9 (by decide))) (orN (tg_ne (fm774 k9 hi9).2.2.2.2.2.2.2.2.2.2.1 tI4 (tnA (show 4 < 280 by decide))) (tg_ne (fm774 k9 hi9).2.2.2.2.2.2.2.2.2.2.1 tI5 (tnA (show 5 < 280 by decide)))))), (fm774 k9 hi9).2.2.2.2.2.2.2.2.2.2.1, kq894.2 _ _ (fm774 k9 hi9).2.2.2.2.2.2.2.2.2.2.2.1 (orN ((fn574 k9 hi9).2.2.2.2.2) (orN (tg_ne (fm774 k9 hi9).2.2.2.2.2.2.2.2.2.2.2.2 tz15 (tnB (n := 13) hi9 (by decide))) (orN (tg_ne (fm774 k9 hi9).2.2.2.2.2.2.2.2.2.2.2.2 tI4 (tnA (show 4 < 300 by decide))) (tg_ne (fm774 k9 hi9).2.2.2.2.2.2.2.2.2.2.2.2 tI5 (tnA (show 5 < 300 by decide)))))), (fm774 k9 hi9).2.2.2.2.2.2.2.2.2.2.2.2⟩
                have fm931 : ∀ k9, k9 < pc ∧ k9 ≠ j4 → pf k9 = some (pa k9) ∧ wd_at w883 (pa k9) (.inr (3, [.int (plv k9), .int (pwo k9), .int (phd k9), .int (pgd k9), .int (pdy k9), .int (pno k9), .int (ptp k9)])) ∧ tg (pa k9) = 3000 + k9 := fun k9 hi9 => ⟨(fm895 k9 hi9).1, kq894.2 _ _ (fm895 k9 hi9).2.1 (orN (fn896 k9 hi9) (orN (tg_ne (fm895 k9 hi9).2.2 tz15 (tnS hi9.2)) (orN (tg_ne (fm895 k9 hi9).2.2 tI4 (tnA (show 4 < 3000 by decide))) (tg_ne (fm895 k9 hi9).2.2 tI5 (tnA (show 5 < 3000 by decide)))))), (fm895 k9 hi9).2.2⟩
                have fm932 : ∀ k9, k9 < ac → af k9 = some (ad k9) ∧ wd_at w883 (ad k9) (.inr (0, [.int (av0 k9), .int (av1 k9), .int (av2 k9), .int (av3 k9)])) ∧ tg (ad k9) = 4000 + k9 := fun k9 hi9 => ⟨(fm776 k9 hi9).1, kq894.2 _ _ (fm776 k9 hi9).2.1 (orN (fn578 k9 hi9) (orN (tg_ne (fm776 k9 hi9).2.2 tz15 (tnB2 (n := 30) (Nat.lt_of_lt_of_le hn5 hp90) (by decide))) (orN (tg_ne (fm776 k9 hi9).2.2 tI4 (tnA (show 4 < 4000 by decide))) (tg_ne (fm776 k9 hi9).2.2 tI5 (tnA (show 5 < 4000 by decide)))))), (fm776 k9 hi9).2.2⟩
                have fm933 : ∀ k9, k9 < sc → zf k9 = some (so k9) ∧ wd_at w883 (so k9) (.inr (6, [.int (sp0 k9), .int (sp1 k9), .ref (sr k9)])) ∧ tg (so k9) = 5000 + k9 ∧ wd_at w883 (sr k9) (.inl (cy 2, 12, .inl (sd k9))) ∧ tg (sr k9) = 6000 + k9 := fun k9 hi9 => ⟨(fm777 k9 hi9).1, kq894.2 _ _ (fm777 k9 hi9).2.1 (orN ((fn580 k9 hi9).1) (orN (tg_ne (fm777 k9 hi9).2.2.1 tz15 (tnB2 (n := 30) (Nat.lt_of_lt_of_le hn5 hp90) (by decide))) (orN (tg_ne (fm777 k9 hi9).2.2.1 tI4 (tnA (show 4 < 5000 by decide))) (tg_ne (fm777 k9 hi9).2.2.1 tI5 (tnA (show 5 < 5000 by decide)))))), (fm777 k9 hi9).2.2.1, kq894.2 _ _ (fm777 k9 hi9).2.2.2.1 (orN ((fn580 k9 hi9).2) (orN (tg_ne (fm777 k9 hi9).2.2.2.2 tz15 (tnB2 (n := 30) (Nat.lt_of_lt_of_le hn5 hp90) (by decide))) (orN (tg_ne (fm777 k9 hi9).2.2.2.2 tI4 (tnA (show 4 < 6000 by decide))) (tg_ne (fm777 k9 hi9).2.2.2.2 tI5 (tnA (show 5 < 6000 by decide)))))), (fm777 k9 hi9).2.2.2.2⟩
                have fm934 : ∀ k9, k9 < sh → (hf k9 = some (sw k9) ∧ hto k9 < 12) ∧ wd_at w883 (sw k9) (.inr (5, [.int (nI (hto k9)), .int (hpp k9), .int (hle k9), .int (ham k9), .int (hhh k9), .int (hdd k9), .int (hru k9), .int (hde k9), .int (hcp k9), .int (hld k9)])) ∧ tg (sw k9) = 7000 + k9 := fun k9 hi9 => ⟨(fm778 k9 hi9).1, kq894.2 _ _ (fm778 k9 hi9).2.1 (orN (fn582 k9 hi9) (orN (tg_ne (fm778 k9 hi9).2.2 tz15 (tnB2 (n := 30) (Nat.lt_of_lt_of_le hn5 hp90) (by decide))) (orN (tg_ne (fm778 k9 hi9).2.2 tI4 (tnA (show 4 < 7000 by decide))) (tg_ne (fm778 k9 hi9).2.2 tI5 (tnA (show 5 < 7000 by decide)))))), (fm778 k9 hi9).2.2⟩
                have kp935 := kp779.tr kq894 (fun b9 hm q9 => (fun q9 => Or.elim q9 (fun q9 => absurd (q9 ▸ hm) (kp0.out hq541)) (fun q9 => Or.elim q9 (fun q9 => q9 ▸ (tgS tz15 (by omega))) (fun q9 => Or.elim q9 (fun q9 => q9 ▸ (tgS tI4 (by decide))) (fun q9 => q9 ▸ (tgS tI5 (by decide)))))) q9)
                refine W.eq (g2 := F0 m 161 ls []) rfl (W.widen (k := 1) (n := 10) (Nat.le_of_ble_eq_true rfl) (Nat.le_of_ble_eq_true rfl) ?_)
                refine lv_aload_n hx hb dX10_show_161 rfl (lv_at hl 3 rfl) ?_
                refine x_get (ref := "NoteHouse") F hP k897 rfl (fun _ h => List.mem_cons_of_mem _ (List.mem_append_left _ (List.mem_append_left _ (List.mem_append_left _ (List.mem_append_left _ (List.mem_append_left _ (List.mem_append_left _ (List.mem_append_left _ (List.mem_append_right _ (h)))))))))) 5 (Nat.le_of_ble_eq_true rfl) (List.mem_cons_of_mem _ (List.mem_append_left _ (List.mem_append_left _ (List.mem_append_left _ (List.mem_append_left _ (List.mem_append_left _ (List.mem_append_left _ (List.mem_append_left _ (List.mem_append_left _ (List.mem_append_left _ (List.mem_of_getElem? (i := 11) rfl))))))))))) rfl rfl dX10_show_162 ?_
                refine lv_aload_n hx hb dX10_show_165 rfl (lv_at hl 3 rfl) ?_
                refine x_get (ref := "NoteHouse") F hP k897 rfl (fun _ h => List.mem_cons_of_mem _ (List.mem_append_left _ (List.mem_append_left _ (List.mem_append_left _ (List.mem_append_left _ (List.mem_append_left _ (List.mem_append_left _ (List.mem_append_left _ (List.mem_append_right _ (h)))))))))) 16 (Nat.le_of_ble_eq_true rfl) (List.mem_cons_of_mem _ (List.mem_append_left _ (List.mem_append_left _ (List.mem_append_left _ (List.mem_append_left _ (List.mem_append_left _ (List.mem_append_left _ (List.mem_append_left _ (List.mem_append_left _ (List.mem_append_left _ (List.mem_of_getElem? (i := 0) rfl))))))))))) rfl rfl dX10_show_166 ?_
                refine lv_aload hx hb dX10_show_169 (lv_at hl 0 rfl) ?_
                refine y_aast F hP hD hS k905 rfl k890 rfl (vp_in_nI (n := sh) (N := 200) (by omega) (by decide)) dX10_show_171 (fun w936 ew937 H locs hP hD hS => ?_)
                have k938 := wd_at.pt ew937 k897 (tg_ne tI0 tI10 (by decide))
                have k939 := wd_at.pt ew937 k898 (tg_ne tI1 tI10 (by decide))
                have k940 := wd_at.pt ew937 k899 (tg_ne tI2 tI10 (by decide))
                have k941 := wd_at.pt ew937 k900 (tg_ne tI3 tI10 (by decide))
                have k942 := wd_at.pt ew937 k892 (tg_ne tI4 tI10 (by decide))
                have k943 := wd_at.pt ew937 k893 (tg_ne tI5 tI10 (by decide))
                have k944 := wd_at.pt ew937 k901 (tg_ne tI6 tI10 (by decide))
                have k945 := wd_at.pt ew937 k902 (tg_ne tI7 tI10 (by decide))
                have k946 := wd_at.pt ew937 k903 (tg_ne tI8 tI10 (by decide))
                have k947 := wd_at.pt ew937 k904 (tg_ne tI9 tI10 (by decide))
                have k948 : wd_at w936 a5 (.inl (cy 7, 200, .inr (.inr (.inr (.inr (va_up hf (nI sh).toNatClampNeg (some q538))))))) := wd_at.ps ew937 k905
                have k949 := wd_at.pt ew937 k906 (tg_ne tI11 tI10 (by decide))
                have k950 := wd_at.pt ew937 k907 (tg_ne tI12 tI10 (by decide))
                have k951 := wd_at.pt ew937 k908 (tg_ne tI13 tI10 (by decide))
                have k952 := wd_at.pt ew937 k909 (tg_ne tI14 tI10 (by decide))
                have k953 := wd_at.pt ew937 k910 (tg_ne tI15 tI10 (by decide))
                have k954 := wd_at.pt ew937 k911 (tg_ne tI16 tI10 (by decide))
                have k955 := wd_at.pt ew937 k912 (tg_ne tI17 tI10 (by decide))
                have k956 := wd_at.pt ew937 k913 (tg_ne tI18 tI10 (by decide))
                have k957 := wd_at.pt ew937 k914 (tg_ne tI19 tI10 (by decide))
                have k958 := wd_at.pt ew937 k915 (tg_ne tI20 tI10 (by decide))
                have k959 := wd_at.pt ew937 k916 (tg_ne tI21 tI10 (by decide))
                have k960 := wd_at.pt ew937 k917 (tg_ne tI22 tI10 (by decide))
                have k961 := wd_at.pt ew937 k918 (tg_ne tI23 tI10 (tnA (show 10 < 30 by decide)))
                have k962 := wd_at.pt ew937 k919 (tg_ne tI24 tI10 (tnA (show 10 < 32 by decide)))
                have k963 := wd_at.pt ew937 k920 (tg_ne tI25 tI10 (tnA (show 10 < 30 by decide)))
                have k964 := wd_at.pt ew937 k921 (tg_ne tI26 tI10 (tnA (show 10 < 32 by decide)))
                have k965 := wd_at.pt ew937 k891 (tg_ne tz15 tI10 (tnA (show 10 < 3000 by decide)))
                have k966 := wd_at.pt ew937 k890 (Ne.symm (wd_nL hq541 kI10))
                have k967 := wd_at.pt ew937 k922 (tg_ne tz667 tI10 (tnA (show 10 < 100 by decide)))
                have k968 := wd_at.pt ew937 k923 (tg_ne tz670 tI10 (tnA (show 10 < 200 by decide)))
                have k969 := wd_at.pt ew937 k924 (tg_ne tz672 tI10 (tnA (show 10 < 220 by decide)))
                have k970 := wd_at.pt ew937 k925 (tg_ne tz674 tI10 (tnA (show 10 < 240 by decide)))
                have k971 := wd_at.pt ew937 k926 (tg_ne tz676 tI10 (tnA (show 10 < 260 by decide)))
                have k972 := wd_at.pt ew937 k927 (tg_ne tz678 tI10 (tnA (show 10 < 280 by decide)))
                have k973 := wd_at.pt ew937 k928 (tg_ne tz680 tI10 (tnA (show 10 < 300 by decide)))
                have fm974 : ∀ i9, i9 < 12 → tf i9 = some (tn i9) ∧ wd_at w936 (tn i9) (.inr (8, [.int (co i9), .int (ra i9), .int (se i9), .ref (ag i9)])) ∧ tg (tn i9) = 100 + i9 := fun i9 hi9 => ⟨(fm929 i9 hi9).1, wd_at.pt ew937 (fm929 i9 hi9).2.1 (tg_ne (fm929 i9 hi9).2.2 tI10 (tnA (show 10 < 100 by decide))), (fm929 i9 hi9).2.2⟩
                have fm975 : ∀ k9, k9 < 13 → (aOK (cf k9) (nf k9) ∧ ru k9 ≤ 12) ∧ wd_at w936 (aa k9) (.inr (1, [.ref (ga0 k9), .ref (ga1 k9), .ref (ga2 k9), .ref (ga3 k9), .ref (ga4 k9), .int (nI (ru k9))])) ∧ tg (aa k9) = 200 + k9 ∧ wd_at w936 (ga0 k9) (.inl (cy 2, 12, .inl (df k9))) ∧ tg (ga0 k9) = 220 + k9 ∧ wd_at w936 (ga1 k9) (.inl (cy 2, 12, .inl (cf k9))) ∧ tg (ga1 k9) = 240 + k9 ∧ wd_at w936 (ga2 k9) (.inl (cy 2, 72, .inl (nf k9))) ∧ tg (ga2 k9) = 260 + k9 ∧ wd_at w936 (ga3 k9) (.inl (cy 1, 72, .inl (sf k9))) ∧ tg (ga3 k9) = 280 + k9 ∧ wd_at w936 (ga4 k9) (.inl (cy 2, 72, .inl (uf k9))) ∧ tg (ga4 k9) = 300 + k9 := fun k9 hi9 => ⟨(fm930 k9 hi9).1, wd_at.pt ew937 (fm930 k9 hi9).2.1 (tg_ne (fm930 k9 hi9).2.2.1 tI10 (tnA (show 10 < 200 by decide))), (fm930 k9 hi9).2.2.1, wd_at.pt ew937 (fm930 k9 hi9).2.2.2.1 (tg_ne (fm930 k9 hi9).2.2.2.2.1 tI10 (tnA (show 10 < 220 by decide))), (fm930 k9 hi9).2.2.2.2.1, wd_at.pt ew937 (fm930 k9 hi9).2.2.2.2.2.1 (tg_ne (fm930 k9 hi9).2.2.2.2.2.2.1 tI10 (tnA (show 10 < 240 by decide))), (fm930 k9 hi9).2.2.2.2.2.2.1, wd_at.pt ew937 (fm930 k9 hi9).2.2.2.2.2.2.2.1 (tg_ne (fm930 k9 hi9).2.2.2.2.2.2.2.2.1 tI10 (tnA (show 10 < 260 by decide))), (fm930 k9 hi9).2.2.2.2.2.2.2.2.1, wd_at.pt ew937 (fm930 k9 hi9).2.2.2.2.2.2.2.2.2.1 (tg_ne (fm930 k9 hi9).2.2.2.2.2.2.2.2.2.2.1 tI10 (tnA (show 10 < 280 by decide))), (fm930 k9 hi9).2.2.2.2.2.2.2.2.2.2.1, wd_at.pt ew937 (fm930 k9 hi9).2.2.2.2.2.2.2.2.2.2.2.1 (tg_ne (fm930 k9 hi9).2.2.2.2.2.2.2.2.2.2.2.2 tI10 (tnA (show 10 < 300 by decide))), (fm930 k9 hi9).2.2.2.2.2.2.2.2.2.2.2.2⟩
                have fm976 : ∀ k9, k9 < pc ∧ k9 ≠ j4 → pf k9 = some (pa k9) ∧ wd_at w936 (pa k9) (.inr (3, [.int (plv k9), .int (pwo k9), .int (phd k9), .int (pgd k9), .int (pdy k9), .int (pno k9), .int (ptp k9)])) ∧ tg (pa k9) = 3000 + k9 := fun k9 hi9 => ⟨(fm931 k9 hi9).1, wd_at.pt ew937 (fm931 k9 hi9).2.1 (tg_ne (fm931 k9 hi9).2.2 tI10 (tnA (show 10 < 3000 by decide))), (fm931 k9 hi9).2.2⟩
                have fm977 : ∀ k9, k9 < ac → af k9 = some (ad k9) ∧ wd_at w936 (ad k9) (.inr (0, [.int (av0 k9), .int (av1 k9), .int (av2 k9), .int (av3 k9)])) ∧ tg (ad k9) = 4000 + k9 := fun k9 hi9 => ⟨(fm932 k9 hi9).1, wd_at.pt ew937 (fm932 k9 hi9).2.1 (tg_ne (fm932 k9 hi9).2.2 tI10 (tnA (show 10 < 4000 by decide))), (fm932 k9 hi9).2.2⟩
                have fm978 : ∀ k9, k9 < sc → zf k9 = some (so k9) ∧ wd_at w936 (so k9) (.inr (6, [.int (sp0 k9), .int (sp1 k9), .ref (sr k9)])) ∧ tg (so k9) = 5000 + k9 ∧ wd_at w936 (sr k9) (.inl (cy 2, 12, .inl (sd k9))) ∧ tg (sr k9) = 6000 + k9 := fun k9 hi9 => ⟨(fm933 k9 hi9).1, wd_at.pt ew937 (fm933 k9 hi9).2.1 (tg_ne (fm933 k9 hi9).2.2.1 tI10 (tnA (show 10 < 5000 by decide))), (fm933 k9 hi9).2.2.1, wd_at.pt ew937 (fm933 k9 hi9).2.2.2.1 (tg_ne (fm933 k9 hi9).2.2.2.2 tI10 (tnA (show 10 < 6000 by decide))), (fm933 k9 hi9).2.2.2.2⟩
                have fm979 : ∀ k9, k9 < sh → (hf k9 = some (sw k9) ∧ hto k9 < 12) ∧ wd_at w936 (sw k9) (.inr (5, [.int (nI (hto k9)), .int (hpp k9), .int (hle k9), .int (ham k9), .int (hhh k9), .int (hdd k9), .int (hru k9), .int (hde k9), .int (hcp k9), .int (hld k9)])) ∧ tg (sw k9) = 7000 + k9 := fun k9 hi9 => ⟨(fm934 k9 hi9).1, wd_at.pt ew937 (fm934 k9 hi9).2.1 (tg_ne (fm934 k9 hi9).2.2 tI10 (tnA (show 10 < 7000 by decide))), (fm934 k9 hi9).2.2⟩
                have kp980 := kp935.put ew937 (tgS tI10 (by decide))
                refine lv_aload_n hx hb dX10_show_172 rfl (lv_at hl 3 rfl) ?_
                refine lv_dup hx hb dX10_show_173 rfl ?_
                refine x_get (ref := "NoteHouse") F hP k938 rfl (fun _ h => List.mem_cons_of_mem _ (List.mem_append_left _ (List.mem_append_left _ (List.mem_append_left _ (List.mem_append_left _ (List.mem_append_left _ (List.mem_append_left _ (List.mem_append_left _ (List.mem_append_right _ (h)))))))))) 16 (Nat.le_of_ble_eq_true rfl) (List.mem_cons_of_mem _ (List.mem_append_left _ (List.mem_append_left _ (List.mem_append_left _ (List.mem_append_left _ (List.mem_append_left _ (List.mem_append_left _ (List.mem_append_left _ (List.mem_append_left _ (List.mem_append_left _ (List.mem_of_getElem? (i := 0) rfl))))))))))) rfl rfl dX10_show_174 ?_
                refine lv_iconst (v := 1) hx hb dX10_show_177 (by decide) ?_
                refine lv_iadd hx hb dX10_show_178 ?_
                rw [show ((nI sh) + 1 : Int32) = nI (sh + 1) from nI_add sh 1]
                refine y_put (ref := "NoteHouse") F hP hD hS k938 rfl (fun _ h => List.mem_cons_of_mem _ (List.mem_append_left _ (List.mem_append_left _ (List.mem_append_left _ (List.mem_append_left _ (List.mem_append_left _ (List.mem_append_left _ (List.mem_append_left _ (List.mem_append_right _ (h)))))))))) tyX10_ok nmX10 16 (Nat.le_of_ble_eq_true rfl) (List.mem_cons_of_mem _ (List.mem_append_left _ (List.mem_append_left _ (List.mem_append_left _ (List.mem_append_left _ (List.mem_append_left _ (List.mem_append_left _ (List.mem_append_left _ (List.mem_append_left _ (List.mem_append_left _ (List.mem_of_getElem? (i := 0) rfl))))))))))) rfl rfl rfl rfl (Nat.le_of_ble_eq_true rfl) dX10_show_179 (fun w981 ew982 H locs hP hD hS => ?_)
                have k983 : wd_at w981 x (.inr (10, [.ref a0, .ref a1, .ref a2, .ref a3, .ref a4, .ref a5, .ref a6, .ref a7, .ref a8, .ref (aa sg), .ref a10, .ref a11, .int td, .int (nI pc), .int (nI ac), .int (nI sc), .int (nI (sh + 1))])) := wd_at.ps ew982 k938
                have k984 := wd_at.pt ew982 k939 (tg_ne tI1 tI0 (by decide))
                have k985 := wd_at.pt ew982 k940 (tg_ne tI2 tI0 (by decide))
                have k986 := wd_at.pt ew982 k941 (tg_ne tI3 tI0 (by decide))
                have k987 := wd_at.pt ew982 k942 (tg_ne tI4 tI0 (by decide))
                have k988 := wd_at.pt ew982 k943 (tg_ne tI5 tI0 (by decide))
                have k989 := wd_at.pt ew982 k944 (tg_ne tI6 tI0 (by decide))
                have k990 := wd_at.pt ew982 k945 (tg_ne tI7 tI0 (by decide))
                have k991 := wd_at.pt ew982 k946 (tg_ne tI8 tI0 (by decide))
                have k992 := wd_at.pt ew982 k947 (tg_ne tI9 tI0 (by decide))
                have k993 := wd_at.pt ew982 k948 (tg_ne tI10 tI0 (by decide))
                have k994 := wd_at.pt ew982 k949 (tg_ne tI11 tI0 (by decide))
                have k995 := wd_at.pt ew982 k950 (tg_ne tI12 tI0 (by decide))
                have k996 := wd_at.pt ew982 k951 (tg_ne tI13 tI0 (by decide))
                have k997 := wd_at.pt ew982 k952 (tg_ne tI14 tI0 (by decide))
                have k998 := wd_at.pt ew982 k953 (tg_ne tI15 tI0 (by decide))
                have k999 := wd_at.pt ew982 k954 (tg_ne tI16 tI0 (by decide))
                have k1000 := wd_at.pt ew982 k955 (tg_ne tI17 tI0 (by decide))
                have k1001 := wd_at.pt ew982 k956 (tg_ne tI18 tI0 (by decide))
                have k1002 := wd_at.pt ew982 k957 (tg_ne tI19 tI0 (by decide))
                have k1003 := wd_at.pt ew982 k958 (tg_ne tI20 tI0 (by decide))
                have k1004 := wd_at.pt ew982 k959 (tg_ne tI21 tI0 (by decide))
                have k1005 := wd_at.pt ew982 k960 (tg_ne tI22 tI0 (by decide))
                have k1006 := wd_at.pt ew982 k961 (tg_ne tI23 tI0 (tnA (show 0 < 30 by decide)))
                have k1007 := wd_at.pt ew982 k962 (tg_ne tI24 tI0 (tnA (show 0 < 32 by decide)))
                have k1008 := wd_at.pt ew982 k963 (tg_ne tI25 tI0 (tnA (show 0 < 30 by decide)))
                have k1009 := wd_at.pt ew982 k964 (tg_ne tI26 tI0 (tnA (show 0 < 32 by decide)))
                have k1010 := wd_at.pt ew982 k965 (tg_ne tz15 tI0 (tnA (show 0 < 3000 by decide)))
                have k1011 := wd_at.pt ew982 k966 (Ne.symm (wd_nL hq541 kI0))
                have k1012 := wd_at.pt ew982 k967 (tg_ne tz667 tI0 (tnA (show 0 < 100 by decide)))
                have k1013 := wd_at.pt ew982 k968 (tg_ne tz670 tI0 (tnA (show 0 < 200 by decide)))
                have k1014 := wd_at.pt ew982 k969 (tg_ne tz672 tI0 (tnA (show 0 < 220 by decide)))
                have k1015 := wd_at.pt ew982 k970 (tg_ne tz674 tI0 (tnA (show 0 < 240 by decide)))
                have k1016 := wd_at.pt ew982 k971 (tg_ne tz676 tI0 (tnA (show 0 < 260 by decide)))
                have k1017 := wd_at.pt ew982 k972 (tg_ne tz678 tI0 (tnA (show 0 < 280 by decide)))
                have k1018 := wd_at.pt ew982 k973 (tg_ne tz680 tI0 (tnA (show 0 < 300 by decide)))
                have fm1019 : ∀ i9, i9 < 12 → tf i9 = some (tn i9) ∧ wd_at w981 (tn i9) (.inr (8, [.int (co i9), .int (ra i9), .int (se i9), .ref (ag i9)])) ∧ tg (tn i9) = 100 + i9 := fun i9 hi9 => ⟨(fm974 i9 hi9).1, wd_at.pt ew982 (fm974 i9 hi9).2.1 (tg_ne (fm974 i9 hi9).2.2 tI0 (tnA (show 0 < 100 by decide))), (fm974 i9 hi9).2.2⟩
                have fm1020 : ∀ k9, k9 < 13 → (aOK (cf k9) (nf k9) ∧ ru k9 ≤ 12) ∧ wd_at w981 (aa k9) (.inr (1, [.ref (ga0 k9), .ref (ga1 k9), .ref (ga2 k9), .ref (ga3 k9), .ref (ga4 k9), .int (nI (ru k9))])) ∧ tg (aa k9) = 200 + k9 ∧ wd_at w981 (ga0 k9) (.inl (cy 2, 12, .inl (df k9))) ∧ tg (ga0 k9) = 220 + k9 ∧ wd_at w981 (ga1 k9) (.inl (cy 2, 12, .inl (cf k9))) ∧ tg (ga1 k9) = 240 + k9 ∧ wd_at w981 (ga2 k9) (.inl (cy 2, 72, .inl (nf k9))) ∧ tg (ga2 k9) = 260 + k9 ∧ wd_at w981 (ga3 k9) (.inl (cy 1, 72, .inl (sf k9))) ∧ tg (ga3 k9) = 280 + k9 ∧ wd_at w981 (ga4 k9) (.inl (cy 2, 72, .inl (uf k9))) ∧ tg (ga4 k9) = 300 + k9 := fun k9 hi9 => ⟨(fm975 k9 hi9).1, wd_at.pt ew982 (fm975 k9 hi9).2.1 (tg_ne (fm975 k9 hi9).2.2.1 tI0 (tnA (show 0 < 200 by decide))), (fm975 k9 hi9).2.2.1, wd_at.pt ew982 (fm975 k9 hi9).2.2.2.1 (tg_ne (fm975 k9 hi9).2.2.2.2.1 tI0 (tnA (show 0 < 220 by decide))), (fm975 k9 hi9).2.2.2.2.1, wd_at.pt ew982 (fm975 k9 hi9).2.2.2.2.2.1 (tg_ne (fm975 k9 hi9).2.2.2.2.2.2.1 tI0 (tnA (show 0 < 240 by decide))), (fm975 k9 hi9).2.2.2.2.2.2.1, wd_at.pt ew982 (fm975 k9 hi9).2.2.2.2.2.2.2.1 (tg_ne (fm975 k9 hi9).2.2.2.2.2.2.2.2.1 tI0 (tnA (show 0 < 260 by decide))), (fm975 k9 hi9).2.2.2.2.2.2.2.2.1, wd_at.pt ew982 (fm975 k9 hi9).2.2.2.2.2.2.2.2.2.1 (tg_ne (fm975 k9 hi9).2.2.2.2.2.2.2.2.2.2.1 tI0 (tnA (show 0 < 280 by decide))), (fm975 k9 hi9).2.2.2.2.2.2.2.2.2.2.1, wd_at.pt ew982 (fm975 k9 hi9).2.2.2.2.2.2.2.2.2.2.2.1 (tg_ne (fm975 k9 hi9).2.2.2.2.2.2.2.2.2.2.2.2 tI0 (tnA (show 0 < 300 by decide))), (fm975 k9 hi9).2.2.2.2.2.2.2.2.2.2.2.2⟩
                have fm1021 : ∀ k9, k9 < pc ∧ k9 ≠ j4 → pf k9 = some (pa k9) ∧ wd_at w981 (pa k9) (.inr (3, [.int (plv k9), .int (pwo k9), .int (phd k9), .int (pgd k9), .int (pdy k9), .int (pno k9), .int (ptp k9)])) ∧ tg (pa k9) = 3000 + k9 := fun k9 hi9 => ⟨(fm976 k9 hi9).1, wd_at.pt ew982 (fm976 k9 hi9).2.1 (tg_ne (fm976 k9 hi9).2.2 tI0 (tnA (show 0 < 3000 by decide))), (fm976 k9 hi9).2.2⟩
                have fm1022 : ∀ k9, k9 < ac → af k9 = some (ad k9) ∧ wd_at w981 (ad k9) (.inr (0, [.int (av0 k9), .int (av1 k9), .int (av2 k9), .int (av3 k9)])) ∧ tg (ad k9) = 4000 + k9 := fun k9 hi9 => ⟨(fm977 k9 hi9).1, wd_at.pt ew982 (fm977 k9 hi9).2.1 (tg_ne (fm977 k9 hi9).2.2 tI0 (tnA (show 0 < 4000 by decide))), (fm977 k9 hi9).2.2⟩
                have fm1023 : ∀ k9, k9 < sc → zf k9 = some (so k9) ∧ wd_at w981 (so k9) (.inr (6, [.int (sp0 k9), .int (sp1 k9), .ref (sr k9)])) ∧ tg (so k9) = 5000 + k9 ∧ wd_at w981 (sr k9) (.inl (cy 2, 12, .inl (sd k9))) ∧ tg (sr k9) = 6000 + k9 := fun k9 hi9 => ⟨(fm978 k9 hi9).1, wd_at.pt ew982 (fm978 k9 hi9).2.1 (tg_ne (fm978 k9 hi9).2.2.1 tI0 (tnA (show 0 < 5000 by decide))), (fm978 k9 hi9).2.2.1, wd_at.pt ew982 (fm978 k9 hi9).2.2.2.1 (tg_ne (fm978 k9 hi9).2.2.2.2 tI0 (tnA (show 0 < 6000 by decide))), (fm978 k9 hi9).2.2.2.2⟩
                have fm1024 : ∀ k9, k9 < sh → (hf k9 = some (sw k9) ∧ hto k9 < 12) ∧ wd_at w981 (sw k9) (.inr (5, [.int (nI (hto k9)), .int (hpp k9), .int (hle k9), .int (ham k9), .int (hhh k9), .int (hdd k9), .int (hru k9), .int (hde k9), .int (hcp k9), .int (hld k9)])) ∧ tg (sw k9) = 7000 + k9 := fun k9 hi9 => ⟨(fm979 k9 hi9).1, wd_at.pt ew982 (fm979 k9 hi9).2.1 (tg_ne (fm979 k9 hi9).2.2 tI0 (tnA (show 0 < 7000 by decide))), (fm979 k9 hi9).2.2⟩
                have kp1025 := kp980.put ew982 (tgS tI0 (by decide))
                refine lv_aload hx hb dX10_show_182 (lv_at hl 0 rfl) ?_
                refine x_get (ref := "NoteHouse$Shown") F hP k1011 rfl (fun _ h => List.mem_cons_of_mem _ (List.mem_append_left _ (List.mem_append_left _ (List.mem_append_left _ (List.mem_append_left _ (List.mem_append_left _ (List.mem_append_right _ (h)))))))) 7 (Nat.le_of_ble_eq_true rfl) (List.mem_cons_of_mem _ (List.mem_append_left _ (List.mem_append_left _ (List.mem_append_left _ (List.mem_append_left _ (List.mem_append_left _ (List.mem_append_left _ (List.mem_append_left _ (List.mem_append_left _ (List.mem_append_left _ (List.mem_of_getElem? (i := 10) rfl))))))))))) rfl rfl dX10_show_184 ?_
                have fm1027 : ∀ k9, k9 < pc → pf k9 = some (pa k9) ∧ wd_at w981 (pa k9) (.inr (3, [.int (plv k9), .int (pwo k9), .int (phd k9), .int (pgd k9), .int (pdy k9), .int ((va_up pno j4 nox886) k9), .int ((va_up ptp j4 tpx887) k9)])) ∧ tg (pa k9) = 3000 + k9 := by
                  intro k9 hi9
                  by_cases e9 : k9 = j4
                  · rw [e9]
                    exact ⟨pr12, (by simp only [va_up_self]; exact k1010), tz15⟩
                  · simp only [va_up_ne _ _ e9]
                    exact fm1021 k9 (by omega)
                have fm1028 : ∀ i9, i9 < 12 → tf i9 = some (tn i9) ∧ wd_at w981 (tn i9) (.inr (8, [.int (co i9), .int (ra i9), .int (se i9), .ref (ag i9)])) ∧ (va_up tg q538 (7000 + sh)) (tn i9) = 100 + i9 := fun i9 hi9 => ⟨(fm1019 i9 hi9).1, (fm1019 i9 hi9).2.1, ((va_up_ne _ _ (fn572 i9 hi9)).trans (fm1019 i9 hi9).2.2)⟩
                have fm1029 : ∀ k9, k9 < 13 → (aOK (cf k9) (nf k9) ∧ ru k9 ≤ 12) ∧ wd_at w981 (aa k9) (.inr (1, [.ref (ga0 k9), .ref (ga1 k9), .ref (ga2 k9), .ref (ga3 k9), .ref (ga4 k9), .int (nI (ru k9))])) ∧ (va_up tg q538 (7000 + sh)) (aa k9) = 200 + k9 ∧ wd_at w981 (ga0 k9) (.inl (cy 2, 12, .inl (df k9))) ∧ (va_up tg q538 (7000 + sh)) (ga0 k9) = 220 + k9 ∧ wd_at w981 (ga1 k9) (.inl (cy 2, 12, .inl (cf k9))) ∧ (va_up tg q538 (7000 + sh)) (ga1 k9) = 240 + k9 ∧ wd_at w981 (ga2 k9) (.inl (cy 2, 72, .inl (nf k9))) ∧ (va_up tg q538 (7000 + sh)) (ga2 k9) = 260 + k9 ∧ wd_at w981 (ga3 k9) (.inl (cy 1, 72, .inl (sf k9))) ∧ (va_up tg q538 (7000 + sh)) (ga3 k9) = 280 + k9 ∧ wd_at w981 (ga4 k9) (.inl (cy 2, 72, .inl (uf k9))) ∧ (va_up tg q538 (7000 + sh)) (ga4 k9) = 300 + k9 := fun k9 hi9 => ⟨(fm1020 k9 hi9).1, (fm1020 k9 hi9).2.1, ((va_up_ne _ _ ((fn574 k9 hi9).1)).trans (fm1020 k9 hi9).2.2.1), (fm1020 k9 hi9).2.2.2.1, ((va_up_ne _ _ ((fn574 k9 hi9).2.1)).trans (fm1020 k9 hi9).2.2.2.2.1), (fm1020 k9 hi9).2.2.2.2.2.1, ((va_up_ne _ _ ((fn574 k9 hi9).2.2.1)).trans (fm1020 k9 hi9).2.2.2.2.2.2.1), (fm1020 k9 hi9).2.2.2.2.2.2.2.1, ((va_up_ne _ _ ((fn574 k9 hi9).2.2.2.1)).trans (fm1020 k9 hi9).2.2.2.2.2.2.2.2.1), (fm1020 k9 hi9).2.2.2.2.2.2.2.2.2.1, ((va_up_ne _ _ ((fn574 k9 hi9).2.2.2.2.1)).trans (fm1020 k9 hi9).2.2.2.2.2.2.2.2.2.2.1), (fm1020 k9 hi9).2.2.2.2.2.2.2.2.2.2.2.1, ((va_up_ne _ _ ((fn574 k9 hi9).2.2.2.2.2)).trans (fm1020 k9 hi9).2.2.2.2.2.2.2.2.2.2.2.2)⟩
                have fm1030 : ∀ k9, k9 < pc → pf k9 = some (pa k9) ∧ wd_at w981 (pa k9) (.inr (3, [.int (plv k9), .int (pwo k9), .int (phd k9), .int (pgd k9), .int (pdy k9), .int ((va_up pno j4 nox886) k9), .int ((va_up ptp j4 tpx887) k9)])) ∧ (va_up tg q538 (7000 + sh)) (pa k9) = 3000 + k9 := fun k9 hi9 => ⟨(fm1027 k9 hi9).1, (fm1027 k9 hi9).2.1, ((va_up_ne _ _ (fn576 k9 hi9)).trans (fm1027 k9 hi9).2.2)⟩
                have fm1031 : ∀ k9, k9 < ac → af k9 = some (ad k9) ∧ wd_at w981 (ad k9) (.inr (0, [.int (av0 k9), .int (av1 k9), .int (av2 k9), .int (av3 k9)])) ∧ (va_up tg q538 (7000 + sh)) (ad k9) = 4000 + k9 := fun k9 hi9 => ⟨(fm1022 k9 hi9).1, (fm1022 k9 hi9).2.1, ((va_up_ne _ _ (fn578 k9 hi9)).trans (fm1022 k9 hi9).2.2)⟩
                have fm1032 : ∀ k9, k9 < sc → zf k9 = some (so k9) ∧ wd_at w981 (so k9) (.inr (6, [.int (sp0 k9), .int (sp1 k9), .ref (sr k9)])) ∧ (va_up tg q538 (7000 + sh)) (so k9) = 5000 + k9 ∧ wd_at w981 (sr k9) (.inl (cy 2, 12, .inl (sd k9))) ∧ (va_up tg q538 (7000 + sh)) (sr k9) = 6000 + k9 := fun k9 hi9 => ⟨(fm1023 k9 hi9).1, (fm1023 k9 hi9).2.1, ((va_up_ne _ _ ((fn580 k9 hi9).1)).trans (fm1023 k9 hi9).2.2.1), (fm1023 k9 hi9).2.2.2.1, ((va_up_ne _ _ ((fn580 k9 hi9).2)).trans (fm1023 k9 hi9).2.2.2.2)⟩
                have fm1033 : ∀ k9, k9 < sh → (hf k9 = some (sw k9) ∧ hto k9 < 12) ∧ wd_at w981 (sw k9) (.inr (5, [.int (nI (hto k9)), .int (hpp k9), .int (hle k9), .int (ham k9), .int (hhh k9), .int (hdd k9), .int (hru k9), .int (hde k9), .int (hcp k9), .int (hld k9)])) ∧ (va_up tg q538 (7000 + sh)) (sw k9) = 7000 + k9 := fun k9 hi9 => ⟨(fm1024 k9 hi9).1, (fm1024 k9 hi9).2.1, ((va_up_ne _ _ (fn582 k9 hi9)).trans (fm1024 k9 hi9).2.2)⟩
                have k1034 : wd_at w981 a5 (.inl (cy 7, 200, .inr (.inr (.inr (.inr (va_up hf sh (some q538))))))) := by have h9 := k993; rw [nI_clamp (n := sh) (by omega)] at h9; exact h9
                have fm1035 : ∀ k9, k9 < (sh + 1) → ((va_up hf sh (some q538)) k9 = some ((va_up sw sh q538) k9) ∧ (va_up hto sh t) k9 < 12) ∧ wd_at w981 ((va_up sw sh q538) k9) (.inr (5, [.int (nI ((va_up hto sh t) k9)), .int ((va_up hpp sh x2) k9), .int ((va_up hle sh x3) k9), .int ((va_up ham sh (pwo j4)) k9), .int ((va_up hhh sh x5) k9), .int ((va_up hdd sh td) k9), .int ((va_up hru sh rx684) k9), .int ((va_up hde sh rx734) k9), .int ((va_up hcp sh cpx884) k9), .int ((va_up hld sh ldx885) k9)])) ∧ (va_up tg q538 (7000 + sh)) ((va_up sw sh q538) k9) = 7000 + k9 := by
                  intro k9 hi9
                  by_cases e9 : k9 = sh
                  · rw [e9]
                    exact ⟨⟨by rw [va_up_self, va_up_self], by rw [va_up_self]; omega⟩, (by simp only [va_up_self]; exact k1011), (by rw [va_up_self]; exact (va_up_self _ _ _))⟩
                  · simp only [va_up_ne _ _ e9]
                    exact fm1033 k9 (by omega)
                have hX1036 : IX cy (va_up tg q538 (7000 + sh)) x td pc ac sc ln se plv w981 := IX.mk a0 a1 a2 a3 a4 a5 a6 a7 a8 a10 a11 b0 b1 b2 b3 tb l0 l1 l2 l3 l4 l5 l6 l7 bl bm (sh + 1) gc sg lu lv9 f0 f1 dx888 px889 tbf e0 e1 e4 e5 e7 ffx627 bf bf2 e2 e3 e6 ta sz fo to fo2 to2 tf tn ag co ra aa ru ga0 ga1 ga2 ga3 ga4 df cf nf sf uf pf pa pwo phd pgd pdy (va_up pno j4 nox886) (va_up ptp j4 tpx887) af ad av0 av1 av2 av3 zf so sr sp0 sp1 sd (va_up hf sh (some q538)) (va_up sw sh q538) (va_up hto sh t) (va_up hpp sh x2) (va_up hle sh x3) (va_up ham sh (pwo j4)) (va_up hhh sh x5) (va_up hdd sh td) (va_up hru sh rx684) (va_up hde sh rx734) (va_up hcp sh cpx884) (va_up hld sh ldx885) (by omega) (by omega) (by omega) (by omega) (by omega) (by omega) (by omega) (by omega) hag k983 ((va_up_ne _ _ (wd_nL hq541 kI0)).trans tI0) k984 ((va_up_ne _ _ (wd_nL hq541 kI1)).trans tI1) k985 ((va_up_ne _ _ (wd_nL hq541 kI2)).trans tI2) k986 ((va_up_ne _ _ (wd_nL hq541 kI3)).trans tI3) k987 ((va_up_ne _ _ (wd_nL hq541 kI4)).trans tI4) k988 ((va_up_ne _ _ (wd_nL hq541 kI5)).trans tI5) k989 ((va_up_ne _ _ (wd_nL hq541 kI6)).trans tI6) k990 ((va_up_ne _ _ (wd_nL hq541 kI7)).trans tI7) k991 ((va_up_ne _ _ (wd_nL hq541 kI8)).trans tI8) k992 ((va_up_ne _ _ (wd_nL hq541 kI9)).trans tI9) k1034 ((va_up_ne _ _ (wd_nL hq541 kI10)).trans tI10) k994 ((va_up_ne _ _ (wd_nL hq541 kI11)).trans tI11) k995 ((va_up_ne _ _ (wd_nL hq541 kI12)).trans tI12) k996 ((va_up_ne _ _ (wd_nL hq541 kI13)).trans tI13) k997 ((va_up_ne _ _ (wd_nL hq541 kI14)).trans tI14) k998 ((va_up_ne _ _ (wd_nL hq541 kI15)).trans tI15) k999 ((va_up_ne _ _ (wd_nL hq541 kI16)).trans tI16) k1000 ((va_up_ne _ _ (wd_nL hq541 kI17)).trans tI17) k1001 ((va_up_ne _ _ (wd_nL hq541 kI18)).trans tI18) k1002 ((va_up_ne _ _ (wd_nL hq541 kI19)).trans tI19) k1003 ((va_up_ne _ _ (wd_nL hq541 kI20)).trans tI20) k1004 ((va_up_ne _ _ (wd_nL hq541 kI21)).trans tI21) k1005 ((va_up_ne _ _ (wd_nL hq541 kI22)).trans tI22) k1006 ((va_up_ne _ _ (wd_nL hq541 kI23)).trans tI23) k1007 ((va_up_ne _ _ (wd_nL hq541 kI24)).trans tI24) k1008 ((va_up_ne _ _ (wd_nL hq541 kI25)).trans tI25) k1009 ((va_up_ne _ _ (wd_nL hq541 kI26)).trans tI26) fm1028 fm1029 fm1030 fm1031 fm1032 fm1035
                exact y_ir K hP hD hS (Nat.le_of_ble_eq_true rfl) (Nat.le_of_ble_eq_true rfl) (ty := .int) rfl rfl dX10_show_187 (⟨⟨_, rfl⟩, ⟨(va_up tg q538 (7000 + sh)), (fun a9 ha9 => (va_up_ne _ _ (fun q9 : a9 = q538 => (kp0.out hq541) (q9 ▸ ha9)))), kp1025, hX1036⟩⟩)
          · refine lv_iconst (v := (-1)) hx hb dX10_show_50 (by decide) ?_
            exact y_ir K hP hD hS (Nat.le_of_ble_eq_true rfl) (Nat.le_of_ble_eq_true rfl) (ty := .int) rfl rfl dX10_show_51 (⟨⟨_, rfl⟩, ⟨tg, fun _ _ => rfl, wd_kp.rf, hIX0⟩⟩)
        · refine lv_iconst (v := (-1)) hx hb dX10_show_37 (by decide) ?_
          exact y_ir K hP hD hS (Nat.le_of_ble_eq_true rfl) (Nat.le_of_ble_eq_true rfl) (ty := .int) rfl rfl dX10_show_38 (⟨⟨_, rfl⟩, ⟨tg, fun _ _ => rfl, wd_kp.rf, hIX0⟩⟩)
