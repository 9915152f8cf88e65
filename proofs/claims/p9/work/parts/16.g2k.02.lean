set_option maxHeartbeats 4000000 in
set_option maxRecDepth 100000 in
theorem X_netted (l : Launch) (D : va_G) (cy : Nat → ClassId) (sk sv : Nat → Nat) (w : Wd) (tg : Nat → Nat) (x : Nat) (td : Int32) (pc ac sc ln : Nat) (se plv : Nat → Int32) (x1 x2 : Int32) (hIX0 : IX cy tg x td pc ac sc ln se plv w) : Ct l D cy sk sv yX10_netted wsX10_netted ({ frames := 0, cells := 0, slots := 0, locals := 0 }) [.ref x, .int x1, .int x2] w (fun v w1 => (∃ r : Int64, v = some (.long r)) ∧ XP cy tg x td pc ac sc ln se plv w w1) := by
  refine Ct.by (cc := cX10_netted) (maxL := 3) (ret := (some .long)) (by decide +kernel) rfl (Nat.le_of_ble_eq_true rfl) ?_
  intro p e s m args below meth c A Q F hnm K ls hl
  have F : wd_Fx p s m args meth c cX10_netted 3 wsX10_netted RX10 D cy sk sv A := F
  have hl : lv_has ls 3 [(0, .ref x), (1, .int x1), (2, .int x2)] := hl
  have hx := F.1.1
  have hb := F.1.2.1
  have hown := F.1.2.2.2.1
  have hts := F.1.2.2.2.2
  intro H locs hP hD hS
  have kp0 : wd_kp (fun b => tg b < 10000) w w := wd_kp.rf
  refine hIX0 _ ?_
  intro a0 a1 a2 a3 a4 a5 a6 a7 a8 a10 a11 b0 b1 b2 b3 tb l0 l1 l2 l3 l4 l5 l6 l7 bl bm sh gc sg lu lv9 f0 f1 f2 f3 tbf e0 e1 e4 e5 e7 ff bf bf2 e2 e3 e6 ta sz fo to fo2 to2 tf tn ag co ra aa ru ga0 ga1 ga2 ga3 ga4 df cf nf sf uf pf pa pwo phd pgd pdy pno ptp af ad av0 av1 av2 av3 zf so sr sp0 sp1 sd hf sw hto hpp hle ham hhh hdd hru hde hcp hld hp90 hp91 hp92 hp93 hp94 hp95 hp96 hp97 hag kI0 tI0 kI1 tI1 kI2 tI2 kI3 tI3 kI4 tI4 kI5 tI5 kI6 tI6 kI7 tI7 kI8 tI8 kI9 tI9 kI10 tI10 kI11 tI11 kI12 tI12 kI13 tI13 kI14 tI14 kI15 tI15 kI16 tI16 kI17 tI17 kI18 tI18 kI19 tI19 kI20 tI20 kI21 tI21 kI22 tI22 kI23 tI23 kI24 tI24 kI25 tI25 kI26 tI26 hT9 hG9 hP9 hA9 hS9 hH9
  have hlu : lu < 2 := by omega
  have hlv : lv9 < 2 := by omega
  refine lv_iload_n hx hb dX10_netted_0 rfl (lv_at hl 1 rfl) ?_
  refine lv_if_lt (tgt := 15) hx hb dX10_netted_1 (by decide) (fun cA => ?_) (fun cA => ?_)
  · refine lv_ldc2 (v := (-1)) hx hb hown (hts _ (List.mem_cons_of_mem _ (List.mem_append_left _ (List.mem_append_left _ (List.mem_of_getElem? (i := 2) rfl))))) dX10_netted_15 ?_
    exact y_lr K hP hD hS (Nat.le_of_ble_eq_true rfl) (Nat.le_of_ble_eq_true rfl) rfl dX10_netted_18 (⟨⟨_, rfl⟩, ⟨tg, fun _ _ => rfl, wd_kp.rf, hIX0⟩⟩)
  · refine lv_iload_n hx hb dX10_netted_4 rfl (lv_at hl 1 rfl) ?_
    refine lv_aload_n hx hb dX10_netted_5 rfl (lv_at hl 0 rfl) ?_
    refine x_get (ref := "NoteHouse") F hP kI0 rfl (fun _ h => List.mem_cons_of_mem _ (List.mem_append_left _ (List.mem_append_right _ (h)))) 7 (Nat.le_of_ble_eq_true rfl) (List.mem_cons_of_mem _ (List.mem_append_left _ (List.mem_append_left _ (List.mem_of_getElem? (i := 0) rfl)))) rfl rfl dX10_netted_6 ?_
    refine x_get (ref := "NoteHouse$Settlement") F hP kI13 rfl (fun _ h => List.mem_cons_of_mem _ (List.mem_append_right _ (h))) 8 (Nat.le_of_ble_eq_true rfl) (List.mem_cons_of_mem _ (List.mem_append_left _ (List.mem_append_left _ (List.mem_of_getElem? (i := 1) rfl)))) rfl rfl dX10_netted_9 ?_
    refine lv_icmp_lt (tgt := 19) hx hb dX10_netted_12 (by decide) (fun c_1 => ?_) (fun c_1 => ?_)
    · obtain ⟨j, hj, rfl⟩ := nI_of cA
      have hjl : j < gc := (nI_ltI (by omega) (by omega)).mp c_1
      refine lv_iload_n hx hb dX10_netted_19 rfl (lv_at hl 2 rfl) ?_
      by_cases c_2 : x2 = 0
      · refine lv_tableIn (off := 32) (tgt := 52) hx hb dX10_netted_20 (by rw [c_2]; decide) (by rw [c_2]; decide) (by rw [c_2]; decide) (by decide) ?_
        refine lv_aload_n hx hb dX10_netted_52 rfl (lv_at hl 0 rfl) ?_
        refine x_get (ref := "NoteHouse") F hP kI0 rfl (fun _ h => List.mem_cons_of_mem _ (List.mem_append_left _ (List.mem_append_right _ (h)))) 7 (Nat.le_of_ble_eq_true rfl) (List.mem_cons_of_mem _ (List.mem_append_left _ (List.mem_append_left _ (List.mem_of_getElem? (i := 0) rfl)))) rfl rfl dX10_netted_53 ?_
        refine x_get (ref := "NoteHouse$Settlement") F hP kI13 rfl (fun _ h => List.mem_cons_of_mem _ (List.mem_append_right _ (h))) 4 (Nat.le_of_ble_eq_true rfl) (List.mem_cons_of_mem _ (List.mem_append_left _ (List.mem_append_left _ (List.mem_of_getElem? (i := 3) rfl)))) rfl rfl dX10_netted_56 ?_
        refine lv_iload_n hx hb dX10_netted_59 rfl (lv_at hl 1 rfl) ?_
        refine x_iald F hP kI18 (vp_in_nI (n := j) (N := 12) (by omega) (by decide)) dX10_netted_60 ?_
        refine lv_i2l (v := (e4 (nI j).toNatClampNeg).toInt64) hx hb dX10_netted_61 (rfl) ?_
        exact y_lr K hP hD hS (Nat.le_of_ble_eq_true rfl) (Nat.le_of_ble_eq_true rfl) rfl dX10_netted_62 (⟨⟨_, rfl⟩, ⟨tg, fun _ _ => rfl, wd_kp.rf, hIX0⟩⟩)
      by_cases c_3 : x2 = 1
      · refine lv_tableIn (off := 43) (tgt := 63) hx hb dX10_netted_20 (by rw [c_3]; decide) (by rw [c_3]; decide) (by rw [c_3]; decide) (by decide) ?_
        refine lv_aload_n hx hb dX10_netted_63 rfl (lv_at hl 0 rfl) ?_
        refine x_get (ref := "NoteHouse") F hP kI0 rfl (fun _ h => List.mem_cons_of_mem _ (List.mem_append_left _ (List.mem_append_right _ (h)))) 7 (Nat.le_of_ble_eq_true rfl) (List.mem_cons_of_mem _ (List.mem_append_left _ (List.mem_append_left _ (List.mem_of_getElem? (i := 0) rfl)))) rfl rfl dX10_netted_64 ?_
        refine x_get (ref := "NoteHouse$Settlement") F hP kI13 rfl (fun _ h => List.mem_cons_of_mem _ (List.mem_append_right _ (h))) 5 (Nat.le_of_ble_eq_true rfl) (List.mem_cons_of_mem _ (List.mem_append_left _ (List.mem_append_left _ (List.mem_of_getElem? (i := 4) rfl)))) rfl rfl dX10_netted_67 ?_
        refine lv_iload_n hx hb dX10_netted_70 rfl (lv_at hl 1 rfl) ?_
        refine x_iald F hP kI19 (vp_in_nI (n := j) (N := 12) (by omega) (by decide)) dX10_netted_71 ?_
        refine lv_i2l (v := (e5 (nI j).toNatClampNeg).toInt64) hx hb dX10_netted_72 (rfl) ?_
        exact y_lr K hP hD hS (Nat.le_of_ble_eq_true rfl) (Nat.le_of_ble_eq_true rfl) rfl dX10_netted_73 (⟨⟨_, rfl⟩, ⟨tg, fun _ _ => rfl, wd_kp.rf, hIX0⟩⟩)
      by_cases c_4 : x2 = 2
      · refine lv_tableIn (off := 54) (tgt := 74) hx hb dX10_netted_20 (by rw [c_4]; decide) (by rw [c_4]; decide) (by rw [c_4]; decide) (by decide) ?_
        refine lv_aload_n hx hb dX10_netted_74 rfl (lv_at hl 0 rfl) ?_
        refine x_get (ref := "NoteHouse") F hP kI0 rfl (fun _ h => List.mem_cons_of_mem _ (List.mem_append_left _ (List.mem_append_right _ (h)))) 7 (Nat.le_of_ble_eq_true rfl) (List.mem_cons_of_mem _ (List.mem_append_left _ (List.mem_append_left _ (List.mem_of_getElem? (i := 0) rfl)))) rfl rfl dX10_netted_75 ?_
        refine x_get (ref := "NoteHouse$Settlement") F hP kI13 rfl (fun _ h => List.mem_cons_of_mem _ (List.mem_append_right _ (h))) 6 (Nat.le_of_ble_eq_true rfl) (List.mem_cons_of_mem _ (List.mem_append_left _ (List.mem_append_left _ (List.mem_of_getElem? (i := 5) rfl)))) rfl rfl dX10_netted_78 ?_
        refine lv_iload_n hx hb dX10_netted_81 rfl (lv_at hl 1 rfl) ?_
        refine x_lald F hP kI20 (vp_in_nI (n := j) (N := 12) (by omega) (by decide)) dX10_netted_82 ?_
        exact y_lr K hP hD hS (Nat.le_of_ble_eq_true rfl) (Nat.le_of_ble_eq_true rfl) rfl dX10_netted_83 (⟨⟨_, rfl⟩, ⟨tg, fun _ _ => rfl, wd_kp.rf, hIX0⟩⟩)
      by_cases c_5 : x2 = 3
      · refine lv_tableIn (off := 64) (tgt := 84) hx hb dX10_netted_20 (by rw [c_5]; decide) (by rw [c_5]; decide) (by rw [c_5]; decide) (by decide) ?_
        refine lv_aload_n hx hb dX10_netted_84 rfl (lv_at hl 0 rfl) ?_
        refine x_get (ref := "NoteHouse") F hP kI0 rfl (fun _ h => List.mem_cons_of_mem _ (List.mem_append_left _ (List.mem_append_right _ (h)))) 7 (Nat.le_of_ble_eq_true rfl) (List.mem_cons_of_mem _ (List.mem_append_left _ (List.mem_append_left _ (List.mem_of_getElem? (i := 0) rfl)))) rfl rfl dX10_netted_85 ?_
        refine x_get (ref := "NoteHouse$Settlement") F hP kI13 rfl (fun _ h => List.mem_cons_of_mem _ (List.mem_append_right _ (h))) 7 (Nat.le_of_ble_eq_true rfl) (List.mem_cons_of_mem _ (List.mem_append_left _ (List.mem_append_left _ (List.mem_of_getElem? (i := 6) rfl)))) rfl rfl dX10_netted_88 ?_
        refine lv_iload_n hx hb dX10_netted_91 rfl (lv_at hl 1 rfl) ?_
        refine x_iald F hP kI21 (vp_in_nI (n := j) (N := 12) (by omega) (by decide)) dX10_netted_92 ?_
        refine lv_i2l (v := (e7 (nI j).toNatClampNeg).toInt64) hx hb dX10_netted_93 (rfl) ?_
        exact y_lr K hP hD hS (Nat.le_of_ble_eq_true rfl) (Nat.le_of_ble_eq_true rfl) rfl dX10_netted_94 (⟨⟨_, rfl⟩, ⟨tg, fun _ _ => rfl, wd_kp.rf, hIX0⟩⟩)
      refine lv_tableOut (tgt := 95) hx hb dX10_netted_20 (by have z0 := lv_neT c_2 (show (0 : Int32).toInt = 0 by decide); have z1 := lv_neT c_3 (show (1 : Int32).toInt = 1 by decide); have z2 := lv_neT c_4 (show (2 : Int32).toInt = 2 by decide); have z3 := lv_neT c_5 (show (3 : Int32).toInt = 3 by decide); omega) (by decide) ?_
      refine lv_ldc2 (v := (-1)) hx hb hown (hts _ (List.mem_cons_of_mem _ (List.mem_append_left _ (List.mem_append_left _ (List.mem_of_getElem? (i := 2) rfl))))) dX10_netted_95 ?_
      exact y_lr K hP hD hS (Nat.le_of_ble_eq_true rfl) (Nat.le_of_ble_eq_true rfl) rfl dX10_netted_98 (⟨⟨_, rfl⟩, ⟨tg, fun _ _ => rfl, wd_kp.rf, hIX0⟩⟩)
    · refine lv_ldc2 (v := (-1)) hx hb hown (hts _ (List.mem_cons_of_mem _ (List.mem_append_left _ (List.mem_append_left _ (List.mem_of_getElem? (i := 2) rfl))))) dX10_netted_15 ?_
      exact y_lr K hP hD hS (Nat.le_of_ble_eq_true rfl) (Nat.le_of_ble_eq_true rfl) rfl dX10_netted_18 (⟨⟨_, rfl⟩, ⟨tg, fun _ _ => rfl, wd_kp.rf, hIX0⟩⟩)
set_option maxHeartbeats 4000000 in
set_option maxRecDepth 100000 in
theorem X_settled (l : Launch) (D : va_G) (cy : Nat → ClassId) (sk sv : Nat → Nat) (w : Wd) (tg : Nat → Nat) (x : Nat) (td : Int32) (pc ac sc ln : Nat) (se plv : Nat → Int32) (x1 x2 : Int32) (hIX0 : IX cy tg x td pc ac sc ln se plv w) : Ct l D cy sk sv yX10_settled wsX10_settled ({ frames := 1, cells := 0, slots := 0, locals := 21 }) [.ref x, .int x1, .int x2] w (fun v w1 => (∃ r : Int32, v = some (.int r)) ∧ XP cy tg x td pc ac sc ln se plv w w1) := by
  refine Ct.by (cc := cX10_settled) (maxL := 3) (ret := (some .int)) (by decide +kernel) rfl (Nat.le_of_ble_eq_true rfl) ?_
  intro p e s m args below meth c A Q F hnm K ls hl
  have F : wd_Fx p s m args meth c cX10_settled 3 wsX10_settled RX10 D cy sk sv A := F
  have hl : lv_has ls 3 [(0, .ref x), (1, .int x1), (2, .int x2)] := hl
  have hx := F.1.1
  have hb := F.1.2.1
  have hown := F.1.2.2.2.1
  have hts := F.1.2.2.2.2
  intro H locs hP hD hS
  have kp0 : wd_kp (fun b => tg b < 10000) w w := wd_kp.rf
  refine hIX0 _ ?_
  intro a0 a1 a2 a3 a4 a5 a6 a7 a8 a10 a11 b0 b1 b2 b3 tb l0 l1 l2 l3 l4 l5 l6 l7 bl bm sh gc sg lu lv9 f0 f1 f2 f3 tbf e0 e1 e4 e5 e7 ff bf bf2 e2 e3 e6 ta sz fo to fo2 to2 tf tn ag co ra aa ru ga0 ga1 ga2 ga3 ga4 df cf nf sf uf pf pa pwo phd pgd pdy pno ptp af ad av0 av1 av2 av3 zf so sr sp0 sp1 sd hf sw hto hpp hle ham hhh hdd hru hde hcp hld hp90 hp91 hp92 hp93 hp94 hp95 hp96 hp97 hag kI0 tI0 kI1 tI1 kI2 tI2 kI3 tI3 kI4 tI4 kI5 tI5 kI6 tI6 kI7 tI7 kI8 tI8 kI9 tI9 kI10 tI10 kI11 tI11 kI12 tI12 kI13 tI13 kI14 tI14 kI15 tI15 kI16 tI16 kI17 tI17 kI18 tI18 kI19 tI19 kI20 tI20 kI21 tI21 kI22 tI22 kI23 tI23 kI24 tI24 kI25 tI25 kI26 tI26 hT9 hG9 hP9 hA9 hS9 hH9
  have hlu : lu < 2 := by omega
  have hlv : lv9 < 2 := by omega
  refine lv_aload_n hx hb dX10_settled_0 rfl (lv_at hl 0 rfl) ?_
  refine x_get (ref := "NoteHouse") F hP kI0 rfl (fun _ h => List.mem_cons_of_mem _ (List.mem_append_left _ (List.mem_append_right _ (h)))) 7 (Nat.le_of_ble_eq_true rfl) (List.mem_cons_of_mem _ (List.mem_append_left _ (List.mem_append_left _ (List.mem_of_getElem? (i := 0) rfl)))) rfl rfl dX10_settled_1 ?_
  refine lv_iload_n hx hb dX10_settled_4 rfl (lv_at hl 1 rfl) ?_
  refine x_callV (n := 1) (As := [.int x1]) (rest := []) F hP hD hS (g_holds l D cy sk sv w a7 l0 l1 l2 l3 l4 l5 l6 l7 (nI gc) sz x1 e0 kI13 kI14) gX10_settled_X4_holds rfl rfl (by decide +kernel) ⟨(Nat.le_of_ble_eq_true rfl), (Nat.le_of_ble_eq_true rfl)⟩ rfl hl.1 (Nat.le_of_ble_eq_true rfl) kI13 rfl dX10_settled_5 rfl ⟨(Nat.le_of_ble_eq_true rfl), (Nat.le_of_ble_eq_true rfl)⟩ (fun v2 w3 hp1 H locs hP hD hS => ?_)
  obtain ⟨rx4, rfl, hz5, hz6, rfl⟩ := hp1
  refine W.eq (g2 := F0 m 8 ls [.int rx4]) rfl (W.widen (k := 0) (n := 0) (Nat.le_of_ble_eq_true rfl) (Nat.le_of_ble_eq_true rfl) ?_)
  refine lv_if_ne (tgt := 13) hx hb dX10_settled_8 (by decide) (fun c_7 => ?_) (fun c_7 => ?_)
  · obtain ⟨j, hj, rfl⟩ := (hz6).resolve_left c_7
    refine lv_iload_n hx hb dX10_settled_13 rfl (lv_at hl 2 rfl) ?_
    refine lv_if_ne (tgt := 27) hx hb dX10_settled_14 (by decide) (fun c_8 => ?_) (fun c_8 => ?_)
    · refine lv_iload_n hx hb dX10_settled_27 rfl (lv_at hl 2 rfl) ?_
      refine lv_iconst (v := 1) hx hb dX10_settled_28 (by decide) ?_
      refine lv_icmp_ne (tgt := 44) hx hb dX10_settled_29 (by decide) (fun c_9 => ?_) (fun c_9 => ?_)
      · refine lv_iconst (v := (-1)) hx hb dX10_settled_44 (by decide) ?_
        exact y_ir K hP hD hS (Nat.le_of_ble_eq_true rfl) (Nat.le_of_ble_eq_true rfl) (ty := .int) rfl rfl dX10_settled_45 (⟨⟨_, rfl⟩, ⟨tg, fun _ _ => rfl, wd_kp.rf, hIX0⟩⟩)
      · refine lv_aload_n hx hb dX10_settled_32 rfl (lv_at hl 0 rfl) ?_
        refine x_get (ref := "NoteHouse") F hP kI0 rfl (fun _ h => List.mem_cons_of_mem _ (List.mem_append_left _ (List.mem_append_right _ (h)))) 7 (Nat.le_of_ble_eq_true rfl) (List.mem_cons_of_mem _ (List.mem_append_left _ (List.mem_append_left _ (List.mem_of_getElem? (i := 0) rfl)))) rfl rfl dX10_settled_33 ?_
        refine x_get (ref := "NoteHouse$Settlement") F hP kI13 rfl (fun _ h => List.mem_cons_of_mem _ (List.mem_append_right _ (h))) 1 (Nat.le_of_ble_eq_true rfl) (List.mem_cons_of_mem _ (List.mem_append_left _ (List.mem_append_left _ (List.mem_of_getElem? (i := 2) rfl)))) rfl rfl dX10_settled_36 ?_
        refine lv_iload_n hx hb dX10_settled_39 rfl (lv_at hl 1 rfl) ?_
        refine x_iald F hP kI15 (vp_in_nI (n := j) (N := 200) (by omega) (by decide)) dX10_settled_40 ?_
        refine lv_goto (tgt := 45) hx hb dX10_settled_41 (by decide) ?_
        exact y_ir K hP hD hS (Nat.le_of_ble_eq_true rfl) (Nat.le_of_ble_eq_true rfl) (ty := .int) rfl rfl dX10_settled_45 (⟨⟨_, rfl⟩, ⟨tg, fun _ _ => rfl, wd_kp.rf, hIX0⟩⟩)
    · refine lv_aload_n hx hb dX10_settled_17 rfl (lv_at hl 0 rfl) ?_
      refine x_get (ref := "NoteHouse") F hP kI0 rfl (fun _ h => List.mem_cons_of_mem _ (List.mem_append_left _ (List.mem_append_right _ (h)))) 7 (Nat.le_of_ble_eq_true rfl) (List.mem_cons_of_mem _ (List.mem_append_left _ (List.mem_append_left _ (List.mem_of_getElem? (i := 0) rfl)))) rfl rfl dX10_settled_18 ?_
      refine x_get (ref := "NoteHouse$Settlement") F hP kI13 rfl (fun _ h => List.mem_cons_of_mem _ (List.mem_append_right _ (h))) 0 (Nat.le_of_ble_eq_true rfl) (List.mem_cons_of_mem _ (List.mem_append_left _ (List.mem_append_left _ (List.mem_of_getElem? (i := 1) rfl)))) rfl rfl dX10_settled_21 ?_
      refine lv_iload_n hx hb dX10_settled_24 rfl (lv_at hl 1 rfl) ?_
      refine x_iald F hP kI14 (vp_in_nI (n := j) (N := 200) (by omega) (by decide)) dX10_settled_25 ?_
      exact y_ir K hP hD hS (Nat.le_of_ble_eq_true rfl) (Nat.le_of_ble_eq_true rfl) (ty := .int) rfl rfl dX10_settled_26 (⟨⟨_, rfl⟩, ⟨tg, fun _ _ => rfl, wd_kp.rf, hIX0⟩⟩)
  · refine lv_iconst (v := (-1)) hx hb dX10_settled_11 (by decide) ?_
    exact y_ir K hP hD hS (Nat.le_of_ble_eq_true rfl) (Nat.le_of_ble_eq_true rfl) (ty := .int) rfl rfl dX10_settled_12 (⟨⟨_, rfl⟩, ⟨tg, fun _ _ => rfl, wd_kp.rf, hIX0⟩⟩)
set_option maxHeartbeats 4000000 in
set_option maxRecDepth 100000 in
theorem X_count (l : Launch) (D : va_G) (cy : Nat → ClassId) (sk sv : Nat → Nat) (w : Wd) (tg : Nat → Nat) (x : Nat) (td : Int32) (pc ac sc ln : Nat) (se plv : Nat → Int32) (x1 : Int32) (hIX0 : IX cy tg x td pc ac sc ln se plv w) : Ct l D cy sk sv yX10_count wsX10_count ({ frames := 1, cells := 0, slots := 0, locals := 22 }) [.ref x, .int x1] w (fun v w1 => (∃ r : Int32, v = some (.int r)) ∧ XP cy tg x td pc ac sc ln se plv w w1) := by
  refine Ct.by (cc := cX10_count) (maxL := 2) (ret := (some .int)) (by decide +kernel) rfl (Nat.le_of_ble_eq_true rfl) ?_
  intro p e s m args below meth c A Q F hnm K ls hl
  have F : wd_Fx p s m args meth c cX10_count 2 wsX10_count RX10 D cy sk sv A := F
  have hl : lv_has ls 2 [(0, .ref x), (1, .int x1)] := hl
  have hx := F.1.1
  have hb := F.1.2.1
  have hown := F.1.2.2.2.1
  have hts := F.1.2.2.2.2
  intro H locs hP hD hS
  have kp0 : wd_kp (fun b => tg b < 10000) w w := wd_kp.rf
  refine hIX0 _ ?_
  intro a0 a1 a2 a3 a4 a5 a6 a7 a8 a10 a11 b0 b1 b2 b3 tb l0 l1 l2 l3 l4 l5 l6 l7 bl bm sh gc sg lu lv9 f0 f1 f2 f3 tbf e0 e1 e4 e5 e7 ff bf bf2 e2 e3 e6 ta sz fo to fo2 to2 tf tn ag co ra aa ru ga0 ga1 ga2 ga3 ga4 df cf nf sf uf pf pa pwo phd pgd pdy pno ptp af ad av0 av1 av2 av3 zf so sr sp0 sp1 sd hf sw hto hpp hle ham hhh hdd hru hde hcp hld hp90 hp91 hp92 hp93 hp94 hp95 hp96 hp97 hag kI0 tI0 kI1 tI1 kI2 tI2 kI3 tI3 kI4 tI4 kI5 tI5 kI6 tI6 kI7 tI7 kI8 tI8 kI9 tI9 kI10 tI10 kI11 tI11 kI12 tI12 kI13 tI13 kI14 tI14 kI15 tI15 kI16 tI16 kI17 tI17 kI18 tI18 kI19 tI19 kI20 tI20 kI21 tI21 kI22 tI22 kI23 tI23 kI24 tI24 kI25 tI25 kI26 tI26 hT9 hG9 hP9 hA9 hS9 hH9
  have hlu : lu < 2 := by omega
  have hlv : lv9 < 2 := by omega
  refine lv_iload_n hx hb dX10_count_0 rfl (lv_at hl 1 rfl) ?_
  refine lv_bipush (v := 10) hx hb dX10_count_1 (by decide) ?_
  refine lv_bipush (v := 21) hx hb dX10_count_3 (by decide) ?_
  refine x_callS (n := 3) (As := [.int x1, .int 10, .int 21]) (rest := []) F hP hD hS (g_isWithin l D cy sk sv w x1 10 21) gX10_count_X10_isWithin rfl (by decide +kernel) ⟨(Nat.le_of_ble_eq_true rfl), (Nat.le_of_ble_eq_true rfl)⟩ rfl hl.1 (Nat.le_of_ble_eq_true rfl) dX10_count_5 rfl ⟨(Nat.le_of_ble_eq_true rfl), (Nat.le_of_ble_eq_true rfl)⟩ (fun v2 w3 hp1 H locs hP hD hS => ?_)
  obtain ⟨rfl, rfl⟩ := hp1
  refine W.eq (g2 := F0 m 8 ls [.int (wi x1 10 21)]) rfl (W.widen (k := 0) (n := 0) (Nat.le_of_ble_eq_true rfl) (Nat.le_of_ble_eq_true rfl) ?_)
  refine lv_if_eq (tgt := 27) hx hb dX10_count_8 (by decide) (fun c_4 => ?_) (fun c_4 => ?_)
  · refine lv_iload_n hx hb dX10_count_27 rfl (lv_at hl 1 rfl) ?_
    refine lv_bipush (v := 30) hx hb dX10_count_28 (by decide) ?_
    refine lv_bipush (v := 33) hx hb dX10_count_30 (by decide) ?_
    refine x_callS (n := 3) (As := [.int x1, .int 30, .int 33]) (rest := []) F hP hD hS (g_isWithin l D cy sk sv w x1 30 33) gX10_count_X10_isWithin rfl (by decide +kernel) ⟨(Nat.le_of_ble_eq_true rfl), (Nat.le_of_ble_eq_true rfl)⟩ rfl hl.1 (Nat.le_of_ble_eq_true rfl) dX10_count_32 rfl ⟨(Nat.le_of_ble_eq_true rfl), (Nat.le_of_ble_eq_true rfl)⟩ (fun v6 w7 hp5 H locs hP hD hS => ?_)
    obtain ⟨rfl, rfl⟩ := hp5
    refine W.eq (g2 := F0 m 35 ls [.int (wi x1 30 33)]) rfl (W.widen (k := 0) (n := 0) (Nat.le_of_ble_eq_true rfl) (Nat.le_of_ble_eq_true rfl) ?_)
    refine lv_if_eq (tgt := 51) hx hb dX10_count_35 (by decide) (fun c_8 => ?_) (fun c_8 => ?_)
    · refine lv_iload_n hx hb dX10_count_51 rfl (lv_at hl 1 rfl) ?_
      by_cases c_9 : x1 = 0
      · refine lv_lookup (off := 76) (tgt := 128) hx hb dX10_count_52 (by decide) (by rw [c_9]; decide) (by decide) ?_
        refine lv_aload_n hx hb dX10_count_128 rfl (lv_at hl 0 rfl) ?_
        refine x_get (ref := "NoteHouse") F hP kI0 rfl (fun _ h => List.mem_cons_of_mem _ (List.mem_append_left _ (List.mem_append_left _ (List.mem_append_left _ (List.mem_append_left _ (List.mem_append_left _ (List.mem_append_right _ (h)))))))) 12 (Nat.le_of_ble_eq_true rfl) (List.mem_cons_of_mem _ (List.mem_append_left _ (List.mem_append_left _ (List.mem_append_left _ (List.mem_append_left _ (List.mem_append_left _ (List.mem_append_left _ (List.mem_of_getElem? (i := 5) rfl)))))))) rfl rfl dX10_count_129 ?_
        exact y_ir K hP hD hS (Nat.le_of_ble_eq_true rfl) (Nat.le_of_ble_eq_true rfl) (ty := .int) rfl rfl dX10_count_132 (⟨⟨_, rfl⟩, ⟨tg, fun _ _ => rfl, wd_kp.rf, hIX0⟩⟩)
      by_cases c_10 : x1 = 1
      · refine lv_lookup (off := 81) (tgt := 133) hx hb dX10_count_52 (by decide) (by rw [c_10]; decide) (by decide) ?_
        refine lv_aload_n hx hb dX10_count_133 rfl (lv_at hl 0 rfl) ?_
        refine x_get (ref := "NoteHouse") F hP kI0 rfl (fun _ h => List.mem_cons_of_mem _ (List.mem_append_left _ (List.mem_append_left _ (List.mem_append_left _ (List.mem_append_left _ (List.mem_append_left _ (List.mem_append_right _ (h)))))))) 13 (Nat.le_of_ble_eq_true rfl) (List.mem_cons_of_mem _ (List.mem_append_left _ (List.mem_append_left _ (List.mem_append_left _ (List.mem_append_left _ (List.mem_append_left _ (List.mem_append_left _ (List.mem_of_getElem? (i := 6) rfl)))))))) rfl rfl dX10_count_134 ?_
        exact y_ir K hP hD hS (Nat.le_of_ble_eq_true rfl) (Nat.le_of_ble_eq_true rfl) (ty := .int) rfl rfl dX10_count_137 (⟨⟨_, rfl⟩, ⟨tg, fun _ _ => rfl, wd_kp.rf, hIX0⟩⟩)
      by_cases c_11 : x1 = 2
      · refine lv_lookup (off := 86) (tgt := 138) hx hb dX10_count_52 (by decide) (by rw [c_11]; decide) (by decide) ?_
        refine lv_aload_n hx hb dX10_count_138 rfl (lv_at hl 0 rfl) ?_
        refine x_get (ref := "NoteHouse") F hP kI0 rfl (fun _ h => List.mem_cons_of_mem _ (List.mem_append_left _ (List.mem_append_left _ (List.mem_append_left _ (List.mem_append_left _ (List.mem_append_left _ (List.mem_append_right _ (h)))))))) 14 (Nat.le_of_ble_eq_true rfl) (List.mem_cons_of_mem _ (List.mem_append_left _ (List.mem_append_left _ (List.mem_append_left _ (List.mem_append_left _ (List.mem_append_left _ (List.mem_append_left _ (List.mem_of_getElem? (i := 7) rfl)))))))) rfl rfl dX10_count_139 ?_
        exact y_ir K hP hD hS (Nat.le_of_ble_eq_true rfl) (Nat.le_of_ble_eq_true rfl) (ty := .int) rfl rfl dX10_count_142 (⟨⟨_, rfl⟩, ⟨tg, fun _ _ => rfl, wd_kp.rf, hIX0⟩⟩)
      by_cases c_12 : x1 = 3
      · refine lv_lookup (off := 91) (tgt := 143) hx hb dX10_count_52 (by decide) (by rw [c_12]; decide) (by decide) ?_
        refine lv_aload_n hx hb dX10_count_143 rfl (lv_at hl 0 rfl) ?_
        refine x_get (ref := "NoteHouse") F hP kI0 rfl (fun _ h => List.mem_cons_of_mem _ (List.mem_append_left _ (List.mem_append_left _ (List.mem_append_left _ (List.mem_append_left _ (List.mem_append_left _ (List.mem_append_right _ (h)))))))) 15 (Nat.le_of_ble_eq_true rfl) (List.mem_cons_of_mem _ (List.mem_append_left _ (List.mem_append_left _ (List.mem_append_left _ (List.mem_append_left _ (List.mem_append_left _ (List.mem_append_left _ (List.mem_of_getElem? (i := 8) rfl)))))))) rfl rfl dX10_count_144 ?_
        exact y_ir K hP hD hS (Nat.le_of_ble_eq_true rfl) (Nat.le_of_ble_eq_true rfl) (ty := .int) rfl rfl dX10_count_147 (⟨⟨_, rfl⟩, ⟨tg, fun _ _ => rfl, wd_kp.rf, hIX0⟩⟩)
      by_cases c_13 : x1 = 4
      · refine lv_lookup (off := 96) (tgt := 148) hx hb dX10_count_52 (by decide) (by rw [c_13]; decide) (by decide) ?_
        refine lv_aload_n hx hb dX10_count_148 rfl (lv_at hl 0 rfl) ?_
        refine x_get (ref := "NoteHouse") F hP kI0 rfl (fun _ h => List.mem_cons_of_mem _ (List.mem_append_left _ (List.mem_append_left _ (List.mem_append_left _ (List.mem_append_left _ (List.mem_append_left _ (List.mem_append_right _ (h)))))))) 16 (Nat.le_of_ble_eq_true rfl) (List.mem_cons_of_mem _ (List.mem_append_left _ (List.mem_append_left _ (List.mem_append_left _ (List.mem_append_left _ (List.mem_append_left _ (List.mem_append_left _ (List.mem_of_getElem? (i := 9) rfl)))))))) rfl rfl dX10_count_149 ?_
        exact y_ir K hP hD hS (Nat.le_of_ble_eq_true rfl) (Nat.le_of_ble_eq_true rfl) (ty := .int) rfl rfl dX10_count_152 (⟨⟨_, rfl⟩, ⟨tg, fun _ _ => rfl, wd_kp.rf, hIX0⟩⟩)
      by_cases c_14 : x1 = 5
      · refine lv_lookup (off := 101) (tgt := 153) hx hb dX10_count_52 (by decide) (by rw [c_14]; decide) (by decide) ?_
        refine lv_aload_n hx hb dX10_count_153 rfl (lv_at hl 0 rfl) ?_
        refine x_get (ref := "NoteHouse") F hP kI0 rfl (fun _ h => List.mem_cons_of_mem _ (List.mem_append_left _ (List.mem_append_left _ (List.mem_append_left _ (List.mem_append_left _ (List.mem_append_left _ (List.mem_append_right _ (h)))))))) 6 (Nat.le_of_ble_eq_true rfl) (List.mem_cons_of_mem _ (List.mem_append_left _ (List.mem_append_left _ (List.mem_append_left _ (List.mem_append_left _ (List.mem_append_left _ (List.mem_append_left _ (List.mem_of_getElem? (i := 10) rfl)))))))) rfl rfl dX10_count_154 ?_
        refine x_get (ref := "NoteHouse$Tape") F hP kI11 rfl (fun _ h => List.mem_cons_of_mem _ (List.mem_append_left _ (List.mem_append_right _ (h)))) 1 (Nat.le_of_ble_eq_true rfl) (List.mem_cons_of_mem _ (List.mem_append_left _ (List.mem_append_left _ (List.mem_append_left _ (List.mem_append_left _ (List.mem_append_left _ (List.mem_append_left _ (List.mem_of_getElem? (i := 11) rfl)))))))) rfl rfl dX10_count_157 ?_
        exact y_ir K hP hD hS (Nat.le_of_ble_eq_true rfl) (Nat.le_of_ble_eq_true rfl) (ty := .int) rfl rfl dX10_count_160 (⟨⟨_, rfl⟩, ⟨tg, fun _ _ => rfl, wd_kp.rf, hIX0⟩⟩)
      by_cases c_15 : x1 = 6
      · refine lv_lookup (off := 109) (tgt := 161) hx hb dX10_count_52 (by decide) (by rw [c_15]; decide) (by decide) ?_
        refine lv_aload_n hx hb dX10_count_161 rfl (lv_at hl 0 rfl) ?_
        refine x_get (ref := "NoteHouse") F hP kI0 rfl (fun _ h => List.mem_cons_of_mem _ (List.mem_append_left _ (List.mem_append_left _ (List.mem_append_left _ (List.mem_append_left _ (List.mem_append_left _ (List.mem_append_right _ (h)))))))) 7 (Nat.le_of_ble_eq_true rfl) (List.mem_cons_of_mem _ (List.mem_append_left _ (List.mem_append_left _ (List.mem_append_left _ (List.mem_append_left _ (List.mem_append_left _ (List.mem_append_left _ (List.mem_of_getElem? (i := 12) rfl)))))))) rfl rfl dX10_count_162 ?_
        refine x_get (ref := "NoteHouse$Settlement") F hP kI13 rfl (fun _ h => List.mem_cons_of_mem _ (List.mem_append_right _ (h))) 8 (Nat.le_of_ble_eq_true rfl) (List.mem_cons_of_mem _ (List.mem_append_left _ (List.mem_append_left _ (List.mem_append_left _ (List.mem_append_left _ (List.mem_append_left _ (List.mem_append_left _ (List.mem_of_getElem? (i := 13) rfl)))))))) rfl rfl dX10_count_165 ?_
        exact y_ir K hP hD hS (Nat.le_of_ble_eq_true rfl) (Nat.le_of_ble_eq_true rfl) (ty := .int) rfl rfl dX10_count_168 (⟨⟨_, rfl⟩, ⟨tg, fun _ _ => rfl, wd_kp.rf, hIX0⟩⟩)
      by_cases c_16 : x1 = 34
      · refine lv_lookup (off := 117) (tgt := 169) hx hb dX10_count_52 (by decide) (by rw [c_16]; decide) (by decide) ?_
        refine lv_aload_n hx hb dX10_count_169 rfl (lv_at hl 0 rfl) ?_
        refine x_get (ref := "NoteHouse") F hP kI0 rfl (fun _ h => List.mem_cons_of_mem _ (List.mem_append_left _ (List.mem_append_left _ (List.mem_append_left _ (List.mem_append_left _ (List.mem_append_left _ (List.mem_append_right _ (h)))))))) 10 (Nat.le_of_ble_eq_true rfl) (List.mem_cons_of_mem _ (List.mem_append_left _ (List.mem_append_left _ (List.mem_append_left _ (List.mem_append_left _ (List.mem_append_left _ (List.mem_append_left _ (List.mem_of_getElem? (i := 3) rfl)))))))) rfl rfl dX10_count_170 ?_
        refine x_get (ref := "NoteHouse$Law") F hP kI23 rfl (fun _ h => List.mem_cons_of_mem _ (List.mem_append_left _ (List.mem_append_left _ (List.mem_append_right _ (h))))) 1 (Nat.le_of_ble_eq_true rfl) (List.mem_cons_of_mem _ (List.mem_append_left _ (List.mem_append_left _ (List.mem_append_left _ (List.mem_append_left _ (List.mem_append_left _ (List.mem_append_left _ (List.mem_of_getElem? (i := 14) rfl)))))))) rfl rfl dX10_count_173 ?_
        exact y_ir K hP hD hS (Nat.le_of_ble_eq_true rfl) (Nat.le_of_ble_eq_true rfl) (ty := .int) rfl rfl dX10_count_176 (⟨⟨_, rfl⟩, ⟨tg, fun _ _ => rfl, wd_kp.rf, hIX0⟩⟩)
      refine lv_lookup (off := 125) (tgt := 177) hx hb dX10_count_52 (by decide) (show Op.lookupswitch.offset [(0, 76), (1, 81), (2, 86), (3, 91), (4, 96), (5, 101), (6, 109), (34, 117)] 125 x1.toInt = 125 from ((lv_osw c_9 (show (0 : Int32).toInt = 0 by decide)).trans ((lv_osw c_10 (show (1 : Int32).toInt = 1 by decide)).trans ((lv_osw c_11 (show (2 : Int32).toInt = 2 by decide)).trans ((lv_osw c_12 (show (3 : Int32).toInt = 3 by decide)).trans ((lv_osw c_13 (show (4 : Int32).toInt = 4 by decide)).trans ((lv_osw c_14 (show (5 : Int32).toInt = 5 by decide)).trans ((lv_osw c_15 (show (6 : Int32).toInt = 6 by decide)).trans ((lv_osw c_16 (show (34 : Int32).toInt = 34 by decide)).trans rfl))))))))) (by decide) ?_
      refine lv_iconst (v := (-1)) hx hb dX10_count_177 (by decide) ?_
      exact y_ir K hP hD hS (Nat.le_of_ble_eq_true rfl) (Nat.le_of_ble_eq_true rfl) (ty := .int) rfl rfl dX10_count_178 (⟨⟨_, rfl⟩, ⟨tg, fun _ _ => rfl, wd_kp.rf, hIX0⟩⟩)
    · obtain ⟨j, hj, rfl⟩ := wi_o3 c_8
      refine lv_aload_n hx hb dX10_count_38 rfl (lv_at hl 0 rfl) ?_
      refine x_get (ref := "NoteHouse") F hP kI0 rfl (fun _ h => List.mem_cons_of_mem _ (List.mem_append_left _ (List.mem_append_left _ (List.mem_append_left _ (List.mem_append_left _ (List.mem_append_left _ (List.mem_append_right _ (h)))))))) 10 (Nat.le_of_ble_eq_true rfl) (List.mem_cons_of_mem _ (List.mem_append_left _ (List.mem_append_left _ (List.mem_append_left _ (List.mem_append_left _ (List.mem_append_left _ (List.mem_append_left _ (List.mem_of_getElem? (i := 3) rfl)))))))) rfl rfl dX10_count_39 ?_
      refine x_get (ref := "NoteHouse$Law") F hP kI23 rfl (fun _ h => List.mem_cons_of_mem _ (List.mem_append_left _ (List.mem_append_left _ (List.mem_append_right _ (h))))) 0 (Nat.le_of_ble_eq_true rfl) (List.mem_cons_of_mem _ (List.mem_append_left _ (List.mem_append_left _ (List.mem_append_left _ (List.mem_append_left _ (List.mem_append_left _ (List.mem_append_left _ (List.mem_of_getElem? (i := 4) rfl)))))))) rfl rfl dX10_count_42 ?_
      refine lv_iload_n hx hb dX10_count_45 rfl (lv_at hl 1 rfl) ?_
      refine lv_bipush (v := 30) hx hb dX10_count_46 (by decide) ?_
      refine lv_isub hx hb dX10_count_48 ?_
      rw [show ((nI (j + 30)) - 30 : Int32) = nI j from ((pk_sub (a := j + 30) (b := 30) (by omega)).trans (congrArg nI (Nat.add_sub_cancel j 30)))]
      refine x_iald F hP kI24 (vp_in_nI (n := j) (N := 4) (by omega) (by decide)) dX10_count_49 ?_
      exact y_ir K hP hD hS (Nat.le_of_ble_eq_true rfl) (Nat.le_of_ble_eq_true rfl) (ty := .int) rfl rfl dX10_count_50 (⟨⟨_, rfl⟩, ⟨tg, fun _ _ => rfl, wd_kp.rf, hIX0⟩⟩)
  · obtain ⟨j, hj, rfl⟩ := wi_o c_4
    refine lv_aload_n hx hb dX10_count_11 rfl (lv_at hl 0 rfl) ?_
    refine x_get (ref := "NoteHouse") F hP kI0 rfl (fun _ h => List.mem_cons_of_mem _ (List.mem_append_left _ (List.mem_append_left _ (List.mem_append_left _ (List.mem_append_left _ (List.mem_append_left _ (List.mem_append_right _ (h)))))))) 1 (Nat.le_of_ble_eq_true rfl) (List.mem_cons_of_mem _ (List.mem_append_left _ (List.mem_append_left _ (List.mem_append_left _ (List.mem_append_left _ (List.mem_append_left _ (List.mem_append_left _ (List.mem_of_getElem? (i := 0) rfl)))))))) rfl rfl dX10_count_12 ?_
    refine lv_iload_n hx hb dX10_count_15 rfl (lv_at hl 1 rfl) ?_
    refine lv_bipush (v := 10) hx hb dX10_count_16 (by decide) ?_
    refine lv_isub hx hb dX10_count_18 ?_
    rw [show ((nI (j + 10)) - 10 : Int32) = nI j from ((pk_sub (a := j + 10) (b := 10) (by omega)).trans (congrArg nI (Nat.add_sub_cancel j 10)))]
    refine x_aald F hP kI6 rfl (vp_in_nI (n := j) (N := 12) (by omega) (by decide)) dX10_count_19 ?_
    have pr17 := (hT9 j (by omega)).1
    have k18 := (hT9 j (by omega)).2.1
    have tz19 := (hT9 j (by omega)).2.2
    rw [nI_clamp (n := j) (by omega), pr17]
    refine W.eq (g2 := F0 m _ ls [.ref (tn j)]) rfl ?_
    refine x_get (ref := "NoteHouse$Town") F hP k18 rfl (fun _ h => List.mem_cons_of_mem _ (List.mem_append_left _ (List.mem_append_left _ (List.mem_append_left _ (List.mem_append_left _ (List.mem_append_right _ (h))))))) 3 (Nat.le_of_ble_eq_true rfl) (List.mem_cons_of_mem _ (List.mem_append_left _ (List.mem_append_left _ (List.mem_append_left _ (List.mem_append_left _ (List.mem_append_left _ (List.mem_append_left _ (List.mem_of_getElem? (i := 1) rfl)))))))) rfl rfl dX10_count_20 ?_
    obtain ⟨s9, hs9, es9⟩ := hag j (by omega)
    rw [es9]
    refine W.eq (g2 := F0 m _ ls [.ref (aa s9)]) rfl ?_
    have pr20 := (hG9 s9 (by omega)).1
    have pr20a := pr20.1
    have pr20b := pr20.2
    have k21 := (hG9 s9 (by omega)).2.1
    have tz22 := (hG9 s9 (by omega)).2.2.1
    have k23 := (hG9 s9 (by omega)).2.2.2.1
    have tz24 := (hG9 s9 (by omega)).2.2.2.2.1
    have k25 := (hG9 s9 (by omega)).2.2.2.2.2.1
    have tz26 := (hG9 s9 (by omega)).2.2.2.2.2.2.1
    have k27 := (hG9 s9 (by omega)).2.2.2.2.2.2.2.1
    have tz28 := (hG9 s9 (by omega)).2.2.2.2.2.2.2.2.1
    have k29 := (hG9 s9 (by omega)).2.2.2.2.2.2.2.2.2.1
    have tz30 := (hG9 s9 (by omega)).2.2.2.2.2.2.2.2.2.2.1
    have k31 := (hG9 s9 (by omega)).2.2.2.2.2.2.2.2.2.2.2.1
    have tz32 := (hG9 s9 (by omega)).2.2.2.2.2.2.2.2.2.2.2.2
    refine x_get (ref := "NoteHouse$Agent") F hP k21 rfl (fun _ h => List.mem_cons_of_mem _ (List.mem_append_left _ (List.mem_append_left _ (List.mem_append_left _ (List.mem_append_right _ (h)))))) 5 (Nat.le_of_ble_eq_true rfl) (List.mem_cons_of_mem _ (List.mem_append_left _ (List.mem_append_left _ (List.mem_append_left _ (List.mem_append_left _ (List.mem_append_left _ (List.mem_append_left _ (List.mem_of_getElem? (i := 2) rfl)))))))) rfl rfl dX10_count_23 ?_
    exact y_ir K hP hD hS (Nat.le_of_ble_eq_true rfl) (Nat.le_of_ble_eq_true rfl) (ty := .int) rfl rfl dX10_count_26 (⟨⟨_, rfl⟩, ⟨tg, fun _ _ => rfl, wd_kp.rf, hIX0⟩⟩)
