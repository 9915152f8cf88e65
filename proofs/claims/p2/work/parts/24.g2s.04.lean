set_option maxHeartbeats 4000000 in
set_option maxRecDepth 100000 in
theorem M_comes (l : Launch) (D : va_G) (cy : Nat → ClassId) (sk sv : Nat → Nat) (w : Wd) (tg : Nat → Nat) (y : Nat) (td : Int32) (pc ac sc ln : Nat) (se plv : Nat → Int32) (x1 x2 x3 : Int32) (hIM0 : IM cy tg y td pc ac sc ln se plv w) : Ct l D cy sk sv yX11_comes wsX11_comes ({ frames := 1, cells := 0, slots := 0, locals := 22 }) [.ref y, .int x1, .int x2, .int x3] w (fun v w1 => (∃ r : Int32, v = some (.int r)) ∧ MP cy tg y td pc ac sc ln se plv w w1) := by
  refine Ct.by (cc := cX11_comes) (maxL := 4) (ret := (some .int)) (by decide +kernel) rfl (Nat.le_of_ble_eq_true rfl) ?_
  intro p e s m args below meth c A Q F hnm K ls hl
  have F : wd_Fx p s m args meth c cX11_comes 4 wsX11_comes RX11 D cy sk sv A := F
  have hl : lv_has ls 4 [(0, .ref y), (1, .int x1), (2, .int x2), (3, .int x3)] := hl
  have hx := F.1.1
  have hb := F.1.2.1
  have hown := F.1.2.2.2.1
  have hts := F.1.2.2.2.2
  intro H locs hP hD hS
  have kp0 : wd_kp (fun b => 10000 ≤ tg b) w w := wd_kp.rf
  refine hIM0 _ ?_
  intro m2 m3 m4 m5 m6 m8 m9 m10 m11 m12 m13 m14 m17 m18 m19 m20 m21 m22 m23 m24 m29 m30 m31 m32 m33 m34 m35 m36 m37 m39 m40 m41 m42 m43 m44 m45 m46 m47 m48 m49 m51 m52 m53 m54 m56 m57 m58 m59 sh gf v0 v26 v27 v28 v50 f4 f5 f6 f8 f9 f10 f11 f12 f13 f14 f17 f18 f19 f20 f21 f22 f24 f29 f30 f31 f32 f33 f34 f35 f36 f37 f39 f40 f41 f42 f43 f44 f45 f46 f47 f48 f49 f51 f52 f53 f54 f56 f57 f58 f59 qp pr fp qw wr fw qs sr fs hp90 hp91 hp92 hp93 hp94 hp95 hrl hc ht hp hso hlo kI0 tI0 kI1 tI1 kI2 tI2 kI3 tI3 kI4 tI4 kI5 tI5 kI6 tI6 kI7 tI7 kI8 tI8 kI9 tI9 kI10 tI10 kI11 tI11 kI12 tI12 kI13 tI13 kI14 tI14 kI15 tI15 kI16 tI16 kI17 tI17 kI18 tI18 kI19 tI19 kI20 tI20 kI21 tI21 kI22 tI22 kI23 tI23 kI24 tI24 kI25 tI25 kI26 tI26 kI27 tI27 kI28 tI28 kI29 tI29 kI30 tI30 kI31 tI31 kI32 tI32 kI33 tI33 kI34 tI34 kI35 tI35 kI36 tI36 kI37 tI37 kI38 tI38 kI39 tI39 kI40 tI40 kI41 tI41 kI42 tI42 kI43 tI43 kI44 tI44 kI45 tI45 kI46 tI46 kI47 tI47 kI48 tI48 hFPR hFWR hFSR
  refine lv_iload_n hx hb dX11_comes_0 rfl (lv_at hl 3 rfl) ?_
  refine x_callS (n := 1) (As := [.int x3]) (rest := []) F hP hD hS (g_mTown l D cy sk sv w x3) gX11_comes_X11_isTown rfl (by decide +kernel) ⟨(Nat.le_of_ble_eq_true rfl), (Nat.le_of_ble_eq_true rfl)⟩ rfl hl.1 (Nat.le_of_ble_eq_true rfl) dX11_comes_1 rfl ⟨(Nat.le_of_ble_eq_true rfl), (Nat.le_of_ble_eq_true rfl)⟩ (fun v2 w3 hp1 H locs hP hD hS => ?_)
  obtain ⟨rfl, rfl⟩ := hp1
  refine W.eq (g2 := F0 m 4 ls [.int (wi x3 0 11)]) rfl (W.widen (k := 0) (n := 0) (Nat.le_of_ble_eq_true rfl) (Nat.le_of_ble_eq_true rfl) ?_)
  refine lv_if_ne (tgt := 9) hx hb dX11_comes_4 (by decide) (fun c_4 => ?_) (fun c_4 => ?_)
  · obtain ⟨tw, htw, rfl, cltw⟩ := wi_t c_4
    refine lv_iload_n hx hb dX11_comes_9 rfl (lv_at hl 1 rfl) ?_
    refine lv_if_ne (tgt := 68) hx hb dX11_comes_10 (by decide) (fun cK0 => ?_) (fun cK0 => ?_)
    · refine lv_iload_n hx hb dX11_comes_68 rfl (lv_at hl 1 rfl) ?_
      refine lv_iconst (v := 1) hx hb dX11_comes_69 (by decide) ?_
      refine lv_icmp_ne (tgt := 113) hx hb dX11_comes_70 (by decide) (fun c_5 => ?_) (fun c_5 => ?_)
      · refine lv_iconst (v := (-1)) hx hb dX11_comes_113 (by decide) ?_
        exact y_ir K hP hD hS (Nat.le_of_ble_eq_true rfl) (Nat.le_of_ble_eq_true rfl) (ty := .int) rfl rfl dX11_comes_114 (⟨⟨_, rfl⟩, ⟨wd_kp.rf, hIM0⟩⟩)
      · refine lv_iload_n hx hb dX11_comes_73 rfl (lv_at hl 2 rfl) ?_
        refine lv_iconst (v := 0) hx hb dX11_comes_74 (by decide) ?_
        refine lv_aload_n hx hb dX11_comes_75 rfl (lv_at hl 0 rfl) ?_
        refine x_get (ref := "NoteHouseModel") F hP kI0 rfl (fun _ h => List.mem_cons_of_mem _ (List.mem_append_right _ (h))) 16 (Nat.le_of_ble_eq_true rfl) (List.mem_cons_of_mem _ (List.mem_append_left _ (List.mem_of_getElem? (i := 5) rfl))) rfl rfl dX11_comes_76 ?_
        refine lv_iconst (v := 1) hx hb dX11_comes_79 (by decide) ?_
        refine lv_isub hx hb dX11_comes_80 ?_
        refine x_callS (n := 3) (As := [.int x2, .int 0, .int ((nI sc) - 1)]) (rest := []) F hP hD hS (g_in l D cy sk sv w x2 0 ((nI sc) - 1)) gX11_comes_X11_in rfl (by decide +kernel) ⟨(Nat.le_of_ble_eq_true rfl), (Nat.le_of_ble_eq_true rfl)⟩ rfl hl.1 (Nat.le_of_ble_eq_true rfl) dX11_comes_81 rfl ⟨(Nat.le_of_ble_eq_true rfl), (Nat.le_of_ble_eq_true rfl)⟩ (fun v7 w8 hp6 H locs hP hD hS => ?_)
        obtain ⟨rfl, rfl⟩ := hp6
        refine W.eq (g2 := F0 m 84 ls [.int (wi x2 0 ((nI sc) - 1))]) rfl (W.widen (k := 0) (n := 0) (Nat.le_of_ble_eq_true rfl) (Nat.le_of_ble_eq_true rfl) ?_)
        refine lv_if_eq (tgt := 113) hx hb dX11_comes_84 (by decide) (fun c_9 => ?_) (fun c_9 => ?_)
        · refine lv_iconst (v := (-1)) hx hb dX11_comes_113 (by decide) ?_
          exact y_ir K hP hD hS (Nat.le_of_ble_eq_true rfl) (Nat.le_of_ble_eq_true rfl) (ty := .int) rfl rfl dX11_comes_114 (⟨⟨_, rfl⟩, ⟨wd_kp.rf, hIM0⟩⟩)
        · obtain ⟨kk, hkk, rfl⟩ := pb_i (by omega) c_9
          have clkk : (nI kk).toNatClampNeg = kk := nI_clamp (by omega)
          refine lv_aload_n hx hb dX11_comes_87 rfl (lv_at hl 0 rfl) ?_
          refine x_get (ref := "NoteHouseModel") F hP kI0 rfl (fun _ h => List.mem_cons_of_mem _ (List.mem_append_right _ (h))) 23 (Nat.le_of_ble_eq_true rfl) (List.mem_cons_of_mem _ (List.mem_append_left _ (List.mem_of_getElem? (i := 6) rfl))) rfl rfl dX11_comes_88 ?_
          refine lv_iload_n hx hb dX11_comes_91 rfl (lv_at hl 2 rfl) ?_
          refine x_aaldA F hP kI19 (vp_in_nI (n := kk) (N := 60) (by omega) (by decide)) dX11_comes_92 ?_
          have pr10 := (hFSR kk (by omega)).1
          have k11 := (hFSR kk (by omega)).2.1
          have tz12 := (hFSR kk (by omega)).2.2
          rw [nI_clamp (n := kk) (by omega), pr10]
          refine W.eq (g2 := F0 m _ ls [.ref (sr kk)]) rfl ?_
          refine lv_iload_n hx hb dX11_comes_93 rfl (lv_at hl 3 rfl) ?_
          refine x_iald F hP k11 (vp_in_nI (n := tw) (N := 12) (by omega) (by decide)) dX11_comes_94 ?_
          refine lv_ldc (v := 268435456) hx hb hown (hts _ (List.mem_cons_of_mem _ (List.mem_append_left _ (List.mem_of_getElem? (i := 4) rfl)))) dX11_comes_95 ?_
          refine lv_icmp_ne (tgt := 104) hx hb dX11_comes_97 (by decide) (fun c_13 => ?_) (fun c_13 => ?_)
          · refine lv_aload_n hx hb dX11_comes_104 rfl (lv_at hl 0 rfl) ?_
            refine x_get (ref := "NoteHouseModel") F hP kI0 rfl (fun _ h => List.mem_cons_of_mem _ (List.mem_append_right _ (h))) 23 (Nat.le_of_ble_eq_true rfl) (List.mem_cons_of_mem _ (List.mem_append_left _ (List.mem_of_getElem? (i := 6) rfl))) rfl rfl dX11_comes_105 ?_
            refine lv_iload_n hx hb dX11_comes_108 rfl (lv_at hl 2 rfl) ?_
            refine x_aaldA F hP kI19 (vp_in_nI (n := kk) (N := 60) (by omega) (by decide)) dX11_comes_109 ?_
            rw [nI_clamp (n := kk) (by omega), pr10]
            refine W.eq (g2 := F0 m _ ls [.ref (sr kk)]) rfl ?_
            refine lv_iload_n hx hb dX11_comes_110 rfl (lv_at hl 3 rfl) ?_
            refine x_iald F hP k11 (vp_in_nI (n := tw) (N := 12) (by omega) (by decide)) dX11_comes_111 ?_
            exact y_ir K hP hD hS (Nat.le_of_ble_eq_true rfl) (Nat.le_of_ble_eq_true rfl) (ty := .int) rfl rfl dX11_comes_112 (⟨⟨_, rfl⟩, ⟨wd_kp.rf, hIM0⟩⟩)
          · refine lv_iconst (v := (-1)) hx hb dX11_comes_100 (by decide) ?_
            refine lv_goto (tgt := 112) hx hb dX11_comes_101 (by decide) ?_
            exact y_ir K hP hD hS (Nat.le_of_ble_eq_true rfl) (Nat.le_of_ble_eq_true rfl) (ty := .int) rfl rfl dX11_comes_112 (⟨⟨_, rfl⟩, ⟨wd_kp.rf, hIM0⟩⟩)
    · refine lv_iload_n hx hb dX11_comes_13 rfl (lv_at hl 2 rfl) ?_
      refine lv_iconst (v := 0) hx hb dX11_comes_14 (by decide) ?_
      refine lv_aload_n hx hb dX11_comes_15 rfl (lv_at hl 0 rfl) ?_
      refine x_get (ref := "NoteHouseModel") F hP kI0 rfl (fun _ h => List.mem_cons_of_mem _ (List.mem_append_right _ (h))) 15 (Nat.le_of_ble_eq_true rfl) (List.mem_cons_of_mem _ (List.mem_append_left _ (List.mem_of_getElem? (i := 0) rfl))) rfl rfl dX11_comes_16 ?_
      refine lv_iconst (v := 1) hx hb dX11_comes_19 (by decide) ?_
      refine lv_isub hx hb dX11_comes_20 ?_
      refine x_callS (n := 3) (As := [.int x2, .int 0, .int ((nI ac) - 1)]) (rest := []) F hP hD hS (g_in l D cy sk sv w x2 0 ((nI ac) - 1)) gX11_comes_X11_in rfl (by decide +kernel) ⟨(Nat.le_of_ble_eq_true rfl), (Nat.le_of_ble_eq_true rfl)⟩ rfl hl.1 (Nat.le_of_ble_eq_true rfl) dX11_comes_21 rfl ⟨(Nat.le_of_ble_eq_true rfl), (Nat.le_of_ble_eq_true rfl)⟩ (fun v15 w16 hp14 H locs hP hD hS => ?_)
      obtain ⟨rfl, rfl⟩ := hp14
      refine W.eq (g2 := F0 m 24 ls [.int (wi x2 0 ((nI ac) - 1))]) rfl (W.widen (k := 0) (n := 0) (Nat.le_of_ble_eq_true rfl) (Nat.le_of_ble_eq_true rfl) ?_)
      refine lv_if_eq (tgt := 68) hx hb dX11_comes_24 (by decide) (fun c_17 => ?_) (fun c_17 => ?_)
      · refine lv_iload_n hx hb dX11_comes_68 rfl (lv_at hl 1 rfl) ?_
        refine lv_iconst (v := 1) hx hb dX11_comes_69 (by decide) ?_
        refine lv_icmp_ne (tgt := 113) hx hb dX11_comes_70 (by decide) (fun c_18 => ?_) (fun c_18 => absurd c_18 (fun q => absurd (cK0.symm.trans q) (by decide)))
        refine lv_iconst (v := (-1)) hx hb dX11_comes_113 (by decide) ?_
        exact y_ir K hP hD hS (Nat.le_of_ble_eq_true rfl) (Nat.le_of_ble_eq_true rfl) (ty := .int) rfl rfl dX11_comes_114 (⟨⟨_, rfl⟩, ⟨wd_kp.rf, hIM0⟩⟩)
      · obtain ⟨kk, hkk, rfl⟩ := pb_i (by omega) c_17
        have clkk : (nI kk).toNatClampNeg = kk := nI_clamp (by omega)
        refine lv_aload_n hx hb dX11_comes_27 rfl (lv_at hl 0 rfl) ?_
        refine x_get (ref := "NoteHouseModel") F hP kI0 rfl (fun _ h => List.mem_cons_of_mem _ (List.mem_append_right _ (h))) 18 (Nat.le_of_ble_eq_true rfl) (List.mem_cons_of_mem _ (List.mem_append_left _ (List.mem_of_getElem? (i := 1) rfl))) rfl rfl dX11_comes_28 ?_
        refine lv_iload_n hx hb dX11_comes_31 rfl (lv_at hl 2 rfl) ?_
        refine x_iald F hP kI14 (vp_in_nI (n := kk) (N := 60) (by omega) (by decide)) dX11_comes_32 ?_
        refine lv_iload_n hx hb dX11_comes_33 rfl (lv_at hl 3 rfl) ?_
        refine lv_icmp_ne (tgt := 68) hx hb dX11_comes_34 (by decide) (fun c_19 => ?_) (fun c_19 => ?_)
        · refine lv_iload_n hx hb dX11_comes_68 rfl (lv_at hl 1 rfl) ?_
          refine lv_iconst (v := 1) hx hb dX11_comes_69 (by decide) ?_
          refine lv_icmp_ne (tgt := 113) hx hb dX11_comes_70 (by decide) (fun c_20 => ?_) (fun c_20 => absurd c_20 (fun q => absurd (cK0.symm.trans q) (by decide)))
          refine lv_iconst (v := (-1)) hx hb dX11_comes_113 (by decide) ?_
          exact y_ir K hP hD hS (Nat.le_of_ble_eq_true rfl) (Nat.le_of_ble_eq_true rfl) (ty := .int) rfl rfl dX11_comes_114 (⟨⟨_, rfl⟩, ⟨wd_kp.rf, hIM0⟩⟩)
        · refine lv_aload_n hx hb dX11_comes_37 rfl (lv_at hl 0 rfl) ?_
          refine x_get (ref := "NoteHouseModel") F hP kI0 rfl (fun _ h => List.mem_cons_of_mem _ (List.mem_append_right _ (h))) 20 (Nat.le_of_ble_eq_true rfl) (List.mem_cons_of_mem _ (List.mem_append_left _ (List.mem_of_getElem? (i := 2) rfl))) rfl rfl dX11_comes_38 ?_
          refine lv_iload_n hx hb dX11_comes_41 rfl (lv_at hl 2 rfl) ?_
          refine x_zald F hP kI16 (vp_in_nI (n := kk) (N := 60) (by omega) (by decide)) dX11_comes_42 ?_
          refine lv_if_ne (tgt := 68) hx hb dX11_comes_43 (by decide) (fun c_21 => ?_) (fun c_21 => ?_)
          · refine lv_iload_n hx hb dX11_comes_68 rfl (lv_at hl 1 rfl) ?_
            refine lv_iconst (v := 1) hx hb dX11_comes_69 (by decide) ?_
            refine lv_icmp_ne (tgt := 113) hx hb dX11_comes_70 (by decide) (fun c_22 => ?_) (fun c_22 => absurd c_22 (fun q => absurd (cK0.symm.trans q) (by decide)))
            refine lv_iconst (v := (-1)) hx hb dX11_comes_113 (by decide) ?_
            exact y_ir K hP hD hS (Nat.le_of_ble_eq_true rfl) (Nat.le_of_ble_eq_true rfl) (ty := .int) rfl rfl dX11_comes_114 (⟨⟨_, rfl⟩, ⟨wd_kp.rf, hIM0⟩⟩)
          · refine lv_aload_n hx hb dX11_comes_46 rfl (lv_at hl 0 rfl) ?_
            refine x_get (ref := "NoteHouseModel") F hP kI0 rfl (fun _ h => List.mem_cons_of_mem _ (List.mem_append_right _ (h))) 19 (Nat.le_of_ble_eq_true rfl) (List.mem_cons_of_mem _ (List.mem_append_left _ (List.mem_of_getElem? (i := 3) rfl))) rfl rfl dX11_comes_47 ?_
            refine lv_iload_n hx hb dX11_comes_50 rfl (lv_at hl 2 rfl) ?_
            refine x_iald F hP kI15 (vp_in_nI (n := kk) (N := 60) (by omega) (by decide)) dX11_comes_51 ?_
            refine lv_ldc (v := 268435456) hx hb hown (hts _ (List.mem_cons_of_mem _ (List.mem_append_left _ (List.mem_of_getElem? (i := 4) rfl)))) dX11_comes_52 ?_
            refine lv_icmp_ne (tgt := 61) hx hb dX11_comes_54 (by decide) (fun c_23 => ?_) (fun c_23 => ?_)
            · refine lv_aload_n hx hb dX11_comes_61 rfl (lv_at hl 0 rfl) ?_
              refine x_get (ref := "NoteHouseModel") F hP kI0 rfl (fun _ h => List.mem_cons_of_mem _ (List.mem_append_right _ (h))) 19 (Nat.le_of_ble_eq_true rfl) (List.mem_cons_of_mem _ (List.mem_append_left _ (List.mem_of_getElem? (i := 3) rfl))) rfl rfl dX11_comes_62 ?_
              refine lv_iload_n hx hb dX11_comes_65 rfl (lv_at hl 2 rfl) ?_
              refine x_iald F hP kI15 (vp_in_nI (n := kk) (N := 60) (by omega) (by decide)) dX11_comes_66 ?_
              exact y_ir K hP hD hS (Nat.le_of_ble_eq_true rfl) (Nat.le_of_ble_eq_true rfl) (ty := .int) rfl rfl dX11_comes_67 (⟨⟨_, rfl⟩, ⟨wd_kp.rf, hIM0⟩⟩)
            · refine lv_iconst (v := (-1)) hx hb dX11_comes_57 (by decide) ?_
              refine lv_goto (tgt := 67) hx hb dX11_comes_58 (by decide) ?_
              exact y_ir K hP hD hS (Nat.le_of_ble_eq_true rfl) (Nat.le_of_ble_eq_true rfl) (ty := .int) rfl rfl dX11_comes_67 (⟨⟨_, rfl⟩, ⟨wd_kp.rf, hIM0⟩⟩)
  · refine lv_iconst (v := (-1)) hx hb dX11_comes_7 (by decide) ?_
    exact y_ir K hP hD hS (Nat.le_of_ble_eq_true rfl) (Nat.le_of_ble_eq_true rfl) (ty := .int) rfl rfl dX11_comes_8 (⟨⟨_, rfl⟩, ⟨wd_kp.rf, hIM0⟩⟩)
set_option maxHeartbeats 4000000 in
set_option maxRecDepth 100000 in
theorem M_feed (l : Launch) (D : va_G) (cy : Nat → ClassId) (sk sv : Nat → Nat) (w : Wd) (tg : Nat → Nat) (y : Nat) (td : Int32) (pc ac sc ln : Nat) (se plv : Nat → Int32) (x1 x2 x3 x4 x5 : Int32) (hIM0 : IM cy tg y td pc ac sc ln se plv w) : Ct l D cy sk sv yX11_feed wsX11_feed ({ frames := 1, cells := 0, slots := 0, locals := 22 }) [.ref y, .int x1, .int x2, .int x3, .int x4, .int x5] w (fun v w1 => v = some (.int (feedA ln)) ∧ MP cy tg y td pc ac sc (feedC ln) se plv w w1) := by
  refine Ct.by (cc := cX11_feed) (maxL := 6) (ret := (some .int)) (by decide +kernel) rfl (Nat.le_of_ble_eq_true rfl) ?_
  intro p e s m args below meth c A Q F hnm K ls hl
  have F : wd_Fx p s m args meth c cX11_feed 6 wsX11_feed RX11 D cy sk sv A := F
  have hl : lv_has ls 6 [(0, .ref y), (1, .int x1), (2, .int x2), (3, .int x3), (4, .int x4), (5, .int x5)] := hl
  have hx := F.1.1
  have hb := F.1.2.1
  have hown := F.1.2.2.2.1
  have hts := F.1.2.2.2.2
  intro H locs hP hD hS
  have kp0 : wd_kp (fun b => 10000 ≤ tg b) w w := wd_kp.rf
  refine hIM0 _ ?_
  intro m2 m3 m4 m5 m6 m8 m9 m10 m11 m12 m13 m14 m17 m18 m19 m20 m21 m22 m23 m24 m29 m30 m31 m32 m33 m34 m35 m36 m37 m39 m40 m41 m42 m43 m44 m45 m46 m47 m48 m49 m51 m52 m53 m54 m56 m57 m58 m59 sh gf v0 v26 v27 v28 v50 f4 f5 f6 f8 f9 f10 f11 f12 f13 f14 f17 f18 f19 f20 f21 f22 f24 f29 f30 f31 f32 f33 f34 f35 f36 f37 f39 f40 f41 f42 f43 f44 f45 f46 f47 f48 f49 f51 f52 f53 f54 f56 f57 f58 f59 qp pr fp qw wr fw qs sr fs hp90 hp91 hp92 hp93 hp94 hp95 hrl hc ht hp hso hlo kI0 tI0 kI1 tI1 kI2 tI2 kI3 tI3 kI4 tI4 kI5 tI5 kI6 tI6 kI7 tI7 kI8 tI8 kI9 tI9 kI10 tI10 kI11 tI11 kI12 tI12 kI13 tI13 kI14 tI14 kI15 tI15 kI16 tI16 kI17 tI17 kI18 tI18 kI19 tI19 kI20 tI20 kI21 tI21 kI22 tI22 kI23 tI23 kI24 tI24 kI25 tI25 kI26 tI26 kI27 tI27 kI28 tI28 kI29 tI29 kI30 tI30 kI31 tI31 kI32 tI32 kI33 tI33 kI34 tI34 kI35 tI35 kI36 tI36 kI37 tI37 kI38 tI38 kI39 tI39 kI40 tI40 kI41 tI41 kI42 tI42 kI43 tI43 kI44 tI44 kI45 tI45 kI46 tI46 kI47 tI47 kI48 tI48 hFPR hFWR hFSR
  refine lv_aload_n hx hb dX11_feed_0 rfl (lv_at hl 0 rfl) ?_
  refine x_get (ref := "NoteHouseModel") F hP kI0 rfl (fun _ h => List.mem_cons_of_mem _ (List.mem_append_right _ (h))) 25 (Nat.le_of_ble_eq_true rfl) (List.mem_cons_of_mem _ (List.mem_append_left _ (List.mem_of_getElem? (i := 0) rfl))) rfl rfl dX11_feed_1 ?_
  refine lv_bipush (v := 20) hx hb dX11_feed_4 (by decide) ?_
  refine lv_iadd hx hb dX11_feed_6 ?_
  rw [show ((nI ln) + 20 : Int32) = nI (ln + 20) from nI_add ln 20]
  refine lv_sipush (v := 300) hx hb dX11_feed_7 (by decide) ?_
  refine lv_icmp_le (tgt := 15) hx hb dX11_feed_10 (by decide) (fun c_1 => ?_) (fun c_1 => ?_)
  · have hrm : ln + 20 ≤ 300 := (nI_leI (a := ln + 20) (b := 300) (by omega) (by omega)).mp c_1
    refine lv_aload_n hx hb dX11_feed_15 rfl (lv_at hl 0 rfl) ?_
    refine lv_iload_n hx hb dX11_feed_16 rfl (lv_at hl 1 rfl) ?_
    refine x_callV (n := 1) (As := [.int x1]) (rest := []) F hP hD hS (m_put l D cy sk sv w tg y m2 m3 m4 m5 m6 m8 m9 m10 m11 m12 m13 m14 m17 m18 m19 m20 m21 m22 m23 m24 m29 m30 m31 m32 m33 m34 m35 m36 m37 m39 m40 m41 m42 m43 m44 m45 m46 m47 m48 m49 m51 m52 m53 m54 m56 m57 m58 m59 pc ac sc ln sh gf v0 td v26 v27 v28 v50 f24 x1 kI0 kI20 (fun b => b = y ∨ b = m24) (Or.inl rfl) (Or.inr rfl) tI0 tI20 (by omega)) gX11_feed_X11_put rfl rfl (by decide +kernel) ⟨(Nat.le_of_ble_eq_true rfl), (Nat.le_of_ble_eq_true rfl)⟩ rfl hl.1 (Nat.le_of_ble_eq_true rfl) kI0 rfl dX11_feed_17 rfl ⟨(Nat.le_of_ble_eq_true rfl), (Nat.le_of_ble_eq_true rfl)⟩ (fun v3 w4 hp2 H locs hP hD hS => ?_)
    obtain ⟨gx5, rfl, kq8, k6, k7⟩ := hp2
    have k9 := kq8.2 _ _ kI1 (orN (tg_ne tI1 tI0 (by decide)) (tg_ne tI1 tI20 (by decide)))
    have k10 := kq8.2 _ _ kI2 (orN (tg_ne tI2 tI0 (by decide)) (tg_ne tI2 tI20 (by decide)))
    have k11 := kq8.2 _ _ kI3 (orN (tg_ne tI3 tI0 (by decide)) (tg_ne tI3 tI20 (by decide)))
    have k12 := kq8.2 _ _ kI4 (orN (tg_ne tI4 tI0 (by decide)) (tg_ne tI4 tI20 (by decide)))
    have k13 := kq8.2 _ _ kI5 (orN (tg_ne tI5 tI0 (by decide)) (tg_ne tI5 tI20 (by decide)))
    have k14 := kq8.2 _ _ kI6 (orN (tg_ne tI6 tI0 (by decide)) (tg_ne tI6 tI20 (by decide)))
    have k15 := kq8.2 _ _ kI7 (orN (tg_ne tI7 tI0 (by decide)) (tg_ne tI7 tI20 (by decide)))
    have k16 := kq8.2 _ _ kI8 (orN (tg_ne tI8 tI0 (by decide)) (tg_ne tI8 tI20 (by decide)))
    have k17 := kq8.2 _ _ kI9 (orN (tg_ne tI9 tI0 (by decide)) (tg_ne tI9 tI20 (by decide)))
    have k18 := kq8.2 _ _ kI10 (orN (tg_ne tI10 tI0 (by decide)) (tg_ne tI10 tI20 (by decide)))
    have k19 := kq8.2 _ _ kI11 (orN (tg_ne tI11 tI0 (by decide)) (tg_ne tI11 tI20 (by decide)))
    have k20 := kq8.2 _ _ kI12 (orN (tg_ne tI12 tI0 (by decide)) (tg_ne tI12 tI20 (by decide)))
    have k21 := kq8.2 _ _ kI13 (orN (tg_ne tI13 tI0 (by decide)) (tg_ne tI13 tI20 (by decide)))
    have k22 := kq8.2 _ _ kI14 (orN (tg_ne tI14 tI0 (by decide)) (tg_ne tI14 tI20 (by decide)))
    have k23 := kq8.2 _ _ kI15 (orN (tg_ne tI15 tI0 (by decide)) (tg_ne tI15 tI20 (by decide)))
    have k24 := kq8.2 _ _ kI16 (orN (tg_ne tI16 tI0 (by decide)) (tg_ne tI16 tI20 (by decide)))
    have k25 := kq8.2 _ _ kI17 (orN (tg_ne tI17 tI0 (by decide)) (tg_ne tI17 tI20 (by decide)))
    have k26 := kq8.2 _ _ kI18 (orN (tg_ne tI18 tI0 (by decide)) (tg_ne tI18 tI20 (by decide)))
    have k27 := kq8.2 _ _ kI19 (orN (tg_ne tI19 tI0 (by decide)) (tg_ne tI19 tI20 (by decide)))
    have k28 := kq8.2 _ _ kI21 (orN (tg_ne tI21 tI0 (by decide)) (tg_ne tI21 tI20 (by decide)))
    have k29 := kq8.2 _ _ kI22 (orN (tg_ne tI22 tI0 (by decide)) (tg_ne tI22 tI20 (by decide)))
    have k30 := kq8.2 _ _ kI23 (orN (tg_ne tI23 tI0 (by decide)) (tg_ne tI23 tI20 (by decide)))
    have k31 := kq8.2 _ _ kI24 (orN (tg_ne tI24 tI0 (by decide)) (tg_ne tI24 tI20 (by decide)))
    have k32 := kq8.2 _ _ kI25 (orN (tg_ne tI25 tI0 (by decide)) (tg_ne tI25 tI20 (by decide)))
    have k33 := kq8.2 _ _ kI26 (orN (tg_ne tI26 tI0 (by decide)) (tg_ne tI26 tI20 (by decide)))
    have k34 := kq8.2 _ _ kI27 (orN (tg_ne tI27 tI0 (by decide)) (tg_ne tI27 tI20 (by decide)))
    have k35 := kq8.2 _ _ kI28 (orN (tg_ne tI28 tI0 (by decide)) (tg_ne tI28 tI20 (by decide)))
    have k36 := kq8.2 _ _ kI29 (orN (tg_ne tI29 tI0 (by decide)) (tg_ne tI29 tI20 (by decide)))
    have k37 := kq8.2 _ _ kI30 (orN (tg_ne tI30 tI0 (by decide)) (tg_ne tI30 tI20 (by decide)))
    have k38 := kq8.2 _ _ kI31 (orN (tg_ne tI31 tI0 (by decide)) (tg_ne tI31 tI20 (by decide)))
    have k39 := kq8.2 _ _ kI32 (orN (tg_ne tI32 tI0 (by decide)) (tg_ne tI32 tI20 (by decide)))
    have k40 := kq8.2 _ _ kI33 (orN (tg_ne tI33 tI0 (by decide)) (tg_ne tI33 tI20 (by decide)))
    have k41 := kq8.2 _ _ kI34 (orN (tg_ne tI34 tI0 (by decide)) (tg_ne tI34 tI20 (by decide)))
    have k42 := kq8.2 _ _ kI35 (orN (tg_ne tI35 tI0 (by decide)) (tg_ne tI35 tI20 (by decide)))
    have k43 := kq8.2 _ _ kI36 (orN (tg_ne tI36 tI0 (by decide)) (tg_ne tI36 tI20 (by decide)))
    have k44 := kq8.2 _ _ kI37 (orN (tg_ne tI37 tI0 (by decide)) (tg_ne tI37 tI20 (by decide)))
    have k45 := kq8.2 _ _ kI38 (orN (tg_ne tI38 tI0 (by decide)) (tg_ne tI38 tI20 (by decide)))
    have k46 := kq8.2 _ _ kI39 (orN (tg_ne tI39 tI0 (by decide)) (tg_ne tI39 tI20 (by decide)))
    have k47 := kq8.2 _ _ kI40 (orN (tg_ne tI40 tI0 (by decide)) (tg_ne tI40 tI20 (by decide)))
    have k48 := kq8.2 _ _ kI41 (orN (tg_ne tI41 tI0 (by decide)) (tg_ne tI41 tI20 (by decide)))
    have k49 := kq8.2 _ _ kI42 (orN (tg_ne tI42 tI0 (by decide)) (tg_ne tI42 tI20 (by decide)))
    have k50 := kq8.2 _ _ kI43 (orN (tg_ne tI43 tI0 (by decide)) (tg_ne tI43 tI20 (by decide)))
    have k51 := kq8.2 _ _ kI44 (orN (tg_ne tI44 tI0 (by decide)) (tg_ne tI44 tI20 (by decide)))
    have k52 := kq8.2 _ _ kI45 (orN (tg_ne tI45 tI0 (by decide)) (tg_ne tI45 tI20 (by decide)))
    have k53 := kq8.2 _ _ kI46 (orN (tg_ne tI46 tI0 (by decide)) (tg_ne tI46 tI20 (by decide)))
    have k54 := kq8.2 _ _ kI47 (orN (tg_ne tI47 tI0 (by decide)) (tg_ne tI47 tI20 (by decide)))
    have k55 := kq8.2 _ _ kI48 (orN (tg_ne tI48 tI0 (by decide)) (tg_ne tI48 tI20 (by decide)))
    have fm56 : ∀ k9, k9 < 12 → qp k9 = some (pr k9) ∧ wd_at w4 (pr k9) (.inl (cy 2, 12, .inl (fp k9))) ∧ tg (pr k9) = 11000 + k9 := fun k9 hi9 => ⟨(hFPR k9 hi9).1, kq8.2 _ _ (hFPR k9 hi9).2.1 (orN (tg_ne (hFPR k9 hi9).2.2 tI0 (tnA (show 10000 < 11000 by decide))) (tg_ne (hFPR k9 hi9).2.2 tI20 (tnA (show 10124 < 11000 by decide)))), (hFPR k9 hi9).2.2⟩
    have fm57 : ∀ k9, k9 < 12 → qw k9 = some (wr k9) ∧ wd_at w4 (wr k9) (.inl (cy 2, 12, .inl (fw k9))) ∧ tg (wr k9) = 12000 + k9 := fun k9 hi9 => ⟨(hFWR k9 hi9).1, kq8.2 _ _ (hFWR k9 hi9).2.1 (orN (tg_ne (hFWR k9 hi9).2.2 tI0 (tnA (show 10000 < 12000 by decide))) (tg_ne (hFWR k9 hi9).2.2 tI20 (tnA (show 10124 < 12000 by decide)))), (hFWR k9 hi9).2.2⟩
    have fm58 : ∀ k9, k9 < 60 → qs k9 = some (sr k9) ∧ wd_at w4 (sr k9) (.inl (cy 2, 12, .inl (fs k9))) ∧ tg (sr k9) = 13000 + k9 := fun k9 hi9 => ⟨(hFSR k9 hi9).1, kq8.2 _ _ (hFSR k9 hi9).2.1 (orN (tg_ne (hFSR k9 hi9).2.2 tI0 (tnA (show 10000 < 13000 by decide))) (tg_ne (hFSR k9 hi9).2.2 tI20 (tnA (show 10124 < 13000 by decide)))), (hFSR k9 hi9).2.2⟩
    have kp59 := kp0.tr kq8 (fun b9 hm q9 => (fun q9 => Or.elim q9 (fun q9 => q9 ▸ (tgT tI0 (by decide))) (fun q9 => q9 ▸ (tgT tI20 (by decide)))) q9)
    refine W.eq (g2 := F0 m 20 ls []) rfl (W.widen (k := 0) (n := 0) (Nat.le_of_ble_eq_true rfl) (Nat.le_of_ble_eq_true rfl) ?_)
    refine lv_aload_n hx hb dX11_feed_20 rfl (lv_at hl 0 rfl) ?_
    refine lv_iload_n hx hb dX11_feed_21 rfl (lv_at hl 2 rfl) ?_
    refine x_callV (n := 1) (As := [.int x2]) (rest := []) F hP hD hS (m_put l D cy sk sv w4 tg y m2 m3 m4 m5 m6 m8 m9 m10 m11 m12 m13 m14 m17 m18 m19 m20 m21 m22 m23 m24 m29 m30 m31 m32 m33 m34 m35 m36 m37 m39 m40 m41 m42 m43 m44 m45 m46 m47 m48 m49 m51 m52 m53 m54 m56 m57 m58 m59 pc ac sc (ln + 4) sh gf v0 td v26 v27 v28 v50 gx5 x2 k6 k7 (fun b => b = y ∨ b = m24) (Or.inl rfl) (Or.inr rfl) tI0 tI20 (by omega)) gX11_feed_X11_put rfl rfl (by decide +kernel) ⟨(Nat.le_of_ble_eq_true rfl), (Nat.le_of_ble_eq_true rfl)⟩ rfl hl.1 (Nat.le_of_ble_eq_true rfl) k6 rfl dX11_feed_22 rfl ⟨(Nat.le_of_ble_eq_true rfl), (Nat.le_of_ble_eq_true rfl)⟩ (fun v61 w62 hp60 H locs hP hD hS => ?_)
    obtain ⟨gx63, rfl, kq66, k64, k65⟩ := hp60
    have k67 := kq66.2 _ _ k9 (orN (tg_ne tI1 tI0 (by decide)) (tg_ne tI1 tI20 (by decide)))
    have k68 := kq66.2 _ _ k10 (orN (tg_ne tI2 tI0 (by decide)) (tg_ne tI2 tI20 (by decide)))
    have k69 := kq66.2 _ _ k11 (orN (tg_ne tI3 tI0 (by decide)) (tg_ne tI3 tI20 (by decide)))
    have k70 := kq66.2 _ _ k12 (orN (tg_ne tI4 tI0 (by decide)) (tg_ne tI4 tI20 (by decide)))
    have k71 := kq66.2 _ _ k13 (orN (tg_ne tI5 tI0 (by decide)) (tg_ne tI5 tI20 (by decide)))
    have k72 := kq66.2 _ _ k14 (orN (tg_ne tI6 tI0 (by decide)) (tg_ne tI6 tI20 (by decide)))
    have k73 := kq66.2 _ _ k15 (orN (tg_ne tI7 tI0 (by decide)) (tg_ne tI7 tI20 (by decide)))
    have k74 := kq66.2 _ _ k16 (orN (tg_ne tI8 tI0 (by decide)) (tg_ne tI8 tI20 (by decide)))
    have k75 := kq66.2 _ _ k17 (orN (tg_ne tI9 tI0 (by decide)) (tg_ne tI9 tI20 (by decide)))
    have k76 := kq66.2 _ _ k18 (orN (tg_ne tI10 tI0 (by decide)) (tg_ne tI10 tI20 (by decide)))
    have k77 := kq66.2 _ _ k19 (orN (tg_ne tI11 tI0 (by decide)) (tg_ne tI11 tI20 (by decide)))
    have k78 := kq66.2 _ _ k20 (orN (tg_ne tI12 tI0 (by decide)) (tg_ne tI12 tI20 (by decide)))
    have k79 := kq66.2 _ _ k21 (orN (tg_ne tI13 tI0 (by decide)) (tg_ne tI13 tI20 (by decide)))
    have k80 := kq66.2 _ _ k22 (orN (tg_ne tI14 tI0 (by decide)) (tg_ne tI14 tI20 (by decide)))
    have k81 := kq66.2 _ _ k23 (orN (tg_ne tI15 tI0 (by decide)) (tg_ne tI15 tI20 (by decide)))
    have k82 := kq66.2 _ _ k24 (orN (tg_ne tI16 tI0 (by decide)) (tg_ne tI16 tI20 (by decide)))
    have k83 := kq66.2 _ _ k25 (orN (tg_ne tI17 tI0 (by decide)) (tg_ne tI17 tI20 (by decide)))
    have k84 := kq66.2 _ _ k26 (orN (tg_ne tI18 tI0 (by decide)) (tg_ne tI18 tI20 (by decide)))
    have k85 := kq66.2 _ _ k27 (orN (tg_ne tI19 tI0 (by decide)) (tg_ne tI19 tI20 (by decide)))
    have k86 := kq66.2 _ _ k28 (orN (tg_ne tI21 tI0 (by decide)) (tg_ne tI21 tI20 (by decide)))
    have k87 := kq66.2 _ _ k29 (orN (tg_ne tI22 tI0 (by decide)) (tg_ne tI22 tI20 (by decide)))
    have k88 := kq66.2 _ _ k30 (orN (tg_ne tI23 tI0 (by decide)) (tg_ne tI23 tI20 (by decide)))
    have k89 := kq66.2 _ _ k31 (orN (tg_ne tI24 tI0 (by decide)) (tg_ne tI24 tI20 (by decide)))
    have k90 := kq66.2 _ _ k32 (orN (tg_ne tI25 tI0 (by decide)) (tg_ne tI25 tI20 (by decide)))
    have k91 := kq66.2 _ _ k33 (orN (tg_ne tI26 tI0 (by decide)) (tg_ne tI26 tI20 (by decide)))
    have k92 := kq66.2 _ _ k34 (orN (tg_ne tI27 tI0 (by decide)) (tg_ne tI27 tI20 (by decide)))
    have k93 := kq66.2 _ _ k35 (orN (tg_ne tI28 tI0 (by decide)) (tg_ne tI28 tI20 (by decide)))
    have k94 := kq66.2 _ _ k36 (orN (tg_ne tI29 tI0 (by decide)) (tg_ne tI29 tI20 (by decide)))
    have k95 := kq66.2 _ _ k37 (orN (tg_ne tI30 tI0 (by decide)) (tg_ne tI30 tI20 (by decide)))
    have k96 := kq66.2 _ _ k38 (orN (tg_ne tI31 tI0 (by decide)) (tg_ne tI31 tI20 (by decide)))
    have k97 := kq66.2 _ _ k39 (orN (tg_ne tI32 tI0 (by decide)) (tg_ne tI32 tI20 (by decide)))
    have k98 := kq66.2 _ _ k40 (orN (tg_ne tI33 tI0 (by decide)) (tg_ne tI33 tI20 (by decide)))
    have k99 := kq66.2 _ _ k41 (orN (tg_ne tI34 tI0 (by decide)) (tg_ne tI34 tI20 (by decide)))
    have k100 := kq66.2 _ _ k42 (orN (tg_ne tI35 tI0 (by decide)) (tg_ne tI35 tI20 (by decide)))
    have k101 := kq66.2 _ _ k43 (orN (tg_ne tI36 tI0 (by decide)) (tg_ne tI36 tI20 (by decide)))
    have k102 := kq66.2 _ _ k44 (orN (tg_ne tI37 tI0 (by decide)) (tg_ne tI37 tI20 (by decide)))
    have k103 := kq66.2 _ _ k45 (orN (tg_ne tI38 tI0 (by decide)) (tg_ne tI38 tI20 (by decide)))
    have k104 := kq66.2 _ _ k46 (orN (tg_ne tI39 tI0 (by decide)) (tg_ne tI39 tI20 (by decide)))
    have k105 := kq66.2 _ _ k47 (orN (tg_ne tI40 tI0 (by decide)) (tg_ne tI40 tI20 (by decide)))
    have k106 := kq66.2 _ _ k48 (orN (tg_ne tI41 tI0 (by decide)) (tg_ne tI41 tI20 (by decide)))
    have k107 := kq66.2 _ _ k49 (orN (tg_ne tI42 tI0 (by decide)) (tg_ne tI42 tI20 (by decide)))
    have k108 := kq66.2 _ _ k50 (orN (tg_ne tI43 tI0 (by decide)) (tg_ne tI43 tI20 (by decide)))
    have k109 := kq66.2 _ _ k51 (orN (tg_ne tI44 tI0 (by decide)) (tg_ne tI44 tI20 (by decide)))
    have k110 := kq66.2 _ _ k52 (orN (tg_ne tI45 tI0 (by decide)) (tg_ne tI45 tI20 (by decide)))
    have k111 := kq66.2 _ _ k53 (orN (tg_ne tI46 tI0 (by decide)) (tg_ne tI46 tI20 (by decide)))
    have k112 := kq66.2 _ _ k54 (orN (tg_ne tI47 tI0 (by decide)) (tg_ne tI47 tI20 (by decide)))
    have k113 := kq66.2 _ _ k55 (orN (tg_ne tI48 tI0 (by decide)) (tg_ne tI48 tI20 (by decide)))
    have fm114 : ∀ k9, k9 < 12 → qp k9 = some (pr k9) ∧ wd_at w62 (pr k9) (.inl (cy 2, 12, .inl (fp k9))) ∧ tg (pr k9) = 11000 + k9 := fun k9 hi9 => ⟨(fm56 k9 hi9).1, kq66.2 _ _ (fm56 k9 hi9).2.1 (orN (tg_ne (fm56 k9 hi9).2.2 tI0 (tnA (show 10000 < 11000 by decide))) (tg_ne (fm56 k9 hi9).2.2 tI20 (tnA (show 10124 < 11000 by decide)))), (fm56 k9 hi9).2.2⟩
    have fm115 : ∀ k9, k9 < 12 → qw k9 = some (wr k9) ∧ wd_at w62 (wr k9) (.inl (cy 2, 12, .inl (fw k9))) ∧ tg (wr k9) = 12000 + k9 := fun k9 hi9 => ⟨(fm57 k9 hi9).1, kq66.2 _ _ (fm57 k9 hi9).2.1 (orN (tg_ne (fm57 k9 hi9).2.2 tI0 (tnA (show 10000 < 12000 by decide))) (tg_ne (fm57 k9 hi9).2.2 tI20 (tnA (show 10124 < 12000 by decide)))), (fm57 k9 hi9).2.2⟩
    have fm116 : ∀ k9, k9 < 60 → qs k9 = some (sr k9) ∧ wd_at w62 (sr k9) (.inl (cy 2, 12, .inl (fs k9))) ∧ tg (sr k9) = 13000 + k9 := fun k9 hi9 => ⟨(fm58 k9 hi9).1, kq66.2 _ _ (fm58 k9 hi9).2.1 (orN (tg_ne (fm58 k9 hi9).2.2 tI0 (tnA (show 10000 < 13000 by decide))) (tg_ne (fm58 k9 hi9).2.2 tI20 (tnA (show 10124 < 13000 by decide)))), (fm58 k9 hi9).2.2⟩
    have kp117 := kp59.tr kq66 (fun b9 hm q9 => (fun q9 => Or.elim q9 (fun q9 => q9 ▸ (tgT tI0 (by decide))) (fun q9 => q9 ▸ (tgT tI20 (by decide)))) q9)
    refine W.eq (g2 := F0 m 25 ls []) rfl (W.widen (k := 0) (n := 0) (Nat.le_of_ble_eq_true rfl) (Nat.le_of_ble_eq_true rfl) ?_)
    refine lv_aload_n hx hb dX11_feed_25 rfl (lv_at hl 0 rfl) ?_
    refine lv_iload_n hx hb dX11_feed_26 rfl (lv_at hl 3 rfl) ?_
    refine x_callV (n := 1) (As := [.int x3]) (rest := []) F hP hD hS (m_put l D cy sk sv w62 tg y m2 m3 m4 m5 m6 m8 m9 m10 m11 m12 m13 m14 m17 m18 m19 m20 m21 m22 m23 m24 m29 m30 m31 m32 m33 m34 m35 m36 m37 m39 m40 m41 m42 m43 m44 m45 m46 m47 m48 m49 m51 m52 m53 m54 m56 m57 m58 m59 pc ac sc ((ln + 4) + 4) sh gf v0 td v26 v27 v28 v50 gx63 x3 k64 k65 (fun b => b = y ∨ b = m24) (Or.inl rfl) (Or.inr rfl) tI0 tI20 (by omega)) gX11_feed_X11_put rfl rfl (by decide +kernel) ⟨(Nat.le_of_ble_eq_true rfl), (Nat.le_of_ble_eq_true rfl)⟩ rfl hl.1 (Nat.le_of_ble_eq_true rfl) k64 rfl dX11_feed_27 rfl ⟨(Nat.le_of_ble_eq_true rfl), (Nat.le_of_ble_eq_true rfl)⟩ (fun v119 w120 hp118 H locs hP hD hS => ?_)
    obtain ⟨gx121, rfl, kq124, k122, k123⟩ := hp118
    have k125 := kq124.2 _ _ k67 (orN (tg_ne tI1 tI0 (by decide)) (tg_ne tI1 tI20 (by decide)))
    have k126 := kq124.2 _ _ k68 (orN (tg_ne tI2 tI0 (by decide)) (tg_ne tI2 tI20 (by decide)))
    have k127 := kq124.2 _ _ k69 (orN (tg_ne tI3 tI0 (by decide)) (tg_ne tI3 tI20 (by decide)))
    have k128 := kq124.2 _ _ k70 (orN (tg_ne tI4 tI0 (by decide)) (tg_ne tI4 tI20 (by decide)))
    have k129 := kq124.2 _ _ k71 (orN (tg_ne tI5 tI0 (by decide)) (tg_ne tI5 tI20 (by decide)))
    have k130 := kq124.2 _ _ k72 (orN (tg_ne tI6 tI0 (by decide)) (tg_ne tI6 tI20 (by decide)))
    have k131 := kq124.2 _ _ k73 (orN (tg_ne tI7 tI0 (by decide)) (tg_ne tI7 tI20 (by decide)))
    have k132 := kq124.2 _ _ k74 (orN (tg_ne tI8 tI0 (by decide)) (tg_ne tI8 tI20 (by decide)))
    have k133 := kq124.2 _ _ k75 (orN (tg_ne tI9 tI0 (by decide)) (tg_ne tI9 tI20 (by decide)))
    have k134 := kq124.2 _ _ k76 (orN (tg_ne tI10 tI0 (by decide)) (tg_ne tI10 tI20 (by decide)))
    have k135 := kq124.2 _ _ k77 (orN (tg_ne tI11 tI0 (by decide)) (tg_ne tI11 tI20 (by decide)))
    have k136 := kq124.2 _ _ k78 (orN (tg_ne tI12 tI0 (by decide)) (tg_ne tI12 tI20 (by decide)))
    have k137 := kq124.2 _ _ k79 (orN (tg_ne tI13 tI0 (by decide)) (tg_ne tI13 tI20 (by decide)))
    have k138 := kq124.2 _ _ k80 (orN (tg_ne tI14 tI0 (by decide)) (tg_ne tI14 tI20 (by decide)))
    have k139 := kq124.2 _ _ k81 (orN (tg_ne tI15 tI0 (by decide)) (tg_ne tI15 tI20 (by decide)))
    have k140 := kq124.2 _ _ k82 (orN (tg_ne tI16 tI0 (by decide)) (tg_ne tI16 tI20 (by decide)))
    have k141 := kq124.2 _ _ k83 (orN (tg_ne tI17 tI0 (by decide)) (tg_ne tI17 tI20 (by decide)))
    have k142 := kq124.2 _ _ k84 (orN (tg_ne tI18 tI0 (by decide)) (tg_ne tI18 tI20 (by decide)))
    have k143 := kq124.2 _ _ k85 (orN (tg_ne tI19 tI0 (by decide)) (tg_ne tI19 tI20 (by decide)))
    have k144 := kq124.2 _ _ k86 (orN (tg_ne tI21 tI0 (by decide)) (tg_ne tI21 tI20 (by decide)))
    have k145 := kq124.2 _ _ k87 (orN (tg_ne tI22 tI0 (by decide)) (tg_ne tI22 tI20 (by decide)))
    have k146 := kq124.2 _ _ k88 (orN (tg_ne tI23 tI0 (by decide)) (tg_ne tI23 tI20 (by decide)))
    have k147 := kq124.2 _ _ k89 (orN (tg_ne tI24 tI0 (by decide)) (tg_ne tI24 tI20 (by decide)))
    have k148 := kq124.2 _ _ k90 (orN (tg_ne tI25 tI0 (by decide)) (tg_ne tI25 tI20 (by decide)))
    have k149 := kq124.2 _ _ k91 (orN (tg_ne tI26 tI0 (by decide)) (tg_ne tI26 tI20 (by decide)))
    have k150 := kq124.2 _ _ k92 (orN (tg_ne tI27 tI0 (by decide)) (tg_ne tI27 tI20 (by decide)))
    have k151 := kq124.2 _ _ k93 (orN (tg_ne tI28 tI0 (by decide)) (tg_ne tI28 tI20 (by decide)))
    have k152 := kq124.2 _ _ k94 (orN (tg_ne tI29 tI0 (by decide)) (tg_ne tI29 tI20 (by decide)))
    have k153 := kq124.2 _ _ k95 (orN (tg_ne tI30 tI0 (by decide)) (tg_ne tI30 tI20 (by decide)))
    have k154 := kq124.2 _ _ k96 (orN (tg_ne tI31 tI0 (by decide)) (tg_ne tI31 tI20 (by decide)))
    have k155 := kq124.2 _ _ k97 (orN (tg_ne tI32 tI0 (by decide)) (tg_ne tI32 tI20 (by decide)))
    have k156 := kq124.2 _ _ k98 (orN (tg_ne tI33 tI0 (by decide)) (tg_ne tI33 tI20 (by decide)))
    have k157 := kq124.2 _ _ k99 (orN (tg_ne tI34 tI0 (by decide)) (tg_ne tI34 tI20 (by decide)))
    have k158 := kq124.2 _ _ k100 (orN (tg_ne tI35 tI0 (by decide)) (tg_ne tI35 tI20 (by decide)))
    have k159 := kq124.2 _ _ k101 (orN (tg_ne tI36 tI0 (by decide)) (tg_ne tI36 tI20 (by decide)))
    have k160 := kq124.2 _ _ k102 (orN (tg_ne tI37 tI0 (by decide)) (tg_ne tI37 tI20 (by decide)))
    have k161 := kq124.2 _ _ k103 (orN (tg_ne tI38 tI0 (by decide)) (tg_ne tI38 tI20 (by decide)))
    have k162 := kq124.2 _ _ k104 (orN (tg_ne tI39 tI0 (by decide)) (tg_ne tI39 tI20 (by decide)))
    have k163 := kq124.2 _ _ k105 (orN (tg_ne tI40 tI0 (by decide)) (tg_ne tI40 tI20 (by decide)))
    have k164 := kq124.2 _ _ k106 (orN (tg_ne tI41 tI0 (by decide)) (tg_ne tI41 tI20 (by decide)))
    have k165 := kq124.2 _ _ k107 (orN (tg_ne tI42 tI0 (by decide)) (tg_ne tI42 tI20 (by decide)))
    have k166 := kq124.2 _ _ k108 (orN (tg_ne tI43 tI0 (by decide)) (tg_ne tI43 tI20 (by decide)))
    have k167 := kq124.2 _ _ k109 (orN (tg_ne tI44 tI0 (by decide)) (tg_ne tI44 tI20 (by decide)))
    have k168 := kq124.2 _ _ k110 (orN (tg_ne tI45 tI0 (by decide)) (tg_ne tI45 tI20 (by decide)))
    have k169 := kq124.2 _ _ k111 (orN (tg_ne tI46 tI0 (by decide)) (tg_ne tI46 tI20 (by decide)))
    have k170 := kq124.2 _ _ k112 (orN (tg_ne tI47 tI0 (by decide)) (tg_ne tI47 tI20 (by decide)))
    have k171 := kq124.2 _ _ k113 (orN (tg_ne tI48 tI0 (by decide)) (tg_ne tI48 tI20 (by decide)))
    have fm172 : ∀ k9, k9 < 12 → qp k9 = some (pr k9) ∧ wd_at w120 (pr k9) (.inl (cy 2, 12, .inl (fp k9))) ∧ tg (pr k9) = 11000 + k9 := fun k9 hi9 => ⟨(fm114 k9 hi9).1, kq124.2 _ _ (fm114 k9 hi9).2.1 (orN (tg_ne (fm114 k9 hi9).2.2 tI0 (tnA (show 10000 < 11000 by decide))) (tg_ne (fm114 k9 hi9).2.2 tI20 (tnA (show 10124 < 11000 by decide)))), (fm114 k9 hi9).2.2⟩
    have fm173 : ∀ k9, k9 < 12 → qw k9 = some (wr k9) ∧ wd_at w120 (wr k9) (.inl (cy 2, 12, .inl (fw k9))) ∧ tg (wr k9) = 12000 + k9 := fun k9 hi9 => ⟨(fm115 k9 hi9).1, kq124.2 _ _ (fm115 k9 hi9).2.1 (orN (tg_ne (fm115 k9 hi9).2.2 tI0 (tnA (show 10000 < 12000 by decide))) (tg_ne (fm115 k9 hi9).2.2 tI20 (tnA (show 10124 < 12000 by decide)))), (fm115 k9 hi9).2.2⟩
    have fm174 : ∀ k9, k9 < 60 → qs k9 = some (sr k9) ∧ wd_at w120 (sr k9) (.inl (cy 2, 12, .inl (fs k9))) ∧ tg (sr k9) = 13000 + k9 := fun k9 hi9 => ⟨(fm116 k9 hi9).1, kq124.2 _ _ (fm116 k9 hi9).2.1 (orN (tg_ne (fm116 k9 hi9).2.2 tI0 (tnA (show 10000 < 13000 by decide))) (tg_ne (fm116 k9 hi9).2.2 tI20 (tnA (show 10124 < 13000 by decide)))), (fm116 k9 hi9).2.2⟩
    have kp175 := kp117.tr kq124 (fun b9 hm q9 => (fun q9 => Or.elim q9 (fun q9 => q9 ▸ (tgT tI0 (by decide))) (fun q9 => q9 ▸ (tgT tI20 (by decide)))) q9)
    refine W.eq (g2 := F0 m 30 ls []) rfl (W.widen (k := 0) (n := 0) (Nat.le_of_ble_eq_true rfl) (Nat.le_of_ble_eq_true rfl) ?_)
    refine lv_aload_n hx hb dX11_feed_30 rfl (lv_at hl 0 rfl) ?_
    refine lv_iload hx hb dX11_feed_31 (lv_at hl 4 rfl) ?_
    refine x_callV (n := 1) (As := [.int x4]) (rest := []) F hP hD hS (m_put l D cy sk sv w120 tg y m2 m3 m4 m5 m6 m8 m9 m10 m11 m12 m13 m14 m17 m18 m19 m20 m21 m22 m23 m24 m29 m30 m31 m32 m33 m34 m35 m36 m37 m39 m40 m41 m42 m43 m44 m45 m46 m47 m48 m49 m51 m52 m53 m54 m56 m57 m58 m59 pc ac sc (((ln + 4) + 4) + 4) sh gf v0 td v26 v27 v28 v50 gx121 x4 k122 k123 (fun b => b = y ∨ b = m24) (Or.inl rfl) (Or.inr rfl) tI0 tI20 (by omega)) gX11_feed_X11_put rfl rfl (by decide +kernel) ⟨(Nat.le_of_ble_eq_true rfl), (Nat.le_of_ble_eq_true rfl)⟩ rfl hl.1 (Nat.le_of_ble_eq_true rfl) k122 rfl dX11_feed_33 rfl ⟨(Nat.le_of_ble_eq_true rfl), (Nat.le_of_ble_eq_true rfl)⟩ (fun v177 w178 hp176 H locs hP hD hS => ?_)
    obtain ⟨gx179, rfl, kq182, k180, k181⟩ := hp176
    have k183 := kq182.2 _ _ k125 (orN (tg_ne tI1 tI0 (by decide)) (tg_ne tI1 tI20 (by decide)))
    have k184 := kq182.2 _ _ k126 (orN (tg_ne tI2 tI0 (by decide)) (tg_ne tI2 tI20 (by decide)))
    have k185 := kq182.2 _ _ k127 (orN (tg_ne tI3 tI0 (by decide)) (tg_ne tI3 tI20 (by decide)))
    have k186 := kq182.2 _ _ k128 (orN (tg_ne tI4 tI0 (by decide)) (tg_ne tI4 tI20 (by decide)))
    have k187 := kq182.2 _ _ k129 (orN (tg_ne tI5 tI0 (by decide)) (tg_ne tI5 tI20 (by decide)))
    have k188 := kq182.2 _ _ k130 (orN (tg_ne tI6 tI0 (by decide)) (tg_ne tI6 tI20 (by decide)))
    have k189 := kq182.2 _ _ k131 (orN (tg_ne tI7 tI0 (by decide)) (tg_ne tI7 tI20 (by decide)))
    have k190 := kq182.2 _ _ k132 (orN (tg_ne tI8 tI0 (by decide)) (tg_ne tI8 tI20 (by decide)))
    have k191 := kq182.2 _ _ k133 (orN (tg_ne tI9 tI0 (by decide)) (tg_ne tI9 tI20 (by decide)))
    have k192 := kq182.2 _ _ k134 (orN (tg_ne tI10 tI0 (by decide)) (tg_ne tI10 tI20 (by decide)))
    have k193 := kq182.2 _ _ k135 (orN (tg_ne tI11 tI0 (by decide)) (tg_ne tI11 tI20 (by decide)))
    have k194 := kq182.2 _ _ k136 (orN (tg_ne tI12 tI0 (by decide)) (tg_ne tI12 tI20 (by decide)))
    have k195 := kq182.2 _ _ k137 (orN (tg_ne tI13 tI0 (by decide)) (tg_ne tI13 tI20 (by decide)))
    have k196 := kq182.2 _ _ k138 (orN (tg_ne tI14 tI0 (by decide)) (tg_ne tI14 tI20 (by decide)))
    have k197 := kq182.2 _ _ k139 (orN (tg_ne tI15 tI0 (by decide)) (tg_ne tI15 tI20 (by decide)))
    have k198 := kq182.2 _ _ k140 (orN (tg_ne tI16 tI0 (by decide)) (tg_ne tI16 tI20 (by decide)))
    have k199 := kq182.2 _ _ k141 (orN (tg_ne tI17 tI0 (by decide)) (tg_ne tI17 tI20 (by decide)))
    have k200 := kq182.2 _ _ k142 (orN (tg_ne tI18 tI0 (by decide)) (tg_ne tI18 tI20 (by decide)))
    have k201 := kq182.2 _ _ k143 (orN (tg_ne tI19 tI0 (by decide)) (tg_ne tI19 tI20 (by decide)))
    have k202 := kq182.2 _ _ k144 (orN (tg_ne tI21 tI0 (by decide)) (tg_ne tI21 tI20 (by decide)))
    have k203 := kq182.2 _ _ k145 (orN (tg_ne tI22 tI0 (by decide)) (tg_ne tI22 tI20 (by decide)))
    have k204 := kq182.2 _ _ k146 (orN (tg_ne tI23 tI0 (by decide)) (tg_ne tI23 tI20 (by decide)))
    have k205 := kq182.2 _ _ k147 (orN (tg_ne tI24 tI0 (by decide)) (tg_ne tI24 tI20 (by decide)))
    have k206 := kq182.2 _ _ k148 (orN (tg_ne tI25 tI0 (by decide)) (tg_ne tI25 tI20 (by decide)))
    have k207 := kq182.2 _ _ k149 (orN (tg_ne tI26 tI0 (by decide)) (tg_ne tI26 tI20 (by decide)))
    have k208 := kq182.2 _ _ k150 (orN (tg_ne tI27 tI0 (by decide)) (tg_ne tI27 tI20 (by decide)))
    have k209 := kq182.2 _ _ k151 (orN (tg_ne tI28 tI0 (by decide)) (tg_ne tI28 tI20 (by decide)))
    have k210 := kq182.2 _ _ k152 (orN (tg_ne tI29 tI0 (by decide)) (tg_ne tI29 tI20 (by decide)))
    have k211 := kq182.2 _ _ k153 (orN (tg_ne tI30 tI0 (by decide)) (tg_ne tI30 tI20 (by decide)))
    have k212 := kq182.2 _ _ k154 (orN (tg_ne tI31 tI0 (by decide)) (tg_ne tI31 tI20 (by decide)))
    have k213 := kq182.2 _ _ k155 (orN (tg_ne tI32 tI0 (by decide)) (tg_ne tI32 tI20 (by decide)))
    have k214 := kq182.2 _ _ k156 (orN (tg_ne tI33 tI0 (by decide)) (tg_ne tI33 tI20 (by decide)))
    have k215 := kq182.2 _ _ k157 (orN (tg_ne tI34 tI0 (by decide)) (tg_ne tI34 tI20 (by decide)))
    have k216 := kq182.2 _ _ k158 (orN (tg_ne tI35 tI0 (by decide)) (tg_ne tI35 tI20 (by decide)))
    have k217 := kq182.2 _ _ k159 (orN (tg_ne tI36 tI0 (by decide)) (tg_ne tI36 tI20 (by decide)))
    have k218 := kq182.2 _ _ k160 (orN (tg_ne tI37 tI0 (by decide)) (tg_ne tI37 tI20 (by decide)))
    have k219 := kq182.2 _ _ k161 (orN (tg_ne tI38 tI0 (by decide)) (tg_ne tI38 tI20 (by decide)))
    have k220 := kq182.2 _ _ k162 (orN (tg_ne tI39 tI0 (by decide)) (tg_ne tI39 tI20 (by decide)))
    have k221 := kq182.2 _ _ k163 (orN (tg_ne tI40 tI0 (by decide)) (tg_ne tI40 tI20 (by decide)))
    have k222 := kq182.2 _ _ k164 (orN (tg_ne tI41 tI0 (by decide)) (tg_ne tI41 tI20 (by decide)))
    have k223 := kq182.2 _ _ k165 (orN (tg_ne tI42 tI0 (by decide)) (tg_ne tI42 tI20 (by decide)))
    have k224 := kq182.2 _ _ k166 (orN (tg_ne tI43 tI0 (by decide)) (tg_ne tI43 tI20 (by decide)))
    have k225 := kq182.2 _ _ k167 (orN (tg_ne tI44 tI0 (by decide)) (tg_ne tI44 tI20 (by decide)))
    have k226 := kq182.2 _ _ k168 (orN (tg_ne tI45 tI0 (by decide)) (tg_ne tI45 tI20 (by decide)))
    have k227 := kq182.2 _ _ k169 (orN (tg_ne tI46 tI0 (by decide)) (tg_ne tI46 tI20 (by decide)))
    have k228 := kq182.2 _ _ k170 (orN (tg_ne tI47 tI0 (by decide)) (tg_ne tI47 tI20 (by decide)))
    have k229 := kq182.2 _ _ k171 (orN (tg_ne tI48 tI0 (by decide)) (tg_ne tI48 tI20 (by decide)))
    have fm230 : ∀ k9, k9 < 12 → qp k9 = some (pr k9) ∧ wd_at w178 (pr k9) (.inl (cy 2, 12, .inl (fp k9))) ∧ tg (pr k9) = 11000 + k9 := fun k9 hi9 => ⟨(fm172 k9 hi9).1, kq182.2 _ _ (fm172 k9 hi9).2.1 (orN (tg_ne (fm172 k9 hi9).2.2 tI0 (tnA (show 10000 < 11000 by decide))) (tg_ne (fm172 k9 hi9).2.2 tI20 (tnA (show 10124 < 11000 by decide)))), (fm172 k9 hi9).2.2⟩
    have fm231 : ∀ k9, k9 < 12 → qw k9 = some (wr k9) ∧ wd_at w178 (wr k9) (.inl (cy 2, 12, .inl (fw k9))) ∧ tg (wr k9) = 12000 + k9 := fun k9 hi9 => ⟨(fm173 k9 hi9).1, kq182.2 _ _ (fm173 k9 hi9).2.1 (orN (tg_ne (fm173 k9 hi9).2.2 tI0 (tnA (show 10000 < 12000 by decide))) (tg_ne (fm173 k9 hi9).2.2 tI20 (tnA (show 10124 < 12000 by decide)))), (fm173 k9 hi9).2.2⟩
    have fm232 : ∀ k9, k9 < 60 → qs k9 = some (sr k9) ∧ wd_at w178 (sr k9) (.inl (cy 2, 12, .inl (fs k9))) ∧ tg (sr k9) = 13000 + k9 := fun k9 hi9 => ⟨(fm174 k9 hi9).1, kq182.2 _ _ (fm174 k9 hi9).2.1 (orN (tg_ne (fm174 k9 hi9).2.2 tI0 (tnA (show 10000 < 13000 by decide))) (tg_ne (fm174 k9 hi9).2.2 tI20 (tnA (show 10124 < 13000 by decide)))), (fm174 k9 hi9).2.2⟩
    have kp233 := kp175.tr kq182 (fun b9 hm q9 => (fun q9 => Or.elim q9 (fun q9 => q9 ▸ (tgT tI0 (by decide))) (fun q9 => q9 ▸ (tgT tI20 (by decide)))) q9)
    refine W.eq (g2 := F0 m 36 ls []) rfl (W.widen (k := 0) (n := 0) (Nat.le_of_ble_eq_true rfl) (Nat.le_of_ble_eq_true rfl) ?_)
    refine lv_aload_n hx hb dX11_feed_36 rfl (lv_at hl 0 rfl) ?_
    refine lv_iload hx hb dX11_feed_37 (lv_at hl 5 rfl) ?_
    refine x_callV (n := 1) (As := [.int x5]) (rest := []) F hP hD hS (m_put l D cy sk sv w178 tg y m2 m3 m4 m5 m6 m8 m9 m10 m11 m12 m13 m14 m17 m18 m19 m20 m21 m22 m23 m24 m29 m30 m31 m32 m33 m34 m35 m36 m37 m39 m40 m41 m42 m43 m44 m45 m46 m47 m48 m49 m51 m52 m53 m54 m56 m57 m58 m59 pc ac sc ((((ln + 4) + 4) + 4) + 4) sh gf v0 td v26 v27 v28 v50 gx179 x5 k180 k181 (fun b => b = y ∨ b = m24) (Or.inl rfl) (Or.inr rfl) tI0 tI20 (by omega)) gX11_feed_X11_put rfl rfl (by decide +kernel) ⟨(Nat.le_of_ble_eq_true rfl), (Nat.le_of_ble_eq_true rfl)⟩ rfl hl.1 (Nat.le_of_ble_eq_true rfl) k180 rfl dX11_feed_39 rfl ⟨(Nat.le_of_ble_eq_true rfl), (Nat.le_of_ble_eq_true rfl)⟩ (fun v235 w236 hp234 H locs hP hD hS => ?_)
    obtain ⟨gx237, rfl, kq240, k238, k239⟩ := hp234
    have k241 := kq240.2 _ _ k183 (orN (tg_ne tI1 tI0 (by decide)) (tg_ne tI1 tI20 (by decide)))
    have k242 := kq240.2 _ _ k184 (orN (tg_ne tI2 tI0 (by decide)) (tg_ne tI2 tI20 (by decide)))
    have k243 := kq240.2 _ _ k185 (orN (tg_ne tI3 tI0 (by decide)) (tg_ne tI3 tI20 (by decide)))
    have k244 := kq240.2 _ _ k186 (orN (tg_ne tI4 tI0 (by decide)) (tg_ne tI4 tI20 (by decide)))
    have k245 := kq240.2 _ _ k187 (orN (tg_ne tI5 tI0 (by decide)) (tg_ne tI5 tI20 (by decide)))
    have k246 := kq240.2 _ _ k188 (orN (tg_ne tI6 tI0 (by decide)) (tg_ne tI6 tI20 (by decide)))
    have k247 := kq240.2 _ _ k189 (orN (tg_ne tI7 tI0 (by decide)) (tg_ne tI7 tI20 (by decide)))
    have k248 := kq240.2 _ _ k190 (orN (tg_ne tI8 tI0 (by decide)) (tg_ne tI8 tI20 (by decide)))
    have k249 := kq240.2 _ _ k191 (orN (tg_ne tI9 tI0 (by decide)) (tg_ne tI9 tI20 (by decide)))
    have k250 := kq240.2 _ _ k192 (orN (tg_ne tI10 tI0 (by decide)) (tg_ne tI10 tI20 (by decide)))
    have k251 := kq240.2 _ _ k193 (orN (tg_ne tI11 tI0 (by decide)) (tg_ne tI11 tI20 (by decide)))
    have k252 := kq240.2 _ _ k194 (orN (tg_ne tI12 tI0 (by decide)) (tg_ne tI12 tI20 (by decide)))
    have k253 := kq240.2 _ _ k195 (orN (tg_ne tI13 tI0 (by decide)) (tg_ne tI13 tI20 (by decide)))
    have k254 := kq240.2 _ _ k196 (orN (tg_ne tI14 tI0 (by decide)) (tg_ne tI14 tI20 (by decide)))
    have k255 := kq240.2 _ _ k197 (orN (tg_ne tI15 tI0 (by decide)) (tg_ne tI15 tI20 (by decide)))
    have k256 := kq240.2 _ _ k198 (orN (tg_ne tI16 tI0 (by decide)) (tg_ne tI16 tI20 (by decide)))
    have k257 := kq240.2 _ _ k199 (orN (tg_ne tI17 tI0 (by decide)) (tg_ne tI17 tI20 (by decide)))
    have k258 := kq240.2 _ _ k200 (orN (tg_ne tI18 tI0 (by decide)) (tg_ne tI18 tI20 (by decide)))
    have k259 := kq240.2 _ _ k201 (orN (tg_ne tI19 tI0 (by decide)) (tg_ne tI19 tI20 (by decide)))
    have k260 := kq240.2 _ _ k202 (orN (tg_ne tI21 tI0 (by decide)) (tg_ne tI21 tI20 (by decide)))
    have k261 := kq240.2 _ _ k203 (orN (tg_ne tI22 tI0 (by decide)) (tg_ne tI22 tI20 (by decide)))
    have k262 := kq240.2 _ _ k204 (orN (tg_ne tI23 tI0 (by decide)) (tg_ne tI23 tI20 (by decide)))
    have k263 := kq240.2 _ _ k205 (orN (tg_ne tI24 tI0 (by decide)) (tg_ne tI24 tI20 (by decide)))
    have k264 := kq240.2 _ _ k206 (orN (tg_ne tI25 tI0 (by decide)) (tg_ne tI25 tI20 (by decide)))
    have k265 := kq240.2 _ _ k207 (orN (tg_ne tI26 tI0 (by decide)) (tg_ne tI26 tI20 (by decide)))
    have k266 := kq240.2 _ _ k208 (orN (tg_ne tI27 tI0 (by decide)) (tg_ne tI27 tI20 (by decide)))
    have k267 := kq240.2 _ _ k209 (orN (tg_ne tI28 tI0 (by decide)) (tg_ne tI28 tI20 (by decide)))
    have k268 := kq240.2 _ _ k210 (orN (tg_ne tI29 tI0 (by decide)) (tg_ne tI29 tI20 (by decide)))
    have k269 := kq240.2 _ _ k211 (orN (tg_ne tI30 tI0 (by decide)) (tg_ne tI30 tI20 (by decide)))
    have k270 := kq240.2 _ _ k212 (orN (tg_ne tI31 tI0 (by decide)) (tg_ne tI31 tI20 (by decide)))
    have k271 := kq240.2 _ _ k213 (orN (tg_ne tI32 tI0 (by decide)) (tg_ne tI32 tI20 (by decide)))
    have k272 := kq240.2 _ _ k214 (orN (tg_ne tI33 tI0 (by decide)) (tg_ne tI33 tI20 (by decide)))
    have k273 := kq240.2 _ _ k215 (orN (tg_ne tI34 tI0 (by decide)) (tg_ne tI34 tI20 (by decide)))
    have k274 := kq240.2 _ _ k216 (orN (tg_ne tI35 tI0 (by decide)) (tg_ne tI35 tI20 (by decide)))
    have k275 := kq240.2 _ _ k217 (orN (tg_ne tI36 tI0 (by decide)) (tg_ne tI36 tI20 (by decide)))
    have k276 := kq240.2 _ _ k218 (orN (tg_ne tI37 tI0 (by decide)) (tg_ne tI37 tI20 (by decide)))
    have k277 := kq240.2 _ _ k219 (orN (tg_ne tI38 tI0 (by decide)) (tg_ne tI38 tI20 (by decide)))
    have k278 := kq240.2 _ _ k220 (orN (tg_ne tI39 tI0 (by decide)) (tg_ne tI39 tI20 (by decide)))
    have k279 := kq240.2 _ _ k221 (orN (tg_ne tI40 tI0 (by decide)) (tg_ne tI40 tI20 (by decide)))
    have k280 := kq240.2 _ _ k222 (orN (tg_ne tI41 tI0 (by decide)) (tg_ne tI41 tI20 (by decide)))
    have k281 := kq240.2 _ _ k223 (orN (tg_ne tI42 tI0 (by decide)) (tg_ne tI42 tI20 (by decide)))
    have k282 := kq240.2 _ _ k224 (orN (tg_ne tI43 tI0 (by decide)) (tg_ne tI43 tI20 (by decide)))
    have k283 := kq240.2 _ _ k225 (orN (tg_ne tI44 tI0 (by decide)) (tg_ne tI44 tI20 (by decide)))
    have k284 := kq240.2 _ _ k226 (orN (tg_ne tI45 tI0 (by decide)) (tg_ne tI45 tI20 (by decide)))
    have k285 := kq240.2 _ _ k227 (orN (tg_ne tI46 tI0 (by decide)) (tg_ne tI46 tI20 (by decide)))
    have k286 := kq240.2 _ _ k228 (orN (tg_ne tI47 tI0 (by decide)) (tg_ne tI47 tI20 (by decide)))
    have k287 := kq240.2 _ _ k229 (orN (tg_ne tI48 tI0 (by decide)) (tg_ne tI48 tI20 (by decide)))
    have fm288 : ∀ k9, k9 < 12 → qp k9 = some (pr k9) ∧ wd_at w236 (pr k9) (.inl (cy 2, 12, .inl (fp k9))) ∧ tg (pr k9) = 11000 + k9 := fun k9 hi9 => ⟨(fm230 k9 hi9).1, kq240.2 _ _ (fm230 k9 hi9).2.1 (orN (tg_ne (fm230 k9 hi9).2.2 tI0 (tnA (show 10000 < 11000 by decide))) (tg_ne (fm230 k9 hi9).2.2 tI20 (tnA (show 10124 < 11000 by decide)))), (fm230 k9 hi9).2.2⟩
    have fm289 : ∀ k9, k9 < 12 → qw k9 = some (wr k9) ∧ wd_at w236 (wr k9) (.inl (cy 2, 12, .inl (fw k9))) ∧ tg (wr k9) = 12000 + k9 := fun k9 hi9 => ⟨(fm231 k9 hi9).1, kq240.2 _ _ (fm231 k9 hi9).2.1 (orN (tg_ne (fm231 k9 hi9).2.2 tI0 (tnA (show 10000 < 12000 by decide))) (tg_ne (fm231 k9 hi9).2.2 tI20 (tnA (show 10124 < 12000 by decide)))), (fm231 k9 hi9).2.2⟩
    have fm290 : ∀ k9, k9 < 60 → qs k9 = some (sr k9) ∧ wd_at w236 (sr k9) (.inl (cy 2, 12, .inl (fs k9))) ∧ tg (sr k9) = 13000 + k9 := fun k9 hi9 => ⟨(fm232 k9 hi9).1, kq240.2 _ _ (fm232 k9 hi9).2.1 (orN (tg_ne (fm232 k9 hi9).2.2 tI0 (tnA (show 10000 < 13000 by decide))) (tg_ne (fm232 k9 hi9).2.2 tI20 (tnA (show 10124 < 13000 by decide)))), (fm232 k9 hi9).2.2⟩
    have kp291 := kp233.tr kq240 (fun b9 hm q9 => (fun q9 => Or.elim q9 (fun q9 => q9 ▸ (tgT tI0 (by decide))) (fun q9 => q9 ▸ (tgT tI20 (by decide)))) q9)
    refine W.eq (g2 := F0 m 42 ls []) rfl (W.widen (k := 0) (n := 0) (Nat.le_of_ble_eq_true rfl) (Nat.le_of_ble_eq_true rfl) ?_)
    refine lv_aload_n hx hb dX11_feed_42 rfl (lv_at hl 0 rfl) ?_
    refine x_get (ref := "NoteHouseModel") F hP k238 rfl (fun _ h => List.mem_cons_of_mem _ (List.mem_append_right _ (h))) 25 (Nat.le_of_ble_eq_true rfl) (List.mem_cons_of_mem _ (List.mem_append_left _ (List.mem_of_getElem? (i := 0) rfl))) rfl rfl dX11_feed_43 ?_
    have hX292 : IM cy tg y td pc ac sc (((((ln + 4) + 4) + 4) + 4) + 4) se plv w236 := IM.mk m2 m3 m4 m5 m6 m8 m9 m10 m11 m12 m13 m14 m17 m18 m19 m20 m21 m22 m23 m24 m29 m30 m31 m32 m33 m34 m35 m36 m37 m39 m40 m41 m42 m43 m44 m45 m46 m47 m48 m49 m51 m52 m53 m54 m56 m57 m58 m59 sh gf v0 v26 v27 v28 v50 f4 f5 f6 f8 f9 f10 f11 f12 f13 f14 f17 f18 f19 f20 f21 f22 gx237 f29 f30 f31 f32 f33 f34 f35 f36 f37 f39 f40 f41 f42 f43 f44 f45 f46 f47 f48 f49 f51 f52 f53 f54 f56 f57 f58 f59 qp pr fp qw wr fw qs sr fs (by omega) (by omega) (by omega) (by omega) (by omega) (by omega) hrl hc ht hp hso hlo k238 tI0 k241 tI1 k242 tI2 k243 tI3 k244 tI4 k245 tI5 k246 tI6 k247 tI7 k248 tI8 k249 tI9 k250 tI10 k251 tI11 k252 tI12 k253 tI13 k254 tI14 k255 tI15 k256 tI16 k257 tI17 k258 tI18 k259 tI19 k239 tI20 k260 tI21 k261 tI22 k262 tI23 k263 tI24 k264 tI25 k265 tI26 k266 tI27 k267 tI28 k268 tI29 k269 tI30 k270 tI31 k271 tI32 k272 tI33 k273 tI34 k274 tI35 k275 tI36 k276 tI37 k277 tI38 k278 tI39 k279 tI40 k280 tI41 k281 tI42 k282 tI43 k283 tI44 k284 tI45 k285 tI46 k286 tI47 k287 tI48 fm288 fm289 fm290
    exact y_ir K hP hD hS (Nat.le_of_ble_eq_true rfl) (Nat.le_of_ble_eq_true rfl) (ty := .int) rfl rfl dX11_feed_46 (by refine ⟨(congrArg (fun z => some (Value.int z)) (show nI (((((ln + 4) + 4) + 4) + 4) + 4) = feedA ln from by rw [show ((((ln + 4) + 4) + 4) + 4) + 4 = ln + 20 by omega]; simp [feedA, feedC, c_1, hrm])), ?_⟩; rw [show feedC ln = (((((ln + 4) + 4) + 4) + 4) + 4) from by rw [show ((((ln + 4) + 4) + 4) + 4) + 4 = ln + 20 by omega]; simp [feedA, feedC, c_1, hrm]]; exact ⟨kp291, hX292⟩)
  · have hrm : ¬ ln + 20 ≤ 300 := fun q => c_1 ((nI_leI (a := ln + 20) (b := 300) (by omega) (by omega)).mpr q)
    refine lv_iconst (v := (-1)) hx hb dX11_feed_13 (by decide) ?_
    exact y_ir K hP hD hS (Nat.le_of_ble_eq_true rfl) (Nat.le_of_ble_eq_true rfl) (ty := .int) rfl rfl dX11_feed_14 (by refine ⟨(congrArg (fun z => some (Value.int z)) (show (-1) = feedA ln from by simp [feedA, feedC, c_1, hrm])), ?_⟩; rw [show feedC ln = ln from by simp [feedA, feedC, c_1, hrm]]; exact ⟨wd_kp.rf, hIM0⟩)
set_option maxHeartbeats 4000000 in
set_option maxRecDepth 100000 in
theorem M_end (l : Launch) (D : va_G) (cy : Nat → ClassId) (sk sv : Nat → Nat) (w : Wd) (tg : Nat → Nat) (y : Nat) (td : Int32) (pc ac sc ln : Nat) (se plv : Nat → Int32) (x1 : Int32) (hIM0 : IM cy tg y td pc ac sc ln se plv w) : Ct l D cy sk sv yX11_end wsX11_end ({ frames := 0, cells := 0, slots := 0, locals := 0 }) [.ref y, .int x1] w (fun v w1 => v = some (.int (endA ln x1)) ∧ MP cy tg y td pc ac sc (endC ln x1) se plv w w1) := by
  refine Ct.by (cc := cX11_end) (maxL := 2) (ret := (some .int)) (by decide +kernel) rfl (Nat.le_of_ble_eq_true rfl) ?_
  intro p e s m args below meth c A Q F hnm K ls hl
  have F : wd_Fx p s m args meth c cX11_end 2 wsX11_end RX11 D cy sk sv A := F
  have hl : lv_has ls 2 [(0, .ref y), (1, .int x1)] := hl
  have hx := F.1.1
  have hb := F.1.2.1
  have hown := F.1.2.2.2.1
  have hts := F.1.2.2.2.2
  intro H locs hP hD hS
  have kp0 : wd_kp (fun b => 10000 ≤ tg b) w w := wd_kp.rf
  refine hIM0 _ ?_
  intro m2 m3 m4 m5 m6 m8 m9 m10 m11 m12 m13 m14 m17 m18 m19 m20 m21 m22 m23 m24 m29 m30 m31 m32 m33 m34 m35 m36 m37 m39 m40 m41 m42 m43 m44 m45 m46 m47 m48 m49 m51 m52 m53 m54 m56 m57 m58 m59 sh gf v0 v26 v27 v28 v50 f4 f5 f6 f8 f9 f10 f11 f12 f13 f14 f17 f18 f19 f20 f21 f22 f24 f29 f30 f31 f32 f33 f34 f35 f36 f37 f39 f40 f41 f42 f43 f44 f45 f46 f47 f48 f49 f51 f52 f53 f54 f56 f57 f58 f59 qp pr fp qw wr fw qs sr fs hp90 hp91 hp92 hp93 hp94 hp95 hrl hc ht hp hso hlo kI0 tI0 kI1 tI1 kI2 tI2 kI3 tI3 kI4 tI4 kI5 tI5 kI6 tI6 kI7 tI7 kI8 tI8 kI9 tI9 kI10 tI10 kI11 tI11 kI12 tI12 kI13 tI13 kI14 tI14 kI15 tI15 kI16 tI16 kI17 tI17 kI18 tI18 kI19 tI19 kI20 tI20 kI21 tI21 kI22 tI22 kI23 tI23 kI24 tI24 kI25 tI25 kI26 tI26 kI27 tI27 kI28 tI28 kI29 tI29 kI30 tI30 kI31 tI31 kI32 tI32 kI33 tI33 kI34 tI34 kI35 tI35 kI36 tI36 kI37 tI37 kI38 tI38 kI39 tI39 kI40 tI40 kI41 tI41 kI42 tI42 kI43 tI43 kI44 tI44 kI45 tI45 kI46 tI46 kI47 tI47 kI48 tI48 hFPR hFWR hFSR
  refine lv_iload_n hx hb dX11_end_0 rfl (lv_at hl 1 rfl) ?_
  refine lv_if_lt (tgt := 12) hx hb dX11_end_1 (by decide) (fun cA => ?_) (fun cA => ?_)
  · refine lv_iconst (v := (-1)) hx hb dX11_end_12 (by decide) ?_
    exact y_ir K hP hD hS (Nat.le_of_ble_eq_true rfl) (Nat.le_of_ble_eq_true rfl) (ty := .int) rfl rfl dX11_end_13 (by refine ⟨(congrArg (fun z => some (Value.int z)) (show (-1) = endA ln x1 from by simp [endA, endC, cA])), ?_⟩; rw [show endC ln x1 = ln from by simp [endA, endC, cA]]; exact ⟨wd_kp.rf, hIM0⟩)
  · refine lv_iload_n hx hb dX11_end_4 rfl (lv_at hl 1 rfl) ?_
    refine lv_aload_n hx hb dX11_end_5 rfl (lv_at hl 0 rfl) ?_
    refine x_get (ref := "NoteHouseModel") F hP kI0 rfl (fun _ h => List.mem_cons_of_mem _ (List.mem_append_right _ (h))) 25 (Nat.le_of_ble_eq_true rfl) (List.mem_cons_of_mem _ (List.mem_append_left _ (List.mem_of_getElem? (i := 0) rfl))) rfl rfl dX11_end_6 ?_
    refine lv_icmp_le (tgt := 14) hx hb dX11_end_9 (by decide) (fun c_1 => ?_) (fun c_1 => ?_)
    · obtain ⟨j, hj, rfl⟩ := nI_of cA
      have hjl : j ≤ ln := (nI_leI (by omega) (by omega)).mp c_1
      have clj : (nI j).toNatClampNeg = j := nI_clamp (by omega)
      refine lv_aload_n hx hb dX11_end_14 rfl (lv_at hl 0 rfl) ?_
      refine lv_iload_n hx hb dX11_end_15 rfl (lv_at hl 1 rfl) ?_
      refine y_put (ref := "NoteHouseModel") F hP hD hS kI0 rfl (fun _ h => List.mem_cons_of_mem _ (List.mem_append_right _ (h))) tyX11_ok nmX11 25 (Nat.le_of_ble_eq_true rfl) (List.mem_cons_of_mem _ (List.mem_append_left _ (List.mem_of_getElem? (i := 0) rfl))) rfl rfl rfl rfl (Nat.le_of_ble_eq_true rfl) dX11_end_16 (fun w2 ew3 H locs hP hD hS => ?_)
      have k4 : wd_at w2 y (.inr (11, [.int v0, .int td, .ref m2, .ref m3, .ref m4, .ref m5, .ref m6, .int (nI pc), .ref m8, .ref m9, .ref m10, .ref m11, .ref m12, .ref m13, .ref m14, .int (nI ac), .int (nI sc), .ref m17, .ref m18, .ref m19, .ref m20, .ref m21, .ref m22, .ref m23, .ref m24, .int (nI j), .int v26, .int v27, .int v28, .ref m29, .ref m30, .ref m31, .ref m32, .ref m33, .ref m34, .ref m35, .ref m36, .ref m37, .int (nI sh), .ref m39, .ref m40, .ref m41, .ref m42, .ref m43, .ref m44, .ref m45, .ref m46, .ref m47, .ref m48, .ref m49, .int v50, .ref m51, .ref m52, .ref m53, .ref m54, .int (nI gf), .ref m56, .ref m57, .ref m58, .ref m59])) := wd_at.ps ew3 kI0
      have k5 := wd_at.pt ew3 kI1 (tg_ne tI1 tI0 (by decide))
      have k6 := wd_at.pt ew3 kI2 (tg_ne tI2 tI0 (by decide))
      have k7 := wd_at.pt ew3 kI3 (tg_ne tI3 tI0 (by decide))
      have k8 := wd_at.pt ew3 kI4 (tg_ne tI4 tI0 (by decide))
      have k9 := wd_at.pt ew3 kI5 (tg_ne tI5 tI0 (by decide))
      have k10 := wd_at.pt ew3 kI6 (tg_ne tI6 tI0 (by decide))
      have k11 := wd_at.pt ew3 kI7 (tg_ne tI7 tI0 (by decide))
      have k12 := wd_at.pt ew3 kI8 (tg_ne tI8 tI0 (by decide))
      have k13 := wd_at.pt ew3 kI9 (tg_ne tI9 tI0 (by decide))
      have k14 := wd_at.pt ew3 kI10 (tg_ne tI10 tI0 (by decide))
      have k15 := wd_at.pt ew3 kI11 (tg_ne tI11 tI0 (by decide))
      have k16 := wd_at.pt ew3 kI12 (tg_ne tI12 tI0 (by decide))
      have k17 := wd_at.pt ew3 kI13 (tg_ne tI13 tI0 (by decide))
      have k18 := wd_at.pt ew3 kI14 (tg_ne tI14 tI0 (by decide))
      have k19 := wd_at.pt ew3 kI15 (tg_ne tI15 tI0 (by decide))
      have k20 := wd_at.pt ew3 kI16 (tg_ne tI16 tI0 (by decide))
      have k21 := wd_at.pt ew3 kI17 (tg_ne tI17 tI0 (by decide))
      have k22 := wd_at.pt ew3 kI18 (tg_ne tI18 tI0 (by decide))
      have k23 := wd_at.pt ew3 kI19 (tg_ne tI19 tI0 (by decide))
      have k24 := wd_at.pt ew3 kI20 (tg_ne tI20 tI0 (by decide))
      have k25 := wd_at.pt ew3 kI21 (tg_ne tI21 tI0 (by decide))
      have k26 := wd_at.pt ew3 kI22 (tg_ne tI22 tI0 (by decide))
      have k27 := wd_at.pt ew3 kI23 (tg_ne tI23 tI0 (by decide))
      have k28 := wd_at.pt ew3 kI24 (tg_ne tI24 tI0 (by decide))
      have k29 := wd_at.pt ew3 kI25 (tg_ne tI25 tI0 (by decide))
      have k30 := wd_at.pt ew3 kI26 (tg_ne tI26 tI0 (by decide))
      have k31 := wd_at.pt ew3 kI27 (tg_ne tI27 tI0 (by decide))
      have k32 := wd_at.pt ew3 kI28 (tg_ne tI28 tI0 (by decide))
      have k33 := wd_at.pt ew3 kI29 (tg_ne tI29 tI0 (by decide))
      have k34 := wd_at.pt ew3 kI30 (tg_ne tI30 tI0 (by decide))
      have k35 := wd_at.pt ew3 kI31 (tg_ne tI31 tI0 (by decide))
      have k36 := wd_at.pt ew3 kI32 (tg_ne tI32 tI0 (by decide))
      have k37 := wd_at.pt ew3 kI33 (tg_ne tI33 tI0 (by decide))
      have k38 := wd_at.pt ew3 kI34 (tg_ne tI34 tI0 (by decide))
      have k39 := wd_at.pt ew3 kI35 (tg_ne tI35 tI0 (by decide))
      have k40 := wd_at.pt ew3 kI36 (tg_ne tI36 tI0 (by decide))
      have k41 := wd_at.pt ew3 kI37 (tg_ne tI37 tI0 (by decide))
      have k42 := wd_at.pt ew3 kI38 (tg_ne tI38 tI0 (by decide))
      have k43 := wd_at.pt ew3 kI39 (tg_ne tI39 tI0 (by decide))
      have k44 := wd_at.pt ew3 kI40 (tg_ne tI40 tI0 (by decide))
      have k45 := wd_at.pt ew3 kI41 (tg_ne tI41 tI0 (by decide))
      have k46 := wd_at.pt ew3 kI42 (tg_ne tI42 tI0 (by decide))
      have k47 := wd_at.pt ew3 kI43 (tg_ne tI43 tI0 (by decide))
      have k48 := wd_at.pt ew3 kI44 (tg_ne tI44 tI0 (by decide))
      have k49 := wd_at.pt ew3 kI45 (tg_ne tI45 tI0 (by decide))
      have k50 := wd_at.pt ew3 kI46 (tg_ne tI46 tI0 (by decide))
      have k51 := wd_at.pt ew3 kI47 (tg_ne tI47 tI0 (by decide))
      have k52 := wd_at.pt ew3 kI48 (tg_ne tI48 tI0 (by decide))
      have fm53 : ∀ k9, k9 < 12 → qp k9 = some (pr k9) ∧ wd_at w2 (pr k9) (.inl (cy 2, 12, .inl (fp k9))) ∧ tg (pr k9) = 11000 + k9 := fun k9 hi9 => ⟨(hFPR k9 hi9).1, wd_at.pt ew3 (hFPR k9 hi9).2.1 (tg_ne (hFPR k9 hi9).2.2 tI0 (tnA (show 10000 < 11000 by decide))), (hFPR k9 hi9).2.2⟩
      have fm54 : ∀ k9, k9 < 12 → qw k9 = some (wr k9) ∧ wd_at w2 (wr k9) (.inl (cy 2, 12, .inl (fw k9))) ∧ tg (wr k9) = 12000 + k9 := fun k9 hi9 => ⟨(hFWR k9 hi9).1, wd_at.pt ew3 (hFWR k9 hi9).2.1 (tg_ne (hFWR k9 hi9).2.2 tI0 (tnA (show 10000 < 12000 by decide))), (hFWR k9 hi9).2.2⟩
      have fm55 : ∀ k9, k9 < 60 → qs k9 = some (sr k9) ∧ wd_at w2 (sr k9) (.inl (cy 2, 12, .inl (fs k9))) ∧ tg (sr k9) = 13000 + k9 := fun k9 hi9 => ⟨(hFSR k9 hi9).1, wd_at.pt ew3 (hFSR k9 hi9).2.1 (tg_ne (hFSR k9 hi9).2.2 tI0 (tnA (show 10000 < 13000 by decide))), (hFSR k9 hi9).2.2⟩
      have kp56 := kp0.put ew3 (tgT tI0 (by decide))
      refine lv_iload_n hx hb dX11_end_19 rfl (lv_at hl 1 rfl) ?_
      have hX57 : IM cy tg y td pc ac sc j se plv w2 := IM.mk m2 m3 m4 m5 m6 m8 m9 m10 m11 m12 m13 m14 m17 m18 m19 m20 m21 m22 m23 m24 m29 m30 m31 m32 m33 m34 m35 m36 m37 m39 m40 m41 m42 m43 m44 m45 m46 m47 m48 m49 m51 m52 m53 m54 m56 m57 m58 m59 sh gf v0 v26 v27 v28 v50 f4 f5 f6 f8 f9 f10 f11 f12 f13 f14 f17 f18 f19 f20 f21 f22 f24 f29 f30 f31 f32 f33 f34 f35 f36 f37 f39 f40 f41 f42 f43 f44 f45 f46 f47 f48 f49 f51 f52 f53 f54 f56 f57 f58 f59 qp pr fp qw wr fw qs sr fs (by omega) (by omega) (by omega) (by omega) (by omega) (by omega) hrl hc ht hp hso hlo k4 tI0 k5 tI1 k6 tI2 k7 tI3 k8 tI4 k9 tI5 k10 tI6 k11 tI7 k12 tI8 k13 tI9 k14 tI10 k15 tI11 k16 tI12 k17 tI13 k18 tI14 k19 tI15 k20 tI16 k21 tI17 k22 tI18 k23 tI19 k24 tI20 k25 tI21 k26 tI22 k27 tI23 k28 tI24 k29 tI25 k30 tI26 k31 tI27 k32 tI28 k33 tI29 k34 tI30 k35 tI31 k36 tI32 k37 tI33 k38 tI34 k39 tI35 k40 tI36 k41 tI37 k42 tI38 k43 tI39 k44 tI40 k45 tI41 k46 tI42 k47 tI43 k48 tI44 k49 tI45 k50 tI46 k51 tI47 k52 tI48 fm53 fm54 fm55
      exact y_ir K hP hD hS (Nat.le_of_ble_eq_true rfl) (Nat.le_of_ble_eq_true rfl) (ty := .int) rfl rfl dX11_end_20 (by refine ⟨(congrArg (fun z => some (Value.int z)) (show (nI j) = endA ln (nI j) from by simp [endA, endC, cA, c_1, clj])), ?_⟩; rw [show endC ln (nI j) = j from by simp [endA, endC, cA, c_1, clj]]; exact ⟨kp56, hX57⟩)
    · refine lv_iconst (v := (-1)) hx hb dX11_end_12 (by decide) ?_
      exact y_ir K hP hD hS (Nat.le_of_ble_eq_true rfl) (Nat.le_of_ble_eq_true rfl) (ty := .int) rfl rfl dX11_end_13 (by refine ⟨(congrArg (fun z => some (Value.int z)) (show (-1) = endA ln x1 from by simp [endA, endC, cA, c_1])), ?_⟩; rw [show endC ln x1 = ln from by simp [endA, endC, cA, c_1]]; exact ⟨wd_kp.rf, hIM0⟩)
set_option maxHeartbeats 4000000 in
set_option maxRecDepth 100000 in
theorem M_send (l : Launch) (D : va_G) (cy : Nat → ClassId) (sk sv : Nat → Nat) (w : Wd) (tg : Nat → Nat) (y : Nat) (td : Int32) (pc ac sc ln : Nat) (se plv : Nat → Int32) (x1 x2 : Int32) (hIM0 : IM cy tg y td pc ac sc ln se plv w) : Ct l D cy sk sv yX11_send wsX11_send ({ frames := 1, cells := 0, slots := 0, locals := 22 }) [.ref y, .int x1, .int x2] w (fun v w1 => v = some (.int (sndA se x1 x2)) ∧ MP cy tg y td pc ac sc ln (sndS se x1 x2) plv w w1) := by
  refine Ct.by (cc := cX11_send) (maxL := 3) (ret := (some .int)) (by decide +kernel) rfl (Nat.le_of_ble_eq_true rfl) ?_
  intro p e s m args below meth c A Q F hnm K ls hl
  have F : wd_Fx p s m args meth c cX11_send 3 wsX11_send RX11 D cy sk sv A := F
  have hl : lv_has ls 3 [(0, .ref y), (1, .int x1), (2, .int x2)] := hl
  have hx := F.1.1
  have hb := F.1.2.1
  have hown := F.1.2.2.2.1
  have hts := F.1.2.2.2.2
  intro H locs hP hD hS
  have kp0 : wd_kp (fun b => 10000 ≤ tg b) w w := wd_kp.rf
  refine hIM0 _ ?_
  intro m2 m3 m4 m5 m6 m8 m9 m10 m11 m12 m13 m14 m17 m18 m19 m20 m21 m22 m23 m24 m29 m30 m31 m32 m33 m34 m35 m36 m37 m39 m40 m41 m42 m43 m44 m45 m46 m47 m48 m49 m51 m52 m53 m54 m56 m57 m58 m59 sh gf v0 v26 v27 v28 v50 f4 f5 f6 f8 f9 f10 f11 f12 f13 f14 f17 f18 f19 f20 f21 f22 f24 f29 f30 f31 f32 f33 f34 f35 f36 f37 f39 f40 f41 f42 f43 f44 f45 f46 f47 f48 f49 f51 f52 f53 f54 f56 f57 f58 f59 qp pr fp qw wr fw qs sr fs hp90 hp91 hp92 hp93 hp94 hp95 hrl hc ht hp hso hlo kI0 tI0 kI1 tI1 kI2 tI2 kI3 tI3 kI4 tI4 kI5 tI5 kI6 tI6 kI7 tI7 kI8 tI8 kI9 tI9 kI10 tI10 kI11 tI11 kI12 tI12 kI13 tI13 kI14 tI14 kI15 tI15 kI16 tI16 kI17 tI17 kI18 tI18 kI19 tI19 kI20 tI20 kI21 tI21 kI22 tI22 kI23 tI23 kI24 tI24 kI25 tI25 kI26 tI26 kI27 tI27 kI28 tI28 kI29 tI29 kI30 tI30 kI31 tI31 kI32 tI32 kI33 tI33 kI34 tI34 kI35 tI35 kI36 tI36 kI37 tI37 kI38 tI38 kI39 tI39 kI40 tI40 kI41 tI41 kI42 tI42 kI43 tI43 kI44 tI44 kI45 tI45 kI46 tI46 kI47 tI47 kI48 tI48 hFPR hFWR hFSR
  refine lv_iload_n hx hb dX11_send_0 rfl (lv_at hl 1 rfl) ?_
  refine x_callS (n := 1) (As := [.int x1]) (rest := []) F hP hD hS (g_mTown l D cy sk sv w x1) gX11_send_X11_isTown rfl (by decide +kernel) ⟨(Nat.le_of_ble_eq_true rfl), (Nat.le_of_ble_eq_true rfl)⟩ rfl hl.1 (Nat.le_of_ble_eq_true rfl) dX11_send_1 rfl ⟨(Nat.le_of_ble_eq_true rfl), (Nat.le_of_ble_eq_true rfl)⟩ (fun v2 w3 hp1 H locs hP hD hS => ?_)
  obtain ⟨rfl, rfl⟩ := hp1
  refine W.eq (g2 := F0 m 4 ls [.int (wi x1 0 11)]) rfl (W.widen (k := 0) (n := 0) (Nat.le_of_ble_eq_true rfl) (Nat.le_of_ble_eq_true rfl) ?_)
  refine lv_if_eq (tgt := 36) hx hb dX11_send_4 (by decide) (fun c_4 => ?_) (fun c_4 => ?_)
  · refine lv_iconst (v := (-1)) hx hb dX11_send_36 (by decide) ?_
    exact y_ir K hP hD hS (Nat.le_of_ble_eq_true rfl) (Nat.le_of_ble_eq_true rfl) (ty := .int) rfl rfl dX11_send_37 (by refine ⟨(congrArg (fun z => some (Value.int z)) (show (-1) = sndA se x1 x2 from by simp [sndA, sndS, c_4])), ?_⟩; rw [show sndS se x1 x2 = se from by simp [sndA, sndS, c_4]]; exact ⟨wd_kp.rf, hIM0⟩)
  · obtain ⟨j, hj, rfl, clj⟩ := wi_t c_4
    refine lv_iload_n hx hb dX11_send_7 rfl (lv_at hl 1 rfl) ?_
    refine lv_if_eq (tgt := 36) hx hb dX11_send_8 (by decide) (fun c_5 => ?_) (fun c_5 => ?_)
    · refine lv_iconst (v := (-1)) hx hb dX11_send_36 (by decide) ?_
      exact y_ir K hP hD hS (Nat.le_of_ble_eq_true rfl) (Nat.le_of_ble_eq_true rfl) (ty := .int) rfl rfl dX11_send_37 (by refine ⟨(congrArg (fun z => some (Value.int z)) (show (-1) = sndA se (nI j) x2 from by simp [sndA, sndS, c_4, clj, c_5])), ?_⟩; rw [show sndS se (nI j) x2 = se from by simp [sndA, sndS, c_4, clj, c_5]]; exact ⟨wd_kp.rf, hIM0⟩)
    · refine lv_iload_n hx hb dX11_send_11 rfl (lv_at hl 2 rfl) ?_
      refine lv_iconst (v := 1) hx hb dX11_send_12 (by decide) ?_
      refine lv_ldcw (v := 1000000) hx hb hown (hts _ (List.mem_cons_of_mem _ (List.mem_append_left _ (List.mem_of_getElem? (i := 0) rfl)))) dX11_send_13 ?_
      refine x_callS (n := 3) (As := [.int x2, .int 1, .int 1000000]) (rest := []) F hP hD hS (g_in l D cy sk sv w x2 1 1000000) gX11_send_X11_in rfl (by decide +kernel) ⟨(Nat.le_of_ble_eq_true rfl), (Nat.le_of_ble_eq_true rfl)⟩ rfl hl.1 (Nat.le_of_ble_eq_true rfl) dX11_send_16 rfl ⟨(Nat.le_of_ble_eq_true rfl), (Nat.le_of_ble_eq_true rfl)⟩ (fun v7 w8 hp6 H locs hP hD hS => ?_)
      obtain ⟨rfl, rfl⟩ := hp6
      refine W.eq (g2 := F0 m 19 ls [.int (wi x2 1 1000000)]) rfl (W.widen (k := 0) (n := 0) (Nat.le_of_ble_eq_true rfl) (Nat.le_of_ble_eq_true rfl) ?_)
      refine lv_if_eq (tgt := 36) hx hb dX11_send_19 (by decide) (fun c_9 => ?_) (fun c_9 => ?_)
      · refine lv_iconst (v := (-1)) hx hb dX11_send_36 (by decide) ?_
        exact y_ir K hP hD hS (Nat.le_of_ble_eq_true rfl) (Nat.le_of_ble_eq_true rfl) (ty := .int) rfl rfl dX11_send_37 (by refine ⟨(congrArg (fun z => some (Value.int z)) (show (-1) = sndA se (nI j) x2 from by simp [sndA, sndS, c_4, clj, c_5, c_9])), ?_⟩; rw [show sndS se (nI j) x2 = se from by simp [sndA, sndS, c_4, clj, c_5, c_9]]; exact ⟨wd_kp.rf, hIM0⟩)
      · refine lv_aload_n hx hb dX11_send_22 rfl (lv_at hl 0 rfl) ?_
        refine x_get (ref := "NoteHouseModel") F hP kI0 rfl (fun _ h => List.mem_cons_of_mem _ (List.mem_append_right _ (h))) 49 (Nat.le_of_ble_eq_true rfl) (List.mem_cons_of_mem _ (List.mem_append_left _ (List.mem_of_getElem? (i := 1) rfl))) rfl rfl dX11_send_23 ?_
        refine lv_iload_n hx hb dX11_send_26 rfl (lv_at hl 1 rfl) ?_
        refine x_iald F hP kI40 (vp_in_nI (n := j) (N := 12) (by omega) (by decide)) dX11_send_27 ?_
        obtain ⟨ese, use, huse, euse⟩ := hso j (by omega)
        rw [nI_clamp (n := j) (by omega), ese]
        refine lv_iload_n hx hb dX11_send_28 rfl (lv_at hl 2 rfl) ?_
        refine lv_iadd hx hb dX11_send_29 ?_
        refine lv_ldcw (v := 1000000000) hx hb hown (hts _ (List.mem_cons_of_mem _ (List.mem_append_left _ (List.mem_of_getElem? (i := 2) rfl)))) dX11_send_30 ?_
        refine lv_icmp_le (tgt := 38) hx hb dX11_send_33 (by decide) (fun c_10 => ?_) (fun c_10 => ?_)
        · have hsd : se j ≤ 1000000000 - x2 := (snd_iff euse huse c_9).mp c_10
          refine lv_aload_n hx hb dX11_send_38 rfl (lv_at hl 0 rfl) ?_
          refine x_get (ref := "NoteHouseModel") F hP kI0 rfl (fun _ h => List.mem_cons_of_mem _ (List.mem_append_right _ (h))) 49 (Nat.le_of_ble_eq_true rfl) (List.mem_cons_of_mem _ (List.mem_append_left _ (List.mem_of_getElem? (i := 1) rfl))) rfl rfl dX11_send_39 ?_
          refine lv_iload_n hx hb dX11_send_42 rfl (lv_at hl 1 rfl) ?_
          refine lv_dup2_11 hx hb dX11_send_43 rfl rfl ?_
          refine x_iald F hP kI40 (vp_in_nI (n := j) (N := 12) (by omega) (by decide)) dX11_send_44 ?_
          rw [nI_clamp (n := j) (by omega), ese]
          refine lv_iload_n hx hb dX11_send_45 rfl (lv_at hl 2 rfl) ?_
          refine lv_iadd hx hb dX11_send_46 ?_
          refine y_iast F hP hD hS kI40 (vp_in_nI (n := j) (N := 12) (by omega) (by decide)) dX11_send_47 (fun w11 ew12 H locs hP hD hS => ?_)
          have k13 := wd_at.pt ew12 kI0 (tg_ne tI0 tI40 (by decide))
          have k14 := wd_at.pt ew12 kI1 (tg_ne tI1 tI40 (by decide))
          have k15 := wd_at.pt ew12 kI2 (tg_ne tI2 tI40 (by decide))
          have k16 := wd_at.pt ew12 kI3 (tg_ne tI3 tI40 (by decide))
          have k17 := wd_at.pt ew12 kI4 (tg_ne tI4 tI40 (by decide))
          have k18 := wd_at.pt ew12 kI5 (tg_ne tI5 tI40 (by decide))
          have k19 := wd_at.pt ew12 kI6 (tg_ne tI6 tI40 (by decide))
          have k20 := wd_at.pt ew12 kI7 (tg_ne tI7 tI40 (by decide))
          have k21 := wd_at.pt ew12 kI8 (tg_ne tI8 tI40 (by decide))
          have k22 := wd_at.pt ew12 kI9 (tg_ne tI9 tI40 (by decide))
          have k23 := wd_at.pt ew12 kI10 (tg_ne tI10 tI40 (by decide))
          have k24 := wd_at.pt ew12 kI11 (tg_ne tI11 tI40 (by decide))
          have k25 := wd_at.pt ew12 kI12 (tg_ne tI12 tI40 (by decide))
          have k26 := wd_at.pt ew12 kI13 (tg_ne tI13 tI40 (by decide))
          have k27 := wd_at.pt ew12 kI14 (tg_ne tI14 tI40 (by decide))
          have k28 := wd_at.pt ew12 kI15 (tg_ne tI15 tI40 (by decide))
          have k29 := wd_at.pt ew12 kI16 (tg_ne tI16 tI40 (by decide))
          have k30 := wd_at.pt ew12 kI17 (tg_ne tI17 tI40 (by decide))
          have k31 := wd_at.pt ew12 kI18 (tg_ne tI18 tI40 (by decide))
          have k32 := wd_at.pt ew12 kI19 (tg_ne tI19 tI40 (by decide))
          have k33 := wd_at.pt ew12 kI20 (tg_ne tI20 tI40 (by decide))
          have k34 := wd_at.pt ew12 kI21 (tg_ne tI21 tI40 (by decide))
          have k35 := wd_at.pt ew12 kI22 (tg_ne tI22 tI40 (by decide))
          have k36 := wd_at.pt ew12 kI23 (tg_ne tI23 tI40 (by decide))
          have k37 := wd_at.pt ew12 kI24 (tg_ne tI24 tI40 (by decide))
          have k38 := wd_at.pt ew12 kI25 (tg_ne tI25 tI40 (by decide))
          have k39 := wd_at.pt ew12 kI26 (tg_ne tI26 tI40 (by decide))
          have k40 := wd_at.pt ew12 kI27 (tg_ne tI27 tI40 (by decide))
          have k41 := wd_at.pt ew12 kI28 (tg_ne tI28 tI40 (by decide))
          have k42 := wd_at.pt ew12 kI29 (tg_ne tI29 tI40 (by decide))
          have k43 := wd_at.pt ew12 kI30 (tg_ne tI30 tI40 (by decide))
          have k44 := wd_at.pt ew12 kI31 (tg_ne tI31 tI40 (by decide))
          have k45 := wd_at.pt ew12 kI32 (tg_ne tI32 tI40 (by decide))
          have k46 := wd_at.pt ew12 kI33 (tg_ne tI33 tI40 (by decide))
          have k47 := wd_at.pt ew12 kI34 (tg_ne tI34 tI40 (by decide))
          have k48 := wd_at.pt ew12 kI35 (tg_ne tI35 tI40 (by decide))
          have k49 := wd_at.pt ew12 kI36 (tg_ne tI36 tI40 (by decide))
          have k50 := wd_at.pt ew12 kI37 (tg_ne tI37 tI40 (by decide))
          have k51 := wd_at.pt ew12 kI38 (tg_ne tI38 tI40 (by decide))
          have k52 := wd_at.pt ew12 kI39 (tg_ne tI39 tI40 (by decide))
          have k53 : wd_at w11 m49 (.inl (cy 2, 12, .inl (upd f49 (nI j).toNatClampNeg ((se j) + x2)))) := wd_at.ps ew12 kI40
          have k54 := wd_at.pt ew12 kI41 (tg_ne tI41 tI40 (by decide))
          have k55 := wd_at.pt ew12 kI42 (tg_ne tI42 tI40 (by decide))
          have k56 := wd_at.pt ew12 kI43 (tg_ne tI43 tI40 (by decide))
          have k57 := wd_at.pt ew12 kI44 (tg_ne tI44 tI40 (by decide))
          have k58 := wd_at.pt ew12 kI45 (tg_ne tI45 tI40 (by decide))
          have k59 := wd_at.pt ew12 kI46 (tg_ne tI46 tI40 (by decide))
          have k60 := wd_at.pt ew12 kI47 (tg_ne tI47 tI40 (by decide))
          have k61 := wd_at.pt ew12 kI48 (tg_ne tI48 tI40 (by decide))
          have fm62 : ∀ k9, k9 < 12 → qp k9 = some (pr k9) ∧ wd_at w11 (pr k9) (.inl (cy 2, 12, .inl (fp k9))) ∧ tg (pr k9) = 11000 + k9 := fun k9 hi9 => ⟨(hFPR k9 hi9).1, wd_at.pt ew12 (hFPR k9 hi9).2.1 (tg_ne (hFPR k9 hi9).2.2 tI40 (tnA (show 10149 < 11000 by decide))), (hFPR k9 hi9).2.2⟩
          have fm63 : ∀ k9, k9 < 12 → qw k9 = some (wr k9) ∧ wd_at w11 (wr k9) (.inl (cy 2, 12, .inl (fw k9))) ∧ tg (wr k9) = 12000 + k9 := fun k9 hi9 => ⟨(hFWR k9 hi9).1, wd_at.pt ew12 (hFWR k9 hi9).2.1 (tg_ne (hFWR k9 hi9).2.2 tI40 (tnA (show 10149 < 12000 by decide))), (hFWR k9 hi9).2.2⟩
          have fm64 : ∀ k9, k9 < 60 → qs k9 = some (sr k9) ∧ wd_at w11 (sr k9) (.inl (cy 2, 12, .inl (fs k9))) ∧ tg (sr k9) = 13000 + k9 := fun k9 hi9 => ⟨(hFSR k9 hi9).1, wd_at.pt ew12 (hFSR k9 hi9).2.1 (tg_ne (hFSR k9 hi9).2.2 tI40 (tnA (show 10149 < 13000 by decide))), (hFSR k9 hi9).2.2⟩
          have kp65 := kp0.put ew12 (tgT tI40 (by decide))
          refine lv_aload_n hx hb dX11_send_48 rfl (lv_at hl 0 rfl) ?_
          refine x_get (ref := "NoteHouseModel") F hP k13 rfl (fun _ h => List.mem_cons_of_mem _ (List.mem_append_right _ (h))) 49 (Nat.le_of_ble_eq_true rfl) (List.mem_cons_of_mem _ (List.mem_append_left _ (List.mem_of_getElem? (i := 1) rfl))) rfl rfl dX11_send_49 ?_
          refine lv_iload_n hx hb dX11_send_52 rfl (lv_at hl 1 rfl) ?_
          refine x_iald F hP k53 (vp_in_nI (n := j) (N := 12) (by omega) (by decide)) dX11_send_53 ?_
          rw [pk_us]
          have hX66 : IM cy tg y td pc ac sc ln (sndS se (nI j) x2) plv w11 := IM.mk m2 m3 m4 m5 m6 m8 m9 m10 m11 m12 m13 m14 m17 m18 m19 m20 m21 m22 m23 m24 m29 m30 m31 m32 m33 m34 m35 m36 m37 m39 m40 m41 m42 m43 m44 m45 m46 m47 m48 m49 m51 m52 m53 m54 m56 m57 m58 m59 sh gf v0 v26 v27 v28 v50 f4 f5 f6 f8 f9 f10 f11 f12 f13 f14 f17 f18 f19 f20 f21 f22 f24 f29 f30 f31 f32 f33 f34 f35 f36 f37 f39 f40 f41 f42 f43 f44 f45 f46 f47 f48 (upd f49 (nI j).toNatClampNeg ((se j) + x2)) f51 f52 f53 f54 f56 f57 f58 f59 qp pr fp qw wr fw qs sr fs (by omega) (by omega) (by omega) (by omega) (by omega) (by omega) hrl hc ht hp (by rw [show sndS se (nI j) x2 = va_up se j (se j + x2) from by simp [sndS, c_4, clj, c_5, c_9, c_10, hsd]]; exact hso.s (by omega) (snd_b euse huse c_9 c_10)) hlo k13 tI0 k14 tI1 k15 tI2 k16 tI3 k17 tI4 k18 tI5 k19 tI6 k20 tI7 k21 tI8 k22 tI9 k23 tI10 k24 tI11 k25 tI12 k26 tI13 k27 tI14 k28 tI15 k29 tI16 k30 tI17 k31 tI18 k32 tI19 k33 tI20 k34 tI21 k35 tI22 k36 tI23 k37 tI24 k38 tI25 k39 tI26 k40 tI27 k41 tI28 k42 tI29 k43 tI30 k44 tI31 k45 tI32 k46 tI33 k47 tI34 k48 tI35 k49 tI36 k50 tI37 k51 tI38 k52 tI39 k53 tI40 k54 tI41 k55 tI42 k56 tI43 k57 tI44 k58 tI45 k59 tI46 k60 tI47 k61 tI48 fm62 fm63 fm64
          exact y_ir K hP hD hS (Nat.le_of_ble_eq_true rfl) (Nat.le_of_ble_eq_true rfl) (ty := .int) rfl rfl dX11_send_54 (⟨(congrArg (fun z => some (Value.int z)) (show (se j) + x2 = sndA se (nI j) x2 from by simp [sndA, sndS, c_4, clj, c_5, c_9, c_10, hsd])), ⟨kp65, hX66⟩⟩)
        · have hsd : ¬ se j ≤ 1000000000 - x2 := fun q => c_10 ((snd_iff euse huse c_9).mpr q)
          refine lv_iconst (v := (-1)) hx hb dX11_send_36 (by decide) ?_
          exact y_ir K hP hD hS (Nat.le_of_ble_eq_true rfl) (Nat.le_of_ble_eq_true rfl) (ty := .int) rfl rfl dX11_send_37 (by refine ⟨(congrArg (fun z => some (Value.int z)) (show (-1) = sndA se (nI j) x2 from by simp [sndA, sndS, c_4, clj, c_5, c_9, c_10, hsd])), ?_⟩; rw [show sndS se (nI j) x2 = se from by simp [sndA, sndS, c_4, clj, c_5, c_9, c_10, hsd]]; exact ⟨wd_kp.rf, hIM0⟩)
set_option maxHeartbeats 4000000 in
set_option maxRecDepth 100000 in
theorem M_shown (l : Launch) (D : va_G) (cy : Nat → ClassId) (sk sv : Nat → Nat) (w : Wd) (tg : Nat → Nat) (y : Nat) (td : Int32) (pc ac sc ln : Nat) (se plv : Nat → Int32) (x1 x2 : Int32) (hIM0 : IM cy tg y td pc ac sc ln se plv w) : Ct l D cy sk sv yX11_shown wsX11_shown ({ frames := 1, cells := 0, slots := 0, locals := 22 }) [.ref y, .int x1, .int x2] w (fun v w1 => (∃ r : Int32, v = some (.int r)) ∧ MP cy tg y td pc ac sc ln se plv w w1) := by
  refine Ct.by (cc := cX11_shown) (maxL := 3) (ret := (some .int)) (by decide +kernel) rfl (Nat.le_of_ble_eq_true rfl) ?_
  intro p e s m args below meth c A Q F hnm K ls hl
  have F : wd_Fx p s m args meth c cX11_shown 3 wsX11_shown RX11 D cy sk sv A := F
  have hl : lv_has ls 3 [(0, .ref y), (1, .int x1), (2, .int x2)] := hl
  have hx := F.1.1
  have hb := F.1.2.1
  have hown := F.1.2.2.2.1
  have hts := F.1.2.2.2.2
  intro H locs hP hD hS
  have kp0 : wd_kp (fun b => 10000 ≤ tg b) w w := wd_kp.rf
  refine hIM0 _ ?_
  intro m2 m3 m4 m5 m6 m8 m9 m10 m11 m12 m13 m14 m17 m18 m19 m20 m21 m22 m23 m24 m29 m30 m31 m32 m33 m34 m35 m36 m37 m39 m40 m41 m42 m43 m44 m45 m46 m47 m48 m49 m51 m52 m53 m54 m56 m57 m58 m59 sh gf v0 v26 v27 v28 v50 f4 f5 f6 f8 f9 f10 f11 f12 f13 f14 f17 f18 f19 f20 f21 f22 f24 f29 f30 f31 f32 f33 f34 f35 f36 f37 f39 f40 f41 f42 f43 f44 f45 f46 f47 f48 f49 f51 f52 f53 f54 f56 f57 f58 f59 qp pr fp qw wr fw qs sr fs hp90 hp91 hp92 hp93 hp94 hp95 hrl hc ht hp hso hlo kI0 tI0 kI1 tI1 kI2 tI2 kI3 tI3 kI4 tI4 kI5 tI5 kI6 tI6 kI7 tI7 kI8 tI8 kI9 tI9 kI10 tI10 kI11 tI11 kI12 tI12 kI13 tI13 kI14 tI14 kI15 tI15 kI16 tI16 kI17 tI17 kI18 tI18 kI19 tI19 kI20 tI20 kI21 tI21 kI22 tI22 kI23 tI23 kI24 tI24 kI25 tI25 kI26 tI26 kI27 tI27 kI28 tI28 kI29 tI29 kI30 tI30 kI31 tI31 kI32 tI32 kI33 tI33 kI34 tI34 kI35 tI35 kI36 tI36 kI37 tI37 kI38 tI38 kI39 tI39 kI40 tI40 kI41 tI41 kI42 tI42 kI43 tI43 kI44 tI44 kI45 tI45 kI46 tI46 kI47 tI47 kI48 tI48 hFPR hFWR hFSR
  refine lv_iload_n hx hb dX11_shown_0 rfl (lv_at hl 1 rfl) ?_
  refine lv_iconst (v := 0) hx hb dX11_shown_1 (by decide) ?_
  refine lv_aload_n hx hb dX11_shown_2 rfl (lv_at hl 0 rfl) ?_
  refine x_get (ref := "NoteHouseModel") F hP kI0 rfl (fun _ h => List.mem_cons_of_mem _ (List.mem_append_right _ (h))) 38 (Nat.le_of_ble_eq_true rfl) (List.mem_cons_of_mem _ (List.mem_append_left _ (List.mem_of_getElem? (i := 0) rfl))) rfl rfl dX11_shown_3 ?_
  refine lv_iconst (v := 1) hx hb dX11_shown_6 (by decide) ?_
  refine lv_isub hx hb dX11_shown_7 ?_
  refine x_callS (n := 3) (As := [.int x1, .int 0, .int ((nI sh) - 1)]) (rest := []) F hP hD hS (g_in l D cy sk sv w x1 0 ((nI sh) - 1)) gX11_shown_X11_in rfl (by decide +kernel) ⟨(Nat.le_of_ble_eq_true rfl), (Nat.le_of_ble_eq_true rfl)⟩ rfl hl.1 (Nat.le_of_ble_eq_true rfl) dX11_shown_8 rfl ⟨(Nat.le_of_ble_eq_true rfl), (Nat.le_of_ble_eq_true rfl)⟩ (fun v2 w3 hp1 H locs hP hD hS => ?_)
  obtain ⟨rfl, rfl⟩ := hp1
  refine W.eq (g2 := F0 m 11 ls [.int (wi x1 0 ((nI sh) - 1))]) rfl (W.widen (k := 0) (n := 0) (Nat.le_of_ble_eq_true rfl) (Nat.le_of_ble_eq_true rfl) ?_)
  refine lv_if_ne (tgt := 16) hx hb dX11_shown_11 (by decide) (fun c_4 => ?_) (fun c_4 => ?_)
  · obtain ⟨kk, hkk, rfl⟩ := pb_i (by omega) c_4
    have clkk : (nI kk).toNatClampNeg = kk := nI_clamp (by omega)
    refine lv_iload_n hx hb dX11_shown_16 rfl (lv_at hl 2 rfl) ?_
    by_cases c_5 : x2 = 0
    · refine lv_tableIn (off := 51) (tgt := 68) hx hb dX11_shown_17 (by rw [c_5]; decide) (by rw [c_5]; decide) (by rw [c_5]; decide) (by decide) ?_
      refine lv_aload_n hx hb dX11_shown_68 rfl (lv_at hl 0 rfl) ?_
      refine x_get (ref := "NoteHouseModel") F hP kI0 rfl (fun _ h => List.mem_cons_of_mem _ (List.mem_append_right _ (h))) 39 (Nat.le_of_ble_eq_true rfl) (List.mem_cons_of_mem _ (List.mem_append_left _ (List.mem_of_getElem? (i := 1) rfl))) rfl rfl dX11_shown_69 ?_
      refine lv_iload_n hx hb dX11_shown_72 rfl (lv_at hl 1 rfl) ?_
      refine x_iald F hP kI30 (vp_in_nI (n := kk) (N := 200) (by omega) (by decide)) dX11_shown_73 ?_
      exact y_ir K hP hD hS (Nat.le_of_ble_eq_true rfl) (Nat.le_of_ble_eq_true rfl) (ty := .int) rfl rfl dX11_shown_74 (⟨⟨_, rfl⟩, ⟨wd_kp.rf, hIM0⟩⟩)
    by_cases c_6 : x2 = 1
    · refine lv_tableIn (off := 58) (tgt := 75) hx hb dX11_shown_17 (by rw [c_6]; decide) (by rw [c_6]; decide) (by rw [c_6]; decide) (by decide) ?_
      refine lv_aload_n hx hb dX11_shown_75 rfl (lv_at hl 0 rfl) ?_
      refine x_get (ref := "NoteHouseModel") F hP kI0 rfl (fun _ h => List.mem_cons_of_mem _ (List.mem_append_right _ (h))) 40 (Nat.le_of_ble_eq_true rfl) (List.mem_cons_of_mem _ (List.mem_append_left _ (List.mem_of_getElem? (i := 2) rfl))) rfl rfl dX11_shown_76 ?_
      refine lv_iload_n hx hb dX11_shown_79 rfl (lv_at hl 1 rfl) ?_
      refine x_iald F hP kI31 (vp_in_nI (n := kk) (N := 200) (by omega) (by decide)) dX11_shown_80 ?_
      exact y_ir K hP hD hS (Nat.le_of_ble_eq_true rfl) (Nat.le_of_ble_eq_true rfl) (ty := .int) rfl rfl dX11_shown_81 (⟨⟨_, rfl⟩, ⟨wd_kp.rf, hIM0⟩⟩)
    by_cases c_7 : x2 = 2
    · refine lv_tableIn (off := 65) (tgt := 82) hx hb dX11_shown_17 (by rw [c_7]; decide) (by rw [c_7]; decide) (by rw [c_7]; decide) (by decide) ?_
      refine lv_aload_n hx hb dX11_shown_82 rfl (lv_at hl 0 rfl) ?_
      refine x_get (ref := "NoteHouseModel") F hP kI0 rfl (fun _ h => List.mem_cons_of_mem _ (List.mem_append_right _ (h))) 41 (Nat.le_of_ble_eq_true rfl) (List.mem_cons_of_mem _ (List.mem_append_left _ (List.mem_of_getElem? (i := 3) rfl))) rfl rfl dX11_shown_83 ?_
      refine lv_iload_n hx hb dX11_shown_86 rfl (lv_at hl 1 rfl) ?_
      refine x_iald F hP kI32 (vp_in_nI (n := kk) (N := 200) (by omega) (by decide)) dX11_shown_87 ?_
      exact y_ir K hP hD hS (Nat.le_of_ble_eq_true rfl) (Nat.le_of_ble_eq_true rfl) (ty := .int) rfl rfl dX11_shown_88 (⟨⟨_, rfl⟩, ⟨wd_kp.rf, hIM0⟩⟩)
    by_cases c_8 : x2 = 3
    · refine lv_tableIn (off := 72) (tgt := 89) hx hb dX11_shown_17 (by rw [c_8]; decide) (by rw [c_8]; decide) (by rw [c_8]; decide) (by decide) ?_
      refine lv_aload_n hx hb dX11_shown_89 rfl (lv_at hl 0 rfl) ?_
      refine x_get (ref := "NoteHouseModel") F hP kI0 rfl (fun _ h => List.mem_cons_of_mem _ (List.mem_append_right _ (h))) 42 (Nat.le_of_ble_eq_true rfl) (List.mem_cons_of_mem _ (List.mem_append_left _ (List.mem_of_getElem? (i := 4) rfl))) rfl rfl dX11_shown_90 ?_
      refine lv_iload_n hx hb dX11_shown_93 rfl (lv_at hl 1 rfl) ?_
      refine x_iald F hP kI33 (vp_in_nI (n := kk) (N := 200) (by omega) (by decide)) dX11_shown_94 ?_
      exact y_ir K hP hD hS (Nat.le_of_ble_eq_true rfl) (Nat.le_of_ble_eq_true rfl) (ty := .int) rfl rfl dX11_shown_95 (⟨⟨_, rfl⟩, ⟨wd_kp.rf, hIM0⟩⟩)
    by_cases c_9 : x2 = 4
    · refine lv_tableIn (off := 79) (tgt := 96) hx hb dX11_shown_17 (by rw [c_9]; decide) (by rw [c_9]; decide) (by rw [c_9]; decide) (by decide) ?_
      refine lv_aload_n hx hb dX11_shown_96 rfl (lv_at hl 0 rfl) ?_
      refine x_get (ref := "NoteHouseModel") F hP kI0 rfl (fun _ h => List.mem_cons_of_mem _ (List.mem_append_right _ (h))) 44 (Nat.le_of_ble_eq_true rfl) (List.mem_cons_of_mem _ (List.mem_append_left _ (List.mem_of_getElem? (i := 5) rfl))) rfl rfl dX11_shown_97 ?_
      refine lv_iload_n hx hb dX11_shown_100 rfl (lv_at hl 1 rfl) ?_
      refine x_iald F hP kI35 (vp_in_nI (n := kk) (N := 200) (by omega) (by decide)) dX11_shown_101 ?_
      exact y_ir K hP hD hS (Nat.le_of_ble_eq_true rfl) (Nat.le_of_ble_eq_true rfl) (ty := .int) rfl rfl dX11_shown_102 (⟨⟨_, rfl⟩, ⟨wd_kp.rf, hIM0⟩⟩)
    by_cases c_10 : x2 = 5
    · refine lv_tableIn (off := 86) (tgt := 103) hx hb dX11_shown_17 (by rw [c_10]; decide) (by rw [c_10]; decide) (by rw [c_10]; decide) (by decide) ?_
      refine lv_aload_n hx hb dX11_shown_103 rfl (lv_at hl 0 rfl) ?_
      refine x_get (ref := "NoteHouseModel") F hP kI0 rfl (fun _ h => List.mem_cons_of_mem _ (List.mem_append_right _ (h))) 45 (Nat.le_of_ble_eq_true rfl) (List.mem_cons_of_mem _ (List.mem_append_left _ (List.mem_of_getElem? (i := 6) rfl))) rfl rfl dX11_shown_104 ?_
      refine lv_iload_n hx hb dX11_shown_107 rfl (lv_at hl 1 rfl) ?_
      refine x_iald F hP kI36 (vp_in_nI (n := kk) (N := 200) (by omega) (by decide)) dX11_shown_108 ?_
      exact y_ir K hP hD hS (Nat.le_of_ble_eq_true rfl) (Nat.le_of_ble_eq_true rfl) (ty := .int) rfl rfl dX11_shown_109 (⟨⟨_, rfl⟩, ⟨wd_kp.rf, hIM0⟩⟩)
    by_cases c_11 : x2 = 6
    · refine lv_tableIn (off := 93) (tgt := 110) hx hb dX11_shown_17 (by rw [c_11]; decide) (by rw [c_11]; decide) (by rw [c_11]; decide) (by decide) ?_
      refine lv_aload_n hx hb dX11_shown_110 rfl (lv_at hl 0 rfl) ?_
      refine x_get (ref := "NoteHouseModel") F hP kI0 rfl (fun _ h => List.mem_cons_of_mem _ (List.mem_append_right _ (h))) 48 (Nat.le_of_ble_eq_true rfl) (List.mem_cons_of_mem _ (List.mem_append_left _ (List.mem_of_getElem? (i := 7) rfl))) rfl rfl dX11_shown_111 ?_
      refine lv_iload_n hx hb dX11_shown_114 rfl (lv_at hl 1 rfl) ?_
      refine x_lald F hP kI39 (vp_in_nI (n := kk) (N := 200) (by omega) (by decide)) dX11_shown_115 ?_
      refine lv_l2i (v := (f48 (nI kk).toNatClampNeg).toInt32) hx hb dX11_shown_116 (rfl) ?_
      exact y_ir K hP hD hS (Nat.le_of_ble_eq_true rfl) (Nat.le_of_ble_eq_true rfl) (ty := .int) rfl rfl dX11_shown_117 (⟨⟨_, rfl⟩, ⟨wd_kp.rf, hIM0⟩⟩)
    by_cases c_12 : x2 = 7
    · refine lv_tableIn (off := 101) (tgt := 118) hx hb dX11_shown_17 (by rw [c_12]; decide) (by rw [c_12]; decide) (by rw [c_12]; decide) (by decide) ?_
      refine lv_aload_n hx hb dX11_shown_118 rfl (lv_at hl 0 rfl) ?_
      refine x_get (ref := "NoteHouseModel") F hP kI0 rfl (fun _ h => List.mem_cons_of_mem _ (List.mem_append_right _ (h))) 46 (Nat.le_of_ble_eq_true rfl) (List.mem_cons_of_mem _ (List.mem_append_left _ (List.mem_of_getElem? (i := 8) rfl))) rfl rfl dX11_shown_119 ?_
      refine lv_iload_n hx hb dX11_shown_122 rfl (lv_at hl 1 rfl) ?_
      refine x_iald F hP kI37 (vp_in_nI (n := kk) (N := 200) (by omega) (by decide)) dX11_shown_123 ?_
      exact y_ir K hP hD hS (Nat.le_of_ble_eq_true rfl) (Nat.le_of_ble_eq_true rfl) (ty := .int) rfl rfl dX11_shown_124 (⟨⟨_, rfl⟩, ⟨wd_kp.rf, hIM0⟩⟩)
    by_cases c_13 : x2 = 8
    · refine lv_tableIn (off := 108) (tgt := 125) hx hb dX11_shown_17 (by rw [c_13]; decide) (by rw [c_13]; decide) (by rw [c_13]; decide) (by decide) ?_
      refine lv_aload_n hx hb dX11_shown_125 rfl (lv_at hl 0 rfl) ?_
      refine x_get (ref := "NoteHouseModel") F hP kI0 rfl (fun _ h => List.mem_cons_of_mem _ (List.mem_append_right _ (h))) 47 (Nat.le_of_ble_eq_true rfl) (List.mem_cons_of_mem _ (List.mem_append_left _ (List.mem_of_getElem? (i := 9) rfl))) rfl rfl dX11_shown_126 ?_
      refine lv_iload_n hx hb dX11_shown_129 rfl (lv_at hl 1 rfl) ?_
      refine x_iald F hP kI38 (vp_in_nI (n := kk) (N := 200) (by omega) (by decide)) dX11_shown_130 ?_
      refine lv_ldc (v := 268435456) hx hb hown (hts _ (List.mem_cons_of_mem _ (List.mem_append_left _ (List.mem_of_getElem? (i := 10) rfl)))) dX11_shown_131 ?_
      refine lv_icmp_ne (tgt := 140) hx hb dX11_shown_133 (by decide) (fun c_14 => ?_) (fun c_14 => ?_)
      · refine lv_aload_n hx hb dX11_shown_140 rfl (lv_at hl 0 rfl) ?_
        refine x_get (ref := "NoteHouseModel") F hP kI0 rfl (fun _ h => List.mem_cons_of_mem _ (List.mem_append_right _ (h))) 47 (Nat.le_of_ble_eq_true rfl) (List.mem_cons_of_mem _ (List.mem_append_left _ (List.mem_of_getElem? (i := 9) rfl))) rfl rfl dX11_shown_141 ?_
        refine lv_iload_n hx hb dX11_shown_144 rfl (lv_at hl 1 rfl) ?_
        refine x_iald F hP kI38 (vp_in_nI (n := kk) (N := 200) (by omega) (by decide)) dX11_shown_145 ?_
        exact y_ir K hP hD hS (Nat.le_of_ble_eq_true rfl) (Nat.le_of_ble_eq_true rfl) (ty := .int) rfl rfl dX11_shown_146 (⟨⟨_, rfl⟩, ⟨wd_kp.rf, hIM0⟩⟩)
      · refine lv_iconst (v := (-1)) hx hb dX11_shown_136 (by decide) ?_
        refine lv_goto (tgt := 146) hx hb dX11_shown_137 (by decide) ?_
        exact y_ir K hP hD hS (Nat.le_of_ble_eq_true rfl) (Nat.le_of_ble_eq_true rfl) (ty := .int) rfl rfl dX11_shown_146 (⟨⟨_, rfl⟩, ⟨wd_kp.rf, hIM0⟩⟩)
    refine lv_tableOut (tgt := 147) hx hb dX11_shown_17 (by have z0 := lv_neT c_5 (show (0 : Int32).toInt = 0 by decide); have z1 := lv_neT c_6 (show (1 : Int32).toInt = 1 by decide); have z2 := lv_neT c_7 (show (2 : Int32).toInt = 2 by decide); have z3 := lv_neT c_8 (show (3 : Int32).toInt = 3 by decide); have z4 := lv_neT c_9 (show (4 : Int32).toInt = 4 by decide); have z5 := lv_neT c_10 (show (5 : Int32).toInt = 5 by decide); have z6 := lv_neT c_11 (show (6 : Int32).toInt = 6 by decide); have z7 := lv_neT c_12 (show (7 : Int32).toInt = 7 by decide); have z8 := lv_neT c_13 (show (8 : Int32).toInt = 8 by decide); omega) (by decide) ?_
    refine lv_iconst (v := (-1)) hx hb dX11_shown_147 (by decide) ?_
    exact y_ir K hP hD hS (Nat.le_of_ble_eq_true rfl) (Nat.le_of_ble_eq_true rfl) (ty := .int) rfl rfl dX11_shown_148 (⟨⟨_, rfl⟩, ⟨wd_kp.rf, hIM0⟩⟩)
  · refine lv_iconst (v := (-1)) hx hb dX11_shown_14 (by decide) ?_
    exact y_ir K hP hD hS (Nat.le_of_ble_eq_true rfl) (Nat.le_of_ble_eq_true rfl) (ty := .int) rfl rfl dX11_shown_15 (⟨⟨_, rfl⟩, ⟨wd_kp.rf, hIM0⟩⟩)
set_option maxHeartbeats 4000000 in
set_option maxRecDepth 100000 in
theorem M_paper (l : Launch) (D : va_G) (cy : Nat → ClassId) (sk sv : Nat → Nat) (w : Wd) (tg : Nat → Nat) (y : Nat) (td : Int32) (pc ac sc ln : Nat) (se plv : Nat → Int32) (x1 x2 : Int32) (hIM0 : IM cy tg y td pc ac sc ln se plv w) : Ct l D cy sk sv yX11_paper wsX11_paper ({ frames := 1, cells := 0, slots := 0, locals := 22 }) [.ref y, .int x1, .int x2] w (fun v w1 => (∃ r : Int32, v = some (.int r)) ∧ MP cy tg y td pc ac sc ln se plv w w1) := by
  refine Ct.by (cc := cX11_paper) (maxL := 3) (ret := (some .int)) (by decide +kernel) rfl (Nat.le_of_ble_eq_true rfl) ?_
  intro p e s m args below meth c A Q F hnm K ls hl
  have F : wd_Fx p s m args meth c cX11_paper 3 wsX11_paper RX11 D cy sk sv A := F
  have hl : lv_has ls 3 [(0, .ref y), (1, .int x1), (2, .int x2)] := hl
  have hx := F.1.1
  have hb := F.1.2.1
  have hown := F.1.2.2.2.1
  have hts := F.1.2.2.2.2
  intro H locs hP hD hS
  have kp0 : wd_kp (fun b => 10000 ≤ tg b) w w := wd_kp.rf
  refine hIM0 _ ?_
  intro m2 m3 m4 m5 m6 m8 m9 m10 m11 m12 m13 m14 m17 m18 m19 m20 m21 m22 m23 m24 m29 m30 m31 m32 m33 m34 m35 m36 m37 m39 m40 m41 m42 m43 m44 m45 m46 m47 m48 m49 m51 m52 m53 m54 m56 m57 m58 m59 sh gf v0 v26 v27 v28 v50 f4 f5 f6 f8 f9 f10 f11 f12 f13 f14 f17 f18 f19 f20 f21 f22 f24 f29 f30 f31 f32 f33 f34 f35 f36 f37 f39 f40 f41 f42 f43 f44 f45 f46 f47 f48 f49 f51 f52 f53 f54 f56 f57 f58 f59 qp pr fp qw wr fw qs sr fs hp90 hp91 hp92 hp93 hp94 hp95 hrl hc ht hp hso hlo kI0 tI0 kI1 tI1 kI2 tI2 kI3 tI3 kI4 tI4 kI5 tI5 kI6 tI6 kI7 tI7 kI8 tI8 kI9 tI9 kI10 tI10 kI11 tI11 kI12 tI12 kI13 tI13 kI14 tI14 kI15 tI15 kI16 tI16 kI17 tI17 kI18 tI18 kI19 tI19 kI20 tI20 kI21 tI21 kI22 tI22 kI23 tI23 kI24 tI24 kI25 tI25 kI26 tI26 kI27 tI27 kI28 tI28 kI29 tI29 kI30 tI30 kI31 tI31 kI32 tI32 kI33 tI33 kI34 tI34 kI35 tI35 kI36 tI36 kI37 tI37 kI38 tI38 kI39 tI39 kI40 tI40 kI41 tI41 kI42 tI42 kI43 tI43 kI44 tI44 kI45 tI45 kI46 tI46 kI47 tI47 kI48 tI48 hFPR hFWR hFSR
  refine lv_iload_n hx hb dX11_paper_0 rfl (lv_at hl 1 rfl) ?_
  refine lv_iconst (v := 0) hx hb dX11_paper_1 (by decide) ?_
  refine lv_aload_n hx hb dX11_paper_2 rfl (lv_at hl 0 rfl) ?_
  refine x_get (ref := "NoteHouseModel") F hP kI0 rfl (fun _ h => List.mem_cons_of_mem _ (List.mem_append_right _ (h))) 7 (Nat.le_of_ble_eq_true rfl) (List.mem_cons_of_mem _ (List.mem_append_left _ (List.mem_of_getElem? (i := 0) rfl))) rfl rfl dX11_paper_3 ?_
  refine lv_iconst (v := 1) hx hb dX11_paper_6 (by decide) ?_
  refine lv_isub hx hb dX11_paper_7 ?_
  refine x_callS (n := 3) (As := [.int x1, .int 0, .int ((nI pc) - 1)]) (rest := []) F hP hD hS (g_in l D cy sk sv w x1 0 ((nI pc) - 1)) gX11_paper_X11_in rfl (by decide +kernel) ⟨(Nat.le_of_ble_eq_true rfl), (Nat.le_of_ble_eq_true rfl)⟩ rfl hl.1 (Nat.le_of_ble_eq_true rfl) dX11_paper_8 rfl ⟨(Nat.le_of_ble_eq_true rfl), (Nat.le_of_ble_eq_true rfl)⟩ (fun v2 w3 hp1 H locs hP hD hS => ?_)
  obtain ⟨rfl, rfl⟩ := hp1
  refine W.eq (g2 := F0 m 11 ls [.int (wi x1 0 ((nI pc) - 1))]) rfl (W.widen (k := 0) (n := 0) (Nat.le_of_ble_eq_true rfl) (Nat.le_of_ble_eq_true rfl) ?_)
  refine lv_if_ne (tgt := 16) hx hb dX11_paper_11 (by decide) (fun c_4 => ?_) (fun c_4 => ?_)
  · obtain ⟨kk, hkk, rfl⟩ := pb_i (by omega) c_4
    have clkk : (nI kk).toNatClampNeg = kk := nI_clamp (by omega)
    refine lv_iload_n hx hb dX11_paper_16 rfl (lv_at hl 2 rfl) ?_
    by_cases c_5 : x2 = 0
    · refine lv_tableIn (off := 35) (tgt := 52) hx hb dX11_paper_17 (by rw [c_5]; decide) (by rw [c_5]; decide) (by rw [c_5]; decide) (by decide) ?_
      refine lv_aload_n hx hb dX11_paper_52 rfl (lv_at hl 0 rfl) ?_
      refine x_get (ref := "NoteHouseModel") F hP kI0 rfl (fun _ h => List.mem_cons_of_mem _ (List.mem_append_right _ (h))) 8 (Nat.le_of_ble_eq_true rfl) (List.mem_cons_of_mem _ (List.mem_append_left _ (List.mem_of_getElem? (i := 1) rfl))) rfl rfl dX11_paper_53 ?_
      refine lv_iload_n hx hb dX11_paper_56 rfl (lv_at hl 1 rfl) ?_
      refine x_iald F hP kI6 (vp_in_nI (n := kk) (N := 30) (by omega) (by decide)) dX11_paper_57 ?_
      exact y_ir K hP hD hS (Nat.le_of_ble_eq_true rfl) (Nat.le_of_ble_eq_true rfl) (ty := .int) rfl rfl dX11_paper_58 (⟨⟨_, rfl⟩, ⟨wd_kp.rf, hIM0⟩⟩)
    by_cases c_6 : x2 = 1
    · refine lv_tableIn (off := 42) (tgt := 59) hx hb dX11_paper_17 (by rw [c_6]; decide) (by rw [c_6]; decide) (by rw [c_6]; decide) (by decide) ?_
      refine lv_aload_n hx hb dX11_paper_59 rfl (lv_at hl 0 rfl) ?_
      refine x_get (ref := "NoteHouseModel") F hP kI0 rfl (fun _ h => List.mem_cons_of_mem _ (List.mem_append_right _ (h))) 9 (Nat.le_of_ble_eq_true rfl) (List.mem_cons_of_mem _ (List.mem_append_left _ (List.mem_of_getElem? (i := 2) rfl))) rfl rfl dX11_paper_60 ?_
      refine lv_iload_n hx hb dX11_paper_63 rfl (lv_at hl 1 rfl) ?_
      refine x_iald F hP kI7 (vp_in_nI (n := kk) (N := 30) (by omega) (by decide)) dX11_paper_64 ?_
      exact y_ir K hP hD hS (Nat.le_of_ble_eq_true rfl) (Nat.le_of_ble_eq_true rfl) (ty := .int) rfl rfl dX11_paper_65 (⟨⟨_, rfl⟩, ⟨wd_kp.rf, hIM0⟩⟩)
    by_cases c_7 : x2 = 2
    · refine lv_tableIn (off := 49) (tgt := 66) hx hb dX11_paper_17 (by rw [c_7]; decide) (by rw [c_7]; decide) (by rw [c_7]; decide) (by decide) ?_
      refine lv_aload_n hx hb dX11_paper_66 rfl (lv_at hl 0 rfl) ?_
      refine x_get (ref := "NoteHouseModel") F hP kI0 rfl (fun _ h => List.mem_cons_of_mem _ (List.mem_append_right _ (h))) 11 (Nat.le_of_ble_eq_true rfl) (List.mem_cons_of_mem _ (List.mem_append_left _ (List.mem_of_getElem? (i := 3) rfl))) rfl rfl dX11_paper_67 ?_
      refine lv_iload_n hx hb dX11_paper_70 rfl (lv_at hl 1 rfl) ?_
      refine x_iald F hP kI9 (vp_in_nI (n := kk) (N := 30) (by omega) (by decide)) dX11_paper_71 ?_
      exact y_ir K hP hD hS (Nat.le_of_ble_eq_true rfl) (Nat.le_of_ble_eq_true rfl) (ty := .int) rfl rfl dX11_paper_72 (⟨⟨_, rfl⟩, ⟨wd_kp.rf, hIM0⟩⟩)
    by_cases c_8 : x2 = 3
    · refine lv_tableIn (off := 56) (tgt := 73) hx hb dX11_paper_17 (by rw [c_8]; decide) (by rw [c_8]; decide) (by rw [c_8]; decide) (by decide) ?_
      refine lv_aload_n hx hb dX11_paper_73 rfl (lv_at hl 0 rfl) ?_
      refine x_get (ref := "NoteHouseModel") F hP kI0 rfl (fun _ h => List.mem_cons_of_mem _ (List.mem_append_right _ (h))) 13 (Nat.le_of_ble_eq_true rfl) (List.mem_cons_of_mem _ (List.mem_append_left _ (List.mem_of_getElem? (i := 4) rfl))) rfl rfl dX11_paper_74 ?_
      refine lv_iload_n hx hb dX11_paper_77 rfl (lv_at hl 1 rfl) ?_
      refine x_iald F hP kI11 (vp_in_nI (n := kk) (N := 30) (by omega) (by decide)) dX11_paper_78 ?_
      exact y_ir K hP hD hS (Nat.le_of_ble_eq_true rfl) (Nat.le_of_ble_eq_true rfl) (ty := .int) rfl rfl dX11_paper_79 (⟨⟨_, rfl⟩, ⟨wd_kp.rf, hIM0⟩⟩)
    by_cases c_9 : x2 = 4
    · refine lv_tableIn (off := 63) (tgt := 80) hx hb dX11_paper_17 (by rw [c_9]; decide) (by rw [c_9]; decide) (by rw [c_9]; decide) (by decide) ?_
      refine lv_aload_n hx hb dX11_paper_80 rfl (lv_at hl 0 rfl) ?_
      refine x_get (ref := "NoteHouseModel") F hP kI0 rfl (fun _ h => List.mem_cons_of_mem _ (List.mem_append_right _ (h))) 14 (Nat.le_of_ble_eq_true rfl) (List.mem_cons_of_mem _ (List.mem_append_left _ (List.mem_of_getElem? (i := 5) rfl))) rfl rfl dX11_paper_81 ?_
      refine lv_iload_n hx hb dX11_paper_84 rfl (lv_at hl 1 rfl) ?_
      refine x_iald F hP kI12 (vp_in_nI (n := kk) (N := 30) (by omega) (by decide)) dX11_paper_85 ?_
      exact y_ir K hP hD hS (Nat.le_of_ble_eq_true rfl) (Nat.le_of_ble_eq_true rfl) (ty := .int) rfl rfl dX11_paper_86 (⟨⟨_, rfl⟩, ⟨wd_kp.rf, hIM0⟩⟩)
    refine lv_tableOut (tgt := 87) hx hb dX11_paper_17 (by have z0 := lv_neT c_5 (show (0 : Int32).toInt = 0 by decide); have z1 := lv_neT c_6 (show (1 : Int32).toInt = 1 by decide); have z2 := lv_neT c_7 (show (2 : Int32).toInt = 2 by decide); have z3 := lv_neT c_8 (show (3 : Int32).toInt = 3 by decide); have z4 := lv_neT c_9 (show (4 : Int32).toInt = 4 by decide); omega) (by decide) ?_
    refine lv_iconst (v := (-1)) hx hb dX11_paper_87 (by decide) ?_
    exact y_ir K hP hD hS (Nat.le_of_ble_eq_true rfl) (Nat.le_of_ble_eq_true rfl) (ty := .int) rfl rfl dX11_paper_88 (⟨⟨_, rfl⟩, ⟨wd_kp.rf, hIM0⟩⟩)
  · refine lv_iconst (v := (-1)) hx hb dX11_paper_14 (by decide) ?_
    exact y_ir K hP hD hS (Nat.le_of_ble_eq_true rfl) (Nat.le_of_ble_eq_true rfl) (ty := .int) rfl rfl dX11_paper_15 (⟨⟨_, rfl⟩, ⟨wd_kp.rf, hIM0⟩⟩)
