set_option maxHeartbeats 4000000 in
set_option maxRecDepth 100000 in
theorem M_lose (l : Launch) (D : va_G) (cy : Nat → ClassId) (sk sv : Nat → Nat) (w : Wd) (tg : Nat → Nat) (y : Nat) (td : Int32) (pc ac sc ln : Nat) (se plv : Nat → Int32) (x1 : Int32) (hIM0 : IM cy tg y td pc ac sc ln se plv w) : Ct l D cy sk sv yX11_lose wsX11_lose ({ frames := 1, cells := 0, slots := 0, locals := 22 }) [.ref y, .int x1] w (fun v w1 => (∃ r : Int32, v = some (.int r)) ∧ MP cy tg y td pc ac sc ln se plv w w1) := by
  refine Ct.by (cc := cX11_lose) (maxL := 2) (ret := (some .boolean)) (by decide +kernel) rfl (Nat.le_of_ble_eq_true rfl) ?_
  intro p e s m args below meth c A Q F hnm K ls hl
  have F : wd_Fx p s m args meth c cX11_lose 2 wsX11_lose RX11 D cy sk sv A := F
  have hl : lv_has ls 2 [(0, .ref y), (1, .int x1)] := hl
  have hx := F.1.1
  have hb := F.1.2.1
  have hown := F.1.2.2.2.1
  have hts := F.1.2.2.2.2
  intro H locs hP hD hS
  have kp0 : wd_kp (fun b => 10000 ≤ tg b) w w := wd_kp.rf
  refine hIM0 _ ?_
  intro m2 m3 m4 m5 m6 m8 m9 m10 m11 m12 m13 m14 m17 m18 m19 m20 m21 m22 m23 m24 m29 m30 m31 m32 m33 m34 m35 m36 m37 m39 m40 m41 m42 m43 m44 m45 m46 m47 m48 m49 m51 m52 m53 m54 m56 m57 m58 m59 sh gf v0 v26 v27 v28 v50 f4 f5 f6 f8 f9 f10 f11 f12 f13 f14 f17 f18 f19 f20 f21 f22 f24 f29 f30 f31 f32 f33 f34 f35 f36 f37 f39 f40 f41 f42 f43 f44 f45 f46 f47 f48 f49 f51 f52 f53 f54 f56 f57 f58 f59 qp pr fp qw wr fw qs sr fs hp90 hp91 hp92 hp93 hp94 hp95 hrl hc ht hp hso hlo kI0 tI0 kI1 tI1 kI2 tI2 kI3 tI3 kI4 tI4 kI5 tI5 kI6 tI6 kI7 tI7 kI8 tI8 kI9 tI9 kI10 tI10 kI11 tI11 kI12 tI12 kI13 tI13 kI14 tI14 kI15 tI15 kI16 tI16 kI17 tI17 kI18 tI18 kI19 tI19 kI20 tI20 kI21 tI21 kI22 tI22 kI23 tI23 kI24 tI24 kI25 tI25 kI26 tI26 kI27 tI27 kI28 tI28 kI29 tI29 kI30 tI30 kI31 tI31 kI32 tI32 kI33 tI33 kI34 tI34 kI35 tI35 kI36 tI36 kI37 tI37 kI38 tI38 kI39 tI39 kI40 tI40 kI41 tI41 kI42 tI42 kI43 tI43 kI44 tI44 kI45 tI45 kI46 tI46 kI47 tI47 kI48 tI48 hFPR hFWR hFSR
  refine lv_iload_n hx hb dX11_lose_0 rfl (lv_at hl 1 rfl) ?_
  refine lv_iconst (v := 0) hx hb dX11_lose_1 (by decide) ?_
  refine lv_aload_n hx hb dX11_lose_2 rfl (lv_at hl 0 rfl) ?_
  refine x_get (ref := "NoteHouseModel") F hP kI0 rfl (fun _ h => List.mem_cons_of_mem _ (List.mem_append_right _ (h))) 15 (Nat.le_of_ble_eq_true rfl) (List.mem_cons_of_mem _ (List.mem_append_left _ (List.mem_of_getElem? (i := 0) rfl))) rfl rfl dX11_lose_3 ?_
  refine lv_iconst (v := 1) hx hb dX11_lose_6 (by decide) ?_
  refine lv_isub hx hb dX11_lose_7 ?_
  refine x_callS (n := 3) (As := [.int x1, .int 0, .int ((nI ac) - 1)]) (rest := []) F hP hD hS (g_in l D cy sk sv w x1 0 ((nI ac) - 1)) gX11_lose_X11_in rfl (by decide +kernel) ⟨(Nat.le_of_ble_eq_true rfl), (Nat.le_of_ble_eq_true rfl)⟩ rfl hl.1 (Nat.le_of_ble_eq_true rfl) dX11_lose_8 rfl ⟨(Nat.le_of_ble_eq_true rfl), (Nat.le_of_ble_eq_true rfl)⟩ (fun v2 w3 hp1 H locs hP hD hS => ?_)
  obtain ⟨rfl, rfl⟩ := hp1
  refine W.eq (g2 := F0 m 11 ls [.int (wi x1 0 ((nI ac) - 1))]) rfl (W.widen (k := 0) (n := 0) (Nat.le_of_ble_eq_true rfl) (Nat.le_of_ble_eq_true rfl) ?_)
  refine lv_if_eq (tgt := 36) hx hb dX11_lose_11 (by decide) (fun c_4 => ?_) (fun c_4 => ?_)
  · refine lv_iconst (v := 0) hx hb dX11_lose_36 (by decide) ?_
    exact y_ir K hP hD hS (Nat.le_of_ble_eq_true rfl) (Nat.le_of_ble_eq_true rfl) (ty := .boolean) rfl rfl dX11_lose_37 (⟨⟨_, rfl⟩, ⟨wd_kp.rf, hIM0⟩⟩)
  · obtain ⟨kk, hkk, rfl⟩ := pb_i (by omega) c_4
    have clkk : (nI kk).toNatClampNeg = kk := nI_clamp (by omega)
    refine lv_aload_n hx hb dX11_lose_14 rfl (lv_at hl 0 rfl) ?_
    refine x_get (ref := "NoteHouseModel") F hP kI0 rfl (fun _ h => List.mem_cons_of_mem _ (List.mem_append_right _ (h))) 20 (Nat.le_of_ble_eq_true rfl) (List.mem_cons_of_mem _ (List.mem_append_left _ (List.mem_of_getElem? (i := 1) rfl))) rfl rfl dX11_lose_15 ?_
    refine lv_iload_n hx hb dX11_lose_18 rfl (lv_at hl 1 rfl) ?_
    refine x_zald F hP kI16 (vp_in_nI (n := kk) (N := 60) (by omega) (by decide)) dX11_lose_19 ?_
    refine lv_if_ne (tgt := 36) hx hb dX11_lose_20 (by decide) (fun c_5 => ?_) (fun c_5 => ?_)
    · refine lv_iconst (v := 0) hx hb dX11_lose_36 (by decide) ?_
      exact y_ir K hP hD hS (Nat.le_of_ble_eq_true rfl) (Nat.le_of_ble_eq_true rfl) (ty := .boolean) rfl rfl dX11_lose_37 (⟨⟨_, rfl⟩, ⟨wd_kp.rf, hIM0⟩⟩)
    · refine lv_aload_n hx hb dX11_lose_23 rfl (lv_at hl 0 rfl) ?_
      refine x_get (ref := "NoteHouseModel") F hP kI0 rfl (fun _ h => List.mem_cons_of_mem _ (List.mem_append_right _ (h))) 19 (Nat.le_of_ble_eq_true rfl) (List.mem_cons_of_mem _ (List.mem_append_left _ (List.mem_of_getElem? (i := 2) rfl))) rfl rfl dX11_lose_24 ?_
      refine lv_iload_n hx hb dX11_lose_27 rfl (lv_at hl 1 rfl) ?_
      refine x_iald F hP kI15 (vp_in_nI (n := kk) (N := 60) (by omega) (by decide)) dX11_lose_28 ?_
      refine lv_aload_n hx hb dX11_lose_29 rfl (lv_at hl 0 rfl) ?_
      refine x_get (ref := "NoteHouseModel") F hP kI0 rfl (fun _ h => List.mem_cons_of_mem _ (List.mem_append_right _ (h))) 1 (Nat.le_of_ble_eq_true rfl) (List.mem_cons_of_mem _ (List.mem_append_left _ (List.mem_of_getElem? (i := 3) rfl))) rfl rfl dX11_lose_30 ?_
      refine lv_icmp_gt (tgt := 38) hx hb dX11_lose_33 (by decide) (fun c_6 => ?_) (fun c_6 => ?_)
      · refine lv_aload_n hx hb dX11_lose_38 rfl (lv_at hl 0 rfl) ?_
        refine x_get (ref := "NoteHouseModel") F hP kI0 rfl (fun _ h => List.mem_cons_of_mem _ (List.mem_append_right _ (h))) 20 (Nat.le_of_ble_eq_true rfl) (List.mem_cons_of_mem _ (List.mem_append_left _ (List.mem_of_getElem? (i := 1) rfl))) rfl rfl dX11_lose_39 ?_
        refine lv_iload_n hx hb dX11_lose_42 rfl (lv_at hl 1 rfl) ?_
        refine lv_iconst (v := 1) hx hb dX11_lose_43 (by decide) ?_
        refine y_zast F hP hD hS kI16 (vp_in_nI (n := kk) (N := 60) (by omega) (by decide)) dX11_lose_44 (fun w7 ew8 H locs hP hD hS => ?_)
        have k9 := wd_at.pt ew8 kI0 (tg_ne tI0 tI16 (by decide))
        have k10 := wd_at.pt ew8 kI1 (tg_ne tI1 tI16 (by decide))
        have k11 := wd_at.pt ew8 kI2 (tg_ne tI2 tI16 (by decide))
        have k12 := wd_at.pt ew8 kI3 (tg_ne tI3 tI16 (by decide))
        have k13 := wd_at.pt ew8 kI4 (tg_ne tI4 tI16 (by decide))
        have k14 := wd_at.pt ew8 kI5 (tg_ne tI5 tI16 (by decide))
        have k15 := wd_at.pt ew8 kI6 (tg_ne tI6 tI16 (by decide))
        have k16 := wd_at.pt ew8 kI7 (tg_ne tI7 tI16 (by decide))
        have k17 := wd_at.pt ew8 kI8 (tg_ne tI8 tI16 (by decide))
        have k18 := wd_at.pt ew8 kI9 (tg_ne tI9 tI16 (by decide))
        have k19 := wd_at.pt ew8 kI10 (tg_ne tI10 tI16 (by decide))
        have k20 := wd_at.pt ew8 kI11 (tg_ne tI11 tI16 (by decide))
        have k21 := wd_at.pt ew8 kI12 (tg_ne tI12 tI16 (by decide))
        have k22 := wd_at.pt ew8 kI13 (tg_ne tI13 tI16 (by decide))
        have k23 := wd_at.pt ew8 kI14 (tg_ne tI14 tI16 (by decide))
        have k24 := wd_at.pt ew8 kI15 (tg_ne tI15 tI16 (by decide))
        have k25 : wd_at w7 m20 (.inl (cy 4, 60, .inl (upd f20 (nI kk).toNatClampNeg (vp_nar .boolean 1)))) := wd_at.ps ew8 kI16
        have k26 := wd_at.pt ew8 kI17 (tg_ne tI17 tI16 (by decide))
        have k27 := wd_at.pt ew8 kI18 (tg_ne tI18 tI16 (by decide))
        have k28 := wd_at.pt ew8 kI19 (tg_ne tI19 tI16 (by decide))
        have k29 := wd_at.pt ew8 kI20 (tg_ne tI20 tI16 (by decide))
        have k30 := wd_at.pt ew8 kI21 (tg_ne tI21 tI16 (by decide))
        have k31 := wd_at.pt ew8 kI22 (tg_ne tI22 tI16 (by decide))
        have k32 := wd_at.pt ew8 kI23 (tg_ne tI23 tI16 (by decide))
        have k33 := wd_at.pt ew8 kI24 (tg_ne tI24 tI16 (by decide))
        have k34 := wd_at.pt ew8 kI25 (tg_ne tI25 tI16 (by decide))
        have k35 := wd_at.pt ew8 kI26 (tg_ne tI26 tI16 (by decide))
        have k36 := wd_at.pt ew8 kI27 (tg_ne tI27 tI16 (by decide))
        have k37 := wd_at.pt ew8 kI28 (tg_ne tI28 tI16 (by decide))
        have k38 := wd_at.pt ew8 kI29 (tg_ne tI29 tI16 (by decide))
        have k39 := wd_at.pt ew8 kI30 (tg_ne tI30 tI16 (by decide))
        have k40 := wd_at.pt ew8 kI31 (tg_ne tI31 tI16 (by decide))
        have k41 := wd_at.pt ew8 kI32 (tg_ne tI32 tI16 (by decide))
        have k42 := wd_at.pt ew8 kI33 (tg_ne tI33 tI16 (by decide))
        have k43 := wd_at.pt ew8 kI34 (tg_ne tI34 tI16 (by decide))
        have k44 := wd_at.pt ew8 kI35 (tg_ne tI35 tI16 (by decide))
        have k45 := wd_at.pt ew8 kI36 (tg_ne tI36 tI16 (by decide))
        have k46 := wd_at.pt ew8 kI37 (tg_ne tI37 tI16 (by decide))
        have k47 := wd_at.pt ew8 kI38 (tg_ne tI38 tI16 (by decide))
        have k48 := wd_at.pt ew8 kI39 (tg_ne tI39 tI16 (by decide))
        have k49 := wd_at.pt ew8 kI40 (tg_ne tI40 tI16 (by decide))
        have k50 := wd_at.pt ew8 kI41 (tg_ne tI41 tI16 (by decide))
        have k51 := wd_at.pt ew8 kI42 (tg_ne tI42 tI16 (by decide))
        have k52 := wd_at.pt ew8 kI43 (tg_ne tI43 tI16 (by decide))
        have k53 := wd_at.pt ew8 kI44 (tg_ne tI44 tI16 (by decide))
        have k54 := wd_at.pt ew8 kI45 (tg_ne tI45 tI16 (by decide))
        have k55 := wd_at.pt ew8 kI46 (tg_ne tI46 tI16 (by decide))
        have k56 := wd_at.pt ew8 kI47 (tg_ne tI47 tI16 (by decide))
        have k57 := wd_at.pt ew8 kI48 (tg_ne tI48 tI16 (by decide))
        have fm58 : ∀ k9, k9 < 12 → qp k9 = some (pr k9) ∧ wd_at w7 (pr k9) (.inl (cy 2, 12, .inl (fp k9))) ∧ tg (pr k9) = 11000 + k9 := fun k9 hi9 => ⟨(hFPR k9 hi9).1, wd_at.pt ew8 (hFPR k9 hi9).2.1 (tg_ne (hFPR k9 hi9).2.2 tI16 (tnA (show 10120 < 11000 by decide))), (hFPR k9 hi9).2.2⟩
        have fm59 : ∀ k9, k9 < 12 → qw k9 = some (wr k9) ∧ wd_at w7 (wr k9) (.inl (cy 2, 12, .inl (fw k9))) ∧ tg (wr k9) = 12000 + k9 := fun k9 hi9 => ⟨(hFWR k9 hi9).1, wd_at.pt ew8 (hFWR k9 hi9).2.1 (tg_ne (hFWR k9 hi9).2.2 tI16 (tnA (show 10120 < 12000 by decide))), (hFWR k9 hi9).2.2⟩
        have fm60 : ∀ k9, k9 < 60 → qs k9 = some (sr k9) ∧ wd_at w7 (sr k9) (.inl (cy 2, 12, .inl (fs k9))) ∧ tg (sr k9) = 13000 + k9 := fun k9 hi9 => ⟨(hFSR k9 hi9).1, wd_at.pt ew8 (hFSR k9 hi9).2.1 (tg_ne (hFSR k9 hi9).2.2 tI16 (tnA (show 10120 < 13000 by decide))), (hFSR k9 hi9).2.2⟩
        have kp61 := kp0.put ew8 (tgT tI16 (by decide))
        refine lv_iconst (v := 1) hx hb dX11_lose_45 (by decide) ?_
        have hX62 : IM cy tg y td pc ac sc ln se plv w7 := IM.mk m2 m3 m4 m5 m6 m8 m9 m10 m11 m12 m13 m14 m17 m18 m19 m20 m21 m22 m23 m24 m29 m30 m31 m32 m33 m34 m35 m36 m37 m39 m40 m41 m42 m43 m44 m45 m46 m47 m48 m49 m51 m52 m53 m54 m56 m57 m58 m59 sh gf v0 v26 v27 v28 v50 f4 f5 f6 f8 f9 f10 f11 f12 f13 f14 f17 f18 f19 (upd f20 (nI kk).toNatClampNeg (vp_nar .boolean 1)) f21 f22 f24 f29 f30 f31 f32 f33 f34 f35 f36 f37 f39 f40 f41 f42 f43 f44 f45 f46 f47 f48 f49 f51 f52 f53 f54 f56 f57 f58 f59 qp pr fp qw wr fw qs sr fs (by omega) (by omega) (by omega) (by omega) (by omega) (by omega) hrl hc ht hp hso hlo k9 tI0 k10 tI1 k11 tI2 k12 tI3 k13 tI4 k14 tI5 k15 tI6 k16 tI7 k17 tI8 k18 tI9 k19 tI10 k20 tI11 k21 tI12 k22 tI13 k23 tI14 k24 tI15 k25 tI16 k26 tI17 k27 tI18 k28 tI19 k29 tI20 k30 tI21 k31 tI22 k32 tI23 k33 tI24 k34 tI25 k35 tI26 k36 tI27 k37 tI28 k38 tI29 k39 tI30 k40 tI31 k41 tI32 k42 tI33 k43 tI34 k44 tI35 k45 tI36 k46 tI37 k47 tI38 k48 tI39 k49 tI40 k50 tI41 k51 tI42 k52 tI43 k53 tI44 k54 tI45 k55 tI46 k56 tI47 k57 tI48 fm58 fm59 fm60
        exact y_ir K hP hD hS (Nat.le_of_ble_eq_true rfl) (Nat.le_of_ble_eq_true rfl) (ty := .boolean) rfl rfl dX11_lose_46 (⟨⟨_, rfl⟩, ⟨kp61, hX62⟩⟩)
      · refine lv_iconst (v := 0) hx hb dX11_lose_36 (by decide) ?_
        exact y_ir K hP hD hS (Nat.le_of_ble_eq_true rfl) (Nat.le_of_ble_eq_true rfl) (ty := .boolean) rfl rfl dX11_lose_37 (⟨⟨_, rfl⟩, ⟨wd_kp.rf, hIM0⟩⟩)
set_option maxHeartbeats 4000000 in
set_option maxRecDepth 100000 in
theorem M_stop (l : Launch) (D : va_G) (cy : Nat → ClassId) (sk sv : Nat → Nat) (w : Wd) (tg : Nat → Nat) (y : Nat) (td : Int32) (pc ac sc ln : Nat) (se plv : Nat → Int32) (x1 x2 x3 : Int32) (hIM0 : IM cy tg y td pc ac sc ln se plv w) : Ct l D cy sk sv yX11_stop wsX11_stop ({ frames := 1, cells := 0, slots := 0, locals := 26 }) [.ref y, .int x1, .int x2, .int x3] w (fun v w1 => v = some (.int (stpA plv pc sc x1 x2 x3)) ∧ MP cy tg y td pc ac (stpC plv pc sc x1 x2 x3) ln se plv w w1) := by
  refine Ct.by (cc := cX11_stop) (maxL := 5) (ret := (some .int)) (by decide +kernel) rfl (Nat.le_of_ble_eq_true rfl) ?_
  intro p e s m args below meth c A Q F hnm K ls hl
  have F : wd_Fx p s m args meth c cX11_stop 5 wsX11_stop RX11 D cy sk sv A := F
  have hl : lv_has ls 5 [(0, .ref y), (1, .int x1), (2, .int x2), (3, .int x3)] := hl
  have hx := F.1.1
  have hb := F.1.2.1
  have hown := F.1.2.2.2.1
  have hts := F.1.2.2.2.2
  intro H locs hP hD hS
  have kp0 : wd_kp (fun b => 10000 ≤ tg b) w w := wd_kp.rf
  refine hIM0 _ ?_
  intro m2 m3 m4 m5 m6 m8 m9 m10 m11 m12 m13 m14 m17 m18 m19 m20 m21 m22 m23 m24 m29 m30 m31 m32 m33 m34 m35 m36 m37 m39 m40 m41 m42 m43 m44 m45 m46 m47 m48 m49 m51 m52 m53 m54 m56 m57 m58 m59 sh gf v0 v26 v27 v28 v50 f4 f5 f6 f8 f9 f10 f11 f12 f13 f14 f17 f18 f19 f20 f21 f22 f24 f29 f30 f31 f32 f33 f34 f35 f36 f37 f39 f40 f41 f42 f43 f44 f45 f46 f47 f48 f49 f51 f52 f53 f54 f56 f57 f58 f59 qp pr fp qw wr fw qs sr fs hp90 hp91 hp92 hp93 hp94 hp95 hrl hc ht hp hso hlo kI0 tI0 kI1 tI1 kI2 tI2 kI3 tI3 kI4 tI4 kI5 tI5 kI6 tI6 kI7 tI7 kI8 tI8 kI9 tI9 kI10 tI10 kI11 tI11 kI12 tI12 kI13 tI13 kI14 tI14 kI15 tI15 kI16 tI16 kI17 tI17 kI18 tI18 kI19 tI19 kI20 tI20 kI21 tI21 kI22 tI22 kI23 tI23 kI24 tI24 kI25 tI25 kI26 tI26 kI27 tI27 kI28 tI28 kI29 tI29 kI30 tI30 kI31 tI31 kI32 tI32 kI33 tI33 kI34 tI34 kI35 tI35 kI36 tI36 kI37 tI37 kI38 tI38 kI39 tI39 kI40 tI40 kI41 tI41 kI42 tI42 kI43 tI43 kI44 tI44 kI45 tI45 kI46 tI46 kI47 tI47 kI48 tI48 hFPR hFWR hFSR
  refine lv_aload_n hx hb dX11_stop_0 rfl (lv_at hl 0 rfl) ?_
  refine x_get (ref := "NoteHouseModel") F hP kI0 rfl (fun _ h => List.mem_cons_of_mem _ (List.mem_append_right _ (h))) 16 (Nat.le_of_ble_eq_true rfl) (List.mem_cons_of_mem _ (List.mem_append_left _ (List.mem_of_getElem? (i := 0) rfl))) rfl rfl dX11_stop_1 ?_
  refine lv_bipush (v := 60) hx hb dX11_stop_4 (by decide) ?_
  refine lv_icmp_eq (tgt := 51) hx hb dX11_stop_6 (by decide) (fun c_1 => ?_) (fun c_1 => ?_)
  · have h60 : (60 : Int32) ≤ nI sc := by rw [c_1]; exact Int32.le_refl _
    refine lv_iconst (v := (-1)) hx hb dX11_stop_51 (by decide) ?_
    exact y_ir K hP hD hS (Nat.le_of_ble_eq_true rfl) (Nat.le_of_ble_eq_true rfl) (ty := .int) rfl rfl dX11_stop_52 (by refine ⟨(congrArg (fun z => some (Value.int z)) (show (-1) = stpA plv pc sc x1 x2 x3 from by simp [stpA, stpC, c_1, h60])), ?_⟩; rw [show stpC plv pc sc x1 x2 x3 = sc from by simp [stpA, stpC, c_1, h60]]; exact ⟨wd_kp.rf, hIM0⟩)
  · have hb_sc : sc < 60 := by have h9 : ¬ sc = 60 := fun q => c_1 (by rw [q]; rfl); omega
    have h60 : ¬ (60 : Int32) ≤ nI sc := fun q => absurd ((nI_leI (a := 60) (b := sc) (by omega) (by omega)).mp q) (by omega)
    refine lv_iload_n hx hb dX11_stop_9 rfl (lv_at hl 1 rfl) ?_
    refine lv_iconst (v := 0) hx hb dX11_stop_10 (by decide) ?_
    refine lv_aload_n hx hb dX11_stop_11 rfl (lv_at hl 0 rfl) ?_
    refine x_get (ref := "NoteHouseModel") F hP kI0 rfl (fun _ h => List.mem_cons_of_mem _ (List.mem_append_right _ (h))) 7 (Nat.le_of_ble_eq_true rfl) (List.mem_cons_of_mem _ (List.mem_append_left _ (List.mem_of_getElem? (i := 1) rfl))) rfl rfl dX11_stop_12 ?_
    refine lv_iconst (v := 1) hx hb dX11_stop_15 (by decide) ?_
    refine lv_isub hx hb dX11_stop_16 ?_
    refine x_callS (n := 3) (As := [.int x1, .int 0, .int ((nI pc) - 1)]) (rest := []) F hP hD hS (g_in l D cy sk sv w x1 0 ((nI pc) - 1)) gX11_stop_X11_in rfl (by decide +kernel) ⟨(Nat.le_of_ble_eq_true rfl), (Nat.le_of_ble_eq_true rfl)⟩ rfl hl.1 (Nat.le_of_ble_eq_true rfl) dX11_stop_17 rfl ⟨(Nat.le_of_ble_eq_true rfl), (Nat.le_of_ble_eq_true rfl)⟩ (fun v3 w4 hp2 H locs hP hD hS => ?_)
    obtain ⟨rfl, rfl⟩ := hp2
    refine W.eq (g2 := F0 m 20 ls [.int (wi x1 0 ((nI pc) - 1))]) rfl (W.widen (k := 0) (n := 0) (Nat.le_of_ble_eq_true rfl) (Nat.le_of_ble_eq_true rfl) ?_)
    refine lv_if_eq (tgt := 51) hx hb dX11_stop_20 (by decide) (fun c_5 => ?_) (fun c_5 => ?_)
    · refine lv_iconst (v := (-1)) hx hb dX11_stop_51 (by decide) ?_
      exact y_ir K hP hD hS (Nat.le_of_ble_eq_true rfl) (Nat.le_of_ble_eq_true rfl) (ty := .int) rfl rfl dX11_stop_52 (by refine ⟨(congrArg (fun z => some (Value.int z)) (show (-1) = stpA plv pc sc x1 x2 x3 from by simp [stpA, stpC, c_1, h60, c_5])), ?_⟩; rw [show stpC plv pc sc x1 x2 x3 = sc from by simp [stpA, stpC, c_1, h60, c_5]]; exact ⟨wd_kp.rf, hIM0⟩)
    · obtain ⟨pp, hpp, rfl⟩ := pb_i (by omega) c_5
      have clpp : (nI pp).toNatClampNeg = pp := nI_clamp (by omega)
      refine lv_iload_n hx hb dX11_stop_23 rfl (lv_at hl 3 rfl) ?_
      refine x_callS (n := 1) (As := [.int x3]) (rest := []) F hP hD hS (g_mTown l D cy sk sv w x3) gX11_stop_X11_isTown rfl (by decide +kernel) ⟨(Nat.le_of_ble_eq_true rfl), (Nat.le_of_ble_eq_true rfl)⟩ rfl hl.1 (Nat.le_of_ble_eq_true rfl) dX11_stop_24 rfl ⟨(Nat.le_of_ble_eq_true rfl), (Nat.le_of_ble_eq_true rfl)⟩ (fun v7 w8 hp6 H locs hP hD hS => ?_)
      obtain ⟨rfl, rfl⟩ := hp6
      refine W.eq (g2 := F0 m 27 ls [.int (wi x3 0 11)]) rfl (W.widen (k := 0) (n := 0) (Nat.le_of_ble_eq_true rfl) (Nat.le_of_ble_eq_true rfl) ?_)
      refine lv_if_eq (tgt := 51) hx hb dX11_stop_27 (by decide) (fun c_9 => ?_) (fun c_9 => ?_)
      · refine lv_iconst (v := (-1)) hx hb dX11_stop_51 (by decide) ?_
        exact y_ir K hP hD hS (Nat.le_of_ble_eq_true rfl) (Nat.le_of_ble_eq_true rfl) (ty := .int) rfl rfl dX11_stop_52 (by refine ⟨(congrArg (fun z => some (Value.int z)) (show (-1) = stpA plv pc sc (nI pp) x2 x3 from by simp [stpA, stpC, c_1, h60, c_5, clpp, c_9])), ?_⟩; rw [show stpC plv pc sc (nI pp) x2 x3 = sc from by simp [stpA, stpC, c_1, h60, c_5, clpp, c_9]]; exact ⟨wd_kp.rf, hIM0⟩)
      · obtain ⟨tw, htw, rfl, cltw⟩ := wi_t c_9
        refine lv_iload_n hx hb dX11_stop_30 rfl (lv_at hl 2 rfl) ?_
        refine lv_iconst (v := (-1)) hx hb dX11_stop_31 (by decide) ?_
        refine lv_icmp_eq (tgt := 53) hx hb dX11_stop_32 (by decide) (fun c_10 => ?_) (fun c_10 => ?_)
        · refine lv_aload_n hx hb dX11_stop_53 rfl (lv_at hl 0 rfl) ?_
          refine lv_iload_n hx hb dX11_stop_54 rfl (lv_at hl 3 rfl) ?_
          refine lv_iconst (v := 1) hx hb dX11_stop_55 (by decide) ?_
          refine x_callV (n := 2) (As := [.int (nI tw), .int 1]) (rest := []) F hP hD hS (m_sends l D cy sk sv w tg y m2 m3 m4 m5 m6 m8 m9 m10 m11 m12 m13 m14 m17 m18 m19 m20 m21 m22 m23 m24 m29 m30 m31 m32 m33 m34 m35 m36 m37 m39 m40 m41 m42 m43 m44 m45 m46 m47 m48 m49 m51 m52 m53 m54 m56 m57 m58 m59 pc ac sc ln sh gf v0 td v26 v27 v28 v50 f6 qp pr fp qw wr fw (nI tw) 1 kI0 kI5 kI1 kI2 hFPR hFWR (fun b => b = m6) rfl tI0 tI5 tI1 tI2) gX11_stop_X11_sends rfl rfl (by decide +kernel) ⟨(Nat.le_of_ble_eq_true rfl), (Nat.le_of_ble_eq_true rfl)⟩ rfl hl.1 (Nat.le_of_ble_eq_true rfl) kI0 rfl dX11_stop_56 rfl ⟨(Nat.le_of_ble_eq_true rfl), (Nat.le_of_ble_eq_true rfl)⟩ (fun v12 w13 hp11 H locs hP hD hS => ?_)
          obtain ⟨gx14, rfl, kq16, k15⟩ := hp11
          have k17 := kq16.2 _ _ kI0 (tg_ne tI0 tI5 (by decide))
          have k18 := kq16.2 _ _ kI1 (tg_ne tI1 tI5 (by decide))
          have k19 := kq16.2 _ _ kI2 (tg_ne tI2 tI5 (by decide))
          have k20 := kq16.2 _ _ kI3 (tg_ne tI3 tI5 (by decide))
          have k21 := kq16.2 _ _ kI4 (tg_ne tI4 tI5 (by decide))
          have k22 := kq16.2 _ _ kI6 (tg_ne tI6 tI5 (by decide))
          have k23 := kq16.2 _ _ kI7 (tg_ne tI7 tI5 (by decide))
          have k24 := kq16.2 _ _ kI8 (tg_ne tI8 tI5 (by decide))
          have k25 := kq16.2 _ _ kI9 (tg_ne tI9 tI5 (by decide))
          have k26 := kq16.2 _ _ kI10 (tg_ne tI10 tI5 (by decide))
          have k27 := kq16.2 _ _ kI11 (tg_ne tI11 tI5 (by decide))
          have k28 := kq16.2 _ _ kI12 (tg_ne tI12 tI5 (by decide))
          have k29 := kq16.2 _ _ kI13 (tg_ne tI13 tI5 (by decide))
          have k30 := kq16.2 _ _ kI14 (tg_ne tI14 tI5 (by decide))
          have k31 := kq16.2 _ _ kI15 (tg_ne tI15 tI5 (by decide))
          have k32 := kq16.2 _ _ kI16 (tg_ne tI16 tI5 (by decide))
          have k33 := kq16.2 _ _ kI17 (tg_ne tI17 tI5 (by decide))
          have k34 := kq16.2 _ _ kI18 (tg_ne tI18 tI5 (by decide))
          have k35 := kq16.2 _ _ kI19 (tg_ne tI19 tI5 (by decide))
          have k36 := kq16.2 _ _ kI20 (tg_ne tI20 tI5 (by decide))
          have k37 := kq16.2 _ _ kI21 (tg_ne tI21 tI5 (by decide))
          have k38 := kq16.2 _ _ kI22 (tg_ne tI22 tI5 (by decide))
          have k39 := kq16.2 _ _ kI23 (tg_ne tI23 tI5 (by decide))
          have k40 := kq16.2 _ _ kI24 (tg_ne tI24 tI5 (by decide))
          have k41 := kq16.2 _ _ kI25 (tg_ne tI25 tI5 (by decide))
          have k42 := kq16.2 _ _ kI26 (tg_ne tI26 tI5 (by decide))
          have k43 := kq16.2 _ _ kI27 (tg_ne tI27 tI5 (by decide))
          have k44 := kq16.2 _ _ kI28 (tg_ne tI28 tI5 (by decide))
          have k45 := kq16.2 _ _ kI29 (tg_ne tI29 tI5 (by decide))
          have k46 := kq16.2 _ _ kI30 (tg_ne tI30 tI5 (by decide))
          have k47 := kq16.2 _ _ kI31 (tg_ne tI31 tI5 (by decide))
          have k48 := kq16.2 _ _ kI32 (tg_ne tI32 tI5 (by decide))
          have k49 := kq16.2 _ _ kI33 (tg_ne tI33 tI5 (by decide))
          have k50 := kq16.2 _ _ kI34 (tg_ne tI34 tI5 (by decide))
          have k51 := kq16.2 _ _ kI35 (tg_ne tI35 tI5 (by decide))
          have k52 := kq16.2 _ _ kI36 (tg_ne tI36 tI5 (by decide))
          have k53 := kq16.2 _ _ kI37 (tg_ne tI37 tI5 (by decide))
          have k54 := kq16.2 _ _ kI38 (tg_ne tI38 tI5 (by decide))
          have k55 := kq16.2 _ _ kI39 (tg_ne tI39 tI5 (by decide))
          have k56 := kq16.2 _ _ kI40 (tg_ne tI40 tI5 (by decide))
          have k57 := kq16.2 _ _ kI41 (tg_ne tI41 tI5 (by decide))
          have k58 := kq16.2 _ _ kI42 (tg_ne tI42 tI5 (by decide))
          have k59 := kq16.2 _ _ kI43 (tg_ne tI43 tI5 (by decide))
          have k60 := kq16.2 _ _ kI44 (tg_ne tI44 tI5 (by decide))
          have k61 := kq16.2 _ _ kI45 (tg_ne tI45 tI5 (by decide))
          have k62 := kq16.2 _ _ kI46 (tg_ne tI46 tI5 (by decide))
          have k63 := kq16.2 _ _ kI47 (tg_ne tI47 tI5 (by decide))
          have k64 := kq16.2 _ _ kI48 (tg_ne tI48 tI5 (by decide))
          have fm65 : ∀ k9, k9 < 12 → qp k9 = some (pr k9) ∧ wd_at w13 (pr k9) (.inl (cy 2, 12, .inl (fp k9))) ∧ tg (pr k9) = 11000 + k9 := fun k9 hi9 => ⟨(hFPR k9 hi9).1, kq16.2 _ _ (hFPR k9 hi9).2.1 (tg_ne (hFPR k9 hi9).2.2 tI5 (tnA (show 10106 < 11000 by decide))), (hFPR k9 hi9).2.2⟩
          have fm66 : ∀ k9, k9 < 12 → qw k9 = some (wr k9) ∧ wd_at w13 (wr k9) (.inl (cy 2, 12, .inl (fw k9))) ∧ tg (wr k9) = 12000 + k9 := fun k9 hi9 => ⟨(hFWR k9 hi9).1, kq16.2 _ _ (hFWR k9 hi9).2.1 (tg_ne (hFWR k9 hi9).2.2 tI5 (tnA (show 10106 < 12000 by decide))), (hFWR k9 hi9).2.2⟩
          have fm67 : ∀ k9, k9 < 60 → qs k9 = some (sr k9) ∧ wd_at w13 (sr k9) (.inl (cy 2, 12, .inl (fs k9))) ∧ tg (sr k9) = 13000 + k9 := fun k9 hi9 => ⟨(hFSR k9 hi9).1, kq16.2 _ _ (hFSR k9 hi9).2.1 (tg_ne (hFSR k9 hi9).2.2 tI5 (tnA (show 10106 < 13000 by decide))), (hFSR k9 hi9).2.2⟩
          have kp68 := kp0.tr kq16 (fun b9 hm q9 => (fun q9 => q9 ▸ (tgT tI5 (by decide))) q9)
          refine W.eq (g2 := F0 m 59 ls []) rfl (W.widen (k := 0) (n := 0) (Nat.le_of_ble_eq_true rfl) (Nat.le_of_ble_eq_true rfl) ?_)
          refine lv_aload_n hx hb dX11_stop_59 rfl (lv_at hl 0 rfl) ?_
          refine x_get (ref := "NoteHouseModel") F hP k17 rfl (fun _ h => List.mem_cons_of_mem _ (List.mem_append_right _ (h))) 21 (Nat.le_of_ble_eq_true rfl) (List.mem_cons_of_mem _ (List.mem_append_left _ (List.mem_of_getElem? (i := 3) rfl))) rfl rfl dX11_stop_60 ?_
          refine lv_aload_n hx hb dX11_stop_63 rfl (lv_at hl 0 rfl) ?_
          refine x_get (ref := "NoteHouseModel") F hP k17 rfl (fun _ h => List.mem_cons_of_mem _ (List.mem_append_right _ (h))) 16 (Nat.le_of_ble_eq_true rfl) (List.mem_cons_of_mem _ (List.mem_append_left _ (List.mem_of_getElem? (i := 0) rfl))) rfl rfl dX11_stop_64 ?_
          refine lv_iload_n hx hb dX11_stop_67 rfl (lv_at hl 1 rfl) ?_
          refine y_iast F hP hD hS k33 (vp_in_nI (n := sc) (N := 60) (by omega) (by decide)) dX11_stop_68 (fun w69 ew70 H locs hP hD hS => ?_)
          have k71 := wd_at.pt ew70 k17 (tg_ne tI0 tI17 (by decide))
          have k72 := wd_at.pt ew70 k18 (tg_ne tI1 tI17 (by decide))
          have k73 := wd_at.pt ew70 k19 (tg_ne tI2 tI17 (by decide))
          have k74 := wd_at.pt ew70 k20 (tg_ne tI3 tI17 (by decide))
          have k75 := wd_at.pt ew70 k21 (tg_ne tI4 tI17 (by decide))
          have k76 := wd_at.pt ew70 k15 (tg_ne tI5 tI17 (by decide))
          have k77 := wd_at.pt ew70 k22 (tg_ne tI6 tI17 (by decide))
          have k78 := wd_at.pt ew70 k23 (tg_ne tI7 tI17 (by decide))
          have k79 := wd_at.pt ew70 k24 (tg_ne tI8 tI17 (by decide))
          have k80 := wd_at.pt ew70 k25 (tg_ne tI9 tI17 (by decide))
          have k81 := wd_at.pt ew70 k26 (tg_ne tI10 tI17 (by decide))
          have k82 := wd_at.pt ew70 k27 (tg_ne tI11 tI17 (by decide))
          have k83 := wd_at.pt ew70 k28 (tg_ne tI12 tI17 (by decide))
          have k84 := wd_at.pt ew70 k29 (tg_ne tI13 tI17 (by decide))
          have k85 := wd_at.pt ew70 k30 (tg_ne tI14 tI17 (by decide))
          have k86 := wd_at.pt ew70 k31 (tg_ne tI15 tI17 (by decide))
          have k87 := wd_at.pt ew70 k32 (tg_ne tI16 tI17 (by decide))
          have k88 : wd_at w69 m21 (.inl (cy 2, 60, .inl (upd f21 (nI sc).toNatClampNeg (nI pp)))) := wd_at.ps ew70 k33
          have k89 := wd_at.pt ew70 k34 (tg_ne tI18 tI17 (by decide))
          have k90 := wd_at.pt ew70 k35 (tg_ne tI19 tI17 (by decide))
          have k91 := wd_at.pt ew70 k36 (tg_ne tI20 tI17 (by decide))
          have k92 := wd_at.pt ew70 k37 (tg_ne tI21 tI17 (by decide))
          have k93 := wd_at.pt ew70 k38 (tg_ne tI22 tI17 (by decide))
          have k94 := wd_at.pt ew70 k39 (tg_ne tI23 tI17 (by decide))
          have k95 := wd_at.pt ew70 k40 (tg_ne tI24 tI17 (by decide))
          have k96 := wd_at.pt ew70 k41 (tg_ne tI25 tI17 (by decide))
          have k97 := wd_at.pt ew70 k42 (tg_ne tI26 tI17 (by decide))
          have k98 := wd_at.pt ew70 k43 (tg_ne tI27 tI17 (by decide))
          have k99 := wd_at.pt ew70 k44 (tg_ne tI28 tI17 (by decide))
          have k100 := wd_at.pt ew70 k45 (tg_ne tI29 tI17 (by decide))
          have k101 := wd_at.pt ew70 k46 (tg_ne tI30 tI17 (by decide))
          have k102 := wd_at.pt ew70 k47 (tg_ne tI31 tI17 (by decide))
          have k103 := wd_at.pt ew70 k48 (tg_ne tI32 tI17 (by decide))
          have k104 := wd_at.pt ew70 k49 (tg_ne tI33 tI17 (by decide))
          have k105 := wd_at.pt ew70 k50 (tg_ne tI34 tI17 (by decide))
          have k106 := wd_at.pt ew70 k51 (tg_ne tI35 tI17 (by decide))
          have k107 := wd_at.pt ew70 k52 (tg_ne tI36 tI17 (by decide))
          have k108 := wd_at.pt ew70 k53 (tg_ne tI37 tI17 (by decide))
          have k109 := wd_at.pt ew70 k54 (tg_ne tI38 tI17 (by decide))
          have k110 := wd_at.pt ew70 k55 (tg_ne tI39 tI17 (by decide))
          have k111 := wd_at.pt ew70 k56 (tg_ne tI40 tI17 (by decide))
          have k112 := wd_at.pt ew70 k57 (tg_ne tI41 tI17 (by decide))
          have k113 := wd_at.pt ew70 k58 (tg_ne tI42 tI17 (by decide))
          have k114 := wd_at.pt ew70 k59 (tg_ne tI43 tI17 (by decide))
          have k115 := wd_at.pt ew70 k60 (tg_ne tI44 tI17 (by decide))
          have k116 := wd_at.pt ew70 k61 (tg_ne tI45 tI17 (by decide))
          have k117 := wd_at.pt ew70 k62 (tg_ne tI46 tI17 (by decide))
          have k118 := wd_at.pt ew70 k63 (tg_ne tI47 tI17 (by decide))
          have k119 := wd_at.pt ew70 k64 (tg_ne tI48 tI17 (by decide))
          have fm120 : ∀ k9, k9 < 12 → qp k9 = some (pr k9) ∧ wd_at w69 (pr k9) (.inl (cy 2, 12, .inl (fp k9))) ∧ tg (pr k9) = 11000 + k9 := fun k9 hi9 => ⟨(fm65 k9 hi9).1, wd_at.pt ew70 (fm65 k9 hi9).2.1 (tg_ne (fm65 k9 hi9).2.2 tI17 (tnA (show 10121 < 11000 by decide))), (fm65 k9 hi9).2.2⟩
          have fm121 : ∀ k9, k9 < 12 → qw k9 = some (wr k9) ∧ wd_at w69 (wr k9) (.inl (cy 2, 12, .inl (fw k9))) ∧ tg (wr k9) = 12000 + k9 := fun k9 hi9 => ⟨(fm66 k9 hi9).1, wd_at.pt ew70 (fm66 k9 hi9).2.1 (tg_ne (fm66 k9 hi9).2.2 tI17 (tnA (show 10121 < 12000 by decide))), (fm66 k9 hi9).2.2⟩
          have fm122 : ∀ k9, k9 < 60 → qs k9 = some (sr k9) ∧ wd_at w69 (sr k9) (.inl (cy 2, 12, .inl (fs k9))) ∧ tg (sr k9) = 13000 + k9 := fun k9 hi9 => ⟨(fm67 k9 hi9).1, wd_at.pt ew70 (fm67 k9 hi9).2.1 (tg_ne (fm67 k9 hi9).2.2 tI17 (tnA (show 10121 < 13000 by decide))), (fm67 k9 hi9).2.2⟩
          have kp123 := kp68.put ew70 (tgT tI17 (by decide))
          refine lv_aload_n hx hb dX11_stop_69 rfl (lv_at hl 0 rfl) ?_
          refine x_get (ref := "NoteHouseModel") F hP k71 rfl (fun _ h => List.mem_cons_of_mem _ (List.mem_append_right _ (h))) 22 (Nat.le_of_ble_eq_true rfl) (List.mem_cons_of_mem _ (List.mem_append_left _ (List.mem_of_getElem? (i := 4) rfl))) rfl rfl dX11_stop_70 ?_
          refine lv_aload_n hx hb dX11_stop_73 rfl (lv_at hl 0 rfl) ?_
          refine x_get (ref := "NoteHouseModel") F hP k71 rfl (fun _ h => List.mem_cons_of_mem _ (List.mem_append_right _ (h))) 16 (Nat.le_of_ble_eq_true rfl) (List.mem_cons_of_mem _ (List.mem_append_left _ (List.mem_of_getElem? (i := 0) rfl))) rfl rfl dX11_stop_74 ?_
          refine lv_iload_n hx hb dX11_stop_77 rfl (lv_at hl 2 rfl) ?_
          refine y_iast F hP hD hS k89 (vp_in_nI (n := sc) (N := 60) (by omega) (by decide)) dX11_stop_78 (fun w124 ew125 H locs hP hD hS => ?_)
          have k126 := wd_at.pt ew125 k71 (tg_ne tI0 tI18 (by decide))
          have k127 := wd_at.pt ew125 k72 (tg_ne tI1 tI18 (by decide))
          have k128 := wd_at.pt ew125 k73 (tg_ne tI2 tI18 (by decide))
          have k129 := wd_at.pt ew125 k74 (tg_ne tI3 tI18 (by decide))
          have k130 := wd_at.pt ew125 k75 (tg_ne tI4 tI18 (by decide))
          have k131 := wd_at.pt ew125 k76 (tg_ne tI5 tI18 (by decide))
          have k132 := wd_at.pt ew125 k77 (tg_ne tI6 tI18 (by decide))
          have k133 := wd_at.pt ew125 k78 (tg_ne tI7 tI18 (by decide))
          have k134 := wd_at.pt ew125 k79 (tg_ne tI8 tI18 (by decide))
          have k135 := wd_at.pt ew125 k80 (tg_ne tI9 tI18 (by decide))
          have k136 := wd_at.pt ew125 k81 (tg_ne tI10 tI18 (by decide))
          have k137 := wd_at.pt ew125 k82 (tg_ne tI11 tI18 (by decide))
          have k138 := wd_at.pt ew125 k83 (tg_ne tI12 tI18 (by decide))
          have k139 := wd_at.pt ew125 k84 (tg_ne tI13 tI18 (by decide))
          have k140 := wd_at.pt ew125 k85 (tg_ne tI14 tI18 (by decide))
          have k141 := wd_at.pt ew125 k86 (tg_ne tI15 tI18 (by decide))
          have k142 := wd_at.pt ew125 k87 (tg_ne tI16 tI18 (by decide))
          have k143 := wd_at.pt ew125 k88 (tg_ne tI17 tI18 (by decide))
          have k144 : wd_at w124 m22 (.inl (cy 2, 60, .inl (upd f22 (nI sc).toNatClampNeg x2))) := wd_at.ps ew125 k89
          have k145 := wd_at.pt ew125 k90 (tg_ne tI19 tI18 (by decide))
          have k146 := wd_at.pt ew125 k91 (tg_ne tI20 tI18 (by decide))
          have k147 := wd_at.pt ew125 k92 (tg_ne tI21 tI18 (by decide))
          have k148 := wd_at.pt ew125 k93 (tg_ne tI22 tI18 (by decide))
          have k149 := wd_at.pt ew125 k94 (tg_ne tI23 tI18 (by decide))
          have k150 := wd_at.pt ew125 k95 (tg_ne tI24 tI18 (by decide))
          have k151 := wd_at.pt ew125 k96 (tg_ne tI25 tI18 (by decide))
          have k152 := wd_at.pt ew125 k97 (tg_ne tI26 tI18 (by decide))
          have k153 := wd_at.pt ew125 k98 (tg_ne tI27 tI18 (by decide))
          have k154 := wd_at.pt ew125 k99 (tg_ne tI28 tI18 (by decide))
          have k155 := wd_at.pt ew125 k100 (tg_ne tI29 tI18 (by decide))
          have k156 := wd_at.pt ew125 k101 (tg_ne tI30 tI18 (by decide))
          have k157 := wd_at.pt ew125 k102 (tg_ne tI31 tI18 (by decide))
          have k158 := wd_at.pt ew125 k103 (tg_ne tI32 tI18 (by decide))
          have k159 := wd_at.pt ew125 k104 (tg_ne tI33 tI18 (by decide))
          have k160 := wd_at.pt ew125 k105 (tg_ne tI34 tI18 (by decide))
          have k161 := wd_at.pt ew125 k106 (tg_ne tI35 tI18 (by decide))
          have k162 := wd_at.pt ew125 k107 (tg_ne tI36 tI18 (by decide))
          have k163 := wd_at.pt ew125 k108 (tg_ne tI37 tI18 (by decide))
          have k164 := wd_at.pt ew125 k109 (tg_ne tI38 tI18 (by decide))
          have k165 := wd_at.pt ew125 k110 (tg_ne tI39 tI18 (by decide))
          have k166 := wd_at.pt ew125 k111 (tg_ne tI40 tI18 (by decide))
          have k167 := wd_at.pt ew125 k112 (tg_ne tI41 tI18 (by decide))
          have k168 := wd_at.pt ew125 k113 (tg_ne tI42 tI18 (by decide))
          have k169 := wd_at.pt ew125 k114 (tg_ne tI43 tI18 (by decide))
          have k170 := wd_at.pt ew125 k115 (tg_ne tI44 tI18 (by decide))
          have k171 := wd_at.pt ew125 k116 (tg_ne tI45 tI18 (by decide))
          have k172 := wd_at.pt ew125 k117 (tg_ne tI46 tI18 (by decide))
          have k173 := wd_at.pt ew125 k118 (tg_ne tI47 tI18 (by decide))
          have k174 := wd_at.pt ew125 k119 (tg_ne tI48 tI18 (by decide))
          have fm175 : ∀ k9, k9 < 12 → qp k9 = some (pr k9) ∧ wd_at w124 (pr k9) (.inl (cy 2, 12, .inl (fp k9))) ∧ tg (pr k9) = 11000 + k9 := fun k9 hi9 => ⟨(fm120 k9 hi9).1, wd_at.pt ew125 (fm120 k9 hi9).2.1 (tg_ne (fm120 k9 hi9).2.2 tI18 (tnA (show 10122 < 11000 by decide))), (fm120 k9 hi9).2.2⟩
          have fm176 : ∀ k9, k9 < 12 → qw k9 = some (wr k9) ∧ wd_at w124 (wr k9) (.inl (cy 2, 12, .inl (fw k9))) ∧ tg (wr k9) = 12000 + k9 := fun k9 hi9 => ⟨(fm121 k9 hi9).1, wd_at.pt ew125 (fm121 k9 hi9).2.1 (tg_ne (fm121 k9 hi9).2.2 tI18 (tnA (show 10122 < 12000 by decide))), (fm121 k9 hi9).2.2⟩
          have fm177 : ∀ k9, k9 < 60 → qs k9 = some (sr k9) ∧ wd_at w124 (sr k9) (.inl (cy 2, 12, .inl (fs k9))) ∧ tg (sr k9) = 13000 + k9 := fun k9 hi9 => ⟨(fm122 k9 hi9).1, wd_at.pt ew125 (fm122 k9 hi9).2.1 (tg_ne (fm122 k9 hi9).2.2 tI18 (tnA (show 10122 < 13000 by decide))), (fm122 k9 hi9).2.2⟩
          have kp178 := kp123.put ew125 (tgT tI18 (by decide))
          have pr179 := (fm177 sc (by omega)).1
          have k180 := (fm177 sc (by omega)).2.1
          have tz181 := (fm177 sc (by omega)).2.2
          have fm182 : ∀ k9, k9 < 60 ∧ k9 ≠ sc → qs k9 = some (sr k9) ∧ wd_at w124 (sr k9) (.inl (cy 2, 12, .inl (fs k9))) ∧ tg (sr k9) = 13000 + k9 := fun k9 hi8 => fm177 k9 hi8.1
          refine lv_iconst (v := 0) hx hb dX11_stop_79 (by decide) ?_
          refine lv_istore (lv' := [(4, .int 0), (0, .ref y), (1, .int (nI pp)), (2, .int x2), (3, .int (nI tw))]) hx hb dX11_stop_80 hl (by decide) rfl (fun ls hl => ?_)
          have lp82 : ∀ (N : Nat) (t : Nat) (g9 : Nat → Int32) (w183 : Wd), (t + N = 12) → (wd_at w183 y (.inr (11, [.int v0, .int td, .ref m2, .ref m3, .ref m4, .ref m5, .ref m6, .int (nI pc), .ref m8, .ref m9, .ref m10, .ref m11, .ref m12, .ref m13, .ref m14, .int (nI ac), .int (nI sc), .ref m17, .ref m18, .ref m19, .ref m20, .ref m21, .ref m22, .ref m23, .ref m24, .int (nI ln), .int v26, .int v27, .int v28, .ref m29, .ref m30, .ref m31, .ref m32, .ref m33, .ref m34, .ref m35, .ref m36, .ref m37, .int (nI sh), .ref m39, .ref m40, .ref m41, .ref m42, .ref m43, .ref m44, .ref m45, .ref m46, .ref m47, .ref m48, .ref m49, .int v50, .ref m51, .ref m52, .ref m53, .ref m54, .int (nI gf), .ref m56, .ref m57, .ref m58, .ref m59]))) → (wd_at w183 m2 (.inl (cy 10, 12, .inr (.inr (.inr (.inr qp)))))) → (wd_at w183 m3 (.inl (cy 10, 12, .inr (.inr (.inr (.inr qw)))))) → (wd_at w183 m4 (.inl (cy 2, 12, .inl f4))) → (wd_at w183 m5 (.inl (cy 2, 12, .inl f5))) → (wd_at w183 m6 (.inl (cy 2, 12, .inl gx14))) → (wd_at w183 m8 (.inl (cy 2, 30, .inl f8))) → (wd_at w183 m9 (.inl (cy 2, 30, .inl f9))) → (wd_at w183 m10 (.inl (cy 2, 30, .inl f10))) → (wd_at w183 m11 (.inl (cy 2, 30, .inl f11))) → (wd_at w183 m12 (.inl (cy 2, 30, .inl f12))) → (wd_at w183 m13 (.inl (cy 2, 30, .inl f13))) → (wd_at w183 m14 (.inl (cy 2, 30, .inl f14))) → (wd_at w183 m17 (.inl (cy 2, 60, .inl f17))) → (wd_at w183 m18 (.inl (cy 2, 60, .inl f18))) → (wd_at w183 m19 (.inl (cy 2, 60, .inl f19))) → (wd_at w183 m20 (.inl (cy 4, 60, .inl f20))) → (wd_at w183 m21 (.inl (cy 2, 60, .inl (upd f21 (nI sc).toNatClampNeg (nI pp))))) → (wd_at w183 m22 (.inl (cy 2, 60, .inl (upd f22 (nI sc).toNatClampNeg x2)))) → (wd_at w183 m23 (.inl (cy 10, 60, .inr (.inr (.inr (.inr qs)))))) → (wd_at w183 m24 (.inl (cy 0, 300, .inl f24))) → (wd_at w183 m29 (.inl (cy 2, 12, .inl f29))) → (wd_at w183 m30 (.inl (cy 2, 156, .inl f30))) → (wd_at w183 m31 (.inl (cy 2, 156, .inl f31))) → (wd_at w183 m32 (.inl (cy 2, 936, .inl f32))) → (wd_at w183 m33 (.inl (cy 2, 936, .inl f33))) → (wd_at w183 m34 (.inl (cy 2, 936, .inl f34))) → (wd_at w183 m35 (.inl (cy 2, 5, .inl f35))) → (wd_at w183 m36 (.inl (cy 4, 5, .inl f36))) → (wd_at w183 m37 (.inl (cy 2, 5, .inl f37))) → (wd_at w183 m39 (.inl (cy 2, 200, .inl f39))) → (wd_at w183 m40 (.inl (cy 2, 200, .inl f40))) → (wd_at w183 m41 (.inl (cy 2, 200, .inl f41))) → (wd_at w183 m42 (.inl (cy 2, 200, .inl f42))) → (wd_at w183 m43 (.inl (cy 2, 200, .inl f43))) → (wd_at w183 m44 (.inl (cy 2, 200, .inl f44))) → (wd_at w183 m45 (.inl (cy 2, 200, .inl f45))) → (wd_at w183 m46 (.inl (cy 2, 200, .inl f46))) → (wd_at w183 m47 (.inl (cy 2, 200, .inl f47))) → (wd_at w183 m48 (.inl (cy 3, 200, .inr (.inl f48)))) → (wd_at w183 m49 (.inl (cy 2, 12, .inl f49))) → (wd_at w183 m51 (.inl (cy 2, 200, .inl f51))) → (wd_at w183 m52 (.inl (cy 3, 200, .inr (.inl f52)))) → (wd_at w183 m53 (.inl (cy 3, 12, .inr (.inl f53)))) → (wd_at w183 m54 (.inl (cy 3, 12, .inr (.inl f54)))) → (wd_at w183 m56 (.inl (cy 2, 60, .inl f56))) → (wd_at w183 m57 (.inl (cy 2, 60, .inl f57))) → (wd_at w183 m58 (.inl (cy 2, 60, .inl f58))) → (wd_at w183 m59 (.inl (cy 3, 60, .inr (.inl f59)))) → (wd_at w183 (sr sc) (.inl (cy 2, 12, .inl g9))) → (∀ k9, k9 < 12 → qp k9 = some (pr k9) ∧ wd_at w183 (pr k9) (.inl (cy 2, 12, .inl (fp k9))) ∧ tg (pr k9) = 11000 + k9) → (∀ k9, k9 < 12 → qw k9 = some (wr k9) ∧ wd_at w183 (wr k9) (.inl (cy 2, 12, .inl (fw k9))) ∧ tg (wr k9) = 12000 + k9) → (∀ k9, k9 < 60 ∧ k9 ≠ sc → qs k9 = some (sr k9) ∧ wd_at w183 (sr k9) (.inl (cy 2, 12, .inl (fs k9))) ∧ tg (sr k9) = 13000 + k9) → (wd_kp (fun b => 10000 ≤ tg b) w w183) → ∀ (ls : Array Slot), lv_has ls 5 [(0, .ref y), (1, .int (nI pp)), (2, .int x2), (3, .int (nI tw)), (4, .int (nI t))] → Wv p l e ({ frames := 1, cells := 0, slots := 0, locals := 26 }) s m args below meth c D A (0) (0) Q w183 (F0 m 82 ls []) := by
            intro N
            induction N with
            | zero =>
              intro t g9 w183 hN82 k184 k185 k186 k187 k188 k189 k190 k191 k192 k193 k194 k195 k196 k197 k198 k199 k200 k201 k202 k203 k204 k205 k206 k207 k208 k209 k210 k211 k212 k213 k214 k215 k216 k217 k218 k219 k220 k221 k222 k223 k224 k225 k226 k227 k228 k229 k230 k231 k232 k233 fm234 fm235 fm236 kp237 ls hl H locs hP hD hS
              refine lv_iload hx hb dX11_stop_82 (lv_at hl 4 rfl) ?_
              refine lv_bipush (v := 12) hx hb dX11_stop_84 (by decide) ?_
              refine lv_icmp_ge (tgt := 136) hx hb dX11_stop_86 (by decide) (fun c_238 => ?_) (fun c_238 => absurd (nI_le (a := 12) (b := t) (by omega) (by omega)) c_238)
              refine lv_aload_n hx hb dX11_stop_136 rfl (lv_at hl 0 rfl) ?_
              refine lv_dup hx hb dX11_stop_137 rfl ?_
              refine x_get (ref := "NoteHouseModel") F hP k184 rfl (fun _ h => List.mem_cons_of_mem _ (List.mem_append_right _ (h))) 16 (Nat.le_of_ble_eq_true rfl) (List.mem_cons_of_mem _ (List.mem_append_left _ (List.mem_of_getElem? (i := 0) rfl))) rfl rfl dX11_stop_138 ?_
              refine lv_iconst (v := 1) hx hb dX11_stop_141 (by decide) ?_
              refine lv_iadd hx hb dX11_stop_142 ?_
              rw [show ((nI sc) + 1 : Int32) = nI (sc + 1) from nI_add sc 1]
              refine y_put (ref := "NoteHouseModel") F hP hD hS k184 rfl (fun _ h => List.mem_cons_of_mem _ (List.mem_append_right _ (h))) tyX11_ok nmX11 16 (Nat.le_of_ble_eq_true rfl) (List.mem_cons_of_mem _ (List.mem_append_left _ (List.mem_of_getElem? (i := 0) rfl))) rfl rfl rfl rfl (Nat.le_of_ble_eq_true rfl) dX11_stop_143 (fun w239 ew240 H locs hP hD hS => ?_)
              have k241 : wd_at w239 y (.inr (11, [.int v0, .int td, .ref m2, .ref m3, .ref m4, .ref m5, .ref m6, .int (nI pc), .ref m8, .ref m9, .ref m10, .ref m11, .ref m12, .ref m13, .ref m14, .int (nI ac), .int (nI (sc + 1)), .ref m17, .ref m18, .ref m19, .ref m20, .ref m21, .ref m22, .ref m23, .ref m24, .int (nI ln), .int v26, .int v27, .int v28, .ref m29, .ref m30, .ref m31, .ref m32, .ref m33, .ref m34, .ref m35, .ref m36, .ref m37, .int (nI sh), .ref m39, .ref m40, .ref m41, .ref m42, .ref m43, .ref m44, .ref m45, .ref m46, .ref m47, .ref m48, .ref m49, .int v50, .ref m51, .ref m52, .ref m53, .ref m54, .int (nI gf), .ref m56, .ref m57, .ref m58, .ref m59])) := wd_at.ps ew240 k184
              have k242 := wd_at.pt ew240 k185 (tg_ne tI1 tI0 (by decide))
              have k243 := wd_at.pt ew240 k186 (tg_ne tI2 tI0 (by decide))
              have k244 := wd_at.pt ew240 k187 (tg_ne tI3 tI0 (by decide))
              have k245 := wd_at.pt ew240 k188 (tg_ne tI4 tI0 (by decide))
              have k246 := wd_at.pt ew240 k189 (tg_ne tI5 tI0 (by decide))
              have k247 := wd_at.pt ew240 k190 (tg_ne tI6 tI0 (by decide))
              have k248 := wd_at.pt ew240 k191 (tg_ne tI7 tI0 (by decide))
              have k249 := wd_at.pt ew240 k192 (tg_ne tI8 tI0 (by decide))
              have k250 := wd_at.pt ew240 k193 (tg_ne tI9 tI0 (by decide))
              have k251 := wd_at.pt ew240 k194 (tg_ne tI10 tI0 (by decide))
              have k252 := wd_at.pt ew240 k195 (tg_ne tI11 tI0 (by decide))
              have k253 := wd_at.pt ew240 k196 (tg_ne tI12 tI0 (by decide))
              have k254 := wd_at.pt ew240 k197 (tg_ne tI13 tI0 (by decide))
              have k255 := wd_at.pt ew240 k198 (tg_ne tI14 tI0 (by decide))
              have k256 := wd_at.pt ew240 k199 (tg_ne tI15 tI0 (by decide))
              have k257 := wd_at.pt ew240 k200 (tg_ne tI16 tI0 (by decide))
              have k258 := wd_at.pt ew240 k201 (tg_ne tI17 tI0 (by decide))
              have k259 := wd_at.pt ew240 k202 (tg_ne tI18 tI0 (by decide))
              have k260 := wd_at.pt ew240 k203 (tg_ne tI19 tI0 (by decide))
              have k261 := wd_at.pt ew240 k204 (tg_ne tI20 tI0 (by decide))
              have k262 := wd_at.pt ew240 k205 (tg_ne tI21 tI0 (by decide))
              have k263 := wd_at.pt ew240 k206 (tg_ne tI22 tI0 (by decide))
              have k264 := wd_at.pt ew240 k207 (tg_ne tI23 tI0 (by decide))
              have k265 := wd_at.pt ew240 k208 (tg_ne tI24 tI0 (by decide))
              have k266 := wd_at.pt ew240 k209 (tg_ne tI25 tI0 (by decide))
              have k267 := wd_at.pt ew240 k210 (tg_ne tI26 tI0 (by decide))
              have k268 := wd_at.pt ew240 k211 (tg_ne tI27 tI0 (by decide))
              have k269 := wd_at.pt ew240 k212 (tg_ne tI28 tI0 (by decide))
              have k270 := wd_at.pt ew240 k213 (tg_ne tI29 tI0 (by decide))
              have k271 := wd_at.pt ew240 k214 (tg_ne tI30 tI0 (by decide))
              have k272 := wd_at.pt ew240 k215 (tg_ne tI31 tI0 (by decide))
              have k273 := wd_at.pt ew240 k216 (tg_ne tI32 tI0 (by decide))
              have k274 := wd_at.pt ew240 k217 (tg_ne tI33 tI0 (by decide))
              have k275 := wd_at.pt ew240 k218 (tg_ne tI34 tI0 (by decide))
              have k276 := wd_at.pt ew240 k219 (tg_ne tI35 tI0 (by decide))
              have k277 := wd_at.pt ew240 k220 (tg_ne tI36 tI0 (by decide))
              have k278 := wd_at.pt ew240 k221 (tg_ne tI37 tI0 (by decide))
              have k279 := wd_at.pt ew240 k222 (tg_ne tI38 tI0 (by decide))
              have k280 := wd_at.pt ew240 k223 (tg_ne tI39 tI0 (by decide))
              have k281 := wd_at.pt ew240 k224 (tg_ne tI40 tI0 (by decide))
              have k282 := wd_at.pt ew240 k225 (tg_ne tI41 tI0 (by decide))
              have k283 := wd_at.pt ew240 k226 (tg_ne tI42 tI0 (by decide))
              have k284 := wd_at.pt ew240 k227 (tg_ne tI43 tI0 (by decide))
              have k285 := wd_at.pt ew240 k228 (tg_ne tI44 tI0 (by decide))
              have k286 := wd_at.pt ew240 k229 (tg_ne tI45 tI0 (by decide))
              have k287 := wd_at.pt ew240 k230 (tg_ne tI46 tI0 (by decide))
              have k288 := wd_at.pt ew240 k231 (tg_ne tI47 tI0 (by decide))
              have k289 := wd_at.pt ew240 k232 (tg_ne tI48 tI0 (by decide))
              have k290 := wd_at.pt ew240 k233 (tg_ne tz181 tI0 (tnA (show 10000 < 13000 by decide)))
              have fm291 : ∀ k9, k9 < 12 → qp k9 = some (pr k9) ∧ wd_at w239 (pr k9) (.inl (cy 2, 12, .inl (fp k9))) ∧ tg (pr k9) = 11000 + k9 := fun k9 hi9 => ⟨(fm234 k9 hi9).1, wd_at.pt ew240 (fm234 k9 hi9).2.1 (tg_ne (fm234 k9 hi9).2.2 tI0 (tnA (show 10000 < 11000 by decide))), (fm234 k9 hi9).2.2⟩
              have fm292 : ∀ k9, k9 < 12 → qw k9 = some (wr k9) ∧ wd_at w239 (wr k9) (.inl (cy 2, 12, .inl (fw k9))) ∧ tg (wr k9) = 12000 + k9 := fun k9 hi9 => ⟨(fm235 k9 hi9).1, wd_at.pt ew240 (fm235 k9 hi9).2.1 (tg_ne (fm235 k9 hi9).2.2 tI0 (tnA (show 10000 < 12000 by decide))), (fm235 k9 hi9).2.2⟩
              have fm293 : ∀ k9, k9 < 60 ∧ k9 ≠ sc → qs k9 = some (sr k9) ∧ wd_at w239 (sr k9) (.inl (cy 2, 12, .inl (fs k9))) ∧ tg (sr k9) = 13000 + k9 := fun k9 hi9 => ⟨(fm236 k9 hi9).1, wd_at.pt ew240 (fm236 k9 hi9).2.1 (tg_ne (fm236 k9 hi9).2.2 tI0 (tnA (show 10000 < 13000 by decide))), (fm236 k9 hi9).2.2⟩
              have kp294 := kp237.put ew240 (tgT tI0 (by decide))
              refine lv_aload_n hx hb dX11_stop_146 rfl (lv_at hl 0 rfl) ?_
              refine x_get (ref := "NoteHouseModel") F hP k241 rfl (fun _ h => List.mem_cons_of_mem _ (List.mem_append_right _ (h))) 16 (Nat.le_of_ble_eq_true rfl) (List.mem_cons_of_mem _ (List.mem_append_left _ (List.mem_of_getElem? (i := 0) rfl))) rfl rfl dX11_stop_147 ?_
              refine lv_iconst (v := 1) hx hb dX11_stop_150 (by decide) ?_
              refine lv_isub hx hb dX11_stop_151 ?_
              rw [show ((nI (sc + 1)) - 1 : Int32) = nI ((sc + 1) - 1) from pk_sub (a := (sc + 1)) (b := 1) (by omega)]
              have fm295 : ∀ k9, k9 < 60 → qs k9 = some (sr k9) ∧ wd_at w239 (sr k9) (.inl (cy 2, 12, .inl ((va_up fs sc g9) k9))) ∧ tg (sr k9) = 13000 + k9 := by
                intro k9 hi9
                by_cases e9 : k9 = sc
                · rw [e9]
                  exact ⟨pr179, (by simp only [va_up_self]; exact k290), tz181⟩
                · simp only [va_up_ne _ _ e9]
                  exact fm293 k9 (by omega)
              have hX296 : IM cy tg y td pc ac (sc + 1) ln se plv w239 := IM.mk m2 m3 m4 m5 m6 m8 m9 m10 m11 m12 m13 m14 m17 m18 m19 m20 m21 m22 m23 m24 m29 m30 m31 m32 m33 m34 m35 m36 m37 m39 m40 m41 m42 m43 m44 m45 m46 m47 m48 m49 m51 m52 m53 m54 m56 m57 m58 m59 sh gf v0 v26 v27 v28 v50 f4 f5 gx14 f8 f9 f10 f11 f12 f13 f14 f17 f18 f19 f20 (upd f21 (nI sc).toNatClampNeg (nI pp)) (upd f22 (nI sc).toNatClampNeg x2) f24 f29 f30 f31 f32 f33 f34 f35 f36 f37 f39 f40 f41 f42 f43 f44 f45 f46 f47 f48 f49 f51 f52 f53 f54 f56 f57 f58 f59 qp pr fp qw wr fw qs sr (va_up fs sc g9) (by omega) (by omega) (by omega) (by omega) (by omega) (by omega) hrl hc ht hp hso hlo k241 tI0 k242 tI1 k243 tI2 k244 tI3 k245 tI4 k246 tI5 k247 tI6 k248 tI7 k249 tI8 k250 tI9 k251 tI10 k252 tI11 k253 tI12 k254 tI13 k255 tI14 k256 tI15 k257 tI16 k258 tI17 k259 tI18 k260 tI19 k261 tI20 k262 tI21 k263 tI22 k264 tI23 k265 tI24 k266 tI25 k267 tI26 k268 tI27 k269 tI28 k270 tI29 k271 tI30 k272 tI31 k273 tI32 k274 tI33 k275 tI34 k276 tI35 k277 tI36 k278 tI37 k279 tI38 k280 tI39 k281 tI40 k282 tI41 k283 tI42 k284 tI43 k285 tI44 k286 tI45 k287 tI46 k288 tI47 k289 tI48 fm291 fm292 fm295
              exact y_ir K hP hD hS (Nat.le_of_ble_eq_true rfl) (Nat.le_of_ble_eq_true rfl) (ty := .int) rfl rfl dX11_stop_152 (by refine ⟨(congrArg (fun z => some (Value.int z)) (show nI ((sc + 1) - 1) = stpA plv pc sc (nI pp) x2 (nI tw) from by simp [stpA, stpC, c_1, h60, c_5, clpp, c_9, cltw, c_10])), ?_⟩; rw [show stpC plv pc sc (nI pp) x2 (nI tw) = (sc + 1) from by simp [stpA, stpC, c_1, h60, c_5, clpp, c_9, cltw, c_10]]; exact ⟨kp294, hX296⟩)
            | succ N ih82 =>
              intro t g9 w183 hN82 k184 k185 k186 k187 k188 k189 k190 k191 k192 k193 k194 k195 k196 k197 k198 k199 k200 k201 k202 k203 k204 k205 k206 k207 k208 k209 k210 k211 k212 k213 k214 k215 k216 k217 k218 k219 k220 k221 k222 k223 k224 k225 k226 k227 k228 k229 k230 k231 k232 k233 fm234 fm235 fm236 kp237 ls hl H locs hP hD hS
              refine lv_iload hx hb dX11_stop_82 (lv_at hl 4 rfl) ?_
              refine lv_bipush (v := 12) hx hb dX11_stop_84 (by decide) ?_
              refine lv_icmp_ge (tgt := 136) hx hb dX11_stop_86 (by decide) (fun c_297 => absurd c_297 (nI_ge (a := t) (b := 12) (by omega) (by omega))) (fun c_297 => ?_)
              refine lv_aload_n hx hb dX11_stop_89 rfl (lv_at hl 0 rfl) ?_
              refine x_get (ref := "NoteHouseModel") F hP k184 rfl (fun _ h => List.mem_cons_of_mem _ (List.mem_append_right _ (h))) 23 (Nat.le_of_ble_eq_true rfl) (List.mem_cons_of_mem _ (List.mem_append_left _ (List.mem_of_getElem? (i := 5) rfl))) rfl rfl dX11_stop_90 ?_
              refine lv_aload_n hx hb dX11_stop_93 rfl (lv_at hl 0 rfl) ?_
              refine x_get (ref := "NoteHouseModel") F hP k184 rfl (fun _ h => List.mem_cons_of_mem _ (List.mem_append_right _ (h))) 16 (Nat.le_of_ble_eq_true rfl) (List.mem_cons_of_mem _ (List.mem_append_left _ (List.mem_of_getElem? (i := 0) rfl))) rfl rfl dX11_stop_94 ?_
              refine x_aaldA F hP k203 (vp_in_nI (n := sc) (N := 60) (by omega) (by decide)) dX11_stop_97 ?_
              rw [nI_clamp (n := sc) (by omega), pr179]
              refine W.eq (g2 := F0 m _ ls [.ref (sr sc)]) rfl ?_
              refine lv_iload hx hb dX11_stop_98 (lv_at hl 4 rfl) ?_
              refine lv_aload_n hx hb dX11_stop_100 rfl (lv_at hl 0 rfl) ?_
              refine x_get (ref := "NoteHouseModel") F hP k184 rfl (fun _ h => List.mem_cons_of_mem _ (List.mem_append_right _ (h))) 6 (Nat.le_of_ble_eq_true rfl) (List.mem_cons_of_mem _ (List.mem_append_left _ (List.mem_of_getElem? (i := 6) rfl))) rfl rfl dX11_stop_101 ?_
              refine lv_iload hx hb dX11_stop_104 (lv_at hl 4 rfl) ?_
              refine x_iald F hP k189 (vp_in_nI (n := t) (N := 12) (by omega) (by decide)) dX11_stop_106 ?_
              refine lv_ldc (v := 268435456) hx hb hown (hts _ (List.mem_cons_of_mem _ (List.mem_append_left _ (List.mem_of_getElem? (i := 7) rfl)))) dX11_stop_107 ?_
              refine lv_icmp_ne (tgt := 117) hx hb dX11_stop_109 (by decide) (fun c_298 => ?_) (fun c_298 => ?_)
              · refine lv_aload_n hx hb dX11_stop_117 rfl (lv_at hl 0 rfl) ?_
                refine x_get (ref := "NoteHouseModel") F hP k184 rfl (fun _ h => List.mem_cons_of_mem _ (List.mem_append_right _ (h))) 1 (Nat.le_of_ble_eq_true rfl) (List.mem_cons_of_mem _ (List.mem_append_left _ (List.mem_of_getElem? (i := 8) rfl))) rfl rfl dX11_stop_118 ?_
                refine lv_aload_n hx hb dX11_stop_121 rfl (lv_at hl 0 rfl) ?_
                refine x_get (ref := "NoteHouseModel") F hP k184 rfl (fun _ h => List.mem_cons_of_mem _ (List.mem_append_right _ (h))) 6 (Nat.le_of_ble_eq_true rfl) (List.mem_cons_of_mem _ (List.mem_append_left _ (List.mem_of_getElem? (i := 6) rfl))) rfl rfl dX11_stop_122 ?_
                refine lv_iload hx hb dX11_stop_125 (lv_at hl 4 rfl) ?_
                refine x_iald F hP k189 (vp_in_nI (n := t) (N := 12) (by omega) (by decide)) dX11_stop_127 ?_
                refine lv_iadd hx hb dX11_stop_128 ?_
                refine y_iast F hP hD hS k233 (vp_in_nI (n := t) (N := 12) (by omega) (by decide)) dX11_stop_129 (fun w299 ew300 H locs hP hD hS => ?_)
                have k301 := wd_at.pt ew300 k184 (tg_ne tI0 tz181 (tnA2 (show 10000 < 13000 by decide)))
                have k302 := wd_at.pt ew300 k185 (tg_ne tI1 tz181 (tnA2 (show 10102 < 13000 by decide)))
                have k303 := wd_at.pt ew300 k186 (tg_ne tI2 tz181 (tnA2 (show 10103 < 13000 by decide)))
                have k304 := wd_at.pt ew300 k187 (tg_ne tI3 tz181 (tnA2 (show 10104 < 13000 by decide)))
                have k305 := wd_at.pt ew300 k188 (tg_ne tI4 tz181 (tnA2 (show 10105 < 13000 by decide)))
                have k306 := wd_at.pt ew300 k189 (tg_ne tI5 tz181 (tnA2 (show 10106 < 13000 by decide)))
                have k307 := wd_at.pt ew300 k190 (tg_ne tI6 tz181 (tnA2 (show 10108 < 13000 by decide)))
                have k308 := wd_at.pt ew300 k191 (tg_ne tI7 tz181 (tnA2 (show 10109 < 13000 by decide)))
                have k309 := wd_at.pt ew300 k192 (tg_ne tI8 tz181 (tnA2 (show 10110 < 13000 by decide)))
                have k310 := wd_at.pt ew300 k193 (tg_ne tI9 tz181 (tnA2 (show 10111 < 13000 by decide)))
                have k311 := wd_at.pt ew300 k194 (tg_ne tI10 tz181 (tnA2 (show 10112 < 13000 by decide)))
                have k312 := wd_at.pt ew300 k195 (tg_ne tI11 tz181 (tnA2 (show 10113 < 13000 by decide)))
                have k313 := wd_at.pt ew300 k196 (tg_ne tI12 tz181 (tnA2 (show 10114 < 13000 by decide)))
                have k314 := wd_at.pt ew300 k197 (tg_ne tI13 tz181 (tnA2 (show 10117 < 13000 by decide)))
                have k315 := wd_at.pt ew300 k198 (tg_ne tI14 tz181 (tnA2 (show 10118 < 13000 by decide)))
                have k316 := wd_at.pt ew300 k199 (tg_ne tI15 tz181 (tnA2 (show 10119 < 13000 by decide)))
                have k317 := wd_at.pt ew300 k200 (tg_ne tI16 tz181 (tnA2 (show 10120 < 13000 by decide)))
                have k318 := wd_at.pt ew300 k201 (tg_ne tI17 tz181 (tnA2 (show 10121 < 13000 by decide)))
                have k319 := wd_at.pt ew300 k202 (tg_ne tI18 tz181 (tnA2 (show 10122 < 13000 by decide)))
                have k320 := wd_at.pt ew300 k203 (tg_ne tI19 tz181 (tnA2 (show 10123 < 13000 by decide)))
                have k321 := wd_at.pt ew300 k204 (tg_ne tI20 tz181 (tnA2 (show 10124 < 13000 by decide)))
                have k322 := wd_at.pt ew300 k205 (tg_ne tI21 tz181 (tnA2 (show 10129 < 13000 by decide)))
                have k323 := wd_at.pt ew300 k206 (tg_ne tI22 tz181 (tnA2 (show 10130 < 13000 by decide)))
                have k324 := wd_at.pt ew300 k207 (tg_ne tI23 tz181 (tnA2 (show 10131 < 13000 by decide)))
                have k325 := wd_at.pt ew300 k208 (tg_ne tI24 tz181 (tnA2 (show 10132 < 13000 by decide)))
                have k326 := wd_at.pt ew300 k209 (tg_ne tI25 tz181 (tnA2 (show 10133 < 13000 by decide)))
                have k327 := wd_at.pt ew300 k210 (tg_ne tI26 tz181 (tnA2 (show 10134 < 13000 by decide)))
                have k328 := wd_at.pt ew300 k211 (tg_ne tI27 tz181 (tnA2 (show 10135 < 13000 by decide)))
                have k329 := wd_at.pt ew300 k212 (tg_ne tI28 tz181 (tnA2 (show 10136 < 13000 by decide)))
                have k330 := wd_at.pt ew300 k213 (tg_ne tI29 tz181 (tnA2 (show 10137 < 13000 by decide)))
                have k331 := wd_at.pt ew300 k214 (tg_ne tI30 tz181 (tnA2 (show 10139 < 13000 by decide)))
                have k332 := wd_at.pt ew300 k215 (tg_ne tI31 tz181 (tnA2 (show 10140 < 13000 by decide)))
                have k333 := wd_at.pt ew300 k216 (tg_ne tI32 tz181 (tnA2 (show 10141 < 13000 by decide)))
                have k334 := wd_at.pt ew300 k217 (tg_ne tI33 tz181 (tnA2 (show 10142 < 13000 by decide)))
                have k335 := wd_at.pt ew300 k218 (tg_ne tI34 tz181 (tnA2 (show 10143 < 13000 by decide)))
                have k336 := wd_at.pt ew300 k219 (tg_ne tI35 tz181 (tnA2 (show 10144 < 13000 by decide)))
                have k337 := wd_at.pt ew300 k220 (tg_ne tI36 tz181 (tnA2 (show 10145 < 13000 by decide)))
                have k338 := wd_at.pt ew300 k221 (tg_ne tI37 tz181 (tnA2 (show 10146 < 13000 by decide)))
                have k339 := wd_at.pt ew300 k222 (tg_ne tI38 tz181 (tnA2 (show 10147 < 13000 by decide)))
                have k340 := wd_at.pt ew300 k223 (tg_ne tI39 tz181 (tnA2 (show 10148 < 13000 by decide)))
                have k341 := wd_at.pt ew300 k224 (tg_ne tI40 tz181 (tnA2 (show 10149 < 13000 by decide)))
                have k342 := wd_at.pt ew300 k225 (tg_ne tI41 tz181 (tnA2 (show 10151 < 13000 by decide)))
                have k343 := wd_at.pt ew300 k226 (tg_ne tI42 tz181 (tnA2 (show 10152 < 13000 by decide)))
                have k344 := wd_at.pt ew300 k227 (tg_ne tI43 tz181 (tnA2 (show 10153 < 13000 by decide)))
                have k345 := wd_at.pt ew300 k228 (tg_ne tI44 tz181 (tnA2 (show 10154 < 13000 by decide)))
                have k346 := wd_at.pt ew300 k229 (tg_ne tI45 tz181 (tnA2 (show 10156 < 13000 by decide)))
                have k347 := wd_at.pt ew300 k230 (tg_ne tI46 tz181 (tnA2 (show 10157 < 13000 by decide)))
                have k348 := wd_at.pt ew300 k231 (tg_ne tI47 tz181 (tnA2 (show 10158 < 13000 by decide)))
                have k349 := wd_at.pt ew300 k232 (tg_ne tI48 tz181 (tnA2 (show 10159 < 13000 by decide)))
                have k350 : wd_at w299 (sr sc) (.inl (cy 2, 12, .inl (upd g9 (nI t).toNatClampNeg (td + (gx14 (nI t).toNatClampNeg))))) := wd_at.ps ew300 k233
                have fm351 : ∀ k9, k9 < 12 → qp k9 = some (pr k9) ∧ wd_at w299 (pr k9) (.inl (cy 2, 12, .inl (fp k9))) ∧ tg (pr k9) = 11000 + k9 := fun k9 hi9 => ⟨(fm234 k9 hi9).1, wd_at.pt ew300 (fm234 k9 hi9).2.1 (tg_ne (fm234 k9 hi9).2.2 tz181 (tnB (n := 12) hi9 (by decide))), (fm234 k9 hi9).2.2⟩
                have fm352 : ∀ k9, k9 < 12 → qw k9 = some (wr k9) ∧ wd_at w299 (wr k9) (.inl (cy 2, 12, .inl (fw k9))) ∧ tg (wr k9) = 12000 + k9 := fun k9 hi9 => ⟨(fm235 k9 hi9).1, wd_at.pt ew300 (fm235 k9 hi9).2.1 (tg_ne (fm235 k9 hi9).2.2 tz181 (tnB (n := 12) hi9 (by decide))), (fm235 k9 hi9).2.2⟩
                have fm353 : ∀ k9, k9 < 60 ∧ k9 ≠ sc → qs k9 = some (sr k9) ∧ wd_at w299 (sr k9) (.inl (cy 2, 12, .inl (fs k9))) ∧ tg (sr k9) = 13000 + k9 := fun k9 hi9 => ⟨(fm236 k9 hi9).1, wd_at.pt ew300 (fm236 k9 hi9).2.1 (tg_ne (fm236 k9 hi9).2.2 tz181 (tnS hi9.2)), (fm236 k9 hi9).2.2⟩
                have kp354 := kp237.put ew300 (tgT tz181 (by omega))
                refine lv_iinc (v := nI (t + 1)) (lv' := [(4, .int (nI (t + 1))), (0, .ref y), (1, .int (nI pp)), (2, .int x2), (3, .int (nI tw))]) hx hb dX11_stop_130 hl (k := 4) rfl (nI_1 t) (by decide) rfl (fun ls hl => ?_)
                refine lv_goto (tgt := 82) hx hb dX11_stop_133 (by decide) ?_
                exact ih82 (t + 1) (upd g9 (nI t).toNatClampNeg (td + (gx14 (nI t).toNatClampNeg))) w299 (by omega)  k301 k302 k303 k304 k305 k306 k307 k308 k309 k310 k311 k312 k313 k314 k315 k316 k317 k318 k319 k320 k321 k322 k323 k324 k325 k326 k327 k328 k329 k330 k331 k332 k333 k334 k335 k336 k337 k338 k339 k340 k341 k342 k343 k344 k345 k346 k347 k348 k349 k350 fm351 fm352 fm353 kp354 ls (lv_sub hl [1, 2, 3, 4, 0] rfl) H locs hP hD hS
              · refine lv_ldc (v := 268435456) hx hb hown (hts _ (List.mem_cons_of_mem _ (List.mem_append_left _ (List.mem_of_getElem? (i := 7) rfl)))) dX11_stop_112 ?_
                refine lv_goto (tgt := 129) hx hb dX11_stop_114 (by decide) ?_
                refine y_iast F hP hD hS k233 (vp_in_nI (n := t) (N := 12) (by omega) (by decide)) dX11_stop_129 (fun w355 ew356 H locs hP hD hS => ?_)
                have k357 := wd_at.pt ew356 k184 (tg_ne tI0 tz181 (tnA2 (show 10000 < 13000 by decide)))
                have k358 := wd_at.pt ew356 k185 (tg_ne tI1 tz181 (tnA2 (show 10102 < 13000 by decide)))
                have k359 := wd_at.pt ew356 k186 (tg_ne tI2 tz181 (tnA2 (show 10103 < 13000 by decide)))
                have k360 := wd_at.pt ew356 k187 (tg_ne tI3 tz181 (tnA2 (show 10104 < 13000 by decide)))
                have k361 := wd_at.pt ew356 k188 (tg_ne tI4 tz181 (tnA2 (show 10105 < 13000 by decide)))
                have k362 := wd_at.pt ew356 k189 (tg_ne tI5 tz181 (tnA2 (show 10106 < 13000 by decide)))
                have k363 := wd_at.pt ew356 k190 (tg_ne tI6 tz181 (tnA2 (show 10108 < 13000 by decide)))
                have k364 := wd_at.pt ew356 k191 (tg_ne tI7 tz181 (tnA2 (show 10109 < 13000 by decide)))
                have k365 := wd_at.pt ew356 k192 (tg_ne tI8 tz181 (tnA2 (show 10110 < 13000 by decide)))
                have k366 := wd_at.pt ew356 k193 (tg_ne tI9 tz181 (tnA2 (show 10111 < 13000 by decide)))
                have k367 := wd_at.pt ew356 k194 (tg_ne tI10 tz181 (tnA2 (show 10112 < 13000 by decide)))
                have k368 := wd_at.pt ew356 k195 (tg_ne tI11 tz181 (tnA2 (show 10113 < 13000 by decide)))
                have k369 := wd_at.pt ew356 k196 (tg_ne tI12 tz181 (tnA2 (show 10114 < 13000 by decide)))
                have k370 := wd_at.pt ew356 k197 (tg_ne tI13 tz181 (tnA2 (show 10117 < 13000 by decide)))
                have k371 := wd_at.pt ew356 k198 (tg_ne tI14 tz181 (tnA2 (show 10118 < 13000 by decide)))
                have k372 := wd_at.pt ew356 k199 (tg_ne tI15 tz181 (tnA2 (show 10119 < 13000 by decide)))
                have k373 := wd_at.pt ew356 k200 (tg_ne tI16 tz181 (tnA2 (show 10120 < 13000 by decide)))
                have k374 := wd_at.pt ew356 k201 (tg_ne tI17 tz181 (tnA2 (show 10121 < 13000 by decide)))
                have k375 := wd_at.pt ew356 k202 (tg_ne tI18 tz181 (tnA2 (show 10122 < 13000 by decide)))
                have k376 := wd_at.pt ew356 k203 (tg_ne tI19 tz181 (tnA2 (show 10123 < 13000 by decide)))
                have k377 := wd_at.pt ew356 k204 (tg_ne tI20 tz181 (tnA2 (show 10124 < 13000 by decide)))
                have k378 := wd_at.pt ew356 k205 (tg_ne tI21 tz181 (tnA2 (show 10129 < 13000 by decide)))
                have k379 := wd_at.pt ew356 k206 (tg_ne tI22 tz181 (tnA2 (show 10130 < 13000 by decide)))
                have k380 := wd_at.pt ew356 k207 (tg_ne tI23 tz181 (tnA2 (show 10131 < 13000 by decide)))
                have k381 := wd_at.pt ew356 k208 (tg_ne tI24 tz181 (tnA2 (show 10132 < 13000 by decide)))
                have k382 := wd_at.pt ew356 k209 (tg_ne tI25 tz181 (tnA2 (show 10133 < 13000 by decide)))
                have k383 := wd_at.pt ew356 k210 (tg_ne tI26 tz181 (tnA2 (show 10134 < 13000 by decide)))
                have k384 := wd_at.pt ew356 k211 (tg_ne tI27 tz181 (tnA2 (show 10135 < 13000 by decide)))
                have k385 := wd_at.pt ew356 k212 (tg_ne tI28 tz181 (tnA2 (show 10136 < 13000 by decide)))
                have k386 := wd_at.pt ew356 k213 (tg_ne tI29 tz181 (tnA2 (show 10137 < 13000 by decide)))
                have k387 := wd_at.pt ew356 k214 (tg_ne tI30 tz181 (tnA2 (show 10139 < 13000 by decide)))
                have k388 := wd_at.pt ew356 k215 (tg_ne tI31 tz181 (tnA2 (show 10140 < 13000 by decide)))
                have k389 := wd_at.pt ew356 k216 (tg_ne tI32 tz181 (tnA2 (show 10141 < 13000 by decide)))
                have k390 := wd_at.pt ew356 k217 (tg_ne tI33 tz181 (tnA2 (show 10142 < 13000 by decide)))
                have k391 := wd_at.pt ew356 k218 (tg_ne tI34 tz181 (tnA2 (show 10143 < 13000 by decide)))
                have k392 := wd_at.pt ew356 k219 (tg_ne tI35 tz181 (tnA2 (show 10144 < 13000 by decide)))
                have k393 := wd_at.pt ew356 k220 (tg_ne tI36 tz181 (tnA2 (show 10145 < 13000 by decide)))
                have k394 := wd_at.pt ew356 k221 (tg_ne tI37 tz181 (tnA2 (show 10146 < 13000 by decide)))
                have k395 := wd_at.pt ew356 k222 (tg_ne tI38 tz181 (tnA2 (show 10147 < 13000 by decide)))
                have k396 := wd_at.pt ew356 k223 (tg_ne tI39 tz181 (tnA2 (show 10148 < 13000 by decide)))
                have k397 := wd_at.pt ew356 k224 (tg_ne tI40 tz181 (tnA2 (show 10149 < 13000 by decide)))
                have k398 := wd_at.pt ew356 k225 (tg_ne tI41 tz181 (tnA2 (show 10151 < 13000 by decide)))
                have k399 := wd_at.pt ew356 k226 (tg_ne tI42 tz181 (tnA2 (show 10152 < 13000 by decide)))
                have k400 := wd_at.pt ew356 k227 (tg_ne tI43 tz181 (tnA2 (show 10153 < 13000 by decide)))
                have k401 := wd_at.pt ew356 k228 (tg_ne tI44 tz181 (tnA2 (show 10154 < 13000 by decide)))
                have k402 := wd_at.pt ew356 k229 (tg_ne tI45 tz181 (tnA2 (show 10156 < 13000 by decide)))
                have k403 := wd_at.pt ew356 k230 (tg_ne tI46 tz181 (tnA2 (show 10157 < 13000 by decide)))
                have k404 := wd_at.pt ew356 k231 (tg_ne tI47 tz181 (tnA2 (show 10158 < 13000 by decide)))
                have k405 := wd_at.pt ew356 k232 (tg_ne tI48 tz181 (tnA2 (show 10159 < 13000 by decide)))
                have k406 : wd_at w355 (sr sc) (.inl (cy 2, 12, .inl (upd g9 (nI t).toNatClampNeg 268435456))) := wd_at.ps ew356 k233
                have fm407 : ∀ k9, k9 < 12 → qp k9 = some (pr k9) ∧ wd_at w355 (pr k9) (.inl (cy 2, 12, .inl (fp k9))) ∧ tg (pr k9) = 11000 + k9 := fun k9 hi9 => ⟨(fm234 k9 hi9).1, wd_at.pt ew356 (fm234 k9 hi9).2.1 (tg_ne (fm234 k9 hi9).2.2 tz181 (tnB (n := 12) hi9 (by decide))), (fm234 k9 hi9).2.2⟩
                have fm408 : ∀ k9, k9 < 12 → qw k9 = some (wr k9) ∧ wd_at w355 (wr k9) (.inl (cy 2, 12, .inl (fw k9))) ∧ tg (wr k9) = 12000 + k9 := fun k9 hi9 => ⟨(fm235 k9 hi9).1, wd_at.pt ew356 (fm235 k9 hi9).2.1 (tg_ne (fm235 k9 hi9).2.2 tz181 (tnB (n := 12) hi9 (by decide))), (fm235 k9 hi9).2.2⟩
                have fm409 : ∀ k9, k9 < 60 ∧ k9 ≠ sc → qs k9 = some (sr k9) ∧ wd_at w355 (sr k9) (.inl (cy 2, 12, .inl (fs k9))) ∧ tg (sr k9) = 13000 + k9 := fun k9 hi9 => ⟨(fm236 k9 hi9).1, wd_at.pt ew356 (fm236 k9 hi9).2.1 (tg_ne (fm236 k9 hi9).2.2 tz181 (tnS hi9.2)), (fm236 k9 hi9).2.2⟩
                have kp410 := kp237.put ew356 (tgT tz181 (by omega))
                refine lv_iinc (v := nI (t + 1)) (lv' := [(4, .int (nI (t + 1))), (0, .ref y), (1, .int (nI pp)), (2, .int x2), (3, .int (nI tw))]) hx hb dX11_stop_130 hl (k := 4) rfl (nI_1 t) (by decide) rfl (fun ls hl => ?_)
                refine lv_goto (tgt := 82) hx hb dX11_stop_133 (by decide) ?_
                exact ih82 (t + 1) (upd g9 (nI t).toNatClampNeg 268435456) w355 (by omega)  k357 k358 k359 k360 k361 k362 k363 k364 k365 k366 k367 k368 k369 k370 k371 k372 k373 k374 k375 k376 k377 k378 k379 k380 k381 k382 k383 k384 k385 k386 k387 k388 k389 k390 k391 k392 k393 k394 k395 k396 k397 k398 k399 k400 k401 k402 k403 k404 k405 k406 fm407 fm408 fm409 kp410 ls (lv_sub hl [1, 2, 3, 4, 0] rfl) H locs hP hD hS
          exact lp82 _ 0 (fs sc) w124 (Nat.zero_add 12)  k126 k127 k128 k129 k130 k131 k132 k133 k134 k135 k136 k137 k138 k139 k140 k141 k142 k143 k144 k145 k146 k147 k148 k149 k150 k151 k152 k153 k154 k155 k156 k157 k158 k159 k160 k161 k162 k163 k164 k165 k166 k167 k168 k169 k170 k171 k172 k173 k174 k180 fm175 fm176 fm182 kp178 ls (lv_sub hl [1, 2, 3, 4, 0] rfl) H locs hP hD hS
        · refine lv_iload_n hx hb dX11_stop_35 rfl (lv_at hl 2 rfl) ?_
          refine lv_iconst (v := 0) hx hb dX11_stop_36 (by decide) ?_
          refine lv_aload_n hx hb dX11_stop_37 rfl (lv_at hl 0 rfl) ?_
          refine x_get (ref := "NoteHouseModel") F hP kI0 rfl (fun _ h => List.mem_cons_of_mem _ (List.mem_append_right _ (h))) 8 (Nat.le_of_ble_eq_true rfl) (List.mem_cons_of_mem _ (List.mem_append_left _ (List.mem_of_getElem? (i := 2) rfl))) rfl rfl dX11_stop_38 ?_
          refine lv_iload_n hx hb dX11_stop_41 rfl (lv_at hl 1 rfl) ?_
          refine x_iald F hP kI6 (vp_in_nI (n := pp) (N := 30) (by omega) (by decide)) dX11_stop_42 ?_
          obtain ⟨elv, ulv, hulv, eulv⟩ := hlo pp hpp
          rw [nI_clamp (n := pp) (by omega), elv]
          refine lv_iconst (v := 1) hx hb dX11_stop_43 (by decide) ?_
          refine lv_isub hx hb dX11_stop_44 ?_
          refine x_callS (n := 3) (As := [.int x2, .int 0, .int ((plv pp) - 1)]) (rest := []) F hP hD hS (g_in l D cy sk sv w x2 0 ((plv pp) - 1)) gX11_stop_X11_in rfl (by decide +kernel) ⟨(Nat.le_of_ble_eq_true rfl), (Nat.le_of_ble_eq_true rfl)⟩ rfl hl.1 (Nat.le_of_ble_eq_true rfl) dX11_stop_45 rfl ⟨(Nat.le_of_ble_eq_true rfl), (Nat.le_of_ble_eq_true rfl)⟩ (fun v412 w413 hp411 H locs hP hD hS => ?_)
          obtain ⟨rfl, rfl⟩ := hp411
          refine W.eq (g2 := F0 m 48 ls [.int (wi x2 0 ((plv pp) - 1))]) rfl (W.widen (k := 0) (n := 0) (Nat.le_of_ble_eq_true rfl) (Nat.le_of_ble_eq_true rfl) ?_)
          refine lv_if_ne (tgt := 53) hx hb dX11_stop_48 (by decide) (fun c_414 => ?_) (fun c_414 => ?_)
          · have hlf : ¬ lf x2 (plv pp) = 0 := by rw [lf_wi eulv hulv]; exact c_414
            refine lv_aload_n hx hb dX11_stop_53 rfl (lv_at hl 0 rfl) ?_
            refine lv_iload_n hx hb dX11_stop_54 rfl (lv_at hl 3 rfl) ?_
            refine lv_iconst (v := 1) hx hb dX11_stop_55 (by decide) ?_
            refine x_callV (n := 2) (As := [.int (nI tw), .int 1]) (rest := []) F hP hD hS (m_sends l D cy sk sv w tg y m2 m3 m4 m5 m6 m8 m9 m10 m11 m12 m13 m14 m17 m18 m19 m20 m21 m22 m23 m24 m29 m30 m31 m32 m33 m34 m35 m36 m37 m39 m40 m41 m42 m43 m44 m45 m46 m47 m48 m49 m51 m52 m53 m54 m56 m57 m58 m59 pc ac sc ln sh gf v0 td v26 v27 v28 v50 f6 qp pr fp qw wr fw (nI tw) 1 kI0 kI5 kI1 kI2 hFPR hFWR (fun b => b = m6) rfl tI0 tI5 tI1 tI2) gX11_stop_X11_sends rfl rfl (by decide +kernel) ⟨(Nat.le_of_ble_eq_true rfl), (Nat.le_of_ble_eq_true rfl)⟩ rfl hl.1 (Nat.le_of_ble_eq_true rfl) kI0 rfl dX11_stop_56 rfl ⟨(Nat.le_of_ble_eq_true rfl), (Nat.le_of_ble_eq_true rfl)⟩ (fun v416 w417 hp415 H locs hP hD hS => ?_)
            obtain ⟨gx418, rfl, kq420, k419⟩ := hp415
            have k421 := kq420.2 _ _ kI0 (tg_ne tI0 tI5 (by decide))
            have k422 := kq420.2 _ _ kI1 (tg_ne tI1 tI5 (by decide))
            have k423 := kq420.2 _ _ kI2 (tg_ne tI2 tI5 (by decide))
            have k424 := kq420.2 _ _ kI3 (tg_ne tI3 tI5 (by decide))
            have k425 := kq420.2 _ _ kI4 (tg_ne tI4 tI5 (by decide))
            have k426 := kq420.2 _ _ kI6 (tg_ne tI6 tI5 (by decide))
            have k427 := kq420.2 _ _ kI7 (tg_ne tI7 tI5 (by decide))
            have k428 := kq420.2 _ _ kI8 (tg_ne tI8 tI5 (by decide))
            have k429 := kq420.2 _ _ kI9 (tg_ne tI9 tI5 (by decide))
            have k430 := kq420.2 _ _ kI10 (tg_ne tI10 tI5 (by decide))
            have k431 := kq420.2 _ _ kI11 (tg_ne tI11 tI5 (by decide))
            have k432 := kq420.2 _ _ kI12 (tg_ne tI12 tI5 (by decide))
            have k433 := kq420.2 _ _ kI13 (tg_ne tI13 tI5 (by decide))
            have k434 := kq420.2 _ _ kI14 (tg_ne tI14 tI5 (by decide))
            have k435 := kq420.2 _ _ kI15 (tg_ne tI15 tI5 (by decide))
            have k436 := kq420.2 _ _ kI16 (tg_ne tI16 tI5 (by decide))
            have k437 := kq420.2 _ _ kI17 (tg_ne tI17 tI5 (by decide))
            have k438 := kq420.2 _ _ kI18 (tg_ne tI18 tI5 (by decide))
            have k439 := kq420.2 _ _ kI19 (tg_ne tI19 tI5 (by decide))
            have k440 := kq420.2 _ _ kI20 (tg_ne tI20 tI5 (by decide))
            have k441 := kq420.2 _ _ kI21 (tg_ne tI21 tI5 (by decide))
            have k442 := kq420.2 _ _ kI22 (tg_ne tI22 tI5 (by decide))
            have k443 := kq420.2 _ _ kI23 (tg_ne tI23 tI5 (by decide))
            have k444 := kq420.2 _ _ kI24 (tg_ne tI24 tI5 (by decide))
            have k445 := kq420.2 _ _ kI25 (tg_ne tI25 tI5 (by decide))
            have k446 := kq420.2 _ _ kI26 (tg_ne tI26 tI5 (by decide))
            have k447 := kq420.2 _ _ kI27 (tg_ne tI27 tI5 (by decide))
            have k448 := kq420.2 _ _ kI28 (tg_ne tI28 tI5 (by decide))
            have k449 := kq420.2 _ _ kI29 (tg_ne tI29 tI5 (by decide))
            have k450 := kq420.2 _ _ kI30 (tg_ne tI30 tI5 (by decide))
            have k451 := kq420.2 _ _ kI31 (tg_ne tI31 tI5 (by decide))
            have k452 := kq420.2 _ _ kI32 (tg_ne tI32 tI5 (by decide))
            have k453 := kq420.2 _ _ kI33 (tg_ne tI33 tI5 (by decide))
            have k454 := kq420.2 _ _ kI34 (tg_ne tI34 tI5 (by decide))
            have k455 := kq420.2 _ _ kI35 (tg_ne tI35 tI5 (by decide))
            have k456 := kq420.2 _ _ kI36 (tg_ne tI36 tI5 (by decide))
            have k457 := kq420.2 _ _ kI37 (tg_ne tI37 tI5 (by decide))
            have k458 := kq420.2 _ _ kI38 (tg_ne tI38 tI5 (by decide))
            have k459 := kq420.2 _ _ kI39 (tg_ne tI39 tI5 (by decide))
            have k460 := kq420.2 _ _ kI40 (tg_ne tI40 tI5 (by decide))
            have k461 := kq420.2 _ _ kI41 (tg_ne tI41 tI5 (by decide))
            have k462 := kq420.2 _ _ kI42 (tg_ne tI42 tI5 (by decide))
            have k463 := kq420.2 _ _ kI43 (tg_ne tI43 tI5 (by decide))
            have k464 := kq420.2 _ _ kI44 (tg_ne tI44 tI5 (by decide))
            have k465 := kq420.2 _ _ kI45 (tg_ne tI45 tI5 (by decide))
            have k466 := kq420.2 _ _ kI46 (tg_ne tI46 tI5 (by decide))
            have k467 := kq420.2 _ _ kI47 (tg_ne tI47 tI5 (by decide))
            have k468 := kq420.2 _ _ kI48 (tg_ne tI48 tI5 (by decide))
            have fm469 : ∀ k9, k9 < 12 → qp k9 = some (pr k9) ∧ wd_at w417 (pr k9) (.inl (cy 2, 12, .inl (fp k9))) ∧ tg (pr k9) = 11000 + k9 := fun k9 hi9 => ⟨(hFPR k9 hi9).1, kq420.2 _ _ (hFPR k9 hi9).2.1 (tg_ne (hFPR k9 hi9).2.2 tI5 (tnA (show 10106 < 11000 by decide))), (hFPR k9 hi9).2.2⟩
            have fm470 : ∀ k9, k9 < 12 → qw k9 = some (wr k9) ∧ wd_at w417 (wr k9) (.inl (cy 2, 12, .inl (fw k9))) ∧ tg (wr k9) = 12000 + k9 := fun k9 hi9 => ⟨(hFWR k9 hi9).1, kq420.2 _ _ (hFWR k9 hi9).2.1 (tg_ne (hFWR k9 hi9).2.2 tI5 (tnA (show 10106 < 12000 by decide))), (hFWR k9 hi9).2.2⟩
            have fm471 : ∀ k9, k9 < 60 → qs k9 = some (sr k9) ∧ wd_at w417 (sr k9) (.inl (cy 2, 12, .inl (fs k9))) ∧ tg (sr k9) = 13000 + k9 := fun k9 hi9 => ⟨(hFSR k9 hi9).1, kq420.2 _ _ (hFSR k9 hi9).2.1 (tg_ne (hFSR k9 hi9).2.2 tI5 (tnA (show 10106 < 13000 by decide))), (hFSR k9 hi9).2.2⟩
            have kp472 := kp0.tr kq420 (fun b9 hm q9 => (fun q9 => q9 ▸ (tgT tI5 (by decide))) q9)
            refine W.eq (g2 := F0 m 59 ls []) rfl (W.widen (k := 0) (n := 0) (Nat.le_of_ble_eq_true rfl) (Nat.le_of_ble_eq_true rfl) ?_)
            refine lv_aload_n hx hb dX11_stop_59 rfl (lv_at hl 0 rfl) ?_
            refine x_get (ref := "NoteHouseModel") F hP k421 rfl (fun _ h => List.mem_cons_of_mem _ (List.mem_append_right _ (h))) 21 (Nat.le_of_ble_eq_true rfl) (List.mem_cons_of_mem _ (List.mem_append_left _ (List.mem_of_getElem? (i := 3) rfl))) rfl rfl dX11_stop_60 ?_
            refine lv_aload_n hx hb dX11_stop_63 rfl (lv_at hl 0 rfl) ?_
            refine x_get (ref := "NoteHouseModel") F hP k421 rfl (fun _ h => List.mem_cons_of_mem _ (List.mem_append_right _ (h))) 16 (Nat.le_of_ble_eq_true rfl) (List.mem_cons_of_mem _ (List.mem_append_left _ (List.mem_of_getElem? (i := 0) rfl))) rfl rfl dX11_stop_64 ?_
            refine lv_iload_n hx hb dX11_stop_67 rfl (lv_at hl 1 rfl) ?_
            refine y_iast F hP hD hS k437 (vp_in_nI (n := sc) (N := 60) (by omega) (by decide)) dX11_stop_68 (fun w473 ew474 H locs hP hD hS => ?_)
            have k475 := wd_at.pt ew474 k421 (tg_ne tI0 tI17 (by decide))
            have k476 := wd_at.pt ew474 k422 (tg_ne tI1 tI17 (by decide))
            have k477 := wd_at.pt ew474 k423 (tg_ne tI2 tI17 (by decide))
            have k478 := wd_at.pt ew474 k424 (tg_ne tI3 tI17 (by decide))
            have k479 := wd_at.pt ew474 k425 (tg_ne tI4 tI17 (by decide))
            have k480 := wd_at.pt ew474 k419 (tg_ne tI5 tI17 (by decide))
            have k481 := wd_at.pt ew474 k426 (tg_ne tI6 tI17 (by decide))
            have k482 := wd_at.pt ew474 k427 (tg_ne tI7 tI17 (by decide))
            have k483 := wd_at.pt ew474 k428 (tg_ne tI8 tI17 (by decide))
            have k484 := wd_at.pt ew474 k429 (tg_ne tI9 tI17 (by decide))
            have k485 := wd_at.pt ew474 k430 (tg_ne tI10 tI17 (by decide))
            have k486 := wd_at.pt ew474 k431 (tg_ne tI11 tI17 (by decide))
            have k487 := wd_at.pt ew474 k432 (tg_ne tI12 tI17 (by decide))
            have k488 := wd_at.pt ew474 k433 (tg_ne tI13 tI17 (by decide))
            have k489 := wd_at.pt ew474 k434 (tg_ne tI14 tI17 (by decide))
            have k490 := wd_at.pt ew474 k435 (tg_ne tI15 tI17 (by decide))
            have k491 := wd_at.pt ew474 k436 (tg_ne tI16 tI17 (by decide))
            have k492 : wd_at w473 m21 (.inl (cy 2, 60, .inl (upd f21 (nI sc).toNatClampNeg (nI pp)))) := wd_at.ps ew474 k437
            have k493 := wd_at.pt ew474 k438 (tg_ne tI18 tI17 (by decide))
            have k494 := wd_at.pt ew474 k439 (tg_ne tI19 tI17 (by decide))
            have k495 := wd_at.pt ew474 k440 (tg_ne tI20 tI17 (by decide))
            have k496 := wd_at.pt ew474 k441 (tg_ne tI21 tI17 (by decide))
            have k497 := wd_at.pt ew474 k442 (tg_ne tI22 tI17 (by decide))
            have k498 := wd_at.pt ew474 k443 (tg_ne tI23 tI17 (by decide))
            have k499 := wd_at.pt ew474 k444 (tg_ne tI24 tI17 (by decide))
            have k500 := wd_at.pt ew474 k445 (tg_ne tI25 tI17 (by decide))
            have k501 := wd_at.pt ew474 k446 (tg_ne tI26 tI17 (by decide))
            have k502 := wd_at.pt ew474 k447 (tg_ne tI27 tI17 (by decide))
            have k503 := wd_at.pt ew474 k448 (tg_ne tI28 tI17 (by decide))
            have k504 := wd_at.pt ew474 k449 (tg_ne tI29 tI17 (by decide))
            have k505 := wd_at.pt ew474 k450 (tg_ne tI30 tI17 (by decide))
            have k506 := wd_at.pt ew474 k451 (tg_ne tI31 tI17 (by decide))
            have k507 := wd_at.pt ew474 k452 (tg_ne tI32 tI17 (by decide))
            have k508 := wd_at.pt ew474 k453 (tg_ne tI33 tI17 (by decide))
            have k509 := wd_at.pt ew474 k454 (tg_ne tI34 tI17 (by decide))
            have k510 := wd_at.pt ew474 k455 (tg_ne tI35 tI17 (by decide))
            have k511 := wd_at.pt ew474 k456 (tg_ne tI36 tI17 (by decide))
            have k512 := wd_at.pt ew474 k457 (tg_ne tI37 tI17 (by decide))
            have k513 := wd_at.pt ew474 k458 (tg_ne tI38 tI17 (by decide))
            have k514 := wd_at.pt ew474 k459 (tg_ne tI39 tI17 (by decide))
            have k515 := wd_at.pt ew474 k460 (tg_ne tI40 tI17 (by decide))
            have k516 := wd_at.pt ew474 k461 (tg_ne tI41 tI17 (by decide))
            have k517 := wd_at.pt ew474 k462 (tg_ne tI42 tI17 (by decide))
            have k518 := wd_at.pt ew474 k463 (tg_ne tI43 tI17 (by decide))
            have k519 := wd_at.pt ew474 k464 (tg_ne tI44 tI17 (by decide))
            have k520 := wd_at.pt ew474 k465 (tg_ne tI45 tI17 (by decide))
            have k521 := wd_at.pt ew474 k466 (tg_ne tI46 tI17 (by decide))
            have k522 := wd_at.pt ew474 k467 (tg_ne tI47 tI17 (by decide))
            have k523 := wd_at.pt ew474 k468 (tg_ne tI48 tI17 (by decide))
            have fm524 : ∀ k9, k9 < 12 → qp k9 = some (pr k9) ∧ wd_at w473 (pr k9) (.inl (cy 2, 12, .inl (fp k9))) ∧ tg (pr k9) = 11000 + k9 := fun k9 hi9 => ⟨(fm469 k9 hi9).1, wd_at.pt ew474 (fm469 k9 hi9).2.1 (tg_ne (fm469 k9 hi9).2.2 tI17 (tnA (show 10121 < 11000 by decide))), (fm469 k9 hi9).2.2⟩
            have fm525 : ∀ k9, k9 < 12 → qw k9 = some (wr k9) ∧ wd_at w473 (wr k9) (.inl (cy 2, 12, .inl (fw k9))) ∧ tg (wr k9) = 12000 + k9 := fun k9 hi9 => ⟨(fm470 k9 hi9).1, wd_at.pt ew474 (fm470 k9 hi9).2.1 (tg_ne (fm470 k9 hi9).2.2 tI17 (tnA (show 10121 < 12000 by decide))), (fm470 k9 hi9).2.2⟩
            have fm526 : ∀ k9, k9 < 60 → qs k9 = some (sr k9) ∧ wd_at w473 (sr k9) (.inl (cy 2, 12, .inl (fs k9))) ∧ tg (sr k9) = 13000 + k9 := fun k9 hi9 => ⟨(fm471 k9 hi9).1, wd_at.pt ew474 (fm471 k9 hi9).2.1 (tg_ne (fm471 k9 hi9).2.2 tI17 (tnA (show 10121 < 13000 by decide))), (fm471 k9 hi9).2.2⟩
            have kp527 := kp472.put ew474 (tgT tI17 (by decide))
            refine lv_aload_n hx hb dX11_stop_69 rfl (lv_at hl 0 rfl) ?_
            refine x_get (ref := "NoteHouseModel") F hP k475 rfl (fun _ h => List.mem_cons_of_mem _ (List.mem_append_right _ (h))) 22 (Nat.le_of_ble_eq_true rfl) (List.mem_cons_of_mem _ (List.mem_append_left _ (List.mem_of_getElem? (i := 4) rfl))) rfl rfl dX11_stop_70 ?_
            refine lv_aload_n hx hb dX11_stop_73 rfl (lv_at hl 0 rfl) ?_
            refine x_get (ref := "NoteHouseModel") F hP k475 rfl (fun _ h => List.mem_cons_of_mem _ (List.mem_append_right _ (h))) 16 (Nat.le_of_ble_eq_true rfl) (List.mem_cons_of_mem _ (List.mem_append_left _ (List.mem_of_getElem? (i := 0) rfl))) rfl rfl dX11_stop_74 ?_
            refine lv_iload_n hx hb dX11_stop_77 rfl (lv_at hl 2 rfl) ?_
            refine y_iast F hP hD hS k493 (vp_in_nI (n := sc) (N := 60) (by omega) (by decide)) dX11_stop_78 (fun w528 ew529 H locs hP hD hS => ?_)
            have k530 := wd_at.pt ew529 k475 (tg_ne tI0 tI18 (by decide))
            have k531 := wd_at.pt ew529 k476 (tg_ne tI1 tI18 (by decide))
            have k532 := wd_at.pt ew529 k477 (tg_ne tI2 tI18 (by decide))
            have k533 := wd_at.pt ew529 k478 (tg_ne tI3 tI18 (by decide))
            have k534 := wd_at.pt ew529 k479 (tg_ne tI4 tI18 (by decide))
            have k535 := wd_at.pt ew529 k480 (tg_ne tI5 tI18 (by decide))
            have k536 := wd_at.pt ew529 k481 (tg_ne tI6 tI18 (by decide))
            have k537 := wd_at.pt ew529 k482 (tg_ne tI7 tI18 (by decide))
            have k538 := wd_at.pt ew529 k483 (tg_ne tI8 tI18 (by decide))
            have k539 := wd_at.pt ew529 k484 (tg_ne tI9 tI18 (by decide))
            have k540 := wd_at.pt ew529 k485 (tg_ne tI10 tI18 (by decide))
            have k541 := wd_at.pt ew529 k486 (tg_ne tI11 tI18 (by decide))
            have k542 := wd_at.pt ew529 k487 (tg_ne tI12 tI18 (by decide))
            have k543 := wd_at.pt ew529 k488 (tg_ne tI13 tI18 (by decide))
            have k544 := wd_at.pt ew529 k489 (tg_ne tI14 tI18 (by decide))
            have k545 := wd_at.pt ew529 k490 (tg_ne tI15 tI18 (by decide))
            have k546 := wd_at.pt ew529 k491 (tg_ne tI16 tI18 (by decide))
            have k547 := wd_at.pt ew529 k492 (tg_ne tI17 tI18 (by decide))
            have k548 : wd_at w528 m22 (.inl (cy 2, 60, .inl (upd f22 (nI sc).toNatClampNeg x2))) := wd_at.ps ew529 k493
            have k549 := wd_at.pt ew529 k494 (tg_ne tI19 tI18 (by decide))
            have k550 := wd_at.pt ew529 k495 (tg_ne tI20 tI18 (by decide))
            have k551 := wd_at.pt ew529 k496 (tg_ne tI21 tI18 (by decide))
            have k552 := wd_at.pt ew529 k497 (tg_ne tI22 tI18 (by decide))
            have k553 := wd_at.pt ew529 k498 (tg_ne tI23 tI18 (by decide))
            have k554 := wd_at.pt ew529 k499 (tg_ne tI24 tI18 (by decide))
            have k555 := wd_at.pt ew529 k500 (tg_ne tI25 tI18 (by decide))
            have k556 := wd_at.pt ew529 k501 (tg_ne tI26 tI18 (by decide))
            have k557 := wd_at.pt ew529 k502 (tg_ne tI27 tI18 (by decide))
            have k558 := wd_at.pt ew529 k503 (tg_ne tI28 tI18 (by decide))
            have k559 := wd_at.pt ew529 k504 (tg_ne tI29 tI18 (by decide))
            have k560 := wd_at.pt ew529 k505 (tg_ne tI30 tI18 (by decide))
            have k561 := wd_at.pt ew529 k506 (tg_ne tI31 tI18 (by decide))
            have k562 := wd_at.pt ew529 k507 (tg_ne tI32 tI18 (by decide))
            have k563 := wd_at.pt ew529 k508 (tg_ne tI33 tI18 (by decide))
            have k564 := wd_at.pt ew529 k509 (tg_ne tI34 tI18 (by decide))
            have k565 := wd_at.pt ew529 k510 (tg_ne tI35 tI18 (by decide))
            have k566 := wd_at.pt ew529 k511 (tg_ne tI36 tI18 (by decide))
            have k567 := wd_at.pt ew529 k512 (tg_ne tI37 tI18 (by decide))
            have k568 := wd_at.pt ew529 k513 (tg_ne tI38 tI18 (by decide))
            have k569 := wd_at.pt ew529 k514 (tg_ne tI39 tI18 (by decide))
            have k570 := wd_at.pt ew529 k515 (tg_ne tI40 tI18 (by decide))
            have k571 := wd_at.pt ew529 k516 (tg_ne tI41 tI18 (by decide))
            have k572 := wd_at.pt ew529 k517 (tg_ne tI42 tI18 (by decide))
            have k573 := wd_at.pt ew529 k518 (tg_ne tI43 tI18 (by decide))
            have k574 := wd_at.pt ew529 k519 (tg_ne tI44 tI18 (by decide))
            have k575 := wd_at.pt ew529 k520 (tg_ne tI45 tI18 (by decide))
            have k576 := wd_at.pt ew529 k521 (tg_ne tI46 tI18 (by decide))
            have k577 := wd_at.pt ew529 k522 (tg_ne tI47 tI18 (by decide))
            have k578 := wd_at.pt ew529 k523 (tg_ne tI48 tI18 (by decide))
            have fm579 : ∀ k9, k9 < 12 → qp k9 = some (pr k9) ∧ wd_at w528 (pr k9) (.inl (cy 2, 12, .inl (fp k9))) ∧ tg (pr k9) = 11000 + k9 := fun k9 hi9 => ⟨(fm524 k9 hi9).1, wd_at.pt ew529 (fm524 k9 hi9).2.1 (tg_ne (fm524 k9 hi9).2.2 tI18 (tnA (show 10122 < 11000 by decide))), (fm524 k9 hi9).2.2⟩
            have fm580 : ∀ k9, k9 < 12 → qw k9 = some (wr k9) ∧ wd_at w528 (wr k9) (.inl (cy 2, 12, .inl (fw k9))) ∧ tg (wr k9) = 12000 + k9 := fun k9 hi9 => ⟨(fm525 k9 hi9).1, wd_at.pt ew529 (fm525 k9 hi9).2.1 (tg_ne (fm525 k9 hi9).2.2 tI18 (tnA (show 10122 < 12000 by decide))), (fm525 k9 hi9).2.2⟩
            have fm581 : ∀ k9, k9 < 60 → qs k9 = some (sr k9) ∧ wd_at w528 (sr k9) (.inl (cy 2, 12, .inl (fs k9))) ∧ tg (sr k9) = 13000 + k9 := fun k9 hi9 => ⟨(fm526 k9 hi9).1, wd_at.pt ew529 (fm526 k9 hi9).2.1 (tg_ne (fm526 k9 hi9).2.2 tI18 (tnA (show 10122 < 13000 by decide))), (fm526 k9 hi9).2.2⟩
            have kp582 := kp527.put ew529 (tgT tI18 (by decide))
            have pr583 := (fm581 sc (by omega)).1
            have k584 := (fm581 sc (by omega)).2.1
            have tz585 := (fm581 sc (by omega)).2.2
            have fm586 : ∀ k9, k9 < 60 ∧ k9 ≠ sc → qs k9 = some (sr k9) ∧ wd_at w528 (sr k9) (.inl (cy 2, 12, .inl (fs k9))) ∧ tg (sr k9) = 13000 + k9 := fun k9 hi8 => fm581 k9 hi8.1
            refine lv_iconst (v := 0) hx hb dX11_stop_79 (by decide) ?_
            refine lv_istore (lv' := [(4, .int 0), (0, .ref y), (1, .int (nI pp)), (2, .int x2), (3, .int (nI tw))]) hx hb dX11_stop_80 hl (by decide) rfl (fun ls hl => ?_)
            have lp82 : ∀ (N : Nat) (t : Nat) (g9 : Nat → Int32) (w587 : Wd), (t + N = 12) → (wd_at w587 y (.inr (11, [.int v0, .int td, .ref m2, .ref m3, .ref m4, .ref m5, .ref m6, .int (nI pc), .ref m8, .ref m9, .ref m10, .ref m11, .ref m12, .ref m13, .ref m14, .int (nI ac), .int (nI sc), .ref m17, .ref m18, .ref m19, .ref m20, .ref m21, .ref m22, .ref m23, .ref m24, .int (nI ln), .int v26, .int v27, .int v28, .ref m29, .ref m30, .ref m31, .ref m32, .ref m33, .ref m34, .ref m35, .ref m36, .ref m37, .int (nI sh), .ref m39, .ref m40, .ref m41, .ref m42, .ref m43, .ref m44, .ref m45, .ref m46, .ref m47, .ref m48, .ref m49, .int v50, .ref m51, .ref m52, .ref m53, .ref m54, .int (nI gf), .ref m56, .ref m57, .ref m58, .ref m59]))) → (wd_at w587 m2 (.inl (cy 10, 12, .inr (.inr (.inr (.inr qp)))))) → (wd_at w587 m3 (.inl (cy 10, 12, .inr (.inr (.inr (.inr qw)))))) → (wd_at w587 m4 (.inl (cy 2, 12, .inl f4))) → (wd_at w587 m5 (.inl (cy 2, 12, .inl f5))) → (wd_at w587 m6 (.inl (cy 2, 12, .inl gx418))) → (wd_at w587 m8 (.inl (cy 2, 30, .inl f8))) → (wd_at w587 m9 (.inl (cy 2, 30, .inl f9))) → (wd_at w587 m10 (.inl (cy 2, 30, .inl f10))) → (wd_at w587 m11 (.inl (cy 2, 30, .inl f11))) → (wd_at w587 m12 (.inl (cy 2, 30, .inl f12))) → (wd_at w587 m13 (.inl (cy 2, 30, .inl f13))) → (wd_at w587 m14 (.inl (cy 2, 30, .inl f14))) → (wd_at w587 m17 (.inl (cy 2, 60, .inl f17))) → (wd_at w587 m18 (.inl (cy 2, 60, .inl f18))) → (wd_at w587 m19 (.inl (cy 2, 60, .inl f19))) → (wd_at w587 m20 (.inl (cy 4, 60, .inl f20))) → (wd_at w587 m21 (.inl (cy 2, 60, .inl (upd f21 (nI sc).toNatClampNeg (nI pp))))) → (wd_at w587 m22 (.inl (cy 2, 60, .inl (upd f22 (nI sc).toNatClampNeg x2)))) → (wd_at w587 m23 (.inl (cy 10, 60, .inr (.inr (.inr (.inr qs)))))) → (wd_at w587 m24 (.inl (cy 0, 300, .inl f24))) → (wd_at w587 m29 (.inl (cy 2, 12, .inl f29))) → (wd_at w587 m30 (.inl (cy 2, 156, .inl f30))) → (wd_at w587 m31 (.inl (cy 2, 156, .inl f31))) → (wd_at w587 m32 (.inl (cy 2, 936, .inl f32))) → (wd_at w587 m33 (.inl (cy 2, 936, .inl f33))) → (wd_at w587 m34 (.inl (cy 2, 936, .inl f34))) → (wd_at w587 m35 (.inl (cy 2, 5, .inl f35))) → (wd_at w587 m36 (.inl (cy 4, 5, .inl f36))) → (wd_at w587 m37 (.inl (cy 2, 5, .inl f37))) → (wd_at w587 m39 (.inl (cy 2, 200, .inl f39))) → (wd_at w587 m40 (.inl (cy 2, 200, .inl f40))) → (wd_at w587 m41 (.inl (cy 2, 200, .inl f41))) → (wd_at w587 m42 (.inl (cy 2, 200, .inl f42))) → (wd_at w587 m43 (.inl (cy 2, 200, .inl f43))) → (wd_at w587 m44 (.inl (cy 2, 200, .inl f44))) → (wd_at w587 m45 (.inl (cy 2, 200, .inl f45))) → (wd_at w587 m46 (.inl (cy 2, 200, .inl f46))) → (wd_at w587 m47 (.inl (cy 2, 200, .inl f47))) → (wd_at w587 m48 (.inl (cy 3, 200, .inr (.inl f48)))) → (wd_at w587 m49 (.inl (cy 2, 12, .inl f49))) → (wd_at w587 m51 (.inl (cy 2, 200, .inl f51))) → (wd_at w587 m52 (.inl (cy 3, 200, .inr (.inl f52)))) → (wd_at w587 m53 (.inl (cy 3, 12, .inr (.inl f53)))) → (wd_at w587 m54 (.inl (cy 3, 12, .inr (.inl f54)))) → (wd_at w587 m56 (.inl (cy 2, 60, .inl f56))) → (wd_at w587 m57 (.inl (cy 2, 60, .inl f57))) → (wd_at w587 m58 (.inl (cy 2, 60, .inl f58))) → (wd_at w587 m59 (.inl (cy 3, 60, .inr (.inl f59)))) → (wd_at w587 (sr sc) (.inl (cy 2, 12, .inl g9))) → (∀ k9, k9 < 12 → qp k9 = some (pr k9) ∧ wd_at w587 (pr k9) (.inl (cy 2, 12, .inl (fp k9))) ∧ tg (pr k9) = 11000 + k9) → (∀ k9, k9 < 12 → qw k9 = some (wr k9) ∧ wd_at w587 (wr k9) (.inl (cy 2, 12, .inl (fw k9))) ∧ tg (wr k9) = 12000 + k9) → (∀ k9, k9 < 60 ∧ k9 ≠ sc → qs k9 = some (sr k9) ∧ wd_at w587 (sr k9) (.inl (cy 2, 12, .inl (fs k9))) ∧ tg (sr k9) = 13000 + k9) → (wd_kp (fun b => 10000 ≤ tg b) w w587) → ∀ (ls : Array Slot), lv_has ls 5 [(0, .ref y), (1, .int (nI pp)), (2, .int x2), (3, .int (nI tw)), (4, .int (nI t))] → Wv p l e ({ frames := 1, cells := 0, slots := 0, locals := 26 }) s m args below meth c D A (0) (0) Q w587 (F0 m 82 ls []) := by
              intro N
              induction N with
              | zero =>
                intro t g9 w587 hN82 k588 k589 k590 k591 k592 k593 k594 k595 k596 k597 k598 k599 k600 k601 k602 k603 k604 k605 k606 k607 k608 k609 k610 k611 k612 k613 k614 k615 k616 k617 k618 k619 k620 k621 k622 k623 k624 k625 k626 k627 k628 k629 k630 k631 k632 k633 k634 k635 k636 k637 fm638 fm639 fm640 kp641 ls hl H locs hP hD hS
                refine lv_iload hx hb dX11_stop_82 (lv_at hl 4 rfl) ?_
                refine lv_bipush (v := 12) hx hb dX11_stop_84 (by decide) ?_
                refine lv_icmp_ge (tgt := 136) hx hb dX11_stop_86 (by decide) (fun c_642 => ?_) (fun c_642 => absurd (nI_le (a := 12) (b := t) (by omega) (by omega)) c_642)
                refine lv_aload_n hx hb dX11_stop_136 rfl (lv_at hl 0 rfl) ?_
                refine lv_dup hx hb dX11_stop_137 rfl ?_
                refine x_get (ref := "NoteHouseModel") F hP k588 rfl (fun _ h => List.mem_cons_of_mem _ (List.mem_append_right _ (h))) 16 (Nat.le_of_ble_eq_true rfl) (List.mem_cons_of_mem _ (List.mem_append_left _ (List.mem_of_getElem? (i := 0) rfl))) rfl rfl dX11_stop_138 ?_
                refine lv_iconst (v := 1) hx hb dX11_stop_141 (by decide) ?_
                refine lv_iadd hx hb dX11_stop_142 ?_
                rw [show ((nI sc) + 1 : Int32) = nI (sc + 1) from nI_add sc 1]
                refine y_put (ref := "NoteHouseModel") F hP hD hS k588 rfl (fun _ h => List.mem_cons_of_mem _ (List.mem_append_right _ (h))) tyX11_ok nmX11 16 (Nat.le_of_ble_eq_true rfl) (List.mem_cons_of_mem _ (List.mem_append_left _ (List.mem_of_getElem? (i := 0) rfl))) rfl rfl rfl rfl (Nat.le_of_ble_eq_true rfl) dX11_stop_143 (fun w643 ew644 H locs hP hD hS => ?_)
                have k645 : wd_at w643 y (.inr (11, [.int v0, .int td, .ref m2, .ref m3, .ref m4, .ref m5, .ref m6, .int (nI pc), .ref m8, .ref m9, .ref m10, .ref m11, .ref m12, .ref m13, .ref m14, .int (nI ac), .int (nI (sc + 1)), .ref m17, .ref m18, .ref m19, .ref m20, .ref m21, .ref m22, .ref m23, .ref m24, .int (nI ln), .int v26, .int v27, .int v28, .ref m29, .ref m30, .ref m31, .ref m32, .ref m33, .ref m34, .ref m35, .ref m36, .ref m37, .int (nI sh), .ref m39, .ref m40, .ref m41, .ref m42, .ref m43, .ref m44, .ref m45, .ref m46, .ref m47, .ref m48, .ref m49, .int v50, .ref m51, .ref m52, .ref m53, .ref m54, .int (nI gf), .ref m56, .ref m57, .ref m58, .ref m59])) := wd_at.ps ew644 k588
                have k646 := wd_at.pt ew644 k589 (tg_ne tI1 tI0 (by decide))
                have k647 := wd_at.pt ew644 k590 (tg_ne tI2 tI0 (by decide))
                have k648 := wd_at.pt ew644 k591 (tg_ne tI3 tI0 (by decide))
                have k649 := wd_at.pt ew644 k592 (tg_ne tI4 tI0 (by decide))
                have k650 := wd_at.pt ew644 k593 (tg_ne tI5 tI0 (by decide))
                have k651 := wd_at.pt ew644 k594 (tg_ne tI6 tI0 (by decide))
                have k652 := wd_at.pt ew644 k595 (tg_ne tI7 tI0 (by decide))
                have k653 := wd_at.pt ew644 k596 (tg_ne tI8 tI0 (by decide))
                have k654 := wd_at.pt ew644 k597 (tg_ne tI9 tI0 (by decide))
                have k655 := wd_at.pt ew644 k598 (tg_ne tI10 tI0 (by decide))
                have k656 := wd_at.pt ew644 k599 (tg_ne tI11 tI0 (by decide))
                have k657 := wd_at.pt ew644 k600 (tg_ne tI12 tI0 (by decide))
                have k658 := wd_at.pt ew644 k601 (tg_ne tI13 tI0 (by decide))
                have k659 := wd_at.pt ew644 k602 (tg_ne tI14 tI0 (by decide))
                have k660 := wd_at.pt ew644 k603 (tg_ne tI15 tI0 (by decide))
                have k661 := wd_at.pt ew644 k604 (tg_ne tI16 tI0 (by decide))
                have k662 := wd_at.pt ew644 k605 (tg_ne tI17 tI0 (by decide))
                have k663 := wd_at.pt ew644 k606 (tg_ne tI18 tI0 (by decide))
                have k664 := wd_at.pt ew644 k607 (tg_ne tI19 tI0 (by decide))
                have k665 := wd_at.pt ew644 k608 (tg_ne tI20 tI0 (by decide))
                have k666 := wd_at.pt ew644 k609 (tg_ne tI21 tI0 (by decide))
                have k667 := wd_at.pt ew644 k610 (tg_ne tI22 tI0 (by decide))
                have k668 := wd_at.pt ew644 k611 (tg_ne tI23 tI0 (by decide))
                have k669 := wd_at.pt ew644 k612 (tg_ne tI24 tI0 (by decide))
                have k670 := wd_at.pt ew644 k613 (tg_ne tI25 tI0 (by decide))
                have k671 := wd_at.pt ew644 k614 (tg_ne tI26 tI0 (by decide))
                have k672 := wd_at.pt ew644 k615 (tg_ne tI27 tI0 (by decide))
                have k673 := wd_at.pt ew644 k616 (tg_ne tI28 tI0 (by decide))
                have k674 := wd_at.pt ew644 k617 (tg_ne tI29 tI0 (by decide))
                have k675 := wd_at.pt ew644 k618 (tg_ne tI30 tI0 (by decide))
                have k676 := wd_at.pt ew644 k619 (tg_ne tI31 tI0 (by decide))
                have k677 := wd_at.pt ew644 k620 (tg_ne tI32 tI0 (by decide))
                have k678 := wd_at.pt ew644 k621 (tg_ne tI33 tI0 (by decide))
                have k679 := wd_at.pt ew644 k622 (tg_ne tI34 tI0 (by decide))
                have k680 := wd_at.pt ew644 k623 (tg_ne tI35 tI0 (by decide))
                have k681 := wd_at.pt ew644 k624 (tg_ne tI36 tI0 (by decide))
                have k682 := wd_at.pt ew644 k625 (tg_ne tI37 tI0 (by decide))
                have k683 := wd_at.pt ew644 k626 (tg_ne tI38 tI0 (by decide))
                have k684 := wd_at.pt ew644 k627 (tg_ne tI39 tI0 (by decide))
                have k685 := wd_at.pt ew644 k628 (tg_ne tI40 tI0 (by decide))
                have k686 := wd_at.pt ew644 k629 (tg_ne tI41 tI0 (by decide))
                have k687 := wd_at.pt ew644 k630 (tg_ne tI42 tI0 (by decide))
                have k688 := wd_at.pt ew644 k631 (tg_ne tI43 tI0 (by decide))
                have k689 := wd_at.pt ew644 k632 (tg_ne tI44 tI0 (by decide))
                have k690 := wd_at.pt ew644 k633 (tg_ne tI45 tI0 (by decide))
                have k691 := wd_at.pt ew644 k634 (tg_ne tI46 tI0 (by decide))
                have k692 := wd_at.pt ew644 k635 (tg_ne tI47 tI0 (by decide))
                have k693 := wd_at.pt ew644 k636 (tg_ne tI48 tI0 (by decide))
                have k694 := wd_at.pt ew644 k637 (tg_ne tz585 tI0 (tnA (show 10000 < 13000 by decide)))
                have fm695 : ∀ k9, k9 < 12 → qp k9 = some (pr k9) ∧ wd_at w643 (pr k9) (.inl (cy 2, 12, .inl (fp k9))) ∧ tg (pr k9) = 11000 + k9 := fun k9 hi9 => ⟨(fm638 k9 hi9).1, wd_at.pt ew644 (fm638 k9 hi9).2.1 (tg_ne (fm638 k9 hi9).2.2 tI0 (tnA (show 10000 < 11000 by decide))), (fm638 k9 hi9).2.2⟩
                have fm696 : ∀ k9, k9 < 12 → qw k9 = some (wr k9) ∧ wd_at w643 (wr k9) (.inl (cy 2, 12, .inl (fw k9))) ∧ tg (wr k9) = 12000 + k9 := fun k9 hi9 => ⟨(fm639 k9 hi9).1, wd_at.pt ew644 (fm639 k9 hi9).2.1 (tg_ne (fm639 k9 hi9).2.2 tI0 (tnA (show 10000 < 12000 by decide))), (fm639 k9 hi9).2.2⟩
                have fm697 : ∀ k9, k9 < 60 ∧ k9 ≠ sc → qs k9 = some (sr k9) ∧ wd_at w643 (sr k9) (.inl (cy 2, 12, .inl (fs k9))) ∧ tg (sr k9) = 13000 + k9 := fun k9 hi9 => ⟨(fm640 k9 hi9).1, wd_at.pt ew644 (fm640 k9 hi9).2.1 (tg_ne (fm640 k9 hi9).2.2 tI0 (tnA (show 10000 < 13000 by decide))), (fm640 k9 hi9).2.2⟩
                have kp698 := kp641.put ew644 (tgT tI0 (by decide))
                refine lv_aload_n hx hb dX11_stop_146 rfl (lv_at hl 0 rfl) ?_
                refine x_get (ref := "NoteHouseModel") F hP k645 rfl (fun _ h => List.mem_cons_of_mem _ (List.mem_append_right _ (h))) 16 (Nat.le_of_ble_eq_true rfl) (List.mem_cons_of_mem _ (List.mem_append_left _ (List.mem_of_getElem? (i := 0) rfl))) rfl rfl dX11_stop_147 ?_
                refine lv_iconst (v := 1) hx hb dX11_stop_150 (by decide) ?_
                refine lv_isub hx hb dX11_stop_151 ?_
                rw [show ((nI (sc + 1)) - 1 : Int32) = nI ((sc + 1) - 1) from pk_sub (a := (sc + 1)) (b := 1) (by omega)]
                have fm699 : ∀ k9, k9 < 60 → qs k9 = some (sr k9) ∧ wd_at w643 (sr k9) (.inl (cy 2, 12, .inl ((va_up fs sc g9) k9))) ∧ tg (sr k9) = 13000 + k9 := by
                  intro k9 hi9
                  by_cases e9 : k9 = sc
                  · rw [e9]
                    exact ⟨pr583, (by simp only [va_up_self]; exact k694), tz585⟩
                  · simp only [va_up_ne _ _ e9]
                    exact fm697 k9 (by omega)
                have hX700 : IM cy tg y td pc ac (sc + 1) ln se plv w643 := IM.mk m2 m3 m4 m5 m6 m8 m9 m10 m11 m12 m13 m14 m17 m18 m19 m20 m21 m22 m23 m24 m29 m30 m31 m32 m33 m34 m35 m36 m37 m39 m40 m41 m42 m43 m44 m45 m46 m47 m48 m49 m51 m52 m53 m54 m56 m57 m58 m59 sh gf v0 v26 v27 v28 v50 f4 f5 gx418 f8 f9 f10 f11 f12 f13 f14 f17 f18 f19 f20 (upd f21 (nI sc).toNatClampNeg (nI pp)) (upd f22 (nI sc).toNatClampNeg x2) f24 f29 f30 f31 f32 f33 f34 f35 f36 f37 f39 f40 f41 f42 f43 f44 f45 f46 f47 f48 f49 f51 f52 f53 f54 f56 f57 f58 f59 qp pr fp qw wr fw qs sr (va_up fs sc g9) (by omega) (by omega) (by omega) (by omega) (by omega) (by omega) hrl hc ht hp hso hlo k645 tI0 k646 tI1 k647 tI2 k648 tI3 k649 tI4 k650 tI5 k651 tI6 k652 tI7 k653 tI8 k654 tI9 k655 tI10 k656 tI11 k657 tI12 k658 tI13 k659 tI14 k660 tI15 k661 tI16 k662 tI17 k663 tI18 k664 tI19 k665 tI20 k666 tI21 k667 tI22 k668 tI23 k669 tI24 k670 tI25 k671 tI26 k672 tI27 k673 tI28 k674 tI29 k675 tI30 k676 tI31 k677 tI32 k678 tI33 k679 tI34 k680 tI35 k681 tI36 k682 tI37 k683 tI38 k684 tI39 k685 tI40 k686 tI41 k687 tI42 k688 tI43 k689 tI44 k690 tI45 k691 tI46 k692 tI47 k693 tI48 fm695 fm696 fm699
                exact y_ir K hP hD hS (Nat.le_of_ble_eq_true rfl) (Nat.le_of_ble_eq_true rfl) (ty := .int) rfl rfl dX11_stop_152 (by refine ⟨(congrArg (fun z => some (Value.int z)) (show nI ((sc + 1) - 1) = stpA plv pc sc (nI pp) x2 (nI tw) from by simp [stpA, stpC, c_1, h60, c_5, clpp, c_9, cltw, c_10, c_414, hlf])), ?_⟩; rw [show stpC plv pc sc (nI pp) x2 (nI tw) = (sc + 1) from by simp [stpA, stpC, c_1, h60, c_5, clpp, c_9, cltw, c_10, c_414, hlf]]; exact ⟨kp698, hX700⟩)
              | succ N ih82 =>
                intro t g9 w587 hN82 k588 k589 k590 k591 k592 k593 k594 k595 k596 k597 k598 k599 k600 k601 k602 k603 k604 k605 k606 k607 k608 k609 k610 k611 k612 k613 k614 k615 k616 k617 k618 k619 k620 k621 k622 k623 k624 k625 k626 k627 k628 k629 k630 k631 k632 k633 k634 k635 k636 k637 fm638 fm639 fm640 kp641 ls hl H locs hP hD hS
                refine lv_iload hx hb dX11_stop_82 (lv_at hl 4 rfl) ?_
                refine lv_bipush (v := 12) hx hb dX11_stop_84 (by decide) ?_
                refine lv_icmp_ge (tgt := 136) hx hb dX11_stop_86 (by decide) (fun c_701 => absurd c_701 (nI_ge (a := t) (b := 12) (by omega) (by omega))) (fun c_701 => ?_)
                refine lv_aload_n hx hb dX11_stop_89 rfl (lv_at hl 0 rfl) ?_
                refine x_get (ref := "NoteHouseModel") F hP k588 rfl (fun _ h => List.mem_cons_of_mem _ (List.mem_append_right _ (h))) 23 (Nat.le_of_ble_eq_true rfl) (List.mem_cons_of_mem _ (List.mem_append_left _ (List.mem_of_getElem? (i := 5) rfl))) rfl rfl dX11_stop_90 ?_
                refine lv_aload_n hx hb dX11_stop_93 rfl (lv_at hl 0 rfl) ?_
                refine x_get (ref := "NoteHouseModel") F hP k588 rfl (fun _ h => List.mem_cons_of_mem _ (List.mem_append_right _ (h))) 16 (Nat.le_of_ble_eq_true rfl) (List.mem_cons_of_mem _ (List.mem_append_left _ (List.mem_of_getElem? (i := 0) rfl))) rfl rfl dX11_stop_94 ?_
                refine x_aaldA F hP k607 (vp_in_nI (n := sc) (N := 60) (by omega) (by decide)) dX11_stop_97 ?_
                rw [nI_clamp (n := sc) (by omega), pr583]
                refine W.eq (g2 := F0 m _ ls [.ref (sr sc)]) rfl ?_
                refine lv_iload hx hb dX11_stop_98 (lv_at hl 4 rfl) ?_
                refine lv_aload_n hx hb dX11_stop_100 rfl (lv_at hl 0 rfl) ?_
                refine x_get (ref := "NoteHouseModel") F hP k588 rfl (fun _ h => List.mem_cons_of_mem _ (List.mem_append_right _ (h))) 6 (Nat.le_of_ble_eq_true rfl) (List.mem_cons_of_mem _ (List.mem_append_left _ (List.mem_of_getElem? (i := 6) rfl))) rfl rfl dX11_stop_101 ?_
                refine lv_iload hx hb dX11_stop_104 (lv_at hl 4 rfl) ?_
                refine x_iald F hP k593 (vp_in_nI (n := t) (N := 12) (by omega) (by decide)) dX11_stop_106 ?_
                refine lv_ldc (v := 268435456) hx hb hown (hts _ (List.mem_cons_of_mem _ (List.mem_append_left _ (List.mem_of_getElem? (i := 7) rfl)))) dX11_stop_107 ?_
                refine lv_icmp_ne (tgt := 117) hx hb dX11_stop_109 (by decide) (fun c_702 => ?_) (fun c_702 => ?_)
                · refine lv_aload_n hx hb dX11_stop_117 rfl (lv_at hl 0 rfl) ?_
                  refine x_get (ref := "NoteHouseModel") F hP k588 rfl (fun _ h => List.mem_cons_of_mem _ (List.mem_append_right _ (h))) 1 (Nat.le_of_ble_eq_true rfl) (List.mem_cons_of_mem _ (List.mem_append_left _ (List.mem_of_getElem? (i := 8) rfl))) rfl rfl dX11_stop_118 ?_
                  refine lv_aload_n hx hb dX11_stop_121 rfl (lv_at hl 0 rfl) ?_
                  refine x_get (ref := "NoteHouseModel") F hP k588 rfl (fun _ h => List.mem_cons_of_mem _ (List.mem_append_right _ (h))) 6 (Nat.le_of_ble_eq_true rfl) (List.mem_cons_of_mem _ (List.mem_append_left _ (List.mem_of_getElem? (i := 6) rfl))) rfl rfl dX11_stop_122 ?_
                  refine lv_iload hx hb dX11_stop_125 (lv_at hl 4 rfl) ?_
                  refine x_iald F hP k593 (vp_in_nI (n := t) (N := 12) (by omega) (by decide)) dX11_stop_127 ?_
                  refine lv_iadd hx hb dX11_stop_128 ?_
                  refine y_iast F hP hD hS k637 (vp_in_nI (n := t) (N := 12) (by omega) (by decide)) dX11_stop_129 (fun w703 ew704 H locs hP hD hS => ?_)
                  have k705 := wd_at.pt ew704 k588 (tg_ne tI0 tz585 (tnA2 (show 10000 < 13000 by decide)))
                  have k706 := wd_at.pt ew704 k589 (tg_ne tI1 tz585 (tnA2 (show 10102 < 13000 by decide)))
                  have k707 := wd_at.pt ew704 k590 (tg_ne tI2 tz585 (tnA2 (show 10103 < 13000 by decide)))
                  have k708 := wd_at.pt ew704 k591 (tg_ne tI3 tz585 (tnA2 (show 10104 < 13000 by decide)))
                  have k709 := wd_at.pt ew704 k592 (tg_ne tI4 tz585 (tnA2 (show 10105 < 13000 by decide)))
                  have k710 := wd_at.pt ew704 k593 (tg_ne tI5 tz585 (tnA2 (show 10106 < 13000 by decide)))
                  have k711 := wd_at.pt ew704 k594 (tg_ne tI6 tz585 (tnA2 (show 10108 < 13000 by decide)))
                  have k712 := wd_at.pt ew704 k595 (tg_ne tI7 tz585 (tnA2 (show 10109 < 13000 by decide)))
                  have k713 := wd_at.pt ew704 k596 (tg_ne tI8 tz585 (tnA2 (show 10110 < 13000 by decide)))
                  have k714 := wd_at.pt ew704 k597 (tg_ne tI9 tz585 (tnA2 (show 10111 < 13000 by decide)))
                  have k715 := wd_at.pt ew704 k598 (tg_ne tI10 tz585 (tnA2 (show 10112 < 13000 by decide)))
                  have k716 := wd_at.pt ew704 k599 (tg_ne tI11 tz585 (tnA2 (show 10113 < 13000 by decide)))
                  have k717 := wd_at.pt ew704 k600 (tg_ne tI12 tz585 (tnA2 (show 10114 < 13000 by decide)))
                  have k718 := wd_at.pt ew704 k601 (tg_ne tI13 tz585 (tnA2 (show 10117 < 13000 by decide)))
                  have k719 := wd_at.pt ew704 k602 (tg_ne tI14 tz585 (tnA2 (show 10118 < 13000 by decide)))
                  have k720 := wd_at.pt ew704 k603 (tg_ne tI15 tz585 (tnA2 (show 10119 < 13000 by decide)))
                  have k721 := wd_at.pt ew704 k604 (tg_ne tI16 tz585 (tnA2 (show 10120 < 13000 by decide)))
                  have k722 := wd_at.pt ew704 k605 (tg_ne tI17 tz585 (tnA2 (show 10121 < 13000 by decide)))
                  have k723 := wd_at.pt ew704 k606 (tg_ne tI18 tz585 (tnA2 (show 10122 < 13000 by decide)))
                  have k724 := wd_at.pt ew704 k607 (tg_ne tI19 tz585 (tnA2 (show 10123 < 13000 by decide)))
                  have k725 := wd_at.pt ew704 k608 (tg_ne tI20 tz585 (tnA2 (show 10124 < 13000 by decide)))
                  have k726 := wd_at.pt ew704 k609 (tg_ne tI21 tz585 (tnA2 (show 10129 < 13000 by decide)))
                  have k727 := wd_at.pt ew704 k610 (tg_ne tI22 tz585 (tnA2 (show 10130 < 13000 by decide)))
                  have k728 := wd_at.pt ew704 k611 (tg_ne tI23 tz585 (tnA2 (show 10131 < 13000 by decide)))
                  have k729 := wd_at.pt ew704 k612 (tg_ne tI24 tz585 (tnA2 (show 10132 < 13000 by decide)))
                  have k730 := wd_at.pt ew704 k613 (tg_ne tI25 tz585 (tnA2 (show 10133 < 13000 by decide)))
                  have k731 := wd_at.pt ew704 k614 (tg_ne tI26 tz585 (tnA2 (show 10134 < 13000 by decide)))
                  have k732 := wd_at.pt ew704 k615 (tg_ne tI27 tz585 (tnA2 (show 10135 < 13000 by decide)))
                  have k733 := wd_at.pt ew704 k616 (tg_ne tI28 tz585 (tnA2 (show 10136 < 13000 by decide)))
                  have k734 := wd_at.pt ew704 k617 (tg_ne tI29 tz585 (tnA2 (show 10137 < 13000 by decide)))
                  have k735 := wd_at.pt ew704 k618 (tg_ne tI30 tz585 (tnA2 (show 10139 < 13000 by decide)))
                  have k736 := wd_at.pt ew704 k619 (tg_ne tI31 tz585 (tnA2 (show 10140 < 13000 by decide)))
                  have k737 := wd_at.pt ew704 k620 (tg_ne tI32 tz585 (tnA2 (show 10141 < 13000 by decide)))
                  have k738 := wd_at.pt ew704 k621 (tg_ne tI33 tz585 (tnA2 (show 10142 < 13000 by decide)))
                  have k739 := wd_at.pt ew704 k622 (tg_ne tI34 tz585 (tnA2 (show 10143 < 13000 by decide)))
                  have k740 := wd_at.pt ew704 k623 (tg_ne tI35 tz585 (tnA2 (show 10144 < 13000 by decide)))
                  have k741 := wd_at.pt ew704 k624 (tg_ne tI36 tz585 (tnA2 (show 10145 < 13000 by decide)))
                  have k742 := wd_at.pt ew704 k625 (tg_ne tI37 tz585 (tnA2 (show 10146 < 13000 by decide)))
                  have k743 := wd_at.pt ew704 k626 (tg_ne tI38 tz585 (tnA2 (show 10147 < 13000 by decide)))
                  have k744 := wd_at.pt ew704 k627 (tg_ne tI39 tz585 (tnA2 (show 10148 < 13000 by decide)))
                  have k745 := wd_at.pt ew704 k628 (tg_ne tI40 tz585 (tnA2 (show 10149 < 13000 by decide)))
                  have k746 := wd_at.pt ew704 k629 (tg_ne tI41 tz585 (tnA2 (show 10151 < 13000 by decide)))
                  have k747 := wd_at.pt ew704 k630 (tg_ne tI42 tz585 (tnA2 (show 10152 < 13000 by decide)))
                  have k748 := wd_at.pt ew704 k631 (tg_ne tI43 tz585 (tnA2 (show 10153 < 13000 by decide)))
                  have k749 := wd_at.pt ew704 k632 (tg_ne tI44 tz585 (tnA2 (show 10154 < 13000 by decide)))
                  have k750 := wd_at.pt ew704 k633 (tg_ne tI45 tz585 (tnA2 (show 10156 < 13000 by decide)))
                  have k751 := wd_at.pt ew704 k634 (tg_ne tI46 tz585 (tnA2 (show 10157 < 13000 by decide)))
                  have k752 := wd_at.pt ew704 k635 (tg_ne tI47 tz585 (tnA2 (show 10158 < 13000 by decide)))
                  have k753 := wd_at.pt ew704 k636 (tg_ne tI48 tz585 (tnA2 (show 10159 < 13000 by decide)))
                  have k754 : wd_at w703 (sr sc) (.inl (cy 2, 12, .inl (upd g9 (nI t).toNatClampNeg (td + (gx418 (nI t).toNatClampNeg))))) := wd_at.ps ew704 k637
                  have fm755 : ∀ k9, k9 < 12 → qp k9 = some (pr k9) ∧ wd_at w703 (pr k9) (.inl (cy 2, 12, .inl (fp k9))) ∧ tg (pr k9) = 11000 + k9 := fun k9 hi9 => ⟨(fm638 k9 hi9).1, wd_at.pt ew704 (fm638 k9 hi9).2.1 (tg_ne (fm638 k9 hi9).2.2 tz585 (tnB (n := 12) hi9 (by decide))), (fm638 k9 hi9).2.2⟩
                  have fm756 : ∀ k9, k9 < 12 → qw k9 = some (wr k9) ∧ wd_at w703 (wr k9) (.inl (cy 2, 12, .inl (fw k9))) ∧ tg (wr k9) = 12000 + k9 := fun k9 hi9 => ⟨(fm639 k9 hi9).1, wd_at.pt ew704 (fm639 k9 hi9).2.1 (tg_ne (fm639 k9 hi9).2.2 tz585 (tnB (n := 12) hi9 (by decide))), (fm639 k9 hi9).2.2⟩
                  have fm757 : ∀ k9, k9 < 60 ∧ k9 ≠ sc → qs k9 = some (sr k9) ∧ wd_at w703 (sr k9) (.inl (cy 2, 12, .inl (fs k9))) ∧ tg (sr k9) = 13000 + k9 := fun k9 hi9 => ⟨(fm640 k9 hi9).1, wd_at.pt ew704 (fm640 k9 hi9).2.1 (tg_ne (fm640 k9 hi9).2.2 tz585 (tnS hi9.2)), (fm640 k9 hi9).2.2⟩
                  have kp758 := kp641.put ew704 (tgT tz585 (by omega))
                  refine lv_iinc (v := nI (t + 1)) (lv' := [(4, .int (nI (t + 1))), (0, .ref y), (1, .int (nI pp)), (2, .int x2), (3, .int (nI tw))]) hx hb dX11_stop_130 hl (k := 4) rfl (nI_1 t) (by decide) rfl (fun ls hl => ?_)
                  refine lv_goto (tgt := 82) hx hb dX11_stop_133 (by decide) ?_
                  exact ih82 (t + 1) (upd g9 (nI t).toNatClampNeg (td + (gx418 (nI t).toNatClampNeg))) w703 (by omega)  k705 k706 k707 k708 k709 k710 k711 k712 k713 k714 k715 k716 k717 k718 k719 k720 k721 k722 k723 k724 k725 k726 k727 k728 k729 k730 k731 k732 k733 k734 k735 k736 k737 k738 k739 k740 k741 k742 k743 k744 k745 k746 k747 k748 k749 k750 k751 k752 k753 k754 fm755 fm756 fm757 kp758 ls (lv_sub hl [1, 2, 3, 4, 0] rfl) H locs hP hD hS
                · refine lv_ldc (v := 268435456) hx hb hown (hts _ (List.mem_cons_of_mem _ (List.mem_append_left _ (List.mem_of_getElem? (i := 7) rfl)))) dX11_stop_112 ?_
                  refine lv_goto (tgt := 129) hx hb dX11_stop_114 (by decide) ?_
                  refine y_iast F hP hD hS k637 (vp_in_nI (n := t) (N := 12) (by omega) (by decide)) dX11_stop_129 (fun w759 ew760 H locs hP hD hS => ?_)
                  have k761 := wd_at.pt ew760 k588 (tg_ne tI0 tz585 (tnA2 (show 10000 < 13000 by decide)))
                  have k762 := wd_at.pt ew760 k589 (tg_ne tI1 tz585 (tnA2 (show 10102 < 13000 by decide)))
                  have k763 := wd_at.pt ew760 k590 (tg_ne tI2 tz585 (tnA2 (show 10103 < 13000 by decide)))
                  have k764 := wd_at.pt ew760 k591 (tg_ne tI3 tz585 (tnA2 (show 10104 < 13000 by decide)))
                  have k765 := wd_at.pt ew760 k592 (tg_ne tI4 tz585 (tnA2 (show 10105 < 13000 by decide)))
                  have k766 := wd_at.pt ew760 k593 (tg_ne tI5 tz585 (tnA2 (show 10106 < 13000 by decide)))
                  have k767 := wd_at.pt ew760 k594 (tg_ne tI6 tz585 (tnA2 (show 10108 < 13000 by decide)))
                  have k768 := wd_at.pt ew760 k595 (tg_ne tI7 tz585 (tnA2 (show 10109 < 13000 by decide)))
                  have k769 := wd_at.pt ew760 k596 (tg_ne tI8 tz585 (tnA2 (show 10110 < 13000 by decide)))
                  have k770 := wd_at.pt ew760 k597 (tg_ne tI9 tz585 (tnA2 (show 10111 < 13000 by decide)))
                  have k771 := wd_at.pt ew760 k598 (tg_ne tI10 tz585 (tnA2 (show 10112 < 13000 by decide)))
                  have k772 := wd_at.pt ew760 k599 (tg_ne tI11 tz585 (tnA2 (show 10113 < 13000 by decide)))
                  have k773 := wd_at.pt ew760 k600 (tg_ne tI12 tz585 (tnA2 (show 10114 < 13000 by decide)))
                  have k774 := wd_at.pt ew760 k601 (tg_ne tI13 tz585 (tnA2 (show 10117 < 13000 by decide)))
                  have k775 := wd_at.pt ew760 k602 (tg_ne tI14 tz585 (tnA2 (show 10118 < 13000 by decide)))
                  have k776 := wd_at.pt ew760 k603 (tg_ne tI15 tz585 (tnA2 (show 10119 < 13000 by decide)))
                  have k777 := wd_at.pt ew760 k604 (tg_ne tI16 tz585 (tnA2 (show 10120 < 13000 by decide)))
                  have k778 := wd_at.pt ew760 k605 (tg_ne tI17 tz585 (tnA2 (show 10121 < 13000 by decide)))
                  have k779 := wd_at.pt ew760 k606 (tg_ne tI18 tz585 (tnA2 (show 10122 < 13000 by decide)))
                  have k780 := wd_at.pt ew760 k607 (tg_ne tI19 tz585 (tnA2 (show 10123 < 13000 by decide)))
                  have k781 := wd_at.pt ew760 k608 (tg_ne tI20 tz585 (tnA2 (show 10124 < 13000 by decide)))
                  have k782 := wd_at.pt ew760 k609 (tg_ne tI21 tz585 (tnA2 (show 10129 < 13000 by decide)))
                  have k783 := wd_at.pt ew760 k610 (tg_ne tI22 tz585 (tnA2 (show 10130 < 13000 by decide)))
                  have k784 := wd_at.pt ew760 k611 (tg_ne tI23 tz585 (tnA2 (show 10131 < 13000 by decide)))
                  have k785 := wd_at.pt ew760 k612 (tg_ne tI24 tz585 (tnA2 (show 10132 < 13000 by decide)))
                  have k786 := wd_at.pt ew760 k613 (tg_ne tI25 tz585 (tnA2 (show 10133 < 13000 by decide)))
                  have k787 := wd_at.pt ew760 k614 (tg_ne tI26 tz585 (tnA2 (show 10134 < 13000 by decide)))
                  have k788 := wd_at.pt ew760 k615 (tg_ne tI27 tz585 (tnA2 (show 10135 < 13000 by decide)))
                  have k789 := wd_at.pt ew760 k616 (tg_ne tI28 tz585 (tnA2 (show 10136 < 13000 by decide)))
                  have k790 := wd_at.pt ew760 k617 (tg_ne tI29 tz585 (tnA2 (show 10137 < 13000 by decide)))
                  have k791 := wd_at.pt ew760 k618 (tg_ne tI30 tz585 (tnA2 (show 10139 < 13000 by decide)))
                  have k792 := wd_at.pt ew760 k619 (tg_ne tI31 tz585 (tnA2 (show 10140 < 13000 by decide)))
                  have k793 := wd_at.pt ew760 k620 (tg_ne tI32 tz585 (tnA2 (show 10141 < 13000 by decide)))
                  have k794 := wd_at.pt ew760 k621 (tg_ne tI33 tz585 (tnA2 (show 10142 < 13000 by decide)))
                  have k795 := wd_at.pt ew760 k622 (tg_ne tI34 tz585 (tnA2 (show 10143 < 13000 by decide)))
                  have k796 := wd_at.pt ew760 k623 (tg_ne tI35 tz585 (tnA2 (show 10144 < 13000 by decide)))
                  have k797 := wd_at.pt ew760 k624 (tg_ne tI36 tz585 (tnA2 (show 10145 < 13000 by decide)))
                  have k798 := wd_at.pt ew760 k625 (tg_ne tI37 tz585 (tnA2 (show 10146 < 13000 by decide)))
                  have k799 := wd_at.pt ew760 k626 (tg_ne tI38 tz585 (tnA2 (show 10147 < 13000 by decide)))
                  have k800 := wd_at.pt ew760 k627 (tg_ne tI39 tz585 (tnA2 (show 10148 < 13000 by decide)))
                  have k801 := wd_at.pt ew760 k628 (tg_ne tI40 tz585 (tnA2 (show 10149 < 13000 by decide)))
                  have k802 := wd_at.pt ew760 k629 (tg_ne tI41 tz585 (tnA2 (show 10151 < 13000 by decide)))
                  have k803 := wd_at.pt ew760 k630 (tg_ne tI42 tz585 (tnA2 (show 10152 < 13000 by decide)))
                  have k804 := wd_at.pt ew760 k631 (tg_ne tI43 tz585 (tnA2 (show 10153 < 13000 by decide)))
                  have k805 := wd_at.pt ew760 k632 (tg_ne tI44 tz585 (tnA2 (show 10154 < 13000 by decide)))
                  have k806 := wd_at.pt ew760 k633 (tg_ne tI45 tz585 (tnA2 (show 10156 < 13000 by decide)))
                  have k807 := wd_at.pt ew760 k634 (tg_ne tI46 tz585 (tnA2 (show 10157 < 13000 by decide)))
                  have k808 := wd_at.pt ew760 k635 (tg_ne tI47 tz585 (tnA2 (show 10158 < 13000 by decide)))
                  have k809 := wd_at.pt ew760 k636 (tg_ne tI48 tz585 (tnA2 (show 10159 < 13000 by decide)))
                  have k810 : wd_at w759 (sr sc) (.inl (cy 2, 12, .inl (upd g9 (nI t).toNatClampNeg 268435456))) := wd_at.ps ew760 k637
                  have fm811 : ∀ k9, k9 < 12 → qp k9 = some (pr k9) ∧ wd_at w759 (pr k9) (.inl (cy 2, 12, .inl (fp k9))) ∧ tg (pr k9) = 11000 + k9 := fun k9 hi9 => ⟨(fm638 k9 hi9).1, wd_at.pt ew760 (fm638 k9 hi9).2.1 (tg_ne (fm638 k9 hi9).2.2 tz585 (tnB (n := 12) hi9 (by decide))), (fm638 k9 hi9).2.2⟩
                  have fm812 : ∀ k9, k9 < 12 → qw k9 = some (wr k9) ∧ wd_at w759 (wr k9) (.inl (cy 2, 12, .inl (fw k9))) ∧ tg (wr k9) = 12000 + k9 := fun k9 hi9 => ⟨(fm639 k9 hi9).1, wd_at.pt ew760 (fm639 k9 hi9).2.1 (tg_ne (fm639 k9 hi9).2.2 tz585 (tnB (n := 12) hi9 (by decide))), (fm639 k9 hi9).2.2⟩
                  have fm813 : ∀ k9, k9 < 60 ∧ k9 ≠ sc → qs k9 = some (sr k9) ∧ wd_at w759 (sr k9) (.inl (cy 2, 12, .inl (fs k9))) ∧ tg (sr k9) = 13000 + k9 := fun k9 hi9 => ⟨(fm640 k9 hi9).1, wd_at.pt ew760 (fm640 k9 hi9).2.1 (tg_ne (fm640 k9 hi9).2.2 tz585 (tnS hi9.2)), (fm640 k9 hi9).2.2⟩
                  have kp814 := kp641.put ew760 (tgT tz585 (by omega))
                  refine lv_iinc (v := nI (t + 1)) (lv' := [(4, .int (nI (t + 1))), (0, .ref y), (1, .int (nI pp)), (2, .int x2), (3, .int (nI tw))]) hx hb dX11_stop_130 hl (k := 4) rfl (nI_1 t) (by decide) rfl (fun ls hl => ?_)
                  refine lv_goto (tgt := 82) hx hb dX11_stop_133 (by decide) ?_
                  exact ih82 (t + 1) (upd g9 (nI t).toNatClampNeg 268435456) w759 (by omega)  k761 k762 k763 k764 k765 k766 k767 k768 k769 k770 k771 k772 k773 k774 k775 k776 k777 k778 k779 k780 k781 k782 k783 k784 k785 k786 k787 k788 k789 k790 k791 k792 k793 k794 k795 k796 k797 k798 k799 k800 k801 k802 k803 k804 k805 k806 k807 k808 k809 k810 fm811 fm812 fm813 kp814 ls (lv_sub hl [1, 2, 3, 4, 0] rfl) H locs hP hD hS
            exact lp82 _ 0 (fs sc) w528 (Nat.zero_add 12)  k530 k531 k532 k533 k534 k535 k536 k537 k538 k539 k540 k541 k542 k543 k544 k545 k546 k547 k548 k549 k550 k551 k552 k553 k554 k555 k556 k557 k558 k559 k560 k561 k562 k563 k564 k565 k566 k567 k568 k569 k570 k571 k572 k573 k574 k575 k576 k577 k578 k584 fm579 fm580 fm586 kp582 ls (lv_sub hl [1, 2, 3, 4, 0] rfl) H locs hP hD hS
          · have hlf : lf x2 (plv pp) = 0 := by rw [lf_wi eulv hulv]; exact c_414
            refine lv_iconst (v := (-1)) hx hb dX11_stop_51 (by decide) ?_
            exact y_ir K hP hD hS (Nat.le_of_ble_eq_true rfl) (Nat.le_of_ble_eq_true rfl) (ty := .int) rfl rfl dX11_stop_52 (by refine ⟨(congrArg (fun z => some (Value.int z)) (show (-1) = stpA plv pc sc (nI pp) x2 (nI tw) from by simp [stpA, stpC, c_1, h60, c_5, clpp, c_9, cltw, c_10, c_414, hlf])), ?_⟩; rw [show stpC plv pc sc (nI pp) x2 (nI tw) = sc from by simp [stpA, stpC, c_1, h60, c_5, clpp, c_9, cltw, c_10, c_414, hlf]]; exact ⟨wd_kp.rf, hIM0⟩)
set_option maxHeartbeats 4000000 in
set_option maxRecDepth 100000 in
theorem M_comes (l : Launch) (D : va_G) (cy : Nat → ClassId) (sk sv : Nat → Nat) (w : Wd) (tg : Nat → Nat) (y : Nat) (td : Int32) (pc ac sc ln : Nat) (se plv : Nat → Int32) (x1 x2 x3 : Int32) (hIM0 : IM cy tg y td pc ac sc ln se plv w) : Ct l D cy sk sv yX11_comes wsX11_comes ({ frames := 1, cells := 0, slots := 0, locals := 22 }) [.ref y, .int x1, .int x2, .int x3] w (fun v w1 => (∃ r : Int32, v = some (.int r)) ∧ MP cy tg y td pc ac sc ln se plv w w1) := by
  refine Ct.by (cc := cX11_comes) (maxL := 4) (ret := (some .int)) (by decide +kernel) rfl (Nat.le_of_ble_eq_true rfl) ?_
  intro p e s m args below meth c A Q F hnm K ls hl
  have F : wd_Fx p s m args meth c cX11_comes 4 wsX11_comes RX11 D cy sk sv A := F
  have hl : lv_has ls 4 [(0, .ref y), (1, .int x1), (2, .int x2), (3, .int x3)] := hl
  have hx := F.1.1
  have hb := F.1.2.1
  have hown := F.1.2.2.2.1
  have hts := F.1.2.2.2.2
  intro H locs hP hD hS
  have kp0 : wd_kp (fun b => 10000 ≤ tg b) w w := wd_kp.rf
  refine hIM0 _ ?_
  intro m2 m3 m4 m5 m6 m8 m9 m10 m11 m12 m13 m14 m17 m18 m19 m20 m21 m22 m23 m24 m29 m30 m31 m32 m33 m34 m35 m36 m37 m39 m40 m41 m42 m43 m44 m45 m46 m47 m48 m49 m51 m52 m53 m54 m56 m57 m58 m59 sh gf v0 v26 v27 v28 v50 f4 f5 f6 f8 f9 f10 f11 f12 f13 f14 f17 f18 f19 f20 f21 f22 f24 f29 f30 f31 f32 f33 f34 f35 f36 f37 f39 f40 f41 f42 f43 f44 f45 f46 f47 f48 f49 f51 f52 f53 f54 f56 f57 f58 f59 qp pr fp qw wr fw qs sr fs hp90 hp91 hp92 hp93 hp94 hp95 hrl hc ht hp hso hlo kI0 tI0 kI1 tI1 kI2 tI2 kI3 tI3 kI4 tI4 kI5 tI5 kI6 tI6 kI7 tI7 kI8 tI8 kI9 tI9 kI10 tI10 kI11 tI11 kI12 tI12 kI13 tI13 kI14 tI14 kI15 tI15 kI16 tI16 kI17 tI17 kI18 tI18 kI19 tI19 kI20 tI20 kI21 tI21 kI22 tI22 kI23 tI23 kI24 tI24 kI25 tI25 kI26 tI26 kI27 tI27 kI28 tI28 kI29 tI29 kI30 tI30 kI31 tI31 kI32 tI32 kI33 tI33 kI34 tI34 kI35 tI35 kI36 tI36 kI37 tI37 kI38 tI38 kI39 tI39 kI40 tI40 kI41 tI41 kI42 tI42 kI43 tI43 kI44 tI44 kI45 tI45 kI46 tI46 kI47 tI47 kI48 tI48 hFPR hFWR hFSR
  refine lv_iload_n hx hb dX11_comes_0 rfl (lv_at hl 3 rfl) ?_
  refine x_callS (n := 1) (As := [.int x3]) (rest := []) F hP hD hS (g_mTown l D cy sk sv w x3) gX11_comes_X11_isTown rfl (by decide +kernel) ⟨(Nat.le_of_ble_eq_true rfl), (Nat.le_of_ble_eq_true rfl)⟩ rfl hl.1 (Nat.le_of_ble_eq_true rfl) dX11_comes_1 rfl ⟨(Nat.le_of_ble_eq_true rfl), (Nat.le_of_ble_eq_true rfl)⟩ (fun v2 w3 hp1 H locs hP hD hS => ?_)
  obtain ⟨rfl, rfl⟩ := hp1
  refine W.eq (g2 := F0 m 4 ls [.int (wi x3 0 11)]) rfl (W.widen (k := 0) (n := 0) (Nat.le_of_ble_eq_true rfl) (Nat.le_of_ble_eq_true rfl) ?_)
  refine lv_if_ne (tgt := 9) hx hb dX11_comes_4 (by decide) (fun c_4 => ?_) (fun c_4 => ?_)
  · obtain ⟨tw, htw, rfl, cltw⟩ := wi_t c_4
    refine lv_iload_n hx hb dX11_comes_9 rfl (lv_at hl 1 rfl) ?_
    refine lv_if_ne (tgt := 68) hx hb dX11_comes_10 (by decide) (fun cK0 => ?_) (fun cK0 => ?_)
    · refine lv_iload_n hx hb dX11_comes_68 rfl (lv_at hl 1 rfl) ?_
      refine lv_iconst (v := 1) hx hb dX11_comes_69 (by decide) ?_
      refine lv_icmp_ne (tgt := 113) hx hb dX11_comes_70 (by decide) (fun c_5 => ?_) (fun c_5 => ?_)
      · refine lv_iconst (v := (-1)) hx hb dX11_comes_113 (by decide) ?_
        exact y_ir K hP hD hS (Nat.le_of_ble_eq_true rfl) (Nat.le_of_ble_eq_true rfl) (ty := .int) rfl rfl dX11_comes_114 (⟨⟨_, rfl⟩, ⟨wd_kp.rf, hIM0⟩⟩)
      · refine lv_iload_n hx hb dX11_comes_73 rfl (lv_at hl 2 rfl) ?_
        refine lv_iconst (v := 0) hx hb dX11_comes_74 (by decide) ?_
        refine lv_aload_n hx hb dX11_comes_75 rfl (lv_at hl 0 rfl) ?_
        refine x_get (ref := "NoteHouseModel") F hP kI0 rfl (fun _ h => List.mem_cons_of_mem _ (List.mem_append_right _ (h))) 16 (Nat.le_of_ble_eq_true rfl) (List.mem_cons_of_mem _ (List.mem_append_left _ (List.mem_of_getElem? (i := 5) rfl))) rfl rfl dX11_comes_76 ?_
        refine lv_iconst (v := 1) hx hb dX11_comes_79 (by decide) ?_
        refine lv_isub hx hb dX11_comes_80 ?_
        refine x_callS (n := 3) (As := [.int x2, .int 0, .int ((nI sc) - 1)]) (rest := []) F hP hD hS (g_in l D cy sk sv w x2 0 ((nI sc) - 1)) gX11_comes_X11_in rfl (by decide +kernel) ⟨(Nat.le_of_ble_eq_true rfl), (Nat.le_of_ble_eq_true rfl)⟩ rfl hl.1 (Nat.le_of_ble_eq_true rfl) dX11_comes_81 rfl ⟨(Nat.le_of_ble_eq_true rfl), (Nat.le_of_ble_eq_true rfl)⟩ (fun v7 w8 hp6 H locs hP hD hS => ?_)
        obtain ⟨rfl, rfl⟩ := hp6
        refine W.eq (g2 := F0 m 84 ls [.int (wi x2 0 ((nI sc) - 1))]) rfl (W.widen (k := 0) (n := 0) (Nat.le_of_ble_eq_true rfl) (Nat.le_of_ble_eq_true rfl) ?_)
        refine lv_if_eq (tgt := 113) hx hb dX11_comes_84 (by decide) (fun c_9 => ?_) (fun c_9 => ?_)
        · refine lv_iconst (v := (-1)) hx hb dX11_comes_113 (by decide) ?_
          exact y_ir K hP hD hS (Nat.le_of_ble_eq_true rfl) (Nat.le_of_ble_eq_true rfl) (ty := .int) rfl rfl dX11_comes_114 (⟨⟨_, rfl⟩, ⟨wd_kp.rf, hIM0⟩⟩)
        · obtain ⟨kk, hkk, rfl⟩ := pb_i (by omega) c_9
          have clkk : (nI kk).toNatClampNeg = kk := nI_clamp (by omega)
          refine lv_aload_n hx hb dX11_comes_87 rfl (lv_at hl 0 rfl) ?_
          refine x_get (ref := "NoteHouseModel") F hP kI0 rfl (fun _ h => List.mem_cons_of_mem _ (List.mem_append_right _ (h))) 23 (Nat.le_of_ble_eq_true rfl) (List.mem_cons_of_mem _ (List.mem_append_left _ (List.mem_of_getElem? (i := 6) rfl))) rfl rfl dX11_comes_88 ?_
          refine lv_iload_n hx hb dX11_comes_91 rfl (lv_at hl 2 rfl) ?_
          refine x_aaldA F hP kI19 (vp_in_nI (n := kk) (N := 60) (by omega) (by decide)) dX11_comes_92 ?_
          have pr10 := (hFSR kk (by omega)).1
          have k11 := (hFSR kk (by omega)).2.1
          have tz12 := (hFSR kk (by omega)).2.2
          rw [nI_clamp (n := kk) (by omega), pr10]
          refine W.eq (g2 := F0 m _ ls [.ref (sr kk)]) rfl ?_
          refine lv_iload_n hx hb dX11_comes_93 rfl (lv_at hl 3 rfl) ?_
          refine x_iald F hP k11 (vp_in_nI (n := tw) (N := 12) (by omega) (by decide)) dX11_comes_94 ?_
          refine lv_ldc (v := 268435456) hx hb hown (hts _ (List.mem_cons_of_mem _ (List.mem_append_left _ (List.mem_of_getElem? (i := 4) rfl)))) dX11_comes_95 ?_
          refine lv_icmp_ne (tgt := 104) hx hb dX11_comes_97 (by decide) (fun c_13 => ?_) (fun c_13 => ?_)
          · refine lv_aload_n hx hb dX11_comes_104 rfl (lv_at hl 0 rfl) ?_
            refine x_get (ref := "NoteHouseModel") F hP kI0 rfl (fun _ h => List.mem_cons_of_mem _ (List.mem_append_right _ (h))) 23 (Nat.le_of_ble_eq_true rfl) (List.mem_cons_of_mem _ (List.mem_append_left _ (List.mem_of_getElem? (i := 6) rfl))) rfl rfl dX11_comes_105 ?_
            refine lv_iload_n hx hb dX11_comes_108 rfl (lv_at hl 2 rfl) ?_
            refine x_aaldA F hP kI19 (vp_in_nI (n := kk) (N := 60) (by omega) (by decide)) dX11_comes_109 ?_
            rw [nI_clamp (n := kk) (by omega), pr10]
            refine W.eq (g2 := F0 m _ ls [.ref (sr kk)]) rfl ?_
            refine lv_iload_n hx hb dX11_comes_110 rfl (lv_at hl 3 rfl) ?_
            refine x_iald F hP k11 (vp_in_nI (n := tw) (N := 12) (by omega) (by decide)) dX11_comes_111 ?_
            exact y_ir K hP hD hS (Nat.le_of_ble_eq_true rfl) (Nat.le_of_ble_eq_true rfl) (ty := .int) rfl rfl dX11_comes_112 (⟨⟨_, rfl⟩, ⟨wd_kp.rf, hIM0⟩⟩)
          · refine lv_iconst (v := (-1)) hx hb dX11_comes_100 (by decide) ?_
            refine lv_goto (tgt := 112) hx hb dX11_comes_101 (by decide) ?_
            exact y_ir K hP hD hS (Nat.le_of_ble_eq_true rfl) (Nat.le_of_ble_eq_true rfl) (ty := .int) rfl rfl dX11_comes_112 (⟨⟨_, rfl⟩, ⟨wd_kp.rf, hIM0⟩⟩)
    · refine lv_iload_n hx hb dX11_comes_13 rfl (lv_at hl 2 rfl) ?_
      refine lv_iconst (v := 0) hx hb dX11_comes_14 (by decide) ?_
      refine lv_aload_n hx hb dX11_comes_15 rfl (lv_at hl 0 rfl) ?_
      refine x_get (ref := "NoteHouseModel") F hP kI0 rfl (fun _ h => List.mem_cons_of_mem _ (List.mem_append_right _ (h))) 15 (Nat.le_of_ble_eq_true rfl) (List.mem_cons_of_mem _ (List.mem_append_left _ (List.mem_of_getElem? (i := 0) rfl))) rfl rfl dX11_comes_16 ?_
      refine lv_iconst (v := 1) hx hb dX11_comes_19 (by decide) ?_
      refine lv_isub hx hb dX11_comes_20 ?_
      refine x_callS (n := 3) (As := [.int x2, .int 0, .int ((nI ac) - 1)]) (rest := []) F hP hD hS (g_in l D cy sk sv w x2 0 ((nI ac) - 1)) gX11_comes_X11_in rfl (by decide +kernel) ⟨(Nat.le_of_ble_eq_true rfl), (Nat.le_of_ble_eq_true rfl)⟩ rfl hl.1 (Nat.le_of_ble_eq_true rfl) dX11_comes_21 rfl ⟨(Nat.le_of_ble_eq_true rfl), (Nat.le_of_ble_eq_true rfl)⟩ (fun v15 w16 hp14 H locs hP hD hS => ?_)
      obtain ⟨rfl, rfl⟩ := hp14
      refine W.eq (g2 := F0 m 24 ls [.int (wi x2 0 ((nI ac) - 1))]) rfl (W.widen (k := 0) (n := 0) (Nat.le_of_ble_eq_true rfl) (Nat.le_of_ble_eq_true rfl) ?_)
      refine lv_if_eq (tgt := 68) hx hb dX11_comes_24 (by decide) (fun c_17 => ?_) (fun c_17 => ?_)
      · refine lv_iload_n hx hb dX11_comes_68 rfl (lv_at hl 1 rfl) ?_
        refine lv_iconst (v := 1) hx hb dX11_comes_69 (by decide) ?_
        refine lv_icmp_ne (tgt := 113) hx hb dX11_comes_70 (by decide) (fun c_18 => ?_) (fun c_18 => absurd c_18 (fun q => absurd (cK0.symm.trans q) (by decide)))
        refine lv_iconst (v := (-1)) hx hb dX11_comes_113 (by decide) ?_
        exact y_ir K hP hD hS (Nat.le_of_ble_eq_true rfl) (Nat.le_of_ble_eq_true rfl) (ty := .int) rfl rfl dX11_comes_114 (⟨⟨_, rfl⟩, ⟨wd_kp.rf, hIM0⟩⟩)
      · obtain ⟨kk, hkk, rfl⟩ := pb_i (by omega) c_17
        have clkk : (nI kk).toNatClampNeg = kk := nI_clamp (by omega)
        refine lv_aload_n hx hb dX11_comes_27 rfl (lv_at hl 0 rfl) ?_
        refine x_get (ref := "NoteHouseModel") F hP kI0 rfl (fun _ h => List.mem_cons_of_mem _ (List.mem_append_right _ (h))) 18 (Nat.le_of_ble_eq_true rfl) (List.mem_cons_of_mem _ (List.mem_append_left _ (List.mem_of_getElem? (i := 1) rfl))) rfl rfl dX11_comes_28 ?_
        refine lv_iload_n hx hb dX11_comes_31 rfl (lv_at hl 2 rfl) ?_
        refine x_iald F hP kI14 (vp_in_nI (n := kk) (N := 60) (by omega) (by decide)) dX11_comes_32 ?_
        refine lv_iload_n hx hb dX11_comes_33 rfl (lv_at hl 3 rfl) ?_
        refine lv_icmp_ne (tgt := 68) hx hb dX11_comes_34 (by decide) (fun c_19 => ?_) (fun c_19 => ?_)
        · refine lv_iload_n hx hb dX11_comes_68 rfl (lv_at hl 1 rfl) ?_
          refine lv_iconst (v := 1) hx hb dX11_comes_69 (by decide) ?_
          refine lv_icmp_ne (tgt := 113) hx hb dX11_comes_70 (by decide) (fun c_20 => ?_) (fun c_20 => absurd c_20 (fun q => absurd (cK0.symm.trans q) (by decide)))
          refine lv_iconst (v := (-1)) hx hb dX11_comes_113 (by decide) ?_
          exact y_ir K hP hD hS (Nat.le_of_ble_eq_true rfl) (Nat.le_of_ble_eq_true rfl) (ty := .int) rfl rfl dX11_comes_114 (⟨⟨_, rfl⟩, ⟨wd_kp.rf, hIM0⟩⟩)
        · refine lv_aload_n hx hb dX11_comes_37 rfl (lv_at hl 0 rfl) ?_
          refine x_get (ref := "NoteHouseModel") F hP kI0 rfl (fun _ h => List.mem_cons_of_mem _ (List.mem_append_right _ (h))) 20 (Nat.le_of_ble_eq_true rfl) (List.mem_cons_of_mem _ (List.mem_append_left _ (List.mem_of_getElem? (i := 2) rfl))) rfl rfl dX11_comes_38 ?_
          refine lv_iload_n hx hb dX11_comes_41 rfl (lv_at hl 2 rfl) ?_
          refine x_zald F hP kI16 (vp_in_nI (n := kk) (N := 60) (by omega) (by decide)) dX11_comes_42 ?_
          refine lv_if_ne (tgt := 68) hx hb dX11_comes_43 (by decide) (fun c_21 => ?_) (fun c_21 => ?_)
          · refine lv_iload_n hx hb dX11_comes_68 rfl (lv_at hl 1 rfl) ?_
            refine lv_iconst (v := 1) hx hb dX11_comes_69 (by decide) ?_
            refine lv_icmp_ne (tgt := 113) hx hb dX11_comes_70 (by decide) (fun c_22 => ?_) (fun c_22 => absurd c_22 (fun q => absurd (cK0.symm.trans q) (by decide)))
            refine lv_iconst (v := (-1)) hx hb dX11_comes_113 (by decide) ?_
            exact y_ir K hP hD hS (Nat.le_of_ble_eq_true rfl) (Nat.le_of_ble_eq_true rfl) (ty := .int) rfl rfl dX11_comes_114 (⟨⟨_, rfl⟩, ⟨wd_kp.rf, hIM0⟩⟩)
          · refine lv_aload_n hx hb dX11_comes_46 rfl (lv_at hl 0 rfl) ?_
            refine x_get (ref := "NoteHouseModel") F hP kI0 rfl (fun _ h => List.mem_cons_of_mem _ (List.mem_append_right _ (h))) 19 (Nat.le_of_ble_eq_true rfl) (List.mem_cons_of_mem _ (List.mem_append_left _ (List.mem_of_getElem? (i := 3) rfl))) rfl rfl dX11_comes_47 ?_
            refine lv_iload_n hx hb dX11_comes_50 rfl (lv_at hl 2 rfl) ?_
            refine x_iald F hP kI15 (vp_in_nI (n := kk) (N := 60) (by omega) (by decide)) dX11_comes_51 ?_
            refine lv_ldc (v := 268435456) hx hb hown (hts _ (List.mem_cons_of_mem _ (List.mem_append_left _ (List.mem_of_getElem? (i := 4) rfl)))) dX11_comes_52 ?_
            refine lv_icmp_ne (tgt := 61) hx hb dX11_comes_54 (by decide) (fun c_23 => ?_) (fun c_23 => ?_)
            · refine lv_aload_n hx hb dX11_comes_61 rfl (lv_at hl 0 rfl) ?_
              refine x_get (ref := "NoteHouseModel") F hP kI0 rfl (fun _ h => List.mem_cons_of_mem _ (List.mem_append_right _ (h))) 19 (Nat.le_of_ble_eq_true rfl) (List.mem_cons_of_mem _ (List.mem_append_left _ (List.mem_of_getElem? (i := 3) rfl))) rfl rfl dX11_comes_62 ?_
              refine lv_iload_n hx hb dX11_comes_65 rfl (lv_at hl 2 rfl) ?_
              refine x_iald F hP kI15 (vp_in_nI (n := kk) (N := 60) (by omega) (by decide)) dX11_comes_66 ?_
              exact y_ir K hP hD hS (Nat.le_of_ble_eq_true rfl) (Nat.le_of_ble_eq_true rfl) (ty := .int) rfl rfl dX11_comes_67 (⟨⟨_, rfl⟩, ⟨wd_kp.rf, hIM0⟩⟩)
            · refine lv_iconst (v := (-1)) hx hb dX11_comes_57 (by decide) ?_
              refine lv_goto (tgt := 67) hx hb dX11_comes_58 (by decide) ?_
              exact y_ir K hP hD hS (Nat.le_of_ble_eq_true rfl) (Nat.le_of_ble_eq_true rfl) (ty := .int) rfl rfl dX11_comes_67 (⟨⟨_, rfl⟩, ⟨wd_kp.rf, hIM0⟩⟩)
  · refine lv_iconst (v := (-1)) hx hb dX11_comes_7 (by decide) ?_
    exact y_ir K hP hD hS (Nat.le_of_ble_eq_true rfl) (Nat.le_of_ble_eq_true rfl) (ty := .int) rfl rfl dX11_comes_8 (⟨⟨_, rfl⟩, ⟨wd_kp.rf, hIM0⟩⟩)
set_option maxHeartbeats 4000000 in
set_option maxRecDepth 100000 in
theorem M_feed (l : Launch) (D : va_G) (cy : Nat → ClassId) (sk sv : Nat → Nat) (w : Wd) (tg : Nat → Nat) (y : Nat) (td : Int32) (pc ac sc ln : Nat) (se plv : Nat → Int32) (x1 x2 x3 x4 x5 : Int32) (hIM0 : IM cy tg y td pc ac sc ln se plv w) : Ct l D cy sk sv yX11_feed wsX11_feed ({ frames := 1, cells := 0, slots := 0, locals := 22 }) [.ref y, .int x1, .int x2, .int x3, .int x4, .int x5] w (fun v w1 => v = some (.int (feedA ln)) ∧ MP cy tg y td pc ac sc (feedC ln) se plv w w1) := by
  refine Ct.by (cc := cX11_feed) (maxL := 6) (ret := (some .int)) (by decide +kernel) rfl (Nat.le_of_ble_eq_true rfl) ?_
  intro p e s m args below meth c A Q F hnm K ls hl
  have F : wd_Fx p s m args meth c cX11_feed 6 wsX11_feed RX11 D cy sk sv A := F
  have hl : lv_has ls 6 [(0, .ref y), (1, .int x1), (2, .int x2), (3, .int x3), (4, .int x4), (5, .int x5)] := hl
  have hx := F.1.1
  have hb := F.1.2.1
  have hown := F.1.2.2.2.1
  have hts := F.1.2.2.2.2
  intro H locs hP hD hS
  have kp0 : wd_kp (fun b => 10000 ≤ tg b) w w := wd_kp.rf
  refine hIM0 _ ?_
  intro m2 m3 m4 m5 m6 m8 m9 m10 m11 m12 m13 m14 m17 m18 m19 m20 m21 m22 m23 m24 m29 m30 m31 m32 m33 m34 m35 m36 m37 m39 m40 m41 m42 m43 m44 m45 m46 m47 m48 m49 m51 m52 m53 m54 m56 m57 m58 m59 sh gf v0 v26 v27 v28 v50 f4 f5 f6 f8 f9 f10 f11 f12 f13 f14 f17 f18 f19 f20 f21 f22 f24 f29 f30 f31 f32 f33 f34 f35 f36 f37 f39 f40 f41 f42 f43 f44 f45 f46 f47 f48 f49 f51 f52 f53 f54 f56 f57 f58 f59 qp pr fp qw wr fw qs sr fs hp90 hp91 hp92 hp93 hp94 hp95 hrl hc ht hp hso hlo kI0 tI0 kI1 tI1 kI2 tI2 kI3 tI3 kI4 tI4 kI5 tI5 kI6 tI6 kI7 tI7 kI8 tI8 kI9 tI9 kI10 tI10 kI11 tI11 kI12 tI12 kI13 tI13 kI14 tI14 kI15 tI15 kI16 tI16 kI17 tI17 kI18 tI18 kI19 tI19 kI20 tI20 kI21 tI21 kI22 tI22 kI23 tI23 kI24 tI24 kI25 tI25 kI26 tI26 kI27 tI27 kI28 tI28 kI29 tI29 kI30 tI30 kI31 tI31 kI32 tI32 kI33 tI33 kI34 tI34 kI35 tI35 kI36 tI36 kI37 tI37 kI38 tI38 kI39 tI39 kI40 tI40 kI41 tI41 kI42 tI42 kI43 tI43 kI44 tI44 kI45 tI45 kI46 tI46 kI47 tI47 kI48 tI48 hFPR hFWR hFSR
  refine lv_aload_n hx hb dX11_feed_0 rfl (lv_at hl 0 rfl) ?_
  refine x_get (ref := "NoteHouseModel") F hP kI0 rfl (fun _ h => List.mem_cons_of_mem _ (List.mem_append_right _ (h))) 25 (Nat.le_of_ble_eq_true rfl) (List.mem_cons_of_mem _ (List.mem_append_left _ (List.mem_of_getElem? (i := 0) rfl))) rfl rfl dX11_feed_1 ?_
  refine lv_bipush (v := 20) hx hb dX11_feed_4 (by decide) ?_
  refine lv_iadd hx hb dX11_feed_6 ?_
  rw [show ((nI ln) + 20 : Int32) = nI (ln + 20) from nI_add ln 20]
  refine lv_sipush (v := 300) hx hb dX11_feed_7 (by decide) ?_
  refine lv_icmp_le (tgt := 15) hx hb dX11_feed_10 (by decide) (fun c_1 => ?_) (fun c_1 => ?_)
  · have hrm : ln + 20 ≤ 300 := (nI_leI (a := ln + 20) (b := 300) (by omega) (by omega)).mp c_1
    refine lv_aload_n hx hb dX11_feed_15 rfl (lv_at hl 0 rfl) ?_
    refine lv_iload_n hx hb dX11_feed_16 rfl (lv_at hl 1 rfl) ?_
    refine x_callV (n := 1) (As := [.int x1]) (rest := []) F hP hD hS (m_put l D cy sk sv w tg y m2 m3 m4 m5 m6 m8 m9 m10 m11 m12 m13 m14 m17 m18 m19 m20 m21 m22 m23 m24 m29 m30 m31 m32 m33 m34 m35 m36 m37 m39 m40 m41 m42 m43 m44 m45 m46 m47 m48 m49 m51 m52 m53 m54 m56 m57 m58 m59 pc ac sc ln sh gf v0 td v26 v27 v28 v50 f24 x1 kI0 kI20 (fun b => b = y ∨ b = m24) (Or.inl rfl) (Or.inr rfl) tI0 tI20 (by omega)) gX11_feed_X11_put rfl rfl (by decide +kernel) ⟨(Nat.le_of_ble_eq_true rfl), (Nat.le_of_ble_eq_true rfl)⟩ rfl hl.1 (Nat.le_of_ble_eq_true rfl) kI0 rfl dX11_feed_17 rfl ⟨(Nat.le_of_ble_eq_true rfl), (Nat.le_of_ble_eq_true rfl)⟩ (fun v3 w4 hp2 H locs hP hD hS => ?_)
    obtain ⟨gx5, rfl, kq8, k6, k7⟩ := hp2
    have k9 := kq8.2 _ _ kI1 (orN (tg_ne tI1 tI0 (by decide)) (tg_ne tI1 tI20 (by decide)))
    have k10 := kq8.2 _ _ kI2 (orN (tg_ne tI2 tI0 (by decide)) (tg_ne tI2 tI20 (by decide)))
    have k11 := kq8.2 _ _ kI3 (orN (tg_ne tI3 tI0 (by decide)) (tg_ne tI3 tI20 (by decide)))
    have k12 := kq8.2 _ _ kI4 (orN (tg_ne tI4 tI0 (by decide)) (tg_ne tI4 tI20 (by decide)))
    have k13 := kq8.2 _ _ kI5 (orN (tg_ne tI5 tI0 (by decide)) (tg_ne tI5 tI20 (by decide)))
    have k14 := kq8.2 _ _ kI6 (orN (tg_ne tI6 tI0 (by decide)) (tg_ne tI6 tI20 (by decide)))
    have k15 := kq8.2 _ _ kI7 (orN (tg_ne tI7 tI0 (by decide)) (tg_ne tI7 tI20 (by decide)))
    have k16 := kq8.2 _ _ kI8 (orN (tg_ne tI8 tI0 (by decide)) (tg_ne tI8 tI20 (by decide)))
    have k17 := kq8.2 _ _ kI9 (orN (tg_ne tI9 tI0 (by decide)) (tg_ne tI9 tI20 (by decide)))
    have k18 := kq8.2 _ _ kI10 (orN (tg_ne tI10 tI0 (by decide)) (tg_ne tI10 tI20 (by decide)))
    have k19 := kq8.2 _ _ kI11 (orN (tg_ne tI11 tI0 (by decide)) (tg_ne tI11 tI20 (by decide)))
    have k20 := kq8.2 _ _ kI12 (orN (tg_ne tI12 tI0 (by decide)) (tg_ne tI12 tI20 (by decide)))
    have k21 := kq8.2 _ _ kI13 (orN (tg_ne tI13 tI0 (by decide)) (tg_ne tI13 tI20 (by decide)))
    have k22 := kq8.2 _ _ kI14 (orN (tg_ne tI14 tI0 (by decide)) (tg_ne tI14 tI20 (by decide)))
    have k23 := kq8.2 _ _ kI15 (orN (tg_ne tI15 tI0 (by decide)) (tg_ne tI15 tI20 (by decide)))
    have k24 := kq8.2 _ _ kI16 (orN (tg_ne tI16 tI0 (by decide)) (tg_ne tI16 tI20 (by decide)))
    have k25 := kq8.2 _ _ kI17 (orN (tg_ne tI17 tI0 (by decide)) (tg_ne tI17 tI20 (by decide)))
    have k26 := kq8.2 _ _ kI18 (orN (tg_ne tI18 tI0 (by decide)) (tg_ne tI18 tI20 (by decide)))
    have k27 := kq8.2 _ _ kI19 (orN (tg_ne tI19 tI0 (by decide)) (tg_ne tI19 tI20 (by decide)))
    have k28 := kq8.2 _ _ kI21 (orN (tg_ne tI21 tI0 (by decide)) (tg_ne tI21 tI20 (by decide)))
    have k29 := kq8.2 _ _ kI22 (orN (tg_ne tI22 tI0 (by decide)) (tg_ne tI22 tI20 (by decide)))
    have k30 := kq8.2 _ _ kI23 (orN (tg_ne tI23 tI0 (by decide)) (tg_ne tI23 tI20 (by decide)))
    have k31 := kq8.2 _ _ kI24 (orN (tg_ne tI24 tI0 (by decide)) (tg_ne tI24 tI20 (by decide)))
    have k32 := kq8.2 _ _ kI25 (orN (tg_ne tI25 tI0 (by decide)) (tg_ne tI25 tI20 (by decide)))
    have k33 := kq8.2 _ _ kI26 (orN (tg_ne tI26 tI0 (by decide)) (tg_ne tI26 tI20 (by decide)))
    have k34 := kq8.2 _ _ kI27 (orN (tg_ne tI27 tI0 (by decide)) (tg_ne tI27 tI20 (by decide)))
    have k35 := kq8.2 _ _ kI28 (orN (tg_ne tI28 tI0 (by decide)) (tg_ne tI28 tI20 (by decide)))
    have k36 := kq8.2 _ _ kI29 (orN (tg_ne tI29 tI0 (by decide)) (tg_ne tI29 tI20 (by decide)))
    have k37 := kq8.2 _ _ kI30 (orN (tg_ne tI30 tI0 (by decide)) (tg_ne tI30 tI20 (by decide)))
    have k38 := kq8.2 _ _ kI31 (orN (tg_ne tI31 tI0 (by decide)) (tg_ne tI31 tI20 (by decide)))
    have k39 := kq8.2 _ _ kI32 (orN (tg_ne tI32 tI0 (by decide)) (tg_ne tI32 tI20 (by decide)))
    have k40 := kq8.2 _ _ kI33 (orN (tg_ne tI33 tI0 (by decide)) (tg_ne tI33 tI20 (by decide)))
    have k41 := kq8.2 _ _ kI34 (orN (tg_ne tI34 tI0 (by decide)) (tg_ne tI34 tI20 (by decide)))
    have k42 := kq8.2 _ _ kI35 (orN (tg_ne tI35 tI0 (by decide)) (tg_ne tI35 tI20 (by decide)))
    have k43 := kq8.2 _ _ kI36 (orN (tg_ne tI36 tI0 (by decide)) (tg_ne tI36 tI20 (by decide)))
    have k44 := kq8.2 _ _ kI37 (orN (tg_ne tI37 tI0 (by decide)) (tg_ne tI37 tI20 (by decide)))
    have k45 := kq8.2 _ _ kI38 (orN (tg_ne tI38 tI0 (by decide)) (tg_ne tI38 tI20 (by decide)))
    have k46 := kq8.2 _ _ kI39 (orN (tg_ne tI39 tI0 (by decide)) (tg_ne tI39 tI20 (by decide)))
    have k47 := kq8.2 _ _ kI40 (orN (tg_ne tI40 tI0 (by decide)) (tg_ne tI40 tI20 (by decide)))
    have k48 := kq8.2 _ _ kI41 (orN (tg_ne tI41 tI0 (by decide)) (tg_ne tI41 tI20 (by decide)))
    have k49 := kq8.2 _ _ kI42 (orN (tg_ne tI42 tI0 (by decide)) (tg_ne tI42 tI20 (by decide)))
    have k50 := kq8.2 _ _ kI43 (orN (tg_ne tI43 tI0 (by decide)) (tg_ne tI43 tI20 (by decide)))
    have k51 := kq8.2 _ _ kI44 (orN (tg_ne tI44 tI0 (by decide)) (tg_ne tI44 tI20 (by decide)))
    have k52 := kq8.2 _ _ kI45 (orN (tg_ne tI45 tI0 (by decide)) (tg_ne tI45 tI20 (by decide)))
    have k53 := kq8.2 _ _ kI46 (orN (tg_ne tI46 tI0 (by decide)) (tg_ne tI46 tI20 (by decide)))
    have k54 := kq8.2 _ _ kI47 (orN (tg_ne tI47 tI0 (by decide)) (tg_ne tI47 tI20 (by decide)))
    have k55 := kq8.2 _ _ kI48 (orN (tg_ne tI48 tI0 (by decide)) (tg_ne tI48 tI20 (by decide)))
    have fm56 : ∀ k9, k9 < 12 → qp k9 = some (pr k9) ∧ wd_at w4 (pr k9) (.inl (cy 2, 12, .inl (fp k9))) ∧ tg (pr k9) = 11000 + k9 := fun k9 hi9 => ⟨(hFPR k9 hi9).1, kq8.2 _ _ (hFPR k9 hi9).2.1 (orN (tg_ne (hFPR k9 hi9).2.2 tI0 (tnA (show 10000 < 11000 by decide))) (tg_ne (hFPR k9 hi9).2.2 tI20 (tnA (show 10124 < 11000 by decide)))), (hFPR k9 hi9).2.2⟩
    have fm57 : ∀ k9, k9 < 12 → qw k9 = some (wr k9) ∧ wd_at w4 (wr k9) (.inl (cy 2, 12, .inl (fw k9))) ∧ tg (wr k9) = 12000 + k9 := fun k9 hi9 => ⟨(hFWR k9 hi9).1, kq8.2 _ _ (hFWR k9 hi9).2.1 (orN (tg_ne (hFWR k9 hi9).2.2 tI0 (tnA (show 10000 < 12000 by decide))) (tg_ne (hFWR k9 hi9).2.2 tI20 (tnA (show 10124 < 12000 by decide)))), (hFWR k9 hi9).2.2⟩
    have fm58 : ∀ k9, k9 < 60 → qs k9 = some (sr k9) ∧ wd_at w4 (sr k9) (.inl (cy 2, 12, .inl (fs k9))) ∧ tg (sr k9) = 13000 + k9 := fun k9 hi9 => ⟨(hFSR k9 hi9).1, kq8.2 _ _ (hFSR k9 hi9).2.1 (orN (tg_ne (hFSR k9 hi9).2.2 tI0 (tnA (show 10000 < 13000 by decide))) (tg_ne (hFSR k9 hi9).2.2 tI20 (tnA (show 10124 < 13000 by decide)))), (hFSR k9 hi9).2.2⟩
    have kp59 := kp0.tr kq8 (fun b9 hm q9 => (fun q9 => Or.elim q9 (fun q9 => q9 ▸ (tgT tI0 (by decide))) (fun q9 => q9 ▸ (tgT tI20 (by decide)))) q9)
    refine W.eq (g2 := F0 m 20 ls []) rfl (W.widen (k := 0) (n := 0) (Nat.le_of_ble_eq_true rfl) (Nat.le_of_ble_eq_true rfl) ?_)
    refine lv_aload_n hx hb dX11_feed_20 rfl (lv_at hl 0 rfl) ?_
    refine lv_iload_n hx hb dX11_feed_21 rfl (lv_at hl 2 rfl) ?_
    refine x_callV (n := 1) (As := [.int x2]) (rest := []) F hP hD hS (m_put l D cy sk sv w4 tg y m2 m3 m4 m5 m6 m8 m9 m10 m11 m12 m13 m14 m17 m18 m19 m20 m21 m22 m23 m24 m29 m30 m31 m32 m33 m34 m35 m36 m37 m39 m40 m41 m42 m43 m44 m45 m46 m47 m48 m49 m51 m52 m53 m54 m56 m57 m58 m59 pc ac sc (ln + 4) sh gf v0 td v26 v27 v28 v50 gx5 x2 k6 k7 (fun b => b = y ∨ b = m24) (Or.inl rfl) (Or.inr rfl) tI0 tI20 (by omega)) gX11_feed_X11_put rfl rfl (by decide +kernel) ⟨(Nat.le_of_ble_eq_true rfl), (Nat.le_of_ble_eq_true rfl)⟩ rfl hl.1 (Nat.le_of_ble_eq_true rfl) k6 rfl dX11_feed_22 rfl ⟨(Nat.le_of_ble_eq_true rfl), (Nat.le_of_ble_eq_true rfl)⟩ (fun v61 w62 hp60 H locs hP hD hS => ?_)
    obtain ⟨gx63, rfl, kq66, k64, k65⟩ := hp60
    have k67 := kq66.2 _ _ k9 (orN (tg_ne tI1 tI0 (by decide)) (tg_ne tI1 tI20 (by decide)))
    have k68 := kq66.2 _ _ k10 (orN (tg_ne tI2 tI0 (by decide)) (tg_ne tI2 tI20 (by decide)))
    have k69 := kq66.2 _ _ k11 (orN (tg_ne tI3 tI0 (by decide)) (tg_ne tI3 tI20 (by decide)))
    have k70 := kq66.2 _ _ k12 (orN (tg_ne tI4 tI0 (by decide)) (tg_ne tI4 tI20 (by decide)))
    have k71 := kq66.2 _ _ k13 (orN (tg_ne tI5 tI0 (by decide)) (tg_ne tI5 tI20 (by decide)))
    have k72 := kq66.2 _ _ k14 (orN (tg_ne tI6 tI0 (by decide)) (tg_ne tI6 tI20 (by decide)))
    have k73 := kq66.2 _ _ k15 (orN (tg_ne tI7 tI0 (by decide)) (tg_ne tI7 tI20 (by decide)))
    have k74 := kq66.2 _ _ k16 (orN (tg_ne tI8 tI0 (by decide)) (tg_ne tI8 tI20 (by decide)))
    have k75 := kq66.2 _ _ k17 (orN (tg_ne tI9 tI0 (by decide)) (tg_ne tI9 tI20 (by decide)))
    have k76 := kq66.2 _ _ k18 (orN (tg_ne tI10 tI0 (by decide)) (tg_ne tI10 tI20 (by decide)))
    have k77 := kq66.2 _ _ k19 (orN (tg_ne tI11 tI0 (by decide)) (tg_ne tI11 tI20 (by decide)))
    have k78 := kq66.2 _ _ k20 (orN (tg_ne tI12 tI0 (by decide)) (tg_ne tI12 tI20 (by decide)))
    have k79 := kq66.2 _ _ k21 (orN (tg_ne tI13 tI0 (by decide)) (tg_ne tI13 tI20 (by decide)))
    have k80 := kq66.2 _ _ k22 (orN (tg_ne tI14 tI0 (by decide)) (tg_ne tI14 tI20 (by decide)))
    have k81 := kq66.2 _ _ k23 (orN (tg_ne tI15 tI0 (by decide)) (tg_ne tI15 tI20 (by decide)))
    have k82 := kq66.2 _ _ k24 (orN (tg_ne tI16 tI0 (by decide)) (tg_ne tI16 tI20 (by decide)))
    have k83 := kq66.2 _ _ k25 (orN (tg_ne tI17 tI0 (by decide)) (tg_ne tI17 tI20 (by decide)))
    have k84 := kq66.2 _ _ k26 (orN (tg_ne tI18 tI0 (by decide)) (tg_ne tI18 tI20 (by decide)))
    have k85 := kq66.2 _ _ k27 (orN (tg_ne tI19 tI0 (by decide)) (tg_ne tI19 tI20 (by decide)))
    have k86 := kq66.2 _ _ k28 (orN (tg_ne tI21 tI0 (by decide)) (tg_ne tI21 tI20 (by decide)))
    have k87 := kq66.2 _ _ k29 (orN (tg_ne tI22 tI0 (by decide)) (tg_ne tI22 tI20 (by decide)))
    have k88 := kq66.2 _ _ k30 (orN (tg_ne tI23 tI0 (by decide)) (tg_ne tI23 tI20 (by decide)))
    have k89 := kq66.2 _ _ k31 (orN (tg_ne tI24 tI0 (by decide)) (tg_ne tI24 tI20 (by decide)))
    have k90 := kq66.2 _ _ k32 (orN (tg_ne tI25 tI0 (by decide)) (tg_ne tI25 tI20 (by decide)))
    have k91 := kq66.2 _ _ k33 (orN (tg_ne tI26 tI0 (by decide)) (tg_ne tI26 tI20 (by decide)))
    have k92 := kq66.2 _ _ k34 (orN (tg_ne tI27 tI0 (by decide)) (tg_ne tI27 tI20 (by decide)))
    have k93 := kq66.2 _ _ k35 (orN (tg_ne tI28 tI0 (by decide)) (tg_ne tI28 tI20 (by decide)))
    have k94 := kq66.2 _ _ k36 (orN (tg_ne tI29 tI0 (by decide)) (tg_ne tI29 tI20 (by decide)))
    have k95 := kq66.2 _ _ k37 (orN (tg_ne tI30 tI0 (by decide)) (tg_ne tI30 tI20 (by decide)))
    have k96 := kq66.2 _ _ k38 (orN (tg_ne tI31 tI0 (by decide)) (tg_ne tI31 tI20 (by decide)))
    have k97 := kq66.2 _ _ k39 (orN (tg_ne tI32 tI0 (by decide)) (tg_ne tI32 tI20 (by decide)))
    have k98 := kq66.2 _ _ k40 (orN (tg_ne tI33 tI0 (by decide)) (tg_ne tI33 tI20 (by decide)))
    have k99 := kq66.2 _ _ k41 (orN (tg_ne tI34 tI0 (by decide)) (tg_ne tI34 tI20 (by decide)))
    have k100 := kq66.2 _ _ k42 (orN (tg_ne tI35 tI0 (by decide)) (tg_ne tI35 tI20 (by decide)))
    have k101 := kq66.2 _ _ k43 (orN (tg_ne tI36 tI0 (by decide)) (tg_ne tI36 tI20 (by decide)))
    have k102 := kq66.2 _ _ k44 (orN (tg_ne tI37 tI0 (by decide)) (tg_ne tI37 tI20 (by decide)))
    have k103 := kq66.2 _ _ k45 (orN (tg_ne tI38 tI0 (by decide)) (tg_ne tI38 tI20 (by decide)))
    have k104 := kq66.2 _ _ k46 (orN (tg_ne tI39 tI0 (by decide)) (tg_ne tI39 tI20 (by decide)))
    have k105 := kq66.2 _ _ k47 (orN (tg_ne tI40 tI0 (by decide)) (tg_ne tI40 tI20 (by decide)))
    have k106 := kq66.2 _ _ k48 (orN (tg_ne tI41 tI0 (by decide)) (tg_ne tI41 tI20 (by decide)))
    have k107 := kq66.2 _ _ k49 (orN (tg_ne tI42 tI0 (by decide)) (tg_ne tI42 tI20 (by decide)))
    have k108 := kq66.2 _ _ k50 (orN (tg_ne tI43 tI0 (by decide)) (tg_ne tI43 tI20 (by decide)))
    have k109 := kq66.2 _ _ k51 (orN (tg_ne tI44 tI0 (by decide)) (tg_ne tI44 tI20 (by decide)))
    have k110 := kq66.2 _ _ k52 (orN (tg_ne tI45 tI0 (by decide)) (tg_ne tI45 tI20 (by decide)))
    have k111 := kq66.2 _ _ k53 (orN (tg_ne tI46 tI0 (by decide)) (tg_ne tI46 tI20 (by decide)))
    have k112 := kq66.2 _ _ k54 (orN (tg_ne tI47 tI0 (by decide)) (tg_ne tI47 tI20 (by decide)))
    have k113 := kq66.2 _ _ k55 (orN (tg_ne tI48 tI0 (by decide)) (tg_ne tI48 tI20 (by decide)))
    have fm114 : ∀ k9, k9 < 12 → qp k9 = some (pr k9) ∧ wd_at w62 (pr k9) (.inl (cy 2, 12, .inl (fp k9))) ∧ tg (pr k9) = 11000 + k9 := fun k9 hi9 => ⟨(fm56 k9 hi9).1, kq66.2 _ _ (fm56 k9 hi9).2.1 (orN (tg_ne (fm56 k9 hi9).2.2 tI0 (tnA (show 10000 < 11000 by decide))) (tg_ne (fm56 k9 hi9).2.2 tI20 (tnA (show 10124 < 11000 by decide)))), (fm56 k9 hi9).2.2⟩
    have fm115 : ∀ k9, k9 < 12 → qw k9 = some (wr k9) ∧ wd_at w62 (wr k9) (.inl (cy 2, 12, .inl (fw k9))) ∧ tg (wr k9) = 12000 + k9 := fun k9 hi9 => ⟨(fm57 k9 hi9).1, kq66.2 _ _ (fm57 k9 hi9).2.1 (orN (tg_ne (fm57 k9 hi9).2.2 tI0 (tnA (show 10000 < 12000 by decide))) (tg_ne (fm57 k9 hi9).2.2 tI20 (tnA (show 10124 < 12000 by decide)))), (fm57 k9 hi9).2.2⟩
    have fm116 : ∀ k9, k9 < 60 → qs k9 = some (sr k9) ∧ wd_at w62 (sr k9) (.inl (cy 2, 12, .inl (fs k9))) ∧ tg (sr k9) = 13000 + k9 := fun k9 hi9 => ⟨(fm58 k9 hi9).1, kq66.2 _ _ (fm58 k9 hi9).2.1 (orN (tg_ne (fm58 k9 hi9).2.2 tI0 (tnA (show 10000 < 13000 by decide))) (tg_ne (fm58 k9 hi9).2.2 tI20 (tnA (show 10124 < 13000 by decide)))), (fm58 k9 hi9).2.2⟩
    have kp117 := kp59.tr kq66 (fun b9 hm q9 => (fun q9 => Or.elim q9 (fun q9 => q9 ▸ (tgT tI0 (by decide))) (fun q9 => q9 ▸ (tgT tI20 (by decide)))) q9)
    refine W.eq (g2 := F0 m 25 ls []) rfl (W.widen (k := 0) (n := 0) (Nat.le_of_ble_eq_true rfl) (Nat.le_of_ble_eq_true rfl) ?_)
    refine lv_aload_n hx hb dX11_feed_25 rfl (lv_at hl 0 rfl) ?_
    refine lv_iload_n hx hb dX11_feed_26 rfl (lv_at hl 3 rfl) ?_
    refine x_callV (n := 1) (As := [.int x3]) (rest := []) F hP hD hS (m_put l D cy sk sv w62 tg y m2 m3 m4 m5 m6 m8 m9 m10 m11 m12 m13 m14 m17 m18 m19 m20 m21 m22 m23 m24 m29 m30 m31 m32 m33 m34 m35 m36 m37 m39 m40 m41 m42 m43 m44 m45 m46 m47 m48 m49 m51 m52 m53 m54 m56 m57 m58 m59 pc ac sc ((ln + 4) + 4) sh gf v0 td v26 v27 v28 v50 gx63 x3 k64 k65 (fun b => b = y ∨ b = m24) (Or.inl rfl) (Or.inr rfl) tI0 tI20 (by omega)) gX11_feed_X11_put rfl rfl (by decide +kernel) ⟨(Nat.le_of_ble_eq_true rfl), (Nat.le_of_ble_eq_true rfl)⟩ rfl hl.1 (Nat.le_of_ble_eq_true rfl) k64 rfl dX11_feed_27 rfl ⟨(Nat.le_of_ble_eq_true rfl), (Nat.le_of_ble_eq_true rfl)⟩ (fun v119 w120 hp118 H locs hP hD hS => ?_)
    obtain ⟨gx121, rfl, kq124, k122, k123⟩ := hp118
    have k125 := kq124.2 _ _ k67 (orN (tg_ne tI1 tI0 (by decide)) (tg_ne tI1 tI20 (by decide)))
    have k126 := kq124.2 _ _ k68 (orN (tg_ne tI2 tI0 (by decide)) (tg_ne tI2 tI20 (by decide)))
    have k127 := kq124.2 _ _ k69 (orN (tg_ne tI3 tI0 (by decide)) (tg_ne tI3 tI20 (by decide)))
    have k128 := kq124.2 _ _ k70 (orN (tg_ne tI4 tI0 (by decide)) (tg_ne tI4 tI20 (by decide)))
    have k129 := kq124.2 _ _ k71 (orN (tg_ne tI5 tI0 (by decide)) (tg_ne tI5 tI20 (by decide)))
    have k130 := kq124.2 _ _ k72 (orN (tg_ne tI6 tI0 (by decide)) (tg_ne tI6 tI20 (by decide)))
    have k131 := kq124.2 _ _ k73 (orN (tg_ne tI7 tI0 (by decide)) (tg_ne tI7 tI20 (by decide)))
    have k132 := kq124.2 _ _ k74 (orN (tg_ne tI8 tI0 (by decide)) (tg_ne tI8 tI20 (by decide)))
    have k133 := kq124.2 _ _ k75 (orN (tg_ne tI9 tI0 (by decide)) (tg_ne tI9 tI20 (by decide)))
    have k134 := kq124.2 _ _ k76 (orN (tg_ne tI10 tI0 (by decide)) (tg_ne tI10 tI20 (by decide)))
    have k135 := kq124.2 _ _ k77 (orN (tg_ne tI11 tI0 (by decide)) (tg_ne tI11 tI20 (by decide)))
    have k136 := kq124.2 _ _ k78 (orN (tg_ne tI12 tI0 (by decide)) (tg_ne tI12 tI20 (by decide)))
    have k137 := kq124.2 _ _ k79 (orN (tg_ne tI13 tI0 (by decide)) (tg_ne tI13 tI20 (by decide)))
    have k138 := kq124.2 _ _ k80 (orN (tg_ne tI14 tI0 (by decide)) (tg_ne tI14 tI20 (by decide)))
    have k139 := kq124.2 _ _ k81 (orN (tg_ne tI15 tI0 (by decide)) (tg_ne tI15 tI20 (by decide)))
    have k140 := kq124.2 _ _ k82 (orN (tg_ne tI16 tI0 (by decide)) (tg_ne tI16 tI20 (by decide)))
    have k141 := kq124.2 _ _ k83 (orN (tg_ne tI17 tI0 (by decide)) (tg_ne tI17 tI20 (by decide)))
    have k142 := kq124.2 _ _ k84 (orN (tg_ne tI18 tI0 (by decide)) (tg_ne tI18 tI20 (by decide)))
    have k143 := kq124.2 _ _ k85 (orN (tg_ne tI19 tI0 (by decide)) (tg_ne tI19 tI20 (by decide)))
    have k144 := kq124.2 _ _ k86 (orN (tg_ne tI21 tI0 (by decide)) (tg_ne tI21 tI20 (by decide)))
    have k145 := kq124.2 _ _ k87 (orN (tg_ne tI22 tI0 (by decide)) (tg_ne tI22 tI20 (by decide)))
    have k146 := kq124.2 _ _ k88 (orN (tg_ne tI23 tI0 (by decide)) (tg_ne tI23 tI20 (by decide)))
    have k147 := kq124.2 _ _ k89 (orN (tg_ne tI24 tI0 (by decide)) (tg_ne tI24 tI20 (by decide)))
    have k148 := kq124.2 _ _ k90 (orN (tg_ne tI25 tI0 (by decide)) (tg_ne tI25 tI20 (by decide)))
    have k149 := kq124.2 _ _ k91 (orN (tg_ne tI26 tI0 (by decide)) (tg_ne tI26 tI20 (by decide)))
    have k150 := kq124.2 _ _ k92 (orN (tg_ne tI27 tI0 (by decide)) (tg_ne tI27 tI20 (by decide)))
    have k151 := kq124.2 _ _ k93 (orN (tg_ne tI28 tI0 (by decide)) (tg_ne tI28 tI20 (by decide)))
    have k152 := kq124.2 _ _ k94 (orN (tg_ne tI29 tI0 (by decide)) (tg_ne tI29 tI20 (by decide)))
    have k153 := kq124.2 _ _ k95 (orN (tg_ne tI30 tI0 (by decide)) (tg_ne tI30 tI20 (by decide)))
    have k154 := kq124.2 _ _ k96 (orN (tg_ne tI31 tI0 (by decide)) (tg_ne tI31 tI20 (by decide)))
    have k155 := kq124.2 _ _ k97 (orN (tg_ne tI32 tI0 (by decide)) (tg_ne tI32 tI20 (by decide)))
    have k156 := kq124.2 _ _ k98 (orN (tg_ne tI33 tI0 (by decide)) (tg_ne tI33 tI20 (by decide)))
    have k157 := kq124.2 _ _ k99 (orN (tg_ne tI34 tI0 (by decide)) (tg_ne tI34 tI20 (by decide)))
    have k158 := kq124.2 _ _ k100 (orN (tg_ne tI35 tI0 (by decide)) (tg_ne tI35 tI20 (by decide)))
    have k159 := kq124.2 _ _ k101 (orN (tg_ne tI36 tI0 (by decide)) (tg_ne tI36 tI20 (by decide)))
    have k160 := kq124.2 _ _ k102 (orN (tg_ne tI37 tI0 (by decide)) (tg_ne tI37 tI20 (by decide)))
    have k161 := kq124.2 _ _ k103 (orN (tg_ne tI38 tI0 (by decide)) (tg_ne tI38 tI20 (by decide)))
    have k162 := kq124.2 _ _ k104 (orN (tg_ne tI39 tI0 (by decide)) (tg_ne tI39 tI20 (by decide)))
    have k163 := kq124.2 _ _ k105 (orN (tg_ne tI40 tI0 (by decide)) (tg_ne tI40 tI20 (by decide)))
    have k164 := kq124.2 _ _ k106 (orN (tg_ne tI41 tI0 (by decide)) (tg_ne tI41 tI20 (by decide)))
    have k165 := kq124.2 _ _ k107 (orN (tg_ne tI42 tI0 (by decide)) (tg_ne tI42 tI20 (by decide)))
    have k166 := kq124.2 _ _ k108 (orN (tg_ne tI43 tI0 (by decide)) (tg_ne tI43 tI20 (by decide)))
    have k167 := kq124.2 _ _ k109 (orN (tg_ne tI44 tI0 (by decide)) (tg_ne tI44 tI20 (by decide)))
    have k168 := kq124.2 _ _ k110 (orN (tg_ne tI45 tI0 (by decide)) (tg_ne tI45 tI20 (by decide)))
    have k169 := kq124.2 _ _ k111 (orN (tg_ne tI46 tI0 (by decide)) (tg_ne tI46 tI20 (by decide)))
    have k170 := kq124.2 _ _ k112 (orN (tg_ne tI47 tI0 (by decide)) (tg_ne tI47 tI20 (by decide)))
    have k171 := kq124.2 _ _ k113 (orN (tg_ne tI48 tI0 (by decide)) (tg_ne tI48 tI20 (by decide)))
    have fm172 : ∀ k9, k9 < 12 → qp k9 = some (pr k9) ∧ wd_at w120 (pr k9) (.inl (cy 2, 12, .inl (fp k9))) ∧ tg (pr k9) = 11000 + k9 := fun k9 hi9 => ⟨(fm114 k9 hi9).1, kq124.2 _ _ (fm114 k9 hi9).2.1 (orN (tg_ne (fm114 k9 hi9).2.2 tI0 (tnA (show 10000 < 11000 by decide))) (tg_ne (fm114 k9 hi9).2.2 tI20 (tnA (show 10124 < 11000 by decide)))), (fm114 k9 hi9).2.2⟩
    have fm173 : ∀ k9, k9 < 12 → qw k9 = some (wr k9) ∧ wd_at w120 (wr k9) (.inl (cy 2, 12, .inl (fw k9))) ∧ tg (wr k9) = 12000 + k9 := fun k9 hi9 => ⟨(fm115 k9 hi9).1, kq124.2 _ _ (fm115 k9 hi9).2.1 (orN (tg_ne (fm115 k9 hi9).2.2 tI0 (tnA (show 10000 < 12000 by decide))) (tg_ne (fm115 k9 hi9).2.2 tI20 (tnA (show 10124 < 12000 by decide)))), (fm115 k9 hi9).2.2⟩
    have fm174 : ∀ k9, k9 < 60 → qs k9 = some (sr k9) ∧ wd_at w120 (sr k9) (.inl (cy 2, 12, .inl (fs k9))) ∧ tg (sr k9) = 13000 + k9 := fun k9 hi9 => ⟨(fm116 k9 hi9).1, kq124.2 _ _ (fm116 k9 hi9).2.1 (orN (tg_ne (fm116 k9 hi9).2.2 tI0 (tnA (show 10000 < 13000 by decide))) (tg_ne (fm116 k9 hi9).2.2 tI20 (tnA (show 10124 < 13000 by decide)))), (fm116 k9 hi9).2.2⟩
    have kp175 := kp117.tr kq124 (fun b9 hm q9 => (fun q9 => Or.elim q9 (fun q9 => q9 ▸ (tgT tI0 (by decide))) (fun q9 => q9 ▸ (tgT tI20 (by decide)))) q9)
    refine W.eq (g2 := F0 m 30 ls []) rfl (W.widen (k := 0) (n := 0) (Nat.le_of_ble_eq_true rfl) (Nat.le_of_ble_eq_true rfl) ?_)
    refine lv_aload_n hx hb dX11_feed_30 rfl (lv_at hl 0 rfl) ?_
    refine lv_iload hx hb dX11_feed_31 (lv_at hl 4 rfl) ?_
    refine x_callV (n := 1) (As := [.int x4]) (rest := []) F hP hD hS (m_put l D cy sk sv w120 tg y m2 m3 m4 m5 m6 m8 m9 m10 m11 m12 m13 m14 m17 m18 m19 m20 m21 m22 m23 m24 m29 m30 m31 m32 m33 m34 m35 m36 m37 m39 m40 m41 m42 m43 m44 m45 m46 m47 m48 m49 m51 m52 m53 m54 m56 m57 m58 m59 pc ac sc (((ln + 4) + 4) + 4) sh gf v0 td v26 v27 v28 v50 gx121 x4 k122 k123 (fun b => b = y ∨ b = m24) (Or.inl rfl) (Or.inr rfl) tI0 tI20 (by omega)) gX11_feed_X11_put rfl rfl (by decide +kernel) ⟨(Nat.le_of_ble_eq_true rfl), (Nat.le_of_ble_eq_true rfl)⟩ rfl hl.1 (Nat.le_of_ble_eq_true rfl) k122 rfl dX11_feed_33 rfl ⟨(Nat.le_of_ble_eq_true rfl), (Nat.le_of_ble_eq_true rfl)⟩ (fun v177 w178 hp176 H locs hP hD hS => ?_)
    obtain ⟨gx179, rfl, kq182, k180, k181⟩ := hp176
    have k183 := kq182.2 _ _ k125 (orN (tg_ne tI1 tI0 (by decide)) (tg_ne tI1 tI20 (by decide)))
    have k184 := kq182.2 _ _ k126 (orN (tg_ne tI2 tI0 (by decide)) (tg_ne tI2 tI20 (by decide)))
    have k185 := kq182.2 _ _ k127 (orN (tg_ne tI3 tI0 (by decide)) (tg_ne tI3 tI20 (by decide)))
    have k186 := kq182.2 _ _ k128 (orN (tg_ne tI4 tI0 (by decide)) (tg_ne tI4 tI20 (by decide)))
    have k187 := kq182.2 _ _ k129 (orN (tg_ne tI5 tI0 (by decide)) (tg_ne tI5 tI20 (by decide)))
    have k188 := kq182.2 _ _ k130 (orN (tg_ne tI6 tI0 (by decide)) (tg_ne tI6 tI20 (by decide)))
    have k189 := kq182.2 _ _ k131 (orN (tg_ne tI7 tI0 (by decide)) (tg_ne tI7 tI20 (by decide)))
    have k190 := kq182.2 _ _ k132 (orN (tg_ne tI8 tI0 (by decide)) (tg_ne tI8 tI20 (by decide)))
    have k191 := kq182.2 _ _ k133 (orN (tg_ne tI9 tI0 (by decide)) (tg_ne tI9 tI20 (by decide)))
    have k192 := kq182.2 _ _ k134 (orN (tg_ne tI10 tI0 (by decide)) (tg_ne tI10 tI20 (by decide)))
    have k193 := kq182.2 _ _ k135 (orN (tg_ne tI11 tI0 (by decide)) (tg_ne tI11 tI20 (by decide)))
    have k194 := kq182.2 _ _ k136 (orN (tg_ne tI12 tI0 (by decide)) (tg_ne tI12 tI20 (by decide)))
    have k195 := kq182.2 _ _ k137 (orN (tg_ne tI13 tI0 (by decide)) (tg_ne tI13 tI20 (by decide)))
    have k196 := kq182.2 _ _ k138 (orN (tg_ne tI14 tI0 (by decide)) (tg_ne tI14 tI20 (by decide)))
    have k197 := kq182.2 _ _ k139 (orN (tg_ne tI15 tI0 (by decide)) (tg_ne tI15 tI20 (by decide)))
    have k198 := kq182.2 _ _ k140 (orN (tg_ne tI16 tI0 (by decide)) (tg_ne tI16 tI20 (by decide)))
    have k199 := kq182.2 _ _ k141 (orN (tg_ne tI17 tI0 (by decide)) (tg_ne tI17 tI20 (by decide)))
    have k200 := kq182.2 _ _ k142 (orN (tg_ne tI18 tI0 (by decide)) (tg_ne tI18 tI20 (by decide)))
    have k201 := kq182.2 _ _ k143 (orN (tg_ne tI19 tI0 (by decide)) (tg_ne tI19 tI20 (by decide)))
    have k202 := kq182.2 _ _ k144 (orN (tg_ne tI21 tI0 (by decide)) (tg_ne tI21 tI20 (by decide)))
    have k203 := kq182.2 _ _ k145 (orN (tg_ne tI22 tI0 (by decide)) (tg_ne tI22 tI20 (by decide)))
    have k204 := kq182.2 _ _ k146 (orN (tg_ne tI23 tI0 (by decide)) (tg_ne tI23 tI20 (by decide)))
    have k205 := kq182.2 _ _ k147 (orN (tg_ne tI24 tI0 (by decide)) (tg_ne tI24 tI20 (by decide)))
    have k206 := kq182.2 _ _ k148 (orN (tg_ne tI25 tI0 (by decide)) (tg_ne tI25 tI20 (by decide)))
    have k207 := kq182.2 _ _ k149 (orN (tg_ne tI26 tI0 (by decide)) (tg_ne tI26 tI20 (by decide)))
    have k208 := kq182.2 _ _ k150 (orN (tg_ne tI27 tI0 (by decide)) (tg_ne tI27 tI20 (by decide)))
    have k209 := kq182.2 _ _ k151 (orN (tg_ne tI28 tI0 (by decide)) (tg_ne tI28 tI20 (by decide)))
    have k210 := kq182.2 _ _ k152 (orN (tg_ne tI29 tI0 (by decide)) (tg_ne tI29 tI20 (by decide)))
    have k211 := kq182.2 _ _ k153 (orN (tg_ne tI30 tI0 (by decide)) (tg_ne tI30 tI20 (by decide)))
    have k212 := kq182.2 _ _ k154 (orN (tg_ne tI31 tI0 (by decide)) (tg_ne tI31 tI20 (by decide)))
    have k213 := kq182.2 _ _ k155 (orN (tg_ne tI32 tI0 (by decide)) (tg_ne tI32 tI20 (by decide)))
    have k214 := kq182.2 _ _ k156 (orN (tg_ne tI33 tI0 (by decide)) (tg_ne tI33 tI20 (by decide)))
    have k215 := kq182.2 _ _ k157 (orN (tg_ne tI34 tI0 (by decide)) (tg_ne tI34 tI20 (by decide)))
    have k216 := kq182.2 _ _ k158 (orN (tg_ne tI35 tI0 (by decide)) (tg_ne tI35 tI20 (by decide)))
    have k217 := kq182.2 _ _ k159 (orN (tg_ne tI36 tI0 (by decide)) (tg_ne tI36 tI20 (by decide)))
    have k218 := kq182.2 _ _ k160 (orN (tg_ne tI37 tI0 (by decide)) (tg_ne tI37 tI20 (by decide)))
    have k219 := kq182.2 _ _ k161 (orN (tg_ne tI38 tI0 (by decide)) (tg_ne tI38 tI20 (by decide)))
    have k220 := kq182.2 _ _ k162 (orN (tg_ne tI39 tI0 (by decide)) (tg_ne tI39 tI20 (by decide)))
    have k221 := kq182.2 _ _ k163 (orN (tg_ne tI40 tI0 (by decide)) (tg_ne tI40 tI20 (by decide)))
    have k222 := kq182.2 _ _ k164 (orN (tg_ne tI41 tI0 (by decide)) (tg_ne tI41 tI20 (by decide)))
    have k223 := kq182.2 _ _ k165 (orN (tg_ne tI42 tI0 (by decide)) (tg_ne tI42 tI20 (by decide)))
    have k224 := kq182.2 _ _ k166 (orN (tg_ne tI43 tI0 (by decide)) (tg_ne tI43 tI20 (by decide)))
    have k225 := kq182.2 _ _ k167 (orN (tg_ne tI44 tI0 (by decide)) (tg_ne tI44 tI20 (by decide)))
    have k226 := kq182.2 _ _ k168 (orN (tg_ne tI45 tI0 (by decide)) (tg_ne tI45 tI20 (by decide)))
    have k227 := kq182.2 _ _ k169 (orN (tg_ne tI46 tI0 (by decide)) (tg_ne tI46 tI20 (by decide)))
    have k228 := kq182.2 _ _ k170 (orN (tg_ne tI47 tI0 (by decide)) (tg_ne tI47 tI20 (by decide)))
    have k229 := kq182.2 _ _ k171 (orN (tg_ne tI48 tI0 (by decide)) (tg_ne tI48 tI20 (by decide)))
    have fm230 : ∀ k9, k9 < 12 → qp k9 = some (pr k9) ∧ wd_at w178 (pr k9) (.inl (cy 2, 12, .inl (fp k9))) ∧ tg (pr k9) = 11000 + k9 := fun k9 hi9 => ⟨(fm172 k9 hi9).1, kq182.2 _ _ (fm172 k9 hi9).2.1 (orN (tg_ne (fm172 k9 hi9).2.2 tI0 (tnA (show 10000 < 11000 by decide))) (tg_ne (fm172 k9 hi9).2.2 tI20 (tnA (show 10124 < 11000 by decide)))), (fm172 k9 hi9).2.2⟩
    have fm231 : ∀ k9, k9 < 12 → qw k9 = some (wr k9) ∧ wd_at w178 (wr k9) (.inl (cy 2, 12, .inl (fw k9))) ∧ tg (wr k9) = 12000 + k9 := fun k9 hi9 => ⟨(fm173 k9 hi9).1, kq182.2 _ _ (fm173 k9 hi9).2.1 (orN (tg_ne (fm173 k9 hi9).2.2 tI0 (tnA (show 10000 < 12000 by decide))) (tg_ne (fm173 k9 hi9).2.2 tI20 (tnA (show 10124 < 12000 by decide)))), (fm173 k9 hi9).2.2⟩
    have fm232 : ∀ k9, k9 < 60 → qs k9 = some (sr k9) ∧ wd_at w178 (sr k9) (.inl (cy 2, 12, .inl (fs k9))) ∧ tg (sr k9) = 13000 + k9 := fun k9 hi9 => ⟨(fm174 k9 hi9).1, kq182.2 _ _ (fm174 k9 hi9).2.1 (orN (tg_ne (fm174 k9 hi9).2.2 tI0 (tnA (show 10000 < 13000 by decide))) (tg_ne (fm174 k9 hi9).2.2 tI20 (tnA (show 10124 < 13000 by decide)))), (fm174 k9 hi9).2.2⟩
    have kp233 := kp175.tr kq182 (fun b9 hm q9 => (fun q9 => Or.elim q9 (fun q9 => q9 ▸ (tgT tI0 (by decide))) (fun q9 => q9 ▸ (tgT tI20 (by decide)))) q9)
    refine W.eq (g2 := F0 m 36 ls []) rfl (W.widen (k := 0) (n := 0) (Nat.le_of_ble_eq_true rfl) (Nat.le_of_ble_eq_true rfl) ?_)
    refine lv_aload_n hx hb dX11_feed_36 rfl (lv_at hl 0 rfl) ?_
    refine lv_iload hx hb dX11_feed_37 (lv_at hl 5 rfl) ?_
    refine x_callV (n := 1) (As := [.int x5]) (rest := []) F hP hD hS (m_put l D cy sk sv w178 tg y m2 m3 m4 m5 m6 m8 m9 m10 m11 m12 m13 m14 m17 m18 m19 m20 m21 m22 m23 m24 m29 m30 m31 m32 m33 m34 m35 m36 m37 m39 m40 m41 m42 m43 m44 m45 m46 m47 m48 m49 m51 m52 m53 m54 m56 m57 m58 m59 pc ac sc ((((ln + 4) + 4) + 4) + 4) sh gf v0 td v26 v27 v28 v50 gx179 x5 k180 k181 (fun b => b = y ∨ b = m24) (Or.inl rfl) (Or.inr rfl) tI0 tI20 (by omega)) gX11_feed_X11_put rfl rfl (by decide +kernel) ⟨(Nat.le_of_ble_eq_true rfl), (Nat.le_of_ble_eq_true rfl)⟩ rfl hl.1 (Nat.le_of_ble_eq_true rfl) k180 rfl dX11_feed_39 rfl ⟨(Nat.le_of_ble_eq_true rfl), (Nat.le_of_ble_eq_true rfl)⟩ (fun v235 w236 hp234 H locs hP hD hS => ?_)
    obtain ⟨gx237, rfl, kq240, k238, k239⟩ := hp234
    have k241 := kq240.2 _ _ k183 (orN (tg_ne tI1 tI0 (by decide)) (tg_ne tI1 tI20 (by decide)))
    have k242 := kq240.2 _ _ k184 (orN (tg_ne tI2 tI0 (by decide)) (tg_ne tI2 tI20 (by decide)))
    have k243 := kq240.2 _ _ k185 (orN (tg_ne tI3 tI0 (by decide)) (tg_ne tI3 tI20 (by decide)))
    have k244 := kq240.2 _ _ k186 (orN (tg_ne tI4 tI0 (by decide)) (tg_ne tI4 tI20 (by decide)))
    have k245 := kq240.2 _ _ k187 (orN (tg_ne tI5 tI0 (by decide)) (tg_ne tI5 tI20 (by decide)))
    have k246 := kq240.2 _ _ k188 (orN (tg_ne tI6 tI0 (by decide)) (tg_ne tI6 tI20 (by decide)))
    have k247 := kq240.2 _ _ k189 (orN (tg_ne tI7 tI0 (by decide)) (tg_ne tI7 tI20 (by decide)))
    have k248 := kq240.2 _ _ k190 (orN (tg_ne tI8 tI0 (by decide)) (tg_ne tI8 tI20 (by decide)))
    have k249 := kq240.2 _ _ k191 (orN (tg_ne tI9 tI0 (by decide)) (tg_ne tI9 tI20 (by decide)))
    have k250 := kq240.2 _ _ k192 (orN (tg_ne tI10 tI0 (by decide)) (tg_ne tI10 tI20 (by decide)))
    have k251 := kq240.2 _ _ k193 (orN (tg_ne tI11 tI0 (by decide)) (tg_ne tI11 tI20 (by decide)))
    have k252 := kq240.2 _ _ k194 (orN (tg_ne tI12 tI0 (by decide)) (tg_ne tI12 tI20 (by decide)))
    have k253 := kq240.2 _ _ k195 (orN (tg_ne tI13 tI0 (by decide)) (tg_ne tI13 tI20 (by decide)))
    have k254 := kq240.2 _ _ k196 (orN (tg_ne tI14 tI0 (by decide)) (tg_ne tI14 tI20 (by decide)))
    have k255 := kq240.2 _ _ k197 (orN (tg_ne tI15 tI0 (by decide)) (tg_ne tI15 tI20 (by decide)))
    have k256 := kq240.2 _ _ k198 (orN (tg_ne tI16 tI0 (by decide)) (tg_ne tI16 tI20 (by decide)))
    have k257 := kq240.2 _ _ k199 (orN (tg_ne tI17 tI0 (by decide)) (tg_ne tI17 tI20 (by decide)))
    have k258 := kq240.2 _ _ k200 (orN (tg_ne tI18 tI0 (by decide)) (tg_ne tI18 tI20 (by decide)))
    have k259 := kq240.2 _ _ k201 (orN (tg_ne tI19 tI0 (by decide)) (tg_ne tI19 tI20 (by decide)))
    have k260 := kq240.2 _ _ k202 (orN (tg_ne tI21 tI0 (by decide)) (tg_ne tI21 tI20 (by decide)))
    have k261 := kq240.2 _ _ k203 (orN (tg_ne tI22 tI0 (by decide)) (tg_ne tI22 tI20 (by decide)))
    have k262 := kq240.2 _ _ k204 (orN (tg_ne tI23 tI0 (by decide)) (tg_ne tI23 tI20 (by decide)))
    have k263 := kq240.2 _ _ k205 (orN (tg_ne tI24 tI0 (by decide)) (tg_ne tI24 tI20 (by decide)))
    have k264 := kq240.2 _ _ k206 (orN (tg_ne tI25 tI0 (by decide)) (tg_ne tI25 tI20 (by decide)))
    have k265 := kq240.2 _ _ k207 (orN (tg_ne tI26 tI0 (by decide)) (tg_ne tI26 tI20 (by decide)))
    have k266 := kq240.2 _ _ k208 (orN (tg_ne tI27 tI0 (by decide)) (tg_ne tI27 tI20 (by decide)))
    have k267 := kq240.2 _ _ k209 (orN (tg_ne tI28 tI0 (by decide)) (tg_ne tI28 tI20 (by decide)))
    have k268 := kq240.2 _ _ k210 (orN (tg_ne tI29 tI0 (by decide)) (tg_ne tI29 tI20 (by decide)))
    have k269 := kq240.2 _ _ k211 (orN (tg_ne tI30 tI0 (by decide)) (tg_ne tI30 tI20 (by decide)))
    have k270 := kq240.2 _ _ k212 (orN (tg_ne tI31 tI0 (by decide)) (tg_ne tI31 tI20 (by decide)))
    have k271 := kq240.2 _ _ k213 (orN (tg_ne tI32 tI0 (by decide)) (tg_ne tI32 tI20 (by decide)))
    have k272 := kq240.2 _ _ k214 (orN (tg_ne tI33 tI0 (by decide)) (tg_ne tI33 tI20 (by decide)))
    have k273 := kq240.2 _ _ k215 (orN (tg_ne tI34 tI0 (by decide)) (tg_ne tI34 tI20 (by decide)))
    have k274 := kq240.2 _ _ k216 (orN (tg_ne tI35 tI0 (by decide)) (tg_ne tI35 tI20 (by decide)))
    have k275 := kq240.2 _ _ k217 (orN (tg_ne tI36 tI0 (by decide)) (tg_ne tI36 tI20 (by decide)))
    have k276 := kq240.2 _ _ k218 (orN (tg_ne tI37 tI0 (by decide)) (tg_ne tI37 tI20 (by decide)))
    have k277 := kq240.2 _ _ k219 (orN (tg_ne tI38 tI0 (by decide)) (tg_ne tI38 tI20 (by decide)))
    have k278 := kq240.2 _ _ k220 (orN (tg_ne tI39 tI0 (by decide)) (tg_ne tI39 tI20 (by decide)))
    have k279 := kq240.2 _ _ k221 (orN (tg_ne tI40 tI0 (by decide)) (tg_ne tI40 tI20 (by decide)))
    have k280 := kq240.2 _ _ k222 (orN (tg_ne tI41 tI0 (by decide)) (tg_ne tI41 tI20 (by decide)))
    have k281 := kq240.2 _ _ k223 (orN (tg_ne tI42 tI0 (by decide)) (tg_ne tI42 tI20 (by decide)))
    have k282 := kq240.2 _ _ k224 (orN (tg_ne tI43 tI0 (by decide)) (tg_ne tI43 tI20 (by decide)))
    have k283 := kq240.2 _ _ k225 (orN (tg_ne tI44 tI0 (by decide)) (tg_ne tI44 tI20 (by decide)))
    have k284 := kq240.2 _ _ k226 (orN (tg_ne tI45 tI0 (by decide)) (tg_ne tI45 tI20 (by decide)))
    have k285 := kq240.2 _ _ k227 (orN (tg_ne tI46 tI0 (by decide)) (tg_ne tI46 tI20 (by decide)))
    have k286 := kq240.2 _ _ k228 (orN (tg_ne tI47 tI0 (by decide)) (tg_ne tI47 tI20 (by decide)))
    have k287 := kq240.2 _ _ k229 (orN (tg_ne tI48 tI0 (by decide)) (tg_ne tI48 tI20 (by decide)))
    have fm288 : ∀ k9, k9 < 12 → qp k9 = some (pr k9) ∧ wd_at w236 (pr k9) (.inl (cy 2, 12, .inl (fp k9))) ∧ tg (pr k9) = 11000 + k9 := fun k9 hi9 => ⟨(fm230 k9 hi9).1, kq240.2 _ _ (fm230 k9 hi9).2.1 (orN (tg_ne (fm230 k9 hi9).2.2 tI0 (tnA (show 10000 < 11000 by decide))) (tg_ne (fm230 k9 hi9).2.2 tI20 (tnA (show 10124 < 11000 by decide)))), (fm230 k9 hi9).2.2⟩
    have fm289 : ∀ k9, k9 < 12 → qw k9 = some (wr k9) ∧ wd_at w236 (wr k9) (.inl (cy 2, 12, .inl (fw k9))) ∧ tg (wr k9) = 12000 + k9 := fun k9 hi9 => ⟨(fm231 k9 hi9).1, kq240.2 _ _ (fm231 k9 hi9).2.1 (orN (tg_ne (fm231 k9 hi9).2.2 tI0 (tnA (show 10000 < 12000 by decide))) (tg_ne (fm231 k9 hi9).2.2 tI20 (tnA (show 10124 < 12000 by decide)))), (fm231 k9 hi9).2.2⟩
    have fm290 : ∀ k9, k9 < 60 → qs k9 = some (sr k9) ∧ wd_at w236 (sr k9) (.inl (cy 2, 12, .inl (fs k9))) ∧ tg (sr k9) = 13000 + k9 := fun k9 hi9 => ⟨(fm232 k9 hi9).1, kq240.2 _ _ (fm232 k9 hi9).2.1 (orN (tg_ne (fm232 k9 hi9).2.2 tI0 (tnA (show 10000 < 13000 by decide))) (tg_ne (fm232 k9 hi9).2.2 tI20 (tnA (show 10124 < 13000 by decide)))), (fm232 k9 hi9).2.2⟩
    have kp291 := kp233.tr kq240 (fun b9 hm q9 => (fun q9 => Or.elim q9 (fun q9 => q9 ▸ (tgT tI0 (by decide))) (fun q9 => q9 ▸ (tgT tI20 (by decide)))) q9)
    refine W.eq (g2 := F0 m 42 ls []) rfl (W.widen (k := 0) (n := 0) (Nat.le_of_ble_eq_true rfl) (Nat.le_of_ble_eq_true rfl) ?_)
    refine lv_aload_n hx hb dX11_feed_42 rfl (lv_at hl 0 rfl) ?_
    refine x_get (ref := "NoteHouseModel") F hP k238 rfl (fun _ h => List.mem_cons_of_mem _ (List.mem_append_right _ (h))) 25 (Nat.le_of_ble_eq_true rfl) (List.mem_cons_of_mem _ (List.mem_append_left _ (List.mem_of_getElem? (i := 0) rfl))) rfl rfl dX11_feed_43 ?_
    have hX292 : IM cy tg y td pc ac sc (((((ln + 4) + 4) + 4) + 4) + 4) se plv w236 := IM.mk m2 m3 m4 m5 m6 m8 m9 m10 m11 m12 m13 m14 m17 m18 m19 m20 m21 m22 m23 m24 m29 m30 m31 m32 m33 m34 m35 m36 m37 m39 m40 m41 m42 m43 m44 m45 m46 m47 m48 m49 m51 m52 m53 m54 m56 m57 m58 m59 sh gf v0 v26 v27 v28 v50 f4 f5 f6 f8 f9 f10 f11 f12 f13 f14 f17 f18 f19 f20 f21 f22 gx237 f29 f30 f31 f32 f33 f34 f35 f36 f37 f39 f40 f41 f42 f43 f44 f45 f46 f47 f48 f49 f51 f52 f53 f54 f56 f57 f58 f59 qp pr fp qw wr fw qs sr fs (by omega) (by omega) (by omega) (by omega) (by omega) (by omega) hrl hc ht hp hso hlo k238 tI0 k241 tI1 k242 tI2 k243 tI3 k244 tI4 k245 tI5 k246 tI6 k247 tI7 k248 tI8 k249 tI9 k250 tI10 k251 tI11 k252 tI12 k253 tI13 k254 tI14 k255 tI15 k256 tI16 k257 tI17 k258 tI18 k259 tI19 k239 tI20 k260 tI21 k261 tI22 k262 tI23 k263 tI24 k264 tI25 k265 tI26 k266 tI27 k267 tI28 k268 tI29 k269 tI30 k270 tI31 k271 tI32 k272 tI33 k273 tI34 k274 tI35 k275 tI36 k276 tI37 k277 tI38 k278 tI39 k279 tI40 k280 tI41 k281 tI42 k282 tI43 k283 tI44 k284 tI45 k285 tI46 k286 tI47 k287 tI48 fm288 fm289 fm290
    exact y_ir K hP hD hS (Nat.le_of_ble_eq_true rfl) (Nat.le_of_ble_eq_true rfl) (ty := .int) rfl rfl dX11_feed_46 (by refine ⟨(congrArg (fun z => some (Value.int z)) (show nI (((((ln + 4) + 4) + 4) + 4) + 4) = feedA ln from by rw [show ((((ln + 4) + 4) + 4) + 4) + 4 = ln + 20 by omega]; simp [feedA, feedC, c_1, hrm])), ?_⟩; rw [show feedC ln = (((((ln + 4) + 4) + 4) + 4) + 4) from by rw [show ((((ln + 4) + 4) + 4) + 4) + 4 = ln + 20 by omega]; simp [feedA, feedC, c_1, hrm]]; exact ⟨kp291, hX292⟩)
  · have hrm : ¬ ln + 20 ≤ 300 := fun q => c_1 ((nI_leI (a := ln + 20) (b := 300) (by omega) (by omega)).mpr q)
    refine lv_iconst (v := (-1)) hx hb dX11_feed_13 (by decide) ?_
    exact y_ir K hP hD hS (Nat.le_of_ble_eq_true rfl) (Nat.le_of_ble_eq_true rfl) (ty := .int) rfl rfl dX11_feed_14 (by refine ⟨(congrArg (fun z => some (Value.int z)) (show (-1) = feedA ln from by simp [feedA, feedC, c_1, hrm])), ?_⟩; rw [show feedC ln = ln from by simp [feedA, feedC, c_1, hrm]]; exact ⟨wd_kp.rf, hIM0⟩)
set_option maxHeartbeats 4000000 in
set_option maxRecDepth 100000 in
theorem M_end (l : Launch) (D : va_G) (cy : Nat → ClassId) (sk sv : Nat → Nat) (w : Wd) (tg : Nat → Nat) (y : Nat) (td : Int32) (pc ac sc ln : Nat) (se plv : Nat → Int32) (x1 : Int32) (hIM0 : IM cy tg y td pc ac sc ln se plv w) : Ct l D cy sk sv yX11_end wsX11_end ({ frames := 0, cells := 0, slots := 0, locals := 0 }) [.ref y, .int x1] w (fun v w1 => v = some (.int (endA ln x1)) ∧ MP cy tg y td pc ac sc (endC ln x1) se plv w w1) := by
  refine Ct.by (cc := cX11_end) (maxL := 2) (ret := (some .int)) (by decide +kernel) rfl (Nat.le_of_ble_eq_true rfl) ?_
  intro p e s m args below meth c A Q F hnm K ls hl
  have F : wd_Fx p s m args meth c cX11_end 2 wsX11_end RX11 D cy sk sv A := F
  have hl : lv_has ls 2 [(0, .ref y), (1, .int x1)] := hl
  have hx := F.1.1
  have hb := F.1.2.1
  have hown := F.1.2.2.2.1
  have hts := F.1.2.2.2.2
  intro H locs hP hD hS
  have kp0 : wd_kp (fun b => 10000 ≤ tg b) w w := wd_kp.rf
  refine hIM0 _ ?_
  intro m2 m3 m4 m5 m6 m8 m9 m10 m11 m12 m13 m14 m17 m18 m19 m20 m21 m22 m23 m24 m29 m30 m31 m32 m33 m34 m35 m36 m37 m39 m40 m41 m42 m43 m44 m45 m46 m47 m48 m49 m51 m52 m53 m54 m56 m57 m58 m59 sh gf v0 v26 v27 v28 v50 f4 f5 f6 f8 f9 f10 f11 f12 f13 f14 f17 f18 f19 f20 f21 f22 f24 f29 f30 f31 f32 f33 f34 f35 f36 f37 f39 f40 f41 f42 f43 f44 f45 f46 f47 f48 f49 f51 f52 f53 f54 f56 f57 f58 f59 qp pr fp qw wr fw qs sr fs hp90 hp91 hp92 hp93 hp94 hp95 hrl hc ht hp hso hlo kI0 tI0 kI1 tI1 kI2 tI2 kI3 tI3 kI4 tI4 kI5 tI5 kI6 tI6 kI7 tI7 kI8 tI8 kI9 tI9 kI10 tI10 kI11 tI11 kI12 tI12 kI13 tI13 kI14 tI14 kI15 tI15 kI16 tI16 kI17 tI17 kI18 tI18 kI19 tI19 kI20 tI20 kI21 tI21 kI22 tI22 kI23 tI23 kI24 tI24 kI25 tI25 kI26 tI26 kI27 tI27 kI28 tI28 kI29 tI29 kI30 tI30 kI31 tI31 kI32 tI32 kI33 tI33 kI34 tI34 kI35 tI35 kI36 tI36 kI37 tI37 kI38 tI38 kI39 tI39 kI40 tI40 kI41 tI41 kI42 tI42 kI43 tI43 kI44 tI44 kI45 tI45 kI46 tI46 kI47 tI47 kI48 tI48 hFPR hFWR hFSR
  refine lv_iload_n hx hb dX11_end_0 rfl (lv_at hl 1 rfl) ?_
  refine lv_if_lt (tgt := 12) hx hb dX11_end_1 (by decide) (fun cA => ?_) (fun cA => ?_)
  · refine lv_iconst (v := (-1)) hx hb dX11_end_12 (by decide) ?_
    exact y_ir K hP hD hS (Nat.le_of_ble_eq_true rfl) (Nat.le_of_ble_eq_true rfl) (ty := .int) rfl rfl dX11_end_13 (by refine ⟨(congrArg (fun z => some (Value.int z)) (show (-1) = endA ln x1 from by simp [endA, endC, cA])), ?_⟩; rw [show endC ln x1 = ln from by simp [endA, endC, cA]]; exact ⟨wd_kp.rf, hIM0⟩)
  · refine lv_iload_n hx hb dX11_end_4 rfl (lv_at hl 1 rfl) ?_
    refine lv_aload_n hx hb dX11_end_5 rfl (lv_at hl 0 rfl) ?_
    refine x_get (ref := "NoteHouseModel") F hP kI0 rfl (fun _ h => List.mem_cons_of_mem _ (List.mem_append_right _ (h))) 25 (Nat.le_of_ble_eq_true rfl) (List.mem_cons_of_mem _ (List.mem_append_left _ (List.mem_of_getElem? (i := 0) rfl))) rfl rfl dX11_end_6 ?_
    refine lv_icmp_le (tgt := 14) hx hb dX11_end_9 (by decide) (fun c_1 => ?_) (fun c_1 => ?_)
    · obtain ⟨j, hj, rfl⟩ := nI_of cA
      have hjl : j ≤ ln := (nI_leI (by omega) (by omega)).mp c_1
      have clj : (nI j).toNatClampNeg = j := nI_clamp (by omega)
      refine lv_aload_n hx hb dX11_end_14 rfl (lv_at hl 0 rfl) ?_
      refine lv_iload_n hx hb dX11_end_15 rfl (lv_at hl 1 rfl) ?_
      refine y_put (ref := "NoteHouseModel") F hP hD hS kI0 rfl (fun _ h => List.mem_cons_of_mem _ (List.mem_append_right _ (h))) tyX11_ok nmX11 25 (Nat.le_of_ble_eq_true rfl) (List.mem_cons_of_mem _ (List.mem_append_left _ (List.mem_of_getElem? (i := 0) rfl))) rfl rfl rfl rfl (Nat.le_of_ble_eq_true rfl) dX11_end_16 (fun w2 ew3 H locs hP hD hS => ?_)
      have k4 : wd_at w2 y (.inr (11, [.int v0, .int td, .ref m2, .ref m3, .ref m4, .ref m5, .ref m6, .int (nI pc), .ref m8, .ref m9, .ref m10, .ref m11, .ref m12, .ref m13, .ref m14, .int (nI ac), .int (nI sc), .ref m17, .ref m18, .ref m19, .ref m20, .ref m21, .ref m22, .ref m23, .ref m24, .int (nI j), .int v26, .int v27, .int v28, .ref m29, .ref m30, .ref m31, .ref m32, .ref m33, .ref m34, .ref m35, .ref m36, .ref m37, .int (nI sh), .ref m39, .ref m40, .ref m41, .ref m42, .ref m43, .ref m44, .ref m45, .ref m46, .ref m47, .ref m48, .ref m49, .int v50, .ref m51, .ref m52, .ref m53, .ref m54, .int (nI gf), .ref m56, .ref m57, .ref m58, .ref m59])) := wd_at.ps ew3 kI0
      have k5 := wd_at.pt ew3 kI1 (tg_ne tI1 tI0 (by decide))
      have k6 := wd_at.pt ew3 kI2 (tg_ne tI2 tI0 (by decide))
      have k7 := wd_at.pt ew3 kI3 (tg_ne tI3 tI0 (by decide))
      have k8 := wd_at.pt ew3 kI4 (tg_ne tI4 tI0 (by decide))
      have k9 := wd_at.pt ew3 kI5 (tg_ne tI5 tI0 (by decide))
      have k10 := wd_at.pt ew3 kI6 (tg_ne tI6 tI0 (by decide))
      have k11 := wd_at.pt ew3 kI7 (tg_ne tI7 tI0 (by decide))
      have k12 := wd_at.pt ew3 kI8 (tg_ne tI8 tI0 (by decide))
      have k13 := wd_at.pt ew3 kI9 (tg_ne tI9 tI0 (by decide))
      have k14 := wd_at.pt ew3 kI10 (tg_ne tI10 tI0 (by decide))
      have k15 := wd_at.pt ew3 kI11 (tg_ne tI11 tI0 (by decide))
      have k16 := wd_at.pt ew3 kI12 (tg_ne tI12 tI0 (by decide))
      have k17 := wd_at.pt ew3 kI13 (tg_ne tI13 tI0 (by decide))
      have k18 := wd_at.pt ew3 kI14 (tg_ne tI14 tI0 (by decide))
      have k19 := wd_at.pt ew3 kI15 (tg_ne tI15 tI0 (by decide))
      have k20 := wd_at.pt ew3 kI16 (tg_ne tI16 tI0 (by decide))
      have k21 := wd_at.pt ew3 kI17 (tg_ne tI17 tI0 (by decide))
      have k22 := wd_at.pt ew3 kI18 (tg_ne tI18 tI0 (by decide))
      have k23 := wd_at.pt ew3 kI19 (tg_ne tI19 tI0 (by decide))
      have k24 := wd_at.pt ew3 kI20 (tg_ne tI20 tI0 (by decide))
      have k25 := wd_at.pt ew3 kI21 (tg_ne tI21 tI0 (by decide))
      have k26 := wd_at.pt ew3 kI22 (tg_ne tI22 tI0 (by decide))
      have k27 := wd_at.pt ew3 kI23 (tg_ne tI23 tI0 (by decide))
      have k28 := wd_at.pt ew3 kI24 (tg_ne tI24 tI0 (by decide))
      have k29 := wd_at.pt ew3 kI25 (tg_ne tI25 tI0 (by decide))
      have k30 := wd_at.pt ew3 kI26 (tg_ne tI26 tI0 (by decide))
      have k31 := wd_at.pt ew3 kI27 (tg_ne tI27 tI0 (by decide))
      have k32 := wd_at.pt ew3 kI28 (tg_ne tI28 tI0 (by decide))
      have k33 := wd_at.pt ew3 kI29 (tg_ne tI29 tI0 (by decide))
      have k34 := wd_at.pt ew3 kI30 (tg_ne tI30 tI0 (by decide))
      have k35 := wd_at.pt ew3 kI31 (tg_ne tI31 tI0 (by decide))
      have k36 := wd_at.pt ew3 kI32 (tg_ne tI32 tI0 (by decide))
      have k37 := wd_at.pt ew3 kI33 (tg_ne tI33 tI0 (by decide))
      have k38 := wd_at.pt ew3 kI34 (tg_ne tI34 tI0 (by decide))
      have k39 := wd_at.pt ew3 kI35 (tg_ne tI35 tI0 (by decide))
      have k40 := wd_at.pt ew3 kI36 (tg_ne tI36 tI0 (by decide))
      have k41 := wd_at.pt ew3 kI37 (tg_ne tI37 tI0 (by decide))
      have k42 := wd_at.pt ew3 kI38 (tg_ne tI38 tI0 (by decide))
      have k43 := wd_at.pt ew3 kI39 (tg_ne tI39 tI0 (by decide))
      have k44 := wd_at.pt ew3 kI40 (tg_ne tI40 tI0 (by decide))
      have k45 := wd_at.pt ew3 kI41 (tg_ne tI41 tI0 (by decide))
      have k46 := wd_at.pt ew3 kI42 (tg_ne tI42 tI0 (by decide))
      have k47 := wd_at.pt ew3 kI43 (tg_ne tI43 tI0 (by decide))
      have k48 := wd_at.pt ew3 kI44 (tg_ne tI44 tI0 (by decide))
      have k49 := wd_at.pt ew3 kI45 (tg_ne tI45 tI0 (by decide))
      have k50 := wd_at.pt ew3 kI46 (tg_ne tI46 tI0 (by decide))
      have k51 := wd_at.pt ew3 kI47 (tg_ne tI47 tI0 (by decide))
      have k52 := wd_at.pt ew3 kI48 (tg_ne tI48 tI0 (by decide))
      have fm53 : ∀ k9, k9 < 12 → qp k9 = some (pr k9) ∧ wd_at w2 (pr k9) (.inl (cy 2, 12, .inl (fp k9))) ∧ tg (pr k9) = 11000 + k9 := fun k9 hi9 => ⟨(hFPR k9 hi9).1, wd_at.pt ew3 (hFPR k9 hi9).2.1 (tg_ne (hFPR k9 hi9).2.2 tI0 (tnA (show 10000 < 11000 by decide))), (hFPR k9 hi9).2.2⟩
      have fm54 : ∀ k9, k9 < 12 → qw k9 = some (wr k9) ∧ wd_at w2 (wr k9) (.inl (cy 2, 12, .inl (fw k9))) ∧ tg (wr k9) = 12000 + k9 := fun k9 hi9 => ⟨(hFWR k9 hi9).1, wd_at.pt ew3 (hFWR k9 hi9).2.1 (tg_ne (hFWR k9 hi9).2.2 tI0 (tnA (show 10000 < 12000 by decide))), (hFWR k9 hi9).2.2⟩
      have fm55 : ∀ k9, k9 < 60 → qs k9 = some (sr k9) ∧ wd_at w2 (sr k9) (.inl (cy 2, 12, .inl (fs k9))) ∧ tg (sr k9) = 13000 + k9 := fun k9 hi9 => ⟨(hFSR k9 hi9).1, wd_at.pt ew3 (hFSR k9 hi9).2.1 (tg_ne (hFSR k9 hi9).2.2 tI0 (tnA (show 10000 < 13000 by decide))), (hFSR k9 hi9).2.2⟩
      have kp56 := kp0.put ew3 (tgT tI0 (by decide))
      refine lv_iload_n hx hb dX11_end_19 rfl (lv_at hl 1 rfl) ?_
      have hX57 : IM cy tg y td pc ac sc j se plv w2 := IM.mk m2 m3 m4 m5 m6 m8 m9 m10 m11 m12 m13 m14 m17 m18 m19 m20 m21 m22 m23 m24 m29 m30 m31 m32 m33 m34 m35 m36 m37 m39 m40 m41 m42 m43 m44 m45 m46 m47 m48 m49 m51 m52 m53 m54 m56 m57 m58 m59 sh gf v0 v26 v27 v28 v50 f4 f5 f6 f8 f9 f10 f11 f12 f13 f14 f17 f18 f19 f20 f21 f22 f24 f29 f30 f31 f32 f33 f34 f35 f36 f37 f39 f40 f41 f42 f43 f44 f45 f46 f47 f48 f49 f51 f52 f53 f54 f56 f57 f58 f59 qp pr fp qw wr fw qs sr fs (by omega) (by omega) (by omega) (by omega) (by omega) (by omega) hrl hc ht hp hso hlo k4 tI0 k5 tI1 k6 tI2 k7 tI3 k8 tI4 k9 tI5 k10 tI6 k11 tI7 k12 tI8 k13 tI9 k14 tI10 k15 tI11 k16 tI12 k17 tI13 k18 tI14 k19 tI15 k20 tI16 k21 tI17 k22 tI18 k23 tI19 k24 tI20 k25 tI21 k26 tI22 k27 tI23 k28 tI24 k29 tI25 k30 tI26 k31 tI27 k32 tI28 k33 tI29 k34 tI30 k35 tI31 k36 tI32 k37 tI33 k38 tI34 k39 tI35 k40 tI36 k41 tI37 k42 tI38 k43 tI39 k44 tI40 k45 tI41 k46 tI42 k47 tI43 k48 tI44 k49 tI45 k50 tI46 k51 tI47 k52 tI48 fm53 fm54 fm55
      exact y_ir K hP hD hS (Nat.le_of_ble_eq_true rfl) (Nat.le_of_ble_eq_true rfl) (ty := .int) rfl rfl dX11_end_20 (by refine ⟨(congrArg (fun z => some (Value.int z)) (show (nI j) = endA ln (nI j) from by simp [endA, endC, cA, c_1, clj])), ?_⟩; rw [show endC ln (nI j) = j from by simp [endA, endC, cA, c_1, clj]]; exact ⟨kp56, hX57⟩)
    · refine lv_iconst (v := (-1)) hx hb dX11_end_12 (by decide) ?_
      exact y_ir K hP hD hS (Nat.le_of_ble_eq_true rfl) (Nat.le_of_ble_eq_true rfl) (ty := .int) rfl rfl dX11_end_13 (by refine ⟨(congrArg (fun z => some (Value.int z)) (show (-1) = endA ln x1 from by simp [endA, endC, cA, c_1])), ?_⟩; rw [show endC ln x1 = ln from by simp [endA, endC, cA, c_1]]; exact ⟨wd_kp.rf, hIM0⟩)
set_option maxHeartbeats 4000000 in
set_option maxRecDepth 100000 in
theorem M_send (l : Launch) (D : va_G) (cy : Nat → ClassId) (sk sv : Nat → Nat) (w : Wd) (tg : Nat → Nat) (y : Nat) (td : Int32) (pc ac sc ln : Nat) (se plv : Nat → Int32) (x1 x2 : Int32) (hIM0 : IM cy tg y td pc ac sc ln se plv w) : Ct l D cy sk sv yX11_send wsX11_send ({ frames := 1, cells := 0, slots := 0, locals := 22 }) [.ref y, .int x1, .int x2] w (fun v w1 => v = some (.int (sndA se x1 x2)) ∧ MP cy tg y td pc ac sc ln (sndS se x1 x2) plv w w1) := by
  refine Ct.by (cc := cX11_send) (maxL := 3) (ret := (some .int)) (by decide +kernel) rfl (Nat.le_of_ble_eq_true rfl) ?_
  intro p e s m args below meth c A Q F hnm K ls hl
  have F : wd_Fx p s m args meth c cX11_send 3 wsX11_send RX11 D cy sk sv A := F
  have hl : lv_has ls 3 [(0, .ref y), (1, .int x1), (2, .int x2)] := hl
  have hx := F.1.1
  have hb := F.1.2.1
  have hown := F.1.2.2.2.1
  have hts := F.1.2.2.2.2
  intro H locs hP hD hS
  have kp0 : wd_kp (fun b => 10000 ≤ tg b) w w := wd_kp.rf
  refine hIM0 _ ?_
  intro m2 m3 m4 m5 m6 m8 m9 m10 m11 m12 m13 m14 m17 m18 m19 m20 m21 m22 m23 m24 m29 m30 m31 m32 m33 m34 m35 m36 m37 m39 m40 m41 m42 m43 m44 m45 m46 m47 m48 m49 m51 m52 m53 m54 m56 m57 m58 m59 sh gf v0 v26 v27 v28 v50 f4 f5 f6 f8 f9 f10 f11 f12 f13 f14 f17 f18 f19 f20 f21 f22 f24 f29 f30 f31 f32 f33 f34 f35 f36 f37 f39 f40 f41 f42 f43 f44 f45 f46 f47 f48 f49 f51 f52 f53 f54 f56 f57 f58 f59 qp pr fp qw wr fw qs sr fs hp90 hp91 hp92 hp93 hp94 hp95 hrl hc ht hp hso hlo kI0 tI0 kI1 tI1 kI2 tI2 kI3 tI3 kI4 tI4 kI5 tI5 kI6 tI6 kI7 tI7 kI8 tI8 kI9 tI9 kI10 tI10 kI11 tI11 kI12 tI12 kI13 tI13 kI14 tI14 kI15 tI15 kI16 tI16 kI17 tI17 kI18 tI18 kI19 tI19 kI20 tI20 kI21 tI21 kI22 tI22 kI23 tI23 kI24 tI24 kI25 tI25 kI26 tI26 kI27 tI27 kI28 tI28 kI29 tI29 kI30 tI30 kI31 tI31 kI32 tI32 kI33 tI33 kI34 tI34 kI35 tI35 kI36 tI36 kI37 tI37 kI38 tI38 kI39 tI39 kI40 tI40 kI41 tI41 kI42 tI42 kI43 tI43 kI44 tI44 kI45 tI45 kI46 tI46 kI47 tI47 kI48 tI48 hFPR hFWR hFSR
  refine lv_iload_n hx hb dX11_send_0 rfl (lv_at hl 1 rfl) ?_
  refine x_callS (n := 1) (As := [.int x1]) (rest := []) F hP hD hS (g_mTown l D cy sk sv w x1) gX11_send_X11_isTown rfl (by decide +kernel) ⟨(Nat.le_of_ble_eq_true rfl), (Nat.le_of_ble_eq_true rfl)⟩ rfl hl.1 (Nat.le_of_ble_eq_true rfl) dX11_send_1 rfl ⟨(Nat.le_of_ble_eq_true rfl), (Nat.le_of_ble_eq_true rfl)⟩ (fun v2 w3 hp1 H locs hP hD hS => ?_)
  obtain ⟨rfl, rfl⟩ := hp1
  refine W.eq (g2 := F0 m 4 ls [.int (wi x1 0 11)]) rfl (W.widen (k := 0) (n := 0) (Nat.le_of_ble_eq_true rfl) (Nat.le_of_ble_eq_true rfl) ?_)
  refine lv_if_eq (tgt := 36) hx hb dX11_send_4 (by decide) (fun c_4 => ?_) (fun c_4 => ?_)
  · refine lv_iconst (v := (-1)) hx hb dX11_send_36 (by decide) ?_
    exact y_ir K hP hD hS (Nat.le_of_ble_eq_true rfl) (Nat.le_of_ble_eq_true rfl) (ty := .int) rfl rfl dX11_send_37 (by refine ⟨(congrArg (fun z => some (Value.int z)) (show (-1) = sndA se x1 x2 from by simp [sndA, sndS, c_4])), ?_⟩; rw [show sndS se x1 x2 = se from by simp [sndA, sndS, c_4]]; exact ⟨wd_kp.rf, hIM0⟩)
  · obtain ⟨j, hj, rfl, clj⟩ := wi_t c_4
    refine lv_iload_n hx hb dX11_send_7 rfl (lv_at hl 1 rfl) ?_
    refine lv_if_eq (tgt := 36) hx hb dX11_send_8 (by decide) (fun c_5 => ?_) (fun c_5 => ?_)
    · refine lv_iconst (v := (-1)) hx hb dX11_send_36 (by decide) ?_
      exact y_ir K hP hD hS (Nat.le_of_ble_eq_true rfl) (Nat.le_of_ble_eq_true rfl) (ty := .int) rfl rfl dX11_send_37 (by refine ⟨(congrArg (fun z => some (Value.int z)) (show (-1) = sndA se (nI j) x2 from by simp [sndA, sndS, c_4, clj, c_5])), ?_⟩; rw [show sndS se (nI j) x2 = se from by simp [sndA, sndS, c_4, clj, c_5]]; exact ⟨wd_kp.rf, hIM0⟩)
    · refine lv_iload_n hx hb dX11_send_11 rfl (lv_at hl 2 rfl) ?_
      refine lv_iconst (v := 1) hx hb dX11_send_12 (by decide) ?_
      refine lv_ldcw (v := 1000000) hx hb hown (hts _ (List.mem_cons_of_mem _ (List.mem_append_left _ (List.mem_of_getElem? (i := 0) rfl)))) dX11_send_13 ?_
      refine x_callS (n := 3) (As := [.int x2, .int 1, .int 1000000]) (rest := []) F hP hD hS (g_in l D cy sk sv w x2 1 1000000) gX11_send_X11_in rfl (by decide +kernel) ⟨(Nat.le_of_ble_eq_true rfl), (Nat.le_of_ble_eq_true rfl)⟩ rfl hl.1 (Nat.le_of_ble_eq_true rfl) dX11_send_16 rfl ⟨(Nat.le_of_ble_eq_true rfl), (Nat.le_of_ble_eq_true rfl)⟩ (fun v7 w8 hp6 H locs hP hD hS => ?_)
      obtain ⟨rfl, rfl⟩ := hp6
      refine W.eq (g2 := F0 m 19 ls [.int (wi x2 1 1000000)]) rfl (W.widen (k := 0) (n := 0) (Nat.le_of_ble_eq_true rfl) (Nat.le_of_ble_eq_true rfl) ?_)
      refine lv_if_eq (tgt := 36) hx hb dX11_send_19 (by decide) (fun c_9 => ?_) (fun c_9 => ?_)
      · refine lv_iconst (v := (-1)) hx hb dX11_send_36 (by decide) ?_
        exact y_ir K hP hD hS (Nat.le_of_ble_eq_true rfl) (Nat.le_of_ble_eq_true rfl) (ty := .int) rfl rfl dX11_send_37 (by refine ⟨(congrArg (fun z => some (Value.int z)) (show (-1) = sndA se (nI j) x2 from by simp [sndA, sndS, c_4, clj, c_5, c_9])), ?_⟩; rw [show sndS se (nI j) x2 = se from by simp [sndA, sndS, c_4, clj, c_5, c_9]]; exact ⟨wd_kp.rf, hIM0⟩)
      · refine lv_aload_n hx hb dX11_send_22 rfl (lv_at hl 0 rfl) ?_
        refine x_get (ref := "NoteHouseModel") F hP kI0 rfl (fun _ h => List.mem_cons_of_mem _ (List.mem_append_right _ (h))) 49 (Nat.le_of_ble_eq_true rfl) (List.mem_cons_of_mem _ (List.mem_append_left _ (List.mem_of_getElem? (i := 1) rfl))) rfl rfl dX11_send_23 ?_
        refine lv_iload_n hx hb dX11_send_26 rfl (lv_at hl 1 rfl) ?_
        refine x_iald F hP kI40 (vp_in_nI (n := j) (N := 12) (by omega) (by decide)) dX11_send_27 ?_
        obtain ⟨ese, use, huse, euse⟩ := hso j (by omega)
        rw [nI_clamp (n := j) (by omega), ese]
        refine lv_iload_n hx hb dX11_send_28 rfl (lv_at hl 2 rfl) ?_
        refine lv_iadd hx hb dX11_send_29 ?_
        refine lv_ldcw (v := 1000000000) hx hb hown (hts _ (List.mem_cons_of_mem _ (List.mem_append_left _ (List.mem_of_getElem? (i := 2) rfl)))) dX11_send_30 ?_
        refine lv_icmp_le (tgt := 38) hx hb dX11_send_33 (by decide) (fun c_10 => ?_) (fun c_10 => ?_)
        · have hsd : se j ≤ 1000000000 - x2 := (snd_iff euse huse c_9).mp c_10
          refine lv_aload_n hx hb dX11_send_38 rfl (lv_at hl 0 rfl) ?_
          refine x_get (ref := "NoteHouseModel") F hP kI0 rfl (fun _ h => List.mem_cons_of_mem _ (List.mem_append_right _ (h))) 49 (Nat.le_of_ble_eq_true rfl) (List.mem_cons_of_mem _ (List.mem_append_left _ (List.mem_of_getElem? (i := 1) rfl))) rfl rfl dX11_send_39 ?_
          refine lv_iload_n hx hb dX11_send_42 rfl (lv_at hl 1 rfl) ?_
          refine lv_dup2_11 hx hb dX11_send_43 rfl rfl ?_
          refine x_iald F hP kI40 (vp_in_nI (n := j) (N := 12) (by omega) (by decide)) dX11_send_44 ?_
          rw [nI_clamp (n := j) (by omega), ese]
          refine lv_iload_n hx hb dX11_send_45 rfl (lv_at hl 2 rfl) ?_
          refine lv_iadd hx hb dX11_send_46 ?_
          refine y_iast F hP hD hS kI40 (vp_in_nI (n := j) (N := 12) (by omega) (by decide)) dX11_send_47 (fun w11 ew12 H locs hP hD hS => ?_)
          have k13 := wd_at.pt ew12 kI0 (tg_ne tI0 tI40 (by decide))
          have k14 := wd_at.pt ew12 kI1 (tg_ne tI1 tI40 (by decide))
          have k15 := wd_at.pt ew12 kI2 (tg_ne tI2 tI40 (by decide))
          have k16 := wd_at.pt ew12 kI3 (tg_ne tI3 tI40 (by decide))
          have k17 := wd_at.pt ew12 kI4 (tg_ne tI4 tI40 (by decide))
          have k18 := wd_at.pt ew12 kI5 (tg_ne tI5 tI40 (by decide))
          have k19 := wd_at.pt ew12 kI6 (tg_ne tI6 tI40 (by decide))
          have k20 := wd_at.pt ew12 kI7 (tg_ne tI7 tI40 (by decide))
          have k21 := wd_at.pt ew12 kI8 (tg_ne tI8 tI40 (by decide))
          have k22 := wd_at.pt ew12 kI9 (tg_ne tI9 tI40 (by decide))
          have k23 := wd_at.pt ew12 kI10 (tg_ne tI10 tI40 (by decide))
          have k24 := wd_at.pt ew12 kI11 (tg_ne tI11 tI40 (by decide))
          have k25 := wd_at.pt ew12 kI12 (tg_ne tI12 tI40 (by decide))
          have k26 := wd_at.pt ew12 kI13 (tg_ne tI13 tI40 (by decide))
          have k27 := wd_at.pt ew12 kI14 (tg_ne tI14 tI40 (by decide))
          have k28 := wd_at.pt ew12 kI15 (tg_ne tI15 tI40 (by decide))
          have k29 := wd_at.pt ew12 kI16 (tg_ne tI16 tI40 (by decide))
          have k30 := wd_at.pt ew12 kI17 (tg_ne tI17 tI40 (by decide))
          have k31 := wd_at.pt ew12 kI18 (tg_ne tI18 tI40 (by decide))
          have k32 := wd_at.pt ew12 kI19 (tg_ne tI19 tI40 (by decide))
          have k33 := wd_at.pt ew12 kI20 (tg_ne tI20 tI40 (by decide))
          have k34 := wd_at.pt ew12 kI21 (tg_ne tI21 tI40 (by decide))
          have k35 := wd_at.pt ew12 kI22 (tg_ne tI22 tI40 (by decide))
          have k36 := wd_at.pt ew12 kI23 (tg_ne tI23 tI40 (by decide))
          have k37 := wd_at.pt ew12 kI24 (tg_ne tI24 tI40 (by decide))
          have k38 := wd_at.pt ew12 kI25 (tg_ne tI25 tI40 (by decide))
          have k39 := wd_at.pt ew12 kI26 (tg_ne tI26 tI40 (by decide))
          have k40 := wd_at.pt ew12 kI27 (tg_ne tI27 tI40 (by decide))
          have k41 := wd_at.pt ew12 kI28 (tg_ne tI28 tI40 (by decide))
          have k42 := wd_at.pt ew12 kI29 (tg_ne tI29 tI40 (by decide))
          have k43 := wd_at.pt ew12 kI30 (tg_ne tI30 tI40 (by decide))
          have k44 := wd_at.pt ew12 kI31 (tg_ne tI31 tI40 (by decide))
          have k45 := wd_at.pt ew12 kI32 (tg_ne tI32 tI40 (by decide))
          have k46 := wd_at.pt ew12 kI33 (tg_ne tI33 tI40 (by decide))
          have k47 := wd_at.pt ew12 kI34 (tg_ne tI34 tI40 (by decide))
          have k48 := wd_at.pt ew12 kI35 (tg_ne tI35 tI40 (by decide))
          have k49 := wd_at.pt ew12 kI36 (tg_ne tI36 tI40 (by decide))
          have k50 := wd_at.pt ew12 kI37 (tg_ne tI37 tI40 (by decide))
          have k51 := wd_at.pt ew12 kI38 (tg_ne tI38 tI40 (by decide))
          have k52 := wd_at.pt ew12 kI39 (tg_ne tI39 tI40 (by decide))
          have k53 : wd_at w11 m49 (.inl (cy 2, 12, .inl (upd f49 (nI j).toNatClampNeg ((se j) + x2)))) := wd_at.ps ew12 kI40
          have k54 := wd_at.pt ew12 kI41 (tg_ne tI41 tI40 (by decide))
          have k55 := wd_at.pt ew12 kI42 (tg_ne tI42 tI40 (by decide))
          have k56 := wd_at.pt ew12 kI43 (tg_ne tI43 tI40 (by decide))
          have k57 := wd_at.pt ew12 kI44 (tg_ne tI44 tI40 (by decide))
          have k58 := wd_at.pt ew12 kI45 (tg_ne tI45 tI40 (by decide))
          have k59 := wd_at.pt ew12 kI46 (tg_ne tI46 tI40 (by decide))
          have k60 := wd_at.pt ew12 kI47 (tg_ne tI47 tI40 (by decide))
          have k61 := wd_at.pt ew12 kI48 (tg_ne tI48 tI40 (by decide))
          have fm62 : ∀ k9, k9 < 12 → qp k9 = some (pr k9) ∧ wd_at w11 (pr k9) (.inl (cy 2, 12, .inl (fp k9))) ∧ tg (pr k9) = 11000 + k9 := fun k9 hi9 => ⟨(hFPR k9 hi9).1, wd_at.pt ew12 (hFPR k9 hi9).2.1 (tg_ne (hFPR k9 hi9).2.2 tI40 (tnA (show 10149 < 11000 by decide))), (hFPR k9 hi9).2.2⟩
          have fm63 : ∀ k9, k9 < 12 → qw k9 = some (wr k9) ∧ wd_at w11 (wr k9) (.inl (cy 2, 12, .inl (fw k9))) ∧ tg (wr k9) = 12000 + k9 := fun k9 hi9 => ⟨(hFWR k9 hi9).1, wd_at.pt ew12 (hFWR k9 hi9).2.1 (tg_ne (hFWR k9 hi9).2.2 tI40 (tnA (show 10149 < 12000 by decide))), (hFWR k9 hi9).2.2⟩
          have fm64 : ∀ k9, k9 < 60 → qs k9 = some (sr k9) ∧ wd_at w11 (sr k9) (.inl (cy 2, 12, .inl (fs k9))) ∧ tg (sr k9) = 13000 + k9 := fun k9 hi9 => ⟨(hFSR k9 hi9).1, wd_at.pt ew12 (hFSR k9 hi9).2.1 (tg_ne (hFSR k9 hi9).2.2 tI40 (tnA (show 10149 < 13000 by decide))), (hFSR k9 hi9).2.2⟩
          have kp65 := kp0.put ew12 (tgT tI40 (by decide))
          refine lv_aload_n hx hb dX11_send_48 rfl (lv_at hl 0 rfl) ?_
          refine x_get (ref := "NoteHouseModel") F hP k13 rfl (fun _ h => List.mem_cons_of_mem _ (List.mem_append_right _ (h))) 49 (Nat.le_of_ble_eq_true rfl) (List.mem_cons_of_mem _ (List.mem_append_left _ (List.mem_of_getElem? (i := 1) rfl))) rfl rfl dX11_send_49 ?_
          refine lv_iload_n hx hb dX11_send_52 rfl (lv_at hl 1 rfl) ?_
          refine x_iald F hP k53 (vp_in_nI (n := j) (N := 12) (by omega) (by decide)) dX11_send_53 ?_
          rw [pk_us]
          have hX66 : IM cy tg y td pc ac sc ln (sndS se (nI j) x2) plv w11 := IM.mk m2 m3 m4 m5 m6 m8 m9 m10 m11 m12 m13 m14 m17 m18 m19 m20 m21 m22 m23 m24 m29 m30 m31 m32 m33 m34 m35 m36 m37 m39 m40 m41 m42 m43 m44 m45 m46 m47 m48 m49 m51 m52 m53 m54 m56 m57 m58 m59 sh gf v0 v26 v27 v28 v50 f4 f5 f6 f8 f9 f10 f11 f12 f13 f14 f17 f18 f19 f20 f21 f22 f24 f29 f30 f31 f32 f33 f34 f35 f36 f37 f39 f40 f41 f42 f43 f44 f45 f46 f47 f48 (upd f49 (nI j).toNatClampNeg ((se j) + x2)) f51 f52 f53 f54 f56 f57 f58 f59 qp pr fp qw wr fw qs sr fs (by omega) (by omega) (by omega) (by omega) (by omega) (by omega) hrl hc ht hp (by rw [show sndS se (nI j) x2 = va_up se j (se j + x2) from by simp [sndS, c_4, clj, c_5, c_9, c_10, hsd]]; exact hso.s (by omega) (snd_b euse huse c_9 c_10)) hlo k13 tI0 k14 tI1 k15 tI2 k16 tI3 k17 tI4 k18 tI5 k19 tI6 k20 tI7 k21 tI8 k22 tI9 k23 tI10 k24 tI11 k25 tI12 k26 tI13 k27 tI14 k28 tI15 k29 tI16 k30 tI17 k31 tI18 k32 tI19 k33 tI20 k34 tI21 k35 tI22 k36 tI23 k37 tI24 k38 tI25 k39 tI26 k40 tI27 k41 tI28 k42 tI29 k43 tI30 k44 tI31 k45 tI32 k46 tI33 k47 tI34 k48 tI35 k49 tI36 k50 tI37 k51 tI38 k52 tI39 k53 tI40 k54 tI41 k55 tI42 k56 tI43 k57 tI44 k58 tI45 k59 tI46 k60 tI47 k61 tI48 fm62 fm63 fm64
          exact y_ir K hP hD hS (Nat.le_of_ble_eq_true rfl) (Nat.le_of_ble_eq_true rfl) (ty := .int) rfl rfl dX11_send_54 (⟨(congrArg (fun z => some (Value.int z)) (show (se j) + x2 = sndA se (nI j) x2 from by simp [sndA, sndS, c_4, clj, c_5, c_9, c_10, hsd])), ⟨kp65, hX66⟩⟩)
        · have hsd : ¬ se j ≤ 1000000000 - x2 := fun q => c_10 ((snd_iff euse huse c_9).mpr q)
          refine lv_iconst (v := (-1)) hx hb dX11_send_36 (by decide) ?_
          exact y_ir K hP hD hS (Nat.le_of_ble_eq_true rfl) (Nat.le_of_ble_eq_true rfl) (ty := .int) rfl rfl dX11_send_37 (by refine ⟨(congrArg (fun z => some (Value.int z)) (show (-1) = sndA se (nI j) x2 from by simp [sndA, sndS, c_4, clj, c_5, c_9, c_10, hsd])), ?_⟩; rw [show sndS se (nI j) x2 = se from by simp [sndA, sndS, c_4, clj, c_5, c_9, c_10, hsd]]; exact ⟨wd_kp.rf, hIM0⟩)
