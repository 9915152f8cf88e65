set_option maxHeartbeats 4000000 in
set_option maxRecDepth 100000 in
theorem M_advise (l : Launch) (D : va_G) (cy : Nat → ClassId) (sk sv : Nat → Nat) (w : Wd) (tg : Nat → Nat) (y : Nat) (td : Int32) (pc ac sc ln : Nat) (se plv : Nat → Int32) (x1 x2 : Int32) (hIM0 : IM cy tg y td pc ac sc ln se plv w) : Ct l D cy sk sv yX11_advise wsX11_advise ({ frames := 1, cells := 0, slots := 0, locals := 26 }) [.ref y, .int x1, .int x2] w (fun v w1 => v = some (.int (advA pc ac x1 x2)) ∧ MP cy tg y td pc (advC pc ac x1 x2) sc ln se plv w w1) := by
  refine Ct.by (cc := cX11_advise) (maxL := 3) (ret := (some .int)) (by decide +kernel) rfl (Nat.le_of_ble_eq_true rfl) ?_
  intro p e s m args below meth c A Q F hnm K ls hl
  have F : wd_Fx p s m args meth c cX11_advise 3 wsX11_advise RX11 D cy sk sv A := F
  have hl : lv_has ls 3 [(0, .ref y), (1, .int x1), (2, .int x2)] := hl
  have hx := F.1.1
  have hb := F.1.2.1
  have hown := F.1.2.2.2.1
  have hts := F.1.2.2.2.2
  intro H locs hP hD hS
  have kp0 : wd_kp (fun b => 10000 ≤ tg b) w w := wd_kp.rf
  refine hIM0 _ ?_
  intro m2 m3 m4 m5 m6 m8 m9 m10 m11 m12 m13 m14 m17 m18 m19 m20 m21 m22 m23 m24 m29 m30 m31 m32 m33 m34 m35 m36 m37 m39 m40 m41 m42 m43 m44 m45 m46 m47 m48 m49 m51 m52 m53 m54 m56 m57 m58 m59 sh gf v0 v26 v27 v28 v50 f4 f5 f6 f8 f9 f10 f11 f12 f13 f14 f17 f18 f19 f20 f21 f22 f24 f29 f30 f31 f32 f33 f34 f35 f36 f37 f39 f40 f41 f42 f43 f44 f45 f46 f47 f48 f49 f51 f52 f53 f54 f56 f57 f58 f59 qp pr fp qw wr fw qs sr fs hp90 hp91 hp92 hp93 hp94 hp95 hrl hc ht hp hso hlo kI0 tI0 kI1 tI1 kI2 tI2 kI3 tI3 kI4 tI4 kI5 tI5 kI6 tI6 kI7 tI7 kI8 tI8 kI9 tI9 kI10 tI10 kI11 tI11 kI12 tI12 kI13 tI13 kI14 tI14 kI15 tI15 kI16 tI16 kI17 tI17 kI18 tI18 kI19 tI19 kI20 tI20 kI21 tI21 kI22 tI22 kI23 tI23 kI24 tI24 kI25 tI25 kI26 tI26 kI27 tI27 kI28 tI28 kI29 tI29 kI30 tI30 kI31 tI31 kI32 tI32 kI33 tI33 kI34 tI34 kI35 tI35 kI36 tI36 kI37 tI37 kI38 tI38 kI39 tI39 kI40 tI40 kI41 tI41 kI42 tI42 kI43 tI43 kI44 tI44 kI45 tI45 kI46 tI46 kI47 tI47 kI48 tI48 hFPR hFWR hFSR
  refine lv_aload_n hx hb dX11_advise_0 rfl (lv_at hl 0 rfl) ?_
  refine x_get (ref := "NoteHouseModel") F hP kI0 rfl (fun _ h => List.mem_cons_of_mem _ (List.mem_append_right _ (h))) 15 (Nat.le_of_ble_eq_true rfl) (List.mem_cons_of_mem _ (List.mem_append_left _ (List.mem_of_getElem? (i := 0) rfl))) rfl rfl dX11_advise_1 ?_
  refine lv_bipush (v := 60) hx hb dX11_advise_4 (by decide) ?_
  refine lv_icmp_eq (tgt := 30) hx hb dX11_advise_6 (by decide) (fun c_1 => ?_) (fun c_1 => ?_)
  · have h60 : (60 : Int32) ≤ nI ac := by rw [c_1]; exact Int32.le_refl _
    refine lv_iconst (v := (-1)) hx hb dX11_advise_30 (by decide) ?_
    exact y_ir K hP hD hS (Nat.le_of_ble_eq_true rfl) (Nat.le_of_ble_eq_true rfl) (ty := .int) rfl rfl dX11_advise_31 (by refine ⟨(congrArg (fun z => some (Value.int z)) (show (-1) = advA pc ac x1 x2 from by simp [advA, advC, c_1, h60])), ?_⟩; rw [show advC pc ac x1 x2 = ac from by simp [advA, advC, c_1, h60]]; exact ⟨wd_kp.rf, hIM0⟩)
  · have hb_ac : ac < 60 := by have h9 : ¬ ac = 60 := fun q => c_1 (by rw [q]; rfl); omega
    have h60 : ¬ (60 : Int32) ≤ nI ac := fun q => absurd ((nI_leI (a := 60) (b := ac) (by omega) (by omega)).mp q) (by omega)
    refine lv_iload_n hx hb dX11_advise_9 rfl (lv_at hl 1 rfl) ?_
    refine lv_iconst (v := 0) hx hb dX11_advise_10 (by decide) ?_
    refine lv_aload_n hx hb dX11_advise_11 rfl (lv_at hl 0 rfl) ?_
    refine x_get (ref := "NoteHouseModel") F hP kI0 rfl (fun _ h => List.mem_cons_of_mem _ (List.mem_append_right _ (h))) 7 (Nat.le_of_ble_eq_true rfl) (List.mem_cons_of_mem _ (List.mem_append_left _ (List.mem_of_getElem? (i := 1) rfl))) rfl rfl dX11_advise_12 ?_
    refine lv_iconst (v := 1) hx hb dX11_advise_15 (by decide) ?_
    refine lv_isub hx hb dX11_advise_16 ?_
    refine x_callS (n := 3) (As := [.int x1, .int 0, .int ((nI pc) - 1)]) (rest := []) F hP hD hS (g_in l D cy sk sv w x1 0 ((nI pc) - 1)) gX11_advise_X11_in rfl (by decide +kernel) ⟨(Nat.le_of_ble_eq_true rfl), (Nat.le_of_ble_eq_true rfl)⟩ rfl hl.1 (Nat.le_of_ble_eq_true rfl) dX11_advise_17 rfl ⟨(Nat.le_of_ble_eq_true rfl), (Nat.le_of_ble_eq_true rfl)⟩ (fun v3 w4 hp2 H locs hP hD hS => ?_)
    obtain ⟨rfl, rfl⟩ := hp2
    refine W.eq (g2 := F0 m 20 ls [.int (wi x1 0 ((nI pc) - 1))]) rfl (W.widen (k := 0) (n := 0) (Nat.le_of_ble_eq_true rfl) (Nat.le_of_ble_eq_true rfl) ?_)
    refine lv_if_eq (tgt := 30) hx hb dX11_advise_20 (by decide) (fun c_5 => ?_) (fun c_5 => ?_)
    · refine lv_iconst (v := (-1)) hx hb dX11_advise_30 (by decide) ?_
      exact y_ir K hP hD hS (Nat.le_of_ble_eq_true rfl) (Nat.le_of_ble_eq_true rfl) (ty := .int) rfl rfl dX11_advise_31 (by refine ⟨(congrArg (fun z => some (Value.int z)) (show (-1) = advA pc ac x1 x2 from by simp [advA, advC, c_1, h60, c_5])), ?_⟩; rw [show advC pc ac x1 x2 = ac from by simp [advA, advC, c_1, h60, c_5]]; exact ⟨wd_kp.rf, hIM0⟩)
    · obtain ⟨pp, hpp, rfl⟩ := pb_i (by omega) c_5
      have clpp : (nI pp).toNatClampNeg = pp := nI_clamp (by omega)
      refine lv_iload_n hx hb dX11_advise_23 rfl (lv_at hl 2 rfl) ?_
      refine x_callS (n := 1) (As := [.int x2]) (rest := []) F hP hD hS (g_mTown l D cy sk sv w x2) gX11_advise_X11_isTown rfl (by decide +kernel) ⟨(Nat.le_of_ble_eq_true rfl), (Nat.le_of_ble_eq_true rfl)⟩ rfl hl.1 (Nat.le_of_ble_eq_true rfl) dX11_advise_24 rfl ⟨(Nat.le_of_ble_eq_true rfl), (Nat.le_of_ble_eq_true rfl)⟩ (fun v7 w8 hp6 H locs hP hD hS => ?_)
      obtain ⟨rfl, rfl⟩ := hp6
      refine W.eq (g2 := F0 m 27 ls [.int (wi x2 0 11)]) rfl (W.widen (k := 0) (n := 0) (Nat.le_of_ble_eq_true rfl) (Nat.le_of_ble_eq_true rfl) ?_)
      refine lv_if_ne (tgt := 32) hx hb dX11_advise_27 (by decide) (fun c_9 => ?_) (fun c_9 => ?_)
      · obtain ⟨tw, htw, rfl, cltw⟩ := wi_t c_9
        refine lv_aload_n hx hb dX11_advise_32 rfl (lv_at hl 0 rfl) ?_
        refine lv_iconst (v := 0) hx hb dX11_advise_33 (by decide) ?_
        refine lv_iconst (v := 0) hx hb dX11_advise_34 (by decide) ?_
        refine x_callV (n := 2) (As := [.int 0, .int 0]) (rest := []) F hP hD hS (m_sends l D cy sk sv w tg y m2 m3 m4 m5 m6 m8 m9 m10 m11 m12 m13 m14 m17 m18 m19 m20 m21 m22 m23 m24 m29 m30 m31 m32 m33 m34 m35 m36 m37 m39 m40 m41 m42 m43 m44 m45 m46 m47 m48 m49 m51 m52 m53 m54 m56 m57 m58 m59 pc ac sc ln sh gf v0 td v26 v27 v28 v50 f6 qp pr fp qw wr fw 0 0 kI0 kI5 kI1 kI2 hFPR hFWR (fun b => b = m6) rfl tI0 tI5 tI1 tI2) gX11_advise_X11_sends rfl rfl (by decide +kernel) ⟨(Nat.le_of_ble_eq_true rfl), (Nat.le_of_ble_eq_true rfl)⟩ rfl hl.1 (Nat.le_of_ble_eq_true rfl) kI0 rfl dX11_advise_35 rfl ⟨(Nat.le_of_ble_eq_true rfl), (Nat.le_of_ble_eq_true rfl)⟩ (fun v11 w12 hp10 H locs hP hD hS => ?_)
        obtain ⟨gx13, rfl, kq15, k14⟩ := hp10
        have k16 := kq15.2 _ _ kI0 (tg_ne tI0 tI5 (by decide))
        have k17 := kq15.2 _ _ kI1 (tg_ne tI1 tI5 (by decide))
        have k18 := kq15.2 _ _ kI2 (tg_ne tI2 tI5 (by decide))
        have k19 := kq15.2 _ _ kI3 (tg_ne tI3 tI5 (by decide))
        have k20 := kq15.2 _ _ kI4 (tg_ne tI4 tI5 (by decide))
        have k21 := kq15.2 _ _ kI6 (tg_ne tI6 tI5 (by decide))
        have k22 := kq15.2 _ _ kI7 (tg_ne tI7 tI5 (by decide))
        have k23 := kq15.2 _ _ kI8 (tg_ne tI8 tI5 (by decide))
        have k24 := kq15.2 _ _ kI9 (tg_ne tI9 tI5 (by decide))
        have k25 := kq15.2 _ _ kI10 (tg_ne tI10 tI5 (by decide))
        have k26 := kq15.2 _ _ kI11 (tg_ne tI11 tI5 (by decide))
        have k27 := kq15.2 _ _ kI12 (tg_ne tI12 tI5 (by decide))
        have k28 := kq15.2 _ _ kI13 (tg_ne tI13 tI5 (by decide))
        have k29 := kq15.2 _ _ kI14 (tg_ne tI14 tI5 (by decide))
        have k30 := kq15.2 _ _ kI15 (tg_ne tI15 tI5 (by decide))
        have k31 := kq15.2 _ _ kI16 (tg_ne tI16 tI5 (by decide))
        have k32 := kq15.2 _ _ kI17 (tg_ne tI17 tI5 (by decide))
        have k33 := kq15.2 _ _ kI18 (tg_ne tI18 tI5 (by decide))
        have k34 := kq15.2 _ _ kI19 (tg_ne tI19 tI5 (by decide))
        have k35 := kq15.2 _ _ kI20 (tg_ne tI20 tI5 (by decide))
        have k36 := kq15.2 _ _ kI21 (tg_ne tI21 tI5 (by decide))
        have k37 := kq15.2 _ _ kI22 (tg_ne tI22 tI5 (by decide))
        have k38 := kq15.2 _ _ kI23 (tg_ne tI23 tI5 (by decide))
        have k39 := kq15.2 _ _ kI24 (tg_ne tI24 tI5 (by decide))
        have k40 := kq15.2 _ _ kI25 (tg_ne tI25 tI5 (by decide))
        have k41 := kq15.2 _ _ kI26 (tg_ne tI26 tI5 (by decide))
        have k42 := kq15.2 _ _ kI27 (tg_ne tI27 tI5 (by decide))
        have k43 := kq15.2 _ _ kI28 (tg_ne tI28 tI5 (by decide))
        have k44 := kq15.2 _ _ kI29 (tg_ne tI29 tI5 (by decide))
        have k45 := kq15.2 _ _ kI30 (tg_ne tI30 tI5 (by decide))
        have k46 := kq15.2 _ _ kI31 (tg_ne tI31 tI5 (by decide))
        have k47 := kq15.2 _ _ kI32 (tg_ne tI32 tI5 (by decide))
        have k48 := kq15.2 _ _ kI33 (tg_ne tI33 tI5 (by decide))
        have k49 := kq15.2 _ _ kI34 (tg_ne tI34 tI5 (by decide))
        have k50 := kq15.2 _ _ kI35 (tg_ne tI35 tI5 (by decide))
        have k51 := kq15.2 _ _ kI36 (tg_ne tI36 tI5 (by decide))
        have k52 := kq15.2 _ _ kI37 (tg_ne tI37 tI5 (by decide))
        have k53 := kq15.2 _ _ kI38 (tg_ne tI38 tI5 (by decide))
        have k54 := kq15.2 _ _ kI39 (tg_ne tI39 tI5 (by decide))
        have k55 := kq15.2 _ _ kI40 (tg_ne tI40 tI5 (by decide))
        have k56 := kq15.2 _ _ kI41 (tg_ne tI41 tI5 (by decide))
        have k57 := kq15.2 _ _ kI42 (tg_ne tI42 tI5 (by decide))
        have k58 := kq15.2 _ _ kI43 (tg_ne tI43 tI5 (by decide))
        have k59 := kq15.2 _ _ kI44 (tg_ne tI44 tI5 (by decide))
        have k60 := kq15.2 _ _ kI45 (tg_ne tI45 tI5 (by decide))
        have k61 := kq15.2 _ _ kI46 (tg_ne tI46 tI5 (by decide))
        have k62 := kq15.2 _ _ kI47 (tg_ne tI47 tI5 (by decide))
        have k63 := kq15.2 _ _ kI48 (tg_ne tI48 tI5 (by decide))
        have fm64 : ∀ k9, k9 < 12 → qp k9 = some (pr k9) ∧ wd_at w12 (pr k9) (.inl (cy 2, 12, .inl (fp k9))) ∧ tg (pr k9) = 11000 + k9 := fun k9 hi9 => ⟨(hFPR k9 hi9).1, kq15.2 _ _ (hFPR k9 hi9).2.1 (tg_ne (hFPR k9 hi9).2.2 tI5 (tnA (show 10106 < 11000 by decide))), (hFPR k9 hi9).2.2⟩
        have fm65 : ∀ k9, k9 < 12 → qw k9 = some (wr k9) ∧ wd_at w12 (wr k9) (.inl (cy 2, 12, .inl (fw k9))) ∧ tg (wr k9) = 12000 + k9 := fun k9 hi9 => ⟨(hFWR k9 hi9).1, kq15.2 _ _ (hFWR k9 hi9).2.1 (tg_ne (hFWR k9 hi9).2.2 tI5 (tnA (show 10106 < 12000 by decide))), (hFWR k9 hi9).2.2⟩
        have fm66 : ∀ k9, k9 < 60 → qs k9 = some (sr k9) ∧ wd_at w12 (sr k9) (.inl (cy 2, 12, .inl (fs k9))) ∧ tg (sr k9) = 13000 + k9 := fun k9 hi9 => ⟨(hFSR k9 hi9).1, kq15.2 _ _ (hFSR k9 hi9).2.1 (tg_ne (hFSR k9 hi9).2.2 tI5 (tnA (show 10106 < 13000 by decide))), (hFSR k9 hi9).2.2⟩
        have kp67 := kp0.tr kq15 (fun b9 hm q9 => (fun q9 => q9 ▸ (tgT tI5 (by decide))) q9)
        refine W.eq (g2 := F0 m 38 ls []) rfl (W.widen (k := 0) (n := 0) (Nat.le_of_ble_eq_true rfl) (Nat.le_of_ble_eq_true rfl) ?_)
        refine lv_aload_n hx hb dX11_advise_38 rfl (lv_at hl 0 rfl) ?_
        refine x_get (ref := "NoteHouseModel") F hP k16 rfl (fun _ h => List.mem_cons_of_mem _ (List.mem_append_right _ (h))) 17 (Nat.le_of_ble_eq_true rfl) (List.mem_cons_of_mem _ (List.mem_append_left _ (List.mem_of_getElem? (i := 2) rfl))) rfl rfl dX11_advise_39 ?_
        refine lv_aload_n hx hb dX11_advise_42 rfl (lv_at hl 0 rfl) ?_
        refine x_get (ref := "NoteHouseModel") F hP k16 rfl (fun _ h => List.mem_cons_of_mem _ (List.mem_append_right _ (h))) 15 (Nat.le_of_ble_eq_true rfl) (List.mem_cons_of_mem _ (List.mem_append_left _ (List.mem_of_getElem? (i := 0) rfl))) rfl rfl dX11_advise_43 ?_
        refine lv_iload_n hx hb dX11_advise_46 rfl (lv_at hl 1 rfl) ?_
        refine y_iast F hP hD hS k28 (vp_in_nI (n := ac) (N := 60) (by omega) (by decide)) dX11_advise_47 (fun w68 ew69 H locs hP hD hS => ?_)
        have k70 := wd_at.pt ew69 k16 (tg_ne tI0 tI13 (by decide))
        have k71 := wd_at.pt ew69 k17 (tg_ne tI1 tI13 (by decide))
        have k72 := wd_at.pt ew69 k18 (tg_ne tI2 tI13 (by decide))
        have k73 := wd_at.pt ew69 k19 (tg_ne tI3 tI13 (by decide))
        have k74 := wd_at.pt ew69 k20 (tg_ne tI4 tI13 (by decide))
        have k75 := wd_at.pt ew69 k14 (tg_ne tI5 tI13 (by decide))
        have k76 := wd_at.pt ew69 k21 (tg_ne tI6 tI13 (by decide))
        have k77 := wd_at.pt ew69 k22 (tg_ne tI7 tI13 (by decide))
        have k78 := wd_at.pt ew69 k23 (tg_ne tI8 tI13 (by decide))
        have k79 := wd_at.pt ew69 k24 (tg_ne tI9 tI13 (by decide))
        have k80 := wd_at.pt ew69 k25 (tg_ne tI10 tI13 (by decide))
        have k81 := wd_at.pt ew69 k26 (tg_ne tI11 tI13 (by decide))
        have k82 := wd_at.pt ew69 k27 (tg_ne tI12 tI13 (by decide))
        have k83 : wd_at w68 m17 (.inl (cy 2, 60, .inl (upd f17 (nI ac).toNatClampNeg (nI pp)))) := wd_at.ps ew69 k28
        have k84 := wd_at.pt ew69 k29 (tg_ne tI14 tI13 (by decide))
        have k85 := wd_at.pt ew69 k30 (tg_ne tI15 tI13 (by decide))
        have k86 := wd_at.pt ew69 k31 (tg_ne tI16 tI13 (by decide))
        have k87 := wd_at.pt ew69 k32 (tg_ne tI17 tI13 (by decide))
        have k88 := wd_at.pt ew69 k33 (tg_ne tI18 tI13 (by decide))
        have k89 := wd_at.pt ew69 k34 (tg_ne tI19 tI13 (by decide))
        have k90 := wd_at.pt ew69 k35 (tg_ne tI20 tI13 (by decide))
        have k91 := wd_at.pt ew69 k36 (tg_ne tI21 tI13 (by decide))
        have k92 := wd_at.pt ew69 k37 (tg_ne tI22 tI13 (by decide))
        have k93 := wd_at.pt ew69 k38 (tg_ne tI23 tI13 (by decide))
        have k94 := wd_at.pt ew69 k39 (tg_ne tI24 tI13 (by decide))
        have k95 := wd_at.pt ew69 k40 (tg_ne tI25 tI13 (by decide))
        have k96 := wd_at.pt ew69 k41 (tg_ne tI26 tI13 (by decide))
        have k97 := wd_at.pt ew69 k42 (tg_ne tI27 tI13 (by decide))
        have k98 := wd_at.pt ew69 k43 (tg_ne tI28 tI13 (by decide))
        have k99 := wd_at.pt ew69 k44 (tg_ne tI29 tI13 (by decide))
        have k100 := wd_at.pt ew69 k45 (tg_ne tI30 tI13 (by decide))
        have k101 := wd_at.pt ew69 k46 (tg_ne tI31 tI13 (by decide))
        have k102 := wd_at.pt ew69 k47 (tg_ne tI32 tI13 (by decide))
        have k103 := wd_at.pt ew69 k48 (tg_ne tI33 tI13 (by decide))
        have k104 := wd_at.pt ew69 k49 (tg_ne tI34 tI13 (by decide))
        have k105 := wd_at.pt ew69 k50 (tg_ne tI35 tI13 (by decide))
        have k106 := wd_at.pt ew69 k51 (tg_ne tI36 tI13 (by decide))
        have k107 := wd_at.pt ew69 k52 (tg_ne tI37 tI13 (by decide))
        have k108 := wd_at.pt ew69 k53 (tg_ne tI38 tI13 (by decide))
        have k109 := wd_at.pt ew69 k54 (tg_ne tI39 tI13 (by decide))
        have k110 := wd_at.pt ew69 k55 (tg_ne tI40 tI13 (by decide))
        have k111 := wd_at.pt ew69 k56 (tg_ne tI41 tI13 (by decide))
        have k112 := wd_at.pt ew69 k57 (tg_ne tI42 tI13 (by decide))
        have k113 := wd_at.pt ew69 k58 (tg_ne tI43 tI13 (by decide))
        have k114 := wd_at.pt ew69 k59 (tg_ne tI44 tI13 (by decide))
        have k115 := wd_at.pt ew69 k60 (tg_ne tI45 tI13 (by decide))
        have k116 := wd_at.pt ew69 k61 (tg_ne tI46 tI13 (by decide))
        have k117 := wd_at.pt ew69 k62 (tg_ne tI47 tI13 (by decide))
        have k118 := wd_at.pt ew69 k63 (tg_ne tI48 tI13 (by decide))
        have fm119 : ∀ k9, k9 < 12 → qp k9 = some (pr k9) ∧ wd_at w68 (pr k9) (.inl (cy 2, 12, .inl (fp k9))) ∧ tg (pr k9) = 11000 + k9 := fun k9 hi9 => ⟨(fm64 k9 hi9).1, wd_at.pt ew69 (fm64 k9 hi9).2.1 (tg_ne (fm64 k9 hi9).2.2 tI13 (tnA (show 10117 < 11000 by decide))), (fm64 k9 hi9).2.2⟩
        have fm120 : ∀ k9, k9 < 12 → qw k9 = some (wr k9) ∧ wd_at w68 (wr k9) (.inl (cy 2, 12, .inl (fw k9))) ∧ tg (wr k9) = 12000 + k9 := fun k9 hi9 => ⟨(fm65 k9 hi9).1, wd_at.pt ew69 (fm65 k9 hi9).2.1 (tg_ne (fm65 k9 hi9).2.2 tI13 (tnA (show 10117 < 12000 by decide))), (fm65 k9 hi9).2.2⟩
        have fm121 : ∀ k9, k9 < 60 → qs k9 = some (sr k9) ∧ wd_at w68 (sr k9) (.inl (cy 2, 12, .inl (fs k9))) ∧ tg (sr k9) = 13000 + k9 := fun k9 hi9 => ⟨(fm66 k9 hi9).1, wd_at.pt ew69 (fm66 k9 hi9).2.1 (tg_ne (fm66 k9 hi9).2.2 tI13 (tnA (show 10117 < 13000 by decide))), (fm66 k9 hi9).2.2⟩
        have kp122 := kp67.put ew69 (tgT tI13 (by decide))
        refine lv_aload_n hx hb dX11_advise_48 rfl (lv_at hl 0 rfl) ?_
        refine x_get (ref := "NoteHouseModel") F hP k70 rfl (fun _ h => List.mem_cons_of_mem _ (List.mem_append_right _ (h))) 18 (Nat.le_of_ble_eq_true rfl) (List.mem_cons_of_mem _ (List.mem_append_left _ (List.mem_of_getElem? (i := 3) rfl))) rfl rfl dX11_advise_49 ?_
        refine lv_aload_n hx hb dX11_advise_52 rfl (lv_at hl 0 rfl) ?_
        refine x_get (ref := "NoteHouseModel") F hP k70 rfl (fun _ h => List.mem_cons_of_mem _ (List.mem_append_right _ (h))) 15 (Nat.le_of_ble_eq_true rfl) (List.mem_cons_of_mem _ (List.mem_append_left _ (List.mem_of_getElem? (i := 0) rfl))) rfl rfl dX11_advise_53 ?_
        refine lv_iload_n hx hb dX11_advise_56 rfl (lv_at hl 2 rfl) ?_
        refine y_iast F hP hD hS k84 (vp_in_nI (n := ac) (N := 60) (by omega) (by decide)) dX11_advise_57 (fun w123 ew124 H locs hP hD hS => ?_)
        have k125 := wd_at.pt ew124 k70 (tg_ne tI0 tI14 (by decide))
        have k126 := wd_at.pt ew124 k71 (tg_ne tI1 tI14 (by decide))
        have k127 := wd_at.pt ew124 k72 (tg_ne tI2 tI14 (by decide))
        have k128 := wd_at.pt ew124 k73 (tg_ne tI3 tI14 (by decide))
        have k129 := wd_at.pt ew124 k74 (tg_ne tI4 tI14 (by decide))
        have k130 := wd_at.pt ew124 k75 (tg_ne tI5 tI14 (by decide))
        have k131 := wd_at.pt ew124 k76 (tg_ne tI6 tI14 (by decide))
        have k132 := wd_at.pt ew124 k77 (tg_ne tI7 tI14 (by decide))
        have k133 := wd_at.pt ew124 k78 (tg_ne tI8 tI14 (by decide))
        have k134 := wd_at.pt ew124 k79 (tg_ne tI9 tI14 (by decide))
        have k135 := wd_at.pt ew124 k80 (tg_ne tI10 tI14 (by decide))
        have k136 := wd_at.pt ew124 k81 (tg_ne tI11 tI14 (by decide))
        have k137 := wd_at.pt ew124 k82 (tg_ne tI12 tI14 (by decide))
        have k138 := wd_at.pt ew124 k83 (tg_ne tI13 tI14 (by decide))
        have k139 : wd_at w123 m18 (.inl (cy 2, 60, .inl (upd f18 (nI ac).toNatClampNeg (nI tw)))) := wd_at.ps ew124 k84
        have k140 := wd_at.pt ew124 k85 (tg_ne tI15 tI14 (by decide))
        have k141 := wd_at.pt ew124 k86 (tg_ne tI16 tI14 (by decide))
        have k142 := wd_at.pt ew124 k87 (tg_ne tI17 tI14 (by decide))
        have k143 := wd_at.pt ew124 k88 (tg_ne tI18 tI14 (by decide))
        have k144 := wd_at.pt ew124 k89 (tg_ne tI19 tI14 (by decide))
        have k145 := wd_at.pt ew124 k90 (tg_ne tI20 tI14 (by decide))
        have k146 := wd_at.pt ew124 k91 (tg_ne tI21 tI14 (by decide))
        have k147 := wd_at.pt ew124 k92 (tg_ne tI22 tI14 (by decide))
        have k148 := wd_at.pt ew124 k93 (tg_ne tI23 tI14 (by decide))
        have k149 := wd_at.pt ew124 k94 (tg_ne tI24 tI14 (by decide))
        have k150 := wd_at.pt ew124 k95 (tg_ne tI25 tI14 (by decide))
        have k151 := wd_at.pt ew124 k96 (tg_ne tI26 tI14 (by decide))
        have k152 := wd_at.pt ew124 k97 (tg_ne tI27 tI14 (by decide))
        have k153 := wd_at.pt ew124 k98 (tg_ne tI28 tI14 (by decide))
        have k154 := wd_at.pt ew124 k99 (tg_ne tI29 tI14 (by decide))
        have k155 := wd_at.pt ew124 k100 (tg_ne tI30 tI14 (by decide))
        have k156 := wd_at.pt ew124 k101 (tg_ne tI31 tI14 (by decide))
        have k157 := wd_at.pt ew124 k102 (tg_ne tI32 tI14 (by decide))
        have k158 := wd_at.pt ew124 k103 (tg_ne tI33 tI14 (by decide))
        have k159 := wd_at.pt ew124 k104 (tg_ne tI34 tI14 (by decide))
        have k160 := wd_at.pt ew124 k105 (tg_ne tI35 tI14 (by decide))
        have k161 := wd_at.pt ew124 k106 (tg_ne tI36 tI14 (by decide))
        have k162 := wd_at.pt ew124 k107 (tg_ne tI37 tI14 (by decide))
        have k163 := wd_at.pt ew124 k108 (tg_ne tI38 tI14 (by decide))
        have k164 := wd_at.pt ew124 k109 (tg_ne tI39 tI14 (by decide))
        have k165 := wd_at.pt ew124 k110 (tg_ne tI40 tI14 (by decide))
        have k166 := wd_at.pt ew124 k111 (tg_ne tI41 tI14 (by decide))
        have k167 := wd_at.pt ew124 k112 (tg_ne tI42 tI14 (by decide))
        have k168 := wd_at.pt ew124 k113 (tg_ne tI43 tI14 (by decide))
        have k169 := wd_at.pt ew124 k114 (tg_ne tI44 tI14 (by decide))
        have k170 := wd_at.pt ew124 k115 (tg_ne tI45 tI14 (by decide))
        have k171 := wd_at.pt ew124 k116 (tg_ne tI46 tI14 (by decide))
        have k172 := wd_at.pt ew124 k117 (tg_ne tI47 tI14 (by decide))
        have k173 := wd_at.pt ew124 k118 (tg_ne tI48 tI14 (by decide))
        have fm174 : ∀ k9, k9 < 12 → qp k9 = some (pr k9) ∧ wd_at w123 (pr k9) (.inl (cy 2, 12, .inl (fp k9))) ∧ tg (pr k9) = 11000 + k9 := fun k9 hi9 => ⟨(fm119 k9 hi9).1, wd_at.pt ew124 (fm119 k9 hi9).2.1 (tg_ne (fm119 k9 hi9).2.2 tI14 (tnA (show 10118 < 11000 by decide))), (fm119 k9 hi9).2.2⟩
        have fm175 : ∀ k9, k9 < 12 → qw k9 = some (wr k9) ∧ wd_at w123 (wr k9) (.inl (cy 2, 12, .inl (fw k9))) ∧ tg (wr k9) = 12000 + k9 := fun k9 hi9 => ⟨(fm120 k9 hi9).1, wd_at.pt ew124 (fm120 k9 hi9).2.1 (tg_ne (fm120 k9 hi9).2.2 tI14 (tnA (show 10118 < 12000 by decide))), (fm120 k9 hi9).2.2⟩
        have fm176 : ∀ k9, k9 < 60 → qs k9 = some (sr k9) ∧ wd_at w123 (sr k9) (.inl (cy 2, 12, .inl (fs k9))) ∧ tg (sr k9) = 13000 + k9 := fun k9 hi9 => ⟨(fm121 k9 hi9).1, wd_at.pt ew124 (fm121 k9 hi9).2.1 (tg_ne (fm121 k9 hi9).2.2 tI14 (tnA (show 10118 < 13000 by decide))), (fm121 k9 hi9).2.2⟩
        have kp177 := kp122.put ew124 (tgT tI14 (by decide))
        refine lv_aload_n hx hb dX11_advise_58 rfl (lv_at hl 0 rfl) ?_
        refine x_get (ref := "NoteHouseModel") F hP k125 rfl (fun _ h => List.mem_cons_of_mem _ (List.mem_append_right _ (h))) 19 (Nat.le_of_ble_eq_true rfl) (List.mem_cons_of_mem _ (List.mem_append_left _ (List.mem_of_getElem? (i := 4) rfl))) rfl rfl dX11_advise_59 ?_
        refine lv_aload_n hx hb dX11_advise_62 rfl (lv_at hl 0 rfl) ?_
        refine x_get (ref := "NoteHouseModel") F hP k125 rfl (fun _ h => List.mem_cons_of_mem _ (List.mem_append_right _ (h))) 15 (Nat.le_of_ble_eq_true rfl) (List.mem_cons_of_mem _ (List.mem_append_left _ (List.mem_of_getElem? (i := 0) rfl))) rfl rfl dX11_advise_63 ?_
        refine lv_aload_n hx hb dX11_advise_66 rfl (lv_at hl 0 rfl) ?_
        refine x_get (ref := "NoteHouseModel") F hP k125 rfl (fun _ h => List.mem_cons_of_mem _ (List.mem_append_right _ (h))) 6 (Nat.le_of_ble_eq_true rfl) (List.mem_cons_of_mem _ (List.mem_append_left _ (List.mem_of_getElem? (i := 5) rfl))) rfl rfl dX11_advise_67 ?_
        refine lv_iload_n hx hb dX11_advise_70 rfl (lv_at hl 2 rfl) ?_
        refine x_iald F hP k130 (vp_in_nI (n := tw) (N := 12) (by omega) (by decide)) dX11_advise_71 ?_
        refine lv_ldc (v := 268435456) hx hb hown (hts _ (List.mem_cons_of_mem _ (List.mem_append_left _ (List.mem_of_getElem? (i := 6) rfl)))) dX11_advise_72 ?_
        refine lv_icmp_ne (tgt := 82) hx hb dX11_advise_74 (by decide) (fun c_178 => ?_) (fun c_178 => ?_)
        · refine lv_aload_n hx hb dX11_advise_82 rfl (lv_at hl 0 rfl) ?_
          refine x_get (ref := "NoteHouseModel") F hP k125 rfl (fun _ h => List.mem_cons_of_mem _ (List.mem_append_right _ (h))) 1 (Nat.le_of_ble_eq_true rfl) (List.mem_cons_of_mem _ (List.mem_append_left _ (List.mem_of_getElem? (i := 7) rfl))) rfl rfl dX11_advise_83 ?_
          refine lv_aload_n hx hb dX11_advise_86 rfl (lv_at hl 0 rfl) ?_
          refine x_get (ref := "NoteHouseModel") F hP k125 rfl (fun _ h => List.mem_cons_of_mem _ (List.mem_append_right _ (h))) 6 (Nat.le_of_ble_eq_true rfl) (List.mem_cons_of_mem _ (List.mem_append_left _ (List.mem_of_getElem? (i := 5) rfl))) rfl rfl dX11_advise_87 ?_
          refine lv_iload_n hx hb dX11_advise_90 rfl (lv_at hl 2 rfl) ?_
          refine x_iald F hP k130 (vp_in_nI (n := tw) (N := 12) (by omega) (by decide)) dX11_advise_91 ?_
          refine lv_iadd hx hb dX11_advise_92 ?_
          refine y_iast F hP hD hS k140 (vp_in_nI (n := ac) (N := 60) (by omega) (by decide)) dX11_advise_93 (fun w179 ew180 H locs hP hD hS => ?_)
          have k181 := wd_at.pt ew180 k125 (tg_ne tI0 tI15 (by decide))
          have k182 := wd_at.pt ew180 k126 (tg_ne tI1 tI15 (by decide))
          have k183 := wd_at.pt ew180 k127 (tg_ne tI2 tI15 (by decide))
          have k184 := wd_at.pt ew180 k128 (tg_ne tI3 tI15 (by decide))
          have k185 := wd_at.pt ew180 k129 (tg_ne tI4 tI15 (by decide))
          have k186 := wd_at.pt ew180 k130 (tg_ne tI5 tI15 (by decide))
          have k187 := wd_at.pt ew180 k131 (tg_ne tI6 tI15 (by decide))
          have k188 := wd_at.pt ew180 k132 (tg_ne tI7 tI15 (by decide))
          have k189 := wd_at.pt ew180 k133 (tg_ne tI8 tI15 (by decide))
          have k190 := wd_at.pt ew180 k134 (tg_ne tI9 tI15 (by decide))
          have k191 := wd_at.pt ew180 k135 (tg_ne tI10 tI15 (by decide))
          have k192 := wd_at.pt ew180 k136 (tg_ne tI11 tI15 (by decide))
          have k193 := wd_at.pt ew180 k137 (tg_ne tI12 tI15 (by decide))
          have k194 := wd_at.pt ew180 k138 (tg_ne tI13 tI15 (by decide))
          have k195 := wd_at.pt ew180 k139 (tg_ne tI14 tI15 (by decide))
          have k196 : wd_at w179 m19 (.inl (cy 2, 60, .inl (upd f19 (nI ac).toNatClampNeg (td + (gx13 (nI tw).toNatClampNeg))))) := wd_at.ps ew180 k140
          have k197 := wd_at.pt ew180 k141 (tg_ne tI16 tI15 (by decide))
          have k198 := wd_at.pt ew180 k142 (tg_ne tI17 tI15 (by decide))
          have k199 := wd_at.pt ew180 k143 (tg_ne tI18 tI15 (by decide))
          have k200 := wd_at.pt ew180 k144 (tg_ne tI19 tI15 (by decide))
          have k201 := wd_at.pt ew180 k145 (tg_ne tI20 tI15 (by decide))
          have k202 := wd_at.pt ew180 k146 (tg_ne tI21 tI15 (by decide))
          have k203 := wd_at.pt ew180 k147 (tg_ne tI22 tI15 (by decide))
          have k204 := wd_at.pt ew180 k148 (tg_ne tI23 tI15 (by decide))
          have k205 := wd_at.pt ew180 k149 (tg_ne tI24 tI15 (by decide))
          have k206 := wd_at.pt ew180 k150 (tg_ne tI25 tI15 (by decide))
          have k207 := wd_at.pt ew180 k151 (tg_ne tI26 tI15 (by decide))
          have k208 := wd_at.pt ew180 k152 (tg_ne tI27 tI15 (by decide))
          have k209 := wd_at.pt ew180 k153 (tg_ne tI28 tI15 (by decide))
          have k210 := wd_at.pt ew180 k154 (tg_ne tI29 tI15 (by decide))
          have k211 := wd_at.pt ew180 k155 (tg_ne tI30 tI15 (by decide))
          have k212 := wd_at.pt ew180 k156 (tg_ne tI31 tI15 (by decide))
          have k213 := wd_at.pt ew180 k157 (tg_ne tI32 tI15 (by decide))
          have k214 := wd_at.pt ew180 k158 (tg_ne tI33 tI15 (by decide))
          have k215 := wd_at.pt ew180 k159 (tg_ne tI34 tI15 (by decide))
          have k216 := wd_at.pt ew180 k160 (tg_ne tI35 tI15 (by decide))
          have k217 := wd_at.pt ew180 k161 (tg_ne tI36 tI15 (by decide))
          have k218 := wd_at.pt ew180 k162 (tg_ne tI37 tI15 (by decide))
          have k219 := wd_at.pt ew180 k163 (tg_ne tI38 tI15 (by decide))
          have k220 := wd_at.pt ew180 k164 (tg_ne tI39 tI15 (by decide))
          have k221 := wd_at.pt ew180 k165 (tg_ne tI40 tI15 (by decide))
          have k222 := wd_at.pt ew180 k166 (tg_ne tI41 tI15 (by decide))
          have k223 := wd_at.pt ew180 k167 (tg_ne tI42 tI15 (by decide))
          have k224 := wd_at.pt ew180 k168 (tg_ne tI43 tI15 (by decide))
          have k225 := wd_at.pt ew180 k169 (tg_ne tI44 tI15 (by decide))
          have k226 := wd_at.pt ew180 k170 (tg_ne tI45 tI15 (by decide))
          have k227 := wd_at.pt ew180 k171 (tg_ne tI46 tI15 (by decide))
          have k228 := wd_at.pt ew180 k172 (tg_ne tI47 tI15 (by decide))
          have k229 := wd_at.pt ew180 k173 (tg_ne tI48 tI15 (by decide))
          have fm230 : ∀ k9, k9 < 12 → qp k9 = some (pr k9) ∧ wd_at w179 (pr k9) (.inl (cy 2, 12, .inl (fp k9))) ∧ tg (pr k9) = 11000 + k9 := fun k9 hi9 => ⟨(fm174 k9 hi9).1, wd_at.pt ew180 (fm174 k9 hi9).2.1 (tg_ne (fm174 k9 hi9).2.2 tI15 (tnA (show 10119 < 11000 by decide))), (fm174 k9 hi9).2.2⟩
          have fm231 : ∀ k9, k9 < 12 → qw k9 = some (wr k9) ∧ wd_at w179 (wr k9) (.inl (cy 2, 12, .inl (fw k9))) ∧ tg (wr k9) = 12000 + k9 := fun k9 hi9 => ⟨(fm175 k9 hi9).1, wd_at.pt ew180 (fm175 k9 hi9).2.1 (tg_ne (fm175 k9 hi9).2.2 tI15 (tnA (show 10119 < 12000 by decide))), (fm175 k9 hi9).2.2⟩
          have fm232 : ∀ k9, k9 < 60 → qs k9 = some (sr k9) ∧ wd_at w179 (sr k9) (.inl (cy 2, 12, .inl (fs k9))) ∧ tg (sr k9) = 13000 + k9 := fun k9 hi9 => ⟨(fm176 k9 hi9).1, wd_at.pt ew180 (fm176 k9 hi9).2.1 (tg_ne (fm176 k9 hi9).2.2 tI15 (tnA (show 10119 < 13000 by decide))), (fm176 k9 hi9).2.2⟩
          have kp233 := kp177.put ew180 (tgT tI15 (by decide))
          refine lv_aload_n hx hb dX11_advise_94 rfl (lv_at hl 0 rfl) ?_
          refine lv_dup hx hb dX11_advise_95 rfl ?_
          refine x_get (ref := "NoteHouseModel") F hP k181 rfl (fun _ h => List.mem_cons_of_mem _ (List.mem_append_right _ (h))) 15 (Nat.le_of_ble_eq_true rfl) (List.mem_cons_of_mem _ (List.mem_append_left _ (List.mem_of_getElem? (i := 0) rfl))) rfl rfl dX11_advise_96 ?_
          refine lv_iconst (v := 1) hx hb dX11_advise_99 (by decide) ?_
          refine lv_iadd hx hb dX11_advise_100 ?_
          rw [show ((nI ac) + 1 : Int32) = nI (ac + 1) from nI_add ac 1]
          refine y_put (ref := "NoteHouseModel") F hP hD hS k181 rfl (fun _ h => List.mem_cons_of_mem _ (List.mem_append_right _ (h))) tyX11_ok nmX11 15 (Nat.le_of_ble_eq_true rfl) (List.mem_cons_of_mem _ (List.mem_append_left _ (List.mem_of_getElem? (i := 0) rfl))) rfl rfl rfl rfl (Nat.le_of_ble_eq_true rfl) dX11_advise_101 (fun w234 ew235 H locs hP hD hS => ?_)
          have k236 : wd_at w234 y (.inr (11, [.int v0, .int td, .ref m2, .ref m3, .ref m4, .ref m5, .ref m6, .int (nI pc), .ref m8, .ref m9, .ref m10, .ref m11, .ref m12, .ref m13, .ref m14, .int (nI (ac + 1)), .int (nI sc), .ref m17, .ref m18, .ref m19, .ref m20, .ref m21, .ref m22, .ref m23, .ref m24, .int (nI ln), .int v26, .int v27, .int v28, .ref m29, .ref m30, .ref m31, .ref m32, .ref m33, .ref m34, .ref m35, .ref m36, .ref m37, .int (nI sh), .ref m39, .ref m40, .ref m41, .ref m42, .ref m43, .ref m44, .ref m45, .ref m46, .ref m47, .ref m48, .ref m49, .int v50, .ref m51, .ref m52, .ref m53, .ref m54, .int (nI gf), .ref m56, .ref m57, .ref m58, .ref m59])) := wd_at.ps ew235 k181
          have k237 := wd_at.pt ew235 k182 (tg_ne tI1 tI0 (by decide))
          have k238 := wd_at.pt ew235 k183 (tg_ne tI2 tI0 (by decide))
          have k239 := wd_at.pt ew235 k184 (tg_ne tI3 tI0 (by decide))
          have k240 := wd_at.pt ew235 k185 (tg_ne tI4 tI0 (by decide))
          have k241 := wd_at.pt ew235 k186 (tg_ne tI5 tI0 (by decide))
          have k242 := wd_at.pt ew235 k187 (tg_ne tI6 tI0 (by decide))
          have k243 := wd_at.pt ew235 k188 (tg_ne tI7 tI0 (by decide))
          have k244 := wd_at.pt ew235 k189 (tg_ne tI8 tI0 (by decide))
          have k245 := wd_at.pt ew235 k190 (tg_ne tI9 tI0 (by decide))
          have k246 := wd_at.pt ew235 k191 (tg_ne tI10 tI0 (by decide))
          have k247 := wd_at.pt ew235 k192 (tg_ne tI11 tI0 (by decide))
          have k248 := wd_at.pt ew235 k193 (tg_ne tI12 tI0 (by decide))
          have k249 := wd_at.pt ew235 k194 (tg_ne tI13 tI0 (by decide))
          have k250 := wd_at.pt ew235 k195 (tg_ne tI14 tI0 (by decide))
          have k251 := wd_at.pt ew235 k196 (tg_ne tI15 tI0 (by decide))
          have k252 := wd_at.pt ew235 k197 (tg_ne tI16 tI0 (by decide))
          have k253 := wd_at.pt ew235 k198 (tg_ne tI17 tI0 (by decide))
          have k254 := wd_at.pt ew235 k199 (tg_ne tI18 tI0 (by decide))
          have k255 := wd_at.pt ew235 k200 (tg_ne tI19 tI0 (by decide))
          have k256 := wd_at.pt ew235 k201 (tg_ne tI20 tI0 (by decide))
          have k257 := wd_at.pt ew235 k202 (tg_ne tI21 tI0 (by decide))
          have k258 := wd_at.pt ew235 k203 (tg_ne tI22 tI0 (by decide))
          have k259 := wd_at.pt ew235 k204 (tg_ne tI23 tI0 (by decide))
          have k260 := wd_at.pt ew235 k205 (tg_ne tI24 tI0 (by decide))
          have k261 := wd_at.pt ew235 k206 (tg_ne tI25 tI0 (by decide))
          have k262 := wd_at.pt ew235 k207 (tg_ne tI26 tI0 (by decide))
          have k263 := wd_at.pt ew235 k208 (tg_ne tI27 tI0 (by decide))
          have k264 := wd_at.pt ew235 k209 (tg_ne tI28 tI0 (by decide))
          have k265 := wd_at.pt ew235 k210 (tg_ne tI29 tI0 (by decide))
          have k266 := wd_at.pt ew235 k211 (tg_ne tI30 tI0 (by decide))
          have k267 := wd_at.pt ew235 k212 (tg_ne tI31 tI0 (by decide))
          have k268 := wd_at.pt ew235 k213 (tg_ne tI32 tI0 (by decide))
          have k269 := wd_at.pt ew235 k214 (tg_ne tI33 tI0 (by decide))
          have k270 := wd_at.pt ew235 k215 (tg_ne tI34 tI0 (by decide))
          have k271 := wd_at.pt ew235 k216 (tg_ne tI35 tI0 (by decide))
          have k272 := wd_at.pt ew235 k217 (tg_ne tI36 tI0 (by decide))
          have k273 := wd_at.pt ew235 k218 (tg_ne tI37 tI0 (by decide))
          have k274 := wd_at.pt ew235 k219 (tg_ne tI38 tI0 (by decide))
          have k275 := wd_at.pt ew235 k220 (tg_ne tI39 tI0 (by decide))
          have k276 := wd_at.pt ew235 k221 (tg_ne tI40 tI0 (by decide))
          have k277 := wd_at.pt ew235 k222 (tg_ne tI41 tI0 (by decide))
          have k278 := wd_at.pt ew235 k223 (tg_ne tI42 tI0 (by decide))
          have k279 := wd_at.pt ew235 k224 (tg_ne tI43 tI0 (by decide))
          have k280 := wd_at.pt ew235 k225 (tg_ne tI44 tI0 (by decide))
          have k281 := wd_at.pt ew235 k226 (tg_ne tI45 tI0 (by decide))
          have k282 := wd_at.pt ew235 k227 (tg_ne tI46 tI0 (by decide))
          have k283 := wd_at.pt ew235 k228 (tg_ne tI47 tI0 (by decide))
          have k284 := wd_at.pt ew235 k229 (tg_ne tI48 tI0 (by decide))
          have fm285 : ∀ k9, k9 < 12 → qp k9 = some (pr k9) ∧ wd_at w234 (pr k9) (.inl (cy 2, 12, .inl (fp k9))) ∧ tg (pr k9) = 11000 + k9 := fun k9 hi9 => ⟨(fm230 k9 hi9).1, wd_at.pt ew235 (fm230 k9 hi9).2.1 (tg_ne (fm230 k9 hi9).2.2 tI0 (tnA (show 10000 < 11000 by decide))), (fm230 k9 hi9).2.2⟩
          have fm286 : ∀ k9, k9 < 12 → qw k9 = some (wr k9) ∧ wd_at w234 (wr k9) (.inl (cy 2, 12, .inl (fw k9))) ∧ tg (wr k9) = 12000 + k9 := fun k9 hi9 => ⟨(fm231 k9 hi9).1, wd_at.pt ew235 (fm231 k9 hi9).2.1 (tg_ne (fm231 k9 hi9).2.2 tI0 (tnA (show 10000 < 12000 by decide))), (fm231 k9 hi9).2.2⟩
          have fm287 : ∀ k9, k9 < 60 → qs k9 = some (sr k9) ∧ wd_at w234 (sr k9) (.inl (cy 2, 12, .inl (fs k9))) ∧ tg (sr k9) = 13000 + k9 := fun k9 hi9 => ⟨(fm232 k9 hi9).1, wd_at.pt ew235 (fm232 k9 hi9).2.1 (tg_ne (fm232 k9 hi9).2.2 tI0 (tnA (show 10000 < 13000 by decide))), (fm232 k9 hi9).2.2⟩
          have kp288 := kp233.put ew235 (tgT tI0 (by decide))
          refine lv_aload_n hx hb dX11_advise_104 rfl (lv_at hl 0 rfl) ?_
          refine x_get (ref := "NoteHouseModel") F hP k236 rfl (fun _ h => List.mem_cons_of_mem _ (List.mem_append_right _ (h))) 15 (Nat.le_of_ble_eq_true rfl) (List.mem_cons_of_mem _ (List.mem_append_left _ (List.mem_of_getElem? (i := 0) rfl))) rfl rfl dX11_advise_105 ?_
          refine lv_iconst (v := 1) hx hb dX11_advise_108 (by decide) ?_
          refine lv_isub hx hb dX11_advise_109 ?_
          rw [show ((nI (ac + 1)) - 1 : Int32) = nI ((ac + 1) - 1) from pk_sub (a := (ac + 1)) (b := 1) (by omega)]
          have hX289 : IM cy tg y td pc (ac + 1) sc ln se plv w234 := IM.mk m2 m3 m4 m5 m6 m8 m9 m10 m11 m12 m13 m14 m17 m18 m19 m20 m21 m22 m23 m24 m29 m30 m31 m32 m33 m34 m35 m36 m37 m39 m40 m41 m42 m43 m44 m45 m46 m47 m48 m49 m51 m52 m53 m54 m56 m57 m58 m59 sh gf v0 v26 v27 v28 v50 f4 f5 gx13 f8 f9 f10 f11 f12 f13 f14 (upd f17 (nI ac).toNatClampNeg (nI pp)) (upd f18 (nI ac).toNatClampNeg (nI tw)) (upd f19 (nI ac).toNatClampNeg (td + (gx13 (nI tw).toNatClampNeg))) f20 f21 f22 f24 f29 f30 f31 f32 f33 f34 f35 f36 f37 f39 f40 f41 f42 f43 f44 f45 f46 f47 f48 f49 f51 f52 f53 f54 f56 f57 f58 f59 qp pr fp qw wr fw qs sr fs (by omega) (by omega) (by omega) (by omega) (by omega) (by omega) hrl hc ht hp hso hlo k236 tI0 k237 tI1 k238 tI2 k239 tI3 k240 tI4 k241 tI5 k242 tI6 k243 tI7 k244 tI8 k245 tI9 k246 tI10 k247 tI11 k248 tI12 k249 tI13 k250 tI14 k251 tI15 k252 tI16 k253 tI17 k254 tI18 k255 tI19 k256 tI20 k257 tI21 k258 tI22 k259 tI23 k260 tI24 k261 tI25 k262 tI26 k263 tI27 k264 tI28 k265 tI29 k266 tI30 k267 tI31 k268 tI32 k269 tI33 k270 tI34 k271 tI35 k272 tI36 k273 tI37 k274 tI38 k275 tI39 k276 tI40 k277 tI41 k278 tI42 k279 tI43 k280 tI44 k281 tI45 k282 tI46 k283 tI47 k284 tI48 fm285 fm286 fm287
          exact y_ir K hP hD hS (Nat.le_of_ble_eq_true rfl) (Nat.le_of_ble_eq_true rfl) (ty := .int) rfl rfl dX11_advise_110 (by refine ⟨(congrArg (fun z => some (Value.int z)) (show nI ((ac + 1) - 1) = advA pc ac (nI pp) (nI tw) from by simp [advA, advC, c_1, h60, c_5, clpp, c_9, cltw, c_178])), ?_⟩; rw [show advC pc ac (nI pp) (nI tw) = (ac + 1) from by simp [advA, advC, c_1, h60, c_5, clpp, c_9, cltw, c_178]]; exact ⟨kp288, hX289⟩)
        · refine lv_ldc (v := 268435456) hx hb hown (hts _ (List.mem_cons_of_mem _ (List.mem_append_left _ (List.mem_of_getElem? (i := 6) rfl)))) dX11_advise_77 ?_
          refine lv_goto (tgt := 93) hx hb dX11_advise_79 (by decide) ?_
          refine y_iast F hP hD hS k140 (vp_in_nI (n := ac) (N := 60) (by omega) (by decide)) dX11_advise_93 (fun w290 ew291 H locs hP hD hS => ?_)
          have k292 := wd_at.pt ew291 k125 (tg_ne tI0 tI15 (by decide))
          have k293 := wd_at.pt ew291 k126 (tg_ne tI1 tI15 (by decide))
          have k294 := wd_at.pt ew291 k127 (tg_ne tI2 tI15 (by decide))
          have k295 := wd_at.pt ew291 k128 (tg_ne tI3 tI15 (by decide))
          have k296 := wd_at.pt ew291 k129 (tg_ne tI4 tI15 (by decide))
          have k297 := wd_at.pt ew291 k130 (tg_ne tI5 tI15 (by decide))
          have k298 := wd_at.pt ew291 k131 (tg_ne tI6 tI15 (by decide))
          have k299 := wd_at.pt ew291 k132 (tg_ne tI7 tI15 (by decide))
          have k300 := wd_at.pt ew291 k133 (tg_ne tI8 tI15 (by decide))
          have k301 := wd_at.pt ew291 k134 (tg_ne tI9 tI15 (by decide))
          have k302 := wd_at.pt ew291 k135 (tg_ne tI10 tI15 (by decide))
          have k303 := wd_at.pt ew291 k136 (tg_ne tI11 tI15 (by decide))
          have k304 := wd_at.pt ew291 k137 (tg_ne tI12 tI15 (by decide))
          have k305 := wd_at.pt ew291 k138 (tg_ne tI13 tI15 (by decide))
          have k306 := wd_at.pt ew291 k139 (tg_ne tI14 tI15 (by decide))
          have k307 : wd_at w290 m19 (.inl (cy 2, 60, .inl (upd f19 (nI ac).toNatClampNeg 268435456))) := wd_at.ps ew291 k140
          have k308 := wd_at.pt ew291 k141 (tg_ne tI16 tI15 (by decide))
          have k309 := wd_at.pt ew291 k142 (tg_ne tI17 tI15 (by decide))
          have k310 := wd_at.pt ew291 k143 (tg_ne tI18 tI15 (by decide))
          have k311 := wd_at.pt ew291 k144 (tg_ne tI19 tI15 (by decide))
          have k312 := wd_at.pt ew291 k145 (tg_ne tI20 tI15 (by decide))
          have k313 := wd_at.pt ew291 k146 (tg_ne tI21 tI15 (by decide))
          have k314 := wd_at.pt ew291 k147 (tg_ne tI22 tI15 (by decide))
          have k315 := wd_at.pt ew291 k148 (tg_ne tI23 tI15 (by decide))
          have k316 := wd_at.pt ew291 k149 (tg_ne tI24 tI15 (by decide))
          have k317 := wd_at.pt ew291 k150 (tg_ne tI25 tI15 (by decide))
          have k318 := wd_at.pt ew291 k151 (tg_ne tI26 tI15 (by decide))
          have k319 := wd_at.pt ew291 k152 (tg_ne tI27 tI15 (by decide))
          have k320 := wd_at.pt ew291 k153 (tg_ne tI28 tI15 (by decide))
          have k321 := wd_at.pt ew291 k154 (tg_ne tI29 tI15 (by decide))
          have k322 := wd_at.pt ew291 k155 (tg_ne tI30 tI15 (by decide))
          have k323 := wd_at.pt ew291 k156 (tg_ne tI31 tI15 (by decide))
          have k324 := wd_at.pt ew291 k157 (tg_ne tI32 tI15 (by decide))
          have k325 := wd_at.pt ew291 k158 (tg_ne tI33 tI15 (by decide))
          have k326 := wd_at.pt ew291 k159 (tg_ne tI34 tI15 (by decide))
          have k327 := wd_at.pt ew291 k160 (tg_ne tI35 tI15 (by decide))
          have k328 := wd_at.pt ew291 k161 (tg_ne tI36 tI15 (by decide))
          have k329 := wd_at.pt ew291 k162 (tg_ne tI37 tI15 (by decide))
          have k330 := wd_at.pt ew291 k163 (tg_ne tI38 tI15 (by decide))
          have k331 := wd_at.pt ew291 k164 (tg_ne tI39 tI15 (by decide))
          have k332 := wd_at.pt ew291 k165 (tg_ne tI40 tI15 (by decide))
          have k333 := wd_at.pt ew291 k166 (tg_ne tI41 tI15 (by decide))
          have k334 := wd_at.pt ew291 k167 (tg_ne tI42 tI15 (by decide))
          have k335 := wd_at.pt ew291 k168 (tg_ne tI43 tI15 (by decide))
          have k336 := wd_at.pt ew291 k169 (tg_ne tI44 tI15 (by decide))
          have k337 := wd_at.pt ew291 k170 (tg_ne tI45 tI15 (by decide))
          have k338 := wd_at.pt ew291 k171 (tg_ne tI46 tI15 (by decide))
          have k339 := wd_at.pt ew291 k172 (tg_ne tI47 tI15 (by decide))
          have k340 := wd_at.pt ew291 k173 (tg_ne tI48 tI15 (by decide))
          have fm341 : ∀ k9, k9 < 12 → qp k9 = some (pr k9) ∧ wd_at w290 (pr k9) (.inl (cy 2, 12, .inl (fp k9))) ∧ tg (pr k9) = 11000 + k9 := fun k9 hi9 => ⟨(fm174 k9 hi9).1, wd_at.pt ew291 (fm174 k9 hi9).2.1 (tg_ne (fm174 k9 hi9).2.2 tI15 (tnA (show 10119 < 11000 by decide))), (fm174 k9 hi9).2.2⟩
          have fm342 : ∀ k9, k9 < 12 → qw k9 = some (wr k9) ∧ wd_at w290 (wr k9) (.inl (cy 2, 12, .inl (fw k9))) ∧ tg (wr k9) = 12000 + k9 := fun k9 hi9 => ⟨(fm175 k9 hi9).1, wd_at.pt ew291 (fm175 k9 hi9).2.1 (tg_ne (fm175 k9 hi9).2.2 tI15 (tnA (show 10119 < 12000 by decide))), (fm175 k9 hi9).2.2⟩
          have fm343 : ∀ k9, k9 < 60 → qs k9 = some (sr k9) ∧ wd_at w290 (sr k9) (.inl (cy 2, 12, .inl (fs k9))) ∧ tg (sr k9) = 13000 + k9 := fun k9 hi9 => ⟨(fm176 k9 hi9).1, wd_at.pt ew291 (fm176 k9 hi9).2.1 (tg_ne (fm176 k9 hi9).2.2 tI15 (tnA (show 10119 < 13000 by decide))), (fm176 k9 hi9).2.2⟩
          have kp344 := kp177.put ew291 (tgT tI15 (by decide))
          refine lv_aload_n hx hb dX11_advise_94 rfl (lv_at hl 0 rfl) ?_
          refine lv_dup hx hb dX11_advise_95 rfl ?_
          refine x_get (ref := "NoteHouseModel") F hP k292 rfl (fun _ h => List.mem_cons_of_mem _ (List.mem_append_right _ (h))) 15 (Nat.le_of_ble_eq_true rfl) (List.mem_cons_of_mem _ (List.mem_append_left _ (List.mem_of_getElem? (i := 0) rfl))) rfl rfl dX11_advise_96 ?_
          refine lv_iconst (v := 1) hx hb dX11_advise_99 (by decide) ?_
          refine lv_iadd hx hb dX11_advise_100 ?_
          rw [show ((nI ac) + 1 : Int32) = nI (ac + 1) from nI_add ac 1]
          refine y_put (ref := "NoteHouseModel") F hP hD hS k292 rfl (fun _ h => List.mem_cons_of_mem _ (List.mem_append_right _ (h))) tyX11_ok nmX11 15 (Nat.le_of_ble_eq_true rfl) (List.mem_cons_of_mem _ (List.mem_append_left _ (List.mem_of_getElem? (i := 0) rfl))) rfl rfl rfl rfl (Nat.le_of_ble_eq_true rfl) dX11_advise_101 (fun w345 ew346 H locs hP hD hS => ?_)
          have k347 : wd_at w345 y (.inr (11, [.int v0, .int td, .ref m2, .ref m3, .ref m4, .ref m5, .ref m6, .int (nI pc), .ref m8, .ref m9, .ref m10, .ref m11, .ref m12, .ref m13, .ref m14, .int (nI (ac + 1)), .int (nI sc), .ref m17, .ref m18, .ref m19, .ref m20, .ref m21, .ref m22, .ref m23, .ref m24, .int (nI ln), .int v26, .int v27, .int v28, .ref m29, .ref m30, .ref m31, .ref m32, .ref m33, .ref m34, .ref m35, .ref m36, .ref m37, .int (nI sh), .ref m39, .ref m40, .ref m41, .ref m42, .ref m43, .ref m44, .ref m45, .ref m46, .ref m47, .ref m48, .ref m49, .int v50, .ref m51, .ref m52, .ref m53, .ref m54, .int (nI gf), .ref m56, .ref m57, .ref m58, .ref m59])) := wd_at.ps ew346 k292
          have k348 := wd_at.pt ew346 k293 (tg_ne tI1 tI0 (by decide))
          have k349 := wd_at.pt ew346 k294 (tg_ne tI2 tI0 (by decide))
          have k350 := wd_at.pt ew346 k295 (tg_ne tI3 tI0 (by decide))
          have k351 := wd_at.pt ew346 k296 (tg_ne tI4 tI0 (by decide))
          have k352 := wd_at.pt ew346 k297 (tg_ne tI5 tI0 (by decide))
          have k353 := wd_at.pt ew346 k298 (tg_ne tI6 tI0 (by decide))
          have k354 := wd_at.pt ew346 k299 (tg_ne tI7 tI0 (by decide))
          have k355 := wd_at.pt ew346 k300 (tg_ne tI8 tI0 (by decide))
          have k356 := wd_at.pt ew346 k301 (tg_ne tI9 tI0 (by decide))
          have k357 := wd_at.pt ew346 k302 (tg_ne tI10 tI0 (by decide))
          have k358 := wd_at.pt ew346 k303 (tg_ne tI11 tI0 (by decide))
          have k359 := wd_at.pt ew346 k304 (tg_ne tI12 tI0 (by decide))
          have k360 := wd_at.pt ew346 k305 (tg_ne tI13 tI0 (by decide))
          have k361 := wd_at.pt ew346 k306 (tg_ne tI14 tI0 (by decide))
          have k362 := wd_at.pt ew346 k307 (tg_ne tI15 tI0 (by decide))
          have k363 := wd_at.pt ew346 k308 (tg_ne tI16 tI0 (by decide))
          have k364 := wd_at.pt ew346 k309 (tg_ne tI17 tI0 (by decide))
          have k365 := wd_at.pt ew346 k310 (tg_ne tI18 tI0 (by decide))
          have k366 := wd_at.pt ew346 k311 (tg_ne tI19 tI0 (by decide))
          have k367 := wd_at.pt ew346 k312 (tg_ne tI20 tI0 (by decide))
          have k368 := wd_at.pt ew346 k313 (tg_ne tI21 tI0 (by decide))
          have k369 := wd_at.pt ew346 k314 (tg_ne tI22 tI0 (by decide))
          have k370 := wd_at.pt ew346 k315 (tg_ne tI23 tI0 (by decide))
          have k371 := wd_at.pt ew346 k316 (tg_ne tI24 tI0 (by decide))
          have k372 := wd_at.pt ew346 k317 (tg_ne tI25 tI0 (by decide))
          have k373 := wd_at.pt ew346 k318 (tg_ne tI26 tI0 (by decide))
          have k374 := wd_at.pt ew346 k319 (tg_ne tI27 tI0 (by decide))
          have k375 := wd_at.pt ew346 k320 (tg_ne tI28 tI0 (by decide))
          have k376 := wd_at.pt ew346 k321 (tg_ne tI29 tI0 (by decide))
          have k377 := wd_at.pt ew346 k322 (tg_ne tI30 tI0 (by decide))
          have k378 := wd_at.pt ew346 k323 (tg_ne tI31 tI0 (by decide))
          have k379 := wd_at.pt ew346 k324 (tg_ne tI32 tI0 (by decide))
          have k380 := wd_at.pt ew346 k325 (tg_ne tI33 tI0 (by decide))
          have k381 := wd_at.pt ew346 k326 (tg_ne tI34 tI0 (by decide))
          have k382 := wd_at.pt ew346 k327 (tg_ne tI35 tI0 (by decide))
          have k383 := wd_at.pt ew346 k328 (tg_ne tI36 tI0 (by decide))
          have k384 := wd_at.pt ew346 k329 (tg_ne tI37 tI0 (by decide))
          have k385 := wd_at.pt ew346 k330 (tg_ne tI38 tI0 (by decide))
          have k386 := wd_at.pt ew346 k331 (tg_ne tI39 tI0 (by decide))
          have k387 := wd_at.pt ew346 k332 (tg_ne tI40 tI0 (by decide))
          have k388 := wd_at.pt ew346 k333 (tg_ne tI41 tI0 (by decide))
          have k389 := wd_at.pt ew346 k334 (tg_ne tI42 tI0 (by decide))
          have k390 := wd_at.pt ew346 k335 (tg_ne tI43 tI0 (by decide))
          have k391 := wd_at.pt ew346 k336 (tg_ne tI44 tI0 (by decide))
          have k392 := wd_at.pt ew346 k337 (tg_ne tI45 tI0 (by decide))
          have k393 := wd_at.pt ew346 k338 (tg_ne tI46 tI0 (by decide))
          have k394 := wd_at.pt ew346 k339 (tg_ne tI47 tI0 (by decide))
          have k395 := wd_at.pt ew346 k340 (tg_ne tI48 tI0 (by decide))
          have fm396 : ∀ k9, k9 < 12 → qp k9 = some (pr k9) ∧ wd_at w345 (pr k9) (.inl (cy 2, 12, .inl (fp k9))) ∧ tg (pr k9) = 11000 + k9 := fun k9 hi9 => ⟨(fm341 k9 hi9).1, wd_at.pt ew346 (fm341 k9 hi9).2.1 (tg_ne (fm341 k9 hi9).2.2 tI0 (tnA (show 10000 < 11000 by decide))), (fm341 k9 hi9).2.2⟩
          have fm397 : ∀ k9, k9 < 12 → qw k9 = some (wr k9) ∧ wd_at w345 (wr k9) (.inl (cy 2, 12, .inl (fw k9))) ∧ tg (wr k9) = 12000 + k9 := fun k9 hi9 => ⟨(fm342 k9 hi9).1, wd_at.pt ew346 (fm342 k9 hi9).2.1 (tg_ne (fm342 k9 hi9).2.2 tI0 (tnA (show 10000 < 12000 by decide))), (fm342 k9 hi9).2.2⟩
          have fm398 : ∀ k9, k9 < 60 → qs k9 = some (sr k9) ∧ wd_at w345 (sr k9) (.inl (cy 2, 12, .inl (fs k9))) ∧ tg (sr k9) = 13000 + k9 := fun k9 hi9 => ⟨(fm343 k9 hi9).1, wd_at.pt ew346 (fm343 k9 hi9).2.1 (tg_ne (fm343 k9 hi9).2.2 tI0 (tnA (show 10000 < 13000 by decide))), (fm343 k9 hi9).2.2⟩
          have kp399 := kp344.put ew346 (tgT tI0 (by decide))
          refine lv_aload_n hx hb dX11_advise_104 rfl (lv_at hl 0 rfl) ?_
          refine x_get (ref := "NoteHouseModel") F hP k347 rfl (fun _ h => List.mem_cons_of_mem _ (List.mem_append_right _ (h))) 15 (Nat.le_of_ble_eq_true rfl) (List.mem_cons_of_mem _ (List.mem_append_left _ (List.mem_of_getElem? (i := 0) rfl))) rfl rfl dX11_advise_105 ?_
          refine lv_iconst (v := 1) hx hb dX11_advise_108 (by decide) ?_
          refine lv_isub hx hb dX11_advise_109 ?_
          rw [show ((nI (ac + 1)) - 1 : Int32) = nI ((ac + 1) - 1) from pk_sub (a := (ac + 1)) (b := 1) (by omega)]
          have hX400 : IM cy tg y td pc (ac + 1) sc ln se plv w345 := IM.mk m2 m3 m4 m5 m6 m8 m9 m10 m11 m12 m13 m14 m17 m18 m19 m20 m21 m22 m23 m24 m29 m30 m31 m32 m33 m34 m35 m36 m37 m39 m40 m41 m42 m43 m44 m45 m46 m47 m48 m49 m51 m52 m53 m54 m56 m57 m58 m59 sh gf v0 v26 v27 v28 v50 f4 f5 gx13 f8 f9 f10 f11 f12 f13 f14 (upd f17 (nI ac).toNatClampNeg (nI pp)) (upd f18 (nI ac).toNatClampNeg (nI tw)) (upd f19 (nI ac).toNatClampNeg 268435456) f20 f21 f22 f24 f29 f30 f31 f32 f33 f34 f35 f36 f37 f39 f40 f41 f42 f43 f44 f45 f46 f47 f48 f49 f51 f52 f53 f54 f56 f57 f58 f59 qp pr fp qw wr fw qs sr fs (by omega) (by omega) (by omega) (by omega) (by omega) (by omega) hrl hc ht hp hso hlo k347 tI0 k348 tI1 k349 tI2 k350 tI3 k351 tI4 k352 tI5 k353 tI6 k354 tI7 k355 tI8 k356 tI9 k357 tI10 k358 tI11 k359 tI12 k360 tI13 k361 tI14 k362 tI15 k363 tI16 k364 tI17 k365 tI18 k366 tI19 k367 tI20 k368 tI21 k369 tI22 k370 tI23 k371 tI24 k372 tI25 k373 tI26 k374 tI27 k375 tI28 k376 tI29 k377 tI30 k378 tI31 k379 tI32 k380 tI33 k381 tI34 k382 tI35 k383 tI36 k384 tI37 k385 tI38 k386 tI39 k387 tI40 k388 tI41 k389 tI42 k390 tI43 k391 tI44 k392 tI45 k393 tI46 k394 tI47 k395 tI48 fm396 fm397 fm398
          exact y_ir K hP hD hS (Nat.le_of_ble_eq_true rfl) (Nat.le_of_ble_eq_true rfl) (ty := .int) rfl rfl dX11_advise_110 (by refine ⟨(congrArg (fun z => some (Value.int z)) (show nI ((ac + 1) - 1) = advA pc ac (nI pp) (nI tw) from by simp [advA, advC, c_1, h60, c_5, clpp, c_9, cltw, c_178])), ?_⟩; rw [show advC pc ac (nI pp) (nI tw) = (ac + 1) from by simp [advA, advC, c_1, h60, c_5, clpp, c_9, cltw, c_178]]; exact ⟨kp399, hX400⟩)
      · refine lv_iconst (v := (-1)) hx hb dX11_advise_30 (by decide) ?_
        exact y_ir K hP hD hS (Nat.le_of_ble_eq_true rfl) (Nat.le_of_ble_eq_true rfl) (ty := .int) rfl rfl dX11_advise_31 (by refine ⟨(congrArg (fun z => some (Value.int z)) (show (-1) = advA pc ac (nI pp) x2 from by simp [advA, advC, c_1, h60, c_5, clpp, c_9])), ?_⟩; rw [show advC pc ac (nI pp) x2 = ac from by simp [advA, advC, c_1, h60, c_5, clpp, c_9]]; exact ⟨wd_kp.rf, hIM0⟩)
set_option maxHeartbeats 4000000 in
set_option maxRecDepth 100000 in
theorem M_lose (l : Launch) (D : va_G) (cy : Nat → ClassId) (sk sv : Nat → Nat) (w : Wd) (tg : Nat → Nat) (y : Nat) (td : Int32) (pc ac sc ln : Nat) (se plv : Nat → Int32) (x1 : Int32) (hIM0 : IM cy tg y td pc ac sc ln se plv w) : Ct l D cy sk sv yX11_lose wsX11_lose ({ frames := 1, cells := 0, slots := 0, locals := 22 }) [.ref y, .int x1] w (fun v w1 => (∃ r : Int32, v = some (.int r)) ∧ MP cy tg y td pc ac sc ln se plv w w1) := by
  refine Ct.by (cc := cX11_lose) (maxL := 2) (ret := (some .boolean)) (by decide +kernel) rfl (Nat.le_of_ble_eq_true rfl) ?_
  intro p e s m args below meth c A Q F hnm K ls hl
  have F : wd_Fx p s m args meth c cX11_lose 2 wsX11_lose RX11 D cy sk sv A := F
  have hl : lv_has ls 2 [(0, .ref y), (1, .int x1)] := hl
  have hx := F.1.1
  have hb := F.1.2.1
  have hown := F.1.2.2.2.1
  have hts := F.1.2.2.2.2
  intro H locs hP hD hS
  have kp0 : wd_kp (fun b => 10000 ≤ tg b) w w := wd_kp.rf
  refine hIM0 _ ?_
  intro m2 m3 m4 m5 m6 m8 m9 m10 m11 m12 m13 m14 m17 m18 m19 m20 m21 m22 m23 m24 m29 m30 m31 m32 m33 m34 m35 m36 m37 m39 m40 m41 m42 m43 m44 m45 m46 m47 m48 m49 m51 m52 m53 m54 m56 m57 m58 m59 sh gf v0 v26 v27 v28 v50 f4 f5 f6 f8 f9 f10 f11 f12 f13 f14 f17 f18 f19 f20 f21 f22 f24 f29 f30 f31 f32 f33 f34 f35 f36 f37 f39 f40 f41 f42 f43 f44 f45 f46 f47 f48 f49 f51 f52 f53 f54 f56 f57 f58 f59 qp pr fp qw wr fw qs sr fs hp90 hp91 hp92 hp93 hp94 hp95 hrl hc ht hp hso hlo kI0 tI0 kI1 tI1 kI2 tI2 kI3 tI3 kI4 tI4 kI5 tI5 kI6 tI6 kI7 tI7 kI8 tI8 kI9 tI9 kI10 tI10 kI11 tI11 kI12 tI12 kI13 tI13 kI14 tI14 kI15 tI15 kI16 tI16 kI17 tI17 kI18 tI18 kI19 tI19 kI20 tI20 kI21 tI21 kI22 tI22 kI23 tI23 kI24 tI24 kI25 tI25 kI26 tI26 kI27 tI27 kI28 tI28 kI29 tI29 kI30 tI30 kI31 tI31 kI32 tI32 kI33 tI33 kI34 tI34 kI35 tI35 kI36 tI36 kI37 tI37 kI38 tI38 kI39 tI39 kI40 tI40 kI41 tI41 kI42 tI42 kI43 tI43 kI44 tI44 kI45 tI45 kI46 tI46 kI47 tI47 kI48 tI48 hFPR hFWR hFSR
  refine lv_iload_n hx hb dX11_lose_0 rfl (lv_at hl 1 rfl) ?_
  refine lv_iconst (v := 0) hx hb dX11_lose_1 (by decide) ?_
  refine lv_aload_n hx hb dX11_lose_2 rfl (lv_at hl 0 rfl) ?_
  refine x_get (ref := "NoteHouseModel") F hP kI0 rfl (fun _ h => List.mem_cons_of_mem _ (List.mem_append_right _ (h))) 15 (Nat.le_of_ble_eq_true rfl) (List.mem_cons_of_mem _ (List.mem_append_left _ (List.mem_of_getElem? (i := 0) rfl))) rfl rfl dX11_lose_3 ?_
  refine lv_iconst (v := 1) hx hb dX11_lose_6 (by decide) ?_
  refine lv_isub hx hb dX11_lose_7 ?_
  refine x_callS (n := 3) (As := [.int x1, .int 0, .int ((nI ac) - 1)]) (rest := []) F hP hD hS (g_in l D cy sk sv w x1 0 ((nI ac) - 1)) gX11_lose_X11_in rfl (by decide +kernel) ⟨(Nat.le_of_ble_eq_true rfl), (Nat.le_of_ble_eq_true rfl)⟩ rfl hl.1 (Nat.le_of_ble_eq_true rfl) dX11_lose_8 rfl ⟨(Nat.le_of_ble_eq_true rfl), (Nat.le_of_ble_eq_true rfl)⟩ (fun v2 w3 hp1 H locs hP hD hS => ?_)
  obtain ⟨rfl, rfl⟩ := hp1
  refine W.eq (g2 := F0 m 11 ls [.int (wi x1 0 ((nI ac) - 1))]) rfl (W.widen (k := 0) (n := 0) (Nat.le_of_ble_eq_true rfl) (Nat.le_of_ble_eq_true rfl) ?_)
  refine lv_if_eq (tgt := 36) hx hb dX11_lose_11 (by decide) (fun c_4 => ?_) (fun c_4 => ?_)
  · refine lv_iconst (v := 0) hx hb dX11_lose_36 (by decide) ?_
    exact y_ir K hP hD hS (Nat.le_of_ble_eq_true rfl) (Nat.le_of_ble_eq_true rfl) (ty := .boolean) rfl rfl dX11_lose_37 (⟨⟨_, rfl⟩, ⟨wd_kp.rf, hIM0⟩⟩)
  · obtain ⟨kk, hkk, rfl⟩ := pb_i (by omega) c_4
    have clkk : (nI kk).toNatClampNeg = kk := nI_clamp (by omega)
    refine lv_aload_n hx hb dX11_lose_14 rfl (lv_at hl 0 rfl) ?_
    refine x_get (ref := "NoteHouseModel") F hP kI0 rfl (fun _ h => List.mem_cons_of_mem _ (List.mem_append_right _ (h))) 20 (Nat.le_of_ble_eq_true rfl) (List.mem_cons_of_mem _ (List.mem_append_left _ (List.mem_of_getElem? (i := 1) rfl))) rfl rfl dX11_lose_15 ?_
    refine lv_iload_n hx hb dX11_lose_18 rfl (lv_at hl 1 rfl) ?_
    refine x_zald F hP kI16 (vp_in_nI (n := kk) (N := 60) (by omega) (by decide)) dX11_lose_19 ?_
    refine lv_if_ne (tgt := 36) hx hb dX11_lose_20 (by decide) (fun c_5 => ?_) (fun c_5 => ?_)
    · refine lv_iconst (v := 0) hx hb dX11_lose_36 (by decide) ?_
      exact y_ir K hP hD hS (Nat.le_of_ble_eq_true rfl) (Nat.le_of_ble_eq_true rfl) (ty := .boolean) rfl rfl dX11_lose_37 (⟨⟨_, rfl⟩, ⟨wd_kp.rf, hIM0⟩⟩)
    · refine lv_aload_n hx hb dX11_lose_23 rfl (lv_at hl 0 rfl) ?_
      refine x_get (ref := "NoteHouseModel") F hP kI0 rfl (fun _ h => List.mem_cons_of_mem _ (List.mem_append_right _ (h))) 19 (Nat.le_of_ble_eq_true rfl) (List.mem_cons_of_mem _ (List.mem_append_left _ (List.mem_of_getElem? (i := 2) rfl))) rfl rfl dX11_lose_24 ?_
      refine lv_iload_n hx hb dX11_lose_27 rfl (lv_at hl 1 rfl) ?_
      refine x_iald F hP kI15 (vp_in_nI (n := kk) (N := 60) (by omega) (by decide)) dX11_lose_28 ?_
      refine lv_aload_n hx hb dX11_lose_29 rfl (lv_at hl 0 rfl) ?_
      refine x_get (ref := "NoteHouseModel") F hP kI0 rfl (fun _ h => List.mem_cons_of_mem _ (List.mem_append_right _ (h))) 1 (Nat.le_of_ble_eq_true rfl) (List.mem_cons_of_mem _ (List.mem_append_left _ (List.mem_of_getElem? (i := 3) rfl))) rfl rfl dX11_lose_30 ?_
      refine lv_icmp_gt (tgt := 38) hx hb dX11_lose_33 (by decide) (fun c_6 => ?_) (fun c_6 => ?_)
      · refine lv_aload_n hx hb dX11_lose_38 rfl (lv_at hl 0 rfl) ?_
        refine x_get (ref := "NoteHouseModel") F hP kI0 rfl (fun _ h => List.mem_cons_of_mem _ (List.mem_append_right _ (h))) 20 (Nat.le_of_ble_eq_true rfl) (List.mem_cons_of_mem _ (List.mem_append_left _ (List.mem_of_getElem? (i := 1) rfl))) rfl rfl dX11_lose_39 ?_
        refine lv_iload_n hx hb dX11_lose_42 rfl (lv_at hl 1 rfl) ?_
        refine lv_iconst (v := 1) hx hb dX11_lose_43 (by decide) ?_
        refine y_zast F hP hD hS kI16 (vp_in_nI (n := kk) (N := 60) (by omega) (by decide)) dX11_lose_44 (fun w7 ew8 H locs hP hD hS => ?_)
        have k9 := wd_at.pt ew8 kI0 (tg_ne tI0 tI16 (by decide))
        have k10 := wd_at.pt ew8 kI1 (tg_ne tI1 tI16 (by decide))
        have k11 := wd_at.pt ew8 kI2 (tg_ne tI2 tI16 (by decide))
        have k12 := wd_at.pt ew8 kI3 (tg_ne tI3 tI16 (by decide))
        have k13 := wd_at.pt ew8 kI4 (tg_ne tI4 tI16 (by decide))
        have k14 := wd_at.pt ew8 kI5 (tg_ne tI5 tI16 (by decide))
        have k15 := wd_at.pt ew8 kI6 (tg_ne tI6 tI16 (by decide))
        have k16 := wd_at.pt ew8 kI7 (tg_ne tI7 tI16 (by decide))
        have k17 := wd_at.pt ew8 kI8 (tg_ne tI8 tI16 (by decide))
        have k18 := wd_at.pt ew8 kI9 (tg_ne tI9 tI16 (by decide))
        have k19 := wd_at.pt ew8 kI10 (tg_ne tI10 tI16 (by decide))
        have k20 := wd_at.pt ew8 kI11 (tg_ne tI11 tI16 (by decide))
        have k21 := wd_at.pt ew8 kI12 (tg_ne tI12 tI16 (by decide))
        have k22 := wd_at.pt ew8 kI13 (tg_ne tI13 tI16 (by decide))
        have k23 := wd_at.pt ew8 kI14 (tg_ne tI14 tI16 (by decide))
        have k24 := wd_at.pt ew8 kI15 (tg_ne tI15 tI16 (by decide))
        have k25 : wd_at w7 m20 (.inl (cy 4, 60, .inl (upd f20 (nI kk).toNatClampNeg (vp_nar .boolean 1)))) := wd_at.ps ew8 kI16
        have k26 := wd_at.pt ew8 kI17 (tg_ne tI17 tI16 (by decide))
        have k27 := wd_at.pt ew8 kI18 (tg_ne tI18 tI16 (by decide))
        have k28 := wd_at.pt ew8 kI19 (tg_ne tI19 tI16 (by decide))
        have k29 := wd_at.pt ew8 kI20 (tg_ne tI20 tI16 (by decide))
        have k30 := wd_at.pt ew8 kI21 (tg_ne tI21 tI16 (by decide))
        have k31 := wd_at.pt ew8 kI22 (tg_ne tI22 tI16 (by decide))
        have k32 := wd_at.pt ew8 kI23 (tg_ne tI23 tI16 (by decide))
        have k33 := wd_at.pt ew8 kI24 (tg_ne tI24 tI16 (by decide))
        have k34 := wd_at.pt ew8 kI25 (tg_ne tI25 tI16 (by decide))
        have k35 := wd_at.pt ew8 kI26 (tg_ne tI26 tI16 (by decide))
        have k36 := wd_at.pt ew8 kI27 (tg_ne tI27 tI16 (by decide))
        have k37 := wd_at.pt ew8 kI28 (tg_ne tI28 tI16 (by decide))
        have k38 := wd_at.pt ew8 kI29 (tg_ne tI29 tI16 (by decide))
        have k39 := wd_at.pt ew8 kI30 (tg_ne tI30 tI16 (by decide))
        have k40 := wd_at.pt ew8 kI31 (tg_ne tI31 tI16 (by decide))
        have k41 := wd_at.pt ew8 kI32 (tg_ne tI32 tI16 (by decide))
        have k42 := wd_at.pt ew8 kI33 (tg_ne tI33 tI16 (by decide))
        have k43 := wd_at.pt ew8 kI34 (tg_ne tI34 tI16 (by decide))
        have k44 := wd_at.pt ew8 kI35 (tg_ne tI35 tI16 (by decide))
        have k45 := wd_at.pt ew8 kI36 (tg_ne tI36 tI16 (by decide))
        have k46 := wd_at.pt ew8 kI37 (tg_ne tI37 tI16 (by decide))
        have k47 := wd_at.pt ew8 kI38 (tg_ne tI38 tI16 (by decide))
        have k48 := wd_at.pt ew8 kI39 (tg_ne tI39 tI16 (by decide))
        have k49 := wd_at.pt ew8 kI40 (tg_ne tI40 tI16 (by decide))
        have k50 := wd_at.pt ew8 kI41 (tg_ne tI41 tI16 (by decide))
        have k51 := wd_at.pt ew8 kI42 (tg_ne tI42 tI16 (by decide))
        have k52 := wd_at.pt ew8 kI43 (tg_ne tI43 tI16 (by decide))
        have k53 := wd_at.pt ew8 kI44 (tg_ne tI44 tI16 (by decide))
        have k54 := wd_at.pt ew8 kI45 (tg_ne tI45 tI16 (by decide))
        have k55 := wd_at.pt ew8 kI46 (tg_ne tI46 tI16 (by decide))
        have k56 := wd_at.pt ew8 kI47 (tg_ne tI47 tI16 (by decide))
        have k57 := wd_at.pt ew8 kI48 (tg_ne tI48 tI16 (by decide))
        have fm58 : ∀ k9, k9 < 12 → qp k9 = some (pr k9) ∧ wd_at w7 (pr k9) (.inl (cy 2, 12, .inl (fp k9))) ∧ tg (pr k9) = 11000 + k9 := fun k9 hi9 => ⟨(hFPR k9 hi9).1, wd_at.pt ew8 (hFPR k9 hi9).2.1 (tg_ne (hFPR k9 hi9).2.2 tI16 (tnA (show 10120 < 11000 by decide))), (hFPR k9 hi9).2.2⟩
        have fm59 : ∀ k9, k9 < 12 → qw k9 = some (wr k9) ∧ wd_at w7 (wr k9) (.inl (cy 2, 12, .inl (fw k9))) ∧ tg (wr k9) = 12000 + k9 := fun k9 hi9 => ⟨(hFWR k9 hi9).1, wd_at.pt ew8 (hFWR k9 hi9).2.1 (tg_ne (hFWR k9 hi9).2.2 tI16 (tnA (show 10120 < 12000 by decide))), (hFWR k9 hi9).2.2⟩
        have fm60 : ∀ k9, k9 < 60 → qs k9 = some (sr k9) ∧ wd_at w7 (sr k9) (.inl (cy 2, 12, .inl (fs k9))) ∧ tg (sr k9) = 13000 + k9 := fun k9 hi9 => ⟨(hFSR k9 hi9).1, wd_at.pt ew8 (hFSR k9 hi9).2.1 (tg_ne (hFSR k9 hi9).2.2 tI16 (tnA (show 10120 < 13000 by decide))), (hFSR k9 hi9).2.2⟩
        have kp61 := kp0.put ew8 (tgT tI16 (by decide))
        refine lv_iconst (v := 1) hx hb dX11_lose_45 (by decide) ?_
        have hX62 : IM cy tg y td pc ac sc ln se plv w7 := IM.mk m2 m3 m4 m5 m6 m8 m9 m10 m11 m12 m13 m14 m17 m18 m19 m20 m21 m22 m23 m24 m29 m30 m31 m32 m33 m34 m35 m36 m37 m39 m40 m41 m42 m43 m44 m45 m46 m47 m48 m49 m51 m52 m53 m54 m56 m57 m58 m59 sh gf v0 v26 v27 v28 v50 f4 f5 f6 f8 f9 f10 f11 f12 f13 f14 f17 f18 f19 (upd f20 (nI kk).toNatClampNeg (vp_nar .boolean 1)) f21 f22 f24 f29 f30 f31 f32 f33 f34 f35 f36 f37 f39 f40 f41 f42 f43 f44 f45 f46 f47 f48 f49 f51 f52 f53 f54 f56 f57 f58 f59 qp pr fp qw wr fw qs sr fs (by omega) (by omega) (by omega) (by omega) (by omega) (by omega) hrl hc ht hp hso hlo k9 tI0 k10 tI1 k11 tI2 k12 tI3 k13 tI4 k14 tI5 k15 tI6 k16 tI7 k17 tI8 k18 tI9 k19 tI10 k20 tI11 k21 tI12 k22 tI13 k23 tI14 k24 tI15 k25 tI16 k26 tI17 k27 tI18 k28 tI19 k29 tI20 k30 tI21 k31 tI22 k32 tI23 k33 tI24 k34 tI25 k35 tI26 k36 tI27 k37 tI28 k38 tI29 k39 tI30 k40 tI31 k41 tI32 k42 tI33 k43 tI34 k44 tI35 k45 tI36 k46 tI37 k47 tI38 k48 tI39 k49 tI40 k50 tI41 k51 tI42 k52 tI43 k53 tI44 k54 tI45 k55 tI46 k56 tI47 k57 tI48 fm58 fm59 fm60
        exact y_ir K hP hD hS (Nat.le_of_ble_eq_true rfl) (Nat.le_of_ble_eq_true rfl) (ty := .boolean) rfl rfl dX11_lose_46 (⟨⟨_, rfl⟩, ⟨kp61, hX62⟩⟩)
      · refine lv_iconst (v := 0) hx hb dX11_lose_36 (by decide) ?_
        exact y_ir K hP hD hS (Nat.le_of_ble_eq_true rfl) (Nat.le_of_ble_eq_true rfl) (ty := .boolean) rfl rfl dX11_lose_37 (⟨⟨_, rfl⟩, ⟨wd_kp.rf, hIM0⟩⟩)
