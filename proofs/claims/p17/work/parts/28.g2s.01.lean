set_option maxHeartbeats 4000000 in
set_option maxRecDepth 100000 in
theorem M_advise (l : Launch) (D : va_G) (cy : Nat → ClassId) (sk sv : Nat → Nat) (w : Wd) (tg : Nat → Nat) (y : Nat) (td : Int32) (pc ac sc ln : Nat) (se plv : Nat → Int32) (Pm Wm : Nat → Nat → Nat) (av1 av2 av3 : Nat → Int32) (zC : Nat → Nat → Int32) (tB lb : Nat → Int32) (rt : Nat → Nat) (tT : Nat → Nat → Nat → Int32) (av0 sp0 sp1 pwo phd pgd pdy pno ptp co ra : Nat → Int32) (sh : Nat) (hto : Nat → Nat) (hpp hle ham hhh hdd hru hde hcp hld : Nat → Int32) (x1 x2 : Int32) (hIM0 : IM cy tg y td pc ac sc ln se plv Pm Wm av1 av2 av3 zC tB lb rt tT av0 sp0 sp1 pwo phd pgd pdy pno ptp co ra sh hto hpp hle ham hhh hdd hru hde hcp hld w) : Ct l D cy sk sv yX11_advise wsX11_advise ({ frames := 1, cells := 0, slots := 0, locals := 26 }) [.ref y, .int x1, .int x2] w (fun v w1 => v = some (.int (advA pc ac x1 x2)) ∧ MP cy tg y td pc (advC pc ac x1 x2) sc ln se plv Pm Wm (advU pc ac av1 x1 x2 x2) (advU pc ac av2 x1 x2 (lday (nws 0 Pm Wm) td 0 x2.toNatClampNeg)) (advU pc ac av3 x1 x2 0) zC tB lb rt tT (advU pc ac av0 x1 x2 x1) sp0 sp1 pwo phd pgd pdy pno ptp co ra sh hto hpp hle ham hhh hdd hru hde hcp hld w w1) := by
  refine Ct.by (cc := cX11_advise) (maxL := 3) (ret := (some .int)) (by decide +kernel) rfl (Nat.le_of_ble_eq_true rfl) ?_
  intro p e s m args below meth c A Q F hnm K ls hl
  have F : wd_Fx p s m args meth c cX11_advise 3 wsX11_advise RX11 D cy sk sv A := F
  have hl : lv_has ls 3 [(0, .ref y), (1, .int x1), (2, .int x2)] := hl
  have hx := F.1.1
  have hb := F.1.2.1
  have hown := F.1.2.2.2.1
  have hts := F.1.2.2.2.2
  intro H locs hP hD hS
  have kp0 : wd_kp (fun b => 10000 ≤ tg b) w w := wd_kp.rf
  refine hIM0 _ ?_
  intro m2 m3 m4 m5 m6 m8 m9 m10 m11 m12 m13 m14 m17 m18 m19 m20 m21 m22 m23 m24 m29 m30 m31 m32 m33 m34 m35 m36 m37 m39 m40 m41 m42 m43 m44 m45 m46 m47 m48 m49 m51 m52 m53 m54 m56 m57 m58 m59 gf v0 v26 v27 v28 v50 f4 f5 f6 f8 f9 f10 f11 f12 f13 f14 f17 f18 f19 f20 f21 f22 f29 f30 f31 f32 f33 f34 f35 f36 f37 f39 f40 f41 f42 f43 f44 f45 f46 f47 f48 f49 f51 f52 f53 f54 f56 f57 f58 f59 qp pr fp qw wr fw qs sr fs hp90 hp91 hp92 hp93 hp94 hp95 hrl hc ht hp hso hlo htd hmp hmw hav hzm hlb hmt0 hav0 hs0 hs1 hco hra hpp9 hsh9 kI0 tI0 kI1 tI1 kI2 tI2 kI3 tI3 kI4 tI4 kI5 tI5 kI6 tI6 kI7 tI7 kI8 tI8 kI9 tI9 kI10 tI10 kI11 tI11 kI12 tI12 kI13 tI13 kI14 tI14 kI15 tI15 kI16 tI16 kI17 tI17 kI18 tI18 kI19 tI19 kI20 tI20 kI21 tI21 kI22 tI22 kI23 tI23 kI24 tI24 kI25 tI25 kI26 tI26 kI27 tI27 kI28 tI28 kI29 tI29 kI30 tI30 kI31 tI31 kI32 tI32 kI33 tI33 kI34 tI34 kI35 tI35 kI36 tI36 kI37 tI37 kI38 tI38 kI39 tI39 kI40 tI40 kI41 tI41 kI42 tI42 kI43 tI43 kI44 tI44 kI45 tI45 kI46 tI46 kI47 tI47 kI48 tI48 hFPR hFWR hFSR
  refine lv_aload_n hx hb dX11_advise_0 rfl (lv_at hl 0 rfl) ?_
  refine x_get (ref := "NoteHouseModel") F hP kI0 rfl (fun _ h => List.mem_cons_of_mem _ (List.mem_append_right _ (h))) 15 (Nat.le_of_ble_eq_true rfl) (List.mem_cons_of_mem _ (List.mem_append_left _ (List.mem_of_getElem? (i := 0) rfl))) rfl rfl dX11_advise_1 ?_
  refine lv_bipush (v := 60) hx hb dX11_advise_4 (by decide) ?_
  refine lv_icmp_eq (tgt := 30) hx hb dX11_advise_6 (by decide) (fun c_1 => ?_) (fun c_1 => ?_)
  · have h60 : (60 : Int32) ≤ nI ac := by rw [c_1]; exact Int32.le_refl _
    refine lv_iconst (v := (-1)) hx hb dX11_advise_30 (by decide) ?_
    exact y_ir K hP hD hS (Nat.le_of_ble_eq_true rfl) (Nat.le_of_ble_eq_true rfl) (ty := .int) rfl rfl dX11_advise_31 (by refine ⟨(congrArg (fun z => some (Value.int z)) (show (-1) = advA pc ac x1 x2 from by simp [advA, advC, advU, c_1, h60])), ?_⟩; rw [show advC pc ac x1 x2 = ac from by simp [advA, advC, advU, c_1, h60], show advU pc ac av0 x1 x2 x1 = av0 from by simp [advA, advC, advU, c_1, h60], show advU pc ac av1 x1 x2 x2 = av1 from by simp [advA, advC, advU, c_1, h60], show advU pc ac av2 x1 x2 (lday (nws 0 Pm Wm) td 0 x2.toNatClampNeg) = av2 from by simp [advA, advC, advU, c_1, h60], show advU pc ac av3 x1 x2 0 = av3 from by simp [advA, advC, advU, c_1, h60]]; exact ⟨wd_kp.rf, hIM0⟩)
  · have hb_ac : ac < 60 := by have h9 : ¬ ac = 60 := fun q => c_1 (by rw [q]; rfl); omega
    have h60 : ¬ (60 : Int32) ≤ nI ac := fun q => absurd ((nI_leI (a := 60) (b := ac) (by omega) (by omega)).mp q) (by omega)
    refine lv_iload_n hx hb dX11_advise_9 rfl (lv_at hl 1 rfl) ?_
    refine lv_iconst (v := 0) hx hb dX11_advise_10 (by decide) ?_
    refine lv_aload_n hx hb dX11_advise_11 rfl (lv_at hl 0 rfl) ?_
    refine x_get (ref := "NoteHouseModel") F hP kI0 rfl (fun _ h => List.mem_cons_of_mem _ (List.mem_append_right _ (h))) 7 (Nat.le_of_ble_eq_true rfl) (List.mem_cons_of_mem _ (List.mem_append_left _ (List.mem_of_getElem? (i := 1) rfl))) rfl rfl dX11_advise_12 ?_
    refine lv_iconst (v := 1) hx hb dX11_advise_15 (by decide) ?_
    refine lv_isub hx hb dX11_advise_16 ?_
    refine x_callS (n := 3) (As := [.int x1, .int 0, .int ((nI pc) - 1)]) (rest := []) F hP hD hS (g_in l D cy sk sv w x1 0 ((nI pc) - 1)) gX11_advise_X11_in rfl (by decide +kernel) ⟨(Nat.le_of_ble_eq_true rfl), (Nat.le_of_ble_eq_true rfl)⟩ rfl hl.1 (Nat.le_of_ble_eq_true rfl) dX11_advise_17 rfl ⟨(Nat.le_of_ble_eq_true rfl), (Nat.le_of_ble_eq_true rfl)⟩ (fun v3 w4 hp2 H locs hP hD hS => ?_)
    obtain ⟨rfl, rfl⟩ := hp2
    refine W.eq (g2 := F0 m 20 ls [.int (wi x1 0 ((nI pc) - 1))]) rfl (W.widen (k := 0) (n := 0) (Nat.le_of_ble_eq_true rfl) (Nat.le_of_ble_eq_true rfl) ?_)
    refine lv_if_eq (tgt := 30) hx hb dX11_advise_20 (by decide) (fun c_5 => ?_) (fun c_5 => ?_)
    · refine lv_iconst (v := (-1)) hx hb dX11_advise_30 (by decide) ?_
      exact y_ir K hP hD hS (Nat.le_of_ble_eq_true rfl) (Nat.le_of_ble_eq_true rfl) (ty := .int) rfl rfl dX11_advise_31 (by refine ⟨(congrArg (fun z => some (Value.int z)) (show (-1) = advA pc ac x1 x2 from by simp [advA, advC, advU, c_1, h60, c_5])), ?_⟩; rw [show advC pc ac x1 x2 = ac from by simp [advA, advC, advU, c_1, h60, c_5], show advU pc ac av0 x1 x2 x1 = av0 from by simp [advA, advC, advU, c_1, h60, c_5], show advU pc ac av1 x1 x2 x2 = av1 from by simp [advA, advC, advU, c_1, h60, c_5], show advU pc ac av2 x1 x2 (lday (nws 0 Pm Wm) td 0 x2.toNatClampNeg) = av2 from by simp [advA, advC, advU, c_1, h60, c_5], show advU pc ac av3 x1 x2 0 = av3 from by simp [advA, advC, advU, c_1, h60, c_5]]; exact ⟨wd_kp.rf, hIM0⟩)
    · obtain ⟨pq, hpq, rfl⟩ := pb_i (by omega) c_5
      have clpq : (nI pq).toNatClampNeg = pq := nI_clamp (by omega)
      refine lv_iload_n hx hb dX11_advise_23 rfl (lv_at hl 2 rfl) ?_
      refine x_callS (n := 1) (As := [.int x2]) (rest := []) F hP hD hS (g_mTown l D cy sk sv w x2) gX11_advise_X11_isTown rfl (by decide +kernel) ⟨(Nat.le_of_ble_eq_true rfl), (Nat.le_of_ble_eq_true rfl)⟩ rfl hl.1 (Nat.le_of_ble_eq_true rfl) dX11_advise_24 rfl ⟨(Nat.le_of_ble_eq_true rfl), (Nat.le_of_ble_eq_true rfl)⟩ (fun v7 w8 hp6 H locs hP hD hS => ?_)
      obtain ⟨rfl, rfl⟩ := hp6
      refine W.eq (g2 := F0 m 27 ls [.int (wi x2 0 11)]) rfl (W.widen (k := 0) (n := 0) (Nat.le_of_ble_eq_true rfl) (Nat.le_of_ble_eq_true rfl) ?_)
      refine lv_if_ne (tgt := 32) hx hb dX11_advise_27 (by decide) (fun c_9 => ?_) (fun c_9 => ?_)
      · obtain ⟨tw, htw, rfl, cltw⟩ := wi_t c_9
        refine lv_aload_n hx hb dX11_advise_32 rfl (lv_at hl 0 rfl) ?_
        refine lv_iconst (v := 0) hx hb dX11_advise_33 (by decide) ?_
        refine lv_iconst (v := 0) hx hb dX11_advise_34 (by decide) ?_
        refine x_callV (n := 2) (As := [.int 0, .int 0]) (rest := []) F hP hD hS (m_sends l D cy sk sv w tg y m2 m3 m4 m5 m6 m8 m9 m10 m11 m12 m13 m14 m17 m18 m19 m20 m21 m22 m23 m24 m29 m30 m31 m32 m33 m34 m35 m36 m37 m39 m40 m41 m42 m43 m44 m45 m46 m47 m48 m49 m51 m52 m53 m54 m56 m57 m58 m59 pc ac sc ln sh gf v0 td v26 v27 v28 v50 f6 qp pr fp qw wr fw 0 0 Pm Wm kI0 kI5 kI1 kI2 hFPR hFWR (fun b => b = m6) rfl tI0 tI5 tI1 tI2 (by omega) (by assumption) (by assumption)) gX11_advise_X11_sends rfl rfl (by decide +kernel) ⟨(Nat.le_of_ble_eq_true rfl), (Nat.le_of_ble_eq_true rfl)⟩ rfl hl.1 (Nat.le_of_ble_eq_true rfl) kI0 rfl dX11_advise_35 rfl ⟨(Nat.le_of_ble_eq_true rfl), (Nat.le_of_ble_eq_true rfl)⟩ (fun v11 w12 hp10 H locs hP hD hS => ?_)
        obtain ⟨gx13, rfl, hz14, kq16, k15⟩ := hp10
        have k17 := kq16.2 _ _ kI0 (tg_ne tI0 tI5 (by decide))
        have k18 := kq16.2 _ _ kI1 (tg_ne tI1 tI5 (by decide))
        have k19 := kq16.2 _ _ kI2 (tg_ne tI2 tI5 (by decide))
        have k20 := kq16.2 _ _ kI3 (tg_ne tI3 tI5 (by decide))
        have k21 := kq16.2 _ _ kI4 (tg_ne tI4 tI5 (by decide))
        have k22 := kq16.2 _ _ kI6 (tg_ne tI6 tI5 (by decide))
        have k23 := kq16.2 _ _ kI7 (tg_ne tI7 tI5 (by decide))
        have k24 := kq16.2 _ _ kI8 (tg_ne tI8 tI5 (by decide))
        have k25 := kq16.2 _ _ kI9 (tg_ne tI9 tI5 (by decide))
        have k26 := kq16.2 _ _ kI10 (tg_ne tI10 tI5 (by decide))
        have k27 := kq16.2 _ _ kI11 (tg_ne tI11 tI5 (by decide))
        have k28 := kq16.2 _ _ kI12 (tg_ne tI12 tI5 (by decide))
        have k29 := kq16.2 _ _ kI13 (tg_ne tI13 tI5 (by decide))
        have k30 := kq16.2 _ _ kI14 (tg_ne tI14 tI5 (by decide))
        have k31 := kq16.2 _ _ kI15 (tg_ne tI15 tI5 (by decide))
        have k32 := kq16.2 _ _ kI16 (tg_ne tI16 tI5 (by decide))
        have k33 := kq16.2 _ _ kI17 (tg_ne tI17 tI5 (by decide))
        have k34 := kq16.2 _ _ kI18 (tg_ne tI18 tI5 (by decide))
        have k35 := kq16.2 _ _ kI19 (tg_ne tI19 tI5 (by decide))
        have k36 := kq16.2 _ _ kI20 (tg_ne tI20 tI5 (by decide))
        have k37 := kq16.2 _ _ kI21 (tg_ne tI21 tI5 (by decide))
        have k38 := kq16.2 _ _ kI22 (tg_ne tI22 tI5 (by decide))
        have k39 := kq16.2 _ _ kI23 (tg_ne tI23 tI5 (by decide))
        have k40 := kq16.2 _ _ kI24 (tg_ne tI24 tI5 (by decide))
        have k41 := kq16.2 _ _ kI25 (tg_ne tI25 tI5 (by decide))
        have k42 := kq16.2 _ _ kI26 (tg_ne tI26 tI5 (by decide))
        have k43 := kq16.2 _ _ kI27 (tg_ne tI27 tI5 (by decide))
        have k44 := kq16.2 _ _ kI28 (tg_ne tI28 tI5 (by decide))
        have k45 := kq16.2 _ _ kI29 (tg_ne tI29 tI5 (by decide))
        have k46 := kq16.2 _ _ kI30 (tg_ne tI30 tI5 (by decide))
        have k47 := kq16.2 _ _ kI31 (tg_ne tI31 tI5 (by decide))
        have k48 := kq16.2 _ _ kI32 (tg_ne tI32 tI5 (by decide))
        have k49 := kq16.2 _ _ kI33 (tg_ne tI33 tI5 (by decide))
        have k50 := kq16.2 _ _ kI34 (tg_ne tI34 tI5 (by decide))
        have k51 := kq16.2 _ _ kI35 (tg_ne tI35 tI5 (by decide))
        have k52 := kq16.2 _ _ kI36 (tg_ne tI36 tI5 (by decide))
        have k53 := kq16.2 _ _ kI37 (tg_ne tI37 tI5 (by decide))
        have k54 := kq16.2 _ _ kI38 (tg_ne tI38 tI5 (by decide))
        have k55 := kq16.2 _ _ kI39 (tg_ne tI39 tI5 (by decide))
        have k56 := kq16.2 _ _ kI40 (tg_ne tI40 tI5 (by decide))
        have k57 := kq16.2 _ _ kI41 (tg_ne tI41 tI5 (by decide))
        have k58 := kq16.2 _ _ kI42 (tg_ne tI42 tI5 (by decide))
        have k59 := kq16.2 _ _ kI43 (tg_ne tI43 tI5 (by decide))
        have k60 := kq16.2 _ _ kI44 (tg_ne tI44 tI5 (by decide))
        have k61 := kq16.2 _ _ kI45 (tg_ne tI45 tI5 (by decide))
        have k62 := kq16.2 _ _ kI46 (tg_ne tI46 tI5 (by decide))
        have k63 := kq16.2 _ _ kI47 (tg_ne tI47 tI5 (by decide))
        have k64 := kq16.2 _ _ kI48 (tg_ne tI48 tI5 (by decide))
        have fm65 : ∀ k9, k9 < 12 → qp k9 = some (pr k9) ∧ wd_at w12 (pr k9) (.inl (cy 2, 12, .inl (fp k9))) ∧ tg (pr k9) = 11000 + k9 := fun k9 hi9 => ⟨(hFPR k9 hi9).1, kq16.2 _ _ (hFPR k9 hi9).2.1 (tg_ne (hFPR k9 hi9).2.2 tI5 (tqA (show 10106 < 11000 by decide))), (hFPR k9 hi9).2.2⟩
        have fm66 : ∀ k9, k9 < 12 → qw k9 = some (wr k9) ∧ wd_at w12 (wr k9) (.inl (cy 2, 12, .inl (fw k9))) ∧ tg (wr k9) = 12000 + k9 := fun k9 hi9 => ⟨(hFWR k9 hi9).1, kq16.2 _ _ (hFWR k9 hi9).2.1 (tg_ne (hFWR k9 hi9).2.2 tI5 (tqA (show 10106 < 12000 by decide))), (hFWR k9 hi9).2.2⟩
        have fm67 : ∀ k9, k9 < 60 → qs k9 = some (sr k9) ∧ wd_at w12 (sr k9) (.inl (cy 2, 12, .inl (fs k9))) ∧ tg (sr k9) = 13000 + k9 := fun k9 hi9 => ⟨(hFSR k9 hi9).1, kq16.2 _ _ (hFSR k9 hi9).2.1 (tg_ne (hFSR k9 hi9).2.2 tI5 (tqA (show 10106 < 13000 by decide))), (hFSR k9 hi9).2.2⟩
        have kp68 := kp0.tr kq16 (fun b9 hm q9 => (fun q9 => q9 ▸ (tgT tI5 (by decide))) q9)
        refine W.eq (g2 := F0 m 38 ls []) rfl (W.widen (k := 0) (n := 0) (Nat.le_of_ble_eq_true rfl) (Nat.le_of_ble_eq_true rfl) ?_)
        refine lv_aload_n hx hb dX11_advise_38 rfl (lv_at hl 0 rfl) ?_
        refine x_get (ref := "NoteHouseModel") F hP k17 rfl (fun _ h => List.mem_cons_of_mem _ (List.mem_append_right _ (h))) 17 (Nat.le_of_ble_eq_true rfl) (List.mem_cons_of_mem _ (List.mem_append_left _ (List.mem_of_getElem? (i := 2) rfl))) rfl rfl dX11_advise_39 ?_
        refine lv_aload_n hx hb dX11_advise_42 rfl (lv_at hl 0 rfl) ?_
        refine x_get (ref := "NoteHouseModel") F hP k17 rfl (fun _ h => List.mem_cons_of_mem _ (List.mem_append_right _ (h))) 15 (Nat.le_of_ble_eq_true rfl) (List.mem_cons_of_mem _ (List.mem_append_left _ (List.mem_of_getElem? (i := 0) rfl))) rfl rfl dX11_advise_43 ?_
        refine lv_iload_n hx hb dX11_advise_46 rfl (lv_at hl 1 rfl) ?_
        refine y_iast F hP hD hS k29 (vp_in_nI (n := ac) (N := 60) (by omega) (by decide)) dX11_advise_47 (fun w69 ew70 H locs hP hD hS => ?_)
        have k71 := wd_at.pt ew70 k17 (tg_ne tI0 tI13 (by decide))
        have k72 := wd_at.pt ew70 k18 (tg_ne tI1 tI13 (by decide))
        have k73 := wd_at.pt ew70 k19 (tg_ne tI2 tI13 (by decide))
        have k74 := wd_at.pt ew70 k20 (tg_ne tI3 tI13 (by decide))
        have k75 := wd_at.pt ew70 k21 (tg_ne tI4 tI13 (by decide))
        have k76 := wd_at.pt ew70 k15 (tg_ne tI5 tI13 (by decide))
        have k77 := wd_at.pt ew70 k22 (tg_ne tI6 tI13 (by decide))
        have k78 := wd_at.pt ew70 k23 (tg_ne tI7 tI13 (by decide))
        have k79 := wd_at.pt ew70 k24 (tg_ne tI8 tI13 (by decide))
        have k80 := wd_at.pt ew70 k25 (tg_ne tI9 tI13 (by decide))
        have k81 := wd_at.pt ew70 k26 (tg_ne tI10 tI13 (by decide))
        have k82 := wd_at.pt ew70 k27 (tg_ne tI11 tI13 (by decide))
        have k83 := wd_at.pt ew70 k28 (tg_ne tI12 tI13 (by decide))
        have k84 : wd_at w69 m17 (.inl (cy 2, 60, .inl (upd f17 (nI ac).toNatClampNeg (nI pq)))) := wd_at.ps ew70 k29
        have k85 := wd_at.pt ew70 k30 (tg_ne tI14 tI13 (by decide))
        have k86 := wd_at.pt ew70 k31 (tg_ne tI15 tI13 (by decide))
        have k87 := wd_at.pt ew70 k32 (tg_ne tI16 tI13 (by decide))
        have k88 := wd_at.pt ew70 k33 (tg_ne tI17 tI13 (by decide))
        have k89 := wd_at.pt ew70 k34 (tg_ne tI18 tI13 (by decide))
        have k90 := wd_at.pt ew70 k35 (tg_ne tI19 tI13 (by decide))
        have k91 := wd_at.pt ew70 k36 (tg_ne tI20 tI13 (by decide))
        have k92 := wd_at.pt ew70 k37 (tg_ne tI21 tI13 (by decide))
        have k93 := wd_at.pt ew70 k38 (tg_ne tI22 tI13 (by decide))
        have k94 := wd_at.pt ew70 k39 (tg_ne tI23 tI13 (by decide))
        have k95 := wd_at.pt ew70 k40 (tg_ne tI24 tI13 (by decide))
        have k96 := wd_at.pt ew70 k41 (tg_ne tI25 tI13 (by decide))
        have k97 := wd_at.pt ew70 k42 (tg_ne tI26 tI13 (by decide))
        have k98 := wd_at.pt ew70 k43 (tg_ne tI27 tI13 (by decide))
        have k99 := wd_at.pt ew70 k44 (tg_ne tI28 tI13 (by decide))
        have k100 := wd_at.pt ew70 k45 (tg_ne tI29 tI13 (by decide))
        have k101 := wd_at.pt ew70 k46 (tg_ne tI30 tI13 (by decide))
        have k102 := wd_at.pt ew70 k47 (tg_ne tI31 tI13 (by decide))
        have k103 := wd_at.pt ew70 k48 (tg_ne tI32 tI13 (by decide))
        have k104 := wd_at.pt ew70 k49 (tg_ne tI33 tI13 (by decide))
        have k105 := wd_at.pt ew70 k50 (tg_ne tI34 tI13 (by decide))
        have k106 := wd_at.pt ew70 k51 (tg_ne tI35 tI13 (by decide))
        have k107 := wd_at.pt ew70 k52 (tg_ne tI36 tI13 (by decide))
        have k108 := wd_at.pt ew70 k53 (tg_ne tI37 tI13 (by decide))
        have k109 := wd_at.pt ew70 k54 (tg_ne tI38 tI13 (by decide))
        have k110 := wd_at.pt ew70 k55 (tg_ne tI39 tI13 (by decide))
        have k111 := wd_at.pt ew70 k56 (tg_ne tI40 tI13 (by decide))
        have k112 := wd_at.pt ew70 k57 (tg_ne tI41 tI13 (by decide))
        have k113 := wd_at.pt ew70 k58 (tg_ne tI42 tI13 (by decide))
        have k114 := wd_at.pt ew70 k59 (tg_ne tI43 tI13 (by decide))
        have k115 := wd_at.pt ew70 k60 (tg_ne tI44 tI13 (by decide))
        have k116 := wd_at.pt ew70 k61 (tg_ne tI45 tI13 (by decide))
        have k117 := wd_at.pt ew70 k62 (tg_ne tI46 tI13 (by decide))
        have k118 := wd_at.pt ew70 k63 (tg_ne tI47 tI13 (by decide))
        have k119 := wd_at.pt ew70 k64 (tg_ne tI48 tI13 (by decide))
        have fm120 : ∀ k9, k9 < 12 → qp k9 = some (pr k9) ∧ wd_at w69 (pr k9) (.inl (cy 2, 12, .inl (fp k9))) ∧ tg (pr k9) = 11000 + k9 := fun k9 hi9 => ⟨(fm65 k9 hi9).1, wd_at.pt ew70 (fm65 k9 hi9).2.1 (tg_ne (fm65 k9 hi9).2.2 tI13 (tqA (show 10117 < 11000 by decide))), (fm65 k9 hi9).2.2⟩
        have fm121 : ∀ k9, k9 < 12 → qw k9 = some (wr k9) ∧ wd_at w69 (wr k9) (.inl (cy 2, 12, .inl (fw k9))) ∧ tg (wr k9) = 12000 + k9 := fun k9 hi9 => ⟨(fm66 k9 hi9).1, wd_at.pt ew70 (fm66 k9 hi9).2.1 (tg_ne (fm66 k9 hi9).2.2 tI13 (tqA (show 10117 < 12000 by decide))), (fm66 k9 hi9).2.2⟩
        have fm122 : ∀ k9, k9 < 60 → qs k9 = some (sr k9) ∧ wd_at w69 (sr k9) (.inl (cy 2, 12, .inl (fs k9))) ∧ tg (sr k9) = 13000 + k9 := fun k9 hi9 => ⟨(fm67 k9 hi9).1, wd_at.pt ew70 (fm67 k9 hi9).2.1 (tg_ne (fm67 k9 hi9).2.2 tI13 (tqA (show 10117 < 13000 by decide))), (fm67 k9 hi9).2.2⟩
        have kp123 := kp68.put ew70 (tgT tI13 (by decide))
        refine lv_aload_n hx hb dX11_advise_48 rfl (lv_at hl 0 rfl) ?_
        refine x_get (ref := "NoteHouseModel") F hP k71 rfl (fun _ h => List.mem_cons_of_mem _ (List.mem_append_right _ (h))) 18 (Nat.le_of_ble_eq_true rfl) (List.mem_cons_of_mem _ (List.mem_append_left _ (List.mem_of_getElem? (i := 3) rfl))) rfl rfl dX11_advise_49 ?_
        refine lv_aload_n hx hb dX11_advise_52 rfl (lv_at hl 0 rfl) ?_
        refine x_get (ref := "NoteHouseModel") F hP k71 rfl (fun _ h => List.mem_cons_of_mem _ (List.mem_append_right _ (h))) 15 (Nat.le_of_ble_eq_true rfl) (List.mem_cons_of_mem _ (List.mem_append_left _ (List.mem_of_getElem? (i := 0) rfl))) rfl rfl dX11_advise_53 ?_
        refine lv_iload_n hx hb dX11_advise_56 rfl (lv_at hl 2 rfl) ?_
        refine y_iast F hP hD hS k85 (vp_in_nI (n := ac) (N := 60) (by omega) (by decide)) dX11_advise_57 (fun w124 ew125 H locs hP hD hS => ?_)
        have k126 := wd_at.pt ew125 k71 (tg_ne tI0 tI14 (by decide))
        have k127 := wd_at.pt ew125 k72 (tg_ne tI1 tI14 (by decide))
        have k128 := wd_at.pt ew125 k73 (tg_ne tI2 tI14 (by decide))
        have k129 := wd_at.pt ew125 k74 (tg_ne tI3 tI14 (by decide))
        have k130 := wd_at.pt ew125 k75 (tg_ne tI4 tI14 (by decide))
        have k131 := wd_at.pt ew125 k76 (tg_ne tI5 tI14 (by decide))
        have k132 := wd_at.pt ew125 k77 (tg_ne tI6 tI14 (by decide))
        have k133 := wd_at.pt ew125 k78 (tg_ne tI7 tI14 (by decide))
        have k134 := wd_at.pt ew125 k79 (tg_ne tI8 tI14 (by decide))
        have k135 := wd_at.pt ew125 k80 (tg_ne tI9 tI14 (by decide))
        have k136 := wd_at.pt ew125 k81 (tg_ne tI10 tI14 (by decide))
        have k137 := wd_at.pt ew125 k82 (tg_ne tI11 tI14 (by decide))
        have k138 := wd_at.pt ew125 k83 (tg_ne tI12 tI14 (by decide))
        have k139 := wd_at.pt ew125 k84 (tg_ne tI13 tI14 (by decide))
        have k140 : wd_at w124 m18 (.inl (cy 2, 60, .inl (upd f18 (nI ac).toNatClampNeg (nI tw)))) := wd_at.ps ew125 k85
        have k141 := wd_at.pt ew125 k86 (tg_ne tI15 tI14 (by decide))
        have k142 := wd_at.pt ew125 k87 (tg_ne tI16 tI14 (by decide))
        have k143 := wd_at.pt ew125 k88 (tg_ne tI17 tI14 (by decide))
        have k144 := wd_at.pt ew125 k89 (tg_ne tI18 tI14 (by decide))
        have k145 := wd_at.pt ew125 k90 (tg_ne tI19 tI14 (by decide))
        have k146 := wd_at.pt ew125 k91 (tg_ne tI20 tI14 (by decide))
        have k147 := wd_at.pt ew125 k92 (tg_ne tI21 tI14 (by decide))
        have k148 := wd_at.pt ew125 k93 (tg_ne tI22 tI14 (by decide))
        have k149 := wd_at.pt ew125 k94 (tg_ne tI23 tI14 (by decide))
        have k150 := wd_at.pt ew125 k95 (tg_ne tI24 tI14 (by decide))
        have k151 := wd_at.pt ew125 k96 (tg_ne tI25 tI14 (by decide))
        have k152 := wd_at.pt ew125 k97 (tg_ne tI26 tI14 (by decide))
        have k153 := wd_at.pt ew125 k98 (tg_ne tI27 tI14 (by decide))
        have k154 := wd_at.pt ew125 k99 (tg_ne tI28 tI14 (by decide))
        have k155 := wd_at.pt ew125 k100 (tg_ne tI29 tI14 (by decide))
        have k156 := wd_at.pt ew125 k101 (tg_ne tI30 tI14 (by decide))
        have k157 := wd_at.pt ew125 k102 (tg_ne tI31 tI14 (by decide))
        have k158 := wd_at.pt ew125 k103 (tg_ne tI32 tI14 (by decide))
        have k159 := wd_at.pt ew125 k104 (tg_ne tI33 tI14 (by decide))
        have k160 := wd_at.pt ew125 k105 (tg_ne tI34 tI14 (by decide))
        have k161 := wd_at.pt ew125 k106 (tg_ne tI35 tI14 (by decide))
        have k162 := wd_at.pt ew125 k107 (tg_ne tI36 tI14 (by decide))
        have k163 := wd_at.pt ew125 k108 (tg_ne tI37 tI14 (by decide))
        have k164 := wd_at.pt ew125 k109 (tg_ne tI38 tI14 (by decide))
        have k165 := wd_at.pt ew125 k110 (tg_ne tI39 tI14 (by decide))
        have k166 := wd_at.pt ew125 k111 (tg_ne tI40 tI14 (by decide))
        have k167 := wd_at.pt ew125 k112 (tg_ne tI41 tI14 (by decide))
        have k168 := wd_at.pt ew125 k113 (tg_ne tI42 tI14 (by decide))
        have k169 := wd_at.pt ew125 k114 (tg_ne tI43 tI14 (by decide))
        have k170 := wd_at.pt ew125 k115 (tg_ne tI44 tI14 (by decide))
        have k171 := wd_at.pt ew125 k116 (tg_ne tI45 tI14 (by decide))
        have k172 := wd_at.pt ew125 k117 (tg_ne tI46 tI14 (by decide))
        have k173 := wd_at.pt ew125 k118 (tg_ne tI47 tI14 (by decide))
        have k174 := wd_at.pt ew125 k119 (tg_ne tI48 tI14 (by decide))
        have fm175 : ∀ k9, k9 < 12 → qp k9 = some (pr k9) ∧ wd_at w124 (pr k9) (.inl (cy 2, 12, .inl (fp k9))) ∧ tg (pr k9) = 11000 + k9 := fun k9 hi9 => ⟨(fm120 k9 hi9).1, wd_at.pt ew125 (fm120 k9 hi9).2.1 (tg_ne (fm120 k9 hi9).2.2 tI14 (tqA (show 10118 < 11000 by decide))), (fm120 k9 hi9).2.2⟩
        have fm176 : ∀ k9, k9 < 12 → qw k9 = some (wr k9) ∧ wd_at w124 (wr k9) (.inl (cy 2, 12, .inl (fw k9))) ∧ tg (wr k9) = 12000 + k9 := fun k9 hi9 => ⟨(fm121 k9 hi9).1, wd_at.pt ew125 (fm121 k9 hi9).2.1 (tg_ne (fm121 k9 hi9).2.2 tI14 (tqA (show 10118 < 12000 by decide))), (fm121 k9 hi9).2.2⟩
        have fm177 : ∀ k9, k9 < 60 → qs k9 = some (sr k9) ∧ wd_at w124 (sr k9) (.inl (cy 2, 12, .inl (fs k9))) ∧ tg (sr k9) = 13000 + k9 := fun k9 hi9 => ⟨(fm122 k9 hi9).1, wd_at.pt ew125 (fm122 k9 hi9).2.1 (tg_ne (fm122 k9 hi9).2.2 tI14 (tqA (show 10118 < 13000 by decide))), (fm122 k9 hi9).2.2⟩
        have kp178 := kp123.put ew125 (tgT tI14 (by decide))
        refine lv_aload_n hx hb dX11_advise_58 rfl (lv_at hl 0 rfl) ?_
        refine x_get (ref := "NoteHouseModel") F hP k126 rfl (fun _ h => List.mem_cons_of_mem _ (List.mem_append_right _ (h))) 19 (Nat.le_of_ble_eq_true rfl) (List.mem_cons_of_mem _ (List.mem_append_left _ (List.mem_of_getElem? (i := 4) rfl))) rfl rfl dX11_advise_59 ?_
        refine lv_aload_n hx hb dX11_advise_62 rfl (lv_at hl 0 rfl) ?_
        refine x_get (ref := "NoteHouseModel") F hP k126 rfl (fun _ h => List.mem_cons_of_mem _ (List.mem_append_right _ (h))) 15 (Nat.le_of_ble_eq_true rfl) (List.mem_cons_of_mem _ (List.mem_append_left _ (List.mem_of_getElem? (i := 0) rfl))) rfl rfl dX11_advise_63 ?_
        refine lv_aload_n hx hb dX11_advise_66 rfl (lv_at hl 0 rfl) ?_
        refine x_get (ref := "NoteHouseModel") F hP k126 rfl (fun _ h => List.mem_cons_of_mem _ (List.mem_append_right _ (h))) 6 (Nat.le_of_ble_eq_true rfl) (List.mem_cons_of_mem _ (List.mem_append_left _ (List.mem_of_getElem? (i := 5) rfl))) rfl rfl dX11_advise_67 ?_
        refine lv_iload_n hx hb dX11_advise_70 rfl (lv_at hl 2 rfl) ?_
        refine x_iald F hP k131 (vp_in_nI (n := tw) (N := 12) (by omega) (by decide)) dX11_advise_71 ?_
        rw [nI_clamp (n := tw) (by omega), hz14 tw htw]
        refine lv_ldc (v := 268435456) hx hb hown (hts _ (List.mem_cons_of_mem _ (List.mem_append_left _ (List.mem_of_getElem? (i := 6) rfl)))) dX11_advise_72 ?_
        refine lv_icmp_ne (tgt := 82) hx hb dX11_advise_74 (by decide) (fun cz => ?_) (fun cz => ?_)
        · refine lv_aload_n hx hb dX11_advise_82 rfl (lv_at hl 0 rfl) ?_
          refine x_get (ref := "NoteHouseModel") F hP k126 rfl (fun _ h => List.mem_cons_of_mem _ (List.mem_append_right _ (h))) 1 (Nat.le_of_ble_eq_true rfl) (List.mem_cons_of_mem _ (List.mem_append_left _ (List.mem_of_getElem? (i := 7) rfl))) rfl rfl dX11_advise_83 ?_
          refine lv_aload_n hx hb dX11_advise_86 rfl (lv_at hl 0 rfl) ?_
          refine x_get (ref := "NoteHouseModel") F hP k126 rfl (fun _ h => List.mem_cons_of_mem _ (List.mem_append_right _ (h))) 6 (Nat.le_of_ble_eq_true rfl) (List.mem_cons_of_mem _ (List.mem_append_left _ (List.mem_of_getElem? (i := 5) rfl))) rfl rfl dX11_advise_87 ?_
          refine lv_iload_n hx hb dX11_advise_90 rfl (lv_at hl 2 rfl) ?_
          refine x_iald F hP k131 (vp_in_nI (n := tw) (N := 12) (by omega) (by decide)) dX11_advise_91 ?_
          rw [nI_clamp (n := tw) (by omega), hz14 tw htw]
          refine lv_iadd hx hb dX11_advise_92 ?_
          refine y_iast F hP hD hS k141 (vp_in_nI (n := ac) (N := 60) (by omega) (by decide)) dX11_advise_93 (fun w179 ew180 H locs hP hD hS => ?_)
          have k181 := wd_at.pt ew180 k126 (tg_ne tI0 tI15 (by decide))
          have k182 := wd_at.pt ew180 k127 (tg_ne tI1 tI15 (by decide))
          have k183 := wd_at.pt ew180 k128 (tg_ne tI2 tI15 (by decide))
          have k184 := wd_at.pt ew180 k129 (tg_ne tI3 tI15 (by decide))
          have k185 := wd_at.pt ew180 k130 (tg_ne tI4 tI15 (by decide))
          have k186 := wd_at.pt ew180 k131 (tg_ne tI5 tI15 (by decide))
          have k187 := wd_at.pt ew180 k132 (tg_ne tI6 tI15 (by decide))
          have k188 := wd_at.pt ew180 k133 (tg_ne tI7 tI15 (by decide))
          have k189 := wd_at.pt ew180 k134 (tg_ne tI8 tI15 (by decide))
          have k190 := wd_at.pt ew180 k135 (tg_ne tI9 tI15 (by decide))
          have k191 := wd_at.pt ew180 k136 (tg_ne tI10 tI15 (by decide))
          have k192 := wd_at.pt ew180 k137 (tg_ne tI11 tI15 (by decide))
          have k193 := wd_at.pt ew180 k138 (tg_ne tI12 tI15 (by decide))
          have k194 := wd_at.pt ew180 k139 (tg_ne tI13 tI15 (by decide))
          have k195 := wd_at.pt ew180 k140 (tg_ne tI14 tI15 (by decide))
          have k196 : wd_at w179 m19 (.inl (cy 2, 60, .inl (upd f19 (nI ac).toNatClampNeg (td + (nI (fq (dst (nws 0 Pm Wm) 0 tw))))))) := wd_at.ps ew180 k141
          have k197 := wd_at.pt ew180 k142 (tg_ne tI16 tI15 (by decide))
          have k198 := wd_at.pt ew180 k143 (tg_ne tI17 tI15 (by decide))
          have k199 := wd_at.pt ew180 k144 (tg_ne tI18 tI15 (by decide))
          have k200 := wd_at.pt ew180 k145 (tg_ne tI19 tI15 (by decide))
          have k201 := wd_at.pt ew180 k146 (tg_ne tI20 tI15 (by decide))
          have k202 := wd_at.pt ew180 k147 (tg_ne tI21 tI15 (by decide))
          have k203 := wd_at.pt ew180 k148 (tg_ne tI22 tI15 (by decide))
          have k204 := wd_at.pt ew180 k149 (tg_ne tI23 tI15 (by decide))
          have k205 := wd_at.pt ew180 k150 (tg_ne tI24 tI15 (by decide))
          have k206 := wd_at.pt ew180 k151 (tg_ne tI25 tI15 (by decide))
          have k207 := wd_at.pt ew180 k152 (tg_ne tI26 tI15 (by decide))
          have k208 := wd_at.pt ew180 k153 (tg_ne tI27 tI15 (by decide))
          have k209 := wd_at.pt ew180 k154 (tg_ne tI28 tI15 (by decide))
          have k210 := wd_at.pt ew180 k155 (tg_ne tI29 tI15 (by decide))
          have k211 := wd_at.pt ew180 k156 (tg_ne tI30 tI15 (by decide))
          have k212 := wd_at.pt ew180 k157 (tg_ne tI31 tI15 (by decide))
          have k213 := wd_at.pt ew180 k158 (tg_ne tI32 tI15 (by decide))
          have k214 := wd_at.pt ew180 k159 (tg_ne tI33 tI15 (by decide))
          have k215 := wd_at.pt ew180 k160 (tg_ne tI34 tI15 (by decide))
          have k216 := wd_at.pt ew180 k161 (tg_ne tI35 tI15 (by decide))
          have k217 := wd_at.pt ew180 k162 (tg_ne tI36 tI15 (by decide))
          have k218 := wd_at.pt ew180 k163 (tg_ne tI37 tI15 (by decide))
          have k219 := wd_at.pt ew180 k164 (tg_ne tI38 tI15 (by decide))
          have k220 := wd_at.pt ew180 k165 (tg_ne tI39 tI15 (by decide))
          have k221 := wd_at.pt ew180 k166 (tg_ne tI40 tI15 (by decide))
          have k222 := wd_at.pt ew180 k167 (tg_ne tI41 tI15 (by decide))
          have k223 := wd_at.pt ew180 k168 (tg_ne tI42 tI15 (by decide))
          have k224 := wd_at.pt ew180 k169 (tg_ne tI43 tI15 (by decide))
          have k225 := wd_at.pt ew180 k170 (tg_ne tI44 tI15 (by decide))
          have k226 := wd_at.pt ew180 k171 (tg_ne tI45 tI15 (by decide))
          have k227 := wd_at.pt ew180 k172 (tg_ne tI46 tI15 (by decide))
          have k228 := wd_at.pt ew180 k173 (tg_ne tI47 tI15 (by decide))
          have k229 := wd_at.pt ew180 k174 (tg_ne tI48 tI15 (by decide))
          have fm230 : ∀ k9, k9 < 12 → qp k9 = some (pr k9) ∧ wd_at w179 (pr k9) (.inl (cy 2, 12, .inl (fp k9))) ∧ tg (pr k9) = 11000 + k9 := fun k9 hi9 => ⟨(fm175 k9 hi9).1, wd_at.pt ew180 (fm175 k9 hi9).2.1 (tg_ne (fm175 k9 hi9).2.2 tI15 (tqA (show 10119 < 11000 by decide))), (fm175 k9 hi9).2.2⟩
          have fm231 : ∀ k9, k9 < 12 → qw k9 = some (wr k9) ∧ wd_at w179 (wr k9) (.inl (cy 2, 12, .inl (fw k9))) ∧ tg (wr k9) = 12000 + k9 := fun k9 hi9 => ⟨(fm176 k9 hi9).1, wd_at.pt ew180 (fm176 k9 hi9).2.1 (tg_ne (fm176 k9 hi9).2.2 tI15 (tqA (show 10119 < 12000 by decide))), (fm176 k9 hi9).2.2⟩
          have fm232 : ∀ k9, k9 < 60 → qs k9 = some (sr k9) ∧ wd_at w179 (sr k9) (.inl (cy 2, 12, .inl (fs k9))) ∧ tg (sr k9) = 13000 + k9 := fun k9 hi9 => ⟨(fm177 k9 hi9).1, wd_at.pt ew180 (fm177 k9 hi9).2.1 (tg_ne (fm177 k9 hi9).2.2 tI15 (tqA (show 10119 < 13000 by decide))), (fm177 k9 hi9).2.2⟩
          have kp233 := kp178.put ew180 (tgT tI15 (by decide))
          refine lv_aload_n hx hb dX11_advise_94 rfl (lv_at hl 0 rfl) ?_
          refine lv_dup hx hb dX11_advise_95 rfl ?_
          refine x_get (ref := "NoteHouseModel") F hP k181 rfl (fun _ h => List.mem_cons_of_mem _ (List.mem_append_right _ (h))) 15 (Nat.le_of_ble_eq_true rfl) (List.mem_cons_of_mem _ (List.mem_append_left _ (List.mem_of_getElem? (i := 0) rfl))) rfl rfl dX11_advise_96 ?_
          refine lv_iconst (v := 1) hx hb dX11_advise_99 (by decide) ?_
          refine lv_iadd hx hb dX11_advise_100 ?_
          rw [show ((nI ac) + 1 : Int32) = nI (ac + 1) from nI_add ac 1]
          refine y_put (ref := "NoteHouseModel") F hP hD hS k181 rfl (fun _ h => List.mem_cons_of_mem _ (List.mem_append_right _ (h))) tyX11_ok nmX11 15 (Nat.le_of_ble_eq_true rfl) (List.mem_cons_of_mem _ (List.mem_append_left _ (List.mem_of_getElem? (i := 0) rfl))) rfl rfl rfl rfl (Nat.le_of_ble_eq_true rfl) dX11_advise_101 (fun w234 ew235 H locs hP hD hS => ?_)
          have k236 : wd_at w234 y (.inr (11, [.int v0, .int td, .ref m2, .ref m3, .ref m4, .ref m5, .ref m6, .int (nI pc), .ref m8, .ref m9, .ref m10, .ref m11, .ref m12, .ref m13, .ref m14, .int (nI (ac + 1)), .int (nI sc), .ref m17, .ref m18, .ref m19, .ref m20, .ref m21, .ref m22, .ref m23, .ref m24, .int (nI ln), .int v26, .int v27, .int v28, .ref m29, .ref m30, .ref m31, .ref m32, .ref m33, .ref m34, .ref m35, .ref m36, .ref m37, .int (nI sh), .ref m39, .ref m40, .ref m41, .ref m42, .ref m43, .ref m44, .ref m45, .ref m46, .ref m47, .ref m48, .ref m49, .int v50, .ref m51, .ref m52, .ref m53, .ref m54, .int (nI gf), .ref m56, .ref m57, .ref m58, .ref m59])) := wd_at.ps ew235 k181
          have k237 := wd_at.pt ew235 k182 (tg_ne tI1 tI0 (by decide))
          have k238 := wd_at.pt ew235 k183 (tg_ne tI2 tI0 (by decide))
          have k239 := wd_at.pt ew235 k184 (tg_ne tI3 tI0 (by decide))
          have k240 := wd_at.pt ew235 k185 (tg_ne tI4 tI0 (by decide))
          have k241 := wd_at.pt ew235 k186 (tg_ne tI5 tI0 (by decide))
          have k242 := wd_at.pt ew235 k187 (tg_ne tI6 tI0 (by decide))
          have k243 := wd_at.pt ew235 k188 (tg_ne tI7 tI0 (by decide))
          have k244 := wd_at.pt ew235 k189 (tg_ne tI8 tI0 (by decide))
          have k245 := wd_at.pt ew235 k190 (tg_ne tI9 tI0 (by decide))
          have k246 := wd_at.pt ew235 k191 (tg_ne tI10 tI0 (by decide))
          have k247 := wd_at.pt ew235 k192 (tg_ne tI11 tI0 (by decide))
          have k248 := wd_at.pt ew235 k193 (tg_ne tI12 tI0 (by decide))
          have k249 := wd_at.pt ew235 k194 (tg_ne tI13 tI0 (by decide))
          have k250 := wd_at.pt ew235 k195 (tg_ne tI14 tI0 (by decide))
          have k251 := wd_at.pt ew235 k196 (tg_ne tI15 tI0 (by decide))
          have k252 := wd_at.pt ew235 k197 (tg_ne tI16 tI0 (by decide))
          have k253 := wd_at.pt ew235 k198 (tg_ne tI17 tI0 (by decide))
          have k254 := wd_at.pt ew235 k199 (tg_ne tI18 tI0 (by decide))
          have k255 := wd_at.pt ew235 k200 (tg_ne tI19 tI0 (by decide))
          have k256 := wd_at.pt ew235 k201 (tg_ne tI20 tI0 (by decide))
          have k257 := wd_at.pt ew235 k202 (tg_ne tI21 tI0 (by decide))
          have k258 := wd_at.pt ew235 k203 (tg_ne tI22 tI0 (by decide))
          have k259 := wd_at.pt ew235 k204 (tg_ne tI23 tI0 (by decide))
          have k260 := wd_at.pt ew235 k205 (tg_ne tI24 tI0 (by decide))
          have k261 := wd_at.pt ew235 k206 (tg_ne tI25 tI0 (by decide))
          have k262 := wd_at.pt ew235 k207 (tg_ne tI26 tI0 (by decide))
          have k263 := wd_at.pt ew235 k208 (tg_ne tI27 tI0 (by decide))
          have k264 := wd_at.pt ew235 k209 (tg_ne tI28 tI0 (by decide))
          have k265 := wd_at.pt ew235 k210 (tg_ne tI29 tI0 (by decide))
          have k266 := wd_at.pt ew235 k211 (tg_ne tI30 tI0 (by decide))
          have k267 := wd_at.pt ew235 k212 (tg_ne tI31 tI0 (by decide))
          have k268 := wd_at.pt ew235 k213 (tg_ne tI32 tI0 (by decide))
          have k269 := wd_at.pt ew235 k214 (tg_ne tI33 tI0 (by decide))
          have k270 := wd_at.pt ew235 k215 (tg_ne tI34 tI0 (by decide))
          have k271 := wd_at.pt ew235 k216 (tg_ne tI35 tI0 (by decide))
          have k272 := wd_at.pt ew235 k217 (tg_ne tI36 tI0 (by decide))
          have k273 := wd_at.pt ew235 k218 (tg_ne tI37 tI0 (by decide))
          have k274 := wd_at.pt ew235 k219 (tg_ne tI38 tI0 (by decide))
          have k275 := wd_at.pt ew235 k220 (tg_ne tI39 tI0 (by decide))
          have k276 := wd_at.pt ew235 k221 (tg_ne tI40 tI0 (by decide))
          have k277 := wd_at.pt ew235 k222 (tg_ne tI41 tI0 (by decide))
          have k278 := wd_at.pt ew235 k223 (tg_ne tI42 tI0 (by decide))
          have k279 := wd_at.pt ew235 k224 (tg_ne tI43 tI0 (by decide))
          have k280 := wd_at.pt ew235 k225 (tg_ne tI44 tI0 (by decide))
          have k281 := wd_at.pt ew235 k226 (tg_ne tI45 tI0 (by decide))
          have k282 := wd_at.pt ew235 k227 (tg_ne tI46 tI0 (by decide))
          have k283 := wd_at.pt ew235 k228 (tg_ne tI47 tI0 (by decide))
          have k284 := wd_at.pt ew235 k229 (tg_ne tI48 tI0 (by decide))
          have fm285 : ∀ k9, k9 < 12 → qp k9 = some (pr k9) ∧ wd_at w234 (pr k9) (.inl (cy 2, 12, .inl (fp k9))) ∧ tg (pr k9) = 11000 + k9 := fun k9 hi9 => ⟨(fm230 k9 hi9).1, wd_at.pt ew235 (fm230 k9 hi9).2.1 (tg_ne (fm230 k9 hi9).2.2 tI0 (tqA (show 10000 < 11000 by decide))), (fm230 k9 hi9).2.2⟩
          have fm286 : ∀ k9, k9 < 12 → qw k9 = some (wr k9) ∧ wd_at w234 (wr k9) (.inl (cy 2, 12, .inl (fw k9))) ∧ tg (wr k9) = 12000 + k9 := fun k9 hi9 => ⟨(fm231 k9 hi9).1, wd_at.pt ew235 (fm231 k9 hi9).2.1 (tg_ne (fm231 k9 hi9).2.2 tI0 (tqA (show 10000 < 12000 by decide))), (fm231 k9 hi9).2.2⟩
          have fm287 : ∀ k9, k9 < 60 → qs k9 = some (sr k9) ∧ wd_at w234 (sr k9) (.inl (cy 2, 12, .inl (fs k9))) ∧ tg (sr k9) = 13000 + k9 := fun k9 hi9 => ⟨(fm232 k9 hi9).1, wd_at.pt ew235 (fm232 k9 hi9).2.1 (tg_ne (fm232 k9 hi9).2.2 tI0 (tqA (show 10000 < 13000 by decide))), (fm232 k9 hi9).2.2⟩
          have kp288 := kp233.put ew235 (tgT tI0 (by decide))
          refine lv_aload_n hx hb dX11_advise_104 rfl (lv_at hl 0 rfl) ?_
          refine x_get (ref := "NoteHouseModel") F hP k236 rfl (fun _ h => List.mem_cons_of_mem _ (List.mem_append_right _ (h))) 15 (Nat.le_of_ble_eq_true rfl) (List.mem_cons_of_mem _ (List.mem_append_left _ (List.mem_of_getElem? (i := 0) rfl))) rfl rfl dX11_advise_105 ?_
          refine lv_iconst (v := 1) hx hb dX11_advise_108 (by decide) ?_
          refine lv_isub hx hb dX11_advise_109 ?_
          rw [show ((nI (ac + 1)) - 1 : Int32) = nI ((ac + 1) - 1) from pk_sub (a := (ac + 1)) (b := 1) (by omega)]
          have hX289 : IM cy tg y td pc (ac + 1) sc ln se plv Pm Wm (advU pc ac av1 (nI pq) (nI tw) (nI tw)) (advU pc ac av2 (nI pq) (nI tw) (lday (nws 0 Pm Wm) td 0 (nI tw).toNatClampNeg)) (advU pc ac av3 (nI pq) (nI tw) 0) zC tB lb rt tT (advU pc ac av0 (nI pq) (nI tw) (nI pq)) sp0 sp1 pwo phd pgd pdy pno ptp co ra sh hto hpp hle ham hhh hdd hru hde hcp hld w234 := IM.mk m2 m3 m4 m5 m6 m8 m9 m10 m11 m12 m13 m14 m17 m18 m19 m20 m21 m22 m23 m24 m29 m30 m31 m32 m33 m34 m35 m36 m37 m39 m40 m41 m42 m43 m44 m45 m46 m47 m48 m49 m51 m52 m53 m54 m56 m57 m58 m59 gf v0 v26 v27 v28 v50 f4 f5 gx13 f8 f9 f10 f11 f12 f13 f14 (upd f17 (nI ac).toNatClampNeg (nI pq)) (upd f18 (nI ac).toNatClampNeg (nI tw)) (upd f19 (nI ac).toNatClampNeg (td + (nI (fq (dst (nws 0 Pm Wm) 0 tw))))) f20 f21 f22 f29 f30 f31 f32 f33 f34 f35 f36 f37 f39 f40 f41 f42 f43 f44 f45 f46 f47 f48 f49 f51 f52 f53 f54 f56 f57 f58 f59 qp pr fp qw wr fw qs sr fs (by omega) (by omega) (by omega) (by omega) (by omega) (by omega) hrl hc ht hp hso hlo htd hmp hmw (by rw [show advU pc ac av1 (nI pq) (nI tw) (nI tw) = va_up av1 ac (nI tw) from by simp [advU, c_1, h60, c_5, clpq, c_9, cltw, cz], show advU pc ac av2 (nI pq) (nI tw) (lday (nws 0 Pm Wm) td 0 (nI tw).toNatClampNeg) = va_up av2 ac (lday (nws 0 Pm Wm) td 0 tw) from by simp [advU, c_1, h60, c_5, clpq, c_9, cltw, cz], show advU pc ac av3 (nI pq) (nI tw) 0 = va_up av3 ac 0 from by simp [advU, c_1, h60, c_5, clpq, c_9, cltw, cz]]; exact hav.a (by omega) (ld_fin htd htw cz) (ld_zb htd htw)) hzm hlb hmt0 (by rw [show advU pc ac av0 (nI pq) (nI tw) (nI pq) = va_up av0 ac (nI pq) from by simp [advU, c_1, h60, c_5, clpq, c_9, cltw, cz]]; exact hav0.a (by omega)) hs0 hs1 hco hra hpp9 hsh9 k236 tI0 k237 tI1 k238 tI2 k239 tI3 k240 tI4 k241 tI5 k242 tI6 k243 tI7 k244 tI8 k245 tI9 k246 tI10 k247 tI11 k248 tI12 k249 tI13 k250 tI14 k251 tI15 k252 tI16 k253 tI17 k254 tI18 k255 tI19 k256 tI20 k257 tI21 k258 tI22 k259 tI23 k260 tI24 k261 tI25 k262 tI26 k263 tI27 k264 tI28 k265 tI29 k266 tI30 k267 tI31 k268 tI32 k269 tI33 k270 tI34 k271 tI35 k272 tI36 k273 tI37 k274 tI38 k275 tI39 k276 tI40 k277 tI41 k278 tI42 k279 tI43 k280 tI44 k281 tI45 k282 tI46 k283 tI47 k284 tI48 fm285 fm286 fm287
          exact y_ir K hP hD hS (Nat.le_of_ble_eq_true rfl) (Nat.le_of_ble_eq_true rfl) (ty := .int) rfl rfl dX11_advise_110 (by refine ⟨(congrArg (fun z => some (Value.int z)) (show nI ((ac + 1) - 1) = advA pc ac (nI pq) (nI tw) from by simp [advA, advC, advU, c_1, h60, c_5, clpq, c_9, cltw, cz])), ?_⟩; rw [show advC pc ac (nI pq) (nI tw) = (ac + 1) from by simp [advA, advC, advU, c_1, h60, c_5, clpq, c_9, cltw, cz]]; exact ⟨kp288, hX289⟩)
        · refine lv_ldc (v := 268435456) hx hb hown (hts _ (List.mem_cons_of_mem _ (List.mem_append_left _ (List.mem_of_getElem? (i := 6) rfl)))) dX11_advise_77 ?_
          refine lv_goto (tgt := 93) hx hb dX11_advise_79 (by decide) ?_
          refine y_iast F hP hD hS k141 (vp_in_nI (n := ac) (N := 60) (by omega) (by decide)) dX11_advise_93 (fun w290 ew291 H locs hP hD hS => ?_)
          have k292 := wd_at.pt ew291 k126 (tg_ne tI0 tI15 (by decide))
          have k293 := wd_at.pt ew291 k127 (tg_ne tI1 tI15 (by decide))
          have k294 := wd_at.pt ew291 k128 (tg_ne tI2 tI15 (by decide))
          have k295 := wd_at.pt ew291 k129 (tg_ne tI3 tI15 (by decide))
          have k296 := wd_at.pt ew291 k130 (tg_ne tI4 tI15 (by decide))
          have k297 := wd_at.pt ew291 k131 (tg_ne tI5 tI15 (by decide))
          have k298 := wd_at.pt ew291 k132 (tg_ne tI6 tI15 (by decide))
          have k299 := wd_at.pt ew291 k133 (tg_ne tI7 tI15 (by decide))
          have k300 := wd_at.pt ew291 k134 (tg_ne tI8 tI15 (by decide))
          have k301 := wd_at.pt ew291 k135 (tg_ne tI9 tI15 (by decide))
          have k302 := wd_at.pt ew291 k136 (tg_ne tI10 tI15 (by decide))
          have k303 := wd_at.pt ew291 k137 (tg_ne tI11 tI15 (by decide))
          have k304 := wd_at.pt ew291 k138 (tg_ne tI12 tI15 (by decide))
          have k305 := wd_at.pt ew291 k139 (tg_ne tI13 tI15 (by decide))
          have k306 := wd_at.pt ew291 k140 (tg_ne tI14 tI15 (by decide))
          have k307 : wd_at w290 m19 (.inl (cy 2, 60, .inl (upd f19 (nI ac).toNatClampNeg 268435456))) := wd_at.ps ew291 k141
          have k308 := wd_at.pt ew291 k142 (tg_ne tI16 tI15 (by decide))
          have k309 := wd_at.pt ew291 k143 (tg_ne tI17 tI15 (by decide))
          have k310 := wd_at.pt ew291 k144 (tg_ne tI18 tI15 (by decide))
          have k311 := wd_at.pt ew291 k145 (tg_ne tI19 tI15 (by decide))
          have k312 := wd_at.pt ew291 k146 (tg_ne tI20 tI15 (by decide))
          have k313 := wd_at.pt ew291 k147 (tg_ne tI21 tI15 (by decide))
          have k314 := wd_at.pt ew291 k148 (tg_ne tI22 tI15 (by decide))
          have k315 := wd_at.pt ew291 k149 (tg_ne tI23 tI15 (by decide))
          have k316 := wd_at.pt ew291 k150 (tg_ne tI24 tI15 (by decide))
          have k317 := wd_at.pt ew291 k151 (tg_ne tI25 tI15 (by decide))
          have k318 := wd_at.pt ew291 k152 (tg_ne tI26 tI15 (by decide))
          have k319 := wd_at.pt ew291 k153 (tg_ne tI27 tI15 (by decide))
          have k320 := wd_at.pt ew291 k154 (tg_ne tI28 tI15 (by decide))
          have k321 := wd_at.pt ew291 k155 (tg_ne tI29 tI15 (by decide))
          have k322 := wd_at.pt ew291 k156 (tg_ne tI30 tI15 (by decide))
          have k323 := wd_at.pt ew291 k157 (tg_ne tI31 tI15 (by decide))
          have k324 := wd_at.pt ew291 k158 (tg_ne tI32 tI15 (by decide))
          have k325 := wd_at.pt ew291 k159 (tg_ne tI33 tI15 (by decide))
          have k326 := wd_at.pt ew291 k160 (tg_ne tI34 tI15 (by decide))
          have k327 := wd_at.pt ew291 k161 (tg_ne tI35 tI15 (by decide))
          have k328 := wd_at.pt ew291 k162 (tg_ne tI36 tI15 (by decide))
          have k329 := wd_at.pt ew291 k163 (tg_ne tI37 tI15 (by decide))
          have k330 := wd_at.pt ew291 k164 (tg_ne tI38 tI15 (by decide))
          have k331 := wd_at.pt ew291 k165 (tg_ne tI39 tI15 (by decide))
          have k332 := wd_at.pt ew291 k166 (tg_ne tI40 tI15 (by decide))
          have k333 := wd_at.pt ew291 k167 (tg_ne tI41 tI15 (by decide))
          have k334 := wd_at.pt ew291 k168 (tg_ne tI42 tI15 (by decide))
          have k335 := wd_at.pt ew291 k169 (tg_ne tI43 tI15 (by decide))
          have k336 := wd_at.pt ew291 k170 (tg_ne tI44 tI15 (by decide))
          have k337 := wd_at.pt ew291 k171 (tg_ne tI45 tI15 (by decide))
          have k338 := wd_at.pt ew291 k172 (tg_ne tI46 tI15 (by decide))
          have k339 := wd_at.pt ew291 k173 (tg_ne tI47 tI15 (by decide))
          have k340 := wd_at.pt ew291 k174 (tg_ne tI48 tI15 (by decide))
          have fm341 : ∀ k9, k9 < 12 → qp k9 = some (pr k9) ∧ wd_at w290 (pr k9) (.inl (cy 2, 12, .inl (fp k9))) ∧ tg (pr k9) = 11000 + k9 := fun k9 hi9 => ⟨(fm175 k9 hi9).1, wd_at.pt ew291 (fm175 k9 hi9).2.1 (tg_ne (fm175 k9 hi9).2.2 tI15 (tqA (show 10119 < 11000 by decide))), (fm175 k9 hi9).2.2⟩
          have fm342 : ∀ k9, k9 < 12 → qw k9 = some (wr k9) ∧ wd_at w290 (wr k9) (.inl (cy 2, 12, .inl (fw k9))) ∧ tg (wr k9) = 12000 + k9 := fun k9 hi9 => ⟨(fm176 k9 hi9).1, wd_at.pt ew291 (fm176 k9 hi9).2.1 (tg_ne (fm176 k9 hi9).2.2 tI15 (tqA (show 10119 < 12000 by decide))), (fm176 k9 hi9).2.2⟩
          have fm343 : ∀ k9, k9 < 60 → qs k9 = some (sr k9) ∧ wd_at w290 (sr k9) (.inl (cy 2, 12, .inl (fs k9))) ∧ tg (sr k9) = 13000 + k9 := fun k9 hi9 => ⟨(fm177 k9 hi9).1, wd_at.pt ew291 (fm177 k9 hi9).2.1 (tg_ne (fm177 k9 hi9).2.2 tI15 (tqA (show 10119 < 13000 by decide))), (fm177 k9 hi9).2.2⟩
          have kp344 := kp178.put ew291 (tgT tI15 (by decide))
          refine lv_aload_n hx hb dX11_advise_94 rfl (lv_at hl 0 rfl) ?_
          refine lv_dup hx hb dX11_advise_95 rfl ?_
          refine x_get (ref := "NoteHouseModel") F hP k292 rfl (fun _ h => List.mem_cons_of_mem _ (List.mem_append_right _ (h))) 15 (Nat.le_of_ble_eq_true rfl) (List.mem_cons_of_mem _ (List.mem_append_left _ (List.mem_of_getElem? (i := 0) rfl))) rfl rfl dX11_advise_96 ?_
          refine lv_iconst (v := 1) hx hb dX11_advise_99 (by decide) ?_
          refine lv_iadd hx hb dX11_advise_100 ?_
          rw [show ((nI ac) + 1 : Int32) = nI (ac + 1) from nI_add ac 1]
          refine y_put (ref := "NoteHouseModel") F hP hD hS k292 rfl (fun _ h => List.mem_cons_of_mem _ (List.mem_append_right _ (h))) tyX11_ok nmX11 15 (Nat.le_of_ble_eq_true rfl) (List.mem_cons_of_mem _ (List.mem_append_left _ (List.mem_of_getElem? (i := 0) rfl))) rfl rfl rfl rfl (Nat.le_of_ble_eq_true rfl) dX11_advise_101 (fun w345 ew346 H locs hP hD hS => ?_)
          have k347 : wd_at w345 y (.inr (11, [.int v0, .int td, .ref m2, .ref m3, .ref m4, .ref m5, .ref m6, .int (nI pc), .ref m8, .ref m9, .ref m10, .ref m11, .ref m12, .ref m13, .ref m14, .int (nI (ac + 1)), .int (nI sc), .ref m17, .ref m18, .ref m19, .ref m20, .ref m21, .ref m22, .ref m23, .ref m24, .int (nI ln), .int v26, .int v27, .int v28, .ref m29, .ref m30, .ref m31, .ref m32, .ref m33, .ref m34, .ref m35, .ref m36, .ref m37, .int (nI sh), .ref m39, .ref m40, .ref m41, .ref m42, .ref m43, .ref m44, .ref m45, .ref m46, .ref m47, .ref m48, .ref m49, .int v50, .ref m51, .ref m52, .ref m53, .ref m54, .int (nI gf), .ref m56, .ref m57, .ref m58, .ref m59])) := wd_at.ps ew346 k292
          have k348 := wd_at.pt ew346 k293 (tg_ne tI1 tI0 (by decide))
          have k349 := wd_at.pt ew346 k294 (tg_ne tI2 tI0 (by decide))
          have k350 := wd_at.pt ew346 k295 (tg_ne tI3 tI0 (by decide))
          have k351 := wd_at.pt ew346 k296 (tg_ne tI4 tI0 (by decide))
          have k352 := wd_at.pt ew346 k297 (tg_ne tI5 tI0 (by decide))
          have k353 := wd_at.pt ew346 k298 (tg_ne tI6 tI0 (by decide))
          have k354 := wd_at.pt ew346 k299 (tg_ne tI7 tI0 (by decide))
          have k355 := wd_at.pt ew346 k300 (tg_ne tI8 tI0 (by decide))
          have k356 := wd_at.pt ew346 k301 (tg_ne tI9 tI0 (by decide))
          have k357 := wd_at.pt ew346 k302 (tg_ne tI10 tI0 (by decide))
          have k358 := wd_at.pt ew346 k303 (tg_ne tI11 tI0 (by decide))
          have k359 := wd_at.pt ew346 k304 (tg_ne tI12 tI0 (by decide))
          have k360 := wd_at.pt ew346 k305 (tg_ne tI13 tI0 (by decide))
          have k361 := wd_at.pt ew346 k306 (tg_ne tI14 tI0 (by decide))
          have k362 := wd_at.pt ew346 k307 (tg_ne tI15 tI0 (by decide))
          have k363 := wd_at.pt ew346 k308 (tg_ne tI16 tI0 (by decide))
          have k364 := wd_at.pt ew346 k309 (tg_ne tI17 tI0 (by decide))
          have k365 := wd_at.pt ew346 k310 (tg_ne tI18 tI0 (by decide))
          have k366 := wd_at.pt ew346 k311 (tg_ne tI19 tI0 (by decide))
          have k367 := wd_at.pt ew346 k312 (tg_ne tI20 tI0 (by decide))
          have k368 := wd_at.pt ew346 k313 (tg_ne tI21 tI0 (by decide))
          have k369 := wd_at.pt ew346 k314 (tg_ne tI22 tI0 (by decide))
          have k370 := wd_at.pt ew346 k315 (tg_ne tI23 tI0 (by decide))
          have k371 := wd_at.pt ew346 k316 (tg_ne tI24 tI0 (by decide))
          have k372 := wd_at.pt ew346 k317 (tg_ne tI25 tI0 (by decide))
          have k373 := wd_at.pt ew346 k318 (tg_ne tI26 tI0 (by decide))
          have k374 := wd_at.pt ew346 k319 (tg_ne tI27 tI0 (by decide))
          have k375 := wd_at.pt ew346 k320 (tg_ne tI28 tI0 (by decide))
          have k376 := wd_at.pt ew346 k321 (tg_ne tI29 tI0 (by decide))
          have k377 := wd_at.pt ew346 k322 (tg_ne tI30 tI0 (by decide))
          have k378 := wd_at.pt ew346 k323 (tg_ne tI31 tI0 (by decide))
          have k379 := wd_at.pt ew346 k324 (tg_ne tI32 tI0 (by decide))
          have k380 := wd_at.pt ew346 k325 (tg_ne tI33 tI0 (by decide))
          have k381 := wd_at.pt ew346 k326 (tg_ne tI34 tI0 (by decide))
          have k382 := wd_at.pt ew346 k327 (tg_ne tI35 tI0 (by decide))
          have k383 := wd_at.pt ew346 k328 (tg_ne tI36 tI0 (by decide))
          have k384 := wd_at.pt ew346 k329 (tg_ne tI37 tI0 (by decide))
          have k385 := wd_at.pt ew346 k330 (tg_ne tI38 tI0 (by decide))
          have k386 := wd_at.pt ew346 k331 (tg_ne tI39 tI0 (by decide))
          have k387 := wd_at.pt ew346 k332 (tg_ne tI40 tI0 (by decide))
          have k388 := wd_at.pt ew346 k333 (tg_ne tI41 tI0 (by decide))
          have k389 := wd_at.pt ew346 k334 (tg_ne tI42 tI0 (by decide))
          have k390 := wd_at.pt ew346 k335 (tg_ne tI43 tI0 (by decide))
          have k391 := wd_at.pt ew346 k336 (tg_ne tI44 tI0 (by decide))
          have k392 := wd_at.pt ew346 k337 (tg_ne tI45 tI0 (by decide))
          have k393 := wd_at.pt ew346 k338 (tg_ne tI46 tI0 (by decide))
          have k394 := wd_at.pt ew346 k339 (tg_ne tI47 tI0 (by decide))
          have k395 := wd_at.pt ew346 k340 (tg_ne tI48 tI0 (by decide))
          have fm396 : ∀ k9, k9 < 12 → qp k9 = some (pr k9) ∧ wd_at w345 (pr k9) (.inl (cy 2, 12, .inl (fp k9))) ∧ tg (pr k9) = 11000 + k9 := fun k9 hi9 => ⟨(fm341 k9 hi9).1, wd_at.pt ew346 (fm341 k9 hi9).2.1 (tg_ne (fm341 k9 hi9).2.2 tI0 (tqA (show 10000 < 11000 by decide))), (fm341 k9 hi9).2.2⟩
          have fm397 : ∀ k9, k9 < 12 → qw k9 = some (wr k9) ∧ wd_at w345 (wr k9) (.inl (cy 2, 12, .inl (fw k9))) ∧ tg (wr k9) = 12000 + k9 := fun k9 hi9 => ⟨(fm342 k9 hi9).1, wd_at.pt ew346 (fm342 k9 hi9).2.1 (tg_ne (fm342 k9 hi9).2.2 tI0 (tqA (show 10000 < 12000 by decide))), (fm342 k9 hi9).2.2⟩
          have fm398 : ∀ k9, k9 < 60 → qs k9 = some (sr k9) ∧ wd_at w345 (sr k9) (.inl (cy 2, 12, .inl (fs k9))) ∧ tg (sr k9) = 13000 + k9 := fun k9 hi9 => ⟨(fm343 k9 hi9).1, wd_at.pt ew346 (fm343 k9 hi9).2.1 (tg_ne (fm343 k9 hi9).2.2 tI0 (tqA (show 10000 < 13000 by decide))), (fm343 k9 hi9).2.2⟩
          have kp399 := kp344.put ew346 (tgT tI0 (by decide))
          refine lv_aload_n hx hb dX11_advise_104 rfl (lv_at hl 0 rfl) ?_
          refine x_get (ref := "NoteHouseModel") F hP k347 rfl (fun _ h => List.mem_cons_of_mem _ (List.mem_append_right _ (h))) 15 (Nat.le_of_ble_eq_true rfl) (List.mem_cons_of_mem _ (List.mem_append_left _ (List.mem_of_getElem? (i := 0) rfl))) rfl rfl dX11_advise_105 ?_
          refine lv_iconst (v := 1) hx hb dX11_advise_108 (by decide) ?_
          refine lv_isub hx hb dX11_advise_109 ?_
          rw [show ((nI (ac + 1)) - 1 : Int32) = nI ((ac + 1) - 1) from pk_sub (a := (ac + 1)) (b := 1) (by omega)]
          have hX400 : IM cy tg y td pc (ac + 1) sc ln se plv Pm Wm (advU pc ac av1 (nI pq) (nI tw) (nI tw)) (advU pc ac av2 (nI pq) (nI tw) (lday (nws 0 Pm Wm) td 0 (nI tw).toNatClampNeg)) (advU pc ac av3 (nI pq) (nI tw) 0) zC tB lb rt tT (advU pc ac av0 (nI pq) (nI tw) (nI pq)) sp0 sp1 pwo phd pgd pdy pno ptp co ra sh hto hpp hle ham hhh hdd hru hde hcp hld w345 := IM.mk m2 m3 m4 m5 m6 m8 m9 m10 m11 m12 m13 m14 m17 m18 m19 m20 m21 m22 m23 m24 m29 m30 m31 m32 m33 m34 m35 m36 m37 m39 m40 m41 m42 m43 m44 m45 m46 m47 m48 m49 m51 m52 m53 m54 m56 m57 m58 m59 gf v0 v26 v27 v28 v50 f4 f5 gx13 f8 f9 f10 f11 f12 f13 f14 (upd f17 (nI ac).toNatClampNeg (nI pq)) (upd f18 (nI ac).toNatClampNeg (nI tw)) (upd f19 (nI ac).toNatClampNeg 268435456) f20 f21 f22 f29 f30 f31 f32 f33 f34 f35 f36 f37 f39 f40 f41 f42 f43 f44 f45 f46 f47 f48 f49 f51 f52 f53 f54 f56 f57 f58 f59 qp pr fp qw wr fw qs sr fs (by omega) (by omega) (by omega) (by omega) (by omega) (by omega) hrl hc ht hp hso hlo htd hmp hmw (by rw [show advU pc ac av1 (nI pq) (nI tw) (nI tw) = va_up av1 ac (nI tw) from by simp [advU, c_1, h60, c_5, clpq, c_9, cltw, cz], show advU pc ac av2 (nI pq) (nI tw) (lday (nws 0 Pm Wm) td 0 (nI tw).toNatClampNeg) = va_up av2 ac (lday (nws 0 Pm Wm) td 0 tw) from by simp [advU, c_1, h60, c_5, clpq, c_9, cltw, cz], show advU pc ac av3 (nI pq) (nI tw) 0 = va_up av3 ac 0 from by simp [advU, c_1, h60, c_5, clpq, c_9, cltw, cz]]; exact hav.a (by omega) (ld_far htw cz) (ld_zb htd htw)) hzm hlb hmt0 (by rw [show advU pc ac av0 (nI pq) (nI tw) (nI pq) = va_up av0 ac (nI pq) from by simp [advU, c_1, h60, c_5, clpq, c_9, cltw, cz]]; exact hav0.a (by omega)) hs0 hs1 hco hra hpp9 hsh9 k347 tI0 k348 tI1 k349 tI2 k350 tI3 k351 tI4 k352 tI5 k353 tI6 k354 tI7 k355 tI8 k356 tI9 k357 tI10 k358 tI11 k359 tI12 k360 tI13 k361 tI14 k362 tI15 k363 tI16 k364 tI17 k365 tI18 k366 tI19 k367 tI20 k368 tI21 k369 tI22 k370 tI23 k371 tI24 k372 tI25 k373 tI26 k374 tI27 k375 tI28 k376 tI29 k377 tI30 k378 tI31 k379 tI32 k380 tI33 k381 tI34 k382 tI35 k383 tI36 k384 tI37 k385 tI38 k386 tI39 k387 tI40 k388 tI41 k389 tI42 k390 tI43 k391 tI44 k392 tI45 k393 tI46 k394 tI47 k395 tI48 fm396 fm397 fm398
          exact y_ir K hP hD hS (Nat.le_of_ble_eq_true rfl) (Nat.le_of_ble_eq_true rfl) (ty := .int) rfl rfl dX11_advise_110 (by refine ⟨(congrArg (fun z => some (Value.int z)) (show nI ((ac + 1) - 1) = advA pc ac (nI pq) (nI tw) from by simp [advA, advC, advU, c_1, h60, c_5, clpq, c_9, cltw, cz])), ?_⟩; rw [show advC pc ac (nI pq) (nI tw) = (ac + 1) from by simp [advA, advC, advU, c_1, h60, c_5, clpq, c_9, cltw, cz]]; exact ⟨kp399, hX400⟩)
      · refine lv_iconst (v := (-1)) hx hb dX11_advise_30 (by decide) ?_
        exact y_ir K hP hD hS (Nat.le_of_ble_eq_true rfl) (Nat.le_of_ble_eq_true rfl) (ty := .int) rfl rfl dX11_advise_31 (by refine ⟨(congrArg (fun z => some (Value.int z)) (show (-1) = advA pc ac (nI pq) x2 from by simp [advA, advC, advU, c_1, h60, c_5, clpq, c_9])), ?_⟩; rw [show advC pc ac (nI pq) x2 = ac from by simp [advA, advC, advU, c_1, h60, c_5, clpq, c_9], show advU pc ac av0 (nI pq) x2 (nI pq) = av0 from by simp [advA, advC, advU, c_1, h60, c_5, clpq, c_9], show advU pc ac av1 (nI pq) x2 x2 = av1 from by simp [advA, advC, advU, c_1, h60, c_5, clpq, c_9], show advU pc ac av2 (nI pq) x2 (lday (nws 0 Pm Wm) td 0 x2.toNatClampNeg) = av2 from by simp [advA, advC, advU, c_1, h60, c_5, clpq, c_9], show advU pc ac av3 (nI pq) x2 0 = av3 from by simp [advA, advC, advU, c_1, h60, c_5, clpq, c_9]]; exact ⟨wd_kp.rf, hIM0⟩)
set_option maxHeartbeats 4000000 in
set_option maxRecDepth 100000 in
theorem M_lose (l : Launch) (D : va_G) (cy : Nat → ClassId) (sk sv : Nat → Nat) (w : Wd) (tg : Nat → Nat) (y : Nat) (td : Int32) (pc ac sc ln : Nat) (se plv : Nat → Int32) (Pm Wm : Nat → Nat → Nat) (av1 av2 av3 : Nat → Int32) (zC : Nat → Nat → Int32) (tB lb : Nat → Int32) (rt : Nat → Nat) (tT : Nat → Nat → Nat → Int32) (av0 sp0 sp1 pwo phd pgd pdy pno ptp co ra : Nat → Int32) (sh : Nat) (hto : Nat → Nat) (hpp hle ham hhh hdd hru hde hcp hld : Nat → Int32) (x1 : Int32) (hIM0 : IM cy tg y td pc ac sc ln se plv Pm Wm av1 av2 av3 zC tB lb rt tT av0 sp0 sp1 pwo phd pgd pdy pno ptp co ra sh hto hpp hle ham hhh hdd hru hde hcp hld w) : Ct l D cy sk sv yX11_lose wsX11_lose ({ frames := 1, cells := 0, slots := 0, locals := 22 }) [.ref y, .int x1] w (fun v w1 => v = some (.int (losA ac av2 av3 td x1)) ∧ MP cy tg y td pc ac sc ln se plv Pm Wm av1 (losC ac av2 av3 td x1) (losL ac av2 av3 td x1) zC tB lb rt tT av0 sp0 sp1 pwo phd pgd pdy pno ptp co ra sh hto hpp hle ham hhh hdd hru hde hcp hld w w1) := by
  refine Ct.by (cc := cX11_lose) (maxL := 2) (ret := (some .boolean)) (by decide +kernel) rfl (Nat.le_of_ble_eq_true rfl) ?_
  intro p e s m args below meth c A Q F hnm K ls hl
  have F : wd_Fx p s m args meth c cX11_lose 2 wsX11_lose RX11 D cy sk sv A := F
  have hl : lv_has ls 2 [(0, .ref y), (1, .int x1)] := hl
  have hx := F.1.1
  have hb := F.1.2.1
  have hown := F.1.2.2.2.1
  have hts := F.1.2.2.2.2
  intro H locs hP hD hS
  have kp0 : wd_kp (fun b => 10000 ≤ tg b) w w := wd_kp.rf
  refine hIM0 _ ?_
  intro m2 m3 m4 m5 m6 m8 m9 m10 m11 m12 m13 m14 m17 m18 m19 m20 m21 m22 m23 m24 m29 m30 m31 m32 m33 m34 m35 m36 m37 m39 m40 m41 m42 m43 m44 m45 m46 m47 m48 m49 m51 m52 m53 m54 m56 m57 m58 m59 gf v0 v26 v27 v28 v50 f4 f5 f6 f8 f9 f10 f11 f12 f13 f14 f17 f18 f19 f20 f21 f22 f29 f30 f31 f32 f33 f34 f35 f36 f37 f39 f40 f41 f42 f43 f44 f45 f46 f47 f48 f49 f51 f52 f53 f54 f56 f57 f58 f59 qp pr fp qw wr fw qs sr fs hp90 hp91 hp92 hp93 hp94 hp95 hrl hc ht hp hso hlo htd hmp hmw hav hzm hlb hmt0 hav0 hs0 hs1 hco hra hpp9 hsh9 kI0 tI0 kI1 tI1 kI2 tI2 kI3 tI3 kI4 tI4 kI5 tI5 kI6 tI6 kI7 tI7 kI8 tI8 kI9 tI9 kI10 tI10 kI11 tI11 kI12 tI12 kI13 tI13 kI14 tI14 kI15 tI15 kI16 tI16 kI17 tI17 kI18 tI18 kI19 tI19 kI20 tI20 kI21 tI21 kI22 tI22 kI23 tI23 kI24 tI24 kI25 tI25 kI26 tI26 kI27 tI27 kI28 tI28 kI29 tI29 kI30 tI30 kI31 tI31 kI32 tI32 kI33 tI33 kI34 tI34 kI35 tI35 kI36 tI36 kI37 tI37 kI38 tI38 kI39 tI39 kI40 tI40 kI41 tI41 kI42 tI42 kI43 tI43 kI44 tI44 kI45 tI45 kI46 tI46 kI47 tI47 kI48 tI48 hFPR hFWR hFSR
  refine lv_iload_n hx hb dX11_lose_0 rfl (lv_at hl 1 rfl) ?_
  refine lv_iconst (v := 0) hx hb dX11_lose_1 (by decide) ?_
  refine lv_aload_n hx hb dX11_lose_2 rfl (lv_at hl 0 rfl) ?_
  refine x_get (ref := "NoteHouseModel") F hP kI0 rfl (fun _ h => List.mem_cons_of_mem _ (List.mem_append_right _ (h))) 15 (Nat.le_of_ble_eq_true rfl) (List.mem_cons_of_mem _ (List.mem_append_left _ (List.mem_of_getElem? (i := 0) rfl))) rfl rfl dX11_lose_3 ?_
  refine lv_iconst (v := 1) hx hb dX11_lose_6 (by decide) ?_
  refine lv_isub hx hb dX11_lose_7 ?_
  refine x_callS (n := 3) (As := [.int x1, .int 0, .int ((nI ac) - 1)]) (rest := []) F hP hD hS (g_in l D cy sk sv w x1 0 ((nI ac) - 1)) gX11_lose_X11_in rfl (by decide +kernel) ⟨(Nat.le_of_ble_eq_true rfl), (Nat.le_of_ble_eq_true rfl)⟩ rfl hl.1 (Nat.le_of_ble_eq_true rfl) dX11_lose_8 rfl ⟨(Nat.le_of_ble_eq_true rfl), (Nat.le_of_ble_eq_true rfl)⟩ (fun v2 w3 hp1 H locs hP hD hS => ?_)
  obtain ⟨rfl, rfl⟩ := hp1
  refine W.eq (g2 := F0 m 11 ls [.int (wi x1 0 ((nI ac) - 1))]) rfl (W.widen (k := 0) (n := 0) (Nat.le_of_ble_eq_true rfl) (Nat.le_of_ble_eq_true rfl) ?_)
  refine lv_if_eq (tgt := 36) hx hb dX11_lose_11 (by decide) (fun c_4 => ?_) (fun c_4 => ?_)
  · refine lv_iconst (v := 0) hx hb dX11_lose_36 (by decide) ?_
    exact y_ir K hP hD hS (Nat.le_of_ble_eq_true rfl) (Nat.le_of_ble_eq_true rfl) (ty := .boolean) rfl rfl dX11_lose_37 (by refine ⟨(congrArg (fun z => some (Value.int z)) (show 0 = losA ac av2 av3 td x1 from by simp [losA, losC, losL, losB, c_4])), ?_⟩; rw [show losC ac av2 av3 td x1 = av2 from by simp [losA, losC, losL, losB, c_4], show losL ac av2 av3 td x1 = av3 from by simp [losA, losC, losL, losB, c_4]]; exact ⟨wd_kp.rf, hIM0⟩)
  · obtain ⟨kk, hkk, rfl⟩ := pb_i (by omega) c_4
    have clkk : (nI kk).toNatClampNeg = kk := nI_clamp (by omega)
    refine lv_aload_n hx hb dX11_lose_14 rfl (lv_at hl 0 rfl) ?_
    refine x_get (ref := "NoteHouseModel") F hP kI0 rfl (fun _ h => List.mem_cons_of_mem _ (List.mem_append_right _ (h))) 20 (Nat.le_of_ble_eq_true rfl) (List.mem_cons_of_mem _ (List.mem_append_left _ (List.mem_of_getElem? (i := 1) rfl))) rfl rfl dX11_lose_15 ?_
    refine lv_iload_n hx hb dX11_lose_18 rfl (lv_at hl 1 rfl) ?_
    refine x_zald F hP kI16 (vp_in_nI (n := kk) (N := 60) (by omega) (by decide)) dX11_lose_19 ?_
    rw [nI_clamp (n := kk) (by omega), (hav.1 kk hkk).2.1]
    refine lv_if_ne (tgt := 36) hx hb dX11_lose_20 (by decide) (fun cL => ?_) (fun cL => ?_)
    · refine lv_iconst (v := 0) hx hb dX11_lose_36 (by decide) ?_
      exact y_ir K hP hD hS (Nat.le_of_ble_eq_true rfl) (Nat.le_of_ble_eq_true rfl) (ty := .boolean) rfl rfl dX11_lose_37 (by refine ⟨(congrArg (fun z => some (Value.int z)) (show 0 = losA ac av2 av3 td (nI kk) from by simp [losA, losC, losL, losB, c_4, clkk, cL])), ?_⟩; rw [show losC ac av2 av3 td (nI kk) = av2 from by simp [losA, losC, losL, losB, c_4, clkk, cL], show losL ac av2 av3 td (nI kk) = av3 from by simp [losA, losC, losL, losB, c_4, clkk, cL]]; exact ⟨wd_kp.rf, hIM0⟩)
    · refine lv_aload_n hx hb dX11_lose_23 rfl (lv_at hl 0 rfl) ?_
      refine x_get (ref := "NoteHouseModel") F hP kI0 rfl (fun _ h => List.mem_cons_of_mem _ (List.mem_append_right _ (h))) 19 (Nat.le_of_ble_eq_true rfl) (List.mem_cons_of_mem _ (List.mem_append_left _ (List.mem_of_getElem? (i := 2) rfl))) rfl rfl dX11_lose_24 ?_
      refine lv_iload_n hx hb dX11_lose_27 rfl (lv_at hl 1 rfl) ?_
      refine x_iald F hP kI15 (vp_in_nI (n := kk) (N := 60) (by omega) (by decide)) dX11_lose_28 ?_
      rw [nI_clamp (n := kk) (by omega), (hav.1 kk hkk).2.2.1 cL]
      refine lv_aload_n hx hb dX11_lose_29 rfl (lv_at hl 0 rfl) ?_
      refine x_get (ref := "NoteHouseModel") F hP kI0 rfl (fun _ h => List.mem_cons_of_mem _ (List.mem_append_right _ (h))) 1 (Nat.le_of_ble_eq_true rfl) (List.mem_cons_of_mem _ (List.mem_append_left _ (List.mem_of_getElem? (i := 3) rfl))) rfl rfl dX11_lose_30 ?_
      refine lv_icmp_gt (tgt := 38) hx hb dX11_lose_33 (by decide) (fun c_5 => ?_) (fun c_5 => ?_)
      · have hhc : hcI (av2 kk) td = 0 := (hc_mc htd).mp c_5
        refine lv_aload_n hx hb dX11_lose_38 rfl (lv_at hl 0 rfl) ?_
        refine x_get (ref := "NoteHouseModel") F hP kI0 rfl (fun _ h => List.mem_cons_of_mem _ (List.mem_append_right _ (h))) 20 (Nat.le_of_ble_eq_true rfl) (List.mem_cons_of_mem _ (List.mem_append_left _ (List.mem_of_getElem? (i := 1) rfl))) rfl rfl dX11_lose_39 ?_
        refine lv_iload_n hx hb dX11_lose_42 rfl (lv_at hl 1 rfl) ?_
        refine lv_iconst (v := 1) hx hb dX11_lose_43 (by decide) ?_
        refine y_zast F hP hD hS kI16 (vp_in_nI (n := kk) (N := 60) (by omega) (by decide)) dX11_lose_44 (fun w6 ew7 H locs hP hD hS => ?_)
        have k8 := wd_at.pt ew7 kI0 (tg_ne tI0 tI16 (by decide))
        have k9 := wd_at.pt ew7 kI1 (tg_ne tI1 tI16 (by decide))
        have k10 := wd_at.pt ew7 kI2 (tg_ne tI2 tI16 (by decide))
        have k11 := wd_at.pt ew7 kI3 (tg_ne tI3 tI16 (by decide))
        have k12 := wd_at.pt ew7 kI4 (tg_ne tI4 tI16 (by decide))
        have k13 := wd_at.pt ew7 kI5 (tg_ne tI5 tI16 (by decide))
        have k14 := wd_at.pt ew7 kI6 (tg_ne tI6 tI16 (by decide))
        have k15 := wd_at.pt ew7 kI7 (tg_ne tI7 tI16 (by decide))
        have k16 := wd_at.pt ew7 kI8 (tg_ne tI8 tI16 (by decide))
        have k17 := wd_at.pt ew7 kI9 (tg_ne tI9 tI16 (by decide))
        have k18 := wd_at.pt ew7 kI10 (tg_ne tI10 tI16 (by decide))
        have k19 := wd_at.pt ew7 kI11 (tg_ne tI11 tI16 (by decide))
        have k20 := wd_at.pt ew7 kI12 (tg_ne tI12 tI16 (by decide))
        have k21 := wd_at.pt ew7 kI13 (tg_ne tI13 tI16 (by decide))
        have k22 := wd_at.pt ew7 kI14 (tg_ne tI14 tI16 (by decide))
        have k23 := wd_at.pt ew7 kI15 (tg_ne tI15 tI16 (by decide))
        have k24 : wd_at w6 m20 (.inl (cy 4, 60, .inl (upd f20 (nI kk).toNatClampNeg (vp_nar .boolean 1)))) := wd_at.ps ew7 kI16
        have k25 := wd_at.pt ew7 kI17 (tg_ne tI17 tI16 (by decide))
        have k26 := wd_at.pt ew7 kI18 (tg_ne tI18 tI16 (by decide))
        have k27 := wd_at.pt ew7 kI19 (tg_ne tI19 tI16 (by decide))
        have k28 := wd_at.pt ew7 kI20 (tg_ne tI20 tI16 (by decide))
        have k29 := wd_at.pt ew7 kI21 (tg_ne tI21 tI16 (by decide))
        have k30 := wd_at.pt ew7 kI22 (tg_ne tI22 tI16 (by decide))
        have k31 := wd_at.pt ew7 kI23 (tg_ne tI23 tI16 (by decide))
        have k32 := wd_at.pt ew7 kI24 (tg_ne tI24 tI16 (by decide))
        have k33 := wd_at.pt ew7 kI25 (tg_ne tI25 tI16 (by decide))
        have k34 := wd_at.pt ew7 kI26 (tg_ne tI26 tI16 (by decide))
        have k35 := wd_at.pt ew7 kI27 (tg_ne tI27 tI16 (by decide))
        have k36 := wd_at.pt ew7 kI28 (tg_ne tI28 tI16 (by decide))
        have k37 := wd_at.pt ew7 kI29 (tg_ne tI29 tI16 (by decide))
        have k38 := wd_at.pt ew7 kI30 (tg_ne tI30 tI16 (by decide))
        have k39 := wd_at.pt ew7 kI31 (tg_ne tI31 tI16 (by decide))
        have k40 := wd_at.pt ew7 kI32 (tg_ne tI32 tI16 (by decide))
        have k41 := wd_at.pt ew7 kI33 (tg_ne tI33 tI16 (by decide))
        have k42 := wd_at.pt ew7 kI34 (tg_ne tI34 tI16 (by decide))
        have k43 := wd_at.pt ew7 kI35 (tg_ne tI35 tI16 (by decide))
        have k44 := wd_at.pt ew7 kI36 (tg_ne tI36 tI16 (by decide))
        have k45 := wd_at.pt ew7 kI37 (tg_ne tI37 tI16 (by decide))
        have k46 := wd_at.pt ew7 kI38 (tg_ne tI38 tI16 (by decide))
        have k47 := wd_at.pt ew7 kI39 (tg_ne tI39 tI16 (by decide))
        have k48 := wd_at.pt ew7 kI40 (tg_ne tI40 tI16 (by decide))
        have k49 := wd_at.pt ew7 kI41 (tg_ne tI41 tI16 (by decide))
        have k50 := wd_at.pt ew7 kI42 (tg_ne tI42 tI16 (by decide))
        have k51 := wd_at.pt ew7 kI43 (tg_ne tI43 tI16 (by decide))
        have k52 := wd_at.pt ew7 kI44 (tg_ne tI44 tI16 (by decide))
        have k53 := wd_at.pt ew7 kI45 (tg_ne tI45 tI16 (by decide))
        have k54 := wd_at.pt ew7 kI46 (tg_ne tI46 tI16 (by decide))
        have k55 := wd_at.pt ew7 kI47 (tg_ne tI47 tI16 (by decide))
        have k56 := wd_at.pt ew7 kI48 (tg_ne tI48 tI16 (by decide))
        have fm57 : ∀ k9, k9 < 12 → qp k9 = some (pr k9) ∧ wd_at w6 (pr k9) (.inl (cy 2, 12, .inl (fp k9))) ∧ tg (pr k9) = 11000 + k9 := fun k9 hi9 => ⟨(hFPR k9 hi9).1, wd_at.pt ew7 (hFPR k9 hi9).2.1 (tg_ne (hFPR k9 hi9).2.2 tI16 (tqA (show 10120 < 11000 by decide))), (hFPR k9 hi9).2.2⟩
        have fm58 : ∀ k9, k9 < 12 → qw k9 = some (wr k9) ∧ wd_at w6 (wr k9) (.inl (cy 2, 12, .inl (fw k9))) ∧ tg (wr k9) = 12000 + k9 := fun k9 hi9 => ⟨(hFWR k9 hi9).1, wd_at.pt ew7 (hFWR k9 hi9).2.1 (tg_ne (hFWR k9 hi9).2.2 tI16 (tqA (show 10120 < 12000 by decide))), (hFWR k9 hi9).2.2⟩
        have fm59 : ∀ k9, k9 < 60 → qs k9 = some (sr k9) ∧ wd_at w6 (sr k9) (.inl (cy 2, 12, .inl (fs k9))) ∧ tg (sr k9) = 13000 + k9 := fun k9 hi9 => ⟨(hFSR k9 hi9).1, wd_at.pt ew7 (hFSR k9 hi9).2.1 (tg_ne (hFSR k9 hi9).2.2 tI16 (tqA (show 10120 < 13000 by decide))), (hFSR k9 hi9).2.2⟩
        have kp60 := kp0.put ew7 (tgT tI16 (by decide))
        refine lv_iconst (v := 1) hx hb dX11_lose_45 (by decide) ?_
        have hX61 : IM cy tg y td pc ac sc ln se plv Pm Wm av1 (losC ac av2 av3 td (nI kk)) (losL ac av2 av3 td (nI kk)) zC tB lb rt tT av0 sp0 sp1 pwo phd pgd pdy pno ptp co ra sh hto hpp hle ham hhh hdd hru hde hcp hld w6 := IM.mk m2 m3 m4 m5 m6 m8 m9 m10 m11 m12 m13 m14 m17 m18 m19 m20 m21 m22 m23 m24 m29 m30 m31 m32 m33 m34 m35 m36 m37 m39 m40 m41 m42 m43 m44 m45 m46 m47 m48 m49 m51 m52 m53 m54 m56 m57 m58 m59 gf v0 v26 v27 v28 v50 f4 f5 f6 f8 f9 f10 f11 f12 f13 f14 f17 f18 f19 (upd f20 (nI kk).toNatClampNeg (vp_nar .boolean 1)) f21 f22 f29 f30 f31 f32 f33 f34 f35 f36 f37 f39 f40 f41 f42 f43 f44 f45 f46 f47 f48 f49 f51 f52 f53 f54 f56 f57 f58 f59 qp pr fp qw wr fw qs sr fs (by omega) (by omega) (by omega) (by omega) (by omega) (by omega) hrl hc ht hp hso hlo htd hmp hmw (by rw [show losC ac av2 av3 td (nI kk) = va_up av2 kk (-1) from by simp [losC, losB, c_4, clkk, cL, c_5, hhc], show losL ac av2 av3 td (nI kk) = va_up av3 kk 1 from by simp [losL, losB, c_4, clkk, cL, c_5, hhc]]; exact hav.l hkk (by omega)) hzm hlb hmt0 hav0 hs0 hs1 hco hra hpp9 hsh9 k8 tI0 k9 tI1 k10 tI2 k11 tI3 k12 tI4 k13 tI5 k14 tI6 k15 tI7 k16 tI8 k17 tI9 k18 tI10 k19 tI11 k20 tI12 k21 tI13 k22 tI14 k23 tI15 k24 tI16 k25 tI17 k26 tI18 k27 tI19 k28 tI20 k29 tI21 k30 tI22 k31 tI23 k32 tI24 k33 tI25 k34 tI26 k35 tI27 k36 tI28 k37 tI29 k38 tI30 k39 tI31 k40 tI32 k41 tI33 k42 tI34 k43 tI35 k44 tI36 k45 tI37 k46 tI38 k47 tI39 k48 tI40 k49 tI41 k50 tI42 k51 tI43 k52 tI44 k53 tI45 k54 tI46 k55 tI47 k56 tI48 fm57 fm58 fm59
        exact y_ir K hP hD hS (Nat.le_of_ble_eq_true rfl) (Nat.le_of_ble_eq_true rfl) (ty := .boolean) rfl rfl dX11_lose_46 (⟨(congrArg (fun z => some (Value.int z)) (show 1 = losA ac av2 av3 td (nI kk) from by simp [losA, losC, losL, losB, c_4, clkk, cL, c_5, hhc])), ⟨kp60, hX61⟩⟩)
      · have hhc : ¬ hcI (av2 kk) td = 0 := fun q => c_5 ((hc_mc htd).mpr q)
        refine lv_iconst (v := 0) hx hb dX11_lose_36 (by decide) ?_
        exact y_ir K hP hD hS (Nat.le_of_ble_eq_true rfl) (Nat.le_of_ble_eq_true rfl) (ty := .boolean) rfl rfl dX11_lose_37 (by refine ⟨(congrArg (fun z => some (Value.int z)) (show 0 = losA ac av2 av3 td (nI kk) from by simp [losA, losC, losL, losB, c_4, clkk, cL, c_5, hhc])), ?_⟩; rw [show losC ac av2 av3 td (nI kk) = av2 from by simp [losA, losC, losL, losB, c_4, clkk, cL, c_5, hhc], show losL ac av2 av3 td (nI kk) = av3 from by simp [losA, losC, losL, losB, c_4, clkk, cL, c_5, hhc]]; exact ⟨wd_kp.rf, hIM0⟩)
set_option maxHeartbeats 4000000 in
set_option maxRecDepth 100000 in
theorem M_stop (l : Launch) (D : va_G) (cy : Nat → ClassId) (sk sv : Nat → Nat) (w : Wd) (tg : Nat → Nat) (y : Nat) (td : Int32) (pc ac sc ln : Nat) (se plv : Nat → Int32) (Pm Wm : Nat → Nat → Nat) (av1 av2 av3 : Nat → Int32) (zC : Nat → Nat → Int32) (tB lb : Nat → Int32) (rt : Nat → Nat) (tT : Nat → Nat → Nat → Int32) (av0 sp0 sp1 pwo phd pgd pdy pno ptp co ra : Nat → Int32) (sh : Nat) (hto : Nat → Nat) (hpp hle ham hhh hdd hru hde hcp hld : Nat → Int32) (x1 x2 x3 : Int32) (hIM0 : IM cy tg y td pc ac sc ln se plv Pm Wm av1 av2 av3 zC tB lb rt tT av0 sp0 sp1 pwo phd pgd pdy pno ptp co ra sh hto hpp hle ham hhh hdd hru hde hcp hld w) : Ct l D cy sk sv yX11_stop wsX11_stop ({ frames := 1, cells := 0, slots := 0, locals := 26 }) [.ref y, .int x1, .int x2, .int x3] w (fun v w1 => v = some (.int (stpA plv pc sc x1 x2 x3)) ∧ MP cy tg y td pc ac (stpC plv pc sc x1 x2 x3) ln se plv Pm Wm av1 av2 av3 (stpU plv pc sc zC x1 x2 x3 (fun t8 => lday (nws 1 Pm Wm) td x3.toNatClampNeg t8)) tB lb rt tT av0 (stpU plv pc sc sp0 x1 x2 x3 x1) (stpU plv pc sc sp1 x1 x2 x3 x2) pwo phd pgd pdy pno ptp co ra sh hto hpp hle ham hhh hdd hru hde hcp hld w w1) := by
  refine Ct.by (cc := cX11_stop) (maxL := 5) (ret := (some .int)) (by decide +kernel) rfl (Nat.le_of_ble_eq_true rfl) ?_
  intro p e s m args below meth c A Q F hnm K ls hl
  have F : wd_Fx p s m args meth c cX11_stop 5 wsX11_stop RX11 D cy sk sv A := F
  have hl : lv_has ls 5 [(0, .ref y), (1, .int x1), (2, .int x2), (3, .int x3)] := hl
  have hx := F.1.1
  have hb := F.1.2.1
  have hown := F.1.2.2.2.1
  have hts := F.1.2.2.2.2
  intro H locs hP hD hS
  have kp0 : wd_kp (fun b => 10000 ≤ tg b) w w := wd_kp.rf
  refine hIM0 _ ?_
  intro m2 m3 m4 m5 m6 m8 m9 m10 m11 m12 m13 m14 m17 m18 m19 m20 m21 m22 m23 m24 m29 m30 m31 m32 m33 m34 m35 m36 m37 m39 m40 m41 m42 m43 m44 m45 m46 m47 m48 m49 m51 m52 m53 m54 m56 m57 m58 m59 gf v0 v26 v27 v28 v50 f4 f5 f6 f8 f9 f10 f11 f12 f13 f14 f17 f18 f19 f20 f21 f22 f29 f30 f31 f32 f33 f34 f35 f36 f37 f39 f40 f41 f42 f43 f44 f45 f46 f47 f48 f49 f51 f52 f53 f54 f56 f57 f58 f59 qp pr fp qw wr fw qs sr fs hp90 hp91 hp92 hp93 hp94 hp95 hrl hc ht hp hso hlo htd hmp hmw hav hzm hlb hmt0 hav0 hs0 hs1 hco hra hpp9 hsh9 kI0 tI0 kI1 tI1 kI2 tI2 kI3 tI3 kI4 tI4 kI5 tI5 kI6 tI6 kI7 tI7 kI8 tI8 kI9 tI9 kI10 tI10 kI11 tI11 kI12 tI12 kI13 tI13 kI14 tI14 kI15 tI15 kI16 tI16 kI17 tI17 kI18 tI18 kI19 tI19 kI20 tI20 kI21 tI21 kI22 tI22 kI23 tI23 kI24 tI24 kI25 tI25 kI26 tI26 kI27 tI27 kI28 tI28 kI29 tI29 kI30 tI30 kI31 tI31 kI32 tI32 kI33 tI33 kI34 tI34 kI35 tI35 kI36 tI36 kI37 tI37 kI38 tI38 kI39 tI39 kI40 tI40 kI41 tI41 kI42 tI42 kI43 tI43 kI44 tI44 kI45 tI45 kI46 tI46 kI47 tI47 kI48 tI48 hFPR hFWR hFSR
  refine lv_aload_n hx hb dX11_stop_0 rfl (lv_at hl 0 rfl) ?_
  refine x_get (ref := "NoteHouseModel") F hP kI0 rfl (fun _ h => List.mem_cons_of_mem _ (List.mem_append_right _ (h))) 16 (Nat.le_of_ble_eq_true rfl) (List.mem_cons_of_mem _ (List.mem_append_left _ (List.mem_of_getElem? (i := 0) rfl))) rfl rfl dX11_stop_1 ?_
  refine lv_bipush (v := 60) hx hb dX11_stop_4 (by decide) ?_
  refine lv_icmp_eq (tgt := 51) hx hb dX11_stop_6 (by decide) (fun c_1 => ?_) (fun c_1 => ?_)
  · have h60 : (60 : Int32) ≤ nI sc := by rw [c_1]; exact Int32.le_refl _
    refine lv_iconst (v := (-1)) hx hb dX11_stop_51 (by decide) ?_
    exact y_ir K hP hD hS (Nat.le_of_ble_eq_true rfl) (Nat.le_of_ble_eq_true rfl) (ty := .int) rfl rfl dX11_stop_52 (by refine ⟨(congrArg (fun z => some (Value.int z)) (show (-1) = stpA plv pc sc x1 x2 x3 from by simp [stpA, stpC, stpU, c_1, h60])), ?_⟩; rw [show stpC plv pc sc x1 x2 x3 = sc from by simp [stpA, stpC, stpU, c_1, h60], show stpU plv pc sc sp0 x1 x2 x3 x1 = sp0 from by simp [stpA, stpC, stpU, c_1, h60], show stpU plv pc sc sp1 x1 x2 x3 x2 = sp1 from by simp [stpA, stpC, stpU, c_1, h60], show stpU plv pc sc zC x1 x2 x3 (fun t8 => lday (nws 1 Pm Wm) td x3.toNatClampNeg t8) = zC from by simp [stpA, stpC, stpU, c_1, h60]]; exact ⟨wd_kp.rf, hIM0⟩)
  · have hb_sc : sc < 60 := by have h9 : ¬ sc = 60 := fun q => c_1 (by rw [q]; rfl); omega
    have h60 : ¬ (60 : Int32) ≤ nI sc := fun q => absurd ((nI_leI (a := 60) (b := sc) (by omega) (by omega)).mp q) (by omega)
    refine lv_iload_n hx hb dX11_stop_9 rfl (lv_at hl 1 rfl) ?_
    refine lv_iconst (v := 0) hx hb dX11_stop_10 (by decide) ?_
    refine lv_aload_n hx hb dX11_stop_11 rfl (lv_at hl 0 rfl) ?_
    refine x_get (ref := "NoteHouseModel") F hP kI0 rfl (fun _ h => List.mem_cons_of_mem _ (List.mem_append_right _ (h))) 7 (Nat.le_of_ble_eq_true rfl) (List.mem_cons_of_mem _ (List.mem_append_left _ (List.mem_of_getElem? (i := 1) rfl))) rfl rfl dX11_stop_12 ?_
    refine lv_iconst (v := 1) hx hb dX11_stop_15 (by decide) ?_
    refine lv_isub hx hb dX11_stop_16 ?_
    refine x_callS (n := 3) (As := [.int x1, .int 0, .int ((nI pc) - 1)]) (rest := []) F hP hD hS (g_in l D cy sk sv w x1 0 ((nI pc) - 1)) gX11_stop_X11_in rfl (by decide +kernel) ⟨(Nat.le_of_ble_eq_true rfl), (Nat.le_of_ble_eq_true rfl)⟩ rfl hl.1 (Nat.le_of_ble_eq_true rfl) dX11_stop_17 rfl ⟨(Nat.le_of_ble_eq_true rfl), (Nat.le_of_ble_eq_true rfl)⟩ (fun v3 w4 hp2 H locs hP hD hS => ?_)
    obtain ⟨rfl, rfl⟩ := hp2
    refine W.eq (g2 := F0 m 20 ls [.int (wi x1 0 ((nI pc) - 1))]) rfl (W.widen (k := 0) (n := 0) (Nat.le_of_ble_eq_true rfl) (Nat.le_of_ble_eq_true rfl) ?_)
    refine lv_if_eq (tgt := 51) hx hb dX11_stop_20 (by decide) (fun c_5 => ?_) (fun c_5 => ?_)
    · refine lv_iconst (v := (-1)) hx hb dX11_stop_51 (by decide) ?_
      exact y_ir K hP hD hS (Nat.le_of_ble_eq_true rfl) (Nat.le_of_ble_eq_true rfl) (ty := .int) rfl rfl dX11_stop_52 (by refine ⟨(congrArg (fun z => some (Value.int z)) (show (-1) = stpA plv pc sc x1 x2 x3 from by simp [stpA, stpC, stpU, c_1, h60, c_5])), ?_⟩; rw [show stpC plv pc sc x1 x2 x3 = sc from by simp [stpA, stpC, stpU, c_1, h60, c_5], show stpU plv pc sc sp0 x1 x2 x3 x1 = sp0 from by simp [stpA, stpC, stpU, c_1, h60, c_5], show stpU plv pc sc sp1 x1 x2 x3 x2 = sp1 from by simp [stpA, stpC, stpU, c_1, h60, c_5], show stpU plv pc sc zC x1 x2 x3 (fun t8 => lday (nws 1 Pm Wm) td x3.toNatClampNeg t8) = zC from by simp [stpA, stpC, stpU, c_1, h60, c_5]]; exact ⟨wd_kp.rf, hIM0⟩)
    · obtain ⟨pq, hpq, rfl⟩ := pb_i (by omega) c_5
      have clpq : (nI pq).toNatClampNeg = pq := nI_clamp (by omega)
      refine lv_iload_n hx hb dX11_stop_23 rfl (lv_at hl 3 rfl) ?_
      refine x_callS (n := 1) (As := [.int x3]) (rest := []) F hP hD hS (g_mTown l D cy sk sv w x3) gX11_stop_X11_isTown rfl (by decide +kernel) ⟨(Nat.le_of_ble_eq_true rfl), (Nat.le_of_ble_eq_true rfl)⟩ rfl hl.1 (Nat.le_of_ble_eq_true rfl) dX11_stop_24 rfl ⟨(Nat.le_of_ble_eq_true rfl), (Nat.le_of_ble_eq_true rfl)⟩ (fun v7 w8 hp6 H locs hP hD hS => ?_)
      obtain ⟨rfl, rfl⟩ := hp6
      refine W.eq (g2 := F0 m 27 ls [.int (wi x3 0 11)]) rfl (W.widen (k := 0) (n := 0) (Nat.le_of_ble_eq_true rfl) (Nat.le_of_ble_eq_true rfl) ?_)
      refine lv_if_eq (tgt := 51) hx hb dX11_stop_27 (by decide) (fun c_9 => ?_) (fun c_9 => ?_)
      · refine lv_iconst (v := (-1)) hx hb dX11_stop_51 (by decide) ?_
        exact y_ir K hP hD hS (Nat.le_of_ble_eq_true rfl) (Nat.le_of_ble_eq_true rfl) (ty := .int) rfl rfl dX11_stop_52 (by refine ⟨(congrArg (fun z => some (Value.int z)) (show (-1) = stpA plv pc sc (nI pq) x2 x3 from by simp [stpA, stpC, stpU, c_1, h60, c_5, clpq, c_9])), ?_⟩; rw [show stpC plv pc sc (nI pq) x2 x3 = sc from by simp [stpA, stpC, stpU, c_1, h60, c_5, clpq, c_9], show stpU plv pc sc sp0 (nI pq) x2 x3 (nI pq) = sp0 from by simp [stpA, stpC, stpU, c_1, h60, c_5, clpq, c_9], show stpU plv pc sc sp1 (nI pq) x2 x3 x2 = sp1 from by simp [stpA, stpC, stpU, c_1, h60, c_5, clpq, c_9], show stpU plv pc sc zC (nI pq) x2 x3 (fun t8 => lday (nws 1 Pm Wm) td x3.toNatClampNeg t8) = zC from by simp [stpA, stpC, stpU, c_1, h60, c_5, clpq, c_9]]; exact ⟨wd_kp.rf, hIM0⟩)
      · obtain ⟨tw, htw, rfl, cltw⟩ := wi_t c_9
        refine lv_iload_n hx hb dX11_stop_30 rfl (lv_at hl 2 rfl) ?_
        refine lv_iconst (v := (-1)) hx hb dX11_stop_31 (by decide) ?_
        refine lv_icmp_eq (tgt := 53) hx hb dX11_stop_32 (by decide) (fun c_10 => ?_) (fun c_10 => ?_)
        · refine lv_aload_n hx hb dX11_stop_53 rfl (lv_at hl 0 rfl) ?_
          refine lv_iload_n hx hb dX11_stop_54 rfl (lv_at hl 3 rfl) ?_
          refine lv_iconst (v := 1) hx hb dX11_stop_55 (by decide) ?_
          refine x_callV (n := 2) (As := [.int (nI tw), .int 1]) (rest := []) F hP hD hS (m_sends l D cy sk sv w tg y m2 m3 m4 m5 m6 m8 m9 m10 m11 m12 m13 m14 m17 m18 m19 m20 m21 m22 m23 m24 m29 m30 m31 m32 m33 m34 m35 m36 m37 m39 m40 m41 m42 m43 m44 m45 m46 m47 m48 m49 m51 m52 m53 m54 m56 m57 m58 m59 pc ac sc ln sh gf v0 td v26 v27 v28 v50 f6 qp pr fp qw wr fw tw 1 Pm Wm kI0 kI5 kI1 kI2 hFPR hFWR (fun b => b = m6) rfl tI0 tI5 tI1 tI2 (by omega) (by assumption) (by assumption)) gX11_stop_X11_sends rfl rfl (by decide +kernel) ⟨(Nat.le_of_ble_eq_true rfl), (Nat.le_of_ble_eq_true rfl)⟩ rfl hl.1 (Nat.le_of_ble_eq_true rfl) kI0 rfl dX11_stop_56 rfl ⟨(Nat.le_of_ble_eq_true rfl), (Nat.le_of_ble_eq_true rfl)⟩ (fun v12 w13 hp11 H locs hP hD hS => ?_)
          obtain ⟨gx14, rfl, hz15, kq17, k16⟩ := hp11
          have k18 := kq17.2 _ _ kI0 (tg_ne tI0 tI5 (by decide))
          have k19 := kq17.2 _ _ kI1 (tg_ne tI1 tI5 (by decide))
          have k20 := kq17.2 _ _ kI2 (tg_ne tI2 tI5 (by decide))
          have k21 := kq17.2 _ _ kI3 (tg_ne tI3 tI5 (by decide))
          have k22 := kq17.2 _ _ kI4 (tg_ne tI4 tI5 (by decide))
          have k23 := kq17.2 _ _ kI6 (tg_ne tI6 tI5 (by decide))
          have k24 := kq17.2 _ _ kI7 (tg_ne tI7 tI5 (by decide))
          have k25 := kq17.2 _ _ kI8 (tg_ne tI8 tI5 (by decide))
          have k26 := kq17.2 _ _ kI9 (tg_ne tI9 tI5 (by decide))
          have k27 := kq17.2 _ _ kI10 (tg_ne tI10 tI5 (by decide))
          have k28 := kq17.2 _ _ kI11 (tg_ne tI11 tI5 (by decide))
          have k29 := kq17.2 _ _ kI12 (tg_ne tI12 tI5 (by decide))
          have k30 := kq17.2 _ _ kI13 (tg_ne tI13 tI5 (by decide))
          have k31 := kq17.2 _ _ kI14 (tg_ne tI14 tI5 (by decide))
          have k32 := kq17.2 _ _ kI15 (tg_ne tI15 tI5 (by decide))
          have k33 := kq17.2 _ _ kI16 (tg_ne tI16 tI5 (by decide))
          have k34 := kq17.2 _ _ kI17 (tg_ne tI17 tI5 (by decide))
          have k35 := kq17.2 _ _ kI18 (tg_ne tI18 tI5 (by decide))
          have k36 := kq17.2 _ _ kI19 (tg_ne tI19 tI5 (by decide))
          have k37 := kq17.2 _ _ kI20 (tg_ne tI20 tI5 (by decide))
          have k38 := kq17.2 _ _ kI21 (tg_ne tI21 tI5 (by decide))
          have k39 := kq17.2 _ _ kI22 (tg_ne tI22 tI5 (by decide))
          have k40 := kq17.2 _ _ kI23 (tg_ne tI23 tI5 (by decide))
          have k41 := kq17.2 _ _ kI24 (tg_ne tI24 tI5 (by decide))
          have k42 := kq17.2 _ _ kI25 (tg_ne tI25 tI5 (by decide))
          have k43 := kq17.2 _ _ kI26 (tg_ne tI26 tI5 (by decide))
          have k44 := kq17.2 _ _ kI27 (tg_ne tI27 tI5 (by decide))
          have k45 := kq17.2 _ _ kI28 (tg_ne tI28 tI5 (by decide))
          have k46 := kq17.2 _ _ kI29 (tg_ne tI29 tI5 (by decide))
          have k47 := kq17.2 _ _ kI30 (tg_ne tI30 tI5 (by decide))
          have k48 := kq17.2 _ _ kI31 (tg_ne tI31 tI5 (by decide))
          have k49 := kq17.2 _ _ kI32 (tg_ne tI32 tI5 (by decide))
          have k50 := kq17.2 _ _ kI33 (tg_ne tI33 tI5 (by decide))
          have k51 := kq17.2 _ _ kI34 (tg_ne tI34 tI5 (by decide))
          have k52 := kq17.2 _ _ kI35 (tg_ne tI35 tI5 (by decide))
          have k53 := kq17.2 _ _ kI36 (tg_ne tI36 tI5 (by decide))
          have k54 := kq17.2 _ _ kI37 (tg_ne tI37 tI5 (by decide))
          have k55 := kq17.2 _ _ kI38 (tg_ne tI38 tI5 (by decide))
          have k56 := kq17.2 _ _ kI39 (tg_ne tI39 tI5 (by decide))
          have k57 := kq17.2 _ _ kI40 (tg_ne tI40 tI5 (by decide))
          have k58 := kq17.2 _ _ kI41 (tg_ne tI41 tI5 (by decide))
          have k59 := kq17.2 _ _ kI42 (tg_ne tI42 tI5 (by decide))
          have k60 := kq17.2 _ _ kI43 (tg_ne tI43 tI5 (by decide))
          have k61 := kq17.2 _ _ kI44 (tg_ne tI44 tI5 (by decide))
          have k62 := kq17.2 _ _ kI45 (tg_ne tI45 tI5 (by decide))
          have k63 := kq17.2 _ _ kI46 (tg_ne tI46 tI5 (by decide))
          have k64 := kq17.2 _ _ kI47 (tg_ne tI47 tI5 (by decide))
          have k65 := kq17.2 _ _ kI48 (tg_ne tI48 tI5 (by decide))
          have fm66 : ∀ k9, k9 < 12 → qp k9 = some (pr k9) ∧ wd_at w13 (pr k9) (.inl (cy 2, 12, .inl (fp k9))) ∧ tg (pr k9) = 11000 + k9 := fun k9 hi9 => ⟨(hFPR k9 hi9).1, kq17.2 _ _ (hFPR k9 hi9).2.1 (tg_ne (hFPR k9 hi9).2.2 tI5 (tqA (show 10106 < 11000 by decide))), (hFPR k9 hi9).2.2⟩
          have fm67 : ∀ k9, k9 < 12 → qw k9 = some (wr k9) ∧ wd_at w13 (wr k9) (.inl (cy 2, 12, .inl (fw k9))) ∧ tg (wr k9) = 12000 + k9 := fun k9 hi9 => ⟨(hFWR k9 hi9).1, kq17.2 _ _ (hFWR k9 hi9).2.1 (tg_ne (hFWR k9 hi9).2.2 tI5 (tqA (show 10106 < 12000 by decide))), (hFWR k9 hi9).2.2⟩
          have fm68 : ∀ k9, k9 < 60 → qs k9 = some (sr k9) ∧ wd_at w13 (sr k9) (.inl (cy 2, 12, .inl (fs k9))) ∧ tg (sr k9) = 13000 + k9 := fun k9 hi9 => ⟨(hFSR k9 hi9).1, kq17.2 _ _ (hFSR k9 hi9).2.1 (tg_ne (hFSR k9 hi9).2.2 tI5 (tqA (show 10106 < 13000 by decide))), (hFSR k9 hi9).2.2⟩
          have kp69 := kp0.tr kq17 (fun b9 hm q9 => (fun q9 => q9 ▸ (tgT tI5 (by decide))) q9)
          refine W.eq (g2 := F0 m 59 ls []) rfl (W.widen (k := 0) (n := 0) (Nat.le_of_ble_eq_true rfl) (Nat.le_of_ble_eq_true rfl) ?_)
          refine lv_aload_n hx hb dX11_stop_59 rfl (lv_at hl 0 rfl) ?_
          refine x_get (ref := "NoteHouseModel") F hP k18 rfl (fun _ h => List.mem_cons_of_mem _ (List.mem_append_right _ (h))) 21 (Nat.le_of_ble_eq_true rfl) (List.mem_cons_of_mem _ (List.mem_append_left _ (List.mem_of_getElem? (i := 3) rfl))) rfl rfl dX11_stop_60 ?_
          refine lv_aload_n hx hb dX11_stop_63 rfl (lv_at hl 0 rfl) ?_
          refine x_get (ref := "NoteHouseModel") F hP k18 rfl (fun _ h => List.mem_cons_of_mem _ (List.mem_append_right _ (h))) 16 (Nat.le_of_ble_eq_true rfl) (List.mem_cons_of_mem _ (List.mem_append_left _ (List.mem_of_getElem? (i := 0) rfl))) rfl rfl dX11_stop_64 ?_
          refine lv_iload_n hx hb dX11_stop_67 rfl (lv_at hl 1 rfl) ?_
          refine y_iast F hP hD hS k34 (vp_in_nI (n := sc) (N := 60) (by omega) (by decide)) dX11_stop_68 (fun w70 ew71 H locs hP hD hS => ?_)
          have k72 := wd_at.pt ew71 k18 (tg_ne tI0 tI17 (by decide))
          have k73 := wd_at.pt ew71 k19 (tg_ne tI1 tI17 (by decide))
          have k74 := wd_at.pt ew71 k20 (tg_ne tI2 tI17 (by decide))
          have k75 := wd_at.pt ew71 k21 (tg_ne tI3 tI17 (by decide))
          have k76 := wd_at.pt ew71 k22 (tg_ne tI4 tI17 (by decide))
          have k77 := wd_at.pt ew71 k16 (tg_ne tI5 tI17 (by decide))
          have k78 := wd_at.pt ew71 k23 (tg_ne tI6 tI17 (by decide))
          have k79 := wd_at.pt ew71 k24 (tg_ne tI7 tI17 (by decide))
          have k80 := wd_at.pt ew71 k25 (tg_ne tI8 tI17 (by decide))
          have k81 := wd_at.pt ew71 k26 (tg_ne tI9 tI17 (by decide))
          have k82 := wd_at.pt ew71 k27 (tg_ne tI10 tI17 (by decide))
          have k83 := wd_at.pt ew71 k28 (tg_ne tI11 tI17 (by decide))
          have k84 := wd_at.pt ew71 k29 (tg_ne tI12 tI17 (by decide))
          have k85 := wd_at.pt ew71 k30 (tg_ne tI13 tI17 (by decide))
          have k86 := wd_at.pt ew71 k31 (tg_ne tI14 tI17 (by decide))
          have k87 := wd_at.pt ew71 k32 (tg_ne tI15 tI17 (by decide))
          have k88 := wd_at.pt ew71 k33 (tg_ne tI16 tI17 (by decide))
          have k89 : wd_at w70 m21 (.inl (cy 2, 60, .inl (upd f21 (nI sc).toNatClampNeg (nI pq)))) := wd_at.ps ew71 k34
          have k90 := wd_at.pt ew71 k35 (tg_ne tI18 tI17 (by decide))
          have k91 := wd_at.pt ew71 k36 (tg_ne tI19 tI17 (by decide))
          have k92 := wd_at.pt ew71 k37 (tg_ne tI20 tI17 (by decide))
          have k93 := wd_at.pt ew71 k38 (tg_ne tI21 tI17 (by decide))
          have k94 := wd_at.pt ew71 k39 (tg_ne tI22 tI17 (by decide))
          have k95 := wd_at.pt ew71 k40 (tg_ne tI23 tI17 (by decide))
          have k96 := wd_at.pt ew71 k41 (tg_ne tI24 tI17 (by decide))
          have k97 := wd_at.pt ew71 k42 (tg_ne tI25 tI17 (by decide))
          have k98 := wd_at.pt ew71 k43 (tg_ne tI26 tI17 (by decide))
          have k99 := wd_at.pt ew71 k44 (tg_ne tI27 tI17 (by decide))
          have k100 := wd_at.pt ew71 k45 (tg_ne tI28 tI17 (by decide))
          have k101 := wd_at.pt ew71 k46 (tg_ne tI29 tI17 (by decide))
          have k102 := wd_at.pt ew71 k47 (tg_ne tI30 tI17 (by decide))
          have k103 := wd_at.pt ew71 k48 (tg_ne tI31 tI17 (by decide))
          have k104 := wd_at.pt ew71 k49 (tg_ne tI32 tI17 (by decide))
          have k105 := wd_at.pt ew71 k50 (tg_ne tI33 tI17 (by decide))
          have k106 := wd_at.pt ew71 k51 (tg_ne tI34 tI17 (by decide))
          have k107 := wd_at.pt ew71 k52 (tg_ne tI35 tI17 (by decide))
          have k108 := wd_at.pt ew71 k53 (tg_ne tI36 tI17 (by decide))
          have k109 := wd_at.pt ew71 k54 (tg_ne tI37 tI17 (by decide))
          have k110 := wd_at.pt ew71 k55 (tg_ne tI38 tI17 (by decide))
          have k111 := wd_at.pt ew71 k56 (tg_ne tI39 tI17 (by decide))
          have k112 := wd_at.pt ew71 k57 (tg_ne tI40 tI17 (by decide))
          have k113 := wd_at.pt ew71 k58 (tg_ne tI41 tI17 (by decide))
          have k114 := wd_at.pt ew71 k59 (tg_ne tI42 tI17 (by decide))
          have k115 := wd_at.pt ew71 k60 (tg_ne tI43 tI17 (by decide))
          have k116 := wd_at.pt ew71 k61 (tg_ne tI44 tI17 (by decide))
          have k117 := wd_at.pt ew71 k62 (tg_ne tI45 tI17 (by decide))
          have k118 := wd_at.pt ew71 k63 (tg_ne tI46 tI17 (by decide))
          have k119 := wd_at.pt ew71 k64 (tg_ne tI47 tI17 (by decide))
          have k120 := wd_at.pt ew71 k65 (tg_ne tI48 tI17 (by decide))
          have fm121 : ∀ k9, k9 < 12 → qp k9 = some (pr k9) ∧ wd_at w70 (pr k9) (.inl (cy 2, 12, .inl (fp k9))) ∧ tg (pr k9) = 11000 + k9 := fun k9 hi9 => ⟨(fm66 k9 hi9).1, wd_at.pt ew71 (fm66 k9 hi9).2.1 (tg_ne (fm66 k9 hi9).2.2 tI17 (tqA (show 10121 < 11000 by decide))), (fm66 k9 hi9).2.2⟩
          have fm122 : ∀ k9, k9 < 12 → qw k9 = some (wr k9) ∧ wd_at w70 (wr k9) (.inl (cy 2, 12, .inl (fw k9))) ∧ tg (wr k9) = 12000 + k9 := fun k9 hi9 => ⟨(fm67 k9 hi9).1, wd_at.pt ew71 (fm67 k9 hi9).2.1 (tg_ne (fm67 k9 hi9).2.2 tI17 (tqA (show 10121 < 12000 by decide))), (fm67 k9 hi9).2.2⟩
          have fm123 : ∀ k9, k9 < 60 → qs k9 = some (sr k9) ∧ wd_at w70 (sr k9) (.inl (cy 2, 12, .inl (fs k9))) ∧ tg (sr k9) = 13000 + k9 := fun k9 hi9 => ⟨(fm68 k9 hi9).1, wd_at.pt ew71 (fm68 k9 hi9).2.1 (tg_ne (fm68 k9 hi9).2.2 tI17 (tqA (show 10121 < 13000 by decide))), (fm68 k9 hi9).2.2⟩
          have kp124 := kp69.put ew71 (tgT tI17 (by decide))
          refine lv_aload_n hx hb dX11_stop_69 rfl (lv_at hl 0 rfl) ?_
          refine x_get (ref := "NoteHouseModel") F hP k72 rfl (fun _ h => List.mem_cons_of_mem _ (List.mem_append_right _ (h))) 22 (Nat.le_of_ble_eq_true rfl) (List.mem_cons_of_mem _ (List.mem_append_left _ (List.mem_of_getElem? (i := 4) rfl))) rfl rfl dX11_stop_70 ?_
          refine lv_aload_n hx hb dX11_stop_73 rfl (lv_at hl 0 rfl) ?_
          refine x_get (ref := "NoteHouseModel") F hP k72 rfl (fun _ h => List.mem_cons_of_mem _ (List.mem_append_right _ (h))) 16 (Nat.le_of_ble_eq_true rfl) (List.mem_cons_of_mem _ (List.mem_append_left _ (List.mem_of_getElem? (i := 0) rfl))) rfl rfl dX11_stop_74 ?_
          refine lv_iload_n hx hb dX11_stop_77 rfl (lv_at hl 2 rfl) ?_
          refine y_iast F hP hD hS k90 (vp_in_nI (n := sc) (N := 60) (by omega) (by decide)) dX11_stop_78 (fun w125 ew126 H locs hP hD hS => ?_)
          have k127 := wd_at.pt ew126 k72 (tg_ne tI0 tI18 (by decide))
          have k128 := wd_at.pt ew126 k73 (tg_ne tI1 tI18 (by decide))
          have k129 := wd_at.pt ew126 k74 (tg_ne tI2 tI18 (by decide))
          have k130 := wd_at.pt ew126 k75 (tg_ne tI3 tI18 (by decide))
          have k131 := wd_at.pt ew126 k76 (tg_ne tI4 tI18 (by decide))
          have k132 := wd_at.pt ew126 k77 (tg_ne tI5 tI18 (by decide))
          have k133 := wd_at.pt ew126 k78 (tg_ne tI6 tI18 (by decide))
          have k134 := wd_at.pt ew126 k79 (tg_ne tI7 tI18 (by decide))
          have k135 := wd_at.pt ew126 k80 (tg_ne tI8 tI18 (by decide))
          have k136 := wd_at.pt ew126 k81 (tg_ne tI9 tI18 (by decide))
          have k137 := wd_at.pt ew126 k82 (tg_ne tI10 tI18 (by decide))
          have k138 := wd_at.pt ew126 k83 (tg_ne tI11 tI18 (by decide))
          have k139 := wd_at.pt ew126 k84 (tg_ne tI12 tI18 (by decide))
          have k140 := wd_at.pt ew126 k85 (tg_ne tI13 tI18 (by decide))
          have k141 := wd_at.pt ew126 k86 (tg_ne tI14 tI18 (by decide))
          have k142 := wd_at.pt ew126 k87 (tg_ne tI15 tI18 (by decide))
          have k143 := wd_at.pt ew126 k88 (tg_ne tI16 tI18 (by decide))
          have k144 := wd_at.pt ew126 k89 (tg_ne tI17 tI18 (by decide))
          have k145 : wd_at w125 m22 (.inl (cy 2, 60, .inl (upd f22 (nI sc).toNatClampNeg x2))) := wd_at.ps ew126 k90
          have k146 := wd_at.pt ew126 k91 (tg_ne tI19 tI18 (by decide))
          have k147 := wd_at.pt ew126 k92 (tg_ne tI20 tI18 (by decide))
          have k148 := wd_at.pt ew126 k93 (tg_ne tI21 tI18 (by decide))
          have k149 := wd_at.pt ew126 k94 (tg_ne tI22 tI18 (by decide))
          have k150 := wd_at.pt ew126 k95 (tg_ne tI23 tI18 (by decide))
          have k151 := wd_at.pt ew126 k96 (tg_ne tI24 tI18 (by decide))
          have k152 := wd_at.pt ew126 k97 (tg_ne tI25 tI18 (by decide))
          have k153 := wd_at.pt ew126 k98 (tg_ne tI26 tI18 (by decide))
          have k154 := wd_at.pt ew126 k99 (tg_ne tI27 tI18 (by decide))
          have k155 := wd_at.pt ew126 k100 (tg_ne tI28 tI18 (by decide))
          have k156 := wd_at.pt ew126 k101 (tg_ne tI29 tI18 (by decide))
          have k157 := wd_at.pt ew126 k102 (tg_ne tI30 tI18 (by decide))
          have k158 := wd_at.pt ew126 k103 (tg_ne tI31 tI18 (by decide))
          have k159 := wd_at.pt ew126 k104 (tg_ne tI32 tI18 (by decide))
          have k160 := wd_at.pt ew126 k105 (tg_ne tI33 tI18 (by decide))
          have k161 := wd_at.pt ew126 k106 (tg_ne tI34 tI18 (by decide))
          have k162 := wd_at.pt ew126 k107 (tg_ne tI35 tI18 (by decide))
          have k163 := wd_at.pt ew126 k108 (tg_ne tI36 tI18 (by decide))
          have k164 := wd_at.pt ew126 k109 (tg_ne tI37 tI18 (by decide))
          have k165 := wd_at.pt ew126 k110 (tg_ne tI38 tI18 (by decide))
          have k166 := wd_at.pt ew126 k111 (tg_ne tI39 tI18 (by decide))
          have k167 := wd_at.pt ew126 k112 (tg_ne tI40 tI18 (by decide))
          have k168 := wd_at.pt ew126 k113 (tg_ne tI41 tI18 (by decide))
          have k169 := wd_at.pt ew126 k114 (tg_ne tI42 tI18 (by decide))
          have k170 := wd_at.pt ew126 k115 (tg_ne tI43 tI18 (by decide))
          have k171 := wd_at.pt ew126 k116 (tg_ne tI44 tI18 (by decide))
          have k172 := wd_at.pt ew126 k117 (tg_ne tI45 tI18 (by decide))
          have k173 := wd_at.pt ew126 k118 (tg_ne tI46 tI18 (by decide))
          have k174 := wd_at.pt ew126 k119 (tg_ne tI47 tI18 (by decide))
          have k175 := wd_at.pt ew126 k120 (tg_ne tI48 tI18 (by decide))
          have fm176 : ∀ k9, k9 < 12 → qp k9 = some (pr k9) ∧ wd_at w125 (pr k9) (.inl (cy 2, 12, .inl (fp k9))) ∧ tg (pr k9) = 11000 + k9 := fun k9 hi9 => ⟨(fm121 k9 hi9).1, wd_at.pt ew126 (fm121 k9 hi9).2.1 (tg_ne (fm121 k9 hi9).2.2 tI18 (tqA (show 10122 < 11000 by decide))), (fm121 k9 hi9).2.2⟩
          have fm177 : ∀ k9, k9 < 12 → qw k9 = some (wr k9) ∧ wd_at w125 (wr k9) (.inl (cy 2, 12, .inl (fw k9))) ∧ tg (wr k9) = 12000 + k9 := fun k9 hi9 => ⟨(fm122 k9 hi9).1, wd_at.pt ew126 (fm122 k9 hi9).2.1 (tg_ne (fm122 k9 hi9).2.2 tI18 (tqA (show 10122 < 12000 by decide))), (fm122 k9 hi9).2.2⟩
          have fm178 : ∀ k9, k9 < 60 → qs k9 = some (sr k9) ∧ wd_at w125 (sr k9) (.inl (cy 2, 12, .inl (fs k9))) ∧ tg (sr k9) = 13000 + k9 := fun k9 hi9 => ⟨(fm123 k9 hi9).1, wd_at.pt ew126 (fm123 k9 hi9).2.1 (tg_ne (fm123 k9 hi9).2.2 tI18 (tqA (show 10122 < 13000 by decide))), (fm123 k9 hi9).2.2⟩
          have kp179 := kp124.put ew126 (tgT tI18 (by decide))
          have pr180 := (fm178 sc (by omega)).1
          have k181 := (fm178 sc (by omega)).2.1
          have tz182 := (fm178 sc (by omega)).2.2
          have fm183 : ∀ k9, k9 < 60 ∧ k9 ≠ sc → qs k9 = some (sr k9) ∧ wd_at w125 (sr k9) (.inl (cy 2, 12, .inl (fs k9))) ∧ tg (sr k9) = 13000 + k9 := fun k9 hi8 => fm178 k9 hi8.1
          refine lv_iconst (v := 0) hx hb dX11_stop_79 (by decide) ?_
          refine lv_istore (lv' := [(4, .int 0), (0, .ref y), (1, .int (nI pq)), (2, .int x2), (3, .int (nI tw))]) hx hb dX11_stop_80 hl (by decide) rfl (fun ls hl => ?_)
          have lp82 : ∀ (N : Nat) (t : Nat) (g9 : Nat → Int32) (w184 : Wd), (t + N = 12) → (∀ z, z < t → g9 z = mc (lday (nws 1 Pm Wm) td tw z) ∧ zb (lday (nws 1 Pm Wm) td tw z)) → (wd_at w184 y (.inr (11, [.int v0, .int td, .ref m2, .ref m3, .ref m4, .ref m5, .ref m6, .int (nI pc), .ref m8, .ref m9, .ref m10, .ref m11, .ref m12, .ref m13, .ref m14, .int (nI ac), .int (nI sc), .ref m17, .ref m18, .ref m19, .ref m20, .ref m21, .ref m22, .ref m23, .ref m24, .int (nI ln), .int v26, .int v27, .int v28, .ref m29, .ref m30, .ref m31, .ref m32, .ref m33, .ref m34, .ref m35, .ref m36, .ref m37, .int (nI sh), .ref m39, .ref m40, .ref m41, .ref m42, .ref m43, .ref m44, .ref m45, .ref m46, .ref m47, .ref m48, .ref m49, .int v50, .ref m51, .ref m52, .ref m53, .ref m54, .int (nI gf), .ref m56, .ref m57, .ref m58, .ref m59]))) → (wd_at w184 m2 (.inl (cy 10, 12, .inr (.inr (.inr (.inr qp)))))) → (wd_at w184 m3 (.inl (cy 10, 12, .inr (.inr (.inr (.inr qw)))))) → (wd_at w184 m4 (.inl (cy 2, 12, .inl f4))) → (wd_at w184 m5 (.inl (cy 2, 12, .inl f5))) → (wd_at w184 m6 (.inl (cy 2, 12, .inl gx14))) → (wd_at w184 m8 (.inl (cy 2, 30, .inl f8))) → (wd_at w184 m9 (.inl (cy 2, 30, .inl f9))) → (wd_at w184 m10 (.inl (cy 2, 30, .inl f10))) → (wd_at w184 m11 (.inl (cy 2, 30, .inl f11))) → (wd_at w184 m12 (.inl (cy 2, 30, .inl f12))) → (wd_at w184 m13 (.inl (cy 2, 30, .inl f13))) → (wd_at w184 m14 (.inl (cy 2, 30, .inl f14))) → (wd_at w184 m17 (.inl (cy 2, 60, .inl f17))) → (wd_at w184 m18 (.inl (cy 2, 60, .inl f18))) → (wd_at w184 m19 (.inl (cy 2, 60, .inl f19))) → (wd_at w184 m20 (.inl (cy 4, 60, .inl f20))) → (wd_at w184 m21 (.inl (cy 2, 60, .inl (upd f21 (nI sc).toNatClampNeg (nI pq))))) → (wd_at w184 m22 (.inl (cy 2, 60, .inl (upd f22 (nI sc).toNatClampNeg x2)))) → (wd_at w184 m23 (.inl (cy 10, 60, .inr (.inr (.inr (.inr qs)))))) → (wd_at w184 m24 (.inl (cy 0, 300, .inl tB))) → (wd_at w184 m29 (.inl (cy 2, 12, .inl f29))) → (wd_at w184 m30 (.inl (cy 2, 156, .inl f30))) → (wd_at w184 m31 (.inl (cy 2, 156, .inl f31))) → (wd_at w184 m32 (.inl (cy 2, 936, .inl f32))) → (wd_at w184 m33 (.inl (cy 2, 936, .inl f33))) → (wd_at w184 m34 (.inl (cy 2, 936, .inl f34))) → (wd_at w184 m35 (.inl (cy 2, 5, .inl f35))) → (wd_at w184 m36 (.inl (cy 4, 5, .inl f36))) → (wd_at w184 m37 (.inl (cy 2, 5, .inl f37))) → (wd_at w184 m39 (.inl (cy 2, 200, .inl f39))) → (wd_at w184 m40 (.inl (cy 2, 200, .inl f40))) → (wd_at w184 m41 (.inl (cy 2, 200, .inl f41))) → (wd_at w184 m42 (.inl (cy 2, 200, .inl f42))) → (wd_at w184 m43 (.inl (cy 2, 200, .inl f43))) → (wd_at w184 m44 (.inl (cy 2, 200, .inl f44))) → (wd_at w184 m45 (.inl (cy 2, 200, .inl f45))) → (wd_at w184 m46 (.inl (cy 2, 200, .inl f46))) → (wd_at w184 m47 (.inl (cy 2, 200, .inl f47))) → (wd_at w184 m48 (.inl (cy 3, 200, .inr (.inl f48)))) → (wd_at w184 m49 (.inl (cy 2, 12, .inl f49))) → (wd_at w184 m51 (.inl (cy 2, 200, .inl f51))) → (wd_at w184 m52 (.inl (cy 3, 200, .inr (.inl f52)))) → (wd_at w184 m53 (.inl (cy 3, 12, .inr (.inl f53)))) → (wd_at w184 m54 (.inl (cy 3, 12, .inr (.inl f54)))) → (wd_at w184 m56 (.inl (cy 2, 60, .inl f56))) → (wd_at w184 m57 (.inl (cy 2, 60, .inl f57))) → (wd_at w184 m58 (.inl (cy 2, 60, .inl f58))) → (wd_at w184 m59 (.inl (cy 3, 60, .inr (.inl f59)))) → (wd_at w184 (sr sc) (.inl (cy 2, 12, .inl g9))) → (∀ k9, k9 < 12 → qp k9 = some (pr k9) ∧ wd_at w184 (pr k9) (.inl (cy 2, 12, .inl (fp k9))) ∧ tg (pr k9) = 11000 + k9) → (∀ k9, k9 < 12 → qw k9 = some (wr k9) ∧ wd_at w184 (wr k9) (.inl (cy 2, 12, .inl (fw k9))) ∧ tg (wr k9) = 12000 + k9) → (∀ k9, k9 < 60 ∧ k9 ≠ sc → qs k9 = some (sr k9) ∧ wd_at w184 (sr k9) (.inl (cy 2, 12, .inl (fs k9))) ∧ tg (sr k9) = 13000 + k9) → (wd_kp (fun b => 10000 ≤ tg b) w w184) → ∀ (ls : Array Slot), lv_has ls 5 [(0, .ref y), (1, .int (nI pq)), (2, .int x2), (3, .int (nI tw)), (4, .int (nI t))] → Wv p l e ({ frames := 1, cells := 0, slots := 0, locals := 26 }) s m args below meth c D A (0) (0) Q w184 (F0 m 82 ls []) := by
            intro N
            induction N with
            | zero =>
              intro t g9 w184 hN82 hg9 k185 k186 k187 k188 k189 k190 k191 k192 k193 k194 k195 k196 k197 k198 k199 k200 k201 k202 k203 k204 k205 k206 k207 k208 k209 k210 k211 k212 k213 k214 k215 k216 k217 k218 k219 k220 k221 k222 k223 k224 k225 k226 k227 k228 k229 k230 k231 k232 k233 k234 fm235 fm236 fm237 kp238 ls hl H locs hP hD hS
              refine lv_iload hx hb dX11_stop_82 (lv_at hl 4 rfl) ?_
              refine lv_bipush (v := 12) hx hb dX11_stop_84 (by decide) ?_
              refine lv_icmp_ge (tgt := 136) hx hb dX11_stop_86 (by decide) (fun c_239 => ?_) (fun c_239 => absurd (nI_le (a := 12) (b := t) (by omega) (by omega)) c_239)
              refine lv_aload_n hx hb dX11_stop_136 rfl (lv_at hl 0 rfl) ?_
              refine lv_dup hx hb dX11_stop_137 rfl ?_
              refine x_get (ref := "NoteHouseModel") F hP k185 rfl (fun _ h => List.mem_cons_of_mem _ (List.mem_append_right _ (h))) 16 (Nat.le_of_ble_eq_true rfl) (List.mem_cons_of_mem _ (List.mem_append_left _ (List.mem_of_getElem? (i := 0) rfl))) rfl rfl dX11_stop_138 ?_
              refine lv_iconst (v := 1) hx hb dX11_stop_141 (by decide) ?_
              refine lv_iadd hx hb dX11_stop_142 ?_
              rw [show ((nI sc) + 1 : Int32) = nI (sc + 1) from nI_add sc 1]
              refine y_put (ref := "NoteHouseModel") F hP hD hS k185 rfl (fun _ h => List.mem_cons_of_mem _ (List.mem_append_right _ (h))) tyX11_ok nmX11 16 (Nat.le_of_ble_eq_true rfl) (List.mem_cons_of_mem _ (List.mem_append_left _ (List.mem_of_getElem? (i := 0) rfl))) rfl rfl rfl rfl (Nat.le_of_ble_eq_true rfl) dX11_stop_143 (fun w240 ew241 H locs hP hD hS => ?_)
              have k242 : wd_at w240 y (.inr (11, [.int v0, .int td, .ref m2, .ref m3, .ref m4, .ref m5, .ref m6, .int (nI pc), .ref m8, .ref m9, .ref m10, .ref m11, .ref m12, .ref m13, .ref m14, .int (nI ac), .int (nI (sc + 1)), .ref m17, .ref m18, .ref m19, .ref m20, .ref m21, .ref m22, .ref m23, .ref m24, .int (nI ln), .int v26, .int v27, .int v28, .ref m29, .ref m30, .ref m31, .ref m32, .ref m33, .ref m34, .ref m35, .ref m36, .ref m37, .int (nI sh), .ref m39, .ref m40, .ref m41, .ref m42, .ref m43, .ref m44, .ref m45, .ref m46, .ref m47, .ref m48, .ref m49, .int v50, .ref m51, .ref m52, .ref m53, .ref m54, .int (nI gf), .ref m56, .ref m57, .ref m58, .ref m59])) := wd_at.ps ew241 k185
              have k243 := wd_at.pt ew241 k186 (tg_ne tI1 tI0 (by decide))
              have k244 := wd_at.pt ew241 k187 (tg_ne tI2 tI0 (by decide))
              have k245 := wd_at.pt ew241 k188 (tg_ne tI3 tI0 (by decide))
              have k246 := wd_at.pt ew241 k189 (tg_ne tI4 tI0 (by decide))
              have k247 := wd_at.pt ew241 k190 (tg_ne tI5 tI0 (by decide))
              have k248 := wd_at.pt ew241 k191 (tg_ne tI6 tI0 (by decide))
              have k249 := wd_at.pt ew241 k192 (tg_ne tI7 tI0 (by decide))
              have k250 := wd_at.pt ew241 k193 (tg_ne tI8 tI0 (by decide))
              have k251 := wd_at.pt ew241 k194 (tg_ne tI9 tI0 (by decide))
              have k252 := wd_at.pt ew241 k195 (tg_ne tI10 tI0 (by decide))
              have k253 := wd_at.pt ew241 k196 (tg_ne tI11 tI0 (by decide))
              have k254 := wd_at.pt ew241 k197 (tg_ne tI12 tI0 (by decide))
              have k255 := wd_at.pt ew241 k198 (tg_ne tI13 tI0 (by decide))
              have k256 := wd_at.pt ew241 k199 (tg_ne tI14 tI0 (by decide))
              have k257 := wd_at.pt ew241 k200 (tg_ne tI15 tI0 (by decide))
              have k258 := wd_at.pt ew241 k201 (tg_ne tI16 tI0 (by decide))
              have k259 := wd_at.pt ew241 k202 (tg_ne tI17 tI0 (by decide))
              have k260 := wd_at.pt ew241 k203 (tg_ne tI18 tI0 (by decide))
              have k261 := wd_at.pt ew241 k204 (tg_ne tI19 tI0 (by decide))
              have k262 := wd_at.pt ew241 k205 (tg_ne tI20 tI0 (by decide))
              have k263 := wd_at.pt ew241 k206 (tg_ne tI21 tI0 (by decide))
              have k264 := wd_at.pt ew241 k207 (tg_ne tI22 tI0 (by decide))
              have k265 := wd_at.pt ew241 k208 (tg_ne tI23 tI0 (by decide))
              have k266 := wd_at.pt ew241 k209 (tg_ne tI24 tI0 (by decide))
              have k267 := wd_at.pt ew241 k210 (tg_ne tI25 tI0 (by decide))
              have k268 := wd_at.pt ew241 k211 (tg_ne tI26 tI0 (by decide))
              have k269 := wd_at.pt ew241 k212 (tg_ne tI27 tI0 (by decide))
              have k270 := wd_at.pt ew241 k213 (tg_ne tI28 tI0 (by decide))
              have k271 := wd_at.pt ew241 k214 (tg_ne tI29 tI0 (by decide))
              have k272 := wd_at.pt ew241 k215 (tg_ne tI30 tI0 (by decide))
              have k273 := wd_at.pt ew241 k216 (tg_ne tI31 tI0 (by decide))
              have k274 := wd_at.pt ew241 k217 (tg_ne tI32 tI0 (by decide))
              have k275 := wd_at.pt ew241 k218 (tg_ne tI33 tI0 (by decide))
              have k276 := wd_at.pt ew241 k219 (tg_ne tI34 tI0 (by decide))
              have k277 := wd_at.pt ew241 k220 (tg_ne tI35 tI0 (by decide))
              have k278 := wd_at.pt ew241 k221 (tg_ne tI36 tI0 (by decide))
              have k279 := wd_at.pt ew241 k222 (tg_ne tI37 tI0 (by decide))
              have k280 := wd_at.pt ew241 k223 (tg_ne tI38 tI0 (by decide))
              have k281 := wd_at.pt ew241 k224 (tg_ne tI39 tI0 (by decide))
              have k282 := wd_at.pt ew241 k225 (tg_ne tI40 tI0 (by decide))
              have k283 := wd_at.pt ew241 k226 (tg_ne tI41 tI0 (by decide))
              have k284 := wd_at.pt ew241 k227 (tg_ne tI42 tI0 (by decide))
              have k285 := wd_at.pt ew241 k228 (tg_ne tI43 tI0 (by decide))
              have k286 := wd_at.pt ew241 k229 (tg_ne tI44 tI0 (by decide))
              have k287 := wd_at.pt ew241 k230 (tg_ne tI45 tI0 (by decide))
              have k288 := wd_at.pt ew241 k231 (tg_ne tI46 tI0 (by decide))
              have k289 := wd_at.pt ew241 k232 (tg_ne tI47 tI0 (by decide))
              have k290 := wd_at.pt ew241 k233 (tg_ne tI48 tI0 (by decide))
              have k291 := wd_at.pt ew241 k234 (tg_ne tz182 tI0 (tqA (show 10000 < 13000 by decide)))
              have fm292 : ∀ k9, k9 < 12 → qp k9 = some (pr k9) ∧ wd_at w240 (pr k9) (.inl (cy 2, 12, .inl (fp k9))) ∧ tg (pr k9) = 11000 + k9 := fun k9 hi9 => ⟨(fm235 k9 hi9).1, wd_at.pt ew241 (fm235 k9 hi9).2.1 (tg_ne (fm235 k9 hi9).2.2 tI0 (tqA (show 10000 < 11000 by decide))), (fm235 k9 hi9).2.2⟩
              have fm293 : ∀ k9, k9 < 12 → qw k9 = some (wr k9) ∧ wd_at w240 (wr k9) (.inl (cy 2, 12, .inl (fw k9))) ∧ tg (wr k9) = 12000 + k9 := fun k9 hi9 => ⟨(fm236 k9 hi9).1, wd_at.pt ew241 (fm236 k9 hi9).2.1 (tg_ne (fm236 k9 hi9).2.2 tI0 (tqA (show 10000 < 12000 by decide))), (fm236 k9 hi9).2.2⟩
              have fm294 : ∀ k9, k9 < 60 ∧ k9 ≠ sc → qs k9 = some (sr k9) ∧ wd_at w240 (sr k9) (.inl (cy 2, 12, .inl (fs k9))) ∧ tg (sr k9) = 13000 + k9 := fun k9 hi9 => ⟨(fm237 k9 hi9).1, wd_at.pt ew241 (fm237 k9 hi9).2.1 (tg_ne (fm237 k9 hi9).2.2 tI0 (tqA (show 10000 < 13000 by decide))), (fm237 k9 hi9).2.2⟩
              have kp295 := kp238.put ew241 (tgT tI0 (by decide))
              refine lv_aload_n hx hb dX11_stop_146 rfl (lv_at hl 0 rfl) ?_
              refine x_get (ref := "NoteHouseModel") F hP k242 rfl (fun _ h => List.mem_cons_of_mem _ (List.mem_append_right _ (h))) 16 (Nat.le_of_ble_eq_true rfl) (List.mem_cons_of_mem _ (List.mem_append_left _ (List.mem_of_getElem? (i := 0) rfl))) rfl rfl dX11_stop_147 ?_
              refine lv_iconst (v := 1) hx hb dX11_stop_150 (by decide) ?_
              refine lv_isub hx hb dX11_stop_151 ?_
              rw [show ((nI (sc + 1)) - 1 : Int32) = nI ((sc + 1) - 1) from pk_sub (a := (sc + 1)) (b := 1) (by omega)]
              have fm296 : ∀ k9, k9 < 60 → qs k9 = some (sr k9) ∧ wd_at w240 (sr k9) (.inl (cy 2, 12, .inl ((va_up fs sc g9) k9))) ∧ tg (sr k9) = 13000 + k9 := by
                intro k9 hi9
                by_cases e9 : k9 = sc
                · rw [e9]
                  exact ⟨pr180, (by simp only [va_up_self]; exact k291), tz182⟩
                · simp only [va_up_ne _ _ e9]
                  exact fm294 k9 (by omega)
              have hX297 : IM cy tg y td pc ac (sc + 1) ln se plv Pm Wm av1 av2 av3 (stpU plv pc sc zC (nI pq) x2 (nI tw) (fun t8 => lday (nws 1 Pm Wm) td (nI tw).toNatClampNeg t8)) tB lb rt tT av0 (stpU plv pc sc sp0 (nI pq) x2 (nI tw) (nI pq)) (stpU plv pc sc sp1 (nI pq) x2 (nI tw) x2) pwo phd pgd pdy pno ptp co ra sh hto hpp hle ham hhh hdd hru hde hcp hld w240 := IM.mk m2 m3 m4 m5 m6 m8 m9 m10 m11 m12 m13 m14 m17 m18 m19 m20 m21 m22 m23 m24 m29 m30 m31 m32 m33 m34 m35 m36 m37 m39 m40 m41 m42 m43 m44 m45 m46 m47 m48 m49 m51 m52 m53 m54 m56 m57 m58 m59 gf v0 v26 v27 v28 v50 f4 f5 gx14 f8 f9 f10 f11 f12 f13 f14 f17 f18 f19 f20 (upd f21 (nI sc).toNatClampNeg (nI pq)) (upd f22 (nI sc).toNatClampNeg x2) f29 f30 f31 f32 f33 f34 f35 f36 f37 f39 f40 f41 f42 f43 f44 f45 f46 f47 f48 f49 f51 f52 f53 f54 f56 f57 f58 f59 qp pr fp qw wr fw qs sr (va_up fs sc g9) (by omega) (by omega) (by omega) (by omega) (by omega) (by omega) hrl hc ht hp hso hlo htd hmp hmw hav (by rw [show stpU plv pc sc zC (nI pq) x2 (nI tw) (fun t8 => lday (nws 1 Pm Wm) td (nI tw).toNatClampNeg t8) = va_up zC sc (fun t8 => lday (nws 1 Pm Wm) td tw t8) from by simp [stpU, c_1, h60, c_5, clpq, c_9, cltw, c_10]]; exact hzm.a (fun z hz => hg9 z (by omega))) hlb hmt0 hav0 (by rw [show stpU plv pc sc sp0 (nI pq) x2 (nI tw) (nI pq) = va_up sp0 sc (nI pq) from by simp [stpU, c_1, h60, c_5, clpq, c_9, cltw, c_10]]; exact hs0.a (by omega)) (by rw [show stpU plv pc sc sp1 (nI pq) x2 (nI tw) x2 = va_up sp1 sc x2 from by simp [stpU, c_1, h60, c_5, clpq, c_9, cltw, c_10]]; exact hs1.a (by omega)) hco hra hpp9 hsh9 k242 tI0 k243 tI1 k244 tI2 k245 tI3 k246 tI4 k247 tI5 k248 tI6 k249 tI7 k250 tI8 k251 tI9 k252 tI10 k253 tI11 k254 tI12 k255 tI13 k256 tI14 k257 tI15 k258 tI16 k259 tI17 k260 tI18 k261 tI19 k262 tI20 k263 tI21 k264 tI22 k265 tI23 k266 tI24 k267 tI25 k268 tI26 k269 tI27 k270 tI28 k271 tI29 k272 tI30 k273 tI31 k274 tI32 k275 tI33 k276 tI34 k277 tI35 k278 tI36 k279 tI37 k280 tI38 k281 tI39 k282 tI40 k283 tI41 k284 tI42 k285 tI43 k286 tI44 k287 tI45 k288 tI46 k289 tI47 k290 tI48 fm292 fm293 fm296
              exact y_ir K hP hD hS (Nat.le_of_ble_eq_true rfl) (Nat.le_of_ble_eq_true rfl) (ty := .int) rfl rfl dX11_stop_152 (by refine ⟨(congrArg (fun z => some (Value.int z)) (show nI ((sc + 1) - 1) = stpA plv pc sc (nI pq) x2 (nI tw) from by simp [stpA, stpC, stpU, c_1, h60, c_5, clpq, c_9, cltw, c_10])), ?_⟩; rw [show stpC plv pc sc (nI pq) x2 (nI tw) = (sc + 1) from by simp [stpA, stpC, stpU, c_1, h60, c_5, clpq, c_9, cltw, c_10]]; exact ⟨kp295, hX297⟩)
            | succ N ih82 =>
              intro t g9 w184 hN82 hg9 k185 k186 k187 k188 k189 k190 k191 k192 k193 k194 k195 k196 k197 k198 k199 k200 k201 k202 k203 k204 k205 k206 k207 k208 k209 k210 k211 k212 k213 k214 k215 k216 k217 k218 k219 k220 k221 k222 k223 k224 k225 k226 k227 k228 k229 k230 k231 k232 k233 k234 fm235 fm236 fm237 kp238 ls hl H locs hP hD hS
              refine lv_iload hx hb dX11_stop_82 (lv_at hl 4 rfl) ?_
              refine lv_bipush (v := 12) hx hb dX11_stop_84 (by decide) ?_
              refine lv_icmp_ge (tgt := 136) hx hb dX11_stop_86 (by decide) (fun c_298 => absurd c_298 (nI_ge (a := t) (b := 12) (by omega) (by omega))) (fun c_298 => ?_)
              refine lv_aload_n hx hb dX11_stop_89 rfl (lv_at hl 0 rfl) ?_
              refine x_get (ref := "NoteHouseModel") F hP k185 rfl (fun _ h => List.mem_cons_of_mem _ (List.mem_append_right _ (h))) 23 (Nat.le_of_ble_eq_true rfl) (List.mem_cons_of_mem _ (List.mem_append_left _ (List.mem_of_getElem? (i := 5) rfl))) rfl rfl dX11_stop_90 ?_
              refine lv_aload_n hx hb dX11_stop_93 rfl (lv_at hl 0 rfl) ?_
              refine x_get (ref := "NoteHouseModel") F hP k185 rfl (fun _ h => List.mem_cons_of_mem _ (List.mem_append_right _ (h))) 16 (Nat.le_of_ble_eq_true rfl) (List.mem_cons_of_mem _ (List.mem_append_left _ (List.mem_of_getElem? (i := 0) rfl))) rfl rfl dX11_stop_94 ?_
              refine x_aaldA F hP k204 (vp_in_nI (n := sc) (N := 60) (by omega) (by decide)) dX11_stop_97 ?_
              rw [nI_clamp (n := sc) (by omega), pr180]
              refine W.eq (g2 := F0 m _ ls [.ref (sr sc)]) rfl ?_
              refine lv_iload hx hb dX11_stop_98 (lv_at hl 4 rfl) ?_
              refine lv_aload_n hx hb dX11_stop_100 rfl (lv_at hl 0 rfl) ?_
              refine x_get (ref := "NoteHouseModel") F hP k185 rfl (fun _ h => List.mem_cons_of_mem _ (List.mem_append_right _ (h))) 6 (Nat.le_of_ble_eq_true rfl) (List.mem_cons_of_mem _ (List.mem_append_left _ (List.mem_of_getElem? (i := 6) rfl))) rfl rfl dX11_stop_101 ?_
              refine lv_iload hx hb dX11_stop_104 (lv_at hl 4 rfl) ?_
              refine x_iald F hP k190 (vp_in_nI (n := t) (N := 12) (by omega) (by decide)) dX11_stop_106 ?_
              rw [nI_clamp (n := t) (by omega), hz15 t (by omega)]
              refine lv_ldc (v := 268435456) hx hb hown (hts _ (List.mem_cons_of_mem _ (List.mem_append_left _ (List.mem_of_getElem? (i := 7) rfl)))) dX11_stop_107 ?_
              refine lv_icmp_ne (tgt := 117) hx hb dX11_stop_109 (by decide) (fun cz => ?_) (fun cz => ?_)
              · refine lv_aload_n hx hb dX11_stop_117 rfl (lv_at hl 0 rfl) ?_
                refine x_get (ref := "NoteHouseModel") F hP k185 rfl (fun _ h => List.mem_cons_of_mem _ (List.mem_append_right _ (h))) 1 (Nat.le_of_ble_eq_true rfl) (List.mem_cons_of_mem _ (List.mem_append_left _ (List.mem_of_getElem? (i := 8) rfl))) rfl rfl dX11_stop_118 ?_
                refine lv_aload_n hx hb dX11_stop_121 rfl (lv_at hl 0 rfl) ?_
                refine x_get (ref := "NoteHouseModel") F hP k185 rfl (fun _ h => List.mem_cons_of_mem _ (List.mem_append_right _ (h))) 6 (Nat.le_of_ble_eq_true rfl) (List.mem_cons_of_mem _ (List.mem_append_left _ (List.mem_of_getElem? (i := 6) rfl))) rfl rfl dX11_stop_122 ?_
                refine lv_iload hx hb dX11_stop_125 (lv_at hl 4 rfl) ?_
                refine x_iald F hP k190 (vp_in_nI (n := t) (N := 12) (by omega) (by decide)) dX11_stop_127 ?_
                rw [nI_clamp (n := t) (by omega), hz15 t (by omega)]
                refine lv_iadd hx hb dX11_stop_128 ?_
                refine y_iast F hP hD hS k234 (vp_in_nI (n := t) (N := 12) (by omega) (by decide)) dX11_stop_129 (fun w299 ew300 H locs hP hD hS => ?_)
                have k301 := wd_at.pt ew300 k185 (tg_ne tI0 tz182 (tnA2 (show 10000 < 13000 by decide)))
                have k302 := wd_at.pt ew300 k186 (tg_ne tI1 tz182 (tnA2 (show 10102 < 13000 by decide)))
                have k303 := wd_at.pt ew300 k187 (tg_ne tI2 tz182 (tnA2 (show 10103 < 13000 by decide)))
                have k304 := wd_at.pt ew300 k188 (tg_ne tI3 tz182 (tnA2 (show 10104 < 13000 by decide)))
                have k305 := wd_at.pt ew300 k189 (tg_ne tI4 tz182 (tnA2 (show 10105 < 13000 by decide)))
                have k306 := wd_at.pt ew300 k190 (tg_ne tI5 tz182 (tnA2 (show 10106 < 13000 by decide)))
                have k307 := wd_at.pt ew300 k191 (tg_ne tI6 tz182 (tnA2 (show 10108 < 13000 by decide)))
                have k308 := wd_at.pt ew300 k192 (tg_ne tI7 tz182 (tnA2 (show 10109 < 13000 by decide)))
                have k309 := wd_at.pt ew300 k193 (tg_ne tI8 tz182 (tnA2 (show 10110 < 13000 by decide)))
                have k310 := wd_at.pt ew300 k194 (tg_ne tI9 tz182 (tnA2 (show 10111 < 13000 by decide)))
                have k311 := wd_at.pt ew300 k195 (tg_ne tI10 tz182 (tnA2 (show 10112 < 13000 by decide)))
                have k312 := wd_at.pt ew300 k196 (tg_ne tI11 tz182 (tnA2 (show 10113 < 13000 by decide)))
                have k313 := wd_at.pt ew300 k197 (tg_ne tI12 tz182 (tnA2 (show 10114 < 13000 by decide)))
                have k314 := wd_at.pt ew300 k198 (tg_ne tI13 tz182 (tnA2 (show 10117 < 13000 by decide)))
                have k315 := wd_at.pt ew300 k199 (tg_ne tI14 tz182 (tnA2 (show 10118 < 13000 by decide)))
                have k316 := wd_at.pt ew300 k200 (tg_ne tI15 tz182 (tnA2 (show 10119 < 13000 by decide)))
                have k317 := wd_at.pt ew300 k201 (tg_ne tI16 tz182 (tnA2 (show 10120 < 13000 by decide)))
                have k318 := wd_at.pt ew300 k202 (tg_ne tI17 tz182 (tnA2 (show 10121 < 13000 by decide)))
                have k319 := wd_at.pt ew300 k203 (tg_ne tI18 tz182 (tnA2 (show 10122 < 13000 by decide)))
                have k320 := wd_at.pt ew300 k204 (tg_ne tI19 tz182 (tnA2 (show 10123 < 13000 by decide)))
                have k321 := wd_at.pt ew300 k205 (tg_ne tI20 tz182 (tnA2 (show 10124 < 13000 by decide)))
                have k322 := wd_at.pt ew300 k206 (tg_ne tI21 tz182 (tnA2 (show 10129 < 13000 by decide)))
                have k323 := wd_at.pt ew300 k207 (tg_ne tI22 tz182 (tnA2 (show 10130 < 13000 by decide)))
                have k324 := wd_at.pt ew300 k208 (tg_ne tI23 tz182 (tnA2 (show 10131 < 13000 by decide)))
                have k325 := wd_at.pt ew300 k209 (tg_ne tI24 tz182 (tnA2 (show 10132 < 13000 by decide)))
                have k326 := wd_at.pt ew300 k210 (tg_ne tI25 tz182 (tnA2 (show 10133 < 13000 by decide)))
                have k327 := wd_at.pt ew300 k211 (tg_ne tI26 tz182 (tnA2 (show 10134 < 13000 by decide)))
                have k328 := wd_at.pt ew300 k212 (tg_ne tI27 tz182 (tnA2 (show 10135 < 13000 by decide)))
                have k329 := wd_at.pt ew300 k213 (tg_ne tI28 tz182 (tnA2 (show 10136 < 13000 by decide)))
                have k330 := wd_at.pt ew300 k214 (tg_ne tI29 tz182 (tnA2 (show 10137 < 13000 by decide)))
                have k331 := wd_at.pt ew300 k215 (tg_ne tI30 tz182 (tnA2 (show 10139 < 13000 by decide)))
                have k332 := wd_at.pt ew300 k216 (tg_ne tI31 tz182 (tnA2 (show 10140 < 13000 by decide)))
                have k333 := wd_at.pt ew300 k217 (tg_ne tI32 tz182 (tnA2 (show 10141 < 13000 by decide)))
                have k334 := wd_at.pt ew300 k218 (tg_ne tI33 tz182 (tnA2 (show 10142 < 13000 by decide)))
                have k335 := wd_at.pt ew300 k219 (tg_ne tI34 tz182 (tnA2 (show 10143 < 13000 by decide)))
                have k336 := wd_at.pt ew300 k220 (tg_ne tI35 tz182 (tnA2 (show 10144 < 13000 by decide)))
                have k337 := wd_at.pt ew300 k221 (tg_ne tI36 tz182 (tnA2 (show 10145 < 13000 by decide)))
                have k338 := wd_at.pt ew300 k222 (tg_ne tI37 tz182 (tnA2 (show 10146 < 13000 by decide)))
                have k339 := wd_at.pt ew300 k223 (tg_ne tI38 tz182 (tnA2 (show 10147 < 13000 by decide)))
                have k340 := wd_at.pt ew300 k224 (tg_ne tI39 tz182 (tnA2 (show 10148 < 13000 by decide)))
                have k341 := wd_at.pt ew300 k225 (tg_ne tI40 tz182 (tnA2 (show 10149 < 13000 by decide)))
                have k342 := wd_at.pt ew300 k226 (tg_ne tI41 tz182 (tnA2 (show 10151 < 13000 by decide)))
                have k343 := wd_at.pt ew300 k227 (tg_ne tI42 tz182 (tnA2 (show 10152 < 13000 by decide)))
                have k344 := wd_at.pt ew300 k228 (tg_ne tI43 tz182 (tnA2 (show 10153 < 13000 by decide)))
                have k345 := wd_at.pt ew300 k229 (tg_ne tI44 tz182 (tnA2 (show 10154 < 13000 by decide)))
                have k346 := wd_at.pt ew300 k230 (tg_ne tI45 tz182 (tnA2 (show 10156 < 13000 by decide)))
                have k347 := wd_at.pt ew300 k231 (tg_ne tI46 tz182 (tnA2 (show 10157 < 13000 by decide)))
                have k348 := wd_at.pt ew300 k232 (tg_ne tI47 tz182 (tnA2 (show 10158 < 13000 by decide)))
                have k349 := wd_at.pt ew300 k233 (tg_ne tI48 tz182 (tnA2 (show 10159 < 13000 by decide)))
                have k350 : wd_at w299 (sr sc) (.inl (cy 2, 12, .inl (upd g9 (nI t).toNatClampNeg (td + (nI (fq (dst (nws 1 Pm Wm) tw t))))))) := wd_at.ps ew300 k234
                have fm351 : ∀ k9, k9 < 12 → qp k9 = some (pr k9) ∧ wd_at w299 (pr k9) (.inl (cy 2, 12, .inl (fp k9))) ∧ tg (pr k9) = 11000 + k9 := fun k9 hi9 => ⟨(fm235 k9 hi9).1, wd_at.pt ew300 (fm235 k9 hi9).2.1 (tg_ne (fm235 k9 hi9).2.2 tz182 (tnB (n := 12) hi9 (by decide))), (fm235 k9 hi9).2.2⟩
                have fm352 : ∀ k9, k9 < 12 → qw k9 = some (wr k9) ∧ wd_at w299 (wr k9) (.inl (cy 2, 12, .inl (fw k9))) ∧ tg (wr k9) = 12000 + k9 := fun k9 hi9 => ⟨(fm236 k9 hi9).1, wd_at.pt ew300 (fm236 k9 hi9).2.1 (tg_ne (fm236 k9 hi9).2.2 tz182 (tnB (n := 12) hi9 (by decide))), (fm236 k9 hi9).2.2⟩
                have fm353 : ∀ k9, k9 < 60 ∧ k9 ≠ sc → qs k9 = some (sr k9) ∧ wd_at w299 (sr k9) (.inl (cy 2, 12, .inl (fs k9))) ∧ tg (sr k9) = 13000 + k9 := fun k9 hi9 => ⟨(fm237 k9 hi9).1, wd_at.pt ew300 (fm237 k9 hi9).2.1 (tg_ne (fm237 k9 hi9).2.2 tz182 (tnS hi9.2)), (fm237 k9 hi9).2.2⟩
                have kp354 := kp238.put ew300 (tgT tz182 (by omega))
                refine lv_iinc (v := nI (t + 1)) (lv' := [(4, .int (nI (t + 1))), (0, .ref y), (1, .int (nI pq)), (2, .int x2), (3, .int (nI tw))]) hx hb dX11_stop_130 hl (k := 4) rfl (nI_1 t) (by decide) rfl (fun ls hl => ?_)
                refine lv_goto (tgt := 82) hx hb dX11_stop_133 (by decide) ?_
                exact ih82 (t + 1) (upd g9 (nI t).toNatClampNeg (td + (nI (fq (dst (nws 1 Pm Wm) tw t))))) w299 (by omega) (upAll9 (P := fun z x => x = mc (lday (nws 1 Pm Wm) td tw z) ∧ zb (lday (nws 1 Pm Wm) td tw z)) (n := 12) (by omega) (by decide) hg9 (show td + nI (fq (dst (nws 1 Pm Wm) tw t)) = mc (lday (nws 1 Pm Wm) td tw t) ∧ zb (lday (nws 1 Pm Wm) td tw t) from ⟨ld_fin htd (by omega) cz, ld_zb htd (by omega)⟩)) k301 k302 k303 k304 k305 k306 k307 k308 k309 k310 k311 k312 k313 k314 k315 k316 k317 k318 k319 k320 k321 k322 k323 k324 k325 k326 k327 k328 k329 k330 k331 k332 k333 k334 k335 k336 k337 k338 k339 k340 k341 k342 k343 k344 k345 k346 k347 k348 k349 k350 fm351 fm352 fm353 kp354 ls (lv_sub hl [1, 2, 3, 4, 0] rfl) H locs hP hD hS
              · refine lv_ldc (v := 268435456) hx hb hown (hts _ (List.mem_cons_of_mem _ (List.mem_append_left _ (List.mem_of_getElem? (i := 7) rfl)))) dX11_stop_112 ?_
                refine lv_goto (tgt := 129) hx hb dX11_stop_114 (by decide) ?_
                refine y_iast F hP hD hS k234 (vp_in_nI (n := t) (N := 12) (by omega) (by decide)) dX11_stop_129 (fun w355 ew356 H locs hP hD hS => ?_)
                have k357 := wd_at.pt ew356 k185 (tg_ne tI0 tz182 (tnA2 (show 10000 < 13000 by decide)))
                have k358 := wd_at.pt ew356 k186 (tg_ne tI1 tz182 (tnA2 (show 10102 < 13000 by decide)))
                have k359 := wd_at.pt ew356 k187 (tg_ne tI2 tz182 (tnA2 (show 10103 < 13000 by decide)))
                have k360 := wd_at.pt ew356 k188 (tg_ne tI3 tz182 (tnA2 (show 10104 < 13000 by decide)))
                have k361 := wd_at.pt ew356 k189 (tg_ne tI4 tz182 (tnA2 (show 10105 < 13000 by decide)))
                have k362 := wd_at.pt ew356 k190 (tg_ne tI5 tz182 (tnA2 (show 10106 < 13000 by decide)))
                have k363 := wd_at.pt ew356 k191 (tg_ne tI6 tz182 (tnA2 (show 10108 < 13000 by decide)))
                have k364 := wd_at.pt ew356 k192 (tg_ne tI7 tz182 (tnA2 (show 10109 < 13000 by decide)))
                have k365 := wd_at.pt ew356 k193 (tg_ne tI8 tz182 (tnA2 (show 10110 < 13000 by decide)))
                have k366 := wd_at.pt ew356 k194 (tg_ne tI9 tz182 (tnA2 (show 10111 < 13000 by decide)))
                have k367 := wd_at.pt ew356 k195 (tg_ne tI10 tz182 (tnA2 (show 10112 < 13000 by decide)))
                have k368 := wd_at.pt ew356 k196 (tg_ne tI11 tz182 (tnA2 (show 10113 < 13000 by decide)))
                have k369 := wd_at.pt ew356 k197 (tg_ne tI12 tz182 (tnA2 (show 10114 < 13000 by decide)))
                have k370 := wd_at.pt ew356 k198 (tg_ne tI13 tz182 (tnA2 (show 10117 < 13000 by decide)))
                have k371 := wd_at.pt ew356 k199 (tg_ne tI14 tz182 (tnA2 (show 10118 < 13000 by decide)))
                have k372 := wd_at.pt ew356 k200 (tg_ne tI15 tz182 (tnA2 (show 10119 < 13000 by decide)))
                have k373 := wd_at.pt ew356 k201 (tg_ne tI16 tz182 (tnA2 (show 10120 < 13000 by decide)))
                have k374 := wd_at.pt ew356 k202 (tg_ne tI17 tz182 (tnA2 (show 10121 < 13000 by decide)))
                have k375 := wd_at.pt ew356 k203 (tg_ne tI18 tz182 (tnA2 (show 10122 < 13000 by decide)))
                have k376 := wd_at.pt ew356 k204 (tg_ne tI19 tz182 (tnA2 (show 10123 < 13000 by decide)))
                have k377 := wd_at.pt ew356 k205 (tg_ne tI20 tz182 (tnA2 (show 10124 < 13000 by decide)))
                have k378 := wd_at.pt ew356 k206 (tg_ne tI21 tz182 (tnA2 (show 10129 < 13000 by decide)))
                have k379 := wd_at.pt ew356 k207 (tg_ne tI22 tz182 (tnA2 (show 10130 < 13000 by decide)))
                have k380 := wd_at.pt ew356 k208 (tg_ne tI23 tz182 (tnA2 (show 10131 < 13000 by decide)))
                have k381 := wd_at.pt ew356 k209 (tg_ne tI24 tz182 (tnA2 (show 10132 < 13000 by decide)))
                have k382 := wd_at.pt ew356 k210 (tg_ne tI25 tz182 (tnA2 (show 10133 < 13000 by decide)))
                have k383 := wd_at.pt ew356 k211 (tg_ne tI26 tz182 (tnA2 (show 10134 < 13000 by decide)))
                have k384 := wd_at.pt ew356 k212 (tg_ne tI27 tz182 (tnA2 (show 10135 < 13000 by decide)))
                have k385 := wd_at.pt ew356 k213 (tg_ne tI28 tz182 (tnA2 (show 10136 < 13000 by decide)))
                have k386 := wd_at.pt ew356 k214 (tg_ne tI29 tz182 (tnA2 (show 10137 < 13000 by decide)))
                have k387 := wd_at.pt ew356 k215 (tg_ne tI30 tz182 (tnA2 (show 10139 < 13000 by decide)))
                have k388 := wd_at.pt ew356 k216 (tg_ne tI31 tz182 (tnA2 (show 10140 < 13000 by decide)))
                have k389 := wd_at.pt ew356 k217 (tg_ne tI32 tz182 (tnA2 (show 10141 < 13000 by decide)))
                have k390 := wd_at.pt ew356 k218 (tg_ne tI33 tz182 (tnA2 (show 10142 < 13000 by decide)))
                have k391 := wd_at.pt ew356 k219 (tg_ne tI34 tz182 (tnA2 (show 10143 < 13000 by decide)))
                have k392 := wd_at.pt ew356 k220 (tg_ne tI35 tz182 (tnA2 (show 10144 < 13000 by decide)))
                have k393 := wd_at.pt ew356 k221 (tg_ne tI36 tz182 (tnA2 (show 10145 < 13000 by decide)))
                have k394 := wd_at.pt ew356 k222 (tg_ne tI37 tz182 (tnA2 (show 10146 < 13000 by decide)))
                have k395 := wd_at.pt ew356 k223 (tg_ne tI38 tz182 (tnA2 (show 10147 < 13000 by decide)))
                have k396 := wd_at.pt ew356 k224 (tg_ne tI39 tz182 (tnA2 (show 10148 < 13000 by decide)))
                have k397 := wd_at.pt ew356 k225 (tg_ne tI40 tz182 (tnA2 (show 10149 < 13000 by decide)))
                have k398 := wd_at.pt ew356 k226 (tg_ne tI41 tz182 (tnA2 (show 10151 < 13000 by decide)))
                have k399 := wd_at.pt ew356 k227 (tg_ne tI42 tz182 (tnA2 (show 10152 < 13000 by decide)))
                have k400 := wd_at.pt ew356 k228 (tg_ne tI43 tz182 (tnA2 (show 10153 < 13000 by decide)))
                have k401 := wd_at.pt ew356 k229 (tg_ne tI44 tz182 (tnA2 (show 10154 < 13000 by decide)))
                have k402 := wd_at.pt ew356 k230 (tg_ne tI45 tz182 (tnA2 (show 10156 < 13000 by decide)))
                have k403 := wd_at.pt ew356 k231 (tg_ne tI46 tz182 (tnA2 (show 10157 < 13000 by decide)))
                have k404 := wd_at.pt ew356 k232 (tg_ne tI47 tz182 (tnA2 (show 10158 < 13000 by decide)))
                have k405 := wd_at.pt ew356 k233 (tg_ne tI48 tz182 (tnA2 (show 10159 < 13000 by decide)))
                have k406 : wd_at w355 (sr sc) (.inl (cy 2, 12, .inl (upd g9 (nI t).toNatClampNeg 268435456))) := wd_at.ps ew356 k234
                have fm407 : ∀ k9, k9 < 12 → qp k9 = some (pr k9) ∧ wd_at w355 (pr k9) (.inl (cy 2, 12, .inl (fp k9))) ∧ tg (pr k9) = 11000 + k9 := fun k9 hi9 => ⟨(fm235 k9 hi9).1, wd_at.pt ew356 (fm235 k9 hi9).2.1 (tg_ne (fm235 k9 hi9).2.2 tz182 (tnB (n := 12) hi9 (by decide))), (fm235 k9 hi9).2.2⟩
                have fm408 : ∀ k9, k9 < 12 → qw k9 = some (wr k9) ∧ wd_at w355 (wr k9) (.inl (cy 2, 12, .inl (fw k9))) ∧ tg (wr k9) = 12000 + k9 := fun k9 hi9 => ⟨(fm236 k9 hi9).1, wd_at.pt ew356 (fm236 k9 hi9).2.1 (tg_ne (fm236 k9 hi9).2.2 tz182 (tnB (n := 12) hi9 (by decide))), (fm236 k9 hi9).2.2⟩
                have fm409 : ∀ k9, k9 < 60 ∧ k9 ≠ sc → qs k9 = some (sr k9) ∧ wd_at w355 (sr k9) (.inl (cy 2, 12, .inl (fs k9))) ∧ tg (sr k9) = 13000 + k9 := fun k9 hi9 => ⟨(fm237 k9 hi9).1, wd_at.pt ew356 (fm237 k9 hi9).2.1 (tg_ne (fm237 k9 hi9).2.2 tz182 (tnS hi9.2)), (fm237 k9 hi9).2.2⟩
                have kp410 := kp238.put ew356 (tgT tz182 (by omega))
                refine lv_iinc (v := nI (t + 1)) (lv' := [(4, .int (nI (t + 1))), (0, .ref y), (1, .int (nI pq)), (2, .int x2), (3, .int (nI tw))]) hx hb dX11_stop_130 hl (k := 4) rfl (nI_1 t) (by decide) rfl (fun ls hl => ?_)
                refine lv_goto (tgt := 82) hx hb dX11_stop_133 (by decide) ?_
                exact ih82 (t + 1) (upd g9 (nI t).toNatClampNeg 268435456) w355 (by omega) (upAll9 (P := fun z x => x = mc (lday (nws 1 Pm Wm) td tw z) ∧ zb (lday (nws 1 Pm Wm) td tw z)) (n := 12) (by omega) (by decide) hg9 (show (268435456 : Int32) = mc (lday (nws 1 Pm Wm) td tw t) ∧ zb (lday (nws 1 Pm Wm) td tw t) from ⟨ld_far (by omega) cz, ld_zb htd (by omega)⟩)) k357 k358 k359 k360 k361 k362 k363 k364 k365 k366 k367 k368 k369 k370 k371 k372 k373 k374 k375 k376 k377 k378 k379 k380 k381 k382 k383 k384 k385 k386 k387 k388 k389 k390 k391 k392 k393 k394 k395 k396 k397 k398 k399 k400 k401 k402 k403 k404 k405 k406 fm407 fm408 fm409 kp410 ls (lv_sub hl [1, 2, 3, 4, 0] rfl) H locs hP hD hS
          exact lp82 _ 0 (fs sc) w125 (Nat.zero_add 12) (fun z hz => absurd hz (Nat.not_lt_zero z)) k127 k128 k129 k130 k131 k132 k133 k134 k135 k136 k137 k138 k139 k140 k141 k142 k143 k144 k145 k146 k147 k148 k149 k150 k151 k152 k153 k154 k155 k156 k157 k158 k159 k160 k161 k162 k163 k164 k165 k166 k167 k168 k169 k170 k171 k172 k173 k174 k175 k181 fm176 fm177 fm183 kp179 ls (lv_sub hl [1, 2, 3, 4, 0] rfl) H locs hP hD hS
        · refine lv_iload_n hx hb dX11_stop_35 rfl (lv_at hl 2 rfl) ?_
          refine lv_iconst (v := 0) hx hb dX11_stop_36 (by decide) ?_
          refine lv_aload_n hx hb dX11_stop_37 rfl (lv_at hl 0 rfl) ?_
          refine x_get (ref := "NoteHouseModel") F hP kI0 rfl (fun _ h => List.mem_cons_of_mem _ (List.mem_append_right _ (h))) 8 (Nat.le_of_ble_eq_true rfl) (List.mem_cons_of_mem _ (List.mem_append_left _ (List.mem_of_getElem? (i := 2) rfl))) rfl rfl dX11_stop_38 ?_
          refine lv_iload_n hx hb dX11_stop_41 rfl (lv_at hl 1 rfl) ?_
          refine x_iald F hP kI6 (vp_in_nI (n := pq) (N := 30) (by omega) (by decide)) dX11_stop_42 ?_
          obtain ⟨elv, ulv, hulv, eulv⟩ := hlo pq hpq
          rw [nI_clamp (n := pq) (by omega), elv]
          refine lv_iconst (v := 1) hx hb dX11_stop_43 (by decide) ?_
          refine lv_isub hx hb dX11_stop_44 ?_
          refine x_callS (n := 3) (As := [.int x2, .int 0, .int ((plv pq) - 1)]) (rest := []) F hP hD hS (g_in l D cy sk sv w x2 0 ((plv pq) - 1)) gX11_stop_X11_in rfl (by decide +kernel) ⟨(Nat.le_of_ble_eq_true rfl), (Nat.le_of_ble_eq_true rfl)⟩ rfl hl.1 (Nat.le_of_ble_eq_true rfl) dX11_stop_45 rfl ⟨(Nat.le_of_ble_eq_true rfl), (Nat.le_of_ble_eq_true rfl)⟩ (fun v412 w413 hp411 H locs hP hD hS => ?_)
          obtain ⟨rfl, rfl⟩ := hp411
          refine W.eq (g2 := F0 m 48 ls [.int (wi x2 0 ((plv pq) - 1))]) rfl (W.widen (k := 0) (n := 0) (Nat.le_of_ble_eq_true rfl) (Nat.le_of_ble_eq_true rfl) ?_)
          refine lv_if_ne (tgt := 53) hx hb dX11_stop_48 (by decide) (fun c_414 => ?_) (fun c_414 => ?_)
          · have hlf : ¬ lf x2 (plv pq) = 0 := by rw [lf_wi eulv hulv]; exact c_414
            refine lv_aload_n hx hb dX11_stop_53 rfl (lv_at hl 0 rfl) ?_
            refine lv_iload_n hx hb dX11_stop_54 rfl (lv_at hl 3 rfl) ?_
            refine lv_iconst (v := 1) hx hb dX11_stop_55 (by decide) ?_
            refine x_callV (n := 2) (As := [.int (nI tw), .int 1]) (rest := []) F hP hD hS (m_sends l D cy sk sv w tg y m2 m3 m4 m5 m6 m8 m9 m10 m11 m12 m13 m14 m17 m18 m19 m20 m21 m22 m23 m24 m29 m30 m31 m32 m33 m34 m35 m36 m37 m39 m40 m41 m42 m43 m44 m45 m46 m47 m48 m49 m51 m52 m53 m54 m56 m57 m58 m59 pc ac sc ln sh gf v0 td v26 v27 v28 v50 f6 qp pr fp qw wr fw tw 1 Pm Wm kI0 kI5 kI1 kI2 hFPR hFWR (fun b => b = m6) rfl tI0 tI5 tI1 tI2 (by omega) (by assumption) (by assumption)) gX11_stop_X11_sends rfl rfl (by decide +kernel) ⟨(Nat.le_of_ble_eq_true rfl), (Nat.le_of_ble_eq_true rfl)⟩ rfl hl.1 (Nat.le_of_ble_eq_true rfl) kI0 rfl dX11_stop_56 rfl ⟨(Nat.le_of_ble_eq_true rfl), (Nat.le_of_ble_eq_true rfl)⟩ (fun v416 w417 hp415 H locs hP hD hS => ?_)
            obtain ⟨gx418, rfl, hz419, kq421, k420⟩ := hp415
            have k422 := kq421.2 _ _ kI0 (tg_ne tI0 tI5 (by decide))
            have k423 := kq421.2 _ _ kI1 (tg_ne tI1 tI5 (by decide))
            have k424 := kq421.2 _ _ kI2 (tg_ne tI2 tI5 (by decide))
            have k425 := kq421.2 _ _ kI3 (tg_ne tI3 tI5 (by decide))
            have k426 := kq421.2 _ _ kI4 (tg_ne tI4 tI5 (by decide))
            have k427 := kq421.2 _ _ kI6 (tg_ne tI6 tI5 (by decide))
            have k428 := kq421.2 _ _ kI7 (tg_ne tI7 tI5 (by decide))
            have k429 := kq421.2 _ _ kI8 (tg_ne tI8 tI5 (by decide))
            have k430 := kq421.2 _ _ kI9 (tg_ne tI9 tI5 (by decide))
            have k431 := kq421.2 _ _ kI10 (tg_ne tI10 tI5 (by decide))
            have k432 := kq421.2 _ _ kI11 (tg_ne tI11 tI5 (by decide))
            have k433 := kq421.2 _ _ kI12 (tg_ne tI12 tI5 (by decide))
            have k434 := kq421.2 _ _ kI13 (tg_ne tI13 tI5 (by decide))
            have k435 := kq421.2 _ _ kI14 (tg_ne tI14 tI5 (by decide))
            have k436 := kq421.2 _ _ kI15 (tg_ne tI15 tI5 (by decide))
            have k437 := kq421.2 _ _ kI16 (tg_ne tI16 tI5 (by decide))
            have k438 := kq421.2 _ _ kI17 (tg_ne tI17 tI5 (by decide))
            have k439 := kq421.2 _ _ kI18 (tg_ne tI18 tI5 (by decide))
            have k440 := kq421.2 _ _ kI19 (tg_ne tI19 tI5 (by decide))
            have k441 := kq421.2 _ _ kI20 (tg_ne tI20 tI5 (by decide))
            have k442 := kq421.2 _ _ kI21 (tg_ne tI21 tI5 (by decide))
            have k443 := kq421.2 _ _ kI22 (tg_ne tI22 tI5 (by decide))
            have k444 := kq421.2 _ _ kI23 (tg_ne tI23 tI5 (by decide))
            have k445 := kq421.2 _ _ kI24 (tg_ne tI24 tI5 (by decide))
            have k446 := kq421.2 _ _ kI25 (tg_ne tI25 tI5 (by decide))
            have k447 := kq421.2 _ _ kI26 (tg_ne tI26 tI5 (by decide))
            have k448 := kq421.2 _ _ kI27 (tg_ne tI27 tI5 (by decide))
            have k449 := kq421.2 _ _ kI28 (tg_ne tI28 tI5 (by decide))
            have k450 := kq421.2 _ _ kI29 (tg_ne tI29 tI5 (by decide))
            have k451 := kq421.2 _ _ kI30 (tg_ne tI30 tI5 (by decide))
            have k452 := kq421.2 _ _ kI31 (tg_ne tI31 tI5 (by decide))
            have k453 := kq421.2 _ _ kI32 (tg_ne tI32 tI5 (by decide))
            have k454 := kq421.2 _ _ kI33 (tg_ne tI33 tI5 (by decide))
            have k455 := kq421.2 _ _ kI34 (tg_ne tI34 tI5 (by decide))
            have k456 := kq421.2 _ _ kI35 (tg_ne tI35 tI5 (by decide))
            have k457 := kq421.2 _ _ kI36 (tg_ne tI36 tI5 (by decide))
            have k458 := kq421.2 _ _ kI37 (tg_ne tI37 tI5 (by decide))
            have k459 := kq421.2 _ _ kI38 (tg_ne tI38 tI5 (by decide))
            have k460 := kq421.2 _ _ kI39 (tg_ne tI39 tI5 (by decide))
            have k461 := kq421.2 _ _ kI40 (tg_ne tI40 tI5 (by decide))
            have k462 := kq421.2 _ _ kI41 (tg_ne tI41 tI5 (by decide))
            have k463 := kq421.2 _ _ kI42 (tg_ne tI42 tI5 (by decide))
            have k464 := kq421.2 _ _ kI43 (tg_ne tI43 tI5 (by decide))
            have k465 := kq421.2 _ _ kI44 (tg_ne tI44 tI5 (by decide))
            have k466 := kq421.2 _ _ kI45 (tg_ne tI45 tI5 (by decide))
            have k467 := kq421.2 _ _ kI46 (tg_ne tI46 tI5 (by decide))
            have k468 := kq421.2 _ _ kI47 (tg_ne tI47 tI5 (by decide))
            have k469 := kq421.2 _ _ kI48 (tg_ne tI48 tI5 (by decide))
            have fm470 : ∀ k9, k9 < 12 → qp k9 = some (pr k9) ∧ wd_at w417 (pr k9) (.inl (cy 2, 12, .inl (fp k9))) ∧ tg (pr k9) = 11000 + k9 := fun k9 hi9 => ⟨(hFPR k9 hi9).1, kq421.2 _ _ (hFPR k9 hi9).2.1 (tg_ne (hFPR k9 hi9).2.2 tI5 (tqA (show 10106 < 11000 by decide))), (hFPR k9 hi9).2.2⟩
            have fm471 : ∀ k9, k9 < 12 → qw k9 = some (wr k9) ∧ wd_at w417 (wr k9) (.inl (cy 2, 12, .inl (fw k9))) ∧ tg (wr k9) = 12000 + k9 := fun k9 hi9 => ⟨(hFWR k9 hi9).1, kq421.2 _ _ (hFWR k9 hi9).2.1 (tg_ne (hFWR k9 hi9).2.2 tI5 (tqA (show 10106 < 12000 by decide))), (hFWR k9 hi9).2.2⟩
            have fm472 : ∀ k9, k9 < 60 → qs k9 = some (sr k9) ∧ wd_at w417 (sr k9) (.inl (cy 2, 12, .inl (fs k9))) ∧ tg (sr k9) = 13000 + k9 := fun k9 hi9 => ⟨(hFSR k9 hi9).1, kq421.2 _ _ (hFSR k9 hi9).2.1 (tg_ne (hFSR k9 hi9).2.2 tI5 (tqA (show 10106 < 13000 by decide))), (hFSR k9 hi9).2.2⟩
            have kp473 := kp0.tr kq421 (fun b9 hm q9 => (fun q9 => q9 ▸ (tgT tI5 (by decide))) q9)
            refine W.eq (g2 := F0 m 59 ls []) rfl (W.widen (k := 0) (n := 0) (Nat.le_of_ble_eq_true rfl) (Nat.le_of_ble_eq_true rfl) ?_)
            refine lv_aload_n hx hb dX11_stop_59 rfl (lv_at hl 0 rfl) ?_
            refine x_get (ref := "NoteHouseModel") F hP k422 rfl (fun _ h => List.mem_cons_of_mem _ (List.mem_append_right _ (h))) 21 (Nat.le_of_ble_eq_true rfl) (List.mem_cons_of_mem _ (List.mem_append_left _ (List.mem_of_getElem? (i := 3) rfl))) rfl rfl dX11_stop_60 ?_
            refine lv_aload_n hx hb dX11_stop_63 rfl (lv_at hl 0 rfl) ?_
            refine x_get (ref := "NoteHouseModel") F hP k422 rfl (fun _ h => List.mem_cons_of_mem _ (List.mem_append_right _ (h))) 16 (Nat.le_of_ble_eq_true rfl) (List.mem_cons_of_mem _ (List.mem_append_left _ (List.mem_of_getElem? (i := 0) rfl))) rfl rfl dX11_stop_64 ?_
            refine lv_iload_n hx hb dX11_stop_67 rfl (lv_at hl 1 rfl) ?_
            refine y_iast F hP hD hS k438 (vp_in_nI (n := sc) (N := 60) (by omega) (by decide)) dX11_stop_68 (fun w474 ew475 H locs hP hD hS => ?_)
            have k476 := wd_at.pt ew475 k422 (tg_ne tI0 tI17 (by decide))
            have k477 := wd_at.pt ew475 k423 (tg_ne tI1 tI17 (by decide))
            have k478 := wd_at.pt ew475 k424 (tg_ne tI2 tI17 (by decide))
            have k479 := wd_at.pt ew475 k425 (tg_ne tI3 tI17 (by decide))
            have k480 := wd_at.pt ew475 k426 (tg_ne tI4 tI17 (by decide))
            have k481 := wd_at.pt ew475 k420 (tg_ne tI5 tI17 (by decide))
            have k482 := wd_at.pt ew475 k427 (tg_ne tI6 tI17 (by decide))
            have k483 := wd_at.pt ew475 k428 (tg_ne tI7 tI17 (by decide))
            have k484 := wd_at.pt ew475 k429 (tg_ne tI8 tI17 (by decide))
            have k485 := wd_at.pt ew475 k430 (tg_ne tI9 tI17 (by decide))
            have k486 := wd_at.pt ew475 k431 (tg_ne tI10 tI17 (by decide))
            have k487 := wd_at.pt ew475 k432 (tg_ne tI11 tI17 (by decide))
            have k488 := wd_at.pt ew475 k433 (tg_ne tI12 tI17 (by decide))
            have k489 := wd_at.pt ew475 k434 (tg_ne tI13 tI17 (by decide))
            have k490 := wd_at.pt ew475 k435 (tg_ne tI14 tI17 (by decide))
            have k491 := wd_at.pt ew475 k436 (tg_ne tI15 tI17 (by decide))
            have k492 := wd_at.pt ew475 k437 (tg_ne tI16 tI17 (by decide))
            have k493 : wd_at w474 m21 (.inl (cy 2, 60, .inl (upd f21 (nI sc).toNatClampNeg (nI pq)))) := wd_at.ps ew475 k438
            have k494 := wd_at.pt ew475 k439 (tg_ne tI18 tI17 (by decide))
            have k495 := wd_at.pt ew475 k440 (tg_ne tI19 tI17 (by decide))
            have k496 := wd_at.pt ew475 k441 (tg_ne tI20 tI17 (by decide))
            have k497 := wd_at.pt ew475 k442 (tg_ne tI21 tI17 (by decide))
            have k498 := wd_at.pt ew475 k443 (tg_ne tI22 tI17 (by decide))
            have k499 := wd_at.pt ew475 k444 (tg_ne tI23 tI17 (by decide))
            have k500 := wd_at.pt ew475 k445 (tg_ne tI24 tI17 (by decide))
            have k501 := wd_at.pt ew475 k446 (tg_ne tI25 tI17 (by decide))
            have k502 := wd_at.pt ew475 k447 (tg_ne tI26 tI17 (by decide))
            have k503 := wd_at.pt ew475 k448 (tg_ne tI27 tI17 (by decide))
            have k504 := wd_at.pt ew475 k449 (tg_ne tI28 tI17 (by decide))
            have k505 := wd_at.pt ew475 k450 (tg_ne tI29 tI17 (by decide))
            have k506 := wd_at.pt ew475 k451 (tg_ne tI30 tI17 (by decide))
            have k507 := wd_at.pt ew475 k452 (tg_ne tI31 tI17 (by decide))
            have k508 := wd_at.pt ew475 k453 (tg_ne tI32 tI17 (by decide))
            have k509 := wd_at.pt ew475 k454 (tg_ne tI33 tI17 (by decide))
            have k510 := wd_at.pt ew475 k455 (tg_ne tI34 tI17 (by decide))
            have k511 := wd_at.pt ew475 k456 (tg_ne tI35 tI17 (by decide))
            have k512 := wd_at.pt ew475 k457 (tg_ne tI36 tI17 (by decide))
            have k513 := wd_at.pt ew475 k458 (tg_ne tI37 tI17 (by decide))
            have k514 := wd_at.pt ew475 k459 (tg_ne tI38 tI17 (by decide))
            have k515 := wd_at.pt ew475 k460 (tg_ne tI39 tI17 (by decide))
            have k516 := wd_at.pt ew475 k461 (tg_ne tI40 tI17 (by decide))
            have k517 := wd_at.pt ew475 k462 (tg_ne tI41 tI17 (by decide))
            have k518 := wd_at.pt ew475 k463 (tg_ne tI42 tI17 (by decide))
            have k519 := wd_at.pt ew475 k464 (tg_ne tI43 tI17 (by decide))
            have k520 := wd_at.pt ew475 k465 (tg_ne tI44 tI17 (by decide))
            have k521 := wd_at.pt ew475 k466 (tg_ne tI45 tI17 (by decide))
            have k522 := wd_at.pt ew475 k467 (tg_ne tI46 tI17 (by decide))
            have k523 := wd_at.pt ew475 k468 (tg_ne tI47 tI17 (by decide))
            have k524 := wd_at.pt ew475 k469 (tg_ne tI48 tI17 (by decide))
            have fm525 : ∀ k9, k9 < 12 → qp k9 = some (pr k9) ∧ wd_at w474 (pr k9) (.inl (cy 2, 12, .inl (fp k9))) ∧ tg (pr k9) = 11000 + k9 := fun k9 hi9 => ⟨(fm470 k9 hi9).1, wd_at.pt ew475 (fm470 k9 hi9).2.1 (tg_ne (fm470 k9 hi9).2.2 tI17 (tqA (show 10121 < 11000 by decide))), (fm470 k9 hi9).2.2⟩
            have fm526 : ∀ k9, k9 < 12 → qw k9 = some (wr k9) ∧ wd_at w474 (wr k9) (.inl (cy 2, 12, .inl (fw k9))) ∧ tg (wr k9) = 12000 + k9 := fun k9 hi9 => ⟨(fm471 k9 hi9).1, wd_at.pt ew475 (fm471 k9 hi9).2.1 (tg_ne (fm471 k9 hi9).2.2 tI17 (tqA (show 10121 < 12000 by decide))), (fm471 k9 hi9).2.2⟩
            have fm527 : ∀ k9, k9 < 60 → qs k9 = some (sr k9) ∧ wd_at w474 (sr k9) (.inl (cy 2, 12, .inl (fs k9))) ∧ tg (sr k9) = 13000 + k9 := fun k9 hi9 => ⟨(fm472 k9 hi9).1, wd_at.pt ew475 (fm472 k9 hi9).2.1 (tg_ne (fm472 k9 hi9).2.2 tI17 (tqA (show 10121 < 13000 by decide))), (fm472 k9 hi9).2.2⟩
            have kp528 := kp473.put ew475 (tgT tI17 (by decide))
            refine lv_aload_n hx hb dX11_stop_69 rfl (lv_at hl 0 rfl) ?_
            refine x_get (ref := "NoteHouseModel") F hP k476 rfl (fun _ h => List.mem_cons_of_mem _ (List.mem_append_right _ (h))) 22 (Nat.le_of_ble_eq_true rfl) (List.mem_cons_of_mem _ (List.mem_append_left _ (List.mem_of_getElem? (i := 4) rfl))) rfl rfl dX11_stop_70 ?_
            refine lv_aload_n hx hb dX11_stop_73 rfl (lv_at hl 0 rfl) ?_
            refine x_get (ref := "NoteHouseModel") F hP k476 rfl (fun _ h => List.mem_cons_of_mem _ (List.mem_append_right _ (h))) 16 (Nat.le_of_ble_eq_true rfl) (List.mem_cons_of_mem _ (List.mem_append_left _ (List.mem_of_getElem? (i := 0) rfl))) rfl rfl dX11_stop_74 ?_
            refine lv_iload_n hx hb dX11_stop_77 rfl (lv_at hl 2 rfl) ?_
            refine y_iast F hP hD hS k494 (vp_in_nI (n := sc) (N := 60) (by omega) (by decide)) dX11_stop_78 (fun w529 ew530 H locs hP hD hS => ?_)
            have k531 := wd_at.pt ew530 k476 (tg_ne tI0 tI18 (by decide))
            have k532 := wd_at.pt ew530 k477 (tg_ne tI1 tI18 (by decide))
            have k533 := wd_at.pt ew530 k478 (tg_ne tI2 tI18 (by decide))
            have k534 := wd_at.pt ew530 k479 (tg_ne tI3 tI18 (by decide))
            have k535 := wd_at.pt ew530 k480 (tg_ne tI4 tI18 (by decide))
            have k536 := wd_at.pt ew530 k481 (tg_ne tI5 tI18 (by decide))
            have k537 := wd_at.pt ew530 k482 (tg_ne tI6 tI18 (by decide))
            have k538 := wd_at.pt ew530 k483 (tg_ne tI7 tI18 (by decide))
            have k539 := wd_at.pt ew530 k484 (tg_ne tI8 tI18 (by decide))
            have k540 := wd_at.pt ew530 k485 (tg_ne tI9 tI18 (by decide))
            have k541 := wd_at.pt ew530 k486 (tg_ne tI10 tI18 (by decide))
            have k542 := wd_at.pt ew530 k487 (tg_ne tI11 tI18 (by decide))
            have k543 := wd_at.pt ew530 k488 (tg_ne tI12 tI18 (by decide))
            have k544 := wd_at.pt ew530 k489 (tg_ne tI13 tI18 (by decide))
            have k545 := wd_at.pt ew530 k490 (tg_ne tI14 tI18 (by decide))
            have k546 := wd_at.pt ew530 k491 (tg_ne tI15 tI18 (by decide))
            have k547 := wd_at.pt ew530 k492 (tg_ne tI16 tI18 (by decide))
            have k548 := wd_at.pt ew530 k493 (tg_ne tI17 tI18 (by decide))
            have k549 : wd_at w529 m22 (.inl (cy 2, 60, .inl (upd f22 (nI sc).toNatClampNeg x2))) := wd_at.ps ew530 k494
            have k550 := wd_at.pt ew530 k495 (tg_ne tI19 tI18 (by decide))
            have k551 := wd_at.pt ew530 k496 (tg_ne tI20 tI18 (by decide))
            have k552 := wd_at.pt ew530 k497 (tg_ne tI21 tI18 (by decide))
            have k553 := wd_at.pt ew530 k498 (tg_ne tI22 tI18 (by decide))
            have k554 := wd_at.pt ew530 k499 (tg_ne tI23 tI18 (by decide))
            have k555 := wd_at.pt ew530 k500 (tg_ne tI24 tI18 (by decide))
            have k556 := wd_at.pt ew530 k501 (tg_ne tI25 tI18 (by decide))
            have k557 := wd_at.pt ew530 k502 (tg_ne tI26 tI18 (by decide))
            have k558 := wd_at.pt ew530 k503 (tg_ne tI27 tI18 (by decide))
            have k559 := wd_at.pt ew530 k504 (tg_ne tI28 tI18 (by decide))
            have k560 := wd_at.pt ew530 k505 (tg_ne tI29 tI18 (by decide))
            have k561 := wd_at.pt ew530 k506 (tg_ne tI30 tI18 (by decide))
            have k562 := wd_at.pt ew530 k507 (tg_ne tI31 tI18 (by decide))
            have k563 := wd_at.pt ew530 k508 (tg_ne tI32 tI18 (by decide))
            have k564 := wd_at.pt ew530 k509 (tg_ne tI33 tI18 (by decide))
            have k565 := wd_at.pt ew530 k510 (tg_ne tI34 tI18 (by decide))
            have k566 := wd_at.pt ew530 k511 (tg_ne tI35 tI18 (by decide))
            have k567 := wd_at.pt ew530 k512 (tg_ne tI36 tI18 (by decide))
            have k568 := wd_at.pt ew530 k513 (tg_ne tI37 tI18 (by decide))
            have k569 := wd_at.pt ew530 k514 (tg_ne tI38 tI18 (by decide))
            have k570 := wd_at.pt ew530 k515 (tg_ne tI39 tI18 (by decide))
            have k571 := wd_at.pt ew530 k516 (tg_ne tI40 tI18 (by decide))
            have k572 := wd_at.pt ew530 k517 (tg_ne tI41 tI18 (by decide))
            have k573 := wd_at.pt ew530 k518 (tg_ne tI42 tI18 (by decide))
            have k574 := wd_at.pt ew530 k519 (tg_ne tI43 tI18 (by decide))
            have k575 := wd_at.pt ew530 k520 (tg_ne tI44 tI18 (by decide))
            have k576 := wd_at.pt ew530 k521 (tg_ne tI45 tI18 (by decide))
            have k577 := wd_at.pt ew530 k522 (tg_ne tI46 tI18 (by decide))
            have k578 := wd_at.pt ew530 k523 (tg_ne tI47 tI18 (by decide))
            have k579 := wd_at.pt ew530 k524 (tg_ne tI48 tI18 (by decide))
            have fm580 : ∀ k9, k9 < 12 → qp k9 = some (pr k9) ∧ wd_at w529 (pr k9) (.inl (cy 2, 12, .inl (fp k9))) ∧ tg (pr k9) = 11000 + k9 := fun k9 hi9 => ⟨(fm525 k9 hi9).1, wd_at.pt ew530 (fm525 k9 hi9).2.1 (tg_ne (fm525 k9 hi9).2.2 tI18 (tqA (show 10122 < 11000 by decide))), (fm525 k9 hi9).2.2⟩
            have fm581 : ∀ k9, k9 < 12 → qw k9 = some (wr k9) ∧ wd_at w529 (wr k9) (.inl (cy 2, 12, .inl (fw k9))) ∧ tg (wr k9) = 12000 + k9 := fun k9 hi9 => ⟨(fm526 k9 hi9).1, wd_at.pt ew530 (fm526 k9 hi9).2.1 (tg_ne (fm526 k9 hi9).2.2 tI18 (tqA (show 10122 < 12000 by decide))), (fm526 k9 hi9).2.2⟩
            have fm582 : ∀ k9, k9 < 60 → qs k9 = some (sr k9) ∧ wd_at w529 (sr k9) (.inl (cy 2, 12, .inl (fs k9))) ∧ tg (sr k9) = 13000 + k9 := fun k9 hi9 => ⟨(fm527 k9 hi9).1, wd_at.pt ew530 (fm527 k9 hi9).2.1 (tg_ne (fm527 k9 hi9).2.2 tI18 (tqA (show 10122 < 13000 by decide))), (fm527 k9 hi9).2.2⟩
            have kp583 := kp528.put ew530 (tgT tI18 (by decide))
            have pr584 := (fm582 sc (by omega)).1
            have k585 := (fm582 sc (by omega)).2.1
            have tz586 := (fm582 sc (by omega)).2.2
            have fm587 : ∀ k9, k9 < 60 ∧ k9 ≠ sc → qs k9 = some (sr k9) ∧ wd_at w529 (sr k9) (.inl (cy 2, 12, .inl (fs k9))) ∧ tg (sr k9) = 13000 + k9 := fun k9 hi8 => fm582 k9 hi8.1
            refine lv_iconst (v := 0) hx hb dX11_stop_79 (by decide) ?_
            refine lv_istore (lv' := [(4, .int 0), (0, .ref y), (1, .int (nI pq)), (2, .int x2), (3, .int (nI tw))]) hx hb dX11_stop_80 hl (by decide) rfl (fun ls hl => ?_)
            have lp82 : ∀ (N : Nat) (t : Nat) (g9 : Nat → Int32) (w588 : Wd), (t + N = 12) → (∀ z, z < t → g9 z = mc (lday (nws 1 Pm Wm) td tw z) ∧ zb (lday (nws 1 Pm Wm) td tw z)) → (wd_at w588 y (.inr (11, [.int v0, .int td, .ref m2, .ref m3, .ref m4, .ref m5, .ref m6, .int (nI pc), .ref m8, .ref m9, .ref m10, .ref m11, .ref m12, .ref m13, .ref m14, .int (nI ac), .int (nI sc), .ref m17, .ref m18, .ref m19, .ref m20, .ref m21, .ref m22, .ref m23, .ref m24, .int (nI ln), .int v26, .int v27, .int v28, .ref m29, .ref m30, .ref m31, .ref m32, .ref m33, .ref m34, .ref m35, .ref m36, .ref m37, .int (nI sh), .ref m39, .ref m40, .ref m41, .ref m42, .ref m43, .ref m44, .ref m45, .ref m46, .ref m47, .ref m48, .ref m49, .int v50, .ref m51, .ref m52, .ref m53, .ref m54, .int (nI gf), .ref m56, .ref m57, .ref m58, .ref m59]))) → (wd_at w588 m2 (.inl (cy 10, 12, .inr (.inr (.inr (.inr qp)))))) → (wd_at w588 m3 (.inl (cy 10, 12, .inr (.inr (.inr (.inr qw)))))) → (wd_at w588 m4 (.inl (cy 2, 12, .inl f4))) → (wd_at w588 m5 (.inl (cy 2, 12, .inl f5))) → (wd_at w588 m6 (.inl (cy 2, 12, .inl gx418))) → (wd_at w588 m8 (.inl (cy 2, 30, .inl f8))) → (wd_at w588 m9 (.inl (cy 2, 30, .inl f9))) → (wd_at w588 m10 (.inl (cy 2, 30, .inl f10))) → (wd_at w588 m11 (.inl (cy 2, 30, .inl f11))) → (wd_at w588 m12 (.inl (cy 2, 30, .inl f12))) → (wd_at w588 m13 (.inl (cy 2, 30, .inl f13))) → (wd_at w588 m14 (.inl (cy 2, 30, .inl f14))) → (wd_at w588 m17 (.inl (cy 2, 60, .inl f17))) → (wd_at w588 m18 (.inl (cy 2, 60, .inl f18))) → (wd_at w588 m19 (.inl (cy 2, 60, .inl f19))) → (wd_at w588 m20 (.inl (cy 4, 60, .inl f20))) → (wd_at w588 m21 (.inl (cy 2, 60, .inl (upd f21 (nI sc).toNatClampNeg (nI pq))))) → (wd_at w588 m22 (.inl (cy 2, 60, .inl (upd f22 (nI sc).toNatClampNeg x2)))) → (wd_at w588 m23 (.inl (cy 10, 60, .inr (.inr (.inr (.inr qs)))))) → (wd_at w588 m24 (.inl (cy 0, 300, .inl tB))) → (wd_at w588 m29 (.inl (cy 2, 12, .inl f29))) → (wd_at w588 m30 (.inl (cy 2, 156, .inl f30))) → (wd_at w588 m31 (.inl (cy 2, 156, .inl f31))) → (wd_at w588 m32 (.inl (cy 2, 936, .inl f32))) → (wd_at w588 m33 (.inl (cy 2, 936, .inl f33))) → (wd_at w588 m34 (.inl (cy 2, 936, .inl f34))) → (wd_at w588 m35 (.inl (cy 2, 5, .inl f35))) → (wd_at w588 m36 (.inl (cy 4, 5, .inl f36))) → (wd_at w588 m37 (.inl (cy 2, 5, .inl f37))) → (wd_at w588 m39 (.inl (cy 2, 200, .inl f39))) → (wd_at w588 m40 (.inl (cy 2, 200, .inl f40))) → (wd_at w588 m41 (.inl (cy 2, 200, .inl f41))) → (wd_at w588 m42 (.inl (cy 2, 200, .inl f42))) → (wd_at w588 m43 (.inl (cy 2, 200, .inl f43))) → (wd_at w588 m44 (.inl (cy 2, 200, .inl f44))) → (wd_at w588 m45 (.inl (cy 2, 200, .inl f45))) → (wd_at w588 m46 (.inl (cy 2, 200, .inl f46))) → (wd_at w588 m47 (.inl (cy 2, 200, .inl f47))) → (wd_at w588 m48 (.inl (cy 3, 200, .inr (.inl f48)))) → (wd_at w588 m49 (.inl (cy 2, 12, .inl f49))) → (wd_at w588 m51 (.inl (cy 2, 200, .inl f51))) → (wd_at w588 m52 (.inl (cy 3, 200, .inr (.inl f52)))) → (wd_at w588 m53 (.inl (cy 3, 12, .inr (.inl f53)))) → (wd_at w588 m54 (.inl (cy 3, 12, .inr (.inl f54)))) → (wd_at w588 m56 (.inl (cy 2, 60, .inl f56))) → (wd_at w588 m57 (.inl (cy 2, 60, .inl f57))) → (wd_at w588 m58 (.inl (cy 2, 60, .inl f58))) → (wd_at w588 m59 (.inl (cy 3, 60, .inr (.inl f59)))) → (wd_at w588 (sr sc) (.inl (cy 2, 12, .inl g9))) → (∀ k9, k9 < 12 → qp k9 = some (pr k9) ∧ wd_at w588 (pr k9) (.inl (cy 2, 12, .inl (fp k9))) ∧ tg (pr k9) = 11000 + k9) → (∀ k9, k9 < 12 → qw k9 = some (wr k9) ∧ wd_at w588 (wr k9) (.inl (cy 2, 12, .inl (fw k9))) ∧ tg (wr k9) = 12000 + k9) → (∀ k9, k9 < 60 ∧ k9 ≠ sc → qs k9 = some (sr k9) ∧ wd_at w588 (sr k9) (.inl (cy 2, 12, .inl (fs k9))) ∧ tg (sr k9) = 13000 + k9) → (wd_kp (fun b => 10000 ≤ tg b) w w588) → ∀ (ls : Array Slot), lv_has ls 5 [(0, .ref y), (1, .int (nI pq)), (2, .int x2), (3, .int (nI tw)), (4, .int (nI t))] → Wv p l e ({ frames := 1, cells := 0, slots := 0, locals := 26 }) s m args below meth c D A (0) (0) Q w588 (F0 m 82 ls []) := by
              intro N
              induction N with
              | zero =>
                intro t g9 w588 hN82 hg9 k589 k590 k591 k592 k593 k594 k595 k596 k597 k598 k599 k600 k601 k602 k603 k604 k605 k606 k607 k608 k609 k610 k611 k612 k613 k614 k615 k616 k617 k618 k619 k620 k621 k622 k623 k624 k625 k626 k627 k628 k629 k630 k631 k632 k633 k634 k635 k636 k637 k638 fm639 fm640 fm641 kp642 ls hl H locs hP hD hS
                refine lv_iload hx hb dX11_stop_82 (lv_at hl 4 rfl) ?_
                refine lv_bipush (v := 12) hx hb dX11_stop_84 (by decide) ?_
                refine lv_icmp_ge (tgt := 136) hx hb dX11_stop_86 (by decide) (fun c_643 => ?_) (fun c_643 => absurd (nI_le (a := 12) (b := t) (by omega) (by omega)) c_643)
                refine lv_aload_n hx hb dX11_stop_136 rfl (lv_at hl 0 rfl) ?_
                refine lv_dup hx hb dX11_stop_137 rfl ?_
                refine x_get (ref := "NoteHouseModel") F hP k589 rfl (fun _ h => List.mem_cons_of_mem _ (List.mem_append_right _ (h))) 16 (Nat.le_of_ble_eq_true rfl) (List.mem_cons_of_mem _ (List.mem_append_left _ (List.mem_of_getElem? (i := 0) rfl))) rfl rfl dX11_stop_138 ?_
                refine lv_iconst (v := 1) hx hb dX11_stop_141 (by decide) ?_
                refine lv_iadd hx hb dX11_stop_142 ?_
                rw [show ((nI sc) + 1 : Int32) = nI (sc + 1) from nI_add sc 1]
                refine y_put (ref := "NoteHouseModel") F hP hD hS k589 rfl (fun _ h => List.mem_cons_of_mem _ (List.mem_append_right _ (h))) tyX11_ok nmX11 16 (Nat.le_of_ble_eq_true rfl) (List.mem_cons_of_mem _ (List.mem_append_left _ (List.mem_of_getElem? (i := 0) rfl))) rfl rfl rfl rfl (Nat.le_of_ble_eq_true rfl) dX11_stop_143 (fun w644 ew645 H locs hP hD hS => ?_)
                have k646 : wd_at w644 y (.inr (11, [.int v0, .int td, .ref m2, .ref m3, .ref m4, .ref m5, .ref m6, .int (nI pc), .ref m8, .ref m9, .ref m10, .ref m11, .ref m12, .ref m13, .ref m14, .int (nI ac), .int (nI (sc + 1)), .ref m17, .ref m18, .ref m19, .ref m20, .ref m21, .ref m22, .ref m23, .ref m24, .int (nI ln), .int v26, .int v27, .int v28, .ref m29, .ref m30, .ref m31, .ref m32, .ref m33, .ref m34, .ref m35, .ref m36, .ref m37, .int (nI sh), .ref m39, .ref m40, .ref m41, .ref m42, .ref m43, .ref m44, .ref m45, .ref m46, .ref m47, .ref m48, .ref m49, .int v50, .ref m51, .ref m52, .ref m53, .ref m54, .int (nI gf), .ref m56, .ref m57, .ref m58, .ref m59])) := wd_at.ps ew645 k589
                have k647 := wd_at.pt ew645 k590 (tg_ne tI1 tI0 (by decide))
                have k648 := wd_at.pt ew645 k591 (tg_ne tI2 tI0 (by decide))
                have k649 := wd_at.pt ew645 k592 (tg_ne tI3 tI0 (by decide))
                have k650 := wd_at.pt ew645 k593 (tg_ne tI4 tI0 (by decide))
                have k651 := wd_at.pt ew645 k594 (tg_ne tI5 tI0 (by decide))
                have k652 := wd_at.pt ew645 k595 (tg_ne tI6 tI0 (by decide))
                have k653 := wd_at.pt ew645 k596 (tg_ne tI7 tI0 (by decide))
                have k654 := wd_at.pt ew645 k597 (tg_ne tI8 tI0 (by decide))
                have k655 := wd_at.pt ew645 k598 (tg_ne tI9 tI0 (by decide))
                have k656 := wd_at.pt ew645 k599 (tg_ne tI10 tI0 (by decide))
                have k657 := wd_at.pt ew645 k600 (tg_ne tI11 tI0 (by decide))
                have k658 := wd_at.pt ew645 k601 (tg_ne tI12 tI0 (by decide))
                have k659 := wd_at.pt ew645 k602 (tg_ne tI13 tI0 (by decide))
                have k660 := wd_at.pt ew645 k603 (tg_ne tI14 tI0 (by decide))
                have k661 := wd_at.pt ew645 k604 (tg_ne tI15 tI0 (by decide))
                have k662 := wd_at.pt ew645 k605 (tg_ne tI16 tI0 (by decide))
                have k663 := wd_at.pt ew645 k606 (tg_ne tI17 tI0 (by decide))
                have k664 := wd_at.pt ew645 k607 (tg_ne tI18 tI0 (by decide))
                have k665 := wd_at.pt ew645 k608 (tg_ne tI19 tI0 (by decide))
                have k666 := wd_at.pt ew645 k609 (tg_ne tI20 tI0 (by decide))
                have k667 := wd_at.pt ew645 k610 (tg_ne tI21 tI0 (by decide))
                have k668 := wd_at.pt ew645 k611 (tg_ne tI22 tI0 (by decide))
                have k669 := wd_at.pt ew645 k612 (tg_ne tI23 tI0 (by decide))
                have k670 := wd_at.pt ew645 k613 (tg_ne tI24 tI0 (by decide))
                have k671 := wd_at.pt ew645 k614 (tg_ne tI25 tI0 (by decide))
                have k672 := wd_at.pt ew645 k615 (tg_ne tI26 tI0 (by decide))
                have k673 := wd_at.pt ew645 k616 (tg_ne tI27 tI0 (by decide))
                have k674 := wd_at.pt ew645 k617 (tg_ne tI28 tI0 (by decide))
                have k675 := wd_at.pt ew645 k618 (tg_ne tI29 tI0 (by decide))
                have k676 := wd_at.pt ew645 k619 (tg_ne tI30 tI0 (by decide))
                have k677 := wd_at.pt ew645 k620 (tg_ne tI31 tI0 (by decide))
                have k678 := wd_at.pt ew645 k621 (tg_ne tI32 tI0 (by decide))
                have k679 := wd_at.pt ew645 k622 (tg_ne tI33 tI0 (by decide))
                have k680 := wd_at.pt ew645 k623 (tg_ne tI34 tI0 (by decide))
                have k681 := wd_at.pt ew645 k624 (tg_ne tI35 tI0 (by decide))
                have k682 := wd_at.pt ew645 k625 (tg_ne tI36 tI0 (by decide))
                have k683 := wd_at.pt ew645 k626 (tg_ne tI37 tI0 (by decide))
                have k684 := wd_at.pt ew645 k627 (tg_ne tI38 tI0 (by decide))
                have k685 := wd_at.pt ew645 k628 (tg_ne tI39 tI0 (by decide))
                have k686 := wd_at.pt ew645 k629 (tg_ne tI40 tI0 (by decide))
                have k687 := wd_at.pt ew645 k630 (tg_ne tI41 tI0 (by decide))
                have k688 := wd_at.pt ew645 k631 (tg_ne tI42 tI0 (by decide))
                have k689 := wd_at.pt ew645 k632 (tg_ne tI43 tI0 (by decide))
                have k690 := wd_at.pt ew645 k633 (tg_ne tI44 tI0 (by decide))
                have k691 := wd_at.pt ew645 k634 (tg_ne tI45 tI0 (by decide))
                have k692 := wd_at.pt ew645 k635 (tg_ne tI46 tI0 (by decide))
                have k693 := wd_at.pt ew645 k636 (tg_ne tI47 tI0 (by decide))
                have k694 := wd_at.pt ew645 k637 (tg_ne tI48 tI0 (by decide))
                have k695 := wd_at.pt ew645 k638 (tg_ne tz586 tI0 (tqA (show 10000 < 13000 by decide)))
                have fm696 : ∀ k9, k9 < 12 → qp k9 = some (pr k9) ∧ wd_at w644 (pr k9) (.inl (cy 2, 12, .inl (fp k9))) ∧ tg (pr k9) = 11000 + k9 := fun k9 hi9 => ⟨(fm639 k9 hi9).1, wd_at.pt ew645 (fm639 k9 hi9).2.1 (tg_ne (fm639 k9 hi9).2.2 tI0 (tqA (show 10000 < 11000 by decide))), (fm639 k9 hi9).2.2⟩
                have fm697 : ∀ k9, k9 < 12 → qw k9 = some (wr k9) ∧ wd_at w644 (wr k9) (.inl (cy 2, 12, .inl (fw k9))) ∧ tg (wr k9) = 12000 + k9 := fun k9 hi9 => ⟨(fm640 k9 hi9).1, wd_at.pt ew645 (fm640 k9 hi9).2.1 (tg_ne (fm640 k9 hi9).2.2 tI0 (tqA (show 10000 < 12000 by decide))), (fm640 k9 hi9).2.2⟩
                have fm698 : ∀ k9, k9 < 60 ∧ k9 ≠ sc → qs k9 = some (sr k9) ∧ wd_at w644 (sr k9) (.inl (cy 2, 12, .inl (fs k9))) ∧ tg (sr k9) = 13000 + k9 := fun k9 hi9 => ⟨(fm641 k9 hi9).1, wd_at.pt ew645 (fm641 k9 hi9).2.1 (tg_ne (fm641 k9 hi9).2.2 tI0 (tqA (show 10000 < 13000 by decide))), (fm641 k9 hi9).2.2⟩
                have kp699 := kp642.put ew645 (tgT tI0 (by decide))
                refine lv_aload_n hx hb dX11_stop_146 rfl (lv_at hl 0 rfl) ?_
                refine x_get (ref := "NoteHouseModel") F hP k646 rfl (fun _ h => List.mem_cons_of_mem _ (List.mem_append_right _ (h))) 16 (Nat.le_of_ble_eq_true rfl) (List.mem_cons_of_mem _ (List.mem_append_left _ (List.mem_of_getElem? (i := 0) rfl))) rfl rfl dX11_stop_147 ?_
                refine lv_iconst (v := 1) hx hb dX11_stop_150 (by decide) ?_
                refine lv_isub hx hb dX11_stop_151 ?_
                rw [show ((nI (sc + 1)) - 1 : Int32) = nI ((sc + 1) - 1) from pk_sub (a := (sc + 1)) (b := 1) (by omega)]
                have fm700 : ∀ k9, k9 < 60 → qs k9 = some (sr k9) ∧ wd_at w644 (sr k9) (.inl (cy 2, 12, .inl ((va_up fs sc g9) k9))) ∧ tg (sr k9) = 13000 + k9 := by
                  intro k9 hi9
                  by_cases e9 : k9 = sc
                  · rw [e9]
                    exact ⟨pr584, (by simp only [va_up_self]; exact k695), tz586⟩
                  · simp only [va_up_ne _ _ e9]
                    exact fm698 k9 (by omega)
                have hX701 : IM cy tg y td pc ac (sc + 1) ln se plv Pm Wm av1 av2 av3 (stpU plv pc sc zC (nI pq) x2 (nI tw) (fun t8 => lday (nws 1 Pm Wm) td (nI tw).toNatClampNeg t8)) tB lb rt tT av0 (stpU plv pc sc sp0 (nI pq) x2 (nI tw) (nI pq)) (stpU plv pc sc sp1 (nI pq) x2 (nI tw) x2) pwo phd pgd pdy pno ptp co ra sh hto hpp hle ham hhh hdd hru hde hcp hld w644 := IM.mk m2 m3 m4 m5 m6 m8 m9 m10 m11 m12 m13 m14 m17 m18 m19 m20 m21 m22 m23 m24 m29 m30 m31 m32 m33 m34 m35 m36 m37 m39 m40 m41 m42 m43 m44 m45 m46 m47 m48 m49 m51 m52 m53 m54 m56 m57 m58 m59 gf v0 v26 v27 v28 v50 f4 f5 gx418 f8 f9 f10 f11 f12 f13 f14 f17 f18 f19 f20 (upd f21 (nI sc).toNatClampNeg (nI pq)) (upd f22 (nI sc).toNatClampNeg x2) f29 f30 f31 f32 f33 f34 f35 f36 f37 f39 f40 f41 f42 f43 f44 f45 f46 f47 f48 f49 f51 f52 f53 f54 f56 f57 f58 f59 qp pr fp qw wr fw qs sr (va_up fs sc g9) (by omega) (by omega) (by omega) (by omega) (by omega) (by omega) hrl hc ht hp hso hlo htd hmp hmw hav (by rw [show stpU plv pc sc zC (nI pq) x2 (nI tw) (fun t8 => lday (nws 1 Pm Wm) td (nI tw).toNatClampNeg t8) = va_up zC sc (fun t8 => lday (nws 1 Pm Wm) td tw t8) from by simp [stpU, c_1, h60, c_5, clpq, c_9, cltw, c_10, c_414, hlf]]; exact hzm.a (fun z hz => hg9 z (by omega))) hlb hmt0 hav0 (by rw [show stpU plv pc sc sp0 (nI pq) x2 (nI tw) (nI pq) = va_up sp0 sc (nI pq) from by simp [stpU, c_1, h60, c_5, clpq, c_9, cltw, c_10, c_414, hlf]]; exact hs0.a (by omega)) (by rw [show stpU plv pc sc sp1 (nI pq) x2 (nI tw) x2 = va_up sp1 sc x2 from by simp [stpU, c_1, h60, c_5, clpq, c_9, cltw, c_10, c_414, hlf]]; exact hs1.a (by omega)) hco hra hpp9 hsh9 k646 tI0 k647 tI1 k648 tI2 k649 tI3 k650 tI4 k651 tI5 k652 tI6 k653 tI7 k654 tI8 k655 tI9 k656 tI10 k657 tI11 k658 tI12 k659 tI13 k660 tI14 k661 tI15 k662 tI16 k663 tI17 k664 tI18 k665 tI19 k666 tI20 k667 tI21 k668 tI22 k669 tI23 k670 tI24 k671 tI25 k672 tI26 k673 tI27 k674 tI28 k675 tI29 k676 tI30 k677 tI31 k678 tI32 k679 tI33 k680 tI34 k681 tI35 k682 tI36 k683 tI37 k684 tI38 k685 tI39 k686 tI40 k687 tI41 k688 tI42 k689 tI43 k690 tI44 k691 tI45 k692 tI46 k693 tI47 k694 tI48 fm696 fm697 fm700
                exact y_ir K hP hD hS (Nat.le_of_ble_eq_true rfl) (Nat.le_of_ble_eq_true rfl) (ty := .int) rfl rfl dX11_stop_152 (by refine ⟨(congrArg (fun z => some (Value.int z)) (show nI ((sc + 1) - 1) = stpA plv pc sc (nI pq) x2 (nI tw) from by simp [stpA, stpC, stpU, c_1, h60, c_5, clpq, c_9, cltw, c_10, c_414, hlf])), ?_⟩; rw [show stpC plv pc sc (nI pq) x2 (nI tw) = (sc + 1) from by simp [stpA, stpC, stpU, c_1, h60, c_5, clpq, c_9, cltw, c_10, c_414, hlf]]; exact ⟨kp699, hX701⟩)
              | succ N ih82 =>
                intro t g9 w588 hN82 hg9 k589 k590 k591 k592 k593 k594 k595 k596 k597 k598 k599 k600 k601 k602 k603 k604 k605 k606 k607 k608 k609 k610 k611 k612 k613 k614 k615 k616 k617 k618 k619 k620 k621 k622 k623 k624 k625 k626 k627 k628 k629 k630 k631 k632 k633 k634 k635 k636 k637 k638 fm639 fm640 fm641 kp642 ls hl H locs hP hD hS
                refine lv_iload hx hb dX11_stop_82 (lv_at hl 4 rfl) ?_
                refine lv_bipush (v := 12) hx hb dX11_stop_84 (by decide) ?_
                refine lv_icmp_ge (tgt := 136) hx hb dX11_stop_86 (by decide) (fun c_702 => absurd c_702 (nI_ge (a := t) (b := 12) (by omega) (by omega))) (fun c_702 => ?_)
                refine lv_aload_n hx hb dX11_stop_89 rfl (lv_at hl 0 rfl) ?_
                refine x_get (ref := "NoteHouseModel") F hP k589 rfl (fun _ h => List.mem_cons_of_mem _ (List.mem_append_right _ (h))) 23 (Nat.le_of_ble_eq_true rfl) (List.mem_cons_of_mem _ (List.mem_append_left _ (List.mem_of_getElem? (i := 5) rfl))) rfl rfl dX11_stop_90 ?_
                refine lv_aload_n hx hb dX11_stop_93 rfl (lv_at hl 0 rfl) ?_
                refine x_get (ref := "NoteHouseModel") F hP k589 rfl (fun _ h => List.mem_cons_of_mem _ (List.mem_append_right _ (h))) 16 (Nat.le_of_ble_eq_true rfl) (List.mem_cons_of_mem _ (List.mem_append_left _ (List.mem_of_getElem? (i := 0) rfl))) rfl rfl dX11_stop_94 ?_
                refine x_aaldA F hP k608 (vp_in_nI (n := sc) (N := 60) (by omega) (by decide)) dX11_stop_97 ?_
                rw [nI_clamp (n := sc) (by omega), pr584]
                refine W.eq (g2 := F0 m _ ls [.ref (sr sc)]) rfl ?_
                refine lv_iload hx hb dX11_stop_98 (lv_at hl 4 rfl) ?_
                refine lv_aload_n hx hb dX11_stop_100 rfl (lv_at hl 0 rfl) ?_
                refine x_get (ref := "NoteHouseModel") F hP k589 rfl (fun _ h => List.mem_cons_of_mem _ (List.mem_append_right _ (h))) 6 (Nat.le_of_ble_eq_true rfl) (List.mem_cons_of_mem _ (List.mem_append_left _ (List.mem_of_getElem? (i := 6) rfl))) rfl rfl dX11_stop_101 ?_
                refine lv_iload hx hb dX11_stop_104 (lv_at hl 4 rfl) ?_
                refine x_iald F hP k594 (vp_in_nI (n := t) (N := 12) (by omega) (by decide)) dX11_stop_106 ?_
                rw [nI_clamp (n := t) (by omega), hz419 t (by omega)]
                refine lv_ldc (v := 268435456) hx hb hown (hts _ (List.mem_cons_of_mem _ (List.mem_append_left _ (List.mem_of_getElem? (i := 7) rfl)))) dX11_stop_107 ?_
                refine lv_icmp_ne (tgt := 117) hx hb dX11_stop_109 (by decide) (fun cz => ?_) (fun cz => ?_)
                · refine lv_aload_n hx hb dX11_stop_117 rfl (lv_at hl 0 rfl) ?_
                  refine x_get (ref := "NoteHouseModel") F hP k589 rfl (fun _ h => List.mem_cons_of_mem _ (List.mem_append_right _ (h))) 1 (Nat.le_of_ble_eq_true rfl) (List.mem_cons_of_mem _ (List.mem_append_left _ (List.mem_of_getElem? (i := 8) rfl))) rfl rfl dX11_stop_118 ?_
                  refine lv_aload_n hx hb dX11_stop_121 rfl (lv_at hl 0 rfl) ?_
                  refine x_get (ref := "NoteHouseModel") F hP k589 rfl (fun _ h => List.mem_cons_of_mem _ (List.mem_append_right _ (h))) 6 (Nat.le_of_ble_eq_true rfl) (List.mem_cons_of_mem _ (List.mem_append_left _ (List.mem_of_getElem? (i := 6) rfl))) rfl rfl dX11_stop_122 ?_
                  refine lv_iload hx hb dX11_stop_125 (lv_at hl 4 rfl) ?_
                  refine x_iald F hP k594 (vp_in_nI (n := t) (N := 12) (by omega) (by decide)) dX11_stop_127 ?_
                  rw [nI_clamp (n := t) (by omega), hz419 t (by omega)]
                  refine lv_iadd hx hb dX11_stop_128 ?_
                  refine y_iast F hP hD hS k638 (vp_in_nI (n := t) (N := 12) (by omega) (by decide)) dX11_stop_129 (fun w703 ew704 H locs hP hD hS => ?_)
                  have k705 := wd_at.pt ew704 k589 (tg_ne tI0 tz586 (tnA2 (show 10000 < 13000 by decide)))
                  have k706 := wd_at.pt ew704 k590 (tg_ne tI1 tz586 (tnA2 (show 10102 < 13000 by decide)))
                  have k707 := wd_at.pt ew704 k591 (tg_ne tI2 tz586 (tnA2 (show 10103 < 13000 by decide)))
                  have k708 := wd_at.pt ew704 k592 (tg_ne tI3 tz586 (tnA2 (show 10104 < 13000 by decide)))
                  have k709 := wd_at.pt ew704 k593 (tg_ne tI4 tz586 (tnA2 (show 10105 < 13000 by decide)))
                  have k710 := wd_at.pt ew704 k594 (tg_ne tI5 tz586 (tnA2 (show 10106 < 13000 by decide)))
                  have k711 := wd_at.pt ew704 k595 (tg_ne tI6 tz586 (tnA2 (show 10108 < 13000 by decide)))
                  have k712 := wd_at.pt ew704 k596 (tg_ne tI7 tz586 (tnA2 (show 10109 < 13000 by decide)))
                  have k713 := wd_at.pt ew704 k597 (tg_ne tI8 tz586 (tnA2 (show 10110 < 13000 by decide)))
                  have k714 := wd_at.pt ew704 k598 (tg_ne tI9 tz586 (tnA2 (show 10111 < 13000 by decide)))
                  have k715 := wd_at.pt ew704 k599 (tg_ne tI10 tz586 (tnA2 (show 10112 < 13000 by decide)))
                  have k716 := wd_at.pt ew704 k600 (tg_ne tI11 tz586 (tnA2 (show 10113 < 13000 by decide)))
                  have k717 := wd_at.pt ew704 k601 (tg_ne tI12 tz586 (tnA2 (show 10114 < 13000 by decide)))
                  have k718 := wd_at.pt ew704 k602 (tg_ne tI13 tz586 (tnA2 (show 10117 < 13000 by decide)))
                  have k719 := wd_at.pt ew704 k603 (tg_ne tI14 tz586 (tnA2 (show 10118 < 13000 by decide)))
                  have k720 := wd_at.pt ew704 k604 (tg_ne tI15 tz586 (tnA2 (show 10119 < 13000 by decide)))
                  have k721 := wd_at.pt ew704 k605 (tg_ne tI16 tz586 (tnA2 (show 10120 < 13000 by decide)))
                  have k722 := wd_at.pt ew704 k606 (tg_ne tI17 tz586 (tnA2 (show 10121 < 13000 by decide)))
                  have k723 := wd_at.pt ew704 k607 (tg_ne tI18 tz586 (tnA2 (show 10122 < 13000 by decide)))
                  have k724 := wd_at.pt ew704 k608 (tg_ne tI19 tz586 (tnA2 (show 10123 < 13000 by decide)))
                  have k725 := wd_at.pt ew704 k609 (tg_ne tI20 tz586 (tnA2 (show 10124 < 13000 by decide)))
                  have k726 := wd_at.pt ew704 k610 (tg_ne tI21 tz586 (tnA2 (show 10129 < 13000 by decide)))
                  have k727 := wd_at.pt ew704 k611 (tg_ne tI22 tz586 (tnA2 (show 10130 < 13000 by decide)))
                  have k728 := wd_at.pt ew704 k612 (tg_ne tI23 tz586 (tnA2 (show 10131 < 13000 by decide)))
                  have k729 := wd_at.pt ew704 k613 (tg_ne tI24 tz586 (tnA2 (show 10132 < 13000 by decide)))
                  have k730 := wd_at.pt ew704 k614 (tg_ne tI25 tz586 (tnA2 (show 10133 < 13000 by decide)))
                  have k731 := wd_at.pt ew704 k615 (tg_ne tI26 tz586 (tnA2 (show 10134 < 13000 by decide)))
                  have k732 := wd_at.pt ew704 k616 (tg_ne tI27 tz586 (tnA2 (show 10135 < 13000 by decide)))
                  have k733 := wd_at.pt ew704 k617 (tg_ne tI28 tz586 (tnA2 (show 10136 < 13000 by decide)))
                  have k734 := wd_at.pt ew704 k618 (tg_ne tI29 tz586 (tnA2 (show 10137 < 13000 by decide)))
                  have k735 := wd_at.pt ew704 k619 (tg_ne tI30 tz586 (tnA2 (show 10139 < 13000 by decide)))
                  have k736 := wd_at.pt ew704 k620 (tg_ne tI31 tz586 (tnA2 (show 10140 < 13000 by decide)))
                  have k737 := wd_at.pt ew704 k621 (tg_ne tI32 tz586 (tnA2 (show 10141 < 13000 by decide)))
                  have k738 := wd_at.pt ew704 k622 (tg_ne tI33 tz586 (tnA2 (show 10142 < 13000 by decide)))
                  have k739 := wd_at.pt ew704 k623 (tg_ne tI34 tz586 (tnA2 (show 10143 < 13000 by decide)))
                  have k740 := wd_at.pt ew704 k624 (tg_ne tI35 tz586 (tnA2 (show 10144 < 13000 by decide)))
                  have k741 := wd_at.pt ew704 k625 (tg_ne tI36 tz586 (tnA2 (show 10145 < 13000 by decide)))
                  have k742 := wd_at.pt ew704 k626 (tg_ne tI37 tz586 (tnA2 (show 10146 < 13000 by decide)))
                  have k743 := wd_at.pt ew704 k627 (tg_ne tI38 tz586 (tnA2 (show 10147 < 13000 by decide)))
                  have k744 := wd_at.pt ew704 k628 (tg_ne tI39 tz586 (tnA2 (show 10148 < 13000 by decide)))
                  have k745 := wd_at.pt ew704 k629 (tg_ne tI40 tz586 (tnA2 (show 10149 < 13000 by decide)))
                  have k746 := wd_at.pt ew704 k630 (tg_ne tI41 tz586 (tnA2 (show 10151 < 13000 by decide)))
                  have k747 := wd_at.pt ew704 k631 (tg_ne tI42 tz586 (tnA2 (show 10152 < 13000 by decide)))
                  have k748 := wd_at.pt ew704 k632 (tg_ne tI43 tz586 (tnA2 (show 10153 < 13000 by decide)))
                  have k749 := wd_at.pt ew704 k633 (tg_ne tI44 tz586 (tnA2 (show 10154 < 13000 by decide)))
                  have k750 := wd_at.pt ew704 k634 (tg_ne tI45 tz586 (tnA2 (show 10156 < 13000 by decide)))
                  have k751 := wd_at.pt ew704 k635 (tg_ne tI46 tz586 (tnA2 (show 10157 < 13000 by decide)))
                  have k752 := wd_at.pt ew704 k636 (tg_ne tI47 tz586 (tnA2 (show 10158 < 13000 by decide)))
                  have k753 := wd_at.pt ew704 k637 (tg_ne tI48 tz586 (tnA2 (show 10159 < 13000 by decide)))
                  have k754 : wd_at w703 (sr sc) (.inl (cy 2, 12, .inl (upd g9 (nI t).toNatClampNeg (td + (nI (fq (dst (nws 1 Pm Wm) tw t))))))) := wd_at.ps ew704 k638
                  have fm755 : ∀ k9, k9 < 12 → qp k9 = some (pr k9) ∧ wd_at w703 (pr k9) (.inl (cy 2, 12, .inl (fp k9))) ∧ tg (pr k9) = 11000 + k9 := fun k9 hi9 => ⟨(fm639 k9 hi9).1, wd_at.pt ew704 (fm639 k9 hi9).2.1 (tg_ne (fm639 k9 hi9).2.2 tz586 (tnB (n := 12) hi9 (by decide))), (fm639 k9 hi9).2.2⟩
                  have fm756 : ∀ k9, k9 < 12 → qw k9 = some (wr k9) ∧ wd_at w703 (wr k9) (.inl (cy 2, 12, .inl (fw k9))) ∧ tg (wr k9) = 12000 + k9 := fun k9 hi9 => ⟨(fm640 k9 hi9).1, wd_at.pt ew704 (fm640 k9 hi9).2.1 (tg_ne (fm640 k9 hi9).2.2 tz586 (tnB (n := 12) hi9 (by decide))), (fm640 k9 hi9).2.2⟩
                  have fm757 : ∀ k9, k9 < 60 ∧ k9 ≠ sc → qs k9 = some (sr k9) ∧ wd_at w703 (sr k9) (.inl (cy 2, 12, .inl (fs k9))) ∧ tg (sr k9) = 13000 + k9 := fun k9 hi9 => ⟨(fm641 k9 hi9).1, wd_at.pt ew704 (fm641 k9 hi9).2.1 (tg_ne (fm641 k9 hi9).2.2 tz586 (tnS hi9.2)), (fm641 k9 hi9).2.2⟩
                  have kp758 := kp642.put ew704 (tgT tz586 (by omega))
                  refine lv_iinc (v := nI (t + 1)) (lv' := [(4, .int (nI (t + 1))), (0, .ref y), (1, .int (nI pq)), (2, .int x2), (3, .int (nI tw))]) hx hb dX11_stop_130 hl (k := 4) rfl (nI_1 t) (by decide) rfl (fun ls hl => ?_)
                  refine lv_goto (tgt := 82) hx hb dX11_stop_133 (by decide) ?_
                  exact ih82 (t + 1) (upd g9 (nI t).toNatClampNeg (td + (nI (fq (dst (nws 1 Pm Wm) tw t))))) w703 (by omega) (upAll9 (P := fun z x => x = mc (lday (nws 1 Pm Wm) td tw z) ∧ zb (lday (nws 1 Pm Wm) td tw z)) (n := 12) (by omega) (by decide) hg9 (show td + nI (fq (dst (nws 1 Pm Wm) tw t)) = mc (lday (nws 1 Pm Wm) td tw t) ∧ zb (lday (nws 1 Pm Wm) td tw t) from ⟨ld_fin htd (by omega) cz, ld_zb htd (by omega)⟩)) k705 k706 k707 k708 k709 k710 k711 k712 k713 k714 k715 k716 k717 k718 k719 k720 k721 k722 k723 k724 k725 k726 k727 k728 k729 k730 k731 k732 k733 k734 k735 k736 k737 k738 k739 k740 k741 k742 k743 k744 k745 k746 k747 k748 k749 k750 k751 k752 k753 k754 fm755 fm756 fm757 kp758 ls (lv_sub hl [1, 2, 3, 4, 0] rfl) H locs hP hD hS
                · refine lv_ldc (v := 268435456) hx hb hown (hts _ (List.mem_cons_of_mem _ (List.mem_append_left _ (List.mem_of_getElem? (i := 7) rfl)))) dX11_stop_112 ?_
                  refine lv_goto (tgt := 129) hx hb dX11_stop_114 (by decide) ?_
                  refine y_iast F hP hD hS k638 (vp_in_nI (n := t) (N := 12) (by omega) (by decide)) dX11_stop_129 (fun w759 ew760 H locs hP hD hS => ?_)
                  have k761 := wd_at.pt ew760 k589 (tg_ne tI0 tz586 (tnA2 (show 10000 < 13000 by decide)))
                  have k762 := wd_at.pt ew760 k590 (tg_ne tI1 tz586 (tnA2 (show 10102 < 13000 by decide)))
                  have k763 := wd_at.pt ew760 k591 (tg_ne tI2 tz586 (tnA2 (show 10103 < 13000 by decide)))
                  have k764 := wd_at.pt ew760 k592 (tg_ne tI3 tz586 (tnA2 (show 10104 < 13000 by decide)))
                  have k765 := wd_at.pt ew760 k593 (tg_ne tI4 tz586 (tnA2 (show 10105 < 13000 by decide)))
                  have k766 := wd_at.pt ew760 k594 (tg_ne tI5 tz586 (tnA2 (show 10106 < 13000 by decide)))
                  have k767 := wd_at.pt ew760 k595 (tg_ne tI6 tz586 (tnA2 (show 10108 < 13000 by decide)))
                  have k768 := wd_at.pt ew760 k596 (tg_ne tI7 tz586 (tnA2 (show 10109 < 13000 by decide)))
                  have k769 := wd_at.pt ew760 k597 (tg_ne tI8 tz586 (tnA2 (show 10110 < 13000 by decide)))
                  have k770 := wd_at.pt ew760 k598 (tg_ne tI9 tz586 (tnA2 (show 10111 < 13000 by decide)))
                  have k771 := wd_at.pt ew760 k599 (tg_ne tI10 tz586 (tnA2 (show 10112 < 13000 by decide)))
                  have k772 := wd_at.pt ew760 k600 (tg_ne tI11 tz586 (tnA2 (show 10113 < 13000 by decide)))
                  have k773 := wd_at.pt ew760 k601 (tg_ne tI12 tz586 (tnA2 (show 10114 < 13000 by decide)))
                  have k774 := wd_at.pt ew760 k602 (tg_ne tI13 tz586 (tnA2 (show 10117 < 13000 by decide)))
                  have k775 := wd_at.pt ew760 k603 (tg_ne tI14 tz586 (tnA2 (show 10118 < 13000 by decide)))
                  have k776 := wd_at.pt ew760 k604 (tg_ne tI15 tz586 (tnA2 (show 10119 < 13000 by decide)))
                  have k777 := wd_at.pt ew760 k605 (tg_ne tI16 tz586 (tnA2 (show 10120 < 13000 by decide)))
                  have k778 := wd_at.pt ew760 k606 (tg_ne tI17 tz586 (tnA2 (show 10121 < 13000 by decide)))
                  have k779 := wd_at.pt ew760 k607 (tg_ne tI18 tz586 (tnA2 (show 10122 < 13000 by decide)))
                  have k780 := wd_at.pt ew760 k608 (tg_ne tI19 tz586 (tnA2 (show 10123 < 13000 by decide)))
                  have k781 := wd_at.pt ew760 k609 (tg_ne tI20 tz586 (tnA2 (show 10124 < 13000 by decide)))
                  have k782 := wd_at.pt ew760 k610 (tg_ne tI21 tz586 (tnA2 (show 10129 < 13000 by decide)))
                  have k783 := wd_at.pt ew760 k611 (tg_ne tI22 tz586 (tnA2 (show 10130 < 13000 by decide)))
                  have k784 := wd_at.pt ew760 k612 (tg_ne tI23 tz586 (tnA2 (show 10131 < 13000 by decide)))
                  have k785 := wd_at.pt ew760 k613 (tg_ne tI24 tz586 (tnA2 (show 10132 < 13000 by decide)))
                  have k786 := wd_at.pt ew760 k614 (tg_ne tI25 tz586 (tnA2 (show 10133 < 13000 by decide)))
                  have k787 := wd_at.pt ew760 k615 (tg_ne tI26 tz586 (tnA2 (show 10134 < 13000 by decide)))
                  have k788 := wd_at.pt ew760 k616 (tg_ne tI27 tz586 (tnA2 (show 10135 < 13000 by decide)))
                  have k789 := wd_at.pt ew760 k617 (tg_ne tI28 tz586 (tnA2 (show 10136 < 13000 by decide)))
                  have k790 := wd_at.pt ew760 k618 (tg_ne tI29 tz586 (tnA2 (show 10137 < 13000 by decide)))
                  have k791 := wd_at.pt ew760 k619 (tg_ne tI30 tz586 (tnA2 (show 10139 < 13000 by decide)))
                  have k792 := wd_at.pt ew760 k620 (tg_ne tI31 tz586 (tnA2 (show 10140 < 13000 by decide)))
                  have k793 := wd_at.pt ew760 k621 (tg_ne tI32 tz586 (tnA2 (show 10141 < 13000 by decide)))
                  have k794 := wd_at.pt ew760 k622 (tg_ne tI33 tz586 (tnA2 (show 10142 < 13000 by decide)))
                  have k795 := wd_at.pt ew760 k623 (tg_ne tI34 tz586 (tnA2 (show 10143 < 13000 by decide)))
                  have k796 := wd_at.pt ew760 k624 (tg_ne tI35 tz586 (tnA2 (show 10144 < 13000 by decide)))
                  have k797 := wd_at.pt ew760 k625 (tg_ne tI36 tz586 (tnA2 (show 10145 < 13000 by decide)))
                  have k798 := wd_at.pt ew760 k626 (tg_ne tI37 tz586 (tnA2 (show 10146 < 13000 by decide)))
                  have k799 := wd_at.pt ew760 k627 (tg_ne tI38 tz586 (tnA2 (show 10147 < 13000 by decide)))
                  have k800 := wd_at.pt ew760 k628 (tg_ne tI39 tz586 (tnA2 (show 10148 < 13000 by decide)))
                  have k801 := wd_at.pt ew760 k629 (tg_ne tI40 tz586 (tnA2 (show 10149 < 13000 by decide)))
                  have k802 := wd_at.pt ew760 k630 (tg_ne tI41 tz586 (tnA2 (show 10151 < 13000 by decide)))
                  have k803 := wd_at.pt ew760 k631 (tg_ne tI42 tz586 (tnA2 (show 10152 < 13000 by decide)))
                  have k804 := wd_at.pt ew760 k632 (tg_ne tI43 tz586 (tnA2 (show 10153 < 13000 by decide)))
                  have k805 := wd_at.pt ew760 k633 (tg_ne tI44 tz586 (tnA2 (show 10154 < 13000 by decide)))
                  have k806 := wd_at.pt ew760 k634 (tg_ne tI45 tz586 (tnA2 (show 10156 < 13000 by decide)))
                  have k807 := wd_at.pt ew760 k635 (tg_ne tI46 tz586 (tnA2 (show 10157 < 13000 by decide)))
                  have k808 := wd_at.pt ew760 k636 (tg_ne tI47 tz586 (tnA2 (show 10158 < 13000 by decide)))
                  have k809 := wd_at.pt ew760 k637 (tg_ne tI48 tz586 (tnA2 (show 10159 < 13000 by decide)))
                  have k810 : wd_at w759 (sr sc) (.inl (cy 2, 12, .inl (upd g9 (nI t).toNatClampNeg 268435456))) := wd_at.ps ew760 k638
                  have fm811 : ∀ k9, k9 < 12 → qp k9 = some (pr k9) ∧ wd_at w759 (pr k9) (.inl (cy 2, 12, .inl (fp k9))) ∧ tg (pr k9) = 11000 + k9 := fun k9 hi9 => ⟨(fm639 k9 hi9).1, wd_at.pt ew760 (fm639 k9 hi9).2.1 (tg_ne (fm639 k9 hi9).2.2 tz586 (tnB (n := 12) hi9 (by decide))), (fm639 k9 hi9).2.2⟩
                  have fm812 : ∀ k9, k9 < 12 → qw k9 = some (wr k9) ∧ wd_at w759 (wr k9) (.inl (cy 2, 12, .inl (fw k9))) ∧ tg (wr k9) = 12000 + k9 := fun k9 hi9 => ⟨(fm640 k9 hi9).1, wd_at.pt ew760 (fm640 k9 hi9).2.1 (tg_ne (fm640 k9 hi9).2.2 tz586 (tnB (n := 12) hi9 (by decide))), (fm640 k9 hi9).2.2⟩
                  have fm813 : ∀ k9, k9 < 60 ∧ k9 ≠ sc → qs k9 = some (sr k9) ∧ wd_at w759 (sr k9) (.inl (cy 2, 12, .inl (fs k9))) ∧ tg (sr k9) = 13000 + k9 := fun k9 hi9 => ⟨(fm641 k9 hi9).1, wd_at.pt ew760 (fm641 k9 hi9).2.1 (tg_ne (fm641 k9 hi9).2.2 tz586 (tnS hi9.2)), (fm641 k9 hi9).2.2⟩
                  have kp814 := kp642.put ew760 (tgT tz586 (by omega))
                  refine lv_iinc (v := nI (t + 1)) (lv' := [(4, .int (nI (t + 1))), (0, .ref y), (1, .int (nI pq)), (2, .int x2), (3, .int (nI tw))]) hx hb dX11_stop_130 hl (k := 4) rfl (nI_1 t) (by decide) rfl (fun ls hl => ?_)
                  refine lv_goto (tgt := 82) hx hb dX11_stop_133 (by decide) ?_
                  exact ih82 (t + 1) (upd g9 (nI t).toNatClampNeg 268435456) w759 (by omega) (upAll9 (P := fun z x => x = mc (lday (nws 1 Pm Wm) td tw z) ∧ zb (lday (nws 1 Pm Wm) td tw z)) (n := 12) (by omega) (by decide) hg9 (show (268435456 : Int32) = mc (lday (nws 1 Pm Wm) td tw t) ∧ zb (lday (nws 1 Pm Wm) td tw t) from ⟨ld_far (by omega) cz, ld_zb htd (by omega)⟩)) k761 k762 k763 k764 k765 k766 k767 k768 k769 k770 k771 k772 k773 k774 k775 k776 k777 k778 k779 k780 k781 k782 k783 k784 k785 k786 k787 k788 k789 k790 k791 k792 k793 k794 k795 k796 k797 k798 k799 k800 k801 k802 k803 k804 k805 k806 k807 k808 k809 k810 fm811 fm812 fm813 kp814 ls (lv_sub hl [1, 2, 3, 4, 0] rfl) H locs hP hD hS
            exact lp82 _ 0 (fs sc) w529 (Nat.zero_add 12) (fun z hz => absurd hz (Nat.not_lt_zero z)) k531 k532 k533 k534 k535 k536 k537 k538 k539 k540 k541 k542 k543 k544 k545 k546 k547 k548 k549 k550 k551 k552 k553 k554 k555 k556 k557 k558 k559 k560 k561 k562 k563 k564 k565 k566 k567 k568 k569 k570 k571 k572 k573 k574 k575 k576 k577 k578 k579 k585 fm580 fm581 fm587 kp583 ls (lv_sub hl [1, 2, 3, 4, 0] rfl) H locs hP hD hS
          · have hlf : lf x2 (plv pq) = 0 := by rw [lf_wi eulv hulv]; exact c_414
            refine lv_iconst (v := (-1)) hx hb dX11_stop_51 (by decide) ?_
            exact y_ir K hP hD hS (Nat.le_of_ble_eq_true rfl) (Nat.le_of_ble_eq_true rfl) (ty := .int) rfl rfl dX11_stop_52 (by refine ⟨(congrArg (fun z => some (Value.int z)) (show (-1) = stpA plv pc sc (nI pq) x2 (nI tw) from by simp [stpA, stpC, stpU, c_1, h60, c_5, clpq, c_9, cltw, c_10, c_414, hlf])), ?_⟩; rw [show stpC plv pc sc (nI pq) x2 (nI tw) = sc from by simp [stpA, stpC, stpU, c_1, h60, c_5, clpq, c_9, cltw, c_10, c_414, hlf], show stpU plv pc sc sp0 (nI pq) x2 (nI tw) (nI pq) = sp0 from by simp [stpA, stpC, stpU, c_1, h60, c_5, clpq, c_9, cltw, c_10, c_414, hlf], show stpU plv pc sc sp1 (nI pq) x2 (nI tw) x2 = sp1 from by simp [stpA, stpC, stpU, c_1, h60, c_5, clpq, c_9, cltw, c_10, c_414, hlf], show stpU plv pc sc zC (nI pq) x2 (nI tw) (fun t8 => lday (nws 1 Pm Wm) td (nI tw).toNatClampNeg t8) = zC from by simp [stpA, stpC, stpU, c_1, h60, c_5, clpq, c_9, cltw, c_10, c_414, hlf]]; exact ⟨wd_kp.rf, hIM0⟩)
set_option maxHeartbeats 4000000 in
set_option maxRecDepth 100000 in
theorem M_comes (l : Launch) (D : va_G) (cy : Nat → ClassId) (sk sv : Nat → Nat) (w : Wd) (tg : Nat → Nat) (y : Nat) (td : Int32) (pc ac sc ln : Nat) (se plv : Nat → Int32) (Pm Wm : Nat → Nat → Nat) (av1 av2 av3 : Nat → Int32) (zC : Nat → Nat → Int32) (tB lb : Nat → Int32) (rt : Nat → Nat) (tT : Nat → Nat → Nat → Int32) (av0 sp0 sp1 pwo phd pgd pdy pno ptp co ra : Nat → Int32) (sh : Nat) (hto : Nat → Nat) (hpp hle ham hhh hdd hru hde hcp hld : Nat → Int32) (x1 x2 x3 : Int32) (hIM0 : IM cy tg y td pc ac sc ln se plv Pm Wm av1 av2 av3 zC tB lb rt tT av0 sp0 sp1 pwo phd pgd pdy pno ptp co ra sh hto hpp hle ham hhh hdd hru hde hcp hld w) : Ct l D cy sk sv yX11_comes wsX11_comes ({ frames := 1, cells := 0, slots := 0, locals := 22 }) [.ref y, .int x1, .int x2, .int x3] w (fun v w1 => v = some (.int (comA ac sc av1 av2 zC x1 x2 x3)) ∧ MP cy tg y td pc ac sc ln se plv Pm Wm av1 av2 av3 zC tB lb rt tT av0 sp0 sp1 pwo phd pgd pdy pno ptp co ra sh hto hpp hle ham hhh hdd hru hde hcp hld w w1) := by
  refine Ct.by (cc := cX11_comes) (maxL := 4) (ret := (some .int)) (by decide +kernel) rfl (Nat.le_of_ble_eq_true rfl) ?_
  intro p e s m args below meth c A Q F hnm K ls hl
  have F : wd_Fx p s m args meth c cX11_comes 4 wsX11_comes RX11 D cy sk sv A := F
  have hl : lv_has ls 4 [(0, .ref y), (1, .int x1), (2, .int x2), (3, .int x3)] := hl
  have hx := F.1.1
  have hb := F.1.2.1
  have hown := F.1.2.2.2.1
  have hts := F.1.2.2.2.2
  intro H locs hP hD hS
  have kp0 : wd_kp (fun b => 10000 ≤ tg b) w w := wd_kp.rf
  refine hIM0 _ ?_
  intro m2 m3 m4 m5 m6 m8 m9 m10 m11 m12 m13 m14 m17 m18 m19 m20 m21 m22 m23 m24 m29 m30 m31 m32 m33 m34 m35 m36 m37 m39 m40 m41 m42 m43 m44 m45 m46 m47 m48 m49 m51 m52 m53 m54 m56 m57 m58 m59 gf v0 v26 v27 v28 v50 f4 f5 f6 f8 f9 f10 f11 f12 f13 f14 f17 f18 f19 f20 f21 f22 f29 f30 f31 f32 f33 f34 f35 f36 f37 f39 f40 f41 f42 f43 f44 f45 f46 f47 f48 f49 f51 f52 f53 f54 f56 f57 f58 f59 qp pr fp qw wr fw qs sr fs hp90 hp91 hp92 hp93 hp94 hp95 hrl hc ht hp hso hlo htd hmp hmw hav hzm hlb hmt0 hav0 hs0 hs1 hco hra hpp9 hsh9 kI0 tI0 kI1 tI1 kI2 tI2 kI3 tI3 kI4 tI4 kI5 tI5 kI6 tI6 kI7 tI7 kI8 tI8 kI9 tI9 kI10 tI10 kI11 tI11 kI12 tI12 kI13 tI13 kI14 tI14 kI15 tI15 kI16 tI16 kI17 tI17 kI18 tI18 kI19 tI19 kI20 tI20 kI21 tI21 kI22 tI22 kI23 tI23 kI24 tI24 kI25 tI25 kI26 tI26 kI27 tI27 kI28 tI28 kI29 tI29 kI30 tI30 kI31 tI31 kI32 tI32 kI33 tI33 kI34 tI34 kI35 tI35 kI36 tI36 kI37 tI37 kI38 tI38 kI39 tI39 kI40 tI40 kI41 tI41 kI42 tI42 kI43 tI43 kI44 tI44 kI45 tI45 kI46 tI46 kI47 tI47 kI48 tI48 hFPR hFWR hFSR
  refine lv_iload_n hx hb dX11_comes_0 rfl (lv_at hl 3 rfl) ?_
  refine x_callS (n := 1) (As := [.int x3]) (rest := []) F hP hD hS (g_mTown l D cy sk sv w x3) gX11_comes_X11_isTown rfl (by decide +kernel) ⟨(Nat.le_of_ble_eq_true rfl), (Nat.le_of_ble_eq_true rfl)⟩ rfl hl.1 (Nat.le_of_ble_eq_true rfl) dX11_comes_1 rfl ⟨(Nat.le_of_ble_eq_true rfl), (Nat.le_of_ble_eq_true rfl)⟩ (fun v2 w3 hp1 H locs hP hD hS => ?_)
  obtain ⟨rfl, rfl⟩ := hp1
  refine W.eq (g2 := F0 m 4 ls [.int (wi x3 0 11)]) rfl (W.widen (k := 0) (n := 0) (Nat.le_of_ble_eq_true rfl) (Nat.le_of_ble_eq_true rfl) ?_)
  refine lv_if_ne (tgt := 9) hx hb dX11_comes_4 (by decide) (fun c_4 => ?_) (fun c_4 => ?_)
  · obtain ⟨tw, htw, rfl, cltw⟩ := wi_t c_4
    refine lv_iload_n hx hb dX11_comes_9 rfl (lv_at hl 1 rfl) ?_
    refine lv_if_ne (tgt := 68) hx hb dX11_comes_10 (by decide) (fun cK0 => ?_) (fun cK0 => ?_)
    · refine lv_iload_n hx hb dX11_comes_68 rfl (lv_at hl 1 rfl) ?_
      refine lv_iconst (v := 1) hx hb dX11_comes_69 (by decide) ?_
      refine lv_icmp_ne (tgt := 113) hx hb dX11_comes_70 (by decide) (fun c_5 => ?_) (fun c_5 => ?_)
      · refine lv_iconst (v := (-1)) hx hb dX11_comes_113 (by decide) ?_
        exact y_ir K hP hD hS (Nat.le_of_ble_eq_true rfl) (Nat.le_of_ble_eq_true rfl) (ty := .int) rfl rfl dX11_comes_114 (⟨(congrArg (fun z => some (Value.int z)) (show (-1) = comA ac sc av1 av2 zC x1 x2 (nI tw) from by simp [comA, c_4, cltw, cK0, c_5])), ⟨wd_kp.rf, hIM0⟩⟩)
      · refine lv_iload_n hx hb dX11_comes_73 rfl (lv_at hl 2 rfl) ?_
        refine lv_iconst (v := 0) hx hb dX11_comes_74 (by decide) ?_
        refine lv_aload_n hx hb dX11_comes_75 rfl (lv_at hl 0 rfl) ?_
        refine x_get (ref := "NoteHouseModel") F hP kI0 rfl (fun _ h => List.mem_cons_of_mem _ (List.mem_append_right _ (h))) 16 (Nat.le_of_ble_eq_true rfl) (List.mem_cons_of_mem _ (List.mem_append_left _ (List.mem_of_getElem? (i := 5) rfl))) rfl rfl dX11_comes_76 ?_
        refine lv_iconst (v := 1) hx hb dX11_comes_79 (by decide) ?_
        refine lv_isub hx hb dX11_comes_80 ?_
        refine x_callS (n := 3) (As := [.int x2, .int 0, .int ((nI sc) - 1)]) (rest := []) F hP hD hS (g_in l D cy sk sv w x2 0 ((nI sc) - 1)) gX11_comes_X11_in rfl (by decide +kernel) ⟨(Nat.le_of_ble_eq_true rfl), (Nat.le_of_ble_eq_true rfl)⟩ rfl hl.1 (Nat.le_of_ble_eq_true rfl) dX11_comes_81 rfl ⟨(Nat.le_of_ble_eq_true rfl), (Nat.le_of_ble_eq_true rfl)⟩ (fun v7 w8 hp6 H locs hP hD hS => ?_)
        obtain ⟨rfl, rfl⟩ := hp6
        refine W.eq (g2 := F0 m 84 ls [.int (wi x2 0 ((nI sc) - 1))]) rfl (W.widen (k := 0) (n := 0) (Nat.le_of_ble_eq_true rfl) (Nat.le_of_ble_eq_true rfl) ?_)
        refine lv_if_eq (tgt := 113) hx hb dX11_comes_84 (by decide) (fun c_9 => ?_) (fun c_9 => ?_)
        · refine lv_iconst (v := (-1)) hx hb dX11_comes_113 (by decide) ?_
          exact y_ir K hP hD hS (Nat.le_of_ble_eq_true rfl) (Nat.le_of_ble_eq_true rfl) (ty := .int) rfl rfl dX11_comes_114 (⟨(congrArg (fun z => some (Value.int z)) (show (-1) = comA ac sc av1 av2 zC x1 x2 (nI tw) from by simp [comA, c_4, cltw, cK0, c_5, c_9])), ⟨wd_kp.rf, hIM0⟩⟩)
        · obtain ⟨kk, hkk, rfl⟩ := pb_i (by omega) c_9
          have clkk : (nI kk).toNatClampNeg = kk := nI_clamp (by omega)
          refine lv_aload_n hx hb dX11_comes_87 rfl (lv_at hl 0 rfl) ?_
          refine x_get (ref := "NoteHouseModel") F hP kI0 rfl (fun _ h => List.mem_cons_of_mem _ (List.mem_append_right _ (h))) 23 (Nat.le_of_ble_eq_true rfl) (List.mem_cons_of_mem _ (List.mem_append_left _ (List.mem_of_getElem? (i := 6) rfl))) rfl rfl dX11_comes_88 ?_
          refine lv_iload_n hx hb dX11_comes_91 rfl (lv_at hl 2 rfl) ?_
          refine x_aaldA F hP kI19 (vp_in_nI (n := kk) (N := 60) (by omega) (by decide)) dX11_comes_92 ?_
          have pr10 := (hFSR kk (by omega)).1
          have k11 := (hFSR kk (by omega)).2.1
          have tz12 := (hFSR kk (by omega)).2.2
          rw [nI_clamp (n := kk) (by omega), pr10]
          refine W.eq (g2 := F0 m _ ls [.ref (sr kk)]) rfl ?_
          refine lv_iload_n hx hb dX11_comes_93 rfl (lv_at hl 3 rfl) ?_
          refine x_iald F hP k11 (vp_in_nI (n := tw) (N := 12) (by omega) (by decide)) dX11_comes_94 ?_
          rw [nI_clamp (n := tw) (by omega), (hzm kk hkk tw htw).1]
          refine lv_ldc (v := 268435456) hx hb hown (hts _ (List.mem_cons_of_mem _ (List.mem_append_left _ (List.mem_of_getElem? (i := 4) rfl)))) dX11_comes_95 ?_
          refine lv_icmp_ne (tgt := 104) hx hb dX11_comes_97 (by decide) (fun cG => ?_) (fun cG => ?_)
          · refine lv_aload_n hx hb dX11_comes_104 rfl (lv_at hl 0 rfl) ?_
            refine x_get (ref := "NoteHouseModel") F hP kI0 rfl (fun _ h => List.mem_cons_of_mem _ (List.mem_append_right _ (h))) 23 (Nat.le_of_ble_eq_true rfl) (List.mem_cons_of_mem _ (List.mem_append_left _ (List.mem_of_getElem? (i := 6) rfl))) rfl rfl dX11_comes_105 ?_
            refine lv_iload_n hx hb dX11_comes_108 rfl (lv_at hl 2 rfl) ?_
            refine x_aaldA F hP kI19 (vp_in_nI (n := kk) (N := 60) (by omega) (by decide)) dX11_comes_109 ?_
            rw [nI_clamp (n := kk) (by omega), pr10]
            refine W.eq (g2 := F0 m _ ls [.ref (sr kk)]) rfl ?_
            refine lv_iload_n hx hb dX11_comes_110 rfl (lv_at hl 3 rfl) ?_
            refine x_iald F hP k11 (vp_in_nI (n := tw) (N := 12) (by omega) (by decide)) dX11_comes_111 ?_
            rw [nI_clamp (n := tw) (by omega), (hzm kk hkk tw htw).1]
            exact y_ir K hP hD hS (Nat.le_of_ble_eq_true rfl) (Nat.le_of_ble_eq_true rfl) (ty := .int) rfl rfl dX11_comes_112 (⟨(congrArg (fun z => some (Value.int z)) (show mc (zC kk tw) = comA ac sc av1 av2 zC x1 (nI kk) (nI tw) from by rw [mc_ne cG]; simp [comA, c_4, cltw, cK0, c_5, c_9, clkk, cG])), ⟨wd_kp.rf, hIM0⟩⟩)
          · refine lv_iconst (v := (-1)) hx hb dX11_comes_100 (by decide) ?_
            refine lv_goto (tgt := 112) hx hb dX11_comes_101 (by decide) ?_
            exact y_ir K hP hD hS (Nat.le_of_ble_eq_true rfl) (Nat.le_of_ble_eq_true rfl) (ty := .int) rfl rfl dX11_comes_112 (⟨(congrArg (fun z => some (Value.int z)) (show (-1) = comA ac sc av1 av2 zC x1 (nI kk) (nI tw) from by have e9 := zb_mc (hzm kk hkk tw htw).2 cG; simp [comA, c_4, cltw, cK0, c_5, c_9, clkk, cG, e9])), ⟨wd_kp.rf, hIM0⟩⟩)
    · refine lv_iload_n hx hb dX11_comes_13 rfl (lv_at hl 2 rfl) ?_
      refine lv_iconst (v := 0) hx hb dX11_comes_14 (by decide) ?_
      refine lv_aload_n hx hb dX11_comes_15 rfl (lv_at hl 0 rfl) ?_
      refine x_get (ref := "NoteHouseModel") F hP kI0 rfl (fun _ h => List.mem_cons_of_mem _ (List.mem_append_right _ (h))) 15 (Nat.le_of_ble_eq_true rfl) (List.mem_cons_of_mem _ (List.mem_append_left _ (List.mem_of_getElem? (i := 0) rfl))) rfl rfl dX11_comes_16 ?_
      refine lv_iconst (v := 1) hx hb dX11_comes_19 (by decide) ?_
      refine lv_isub hx hb dX11_comes_20 ?_
      refine x_callS (n := 3) (As := [.int x2, .int 0, .int ((nI ac) - 1)]) (rest := []) F hP hD hS (g_in l D cy sk sv w x2 0 ((nI ac) - 1)) gX11_comes_X11_in rfl (by decide +kernel) ⟨(Nat.le_of_ble_eq_true rfl), (Nat.le_of_ble_eq_true rfl)⟩ rfl hl.1 (Nat.le_of_ble_eq_true rfl) dX11_comes_21 rfl ⟨(Nat.le_of_ble_eq_true rfl), (Nat.le_of_ble_eq_true rfl)⟩ (fun v14 w15 hp13 H locs hP hD hS => ?_)
      obtain ⟨rfl, rfl⟩ := hp13
      refine W.eq (g2 := F0 m 24 ls [.int (wi x2 0 ((nI ac) - 1))]) rfl (W.widen (k := 0) (n := 0) (Nat.le_of_ble_eq_true rfl) (Nat.le_of_ble_eq_true rfl) ?_)
      refine lv_if_eq (tgt := 68) hx hb dX11_comes_24 (by decide) (fun c_16 => ?_) (fun c_16 => ?_)
      · refine lv_iload_n hx hb dX11_comes_68 rfl (lv_at hl 1 rfl) ?_
        refine lv_iconst (v := 1) hx hb dX11_comes_69 (by decide) ?_
        refine lv_icmp_ne (tgt := 113) hx hb dX11_comes_70 (by decide) (fun c_17 => ?_) (fun c_17 => absurd c_17 (fun q => absurd (cK0.symm.trans q) (by decide)))
        refine lv_iconst (v := (-1)) hx hb dX11_comes_113 (by decide) ?_
        exact y_ir K hP hD hS (Nat.le_of_ble_eq_true rfl) (Nat.le_of_ble_eq_true rfl) (ty := .int) rfl rfl dX11_comes_114 (⟨(congrArg (fun z => some (Value.int z)) (show (-1) = comA ac sc av1 av2 zC x1 x2 (nI tw) from by simp [comA, c_4, cltw, cK0, c_16])), ⟨wd_kp.rf, hIM0⟩⟩)
      · obtain ⟨kk, hkk, rfl⟩ := pb_i (by omega) c_16
        have clkk : (nI kk).toNatClampNeg = kk := nI_clamp (by omega)
        refine lv_aload_n hx hb dX11_comes_27 rfl (lv_at hl 0 rfl) ?_
        refine x_get (ref := "NoteHouseModel") F hP kI0 rfl (fun _ h => List.mem_cons_of_mem _ (List.mem_append_right _ (h))) 18 (Nat.le_of_ble_eq_true rfl) (List.mem_cons_of_mem _ (List.mem_append_left _ (List.mem_of_getElem? (i := 1) rfl))) rfl rfl dX11_comes_28 ?_
        refine lv_iload_n hx hb dX11_comes_31 rfl (lv_at hl 2 rfl) ?_
        refine x_iald F hP kI14 (vp_in_nI (n := kk) (N := 60) (by omega) (by decide)) dX11_comes_32 ?_
        rw [nI_clamp (n := kk) (by omega), (hav.1 kk hkk).1]
        refine lv_iload_n hx hb dX11_comes_33 rfl (lv_at hl 3 rfl) ?_
        refine lv_icmp_ne (tgt := 68) hx hb dX11_comes_34 (by decide) (fun c_18 => ?_) (fun c_18 => ?_)
        · refine lv_iload_n hx hb dX11_comes_68 rfl (lv_at hl 1 rfl) ?_
          refine lv_iconst (v := 1) hx hb dX11_comes_69 (by decide) ?_
          refine lv_icmp_ne (tgt := 113) hx hb dX11_comes_70 (by decide) (fun c_19 => ?_) (fun c_19 => absurd c_19 (fun q => absurd (cK0.symm.trans q) (by decide)))
          refine lv_iconst (v := (-1)) hx hb dX11_comes_113 (by decide) ?_
          exact y_ir K hP hD hS (Nat.le_of_ble_eq_true rfl) (Nat.le_of_ble_eq_true rfl) (ty := .int) rfl rfl dX11_comes_114 (⟨(congrArg (fun z => some (Value.int z)) (show (-1) = comA ac sc av1 av2 zC x1 (nI kk) (nI tw) from by simp [comA, c_4, cltw, cK0, c_16, clkk, c_18])), ⟨wd_kp.rf, hIM0⟩⟩)
        · refine lv_aload_n hx hb dX11_comes_37 rfl (lv_at hl 0 rfl) ?_
          refine x_get (ref := "NoteHouseModel") F hP kI0 rfl (fun _ h => List.mem_cons_of_mem _ (List.mem_append_right _ (h))) 20 (Nat.le_of_ble_eq_true rfl) (List.mem_cons_of_mem _ (List.mem_append_left _ (List.mem_of_getElem? (i := 2) rfl))) rfl rfl dX11_comes_38 ?_
          refine lv_iload_n hx hb dX11_comes_41 rfl (lv_at hl 2 rfl) ?_
          refine x_zald F hP kI16 (vp_in_nI (n := kk) (N := 60) (by omega) (by decide)) dX11_comes_42 ?_
          rw [nI_clamp (n := kk) (by omega), (hav.1 kk hkk).2.1]
          refine lv_if_ne (tgt := 68) hx hb dX11_comes_43 (by decide) (fun cL => ?_) (fun cL => ?_)
          · refine lv_iload_n hx hb dX11_comes_68 rfl (lv_at hl 1 rfl) ?_
            refine lv_iconst (v := 1) hx hb dX11_comes_69 (by decide) ?_
            refine lv_icmp_ne (tgt := 113) hx hb dX11_comes_70 (by decide) (fun c_20 => ?_) (fun c_20 => absurd c_20 (fun q => absurd (cK0.symm.trans q) (by decide)))
            refine lv_iconst (v := (-1)) hx hb dX11_comes_113 (by decide) ?_
            exact y_ir K hP hD hS (Nat.le_of_ble_eq_true rfl) (Nat.le_of_ble_eq_true rfl) (ty := .int) rfl rfl dX11_comes_114 (⟨(congrArg (fun z => some (Value.int z)) (show (-1) = comA ac sc av1 av2 zC x1 (nI kk) (nI tw) from by have e9 := (hav.1 kk hkk).2.2.2.2 cL; simp [comA, c_4, cltw, cK0, c_16, clkk, c_18, cL, e9])), ⟨wd_kp.rf, hIM0⟩⟩)
          · refine lv_aload_n hx hb dX11_comes_46 rfl (lv_at hl 0 rfl) ?_
            refine x_get (ref := "NoteHouseModel") F hP kI0 rfl (fun _ h => List.mem_cons_of_mem _ (List.mem_append_right _ (h))) 19 (Nat.le_of_ble_eq_true rfl) (List.mem_cons_of_mem _ (List.mem_append_left _ (List.mem_of_getElem? (i := 3) rfl))) rfl rfl dX11_comes_47 ?_
            refine lv_iload_n hx hb dX11_comes_50 rfl (lv_at hl 2 rfl) ?_
            refine x_iald F hP kI15 (vp_in_nI (n := kk) (N := 60) (by omega) (by decide)) dX11_comes_51 ?_
            rw [nI_clamp (n := kk) (by omega), (hav.1 kk hkk).2.2.1 cL]
            refine lv_ldc (v := 268435456) hx hb hown (hts _ (List.mem_cons_of_mem _ (List.mem_append_left _ (List.mem_of_getElem? (i := 4) rfl)))) dX11_comes_52 ?_
            refine lv_icmp_ne (tgt := 61) hx hb dX11_comes_54 (by decide) (fun cF => ?_) (fun cF => ?_)
            · refine lv_aload_n hx hb dX11_comes_61 rfl (lv_at hl 0 rfl) ?_
              refine x_get (ref := "NoteHouseModel") F hP kI0 rfl (fun _ h => List.mem_cons_of_mem _ (List.mem_append_right _ (h))) 19 (Nat.le_of_ble_eq_true rfl) (List.mem_cons_of_mem _ (List.mem_append_left _ (List.mem_of_getElem? (i := 3) rfl))) rfl rfl dX11_comes_62 ?_
              refine lv_iload_n hx hb dX11_comes_65 rfl (lv_at hl 2 rfl) ?_
              refine x_iald F hP kI15 (vp_in_nI (n := kk) (N := 60) (by omega) (by decide)) dX11_comes_66 ?_
              rw [nI_clamp (n := kk) (by omega), (hav.1 kk hkk).2.2.1 cL]
              exact y_ir K hP hD hS (Nat.le_of_ble_eq_true rfl) (Nat.le_of_ble_eq_true rfl) (ty := .int) rfl rfl dX11_comes_67 (⟨(congrArg (fun z => some (Value.int z)) (show mc (av2 kk) = comA ac sc av1 av2 zC x1 (nI kk) (nI tw) from by rw [mc_ne cF]; simp [comA, c_4, cltw, cK0, c_16, clkk, c_18, cL, cF])), ⟨wd_kp.rf, hIM0⟩⟩)
            · refine lv_iconst (v := (-1)) hx hb dX11_comes_57 (by decide) ?_
              refine lv_goto (tgt := 67) hx hb dX11_comes_58 (by decide) ?_
              exact y_ir K hP hD hS (Nat.le_of_ble_eq_true rfl) (Nat.le_of_ble_eq_true rfl) (ty := .int) rfl rfl dX11_comes_67 (⟨(congrArg (fun z => some (Value.int z)) (show (-1) = comA ac sc av1 av2 zC x1 (nI kk) (nI tw) from by have e9 := zb_mc (hav.1 kk hkk).2.2.2.1 cF; simp [comA, c_4, cltw, cK0, c_16, clkk, c_18, cL, cF, e9])), ⟨wd_kp.rf, hIM0⟩⟩)
  · refine lv_iconst (v := (-1)) hx hb dX11_comes_7 (by decide) ?_
    exact y_ir K hP hD hS (Nat.le_of_ble_eq_true rfl) (Nat.le_of_ble_eq_true rfl) (ty := .int) rfl rfl dX11_comes_8 (⟨(congrArg (fun z => some (Value.int z)) (show (-1) = comA ac sc av1 av2 zC x1 x2 x3 from by simp [comA, c_4])), ⟨wd_kp.rf, hIM0⟩⟩)
