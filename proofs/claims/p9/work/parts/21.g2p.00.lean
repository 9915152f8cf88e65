set_option maxHeartbeats 4000000 in
set_option maxRecDepth 100000 in
theorem m_text (l : Launch) (D : va_G) (cy : Nat → ClassId) (sk sv : Nat → Nat) (w : Wd) (tg : Nat → Nat) (y m2 m3 m4 m5 m6 m8 m9 m10 m11 m12 m13 m14 m17 m18 m19 m20 m21 m22 m23 m24 m29 m30 m31 m32 m33 m34 m35 m36 m37 m39 m40 m41 m42 m43 m44 m45 m46 m47 m48 m49 m51 m52 m53 m54 m56 m57 m58 m59 pc ac sc ln sh gf : Nat) (v0 td v26 v27 v28 v50 : Int32) (f24 : Nat → Int32) (f29 : Nat → Int32) (f30 : Nat → Int32) (f31 : Nat → Int32) (f32 : Nat → Int32) (f33 : Nat → Int32) (f34 : Nat → Int32) (x1 : Int32) (c90 : wd_at w y (.inr (11, [.int v0, .int td, .ref m2, .ref m3, .ref m4, .ref m5, .ref m6, .int (nI pc), .ref m8, .ref m9, .ref m10, .ref m11, .ref m12, .ref m13, .ref m14, .int (nI ac), .int (nI sc), .ref m17, .ref m18, .ref m19, .ref m20, .ref m21, .ref m22, .ref m23, .ref m24, .int (nI ln), .int v26, .int v27, .int v28, .ref m29, .ref m30, .ref m31, .ref m32, .ref m33, .ref m34, .ref m35, .ref m36, .ref m37, .int (nI sh), .ref m39, .ref m40, .ref m41, .ref m42, .ref m43, .ref m44, .ref m45, .ref m46, .ref m47, .ref m48, .ref m49, .int v50, .ref m51, .ref m52, .ref m53, .ref m54, .int (nI gf), .ref m56, .ref m57, .ref m58, .ref m59]))) (c91 : wd_at w m24 (.inl (cy 0, 300, .inl f24))) (c92 : wd_at w m29 (.inl (cy 2, 12, .inl f29))) (c93 : wd_at w m30 (.inl (cy 2, 156, .inl f30))) (c94 : wd_at w m31 (.inl (cy 2, 156, .inl f31))) (c95 : wd_at w m32 (.inl (cy 2, 936, .inl f32))) (c96 : wd_at w m33 (.inl (cy 2, 936, .inl f33))) (c97 : wd_at w m34 (.inl (cy 2, 936, .inl f34)))  (S : Nat → Prop) (s90 : S y) (s91 : S m29) (s92 : S m30) (s93 : S m31) (s94 : S m32) (s95 : S m33) (s96 : S m34) (ty : tg y = 10000) (tm24 : tg m24 = 10124) (tm29 : tg m29 = 10129) (tm30 : tg m30 = 10130) (tm31 : tg m31 = 10131) (tm32 : tg m32 = 10132) (tm33 : tg m33 = 10133) (tm34 : tg m34 = 10134) (hln : ln ≤ 300) (hrl : bOK 12 13 f29) (hc : cOK f31) : Ct l D cy sk sv yX11_text wsX11_text ({ frames := 7, cells := 0, slots := 0, locals := 155 }) [.ref y, .int x1] w (fun v w1 => ∃ (ln1 : Nat) (w26 : Int32) (w27 : Int32) (w28 : Int32) (g29 : Nat → Int32) (g30 : Nat → Int32) (g31 : Nat → Int32) (g32 : Nat → Int32) (g33 : Nat → Int32) (g34 : Nat → Int32) (r1 : Int32), v = some (.int r1) ∧ (ln1 = txtC ln x1) ∧ (bOK 12 13 g29) ∧ (cOK g31) ∧ wd_kp S w w1 ∧ wd_at w1 y (.inr (11, [.int v0, .int td, .ref m2, .ref m3, .ref m4, .ref m5, .ref m6, .int (nI pc), .ref m8, .ref m9, .ref m10, .ref m11, .ref m12, .ref m13, .ref m14, .int (nI ac), .int (nI sc), .ref m17, .ref m18, .ref m19, .ref m20, .ref m21, .ref m22, .ref m23, .ref m24, .int (nI ln1), .int w26, .int w27, .int w28, .ref m29, .ref m30, .ref m31, .ref m32, .ref m33, .ref m34, .ref m35, .ref m36, .ref m37, .int (nI sh), .ref m39, .ref m40, .ref m41, .ref m42, .ref m43, .ref m44, .ref m45, .ref m46, .ref m47, .ref m48, .ref m49, .int v50, .ref m51, .ref m52, .ref m53, .ref m54, .int (nI gf), .ref m56, .ref m57, .ref m58, .ref m59])) ∧ wd_at w1 m29 (.inl (cy 2, 12, .inl g29)) ∧ wd_at w1 m30 (.inl (cy 2, 156, .inl g30)) ∧ wd_at w1 m31 (.inl (cy 2, 156, .inl g31)) ∧ wd_at w1 m32 (.inl (cy 2, 936, .inl g32)) ∧ wd_at w1 m33 (.inl (cy 2, 936, .inl g33)) ∧ wd_at w1 m34 (.inl (cy 2, 936, .inl g34))) := by
  refine Ct.by (cc := cX11_text) (maxL := 6) (ret := (some .int)) (by decide +kernel) rfl (Nat.le_of_ble_eq_true rfl) ?_
  intro p e s m args below meth c A Q F hnm K ls hl
  have F : wd_Fx p s m args meth c cX11_text 6 wsX11_text RX11 D cy sk sv A := F
  have hl : lv_has ls 6 [(0, .ref y), (1, .int x1)] := hl
  have hx := F.1.1
  have hb := F.1.2.1
  have hown := F.1.2.2.2.1
  have hts := F.1.2.2.2.2
  intro H locs hP hD hS
  have kp0 : wd_kp S w w := wd_kp.rf
  refine lv_iload_n hx hb dX11_text_0 rfl (lv_at hl 1 rfl) ?_
  refine x_callS (n := 1) (As := [.int x1]) (rest := []) F hP hD hS (g_mTown l D cy sk sv w x1) gX11_text_X11_isTown rfl (by decide +kernel) ⟨(Nat.le_of_ble_eq_true rfl), (Nat.le_of_ble_eq_true rfl)⟩ rfl hl.1 (Nat.le_of_ble_eq_true rfl) dX11_text_1 rfl ⟨(Nat.le_of_ble_eq_true rfl), (Nat.le_of_ble_eq_true rfl)⟩ (fun v2 w3 hp1 H locs hP hD hS => ?_)
  obtain ⟨rfl, rfl⟩ := hp1
  refine W.eq (g2 := F0 m 4 ls [.int (wi x1 0 11)]) rfl (W.widen (k := 0) (n := 0) (Nat.le_of_ble_eq_true rfl) (Nat.le_of_ble_eq_true rfl) ?_)
  refine lv_if_ne (tgt := 9) hx hb dX11_text_4 (by decide) (fun c_4 => ?_) (fun c_4 => ?_)
  · obtain ⟨tw, htw, rfl, cltw⟩ := wi_t c_4
    refine lv_aload_n hx hb dX11_text_9 rfl (lv_at hl 0 rfl) ?_
    refine lv_iconst (v := 0) hx hb dX11_text_10 (by decide) ?_
    refine y_put (ref := "NoteHouseModel") F hP hD hS c90 rfl (fun _ h => List.mem_cons_of_mem _ (List.mem_append_right _ (h))) tyX11_ok nmX11 26 (Nat.le_of_ble_eq_true rfl) (List.mem_cons_of_mem _ (List.mem_append_left _ (List.mem_append_left _ (List.mem_of_getElem? (i := 0) rfl)))) rfl rfl rfl rfl (Nat.le_of_ble_eq_true rfl) dX11_text_11 (fun w5 ew6 H locs hP hD hS => ?_)
    have k7 : wd_at w5 y (.inr (11, [.int v0, .int td, .ref m2, .ref m3, .ref m4, .ref m5, .ref m6, .int (nI pc), .ref m8, .ref m9, .ref m10, .ref m11, .ref m12, .ref m13, .ref m14, .int (nI ac), .int (nI sc), .ref m17, .ref m18, .ref m19, .ref m20, .ref m21, .ref m22, .ref m23, .ref m24, .int (nI ln), .int 0, .int v27, .int v28, .ref m29, .ref m30, .ref m31, .ref m32, .ref m33, .ref m34, .ref m35, .ref m36, .ref m37, .int (nI sh), .ref m39, .ref m40, .ref m41, .ref m42, .ref m43, .ref m44, .ref m45, .ref m46, .ref m47, .ref m48, .ref m49, .int v50, .ref m51, .ref m52, .ref m53, .ref m54, .int (nI gf), .ref m56, .ref m57, .ref m58, .ref m59])) := wd_at.ps ew6 c90
    have k8 := wd_at.pt ew6 c91 (tg_ne tm24 ty (by decide))
    have k9 := wd_at.pt ew6 c92 (tg_ne tm29 ty (by decide))
    have k10 := wd_at.pt ew6 c93 (tg_ne tm30 ty (by decide))
    have k11 := wd_at.pt ew6 c94 (tg_ne tm31 ty (by decide))
    have k12 := wd_at.pt ew6 c95 (tg_ne tm32 ty (by decide))
    have k13 := wd_at.pt ew6 c96 (tg_ne tm33 ty (by decide))
    have k14 := wd_at.pt ew6 c97 (tg_ne tm34 ty (by decide))
    have kp15 := kp0.put ew6 s90
    refine lv_aload_n hx hb dX11_text_14 rfl (lv_at hl 0 rfl) ?_
    refine lv_iconst (v := 0) hx hb dX11_text_15 (by decide) ?_
    refine y_put (ref := "NoteHouseModel") F hP hD hS k7 rfl (fun _ h => List.mem_cons_of_mem _ (List.mem_append_right _ (h))) tyX11_ok nmX11 28 (Nat.le_of_ble_eq_true rfl) (List.mem_cons_of_mem _ (List.mem_append_left _ (List.mem_append_left _ (List.mem_of_getElem? (i := 1) rfl)))) rfl rfl rfl rfl (Nat.le_of_ble_eq_true rfl) dX11_text_16 (fun w16 ew17 H locs hP hD hS => ?_)
    have k18 : wd_at w16 y (.inr (11, [.int v0, .int td, .ref m2, .ref m3, .ref m4, .ref m5, .ref m6, .int (nI pc), .ref m8, .ref m9, .ref m10, .ref m11, .ref m12, .ref m13, .ref m14, .int (nI ac), .int (nI sc), .ref m17, .ref m18, .ref m19, .ref m20, .ref m21, .ref m22, .ref m23, .ref m24, .int (nI ln), .int 0, .int v27, .int 0, .ref m29, .ref m30, .ref m31, .ref m32, .ref m33, .ref m34, .ref m35, .ref m36, .ref m37, .int (nI sh), .ref m39, .ref m40, .ref m41, .ref m42, .ref m43, .ref m44, .ref m45, .ref m46, .ref m47, .ref m48, .ref m49, .int v50, .ref m51, .ref m52, .ref m53, .ref m54, .int (nI gf), .ref m56, .ref m57, .ref m58, .ref m59])) := wd_at.ps ew17 k7
    have k19 := wd_at.pt ew17 k8 (tg_ne tm24 ty (by decide))
    have k20 := wd_at.pt ew17 k9 (tg_ne tm29 ty (by decide))
    have k21 := wd_at.pt ew17 k10 (tg_ne tm30 ty (by decide))
    have k22 := wd_at.pt ew17 k11 (tg_ne tm31 ty (by decide))
    have k23 := wd_at.pt ew17 k12 (tg_ne tm32 ty (by decide))
    have k24 := wd_at.pt ew17 k13 (tg_ne tm33 ty (by decide))
    have k25 := wd_at.pt ew17 k14 (tg_ne tm34 ty (by decide))
    have kp26 := kp15.put ew17 s90
    refine lv_iconst (v := 0) hx hb dX11_text_19 (by decide) ?_
    refine lv_istore_n (lv' := [(2, .int 0), (0, .ref y), (1, .int (nI tw))]) hx hb dX11_text_20 rfl hl (by decide) rfl (fun ls hl => ?_)
    refine lv_aload_n hx hb dX11_text_21 rfl (lv_at hl 1 rfl) ?_
    refine x_callV (n := 0) (As := []) (rest := []) F hP hD hS (m_isEnd l D cy sk sv w16 tg y m2 m3 m4 m5 m6 m8 m9 m10 m11 m12 m13 m14 m17 m18 m19 m20 m21 m22 m23 m24 m29 m30 m31 m32 m33 m34 m35 m36 m37 m39 m40 m41 m42 m43 m44 m45 m46 m47 m48 m49 m51 m52 m53 m54 m56 m57 m58 m59 pc ac sc ln sh gf v0 td v27 0 v50 f24 0 k18 k19 (fun b => b = y) rfl ty tm24 (by omega) (by omega)) gX11_text_X11_isEnd rfl rfl (by decide +kernel) ⟨(Nat.le_of_ble_eq_true rfl), (Nat.le_of_ble_eq_true rfl)⟩ rfl hl.1 (Nat.le_of_ble_eq_true rfl) k18 rfl dX11_text_22 rfl ⟨(Nat.le_of_ble_eq_true rfl), (Nat.le_of_ble_eq_true rfl)⟩ (fun v28 w29 hp27 H locs hP hD hS => ?_)
    obtain ⟨ax30, rx31, rfl, hz32, hz33, hz34, hz35, kq37, k36⟩ := hp27
    have k38 := kq37.2 _ _ k19 (tg_ne tm24 ty (by decide))
    have k39 := kq37.2 _ _ k20 (tg_ne tm29 ty (by decide))
    have k40 := kq37.2 _ _ k21 (tg_ne tm30 ty (by decide))
    have k41 := kq37.2 _ _ k22 (tg_ne tm31 ty (by decide))
    have k42 := kq37.2 _ _ k23 (tg_ne tm32 ty (by decide))
    have k43 := kq37.2 _ _ k24 (tg_ne tm33 ty (by decide))
    have k44 := kq37.2 _ _ k25 (tg_ne tm34 ty (by decide))
    have kp45 := kp26.tr kq37 (fun b9 hm q9 => (fun q9 => q9 ▸ s90) q9)
    refine W.eq (g2 := F0 m 25 ls [.int rx31]) rfl (W.widen (k := 0) (n := 0) (Nat.le_of_ble_eq_true rfl) (Nat.le_of_ble_eq_true rfl) ?_)
    refine lv_if_ne (tgt := 32) hx hb dX11_text_25 (by decide) (fun c_46 => ?_) (fun c_46 => ?_)
    · refine lv_iconst (v := 0) hx hb dX11_text_32 (by decide) ?_
      refine lv_istore_n (lv' := [(3, .int 0), (2, .int 0), (0, .ref y), (1, .int (nI tw))]) hx hb dX11_text_33 rfl hl (by decide) rfl (fun ls hl => ?_)
      have lp34 : ∀ (N : Nat) (n : Nat) (on : Int32) (a : Nat) (b : Nat) (fq : Nat) (h30 : Nat → Int32) (h31 : Nat → Int32) (h32 : Nat → Int32) (h33 : Nat → Int32) (h34 : Nat → Int32) (w47 : Wd), (n + N = 14) → (n ≤ 13) → (fq = 0 → n ≤ 12) → (a ≤ ln) → (fq < 2000) → (cOK h31) → (wd_at w47 y (.inr (11, [.int v0, .int td, .ref m2, .ref m3, .ref m4, .ref m5, .ref m6, .int (nI pc), .ref m8, .ref m9, .ref m10, .ref m11, .ref m12, .ref m13, .ref m14, .int (nI ac), .int (nI sc), .ref m17, .ref m18, .ref m19, .ref m20, .ref m21, .ref m22, .ref m23, .ref m24, .int (nI ln), .int (nI a), .int (nI b), .int (nI fq), .ref m29, .ref m30, .ref m31, .ref m32, .ref m33, .ref m34, .ref m35, .ref m36, .ref m37, .int (nI sh), .ref m39, .ref m40, .ref m41, .ref m42, .ref m43, .ref m44, .ref m45, .ref m46, .ref m47, .ref m48, .ref m49, .int v50, .ref m51, .ref m52, .ref m53, .ref m54, .int (nI gf), .ref m56, .ref m57, .ref m58, .ref m59]))) → (wd_at w47 m24 (.inl (cy 0, 300, .inl f24))) → (wd_at w47 m29 (.inl (cy 2, 12, .inl f29))) → (wd_at w47 m30 (.inl (cy 2, 156, .inl h30))) → (wd_at w47 m31 (.inl (cy 2, 156, .inl h31))) → (wd_at w47 m32 (.inl (cy 2, 936, .inl h32))) → (wd_at w47 m33 (.inl (cy 2, 936, .inl h33))) → (wd_at w47 m34 (.inl (cy 2, 936, .inl h34))) → (wd_kp S w w47) → ∀ (ls : Array Slot), lv_has ls 6 [(0, .ref y), (1, .int (nI tw)), (2, .int (nI n)), (3, .int on)] → Wv p l e ({ frames := 7, cells := 0, slots := 0, locals := 155 }) s m args below meth c D A (0) (0) Q w47 (F0 m 34 ls []) := by
        intro N
        induction N with
        | zero =>
          intro n on a b fq h30 h31 h32 h33 h34 w47 hN34 hn14 hn13 ha2 hfq hc2 k48 k49 k50 k51 k52 k53 k54 k55 kp56 ls hl H locs hP hD hS
          exact absurd hN34 (by omega)
        | succ N ih34 =>
          intro n on a b fq h30 h31 h32 h33 h34 w47 hN34 hn14 hn13 ha2 hfq hc2 k48 k49 k50 k51 k52 k53 k54 k55 kp56 ls hl H locs hP hD hS
          refine lv_iload_n hx hb dX11_text_34 rfl (lv_at hl 3 rfl) ?_
          refine lv_if_eq (tgt := 128) hx hb dX11_text_35 (by decide) (fun c_57 => ?_) (fun c_57 => ?_)
          · refine lv_aload_n hx hb dX11_text_128 rfl (lv_at hl 0 rfl) ?_
            refine lv_iconst (v := 0) hx hb dX11_text_129 (by decide) ?_
            refine y_put (ref := "NoteHouseModel") F hP hD hS k48 rfl (fun _ h => List.mem_cons_of_mem _ (List.mem_append_right _ (h))) tyX11_ok nmX11 25 (Nat.le_of_ble_eq_true rfl) (List.mem_cons_of_mem _ (List.mem_append_left _ (List.mem_append_left _ (List.mem_of_getElem? (i := 3) rfl)))) rfl rfl rfl rfl (Nat.le_of_ble_eq_true rfl) dX11_text_130 (fun w58 ew59 H locs hP hD hS => ?_)
            have k60 : wd_at w58 y (.inr (11, [.int v0, .int td, .ref m2, .ref m3, .ref m4, .ref m5, .ref m6, .int (nI pc), .ref m8, .ref m9, .ref m10, .ref m11, .ref m12, .ref m13, .ref m14, .int (nI ac), .int (nI sc), .ref m17, .ref m18, .ref m19, .ref m20, .ref m21, .ref m22, .ref m23, .ref m24, .int 0, .int (nI a), .int (nI b), .int (nI fq), .ref m29, .ref m30, .ref m31, .ref m32, .ref m33, .ref m34, .ref m35, .ref m36, .ref m37, .int (nI sh), .ref m39, .ref m40, .ref m41, .ref m42, .ref m43, .ref m44, .ref m45, .ref m46, .ref m47, .ref m48, .ref m49, .int v50, .ref m51, .ref m52, .ref m53, .ref m54, .int (nI gf), .ref m56, .ref m57, .ref m58, .ref m59])) := wd_at.ps ew59 k48
            have k61 := wd_at.pt ew59 k49 (tg_ne tm24 ty (by decide))
            have k62 := wd_at.pt ew59 k50 (tg_ne tm29 ty (by decide))
            have k63 := wd_at.pt ew59 k51 (tg_ne tm30 ty (by decide))
            have k64 := wd_at.pt ew59 k52 (tg_ne tm31 ty (by decide))
            have k65 := wd_at.pt ew59 k53 (tg_ne tm32 ty (by decide))
            have k66 := wd_at.pt ew59 k54 (tg_ne tm33 ty (by decide))
            have k67 := wd_at.pt ew59 k55 (tg_ne tm34 ty (by decide))
            have kp68 := kp56.put ew59 s90
            refine lv_aload_n hx hb dX11_text_133 rfl (lv_at hl 0 rfl) ?_
            refine x_get (ref := "NoteHouseModel") F hP k60 rfl (fun _ h => List.mem_cons_of_mem _ (List.mem_append_right _ (h))) 28 (Nat.le_of_ble_eq_true rfl) (List.mem_cons_of_mem _ (List.mem_append_left _ (List.mem_append_left _ (List.mem_of_getElem? (i := 1) rfl)))) rfl rfl dX11_text_134 ?_
            refine lv_if_le (tgt := 148) hx hb dX11_text_137 (by decide) (fun c_69 => ?_) (fun c_69 => ?_)
            · have hf0 : fq = 0 := nI_z (by omega) c_69
              refine lv_aload_n hx hb dX11_text_148 rfl (lv_at hl 0 rfl) ?_
              refine x_get (ref := "NoteHouseModel") F hP k60 rfl (fun _ h => List.mem_cons_of_mem _ (List.mem_append_right _ (h))) 29 (Nat.le_of_ble_eq_true rfl) (List.mem_cons_of_mem _ (List.mem_append_left _ (List.mem_append_left _ (List.mem_of_getElem? (i := 4) rfl)))) rfl rfl dX11_text_149 ?_
              refine lv_iload_n hx hb dX11_text_152 rfl (lv_at hl 1 rfl) ?_
              refine lv_iload_n hx hb dX11_text_153 rfl (lv_at hl 2 rfl) ?_
              refine y_iast F hP hD hS k62 (vp_in_nI (n := tw) (N := 12) (by omega) (by decide)) dX11_text_154 (fun w70 ew71 H locs hP hD hS => ?_)
              have k72 := wd_at.pt ew71 k60 (tg_ne ty tm29 (by decide))
              have k73 := wd_at.pt ew71 k61 (tg_ne tm24 tm29 (by decide))
              have k74 : wd_at w70 m29 (.inl (cy 2, 12, .inl (upd f29 (nI tw).toNatClampNeg (nI n)))) := wd_at.ps ew71 k62
              have k75 := wd_at.pt ew71 k63 (tg_ne tm30 tm29 (by decide))
              have k76 := wd_at.pt ew71 k64 (tg_ne tm31 tm29 (by decide))
              have k77 := wd_at.pt ew71 k65 (tg_ne tm32 tm29 (by decide))
              have k78 := wd_at.pt ew71 k66 (tg_ne tm33 tm29 (by decide))
              have k79 := wd_at.pt ew71 k67 (tg_ne tm34 tm29 (by decide))
              have kp80 := kp68.put ew71 s91
              refine lv_iconst (v := 0) hx hb dX11_text_155 (by decide) ?_
              refine lv_istore (lv' := [(4, .int 0), (0, .ref y), (1, .int (nI tw)), (2, .int (nI n)), (3, .int on)]) hx hb dX11_text_156 hl (by decide) rfl (fun ls hl => ?_)
              have lp158 : ∀ (N : Nat) (r : Nat) (p30 : Nat → Int32) (p31 : Nat → Int32) (p32 : Nat → Int32) (p33 : Nat → Int32) (p34 : Nat → Int32) (w81 : Wd), (r + N = n) → (cOK p31) → (wd_at w81 y (.inr (11, [.int v0, .int td, .ref m2, .ref m3, .ref m4, .ref m5, .ref m6, .int (nI pc), .ref m8, .ref m9, .ref m10, .ref m11, .ref m12, .ref m13, .ref m14, .int (nI ac), .int (nI sc), .ref m17, .ref m18, .ref m19, .ref m20, .ref m21, .ref m22, .ref m23, .ref m24, .int 0, .int (nI a), .int (nI b), .int (nI fq), .ref m29, .ref m30, .ref m31, .ref m32, .ref m33, .ref m34, .ref m35, .ref m36, .ref m37, .int (nI sh), .ref m39, .ref m40, .ref m41, .ref m42, .ref m43, .ref m44, .ref m45, .ref m46, .ref m47, .ref m48, .ref m49, .int v50, .ref m51, .ref m52, .ref m53, .ref m54, .int (nI gf), .ref m56, .ref m57, .ref m58, .ref m59]))) → (wd_at w81 m24 (.inl (cy 0, 300, .inl f24))) → (wd_at w81 m29 (.inl (cy 2, 12, .inl (upd f29 (nI tw).toNatClampNeg (nI n))))) → (wd_at w81 m30 (.inl (cy 2, 156, .inl p30))) → (wd_at w81 m31 (.inl (cy 2, 156, .inl p31))) → (wd_at w81 m32 (.inl (cy 2, 936, .inl p32))) → (wd_at w81 m33 (.inl (cy 2, 936, .inl p33))) → (wd_at w81 m34 (.inl (cy 2, 936, .inl p34))) → (wd_kp S w w81) → ∀ (ls : Array Slot), lv_has ls 6 [(0, .ref y), (1, .int (nI tw)), (2, .int (nI n)), (4, .int (nI r))] → Wv p l e ({ frames := 7, cells := 0, slots := 0, locals := 155 }) s m args below meth c D A (0) (0) Q w81 (F0 m 158 ls []) := by
                intro N
                induction N with
                | zero =>
                  intro r p30 p31 p32 p33 p34 w81 hN158 hc3 k82 k83 k84 k85 k86 k87 k88 k89 kp90 ls hl H locs hP hD hS
                  refine lv_iload hx hb dX11_text_158 (lv_at hl 3 rfl) ?_
                  refine lv_iload_n hx hb dX11_text_160 rfl (lv_at hl 2 rfl) ?_
                  refine lv_icmp_ge (tgt := 337) hx hb dX11_text_161 (by decide) (fun c_91 => ?_) (fun c_91 => absurd (nI_le (a := n) (b := r) (by omega) (by omega)) c_91)
                  refine lv_iload_n hx hb dX11_text_337 rfl (lv_at hl 2 rfl) ?_
                  exact y_ir K hP hD hS (Nat.le_of_ble_eq_true rfl) (Nat.le_of_ble_eq_true rfl) (ty := .int) rfl rfl dX11_text_338 (⟨0, nI a, nI b, nI fq, upd f29 (nI tw).toNatClampNeg (nI n), p30, p31, p32, p33, p34, nI n, rfl, by simp [txtC, c_4], hrl.c (by omega) (by omega), by assumption, kp90, k82, k84, k85, k86, k87, k88, k89⟩)
                | succ N ih158 =>
                  intro r p30 p31 p32 p33 p34 w81 hN158 hc3 k82 k83 k84 k85 k86 k87 k88 k89 kp90 ls hl H locs hP hD hS
                  refine lv_iload hx hb dX11_text_158 (lv_at hl 3 rfl) ?_
                  refine lv_iload_n hx hb dX11_text_160 rfl (lv_at hl 2 rfl) ?_
                  refine lv_icmp_ge (tgt := 337) hx hb dX11_text_161 (by decide) (fun c_92 => absurd c_92 (nI_ge (a := r) (b := n) (by omega) (by omega))) (fun c_92 => ?_)
                  refine lv_aload_n hx hb dX11_text_164 rfl (lv_at hl 0 rfl) ?_
                  refine x_get (ref := "NoteHouseModel") F hP k82 rfl (fun _ h => List.mem_cons_of_mem _ (List.mem_append_right _ (h))) 30 (Nat.le_of_ble_eq_true rfl) (List.mem_cons_of_mem _ (List.mem_append_left _ (List.mem_append_left _ (List.mem_of_getElem? (i := 5) rfl)))) rfl rfl dX11_text_165 ?_
                  refine lv_bipush (v := 12) hx hb dX11_text_168 (by decide) ?_
                  refine lv_iload_n hx hb dX11_text_170 rfl (lv_at hl 1 rfl) ?_
                  refine lv_imul hx hb dX11_text_171 ?_
                  rw [show (12 * (nI tw) : Int32) = nI (12 * tw) from pk_mul 12 tw]
                  refine lv_iload hx hb dX11_text_172 (lv_at hl 3 rfl) ?_
                  refine lv_iadd hx hb dX11_text_174 ?_
                  rw [show ((nI (12 * tw)) + (nI r) : Int32) = nI ((12 * tw) + r) from nI_add (12 * tw) r]
                  refine lv_aload_n hx hb dX11_text_175 rfl (lv_at hl 0 rfl) ?_
                  refine x_get (ref := "NoteHouseModel") F hP k82 rfl (fun _ h => List.mem_cons_of_mem _ (List.mem_append_right _ (h))) 30 (Nat.le_of_ble_eq_true rfl) (List.mem_cons_of_mem _ (List.mem_append_left _ (List.mem_append_left _ (List.mem_of_getElem? (i := 5) rfl)))) rfl rfl dX11_text_176 ?_
                  refine lv_sipush (v := 144) hx hb dX11_text_179 (by decide) ?_
                  refine lv_iload hx hb dX11_text_182 (lv_at hl 3 rfl) ?_
                  refine lv_iadd hx hb dX11_text_184 ?_
                  rw [show (144 + (nI r) : Int32) = nI (144 + r) from nI_add 144 r]
                  refine x_iald F hP k85 (vp_in_nI (n := (144 + r)) (N := 156) (by omega) (by decide)) dX11_text_185 ?_
                  refine y_iast F hP hD hS k85 (vp_in_nI (n := ((12 * tw) + r)) (N := 156) (by omega) (by decide)) dX11_text_186 (fun w93 ew94 H locs hP hD hS => ?_)
                  have k95 := wd_at.pt ew94 k82 (tg_ne ty tm30 (by decide))
                  have k96 := wd_at.pt ew94 k83 (tg_ne tm24 tm30 (by decide))
                  have k97 := wd_at.pt ew94 k84 (tg_ne tm29 tm30 (by decide))
                  have k98 : wd_at w93 m30 (.inl (cy 2, 156, .inl (upd p30 (nI ((12 * tw) + r)).toNatClampNeg (p30 (nI (144 + r)).toNatClampNeg)))) := wd_at.ps ew94 k85
                  have k99 := wd_at.pt ew94 k86 (tg_ne tm31 tm30 (by decide))
                  have k100 := wd_at.pt ew94 k87 (tg_ne tm32 tm30 (by decide))
                  have k101 := wd_at.pt ew94 k88 (tg_ne tm33 tm30 (by decide))
                  have k102 := wd_at.pt ew94 k89 (tg_ne tm34 tm30 (by decide))
                  have kp103 := kp90.put ew94 s92
                  refine lv_aload_n hx hb dX11_text_187 rfl (lv_at hl 0 rfl) ?_
                  refine x_get (ref := "NoteHouseModel") F hP k95 rfl (fun _ h => List.mem_cons_of_mem _ (List.mem_append_right _ (h))) 31 (Nat.le_of_ble_eq_true rfl) (List.mem_cons_of_mem _ (List.mem_append_left _ (List.mem_append_left _ (List.mem_of_getElem? (i := 6) rfl)))) rfl rfl dX11_text_188 ?_
                  refine lv_bipush (v := 12) hx hb dX11_text_191 (by decide) ?_
                  refine lv_iload_n hx hb dX11_text_193 rfl (lv_at hl 1 rfl) ?_
                  refine lv_imul hx hb dX11_text_194 ?_
                  rw [show (12 * (nI tw) : Int32) = nI (12 * tw) from pk_mul 12 tw]
                  refine lv_iload hx hb dX11_text_195 (lv_at hl 3 rfl) ?_
                  refine lv_iadd hx hb dX11_text_197 ?_
                  rw [show ((nI (12 * tw)) + (nI r) : Int32) = nI ((12 * tw) + r) from nI_add (12 * tw) r]
                  refine lv_aload_n hx hb dX11_text_198 rfl (lv_at hl 0 rfl) ?_
                  refine x_get (ref := "NoteHouseModel") F hP k95 rfl (fun _ h => List.mem_cons_of_mem _ (List.mem_append_right _ (h))) 31 (Nat.le_of_ble_eq_true rfl) (List.mem_cons_of_mem _ (List.mem_append_left _ (List.mem_append_left _ (List.mem_of_getElem? (i := 6) rfl)))) rfl rfl dX11_text_199 ?_
                  refine lv_sipush (v := 144) hx hb dX11_text_202 (by decide) ?_
                  refine lv_iload hx hb dX11_text_205 (lv_at hl 3 rfl) ?_
                  refine lv_iadd hx hb dX11_text_207 ?_
                  rw [show (144 + (nI r) : Int32) = nI (144 + r) from nI_add 144 r]
                  refine x_iald F hP k99 (vp_in_nI (n := (144 + r)) (N := 156) (by omega) (by decide)) dX11_text_208 ?_
                  obtain ⟨uc, huc, euc⟩ := hc3 (144 + r) (by omega)
                  rw [nI_clamp (n := 144 + r) (by omega), euc]
                  refine y_iast F hP hD hS k99 (vp_in_nI (n := ((12 * tw) + r)) (N := 156) (by omega) (by decide)) dX11_text_209 (fun w104 ew105 H locs hP hD hS => ?_)
                  have k106 := wd_at.pt ew105 k95 (tg_ne ty tm31 (by decide))
                  have k107 := wd_at.pt ew105 k96 (tg_ne tm24 tm31 (by decide))
                  have k108 := wd_at.pt ew105 k97 (tg_ne tm29 tm31 (by decide))
                  have k109 := wd_at.pt ew105 k98 (tg_ne tm30 tm31 (by decide))
                  have k110 : wd_at w104 m31 (.inl (cy 2, 156, .inl (upd p31 (nI ((12 * tw) + r)).toNatClampNeg (nI uc)))) := wd_at.ps ew105 k99
                  have k111 := wd_at.pt ew105 k100 (tg_ne tm32 tm31 (by decide))
                  have k112 := wd_at.pt ew105 k101 (tg_ne tm33 tm31 (by decide))
                  have k113 := wd_at.pt ew105 k102 (tg_ne tm34 tm31 (by decide))
                  have kp114 := kp103.put ew105 s93
                  refine lv_iconst (v := 0) hx hb dX11_text_210 (by decide) ?_
                  refine lv_istore (lv' := [(5, .int 0), (0, .ref y), (1, .int (nI tw)), (2, .int (nI n)), (4, .int (nI r))]) hx hb dX11_text_211 hl (by decide) rfl (fun ls hl => ?_)
                  have lp213 : ∀ (N : Nat) (cz : Nat) (q32 : Nat → Int32) (q33 : Nat → Int32) (q34 : Nat → Int32) (w115 : Wd), (cz + N = 6) → (wd_at w115 y (.inr (11, [.int v0, .int td, .ref m2, .ref m3, .ref m4, .ref m5, .ref m6, .int (nI pc), .ref m8, .ref m9, .ref m10, .ref m11, .ref m12, .ref m13, .ref m14, .int (nI ac), .int (nI sc), .ref m17, .ref m18, .ref m19, .ref m20, .ref m21, .ref m22, .ref m23, .ref m24, .int 0, .int (nI a), .int (nI b), .int (nI fq), .ref m29, .ref m30, .ref m31, .ref m32, .ref m33, .ref m34, .ref m35, .ref m36, .ref m37, .int (nI sh), .ref m39, .ref m40, .ref m41, .ref m42, .ref m43, .ref m44, .ref m45, .ref m46, .ref m47, .ref m48, .ref m49, .int v50, .ref m51, .ref m52, .ref m53, .ref m54, .int (nI gf), .ref m56, .ref m57, .ref m58, .ref m59]))) → (wd_at w115 m24 (.inl (cy 0, 300, .inl f24))) → (wd_at w115 m29 (.inl (cy 2, 12, .inl (upd f29 (nI tw).toNatClampNeg (nI n))))) → (wd_at w115 m30 (.inl (cy 2, 156, .inl (upd p30 (nI ((12 * tw) + r)).toNatClampNeg (p30 (nI (144 + r)).toNatClampNeg))))) → (wd_at w115 m31 (.inl (cy 2, 156, .inl (upd p31 (nI ((12 * tw) + r)).toNatClampNeg (nI uc))))) → (wd_at w115 m32 (.inl (cy 2, 936, .inl q32))) → (wd_at w115 m33 (.inl (cy 2, 936, .inl q33))) → (wd_at w115 m34 (.inl (cy 2, 936, .inl q34))) → (wd_kp S w w115) → ∀ (ls : Array Slot), lv_has ls 6 [(0, .ref y), (1, .int (nI tw)), (2, .int (nI n)), (4, .int (nI r)), (5, .int (nI cz))] → Wv p l e ({ frames := 7, cells := 0, slots := 0, locals := 155 }) s m args below meth c D A (0) (0) Q w115 (F0 m 213 ls []) := by
                    intro N
                    induction N with
                    | zero =>
                      intro cz q32 q33 q34 w115 hN213 k116 k117 k118 k119 k120 k121 k122 k123 kp124 ls hl H locs hP hD hS
                      refine lv_iload hx hb dX11_text_213 (lv_at hl 4 rfl) ?_
                      refine lv_bipush (v := 6) hx hb dX11_text_215 (by decide) ?_
                      refine lv_icmp_ge (tgt := 331) hx hb dX11_text_217 (by decide) (fun c_125 => ?_) (fun c_125 => absurd (nI_le (a := 6) (b := cz) (by omega) (by omega)) c_125)
                      refine lv_iinc (v := nI (r + 1)) (lv' := [(4, .int (nI (r + 1))), (0, .ref y), (1, .int (nI tw)), (2, .int (nI n)), (5, .int (nI cz))]) hx hb dX11_text_331 hl (k := 3) rfl (nI_1 r) (by decide) rfl (fun ls hl => ?_)
                      refine lv_goto (tgt := 158) hx hb dX11_text_334 (by decide) ?_
                      exact ih158 (r + 1) (upd p30 (nI ((12 * tw) + r)).toNatClampNeg (p30 (nI (144 + r)).toNatClampNeg)) (upd p31 (nI ((12 * tw) + r)).toNatClampNeg (nI uc)) q32 q33 q34 w115 (by omega) (hc3.c (u := uc) (by omega) (by omega)) k116 k117 k118 k119 k120 k121 k122 k123 kp124 ls (lv_sub hl [1, 2, 3, 0] rfl) H locs hP hD hS
                    | succ N ih213 =>
                      intro cz q32 q33 q34 w115 hN213 k116 k117 k118 k119 k120 k121 k122 k123 kp124 ls hl H locs hP hD hS
                      refine lv_iload hx hb dX11_text_213 (lv_at hl 4 rfl) ?_
                      refine lv_bipush (v := 6) hx hb dX11_text_215 (by decide) ?_
                      refine lv_icmp_ge (tgt := 331) hx hb dX11_text_217 (by decide) (fun c_126 => absurd c_126 (nI_ge (a := cz) (b := 6) (by omega) (by omega))) (fun c_126 => ?_)
                      refine lv_aload_n hx hb dX11_text_220 rfl (lv_at hl 0 rfl) ?_
                      refine x_get (ref := "NoteHouseModel") F hP k116 rfl (fun _ h => List.mem_cons_of_mem _ (List.mem_append_right _ (h))) 32 (Nat.le_of_ble_eq_true rfl) (List.mem_cons_of_mem _ (List.mem_append_left _ (List.mem_append_left _ (List.mem_of_getElem? (i := 7) rfl)))) rfl rfl dX11_text_221 ?_
                      refine lv_bipush (v := 6) hx hb dX11_text_224 (by decide) ?_
                      refine lv_bipush (v := 12) hx hb dX11_text_226 (by decide) ?_
                      refine lv_iload_n hx hb dX11_text_228 rfl (lv_at hl 1 rfl) ?_
                      refine lv_imul hx hb dX11_text_229 ?_
                      rw [show (12 * (nI tw) : Int32) = nI (12 * tw) from pk_mul 12 tw]
                      refine lv_iload hx hb dX11_text_230 (lv_at hl 3 rfl) ?_
                      refine lv_iadd hx hb dX11_text_232 ?_
                      rw [show ((nI (12 * tw)) + (nI r) : Int32) = nI ((12 * tw) + r) from nI_add (12 * tw) r]
                      refine lv_imul hx hb dX11_text_233 ?_
                      rw [show (6 * (nI ((12 * tw) + r)) : Int32) = nI (6 * ((12 * tw) + r)) from pk_mul 6 ((12 * tw) + r)]
                      refine lv_iload hx hb dX11_text_234 (lv_at hl 4 rfl) ?_
                      refine lv_iadd hx hb dX11_text_236 ?_
                      rw [show ((nI (6 * ((12 * tw) + r))) + (nI cz) : Int32) = nI ((6 * ((12 * tw) + r)) + cz) from nI_add (6 * ((12 * tw) + r)) cz]
                      refine lv_aload_n hx hb dX11_text_237 rfl (lv_at hl 0 rfl) ?_
                      refine x_get (ref := "NoteHouseModel") F hP k116 rfl (fun _ h => List.mem_cons_of_mem _ (List.mem_append_right _ (h))) 32 (Nat.le_of_ble_eq_true rfl) (List.mem_cons_of_mem _ (List.mem_append_left _ (List.mem_append_left _ (List.mem_of_getElem? (i := 7) rfl)))) rfl rfl dX11_text_238 ?_
                      refine lv_bipush (v := 6) hx hb dX11_text_241 (by decide) ?_
                      refine lv_sipush (v := 144) hx hb dX11_text_243 (by decide) ?_
                      refine lv_iload hx hb dX11_text_246 (lv_at hl 3 rfl) ?_
                      refine lv_iadd hx hb dX11_text_248 ?_
                      rw [show (144 + (nI r) : Int32) = nI (144 + r) from nI_add 144 r]
                      refine lv_imul hx hb dX11_text_249 ?_
                      rw [show (6 * (nI (144 + r)) : Int32) = nI (6 * (144 + r)) from pk_mul 6 (144 + r)]
                      refine lv_iload hx hb dX11_text_250 (lv_at hl 4 rfl) ?_
                      refine lv_iadd hx hb dX11_text_252 ?_
                      rw [show ((nI (6 * (144 + r))) + (nI cz) : Int32) = nI ((6 * (144 + r)) + cz) from nI_add (6 * (144 + r)) cz]
                      refine x_iald F hP k121 (vp_in_nI (n := ((6 * (144 + r)) + cz)) (N := 936) (by omega) (by decide)) dX11_text_253 ?_
                      refine y_iast F hP hD hS k121 (vp_in_nI (n := ((6 * ((12 * tw) + r)) + cz)) (N := 936) (by omega) (by decide)) dX11_text_254 (fun w127 ew128 H locs hP hD hS => ?_)
                      have k129 := wd_at.pt ew128 k116 (tg_ne ty tm32 (by decide))
                      have k130 := wd_at.pt ew128 k117 (tg_ne tm24 tm32 (by decide))
                      have k131 := wd_at.pt ew128 k118 (tg_ne tm29 tm32 (by decide))
                      have k132 := wd_at.pt ew128 k119 (tg_ne tm30 tm32 (by decide))
                      have k133 := wd_at.pt ew128 k120 (tg_ne tm31 tm32 (by decide))
                      have k134 : wd_at w127 m32 (.inl (cy 2, 936, .inl (upd q32 (nI ((6 * ((12 * tw) + r)) + cz)).toNatClampNeg (q32 (nI ((6 * (144 + r)) + cz)).toNatClampNeg)))) := wd_at.ps ew128 k121
                      have k135 := wd_at.pt ew128 k122 (tg_ne tm33 tm32 (by decide))
                      have k136 := wd_at.pt ew128 k123 (tg_ne tm34 tm32 (by decide))
                      have kp137 := kp124.put ew128 s94
                      refine lv_aload_n hx hb dX11_text_255 rfl (lv_at hl 0 rfl) ?_
                      refine x_get (ref := "NoteHouseModel") F hP k129 rfl (fun _ h => List.mem_cons_of_mem _ (List.mem_append_right _ (h))) 33 (Nat.le_of_ble_eq_true rfl) (List.mem_cons_of_mem _ (List.mem_append_left _ (List.mem_append_left _ (List.mem_of_getElem? (i := 8) rfl)))) rfl rfl dX11_text_256 ?_
                      refine lv_bipush (v := 6) hx hb dX11_text_259 (by decide) ?_
                      refine lv_bipush (v := 12) hx hb dX11_text_261 (by decide) ?_
                      refine lv_iload_n hx hb dX11_text_263 rfl (lv_at hl 1 rfl) ?_
                      refine lv_imul hx hb dX11_text_264 ?_
                      rw [show (12 * (nI tw) : Int32) = nI (12 * tw) from pk_mul 12 tw]
                      refine lv_iload hx hb dX11_text_265 (lv_at hl 3 rfl) ?_
                      refine lv_iadd hx hb dX11_text_267 ?_
                      rw [show ((nI (12 * tw)) + (nI r) : Int32) = nI ((12 * tw) + r) from nI_add (12 * tw) r]
                      refine lv_imul hx hb dX11_text_268 ?_
                      rw [show (6 * (nI ((12 * tw) + r)) : Int32) = nI (6 * ((12 * tw) + r)) from pk_mul 6 ((12 * tw) + r)]
                      refine lv_iload hx hb dX11_text_269 (lv_at hl 4 rfl) ?_
                      refine lv_iadd hx hb dX11_text_271 ?_
                      rw [show ((nI (6 * ((12 * tw) + r))) + (nI cz) : Int32) = nI ((6 * ((12 * tw) + r)) + cz) from nI_add (6 * ((12 * tw) + r)) cz]
                      refine lv_aload_n hx hb dX11_text_272 rfl (lv_at hl 0 rfl) ?_
                      refine x_get (ref := "NoteHouseModel") F hP k129 rfl (fun _ h => List.mem_cons_of_mem _ (List.mem_append_right _ (h))) 33 (Nat.le_of_ble_eq_true rfl) (List.mem_cons_of_mem _ (List.mem_append_left _ (List.mem_append_left _ (List.mem_of_getElem? (i := 8) rfl)))) rfl rfl dX11_text_273 ?_
                      refine lv_bipush (v := 6) hx hb dX11_text_276 (by decide) ?_
                      refine lv_sipush (v := 144) hx hb dX11_text_278 (by decide) ?_
                      refine lv_iload hx hb dX11_text_281 (lv_at hl 3 rfl) ?_
                      refine lv_iadd hx hb dX11_text_283 ?_
                      rw [show (144 + (nI r) : Int32) = nI (144 + r) from nI_add 144 r]
                      refine lv_imul hx hb dX11_text_284 ?_
                      rw [show (6 * (nI (144 + r)) : Int32) = nI (6 * (144 + r)) from pk_mul 6 (144 + r)]
                      refine lv_iload hx hb dX11_text_285 (lv_at hl 4 rfl) ?_
                      refine lv_iadd hx hb dX11_text_287 ?_
                      rw [show ((nI (6 * (144 + r))) + (nI cz) : Int32) = nI ((6 * (144 + r)) + cz) from nI_add (6 * (144 + r)) cz]
                      refine x_iald F hP k135 (vp_in_nI (n := ((6 * (144 + r)) + cz)) (N := 936) (by omega) (by decide)) dX11_text_288 ?_
                      refine y_iast F hP hD hS k135 (vp_in_nI (n := ((6 * ((12 * tw) + r)) + cz)) (N := 936) (by omega) (by decide)) dX11_text_289 (fun w138 ew139 H locs hP hD hS => ?_)
                      have k140 := wd_at.pt ew139 k129 (tg_ne ty tm33 (by decide))
                      have k141 := wd_at.pt ew139 k130 (tg_ne tm24 tm33 (by decide))
                      have k142 := wd_at.pt ew139 k131 (tg_ne tm29 tm33 (by decide))
                      have k143 := wd_at.pt ew139 k132 (tg_ne tm30 tm33 (by decide))
                      have k144 := wd_at.pt ew139 k133 (tg_ne tm31 tm33 (by decide))
                      have k145 := wd_at.pt ew139 k134 (tg_ne tm32 tm33 (by decide))
                      have k146 : wd_at w138 m33 (.inl (cy 2, 936, .inl (upd q33 (nI ((6 * ((12 * tw) + r)) + cz)).toNatClampNeg (q33 (nI ((6 * (144 + r)) + cz)).toNatClampNeg)))) := wd_at.ps ew139 k135
                      have k147 := wd_at.pt ew139 k136 (tg_ne tm34 tm33 (by decide))
                      have kp148 := kp137.put ew139 s95
                      refine lv_aload_n hx hb dX11_text_290 rfl (lv_at hl 0 rfl) ?_
                      refine x_get (ref := "NoteHouseModel") F hP k140 rfl (fun _ h => List.mem_cons_of_mem _ (List.mem_append_right _ (h))) 34 (Nat.le_of_ble_eq_true rfl) (List.mem_cons_of_mem _ (List.mem_append_left _ (List.mem_append_left _ (List.mem_of_getElem? (i := 9) rfl)))) rfl rfl dX11_text_291 ?_
                      refine lv_bipush (v := 6) hx hb dX11_text_294 (by decide) ?_
                      refine lv_bipush (v := 12) hx hb dX11_text_296 (by decide) ?_
                      refine lv_iload_n hx hb dX11_text_298 rfl (lv_at hl 1 rfl) ?_
                      refine lv_imul hx hb dX11_text_299 ?_
                      rw [show (12 * (nI tw) : Int32) = nI (12 * tw) from pk_mul 12 tw]
                      refine lv_iload hx hb dX11_text_300 (lv_at hl 3 rfl) ?_
                      refine lv_iadd hx hb dX11_text_302 ?_
                      rw [show ((nI (12 * tw)) + (nI r) : Int32) = nI ((12 * tw) + r) from nI_add (12 * tw) r]
                      refine lv_imul hx hb dX11_text_303 ?_
                      rw [show (6 * (nI ((12 * tw) + r)) : Int32) = nI (6 * ((12 * tw) + r)) from pk_mul 6 ((12 * tw) + r)]
                      refine lv_iload hx hb dX11_text_304 (lv_at hl 4 rfl) ?_
                      refine lv_iadd hx hb dX11_text_306 ?_
                      rw [show ((nI (6 * ((12 * tw) + r))) + (nI cz) : Int32) = nI ((6 * ((12 * tw) + r)) + cz) from nI_add (6 * ((12 * tw) + r)) cz]
                      refine lv_aload_n hx hb dX11_text_307 rfl (lv_at hl 0 rfl) ?_
                      refine x_get (ref := "NoteHouseModel") F hP k140 rfl (fun _ h => List.mem_cons_of_mem _ (List.mem_append_right _ (h))) 34 (Nat.le_of_ble_eq_true rfl) (List.mem_cons_of_mem _ (List.mem_append_left _ (List.mem_append_left _ (List.mem_of_getElem? (i := 9) rfl)))) rfl rfl dX11_text_308 ?_
                      refine lv_bipush (v := 6) hx hb dX11_text_311 (by decide) ?_
                      refine lv_sipush (v := 144) hx hb dX11_text_313 (by decide) ?_
                      refine lv_iload hx hb dX11_text_316 (lv_at hl 3 rfl) ?_
                      refine lv_iadd hx hb dX11_text_318 ?_
                      rw [show (144 + (nI r) : Int32) = nI (144 + r) from nI_add 144 r]
                      refine lv_imul hx hb dX11_text_319 ?_
                      rw [show (6 * (nI (144 + r)) : Int32) = nI (6 * (144 + r)) from pk_mul 6 (144 + r)]
                      refine lv_iload hx hb dX11_text_320 (lv_at hl 4 rfl) ?_
                      refine lv_iadd hx hb dX11_text_322 ?_
                      rw [show ((nI (6 * (144 + r))) + (nI cz) : Int32) = nI ((6 * (144 + r)) + cz) from nI_add (6 * (144 + r)) cz]
                      refine x_iald F hP k147 (vp_in_nI (n := ((6 * (144 + r)) + cz)) (N := 936) (by omega) (by decide)) dX11_text_323 ?_
                      refine y_iast F hP hD hS k147 (vp_in_nI (n := ((6 * ((12 * tw) + r)) + cz)) (N := 936) (by omega) (by decide)) dX11_text_324 (fun w149 ew150 H locs hP hD hS => ?_)
                      have k151 := wd_at.pt ew150 k140 (tg_ne ty tm34 (by decide))
                      have k152 := wd_at.pt ew150 k141 (tg_ne tm24 tm34 (by decide))
                      have k153 := wd_at.pt ew150 k142 (tg_ne tm29 tm34 (by decide))
                      have k154 := wd_at.pt ew150 k143 (tg_ne tm30 tm34 (by decide))
                      have k155 := wd_at.pt ew150 k144 (tg_ne tm31 tm34 (by decide))
                      have k156 := wd_at.pt ew150 k145 (tg_ne tm32 tm34 (by decide))
                      have k157 := wd_at.pt ew150 k146 (tg_ne tm33 tm34 (by decide))
                      have k158 : wd_at w149 m34 (.inl (cy 2, 936, .inl (upd q34 (nI ((6 * ((12 * tw) + r)) + cz)).toNatClampNeg (q34 (nI ((6 * (144 + r)) + cz)).toNatClampNeg)))) := wd_at.ps ew150 k147
                      have kp159 := kp148.put ew150 s96
                      refine lv_iinc (v := nI (cz + 1)) (lv' := [(5, .int (nI (cz + 1))), (0, .ref y), (1, .int (nI tw)), (2, .int (nI n)), (4, .int (nI r))]) hx hb dX11_text_325 hl (k := 4) rfl (nI_1 cz) (by decide) rfl (fun ls hl => ?_)
                      refine lv_goto (tgt := 213) hx hb dX11_text_328 (by decide) ?_
                      exact ih213 (cz + 1) (upd q32 (nI ((6 * ((12 * tw) + r)) + cz)).toNatClampNeg (q32 (nI ((6 * (144 + r)) + cz)).toNatClampNeg)) (upd q33 (nI ((6 * ((12 * tw) + r)) + cz)).toNatClampNeg (q33 (nI ((6 * (144 + r)) + cz)).toNatClampNeg)) (upd q34 (nI ((6 * ((12 * tw) + r)) + cz)).toNatClampNeg (q34 (nI ((6 * (144 + r)) + cz)).toNatClampNeg)) w149 (by omega)  k151 k152 k153 k154 k155 k156 k157 k158 kp159 ls (lv_sub hl [1, 2, 3, 4, 0] rfl) H locs hP hD hS
                  exact lp213 _ 0 p32 p33 p34 w104 (Nat.zero_add 6)  k106 k107 k108 k109 k110 k111 k112 k113 kp114 ls (lv_sub hl [1, 2, 3, 4, 0] rfl) H locs hP hD hS
              exact lp158 _ 0 h30 h31 h32 h33 h34 w70 (Nat.zero_add n) (by assumption) k72 k73 k74 k75 k76 k77 k78 k79 kp80 ls (lv_sub hl [1, 2, 3, 0] rfl) H locs hP hD hS
            · have hfp : 0 < fq := Nat.pos_of_ne_zero (fun q => c_69 (by rw [q]; decide))
              refine lv_bipush (v := (-2)) hx hb dX11_text_140 (by decide) ?_
              refine lv_aload_n hx hb dX11_text_142 rfl (lv_at hl 0 rfl) ?_
              refine x_get (ref := "NoteHouseModel") F hP k60 rfl (fun _ h => List.mem_cons_of_mem _ (List.mem_append_right _ (h))) 28 (Nat.le_of_ble_eq_true rfl) (List.mem_cons_of_mem _ (List.mem_append_left _ (List.mem_append_left _ (List.mem_of_getElem? (i := 1) rfl)))) rfl rfl dX11_text_143 ?_
              refine lv_isub hx hb dX11_text_146 ?_
              exact y_ir K hP hD hS (Nat.le_of_ble_eq_true rfl) (Nat.le_of_ble_eq_true rfl) (ty := .int) rfl rfl dX11_text_147 (⟨0, nI a, nI b, nI fq, f29, h30, h31, h32, h33, h34, (-2) - (nI fq), rfl, by simp [txtC, c_4], hrl, by assumption, kp68, k60, k62, k63, k64, k65, k66, k67⟩)
          · refine lv_aload_n hx hb dX11_text_38 rfl (lv_at hl 0 rfl) ?_
            refine x_get (ref := "NoteHouseModel") F hP k48 rfl (fun _ h => List.mem_cons_of_mem _ (List.mem_append_right _ (h))) 28 (Nat.le_of_ble_eq_true rfl) (List.mem_cons_of_mem _ (List.mem_append_left _ (List.mem_append_left _ (List.mem_of_getElem? (i := 1) rfl)))) rfl rfl dX11_text_39 ?_
            refine lv_if_ne (tgt := 128) hx hb dX11_text_42 (by decide) (fun c_160 => ?_) (fun c_160 => ?_)
            · have hfp : 0 < fq := nI_nz (by omega) c_160
              refine lv_aload_n hx hb dX11_text_128 rfl (lv_at hl 0 rfl) ?_
              refine lv_iconst (v := 0) hx hb dX11_text_129 (by decide) ?_
              refine y_put (ref := "NoteHouseModel") F hP hD hS k48 rfl (fun _ h => List.mem_cons_of_mem _ (List.mem_append_right _ (h))) tyX11_ok nmX11 25 (Nat.le_of_ble_eq_true rfl) (List.mem_cons_of_mem _ (List.mem_append_left _ (List.mem_append_left _ (List.mem_of_getElem? (i := 3) rfl)))) rfl rfl rfl rfl (Nat.le_of_ble_eq_true rfl) dX11_text_130 (fun w161 ew162 H locs hP hD hS => ?_)
              have k163 : wd_at w161 y (.inr (11, [.int v0, .int td, .ref m2, .ref m3, .ref m4, .ref m5, .ref m6, .int (nI pc), .ref m8, .ref m9, .ref m10, .ref m11, .ref m12, .ref m13, .ref m14, .int (nI ac), .int (nI sc), .ref m17, .ref m18, .ref m19, .ref m20, .ref m21, .ref m22, .ref m23, .ref m24, .int 0, .int (nI a), .int (nI b), .int (nI fq), .ref m29, .ref m30, .ref m31, .ref m32, .ref m33, .ref m34, .ref m35, .ref m36, .ref m37, .int (nI sh), .ref m39, .ref m40, .ref m41, .ref m42, .ref m43, .ref m44, .ref m45, .ref m46, .ref m47, .ref m48, .ref m49, .int v50, .ref m51, .ref m52, .ref m53, .ref m54, .int (nI gf), .ref m56, .ref m57, .ref m58, .ref m59])) := wd_at.ps ew162 k48
              have k164 := wd_at.pt ew162 k49 (tg_ne tm24 ty (by decide))
              have k165 := wd_at.pt ew162 k50 (tg_ne tm29 ty (by decide))
              have k166 := wd_at.pt ew162 k51 (tg_ne tm30 ty (by decide))
              have k167 := wd_at.pt ew162 k52 (tg_ne tm31 ty (by decide))
              have k168 := wd_at.pt ew162 k53 (tg_ne tm32 ty (by decide))
              have k169 := wd_at.pt ew162 k54 (tg_ne tm33 ty (by decide))
              have k170 := wd_at.pt ew162 k55 (tg_ne tm34 ty (by decide))
              have kp171 := kp56.put ew162 s90
              refine lv_aload_n hx hb dX11_text_133 rfl (lv_at hl 0 rfl) ?_
              refine x_get (ref := "NoteHouseModel") F hP k163 rfl (fun _ h => List.mem_cons_of_mem _ (List.mem_append_right _ (h))) 28 (Nat.le_of_ble_eq_true rfl) (List.mem_cons_of_mem _ (List.mem_append_left _ (List.mem_append_left _ (List.mem_of_getElem? (i := 1) rfl)))) rfl rfl dX11_text_134 ?_
              refine lv_if_le (tgt := 148) hx hb dX11_text_137 (by decide) (fun c_172 => ?_) (fun c_172 => ?_)
              · have hf0 : fq = 0 := nI_z (by omega) c_172
                refine lv_aload_n hx hb dX11_text_148 rfl (lv_at hl 0 rfl) ?_
                refine x_get (ref := "NoteHouseModel") F hP k163 rfl (fun _ h => List.mem_cons_of_mem _ (List.mem_append_right _ (h))) 29 (Nat.le_of_ble_eq_true rfl) (List.mem_cons_of_mem _ (List.mem_append_left _ (List.mem_append_left _ (List.mem_of_getElem? (i := 4) rfl)))) rfl rfl dX11_text_149 ?_
                refine lv_iload_n hx hb dX11_text_152 rfl (lv_at hl 1 rfl) ?_
                refine lv_iload_n hx hb dX11_text_153 rfl (lv_at hl 2 rfl) ?_
                refine y_iast F hP hD hS k165 (vp_in_nI (n := tw) (N := 12) (by omega) (by decide)) dX11_text_154 (fun w173 ew174 H locs hP hD hS => ?_)
                have k175 := wd_at.pt ew174 k163 (tg_ne ty tm29 (by decide))
                have k176 := wd_at.pt ew174 k164 (tg_ne tm24 tm29 (by decide))
                have k177 : wd_at w173 m29 (.inl (cy 2, 12, .inl (upd f29 (nI tw).toNatClampNeg (nI n)))) := wd_at.ps ew174 k165
                have k178 := wd_at.pt ew174 k166 (tg_ne tm30 tm29 (by decide))
                have k179 := wd_at.pt ew174 k167 (tg_ne tm31 tm29 (by decide))
                have k180 := wd_at.pt ew174 k168 (tg_ne tm32 tm29 (by decide))
                have k181 := wd_at.pt ew174 k169 (tg_ne tm33 tm29 (by decide))
                have k182 := wd_at.pt ew174 k170 (tg_ne tm34 tm29 (by decide))
                have kp183 := kp171.put ew174 s91
                refine lv_iconst (v := 0) hx hb dX11_text_155 (by decide) ?_
                refine lv_istore (lv' := [(4, .int 0), (0, .ref y), (1, .int (nI tw)), (2, .int (nI n)), (3, .int on)]) hx hb dX11_text_156 hl (by decide) rfl (fun ls hl => ?_)
                have lp158 : ∀ (N : Nat) (r : Nat) (p30 : Nat → Int32) (p31 : Nat → Int32) (p32 : Nat → Int32) (p33 : Nat → Int32) (p34 : Nat → Int32) (w184 : Wd), (r + N = n) → (cOK p31) → (wd_at w184 y (.inr (11, [.int v0, .int td, .ref m2, .ref m3, .ref m4, .ref m5, .ref m6, .int (nI pc), .ref m8, .ref m9, .ref m10, .ref m11, .ref m12, .ref m13, .ref m14, .int (nI ac), .int (nI sc), .ref m17, .ref m18, .ref m19, .ref m20, .ref m21, .ref m22, .ref m23, .ref m24, .int 0, .int (nI a), .int (nI b), .int (nI fq), .ref m29, .ref m30, .ref m31, .ref m32, .ref m33, .ref m34, .ref m35, .ref m36, .ref m37, .int (nI sh), .ref m39, .ref m40, .ref m41, .ref m42, .ref m43, .ref m44, .ref m45, .ref m46, .ref m47, .ref m48, .ref m49, .int v50, .ref m51, .ref m52, .ref m53, .ref m54, .int (nI gf), .ref m56, .ref m57, .ref m58, .ref m59]))) → (wd_at w184 m24 (.inl (cy 0, 300, .inl f24))) → (wd_at w184 m29 (.inl (cy 2, 12, .inl (upd f29 (nI tw).toNatClampNeg (nI n))))) → (wd_at w184 m30 (.inl (cy 2, 156, .inl p30))) → (wd_at w184 m31 (.inl (cy 2, 156, .inl p31))) → (wd_at w184 m32 (.inl (cy 2, 936, .inl p32))) → (wd_at w184 m33 (.inl (cy 2, 936, .inl p33))) → (wd_at w184 m34 (.inl (cy 2, 936, .inl p34))) → (wd_kp S w w184) → ∀ (ls : Array Slot), lv_has ls 6 [(0, .ref y), (1, .int (nI tw)), (2, .int (nI n)), (4, .int (nI r))] → Wv p l e ({ frames := 7, cells := 0, slots := 0, locals := 155 }) s m args below meth c D A (0) (0) Q w184 (F0 m 158 ls []) := by
                  intro N
                  induction N with
                  | zero =>
                    intro r p30 p31 p32 p33 p34 w184 hN158 hc3 k185 k186 k187 k188 k189 k190 k191 k192 kp193 ls hl H locs hP hD hS
                    refine lv_iload hx hb dX11_text_158 (lv_at hl 3 rfl) ?_
                    refine lv_iload_n hx hb dX11_text_160 rfl (lv_at hl 2 rfl) ?_
                    refine lv_icmp_ge (tgt := 337) hx hb dX11_text_161 (by decide) (fun c_194 => ?_) (fun c_194 => absurd (nI_le (a := n) (b := r) (by omega) (by omega)) c_194)
                    refine lv_iload_n hx hb dX11_text_337 rfl (lv_at hl 2 rfl) ?_
                    exact y_ir K hP hD hS (Nat.le_of_ble_eq_true rfl) (Nat.le_of_ble_eq_true rfl) (ty := .int) rfl rfl dX11_text_338 (⟨0, nI a, nI b, nI fq, upd f29 (nI tw).toNatClampNeg (nI n), p30, p31, p32, p33, p34, nI n, rfl, by simp [txtC, c_4], hrl.c (by omega) (by omega), by assumption, kp193, k185, k187, k188, k189, k190, k191, k192⟩)
                  | succ N ih158 =>
                    intro r p30 p31 p32 p33 p34 w184 hN158 hc3 k185 k186 k187 k188 k189 k190 k191 k192 kp193 ls hl H locs hP hD hS
                    refine lv_iload hx hb dX11_text_158 (lv_at hl 3 rfl) ?_
                    refine lv_iload_n hx hb dX11_text_160 rfl (lv_at hl 2 rfl) ?_
                    refine lv_icmp_ge (tgt := 337) hx hb dX11_text_161 (by decide) (fun c_195 => absurd c_195 (nI_ge (a := r) (b := n) (by omega) (by omega))) (fun c_195 => ?_)
                    refine lv_aload_n hx hb dX11_text_164 rfl (lv_at hl 0 rfl) ?_
                    refine x_get (ref := "NoteHouseModel") F hP k185 rfl (fun _ h => List.mem_cons_of_mem _ (List.mem_append_right _ (h))) 30 (Nat.le_of_ble_eq_true rfl) (List.mem_cons_of_mem _ (List.mem_append_left _ (List.mem_append_left _ (List.mem_of_getElem? (i := 5) rfl)))) rfl rfl dX11_text_165 ?_
                    refine lv_bipush (v := 12) hx hb dX11_text_168 (by decide) ?_
                    refine lv_iload_n hx hb dX11_text_170 rfl (lv_at hl 1 rfl) ?_
                    refine lv_imul hx hb dX11_text_171 ?_
                    rw [show (12 * (nI tw) : Int32) = nI (12 * tw) from pk_mul 12 tw]
                    refine lv_iload hx hb dX11_text_172 (lv_at hl 3 rfl) ?_
                    refine lv_iadd hx hb dX11_text_174 ?_
                    rw [show ((nI (12 * tw)) + (nI r) : Int32) = nI ((12 * tw) + r) from nI_add (12 * tw) r]
                    refine lv_aload_n hx hb dX11_text_175 rfl (lv_at hl 0 rfl) ?_
                    refine x_get (ref := "NoteHouseModel") F hP k185 rfl (fun _ h => List.mem_cons_of_mem _ (List.mem_append_right _ (h))) 30 (Nat.le_of_ble_eq_true rfl) (List.mem_cons_of_mem _ (List.mem_append_left _ (List.mem_append_left _ (List.mem_of_getElem? (i := 5) rfl)))) rfl rfl dX11_text_176 ?_
                    refine lv_sipush (v := 144) hx hb dX11_text_179 (by decide) ?_
                    refine lv_iload hx hb dX11_text_182 (lv_at hl 3 rfl) ?_
                    refine lv_iadd hx hb dX11_text_184 ?_
                    rw [show (144 + (nI r) : Int32) = nI (144 + r) from nI_add 144 r]
                    refine x_iald F hP k188 (vp_in_nI (n := (144 + r)) (N := 156) (by omega) (by decide)) dX11_text_185 ?_
                    refine y_iast F hP hD hS k188 (vp_in_nI (n := ((12 * tw) + r)) (N := 156) (by omega) (by decide)) dX11_text_186 (fun w196 ew197 H locs hP hD hS => ?_)
                    have k198 := wd_at.pt ew197 k185 (tg_ne ty tm30 (by decide))
                    have k199 := wd_at.pt ew197 k186 (tg_ne tm24 tm30 (by decide))
                    have k200 := wd_at.pt ew197 k187 (tg_ne tm29 tm30 (by decide))
                    have k201 : wd_at w196 m30 (.inl (cy 2, 156, .inl (upd p30 (nI ((12 * tw) + r)).toNatClampNeg (p30 (nI (144 + r)).toNatClampNeg)))) := wd_at.ps ew197 k188
                    have k202 := wd_at.pt ew197 k189 (tg_ne tm31 tm30 (by decide))
                    have k203 := wd_at.pt ew197 k190 (tg_ne tm32 tm30 (by decide))
                    have k204 := wd_at.pt ew197 k191 (tg_ne tm33 tm30 (by decide))
                    have k205 := wd_at.pt ew197 k192 (tg_ne tm34 tm30 (by decide))
                    have kp206 := kp193.put ew197 s92
                    refine lv_aload_n hx hb dX11_text_187 rfl (lv_at hl 0 rfl) ?_
                    refine x_get (ref := "NoteHouseModel") F hP k198 rfl (fun _ h => List.mem_cons_of_mem _ (List.mem_append_right _ (h))) 31 (Nat.le_of_ble_eq_true rfl) (List.mem_cons_of_mem _ (List.mem_append_left _ (List.mem_append_left _ (List.mem_of_getElem? (i := 6) rfl)))) rfl rfl dX11_text_188 ?_
                    refine lv_bipush (v := 12) hx hb dX11_text_191 (by decide) ?_
                    refine lv_iload_n hx hb dX11_text_193 rfl (lv_at hl 1 rfl) ?_
                    refine lv_imul hx hb dX11_text_194 ?_
                    rw [show (12 * (nI tw) : Int32) = nI (12 * tw) from pk_mul 12 tw]
                    refine lv_iload hx hb dX11_text_195 (lv_at hl 3 rfl) ?_
                    refine lv_iadd hx hb dX11_text_197 ?_
                    rw [show ((nI (12 * tw)) + (nI r) : Int32) = nI ((12 * tw) + r) from nI_add (12 * tw) r]
                    refine lv_aload_n hx hb dX11_text_198 rfl (lv_at hl 0 rfl) ?_
                    refine x_get (ref := "NoteHouseModel") F hP k198 rfl (fun _ h => List.mem_cons_of_mem _ (List.mem_append_right _ (h))) 31 (Nat.le_of_ble_eq_true rfl) (List.mem_cons_of_mem _ (List.mem_append_left _ (List.mem_append_left _ (List.mem_of_getElem? (i := 6) rfl)))) rfl rfl dX11_text_199 ?_
                    refine lv_sipush (v := 144) hx hb dX11_text_202 (by decide) ?_
                    refine lv_iload hx hb dX11_text_205 (lv_at hl 3 rfl) ?_
                    refine lv_iadd hx hb dX11_text_207 ?_
                    rw [show (144 + (nI r) : Int32) = nI (144 + r) from nI_add 144 r]
                    refine x_iald F hP k202 (vp_in_nI (n := (144 + r)) (N := 156) (by omega) (by decide)) dX11_text_208 ?_
                    obtain ⟨uc, huc, euc⟩ := hc3 (144 + r) (by omega)
                    rw [nI_clamp (n := 144 + r) (by omega), euc]
                    refine y_iast F hP hD hS k202 (vp_in_nI (n := ((12 * tw) + r)) (N := 156) (by omega) (by decide)) dX11_text_209 (fun w207 ew208 H locs hP hD hS => ?_)
                    have k209 := wd_at.pt ew208 k198 (tg_ne ty tm31 (by decide))
                    have k210 := wd_at.pt ew208 k199 (tg_ne tm24 tm31 (by decide))
                    have k211 := wd_at.pt ew208 k200 (tg_ne tm29 tm31 (by decide))
                    have k212 := wd_at.pt ew208 k201 (tg_ne tm30 tm31 (by decide))
                    have k213 : wd_at w207 m31 (.inl (cy 2, 156, .inl (upd p31 (nI ((12 * tw) + r)).toNatClampNeg (nI uc)))) := wd_at.ps ew208 k202
                    have k214 := wd_at.pt ew208 k203 (tg_ne tm32 tm31 (by decide))
                    have k215 := wd_at.pt ew208 k204 (tg_ne tm33 tm31 (by decide))
                    have k216 := wd_at.pt ew208 k205 (tg_ne tm34 tm31 (by decide))
                    have kp217 := kp206.put ew208 s93
                    refine lv_iconst (v := 0) hx hb dX11_text_210 (by decide) ?_
                    refine lv_istore (lv' := [(5, .int 0), (0, .ref y), (1, .int (nI tw)), (2, .int (nI n)), (4, .int (nI r))]) hx hb dX11_text_211 hl (by decide) rfl (fun ls hl => ?_)
                    have lp213 : ∀ (N : Nat) (cz : Nat) (q32 : Nat → Int32) (q33 : Nat → Int32) (q34 : Nat → Int32) (w218 : Wd), (cz + N = 6) → (wd_at w218 y (.inr (11, [.int v0, .int td, .ref m2, .ref m3, .ref m4, .ref m5, .ref m6, .int (nI pc), .ref m8, .ref m9, .ref m10, .ref m11, .ref m12, .ref m13, .ref m14, .int (nI ac), .int (nI sc), .ref m17, .ref m18, .ref m19, .ref m20, .ref m21, .ref m22, .ref m23, .ref m24, .int 0, .int (nI a), .int (nI b), .int (nI fq), .ref m29, .ref m30, .ref m31, .ref m32, .ref m33, .ref m34, .ref m35, .ref m36, .ref m37, .int (nI sh), .ref m39, .ref m40, .ref m41, .ref m42, .ref m43, .ref m44, .ref m45, .ref m46, .ref m47, .ref m48, .ref m49, .int v50, .ref m51, .ref m52, .ref m53, .ref m54, .int (nI gf), .ref m56, .ref m57, .ref m58, .ref m59]))) → (wd_at w218 m24 (.inl (cy 0, 300, .inl f24))) → (wd_at w218 m29 (.inl (cy 2, 12, .inl (upd f29 (nI tw).toNatClampNeg (nI n))))) → (wd_at w218 m30 (.inl (cy 2, 156, .inl (upd p30 (nI ((12 * tw) + r)).toNatClampNeg (p30 (nI (144 + r)).toNatClampNeg))))) → (wd_at w218 m31 (.inl (cy 2, 156, .inl (upd p31 (nI ((12 * tw) + r)).toNatClampNeg (nI uc))))) → (wd_at w218 m32 (.inl (cy 2, 936, .inl q32))) → (wd_at w218 m33 (.inl (cy 2, 936, .inl q33))) → (wd_at w218 m34 (.inl (cy 2, 936, .inl q34))) → (wd_kp S w w218) → ∀ (ls : Array Slot), lv_has ls 6 [(0, .ref y), (1, .int (nI tw)), (2, .int (nI n)), (4, .int (nI r)), (5, .int (nI cz))] → Wv p l e ({ frames := 7, cells := 0, slots := 0, locals := 155 }) s m args below meth c D A (0) (0) Q w218 (F0 m 213 ls []) := by
                      intro N
                      induction N with
                      | zero =>
                        intro cz q32 q33 q34 w218 hN213 k219 k220 k221 k222 k223 k224 k225 k226 kp227 ls hl H locs hP hD hS
                        refine lv_iload hx hb dX11_text_213 (lv_at hl 4 rfl) ?_
                        refine lv_bipush (v := 6) hx hb dX11_text_215 (by decide) ?_
                        refine lv_icmp_ge (tgt := 331) hx hb dX11_text_217 (by decide) (fun c_228 => ?_) (fun c_228 => absurd (nI_le (a := 6) (b := cz) (by omega) (by omega)) c_228)
                        refine lv_iinc (v := nI (r + 1)) (lv' := [(4, .int (nI (r + 1))), (0, .ref y), (1, .int (nI tw)), (2, .int (nI n)), (5, .int (nI cz))]) hx hb dX11_text_331 hl (k := 3) rfl (nI_1 r) (by decide) rfl (fun ls hl => ?_)
                        refine lv_goto (tgt := 158) hx hb dX11_text_334 (by decide) ?_
                        exact ih158 (r + 1) (upd p30 (nI ((12 * tw) + r)).toNatClampNeg (p30 (nI (144 + r)).toNatClampNeg)) (upd p31 (nI ((12 * tw) + r)).toNatClampNeg (nI uc)) q32 q33 q34 w218 (by omega) (hc3.c (u := uc) (by omega) (by omega)) k219 k220 k221 k222 k223 k224 k225 k226 kp227 ls (lv_sub hl [1, 2, 3, 0] rfl) H locs hP hD hS
                      | succ N ih213 =>
                        intro cz q32 q33 q34 w218 hN213 k219 k220 k221 k222 k223 k224 k225 k226 kp227 ls hl H locs hP hD hS
                        refine lv_iload hx hb dX11_text_213 (lv_at hl 4 rfl) ?_
                        refine lv_bipush (v := 6) hx hb dX11_text_215 (by decide) ?_
                        refine lv_icmp_ge (tgt := 331) hx hb dX11_text_217 (by decide) (fun c_229 => absurd c_229 (nI_ge (a := cz) (b := 6) (by omega) (by omega))) (fun c_229 => ?_)
                        refine lv_aload_n hx hb dX11_text_220 rfl (lv_at hl 0 rfl) ?_
                        refine x_get (ref := "NoteHouseModel") F hP k219 rfl (fun _ h => List.mem_cons_of_mem _ (List.mem_append_right _ (h))) 32 (Nat.le_of_ble_eq_true rfl) (List.mem_cons_of_mem _ (List.mem_append_left _ (List.mem_append_left _ (List.mem_of_getElem? (i := 7) rfl)))) rfl rfl dX11_text_221 ?_
                        refine lv_bipush (v := 6) hx hb dX11_text_224 (by decide) ?_
                        refine lv_bipush (v := 12) hx hb dX11_text_226 (by decide) ?_
                        refine lv_iload_n hx hb dX11_text_228 rfl (lv_at hl 1 rfl) ?_
                        refine lv_imul hx hb dX11_text_229 ?_
                        rw [show (12 * (nI tw) : Int32) = nI (12 * tw) from pk_mul 12 tw]
                        refine lv_iload hx hb dX11_text_230 (lv_at hl 3 rfl) ?_
                        refine lv_iadd hx hb dX11_text_232 ?_
                        rw [show ((nI (12 * tw)) + (nI r) : Int32) = nI ((12 * tw) + r) from nI_add (12 * tw) r]
                        refine lv_imul hx hb dX11_text_233 ?_
                        rw [show (6 * (nI ((12 * tw) + r)) : Int32) = nI (6 * ((12 * tw) + r)) from pk_mul 6 ((12 * tw) + r)]
                        refine lv_iload hx hb dX11_text_234 (lv_at hl 4 rfl) ?_
                        refine lv_iadd hx hb dX11_text_236 ?_
                        rw [show ((nI (6 * ((12 * tw) + r))) + (nI cz) : Int32) = nI ((6 * ((12 * tw) + r)) + cz) from nI_add (6 * ((12 * tw) + r)) cz]
                        refine lv_aload_n hx hb dX11_text_237 rfl (lv_at hl 0 rfl) ?_
                        refine x_get (ref := "NoteHouseModel") F hP k219 rfl (fun _ h => List.mem_cons_of_mem _ (List.mem_append_right _ (h))) 32 (Nat.le_of_ble_eq_true rfl) (List.mem_cons_of_mem _ (List.mem_append_left _ (List.mem_append_left _ (List.mem_of_getElem? (i := 7) rfl)))) rfl rfl dX11_text_238 ?_
                        refine lv_bipush (v := 6) hx hb dX11_text_241 (by decide) ?_
                        refine lv_sipush (v := 144) hx hb dX11_text_243 (by decide) ?_
                        refine lv_iload hx hb dX11_text_246 (lv_at hl 3 rfl) ?_
                        refine lv_iadd hx hb dX11_text_248 ?_
                        rw [show (144 + (nI r) : Int32) = nI (144 + r) from nI_add 144 r]
                        refine lv_imul hx hb dX11_text_249 ?_
                        rw [show (6 * (nI (144 + r)) : Int32) = nI (6 * (144 + r)) from pk_mul 6 (144 + r)]
                        refine lv_iload hx hb dX11_text_250 (lv_at hl 4 rfl) ?_
                        refine lv_iadd hx hb dX11_text_252 ?_
                        rw [show ((nI (6 * (144 + r))) + (nI cz) : Int32) = nI ((6 * (144 + r)) + cz) from nI_add (6 * (144 + r)) cz]
                        refine x_iald F hP k224 (vp_in_nI (n := ((6 * (144 + r)) + cz)) (N := 936) (by omega) (by decide)) dX11_text_253 ?_
                        refine y_iast F hP hD hS k224 (vp_in_nI (n := ((6 * ((12 * tw) + r)) + cz)) (N := 936) (by omega) (by decide)) dX11_text_254 (fun w230 ew231 H locs hP hD hS => ?_)
                        have k232 := wd_at.pt ew231 k219 (tg_ne ty tm32 (by decide))
                        have k233 := wd_at.pt ew231 k220 (tg_ne tm24 tm32 (by decide))
                        have k234 := wd_at.pt ew231 k221 (tg_ne tm29 tm32 (by decide))
                        have k235 := wd_at.pt ew231 k222 (tg_ne tm30 tm32 (by decide))
                        have k236 := wd_at.pt ew231 k223 (tg_ne tm31 tm32 (by decide))
                        have k237 : wd_at w230 m32 (.inl (cy 2, 936, .inl (upd q32 (nI ((6 * ((12 * tw) + r)) + cz)).toNatClampNeg (q32 (nI ((6 * (144 + r)) + cz)).toNatClampNeg)))) := wd_at.ps ew231 k224
                        have k238 := wd_at.pt ew231 k225 (tg_ne tm33 tm32 (by decide))
                        have k239 := wd_at.pt ew231 k226 (tg_ne tm34 tm32 (by decide))
                        have kp240 := kp227.put ew231 s94
                        refine lv_aload_n hx hb dX11_text_255 rfl (lv_at hl 0 rfl) ?_
                        refine x_get (ref := "NoteHouseModel") F hP k232 rfl (fun _ h => List.mem_cons_of_mem _ (List.mem_append_right _ (h))) 33 (Nat.le_of_ble_eq_true rfl) (List.mem_cons_of_mem _ (List.mem_append_left _ (List.mem_append_left _ (List.mem_of_getElem? (i := 8) rfl)))) rfl rfl dX11_text_256 ?_
                        refine lv_bipush (v := 6) hx hb dX11_text_259 (by decide) ?_
                        refine lv_bipush (v := 12) hx hb dX11_text_261 (by decide) ?_
                        refine lv_iload_n hx hb dX11_text_263 rfl (lv_at hl 1 rfl) ?_
                        refine lv_imul hx hb dX11_text_264 ?_
                        rw [show (12 * (nI tw) : Int32) = nI (12 * tw) from pk_mul 12 tw]
                        refine lv_iload hx hb dX11_text_265 (lv_at hl 3 rfl) ?_
                        refine lv_iadd hx hb dX11_text_267 ?_
                        rw [show ((nI (12 * tw)) + (nI r) : Int32) = nI ((12 * tw) + r) from nI_add (12 * tw) r]
                        refine lv_imul hx hb dX11_text_268 ?_
                        rw [show (6 * (nI ((12 * tw) + r)) : Int32) = nI (6 * ((12 * tw) + r)) from pk_mul 6 ((12 * tw) + r)]
                        refine lv_iload hx hb dX11_text_269 (lv_at hl 4 rfl) ?_
                        refine lv_iadd hx hb dX11_text_271 ?_
                        rw [show ((nI (6 * ((12 * tw) + r))) + (nI cz) : Int32) = nI ((6 * ((12 * tw) + r)) + cz) from nI_add (6 * ((12 * tw) + r)) cz]
                        refine lv_aload_n hx hb dX11_text_272 rfl (lv_at hl 0 rfl) ?_
                        refine x_get (ref := "NoteHouseModel") F hP k232 rfl (fun _ h => List.mem_cons_of_mem _ (List.mem_append_right _ (h))) 33 (Nat.le_of_ble_eq_true rfl) (List.mem_cons_of_mem _ (List.mem_append_left _ (List.mem_append_left _ (List.mem_of_getElem? (i := 8) rfl)))) rfl rfl dX11_text_273 ?_
                        refine lv_bipush (v := 6) hx hb dX11_text_276 (by decide) ?_
                        refine lv_sipush (v := 144) hx hb dX11_text_278 (by decide) ?_
                        refine lv_iload hx hb dX11_text_281 (lv_at hl 3 rfl) ?_
                        refine lv_iadd hx hb dX11_text_283 ?_
                        rw [show (144 + (nI r) : Int32) = nI (144 + r) from nI_add 144 r]
                        refine lv_imul hx hb dX11_text_284 ?_
                        rw [show (6 * (nI (144 + r)) : Int32) = nI (6 * (144 + r)) from pk_mul 6 (144 + r)]
                        refine lv_iload hx hb dX11_text_285 (lv_at hl 4 rfl) ?_
                        refine lv_iadd hx hb dX11_text_287 ?_
                        rw [show ((nI (6 * (144 + r))) + (nI cz) : Int32) = nI ((6 * (144 + r)) + cz) from nI_add (6 * (144 + r)) cz]
                        refine x_iald F hP k238 (vp_in_nI (n := ((6 * (144 + r)) + cz)) (N := 936) (by omega) (by decide)) dX11_text_288 ?_
                        refine y_iast F hP hD hS k238 (vp_in_nI (n := ((6 * ((12 * tw) + r)) + cz)) (N := 936) (by omega) (by decide)) dX11_text_289 (fun w241 ew242 H locs hP hD hS => ?_)
                        have k243 := wd_at.pt ew242 k232 (tg_ne ty tm33 (by decide))
                        have k244 := wd_at.pt ew242 k233 (tg_ne tm24 tm33 (by decide))
                        have k245 := wd_at.pt ew242 k234 (tg_ne tm29 tm33 (by decide))
                        have k246 := wd_at.pt ew242 k235 (tg_ne tm30 tm33 (by decide))
                        have k247 := wd_at.pt ew242 k236 (tg_ne tm31 tm33 (by decide))
                        have k248 := wd_at.pt ew242 k237 (tg_ne tm32 tm33 (by decide))
                        have k249 : wd_at w241 m33 (.inl (cy 2, 936, .inl (upd q33 (nI ((6 * ((12 * tw) + r)) + cz)).toNatClampNeg (q33 (nI ((6 * (144 + r)) + cz)).toNatClampNeg)))) := wd_at.ps ew242 k238
                        have k250 := wd_at.pt ew242 k239 (tg_ne tm34 tm33 (by decide))
                        have kp251 := kp240.put ew242 s95
                        refine lv_aload_n hx hb dX11_text_290 rfl (lv_at hl 0 rfl) ?_
                        refine x_get (ref := "NoteHouseModel") F hP k243 rfl (fun _ h => List.mem_cons_of_mem _ (List.mem_append_right _ (h))) 34 (Nat.le_of_ble_eq_true rfl) (List.mem_cons_of_mem _ (List.mem_append_left _ (List.mem_append_left _ (List.mem_of_getElem? (i := 9) rfl)))) rfl rfl dX11_text_291 ?_
                        refine lv_bipush (v := 6) hx hb dX11_text_294 (by decide) ?_
                        refine lv_bipush (v := 12) hx hb dX11_text_296 (by decide) ?_
                        refine lv_iload_n hx hb dX11_text_298 rfl (lv_at hl 1 rfl) ?_
                        refine lv_imul hx hb dX11_text_299 ?_
                        rw [show (12 * (nI tw) : Int32) = nI (12 * tw) from pk_mul 12 tw]
                        refine lv_iload hx hb dX11_text_300 (lv_at hl 3 rfl) ?_
                        refine lv_iadd hx hb dX11_text_302 ?_
                        rw [show ((nI (12 * tw)) + (nI r) : Int32) = nI ((12 * tw) + r) from nI_add (12 * tw) r]
                        refine lv_imul hx hb dX11_text_303 ?_
                        rw [show (6 * (nI ((12 * tw) + r)) : Int32) = nI (6 * ((12 * tw) + r)) from pk_mul 6 ((12 * tw) + r)]
                        refine lv_iload hx hb dX11_text_304 (lv_at hl 4 rfl) ?_
                        refine lv_iadd hx hb dX11_text_306 ?_
                        rw [show ((nI (6 * ((12 * tw) + r))) + (nI cz) : Int32) = nI ((6 * ((12 * tw) + r)) + cz) from nI_add (6 * ((12 * tw) + r)) cz]
                        refine lv_aload_n hx hb dX11_text_307 rfl (lv_at hl 0 rfl) ?_
                        refine x_get (ref := "NoteHouseModel") F hP k243 rfl (fun _ h => List.mem_cons_of_mem _ (List.mem_append_right _ (h))) 34 (Nat.le_of_ble_eq_true rfl) (List.mem_cons_of_mem _ (List.mem_append_left _ (List.mem_append_left _ (List.mem_of_getElem? (i := 9) rfl)))) rfl rfl dX11_text_308 ?_
                        refine lv_bipush (v := 6) hx hb dX11_text_311 (by decide) ?_
                        refine lv_sipush (v := 144) hx hb dX11_text_313 (by decide) ?_
                        refine lv_iload hx hb dX11_text_316 (lv_at hl 3 rfl) ?_
                        refine lv_iadd hx hb dX11_text_318 ?_
                        rw [show (144 + (nI r) : Int32) = nI (144 + r) from nI_add 144 r]
                        refine lv_imul hx hb dX11_text_319 ?_
                        rw [show (6 * (nI (144 + r)) : Int32) = nI (6 * (144 + r)) from pk_mul 6 (144 + r)]
                        refine lv_iload hx hb dX11_text_320 (lv_at hl 4 rfl) ?_
                        refine lv_iadd hx hb dX11_text_322 ?_
                        rw [show ((nI (6 * (144 + r))) + (nI cz) : Int32) = nI ((6 * (144 + r)) + cz) from nI_add (6 * (144 + r)) cz]
                        refine x_iald F hP k250 (vp_in_nI (n := ((6 * (144 + r)) + cz)) (N := 936) (by omega) (by decide)) dX11_text_323 ?_
                        refine y_iast F hP hD hS k250 (vp_in_nI (n := ((6 * ((12 * tw) + r)) + cz)) (N := 936) (by omega) (by decide)) dX11_text_324 (fun w252 ew253 H locs hP hD hS => ?_)
                        have k254 := wd_at.pt ew253 k243 (tg_ne ty tm34 (by decide))
                        have k255 := wd_at.pt ew253 k244 (tg_ne tm24 tm34 (by decide))
                        have k256 := wd_at.pt ew253 k245 (tg_ne tm29 tm34 (by decide))
                        have k257 := wd_at.pt ew253 k246 (tg_ne tm30 tm34 (by decide))
                        have k258 := wd_at.pt ew253 k247 (tg_ne tm31 tm34 (by decide))
                        have k259 := wd_at.pt ew253 k248 (tg_ne tm32 tm34 (by decide))
                        have k260 := wd_at.pt ew253 k249 (tg_ne tm33 tm34 (by decide))
                        have k261 : wd_at w252 m34 (.inl (cy 2, 936, .inl (upd q34 (nI ((6 * ((12 * tw) + r)) + cz)).toNatClampNeg (q34 (nI ((6 * (144 + r)) + cz)).toNatClampNeg)))) := wd_at.ps ew253 k250
                        have kp262 := kp251.put ew253 s96
                        refine lv_iinc (v := nI (cz + 1)) (lv' := [(5, .int (nI (cz + 1))), (0, .ref y), (1, .int (nI tw)), (2, .int (nI n)), (4, .int (nI r))]) hx hb dX11_text_325 hl (k := 4) rfl (nI_1 cz) (by decide) rfl (fun ls hl => ?_)
                        refine lv_goto (tgt := 213) hx hb dX11_text_328 (by decide) ?_
                        exact ih213 (cz + 1) (upd q32 (nI ((6 * ((12 * tw) + r)) + cz)).toNatClampNeg (q32 (nI ((6 * (144 + r)) + cz)).toNatClampNeg)) (upd q33 (nI ((6 * ((12 * tw) + r)) + cz)).toNatClampNeg (q33 (nI ((6 * (144 + r)) + cz)).toNatClampNeg)) (upd q34 (nI ((6 * ((12 * tw) + r)) + cz)).toNatClampNeg (q34 (nI ((6 * (144 + r)) + cz)).toNatClampNeg)) w252 (by omega)  k254 k255 k256 k257 k258 k259 k260 k261 kp262 ls (lv_sub hl [1, 2, 3, 4, 0] rfl) H locs hP hD hS
                    exact lp213 _ 0 p32 p33 p34 w207 (Nat.zero_add 6)  k209 k210 k211 k212 k213 k214 k215 k216 kp217 ls (lv_sub hl [1, 2, 3, 4, 0] rfl) H locs hP hD hS
                exact lp158 _ 0 h30 h31 h32 h33 h34 w173 (Nat.zero_add n) (by assumption) k175 k176 k177 k178 k179 k180 k181 k182 kp183 ls (lv_sub hl [1, 2, 3, 0] rfl) H locs hP hD hS
              · have hfp : 0 < fq := Nat.pos_of_ne_zero (fun q => c_172 (by rw [q]; decide))
                refine lv_bipush (v := (-2)) hx hb dX11_text_140 (by decide) ?_
                refine lv_aload_n hx hb dX11_text_142 rfl (lv_at hl 0 rfl) ?_
                refine x_get (ref := "NoteHouseModel") F hP k163 rfl (fun _ h => List.mem_cons_of_mem _ (List.mem_append_right _ (h))) 28 (Nat.le_of_ble_eq_true rfl) (List.mem_cons_of_mem _ (List.mem_append_left _ (List.mem_append_left _ (List.mem_of_getElem? (i := 1) rfl)))) rfl rfl dX11_text_143 ?_
                refine lv_isub hx hb dX11_text_146 ?_
                exact y_ir K hP hD hS (Nat.le_of_ble_eq_true rfl) (Nat.le_of_ble_eq_true rfl) (ty := .int) rfl rfl dX11_text_147 (⟨0, nI a, nI b, nI fq, f29, h30, h31, h32, h33, h34, (-2) - (nI fq), rfl, by simp [txtC, c_4], hrl, by assumption, kp171, k163, k165, k166, k167, k168, k169, k170⟩)
            · have hf0 : fq = 0 := nI_z0 (by omega) c_160
              have hn9 := hn13 hf0
              refine lv_aload_n hx hb dX11_text_45 rfl (lv_at hl 0 rfl) ?_
              refine lv_sipush (v := 144) hx hb dX11_text_46 (by decide) ?_
              refine lv_iload_n hx hb dX11_text_49 rfl (lv_at hl 2 rfl) ?_
              refine lv_bipush (v := 12) hx hb dX11_text_50 (by decide) ?_
              refine lv_icmp_ge (tgt := 59) hx hb dX11_text_52 (by decide) (fun c_263 => ?_) (fun c_263 => ?_)
              · have hn12 : 12 ≤ n := (nI_leI (a := 12) (b := n) (by omega) (by omega)).mp c_263
                refine lv_iconst (v := 0) hx hb dX11_text_59 (by decide) ?_
                refine lv_iadd hx hb dX11_text_60 ?_
                rw [show (144 + 0 : Int32) = 144 from by decide]
                refine lv_iload_n hx hb dX11_text_61 rfl (lv_at hl 2 rfl) ?_
                refine x_callV (n := 2) (As := [.int 144, .int (nI n)]) (rest := []) F hP hD hS (m_rule l D cy sk sv w47 tg y m2 m3 m4 m5 m6 m8 m9 m10 m11 m12 m13 m14 m17 m18 m19 m20 m21 m22 m23 m24 m29 m30 m31 m32 m33 m34 m35 m36 m37 m39 m40 m41 m42 m43 m44 m45 m46 m47 m48 m49 m51 m52 m53 m54 m56 m57 m58 m59 pc ac sc ln sh gf v0 td (nI b) v50 f24 h30 h31 h32 h33 h34 a fq 144 n k48 k49 k51 k52 k53 k54 k55 (fun b => b = y ∨ b = m30 ∨ b = m31 ∨ b = m32 ∨ b = m33 ∨ b = m34) (Or.inl rfl) (Or.inr (Or.inl rfl)) (Or.inr (Or.inr (Or.inl rfl))) (Or.inr (Or.inr (Or.inr (Or.inl rfl)))) (Or.inr (Or.inr (Or.inr (Or.inr (Or.inl rfl))))) (Or.inr (Or.inr (Or.inr (Or.inr (Or.inr rfl))))) ty tm24 tm30 tm31 tm32 tm33 tm34 (by omega) (by omega) (by omega) (by omega) (by omega) (by assumption)) gX11_text_X11_rule rfl rfl (by decide +kernel) ⟨(Nat.le_of_ble_eq_true rfl), (Nat.le_of_ble_eq_true rfl)⟩ rfl hl.1 (Nat.le_of_ble_eq_true rfl) k48 rfl dX11_text_62 rfl ⟨(Nat.le_of_ble_eq_true rfl), (Nat.le_of_ble_eq_true rfl)⟩ (fun v265 w266 hp264 H locs hP hD hS => ?_)
                obtain ⟨ax267, bx268, fvx269, gx270, gx271, gx272, gx273, gx274, rfl, hz275, hz276, hz277, hz278, hz279, kq286, k280, k281, k282, k283, k284, k285⟩ := hp264
                have k287 := kq286.2 _ _ k49 (orN (tg_ne tm24 ty (by decide)) (orN (tg_ne tm24 tm30 (by decide)) (orN (tg_ne tm24 tm31 (by decide)) (orN (tg_ne tm24 tm32 (by decide)) (orN (tg_ne tm24 tm33 (by decide)) (tg_ne tm24 tm34 (by decide)))))))
                have k288 := kq286.2 _ _ k50 (orN (tg_ne tm29 ty (by decide)) (orN (tg_ne tm29 tm30 (by decide)) (orN (tg_ne tm29 tm31 (by decide)) (orN (tg_ne tm29 tm32 (by decide)) (orN (tg_ne tm29 tm33 (by decide)) (tg_ne tm29 tm34 (by decide)))))))
                have kp289 := kp56.tr kq286 (fun b9 hm q9 => (fun q9 => Or.elim q9 (fun q9 => q9 ▸ s90) (fun q9 => Or.elim q9 (fun q9 => q9 ▸ s92) (fun q9 => Or.elim q9 (fun q9 => q9 ▸ s93) (fun q9 => Or.elim q9 (fun q9 => q9 ▸ s94) (fun q9 => Or.elim q9 (fun q9 => q9 ▸ s95) (fun q9 => q9 ▸ s96)))))) q9)
                refine W.eq (g2 := F0 m 65 ls []) rfl (W.widen (k := 0) (n := 0) (Nat.le_of_ble_eq_true rfl) (Nat.le_of_ble_eq_true rfl) ?_)
                refine lv_iinc (v := nI (n + 1)) (lv' := [(2, .int (nI (n + 1))), (0, .ref y), (1, .int (nI tw)), (3, .int on)]) hx hb dX11_text_65 hl (k := 2) rfl (nI_1 n) (by decide) rfl (fun ls hl => ?_)
                refine lv_aload_n hx hb dX11_text_68 rfl (lv_at hl 1 rfl) ?_
                refine x_get (ref := "NoteHouseModel") F hP k280 rfl (fun _ h => List.mem_cons_of_mem _ (List.mem_append_right _ (h))) 28 (Nat.le_of_ble_eq_true rfl) (List.mem_cons_of_mem _ (List.mem_append_left _ (List.mem_append_left _ (List.mem_of_getElem? (i := 1) rfl)))) rfl rfl dX11_text_69 ?_
                refine lv_if_ne (tgt := 86) hx hb dX11_text_72 (by decide) (fun c_290 => ?_) (fun c_290 => ?_)
                · have hfp : 0 < fvx269 := nI_nz (by omega) c_290
                  refine lv_iconst (v := 0) hx hb dX11_text_86 (by decide) ?_
                  refine lv_istore_n (lv' := [(3, .int 0), (2, .int (nI (n + 1))), (0, .ref y), (1, .int (nI tw))]) hx hb dX11_text_87 rfl hl (by decide) rfl (fun ls hl => ?_)
                  refine lv_iload_n hx hb dX11_text_88 rfl (lv_at hl 0 rfl) ?_
                  refine lv_if_eq (tgt := 34) hx hb dX11_text_89 (by decide) (fun c_291 => ?_) (fun c_291 => absurd (show (0 : Int32) = (0 : Int32) by decide) c_291)
                  exact ih34 (n + 1) 0 ax267 bx268 fvx269 gx270 gx271 gx272 gx273 gx274 w266 (by omega) (by omega) (by omega) (by omega) (by omega) (by assumption) k280 k287 k288 k281 k282 k283 k284 k285 kp289 ls (lv_sub hl [2, 3, 1, 0] rfl) H locs hP hD hS
                · have hf0 : fvx269 = 0 := nI_z0 (by omega) c_290
                  refine lv_aload_n hx hb dX11_text_75 rfl (lv_at hl 1 rfl) ?_
                  refine x_callV (n := 0) (As := []) (rest := []) F hP hD hS (m_isEnd l D cy sk sv w266 tg y m2 m3 m4 m5 m6 m8 m9 m10 m11 m12 m13 m14 m17 m18 m19 m20 m21 m22 m23 m24 m29 m30 m31 m32 m33 m34 m35 m36 m37 m39 m40 m41 m42 m43 m44 m45 m46 m47 m48 m49 m51 m52 m53 m54 m56 m57 m58 m59 pc ac sc ln sh gf v0 td (nI bx268) (nI fvx269) v50 f24 ax267 k280 k287 (fun b => b = y) rfl ty tm24 (by omega) (by omega)) gX11_text_X11_isEnd rfl rfl (by decide +kernel) ⟨(Nat.le_of_ble_eq_true rfl), (Nat.le_of_ble_eq_true rfl)⟩ rfl hl.1 (Nat.le_of_ble_eq_true rfl) k280 rfl dX11_text_76 rfl ⟨(Nat.le_of_ble_eq_true rfl), (Nat.le_of_ble_eq_true rfl)⟩ (fun v293 w294 hp292 H locs hP hD hS => ?_)
                  obtain ⟨ax295, rx296, rfl, hz297, hz298, hz299, hz300, kq302, k301⟩ := hp292
                  have k303 := kq302.2 _ _ k287 (tg_ne tm24 ty (by decide))
                  have k304 := kq302.2 _ _ k288 (tg_ne tm29 ty (by decide))
                  have k305 := kq302.2 _ _ k281 (tg_ne tm30 ty (by decide))
                  have k306 := kq302.2 _ _ k282 (tg_ne tm31 ty (by decide))
                  have k307 := kq302.2 _ _ k283 (tg_ne tm32 ty (by decide))
                  have k308 := kq302.2 _ _ k284 (tg_ne tm33 ty (by decide))
                  have k309 := kq302.2 _ _ k285 (tg_ne tm34 ty (by decide))
                  have kp310 := kp289.tr kq302 (fun b9 hm q9 => (fun q9 => q9 ▸ s90) q9)
                  refine W.eq (g2 := F0 m 79 ls [.int rx296]) rfl (W.widen (k := 0) (n := 0) (Nat.le_of_ble_eq_true rfl) (Nat.le_of_ble_eq_true rfl) ?_)
                  refine lv_if_ne (tgt := 86) hx hb dX11_text_79 (by decide) (fun c_311 => ?_) (fun c_311 => ?_)
                  · refine lv_iconst (v := 0) hx hb dX11_text_86 (by decide) ?_
                    refine lv_istore_n (lv' := [(3, .int 0), (2, .int (nI (n + 1))), (0, .ref y), (1, .int (nI tw))]) hx hb dX11_text_87 rfl hl (by decide) rfl (fun ls hl => ?_)
                    refine lv_iload_n hx hb dX11_text_88 rfl (lv_at hl 0 rfl) ?_
                    refine lv_if_eq (tgt := 34) hx hb dX11_text_89 (by decide) (fun c_312 => ?_) (fun c_312 => absurd (show (0 : Int32) = (0 : Int32) by decide) c_312)
                    exact ih34 (n + 1) 0 ax295 ax295 fvx269 gx270 gx271 gx272 gx273 gx274 w294 (by omega) (by omega) (by omega) (by omega) (by omega) (by assumption) k301 k303 k304 k305 k306 k307 k308 k309 kp310 ls (lv_sub hl [2, 3, 1, 0] rfl) H locs hP hD hS
                  · have hne := hz300 c_311
                    refine lv_iconst (v := 1) hx hb dX11_text_82 (by decide) ?_
                    refine lv_goto (tgt := 87) hx hb dX11_text_83 (by decide) ?_
                    refine lv_istore_n (lv' := [(3, .int 1), (2, .int (nI (n + 1))), (0, .ref y), (1, .int (nI tw))]) hx hb dX11_text_87 rfl hl (by decide) rfl (fun ls hl => ?_)
                    refine lv_iload_n hx hb dX11_text_88 rfl (lv_at hl 0 rfl) ?_
                    refine lv_if_eq (tgt := 34) hx hb dX11_text_89 (by decide) (fun c_313 => absurd c_313 (show ¬ (1 : Int32) = (0 : Int32) by decide)) (fun c_313 => ?_)
                    refine lv_aload_n hx hb dX11_text_92 rfl (lv_at hl 2 rfl) ?_
                    refine x_get (ref := "NoteHouseModel") F hP k301 rfl (fun _ h => List.mem_cons_of_mem _ (List.mem_append_right _ (h))) 24 (Nat.le_of_ble_eq_true rfl) (List.mem_cons_of_mem _ (List.mem_append_left _ (List.mem_append_left _ (List.mem_of_getElem? (i := 2) rfl)))) rfl rfl dX11_text_93 ?_
                    refine lv_aload_n hx hb dX11_text_96 rfl (lv_at hl 2 rfl) ?_
                    refine x_get (ref := "NoteHouseModel") F hP k301 rfl (fun _ h => List.mem_cons_of_mem _ (List.mem_append_right _ (h))) 26 (Nat.le_of_ble_eq_true rfl) (List.mem_cons_of_mem _ (List.mem_append_left _ (List.mem_append_left _ (List.mem_of_getElem? (i := 0) rfl)))) rfl rfl dX11_text_97 ?_
                    refine x_bald F hP k303 (vp_in_nI (n := ax295) (N := 300) (by omega) (by decide)) dX11_text_100 ?_
                    refine lv_bipush (v := 59) hx hb dX11_text_101 (by decide) ?_
                    refine lv_icmp_eq (tgt := 115) hx hb dX11_text_103 (by decide) (fun c_314 => ?_) (fun c_314 => ?_)
                    · refine lv_aload_n hx hb dX11_text_115 rfl (lv_at hl 2 rfl) ?_
                      refine lv_dup hx hb dX11_text_116 rfl ?_
                      refine x_get (ref := "NoteHouseModel") F hP k301 rfl (fun _ h => List.mem_cons_of_mem _ (List.mem_append_right _ (h))) 26 (Nat.le_of_ble_eq_true rfl) (List.mem_cons_of_mem _ (List.mem_append_left _ (List.mem_append_left _ (List.mem_of_getElem? (i := 0) rfl)))) rfl rfl dX11_text_117 ?_
                      refine lv_iconst (v := 1) hx hb dX11_text_120 (by decide) ?_
                      refine lv_iadd hx hb dX11_text_121 ?_
                      rw [show ((nI ax295) + 1 : Int32) = nI (ax295 + 1) from nI_add ax295 1]
                      refine y_put (ref := "NoteHouseModel") F hP hD hS k301 rfl (fun _ h => List.mem_cons_of_mem _ (List.mem_append_right _ (h))) tyX11_ok nmX11 26 (Nat.le_of_ble_eq_true rfl) (List.mem_cons_of_mem _ (List.mem_append_left _ (List.mem_append_left _ (List.mem_of_getElem? (i := 0) rfl)))) rfl rfl rfl rfl (Nat.le_of_ble_eq_true rfl) dX11_text_122 (fun w315 ew316 H locs hP hD hS => ?_)
                      have k317 : wd_at w315 y (.inr (11, [.int v0, .int td, .ref m2, .ref m3, .ref m4, .ref m5, .ref m6, .int (nI pc), .ref m8, .ref m9, .ref m10, .ref m11, .ref m12, .ref m13, .ref m14, .int (nI ac), .int (nI sc), .ref m17, .ref m18, .ref m19, .ref m20, .ref m21, .ref m22, .ref m23, .ref m24, .int (nI ln), .int (nI (ax295 + 1)), .int (nI ax295), .int (nI fvx269), .ref m29, .ref m30, .ref m31, .ref m32, .ref m33, .ref m34, .ref m35, .ref m36, .ref m37, .int (nI sh), .ref m39, .ref m40, .ref m41, .ref m42, .ref m43, .ref m44, .ref m45, .ref m46, .ref m47, .ref m48, .ref m49, .int v50, .ref m51, .ref m52, .ref m53, .ref m54, .int (nI gf), .ref m56, .ref m57, .ref m58, .ref m59])) := wd_at.ps ew316 k301
                      have k318 := wd_at.pt ew316 k303 (tg_ne tm24 ty (by decide))
                      have k319 := wd_at.pt ew316 k304 (tg_ne tm29 ty (by decide))
                      have k320 := wd_at.pt ew316 k305 (tg_ne tm30 ty (by decide))
                      have k321 := wd_at.pt ew316 k306 (tg_ne tm31 ty (by decide))
                      have k322 := wd_at.pt ew316 k307 (tg_ne tm32 ty (by decide))
                      have k323 := wd_at.pt ew316 k308 (tg_ne tm33 ty (by decide))
                      have k324 := wd_at.pt ew316 k309 (tg_ne tm34 ty (by decide))
                      have kp325 := kp310.put ew316 s90
                      refine lv_goto (tgt := 34) hx hb dX11_text_125 (by decide) ?_
                      exact ih34 (n + 1) 1 (ax295 + 1) ax295 fvx269 gx270 gx271 gx272 gx273 gx274 w315 (by omega) (by omega) (by omega) (by omega) (by omega) (by assumption) k317 k318 k319 k320 k321 k322 k323 k324 kp325 ls (lv_sub hl [2, 3, 1, 0] rfl) H locs hP hD hS
                    · refine lv_aload_n hx hb dX11_text_106 rfl (lv_at hl 2 rfl) ?_
                      refine lv_iconst (v := 0) hx hb dX11_text_107 (by decide) ?_
                      refine lv_aload_n hx hb dX11_text_108 rfl (lv_at hl 2 rfl) ?_
                      refine x_get (ref := "NoteHouseModel") F hP k301 rfl (fun _ h => List.mem_cons_of_mem _ (List.mem_append_right _ (h))) 26 (Nat.le_of_ble_eq_true rfl) (List.mem_cons_of_mem _ (List.mem_append_left _ (List.mem_append_left _ (List.mem_of_getElem? (i := 0) rfl)))) rfl rfl dX11_text_109 ?_
                      refine x_callV (n := 2) (As := [.int 0, .int (nI ax295)]) (rest := []) F hP hD hS (m_fails l D cy sk sv w294 tg y m2 m3 m4 m5 m6 m8 m9 m10 m11 m12 m13 m14 m17 m18 m19 m20 m21 m22 m23 m24 m29 m30 m31 m32 m33 m34 m35 m36 m37 m39 m40 m41 m42 m43 m44 m45 m46 m47 m48 m49 m51 m52 m53 m54 m56 m57 m58 m59 pc ac sc ln sh gf v0 td (nI ax295) (nI ax295) v50 fvx269 0 ax295 k301 (fun b => b = y) rfl ty (by omega) (by omega) (by omega)) gX11_text_X11_fails rfl rfl (by decide +kernel) ⟨(Nat.le_of_ble_eq_true rfl), (Nat.le_of_ble_eq_true rfl)⟩ rfl hl.1 (Nat.le_of_ble_eq_true rfl) k301 rfl dX11_text_112 rfl ⟨(Nat.le_of_ble_eq_true rfl), (Nat.le_of_ble_eq_true rfl)⟩ (fun v327 w328 hp326 H locs hP hD hS => ?_)
                      obtain ⟨fwx329, rfl, hz330, hz331, kq333, k332⟩ := hp326
                      have k334 := kq333.2 _ _ k303 (tg_ne tm24 ty (by decide))
                      have k335 := kq333.2 _ _ k304 (tg_ne tm29 ty (by decide))
                      have k336 := kq333.2 _ _ k305 (tg_ne tm30 ty (by decide))
                      have k337 := kq333.2 _ _ k306 (tg_ne tm31 ty (by decide))
                      have k338 := kq333.2 _ _ k307 (tg_ne tm32 ty (by decide))
                      have k339 := kq333.2 _ _ k308 (tg_ne tm33 ty (by decide))
                      have k340 := kq333.2 _ _ k309 (tg_ne tm34 ty (by decide))
                      have kp341 := kp310.tr kq333 (fun b9 hm q9 => (fun q9 => q9 ▸ s90) q9)
                      refine W.eq (g2 := F0 m 115 ls []) rfl (W.widen (k := 0) (n := 0) (Nat.le_of_ble_eq_true rfl) (Nat.le_of_ble_eq_true rfl) ?_)
                      refine lv_aload_n hx hb dX11_text_115 rfl (lv_at hl 2 rfl) ?_
                      refine lv_dup hx hb dX11_text_116 rfl ?_
                      refine x_get (ref := "NoteHouseModel") F hP k332 rfl (fun _ h => List.mem_cons_of_mem _ (List.mem_append_right _ (h))) 26 (Nat.le_of_ble_eq_true rfl) (List.mem_cons_of_mem _ (List.mem_append_left _ (List.mem_append_left _ (List.mem_of_getElem? (i := 0) rfl)))) rfl rfl dX11_text_117 ?_
                      refine lv_iconst (v := 1) hx hb dX11_text_120 (by decide) ?_
                      refine lv_iadd hx hb dX11_text_121 ?_
                      rw [show ((nI ax295) + 1 : Int32) = nI (ax295 + 1) from nI_add ax295 1]
                      refine y_put (ref := "NoteHouseModel") F hP hD hS k332 rfl (fun _ h => List.mem_cons_of_mem _ (List.mem_append_right _ (h))) tyX11_ok nmX11 26 (Nat.le_of_ble_eq_true rfl) (List.mem_cons_of_mem _ (List.mem_append_left _ (List.mem_append_left _ (List.mem_of_getElem? (i := 0) rfl)))) rfl rfl rfl rfl (Nat.le_of_ble_eq_true rfl) dX11_text_122 (fun w342 ew343 H locs hP hD hS => ?_)
                      have k344 : wd_at w342 y (.inr (11, [.int v0, .int td, .ref m2, .ref m3, .ref m4, .ref m5, .ref m6, .int (nI pc), .ref m8, .ref m9, .ref m10, .ref m11, .ref m12, .ref m13, .ref m14, .int (nI ac), .int (nI sc), .ref m17, .ref m18, .ref m19, .ref m20, .ref m21, .ref m22, .ref m23, .ref m24, .int (nI ln), .int (nI (ax295 + 1)), .int (nI ax295), .int (nI fwx329), .ref m29, .ref m30, .ref m31, .ref m32, .ref m33, .ref m34, .ref m35, .ref m36, .ref m37, .int (nI sh), .ref m39, .ref m40, .ref m41, .ref m42, .ref m43, .ref m44, .ref m45, .ref m46, .ref m47, .ref m48, .ref m49, .int v50, .ref m51, .ref m52, .ref m53, .ref m54, .int (nI gf), .ref m56, .ref m57, .ref m58, .ref m59])) := wd_at.ps ew343 k332
                      have k345 := wd_at.pt ew343 k334 (tg_ne tm24 ty (by decide))
                      have k346 := wd_at.pt ew343 k335 (tg_ne tm29 ty (by decide))
                      have k347 := wd_at.pt ew343 k336 (tg_ne tm30 ty (by decide))
                      have k348 := wd_at.pt ew343 k337 (tg_ne tm31 ty (by decide))
                      have k349 := wd_at.pt ew343 k338 (tg_ne tm32 ty (by decide))
                      have k350 := wd_at.pt ew343 k339 (tg_ne tm33 ty (by decide))
                      have k351 := wd_at.pt ew343 k340 (tg_ne tm34 ty (by decide))
                      have kp352 := kp341.put ew343 s90
                      refine lv_goto (tgt := 34) hx hb dX11_text_125 (by decide) ?_
                      exact ih34 (n + 1) 1 (ax295 + 1) ax295 fwx329 gx270 gx271 gx272 gx273 gx274 w342 (by omega) (by omega) (by omega) (by omega) (by omega) (by assumption) k344 k345 k346 k347 k348 k349 k350 k351 kp352 ls (lv_sub hl [2, 3, 1, 0] rfl) H locs hP hD hS
              · have hn12 : n < 12 := nI_lt_of (a := n) (n := 12) c_263 (by omega)
                refine lv_iload_n hx hb dX11_text_55 rfl (lv_at hl 2 rfl) ?_
                refine lv_goto (tgt := 60) hx hb dX11_text_56 (by decide) ?_
                refine lv_iadd hx hb dX11_text_60 ?_
                rw [show (144 + (nI n) : Int32) = nI (144 + n) from nI_add 144 n]
                refine lv_iload_n hx hb dX11_text_61 rfl (lv_at hl 2 rfl) ?_
                refine x_callV (n := 2) (As := [.int (nI (144 + n)), .int (nI n)]) (rest := []) F hP hD hS (m_rule l D cy sk sv w47 tg y m2 m3 m4 m5 m6 m8 m9 m10 m11 m12 m13 m14 m17 m18 m19 m20 m21 m22 m23 m24 m29 m30 m31 m32 m33 m34 m35 m36 m37 m39 m40 m41 m42 m43 m44 m45 m46 m47 m48 m49 m51 m52 m53 m54 m56 m57 m58 m59 pc ac sc ln sh gf v0 td (nI b) v50 f24 h30 h31 h32 h33 h34 a fq (144 + n) n k48 k49 k51 k52 k53 k54 k55 (fun b => b = y ∨ b = m30 ∨ b = m31 ∨ b = m32 ∨ b = m33 ∨ b = m34) (Or.inl rfl) (Or.inr (Or.inl rfl)) (Or.inr (Or.inr (Or.inl rfl))) (Or.inr (Or.inr (Or.inr (Or.inl rfl)))) (Or.inr (Or.inr (Or.inr (Or.inr (Or.inl rfl))))) (Or.inr (Or.inr (Or.inr (Or.inr (Or.inr rfl))))) ty tm24 tm30 tm31 tm32 tm33 tm34 (by omega) (by omega) (by omega) (by omega) (by omega) (by assumption)) gX11_text_X11_rule rfl rfl (by decide +kernel) ⟨(Nat.le_of_ble_eq_true rfl), (Nat.le_of_ble_eq_true rfl)⟩ rfl hl.1 (Nat.le_of_ble_eq_true rfl) k48 rfl dX11_text_62 rfl ⟨(Nat.le_of_ble_eq_true rfl), (Nat.le_of_ble_eq_true rfl)⟩ (fun v354 w355 hp353 H locs hP hD hS => ?_)
                obtain ⟨ax356, bx357, fvx358, gx359, gx360, gx361, gx362, gx363, rfl, hz364, hz365, hz366, hz367, hz368, kq375, k369, k370, k371, k372, k373, k374⟩ := hp353
                have k376 := kq375.2 _ _ k49 (orN (tg_ne tm24 ty (by decide)) (orN (tg_ne tm24 tm30 (by decide)) (orN (tg_ne tm24 tm31 (by decide)) (orN (tg_ne tm24 tm32 (by decide)) (orN (tg_ne tm24 tm33 (by decide)) (tg_ne tm24 tm34 (by decide)))))))
                have k377 := kq375.2 _ _ k50 (orN (tg_ne tm29 ty (by decide)) (orN (tg_ne tm29 tm30 (by decide)) (orN (tg_ne tm29 tm31 (by decide)) (orN (tg_ne tm29 tm32 (by decide)) (orN (tg_ne tm29 tm33 (by decide)) (tg_ne tm29 tm34 (by decide)))))))
                have kp378 := kp56.tr kq375 (fun b9 hm q9 => (fun q9 => Or.elim q9 (fun q9 => q9 ▸ s90) (fun q9 => Or.elim q9 (fun q9 => q9 ▸ s92) (fun q9 => Or.elim q9 (fun q9 => q9 ▸ s93) (fun q9 => Or.elim q9 (fun q9 => q9 ▸ s94) (fun q9 => Or.elim q9 (fun q9 => q9 ▸ s95) (fun q9 => q9 ▸ s96)))))) q9)
                refine W.eq (g2 := F0 m 65 ls []) rfl (W.widen (k := 0) (n := 0) (Nat.le_of_ble_eq_true rfl) (Nat.le_of_ble_eq_true rfl) ?_)
                refine lv_iinc (v := nI (n + 1)) (lv' := [(2, .int (nI (n + 1))), (0, .ref y), (1, .int (nI tw)), (3, .int on)]) hx hb dX11_text_65 hl (k := 2) rfl (nI_1 n) (by decide) rfl (fun ls hl => ?_)
                refine lv_aload_n hx hb dX11_text_68 rfl (lv_at hl 1 rfl) ?_
                refine x_get (ref := "NoteHouseModel") F hP k369 rfl (fun _ h => List.mem_cons_of_mem _ (List.mem_append_right _ (h))) 28 (Nat.le_of_ble_eq_true rfl) (List.mem_cons_of_mem _ (List.mem_append_left _ (List.mem_append_left _ (List.mem_of_getElem? (i := 1) rfl)))) rfl rfl dX11_text_69 ?_
                refine lv_if_ne (tgt := 86) hx hb dX11_text_72 (by decide) (fun c_379 => ?_) (fun c_379 => ?_)
                · have hfp : 0 < fvx358 := nI_nz (by omega) c_379
                  refine lv_iconst (v := 0) hx hb dX11_text_86 (by decide) ?_
                  refine lv_istore_n (lv' := [(3, .int 0), (2, .int (nI (n + 1))), (0, .ref y), (1, .int (nI tw))]) hx hb dX11_text_87 rfl hl (by decide) rfl (fun ls hl => ?_)
                  refine lv_iload_n hx hb dX11_text_88 rfl (lv_at hl 0 rfl) ?_
                  refine lv_if_eq (tgt := 34) hx hb dX11_text_89 (by decide) (fun c_380 => ?_) (fun c_380 => absurd (show (0 : Int32) = (0 : Int32) by decide) c_380)
                  exact ih34 (n + 1) 0 ax356 bx357 fvx358 gx359 gx360 gx361 gx362 gx363 w355 (by omega) (by omega) (by omega) (by omega) (by omega) (by assumption) k369 k376 k377 k370 k371 k372 k373 k374 kp378 ls (lv_sub hl [2, 3, 1, 0] rfl) H locs hP hD hS
                · have hf0 : fvx358 = 0 := nI_z0 (by omega) c_379
                  refine lv_aload_n hx hb dX11_text_75 rfl (lv_at hl 1 rfl) ?_
                  refine x_callV (n := 0) (As := []) (rest := []) F hP hD hS (m_isEnd l D cy sk sv w355 tg y m2 m3 m4 m5 m6 m8 m9 m10 m11 m12 m13 m14 m17 m18 m19 m20 m21 m22 m23 m24 m29 m30 m31 m32 m33 m34 m35 m36 m37 m39 m40 m41 m42 m43 m44 m45 m46 m47 m48 m49 m51 m52 m53 m54 m56 m57 m58 m59 pc ac sc ln sh gf v0 td (nI bx357) (nI fvx358) v50 f24 ax356 k369 k376 (fun b => b = y) rfl ty tm24 (by omega) (by omega)) gX11_text_X11_isEnd rfl rfl (by decide +kernel) ⟨(Nat.le_of_ble_eq_true rfl), (Nat.le_of_ble_eq_true rfl)⟩ rfl hl.1 (Nat.le_of_ble_eq_true rfl) k369 rfl dX11_text_76 rfl ⟨(Nat.le_of_ble_eq_true rfl), (Nat.le_of_ble_eq_true rfl)⟩ (fun v382 w383 hp381 H locs hP hD hS => ?_)
                  obtain ⟨ax384, rx385, rfl, hz386, hz387, hz388, hz389, kq391, k390⟩ := hp381
                  have k392 := kq391.2 _ _ k376 (tg_ne tm24 ty (by decide))
                  have k393 := kq391.2 _ _ k377 (tg_ne tm29 ty (by decide))
                  have k394 := kq391.2 _ _ k370 (tg_ne tm30 ty (by decide))
                  have k395 := kq391.2 _ _ k371 (tg_ne tm31 ty (by decide))
                  have k396 := kq391.2 _ _ k372 (tg_ne tm32 ty (by decide))
                  have k397 := kq391.2 _ _ k373 (tg_ne tm33 ty (by decide))
                  have k398 := kq391.2 _ _ k374 (tg_ne tm34 ty (by decide))
                  have kp399 := kp378.tr kq391 (fun b9 hm q9 => (fun q9 => q9 ▸ s90) q9)
                  refine W.eq (g2 := F0 m 79 ls [.int rx385]) rfl (W.widen (k := 0) (n := 0) (Nat.le_of_ble_eq_true rfl) (Nat.le_of_ble_eq_true rfl) ?_)
                  refine lv_if_ne (tgt := 86) hx hb dX11_text_79 (by decide) (fun c_400 => ?_) (fun c_400 => ?_)
                  · refine lv_iconst (v := 0) hx hb dX11_text_86 (by decide) ?_
                    refine lv_istore_n (lv' := [(3, .int 0), (2, .int (nI (n + 1))), (0, .ref y), (1, .int (nI tw))]) hx hb dX11_text_87 rfl hl (by decide) rfl (fun ls hl => ?_)
                    refine lv_iload_n hx hb dX11_text_88 rfl (lv_at hl 0 rfl) ?_
                    refine lv_if_eq (tgt := 34) hx hb dX11_text_89 (by decide) (fun c_401 => ?_) (fun c_401 => absurd (show (0 : Int32) = (0 : Int32) by decide) c_401)
                    exact ih34 (n + 1) 0 ax384 ax384 fvx358 gx359 gx360 gx361 gx362 gx363 w383 (by omega) (by omega) (by omega) (by omega) (by omega) (by assumption) k390 k392 k393 k394 k395 k396 k397 k398 kp399 ls (lv_sub hl [2, 3, 1, 0] rfl) H locs hP hD hS
                  · have hne := hz389 c_400
                    refine lv_iconst (v := 1) hx hb dX11_text_82 (by decide) ?_
                    refine lv_goto (tgt := 87) hx hb dX11_text_83 (by decide) ?_
                    refine lv_istore_n (lv' := [(3, .int 1), (2, .int (nI (n + 1))), (0, .ref y), (1, .int (nI tw))]) hx hb dX11_text_87 rfl hl (by decide) rfl (fun ls hl => ?_)
                    refine lv_iload_n hx hb dX11_text_88 rfl (lv_at hl 0 rfl) ?_
                    refine lv_if_eq (tgt := 34) hx hb dX11_text_89 (by decide) (fun c_402 => absurd c_402 (show ¬ (1 : Int32) = (0 : Int32) by decide)) (fun c_402 => ?_)
                    refine lv_aload_n hx hb dX11_text_92 rfl (lv_at hl 2 rfl) ?_
                    refine x_get (ref := "NoteHouseModel") F hP k390 rfl (fun _ h => List.mem_cons_of_mem _ (List.mem_append_right _ (h))) 24 (Nat.le_of_ble_eq_true rfl) (List.mem_cons_of_mem _ (List.mem_append_left _ (List.mem_append_left _ (List.mem_of_getElem? (i := 2) rfl)))) rfl rfl dX11_text_93 ?_
                    refine lv_aload_n hx hb dX11_text_96 rfl (lv_at hl 2 rfl) ?_
                    refine x_get (ref := "NoteHouseModel") F hP k390 rfl (fun _ h => List.mem_cons_of_mem _ (List.mem_append_right _ (h))) 26 (Nat.le_of_ble_eq_true rfl) (List.mem_cons_of_mem _ (List.mem_append_left _ (List.mem_append_left _ (List.mem_of_getElem? (i := 0) rfl)))) rfl rfl dX11_text_97 ?_
                    refine x_bald F hP k392 (vp_in_nI (n := ax384) (N := 300) (by omega) (by decide)) dX11_text_100 ?_
                    refine lv_bipush (v := 59) hx hb dX11_text_101 (by decide) ?_
                    refine lv_icmp_eq (tgt := 115) hx hb dX11_text_103 (by decide) (fun c_403 => ?_) (fun c_403 => ?_)
                    · refine lv_aload_n hx hb dX11_text_115 rfl (lv_at hl 2 rfl) ?_
                      refine lv_dup hx hb dX11_text_116 rfl ?_
                      refine x_get (ref := "NoteHouseModel") F hP k390 rfl (fun _ h => List.mem_cons_of_mem _ (List.mem_append_right _ (h))) 26 (Nat.le_of_ble_eq_true rfl) (List.mem_cons_of_mem _ (List.mem_append_left _ (List.mem_append_left _ (List.mem_of_getElem? (i := 0) rfl)))) rfl rfl dX11_text_117 ?_
                      refine lv_iconst (v := 1) hx hb dX11_text_120 (by decide) ?_
                      refine lv_iadd hx hb dX11_text_121 ?_
                      rw [show ((nI ax384) + 1 : Int32) = nI (ax384 + 1) from nI_add ax384 1]
                      refine y_put (ref := "NoteHouseModel") F hP hD hS k390 rfl (fun _ h => List.mem_cons_of_mem _ (List.mem_append_right _ (h))) tyX11_ok nmX11 26 (Nat.le_of_ble_eq_true rfl) (List.mem_cons_of_mem _ (List.mem_append_left _ (List.mem_append_left _ (List.mem_of_getElem? (i := 0) rfl)))) rfl rfl rfl rfl (Nat.le_of_ble_eq_true rfl) dX11_text_122 (fun w404 ew405 H locs hP hD hS => ?_)
                      have k406 : wd_at w404 y (.inr (11, [.int v0, .int td, .ref m2, .ref m3, .ref m4, .ref m5, .ref m6, .int (nI pc), .ref m8, .ref m9, .ref m10, .ref m11, .ref m12, .ref m13, .ref m14, .int (nI ac), .int (nI sc), .ref m17, .ref m18, .ref m19, .ref m20, .ref m21, .ref m22, .ref m23, .ref m24, .int (nI ln), .int (nI (ax384 + 1)), .int (nI ax384), .int (nI fvx358), .ref m29, .ref m30, .ref m31, .ref m32, .ref m33, .ref m34, .ref m35, .ref m36, .ref m37, .int (nI sh), .ref m39, .ref m40, .ref m41, .ref m42, .ref m43, .ref m44, .ref m45, .ref m46, .ref m47, .ref m48, .ref m49, .int v50, .ref m51, .ref m52, .ref m53, .ref m54, .int (nI gf), .ref m56, .ref m57, .ref m58, .ref m59])) := wd_at.ps ew405 k390
                      have k407 := wd_at.pt ew405 k392 (tg_ne tm24 ty (by decide))
                      have k408 := wd_at.pt ew405 k393 (tg_ne tm29 ty (by decide))
                      have k409 := wd_at.pt ew405 k394 (tg_ne tm30 ty (by decide))
                      have k410 := wd_at.pt ew405 k395 (tg_ne tm31 ty (by decide))
                      have k411 := wd_at.pt ew405 k396 (tg_ne tm32 ty (by decide))
                      have k412 := wd_at.pt ew405 k397 (tg_ne tm33 ty (by decide))
                      have k413 := wd_at.pt ew405 k398 (tg_ne tm34 ty (by decide))
                      have kp414 := kp399.put ew405 s90
                      refine lv_goto (tgt := 34) hx hb dX11_text_125 (by decide) ?_
                      exact ih34 (n + 1) 1 (ax384 + 1) ax384 fvx358 gx359 gx360 gx361 gx362 gx363 w404 (by omega) (by omega) (by omega) (by omega) (by omega) (by assumption) k406 k407 k408 k409 k410 k411 k412 k413 kp414 ls (lv_sub hl [2, 3, 1, 0] rfl) H locs hP hD hS
                    · refine lv_aload_n hx hb dX11_text_106 rfl (lv_at hl 2 rfl) ?_
                      refine lv_iconst (v := 0) hx hb dX11_text_107 (by decide) ?_
                      refine lv_aload_n hx hb dX11_text_108 rfl (lv_at hl 2 rfl) ?_
                      refine x_get (ref := "NoteHouseModel") F hP k390 rfl (fun _ h => List.mem_cons_of_mem _ (List.mem_append_right _ (h))) 26 (Nat.le_of_ble_eq_true rfl) (List.mem_cons_of_mem _ (List.mem_append_left _ (List.mem_append_left _ (List.mem_of_getElem? (i := 0) rfl)))) rfl rfl dX11_text_109 ?_
                      refine x_callV (n := 2) (As := [.int 0, .int (nI ax384)]) (rest := []) F hP hD hS (m_fails l D cy sk sv w383 tg y m2 m3 m4 m5 m6 m8 m9 m10 m11 m12 m13 m14 m17 m18 m19 m20 m21 m22 m23 m24 m29 m30 m31 m32 m33 m34 m35 m36 m37 m39 m40 m41 m42 m43 m44 m45 m46 m47 m48 m49 m51 m52 m53 m54 m56 m57 m58 m59 pc ac sc ln sh gf v0 td (nI ax384) (nI ax384) v50 fvx358 0 ax384 k390 (fun b => b = y) rfl ty (by omega) (by omega) (by omega)) gX11_text_X11_fails rfl rfl (by decide +kernel) ⟨(Nat.le_of_ble_eq_true rfl), (Nat.le_of_ble_eq_true rfl)⟩ rfl hl.1 (Nat.le_of_ble_eq_true rfl) k390 rfl dX11_text_112 rfl ⟨(Nat.le_of_ble_eq_true rfl), (Nat.le_of_ble_eq_true rfl)⟩ (fun v416 w417 hp415 H locs hP hD hS => ?_)
                      obtain ⟨fwx418, rfl, hz419, hz420, kq422, k421⟩ := hp415
                      have k423 := kq422.2 _ _ k392 (tg_ne tm24 ty (by decide))
                      have k424 := kq422.2 _ _ k393 (tg_ne tm29 ty (by decide))
                      have k425 := kq422.2 _ _ k394 (tg_ne tm30 ty (by decide))
                      have k426 := kq422.2 _ _ k395 (tg_ne tm31 ty (by decide))
                      have k427 := kq422.2 _ _ k396 (tg_ne tm32 ty (by decide))
                      have k428 := kq422.2 _ _ k397 (tg_ne tm33 ty (by decide))
                      have k429 := kq422.2 _ _ k398 (tg_ne tm34 ty (by decide))
                      have kp430 := kp399.tr kq422 (fun b9 hm q9 => (fun q9 => q9 ▸ s90) q9)
                      refine W.eq (g2 := F0 m 115 ls []) rfl (W.widen (k := 0) (n := 0) (Nat.le_of_ble_eq_true rfl) (Nat.le_of_ble_eq_true rfl) ?_)
                      refine lv_aload_n hx hb dX11_text_115 rfl (lv_at hl 2 rfl) ?_
                      refine lv_dup hx hb dX11_text_116 rfl ?_
                      refine x_get (ref := "NoteHouseModel") F hP k421 rfl (fun _ h => List.mem_cons_of_mem _ (List.mem_append_right _ (h))) 26 (Nat.le_of_ble_eq_true rfl) (List.mem_cons_of_mem _ (List.mem_append_left _ (List.mem_append_left _ (List.mem_of_getElem? (i := 0) rfl)))) rfl rfl dX11_text_117 ?_
                      refine lv_iconst (v := 1) hx hb dX11_text_120 (by decide) ?_
                      refine lv_iadd hx hb dX11_text_121 ?_
                      rw [show ((nI ax384) + 1 : Int32) = nI (ax384 + 1) from nI_add ax384 1]
                      refine y_put (ref := "NoteHouseModel") F hP hD hS k421 rfl (fun _ h => List.mem_cons_of_mem _ (List.mem_append_right _ (h))) tyX11_ok nmX11 26 (Nat.le_of_ble_eq_true rfl) (List.mem_cons_of_mem _ (List.mem_append_left _ (List.mem_append_left _ (List.mem_of_getElem? (i := 0) rfl)))) rfl rfl rfl rfl (Nat.le_of_ble_eq_true rfl) dX11_text_122 (fun w431 ew432 H locs hP hD hS => ?_)
                      have k433 : wd_at w431 y (.inr (11, [.int v0, .int td, .ref m2, .ref m3, .ref m4, .ref m5, .ref m6, .int (nI pc), .ref m8, .ref m9, .ref m10, .ref m11, .ref m12, .ref m13, .ref m14, .int (nI ac), .int (nI sc), .ref m17, .ref m18, .ref m19, .ref m20, .ref m21, .ref m22, .ref m23, .ref m24, .int (nI ln), .int (nI (ax384 + 1)), .int (nI ax384), .int (nI fwx418), .ref m29, .ref m30, .ref m31, .ref m32, .ref m33, .ref m34, .ref m35, .ref m36, .ref m37, .int (nI sh), .ref m39, .ref m40, .ref m41, .ref m42, .ref m43, .ref m44, .ref m45, .ref m46, .ref m47, .ref m48, .ref m49, .int v50, .ref m51, .ref m52, .ref m53, .ref m54, .int (nI gf), .ref m56, .ref m57, .ref m58, .ref m59])) := wd_at.ps ew432 k421
                      have k434 := wd_at.pt ew432 k423 (tg_ne tm24 ty (by decide))
                      have k435 := wd_at.pt ew432 k424 (tg_ne tm29 ty (by decide))
                      have k436 := wd_at.pt ew432 k425 (tg_ne tm30 ty (by decide))
                      have k437 := wd_at.pt ew432 k426 (tg_ne tm31 ty (by decide))
                      have k438 := wd_at.pt ew432 k427 (tg_ne tm32 ty (by decide))
                      have k439 := wd_at.pt ew432 k428 (tg_ne tm33 ty (by decide))
                      have k440 := wd_at.pt ew432 k429 (tg_ne tm34 ty (by decide))
                      have kp441 := kp430.put ew432 s90
                      refine lv_goto (tgt := 34) hx hb dX11_text_125 (by decide) ?_
                      exact ih34 (n + 1) 1 (ax384 + 1) ax384 fwx418 gx359 gx360 gx361 gx362 gx363 w431 (by omega) (by omega) (by omega) (by omega) (by omega) (by assumption) k433 k434 k435 k436 k437 k438 k439 k440 kp441 ls (lv_sub hl [2, 3, 1, 0] rfl) H locs hP hD hS
      exact lp34 _ 0 0 ax30 ax30 0 f30 f31 f32 f33 f34 w29 (Nat.zero_add 14) (by omega) (by omega) (by omega) (by omega) hc k36 k38 k39 k40 k41 k42 k43 k44 kp45 ls (lv_sub hl [2, 3, 1, 0] rfl) H locs hP hD hS
    · refine lv_iconst (v := 1) hx hb dX11_text_28 (by decide) ?_
      refine lv_goto (tgt := 33) hx hb dX11_text_29 (by decide) ?_
      refine lv_istore_n (lv' := [(3, .int 1), (2, .int 0), (0, .ref y), (1, .int (nI tw))]) hx hb dX11_text_33 rfl hl (by decide) rfl (fun ls hl => ?_)
      have lp34 : ∀ (N : Nat) (n : Nat) (on : Int32) (a : Nat) (b : Nat) (fq : Nat) (h30 : Nat → Int32) (h31 : Nat → Int32) (h32 : Nat → Int32) (h33 : Nat → Int32) (h34 : Nat → Int32) (w442 : Wd), (n + N = 14) → (n ≤ 13) → (fq = 0 → n ≤ 12) → (a ≤ ln) → (fq < 2000) → (cOK h31) → (wd_at w442 y (.inr (11, [.int v0, .int td, .ref m2, .ref m3, .ref m4, .ref m5, .ref m6, .int (nI pc), .ref m8, .ref m9, .ref m10, .ref m11, .ref m12, .ref m13, .ref m14, .int (nI ac), .int (nI sc), .ref m17, .ref m18, .ref m19, .ref m20, .ref m21, .ref m22, .ref m23, .ref m24, .int (nI ln), .int (nI a), .int (nI b), .int (nI fq), .ref m29, .ref m30, .ref m31, .ref m32, .ref m33, .ref m34, .ref m35, .ref m36, .ref m37, .int (nI sh), .ref m39, .ref m40, .ref m41, .ref m42, .ref m43, .ref m44, .ref m45, .ref m46, .ref m47, .ref m48, .ref m49, .int v50, .ref m51, .ref m52, .ref m53, .ref m54, .int (nI gf), .ref m56, .ref m57, .ref m58, .ref m59]))) → (wd_at w442 m24 (.inl (cy 0, 300, .inl f24))) → (wd_at w442 m29 (.inl (cy 2, 12, .inl f29))) → (wd_at w442 m30 (.inl (cy 2, 156, .inl h30))) → (wd_at w442 m31 (.inl (cy 2, 156, .inl h31))) → (wd_at w442 m32 (.inl (cy 2, 936, .inl h32))) → (wd_at w442 m33 (.inl (cy 2, 936, .inl h33))) → (wd_at w442 m34 (.inl (cy 2, 936, .inl h34))) → (wd_kp S w w442) → ∀ (ls : Array Slot), lv_has ls 6 [(0, .ref y), (1, .int (nI tw)), (2, .int (nI n)), (3, .int on)] → Wv p l e ({ frames := 7, cells := 0, slots := 0, locals := 155 }) s m args below meth c D A (0) (0) Q w442 (F0 m 34 ls []) := by
        intro N
        induction N with
        | zero =>
          intro n on a b fq h30 h31 h32 h33 h34 w442 hN34 hn14 hn13 ha2 hfq hc2 k443 k444 k445 k446 k447 k448 k449 k450 kp451 ls hl H locs hP hD hS
          exact absurd hN34 (by omega)
        | succ N ih34 =>
          intro n on a b fq h30 h31 h32 h33 h34 w442 hN34 hn14 hn13 ha2 hfq hc2 k443 k444 k445 k446 k447 k448 k449 k450 kp451 ls hl H locs hP hD hS
          refine lv_iload_n hx hb dX11_text_34 rfl (lv_at hl 3 rfl) ?_
          refine lv_if_eq (tgt := 128) hx hb dX11_text_35 (by decide) (fun c_452 => ?_) (fun c_452 => ?_)
          · refine lv_aload_n hx hb dX11_text_128 rfl (lv_at hl 0 rfl) ?_
            refine lv_iconst (v := 0) hx hb dX11_text_129 (by decide) ?_
            refine y_put (ref := "NoteHouseModel") F hP hD hS k443 rfl (fun _ h => List.mem_cons_of_mem _ (List.mem_append_right _ (h))) tyX11_ok nmX11 25 (Nat.le_of_ble_eq_true rfl) (List.mem_cons_of_mem _ (List.mem_append_left _ (List.mem_append_left _ (List.mem_of_getElem? (i := 3) rfl)))) rfl rfl rfl rfl (Nat.le_of_ble_eq_true rfl) dX11_text_130 (fun w453 ew454 H locs hP hD hS => ?_)
            have k455 : wd_at w453 y (.inr (11, [.int v0, .int td, .ref m2, .ref m3, .ref m4, .ref m5, .ref m6, .int (nI pc), .ref m8, .ref m9, .ref m10, .ref m11, .ref m12, .ref m13, .ref m14, .int (nI ac), .int (nI sc), .ref m17, .ref m18, .ref m19, .ref m20, .ref m21, .ref m22, .ref m23, .ref m24, .int 0, .int (nI a), .int (nI b), .int (nI fq), .ref m29, .ref m30, .ref m31, .ref m32, .ref m33, .ref m34, .ref m35, .ref m36, .ref m37, .int (nI sh), .ref m39, .ref m40, .ref m41, .ref m42, .ref m43, .ref m44, .ref m45, .ref m46, .ref m47, .ref m48, .ref m49, .int v50, .ref m51, .ref m52, .ref m53, .ref m54, .int (nI gf), .ref m56, .ref m57, .ref m58, .ref m59])) := wd_at.ps ew454 k443
            have k456 := wd_at.pt ew454 k444 (tg_ne tm24 ty (by decide))
            have k457 := wd_at.pt ew454 k445 (tg_ne tm29 ty (by decide))
            have k458 := wd_at.pt ew454 k446 (tg_ne tm30 ty (by decide))
            have k459 := wd_at.pt ew454 k447 (tg_ne tm31 ty (by decide))
            have k460 := wd_at.pt ew454 k448 (tg_ne tm32 ty (by decide))
            have k461 := wd_at.pt ew454 k449 (tg_ne tm33 ty (by decide))
            have k462 := wd_at.pt ew454 k450 (tg_ne tm34 ty (by decide))
            have kp463 := kp451.put ew454 s90
            refine lv_aload_n hx hb dX11_text_133 rfl (lv_at hl 0 rfl) ?_
            refine x_get (ref := "NoteHouseModel") F hP k455 rfl (fun _ h => List.mem_cons_of_mem _ (List.mem_append_right _ (h))) 28 (Nat.le_of_ble_eq_true rfl) (List.mem_cons_of_mem _ (List.mem_append_left _ (List.mem_append_left _ (List.mem_of_getElem? (i := 1) rfl)))) rfl rfl dX11_text_134 ?_
            refine lv_if_le (tgt := 148) hx hb dX11_text_137 (by decide) (fun c_464 => ?_) (fun c_464 => ?_)
            · have hf0 : fq = 0 := nI_z (by omega) c_464
              refine lv_aload_n hx hb dX11_text_148 rfl (lv_at hl 0 rfl) ?_
              refine x_get (ref := "NoteHouseModel") F hP k455 rfl (fun _ h => List.mem_cons_of_mem _ (List.mem_append_right _ (h))) 29 (Nat.le_of_ble_eq_true rfl) (List.mem_cons_of_mem _ (List.mem_append_left _ (List.mem_append_left _ (List.mem_of_getElem? (i := 4) rfl)))) rfl rfl dX11_text_149 ?_
              refine lv_iload_n hx hb dX11_text_152 rfl (lv_at hl 1 rfl) ?_
              refine lv_iload_n hx hb dX11_text_153 rfl (lv_at hl 2 rfl) ?_
              refine y_iast F hP hD hS k457 (vp_in_nI (n := tw) (N := 12) (by omega) (by decide)) dX11_text_154 (fun w465 ew466 H locs hP hD hS => ?_)
              have k467 := wd_at.pt ew466 k455 (tg_ne ty tm29 (by decide))
              have k468 := wd_at.pt ew466 k456 (tg_ne tm24 tm29 (by decide))
              have k469 : wd_at w465 m29 (.inl (cy 2, 12, .inl (upd f29 (nI tw).toNatClampNeg (nI n)))) := wd_at.ps ew466 k457
              have k470 := wd_at.pt ew466 k458 (tg_ne tm30 tm29 (by decide))
              have k471 := wd_at.pt ew466 k459 (tg_ne tm31 tm29 (by decide))
              have k472 := wd_at.pt ew466 k460 (tg_ne tm32 tm29 (by decide))
              have k473 := wd_at.pt ew466 k461 (tg_ne tm33 tm29 (by decide))
              have k474 := wd_at.pt ew466 k462 (tg_ne tm34 tm29 (by decide))
              have kp475 := kp463.put ew466 s91
              refine lv_iconst (v := 0) hx hb dX11_text_155 (by decide) ?_
              refine lv_istore (lv' := [(4, .int 0), (0, .ref y), (1, .int (nI tw)), (2, .int (nI n)), (3, .int on)]) hx hb dX11_text_156 hl (by decide) rfl (fun ls hl => ?_)
              have lp158 : ∀ (N : Nat) (r : Nat) (p30 : Nat → Int32) (p31 : Nat → Int32) (p32 : Nat → Int32) (p33 : Nat → Int32) (p34 : Nat → Int32) (w476 : Wd), (r + N = n) → (cOK p31) → (wd_at w476 y (.inr (11, [.int v0, .int td, .ref m2, .ref m3, .ref m4, .ref m5, .ref m6, .int (nI pc), .ref m8, .ref m9, .ref m10, .ref m11, .ref m12, .ref m13, .ref m14, .int (nI ac), .int (nI sc), .ref m17, .ref m18, .ref m19, .ref m20, .ref m21, .ref m22, .ref m23, .ref m24, .int 0, .int (nI a), .int (nI b), .int (nI fq), .ref m29, .ref m30, .ref m31, .ref m32, .ref m33, .ref m34, .ref m35, .ref m36, .ref m37, .int (nI sh), .ref m39, .ref m40, .ref m41, .ref m42, .ref m43, .ref m44, .ref m45, .ref m46, .ref m47, .ref m48, .ref m49, .int v50, .ref m51, .ref m52, .ref m53, .ref m54, .int (nI gf), .ref m56, .ref m57, .ref m58, .ref m59]))) → (wd_at w476 m24 (.inl (cy 0, 300, .inl f24))) → (wd_at w476 m29 (.inl (cy 2, 12, .inl (upd f29 (nI tw).toNatClampNeg (nI n))))) → (wd_at w476 m30 (.inl (cy 2, 156, .inl p30))) → (wd_at w476 m31 (.inl (cy 2, 156, .inl p31))) → (wd_at w476 m32 (.inl (cy 2, 936, .inl p32))) → (wd_at w476 m33 (.inl (cy 2, 936, .inl p33))) → (wd_at w476 m34 (.inl (cy 2, 936, .inl p34))) → (wd_kp S w w476) → ∀ (ls : Array Slot), lv_has ls 6 [(0, .ref y), (1, .int (nI tw)), (2, .int (nI n)), (4, .int (nI r))] → Wv p l e ({ frames := 7, cells := 0, slots := 0, locals := 155 }) s m args below meth c D A (0) (0) Q w476 (F0 m 158 ls []) := by
                intro N
                induction N with
                | zero =>
                  intro r p30 p31 p32 p33 p34 w476 hN158 hc3 k477 k478 k479 k480 k481 k482 k483 k484 kp485 ls hl H locs hP hD hS
                  refine lv_iload hx hb dX11_text_158 (lv_at hl 3 rfl) ?_
                  refine lv_iload_n hx hb dX11_text_160 rfl (lv_at hl 2 rfl) ?_
                  refine lv_icmp_ge (tgt := 337) hx hb dX11_text_161 (by decide) (fun c_486 => ?_) (fun c_486 => absurd (nI_le (a := n) (b := r) (by omega) (by omega)) c_486)
                  refine lv_iload_n hx hb dX11_text_337 rfl (lv_at hl 2 rfl) ?_
                  exact y_ir K hP hD hS (Nat.le_of_ble_eq_true rfl) (Nat.le_of_ble_eq_true rfl) (ty := .int) rfl rfl dX11_text_338 (⟨0, nI a, nI b, nI fq, upd f29 (nI tw).toNatClampNeg (nI n), p30, p31, p32, p33, p34, nI n, rfl, by simp [txtC, c_4], hrl.c (by omega) (by omega), by assumption, kp485, k477, k479, k480, k481, k482, k483, k484⟩)
                | succ N ih158 =>
                  intro r p30 p31 p32 p33 p34 w476 hN158 hc3 k477 k478 k479 k480 k481 k482 k483 k484 kp485 ls hl H locs hP hD hS
                  refine lv_iload hx hb dX11_text_158 (lv_at hl 3 rfl) ?_
                  refine lv_iload_n hx hb dX11_text_160 rfl (lv_at hl 2 rfl) ?_
                  refine lv_icmp_ge (tgt := 337) hx hb dX11_text_161 (by decide) (fun c_487 => absurd c_487 (nI_ge (a := r) (b := n) (by omega) (by omega))) (fun c_487 => ?_)
                  refine lv_aload_n hx hb dX11_text_164 rfl (lv_at hl 0 rfl) ?_
                  refine x_get (ref := "NoteHouseModel") F hP k477 rfl (fun _ h => List.mem_cons_of_mem _ (List.mem_append_right _ (h))) 30 (Nat.le_of_ble_eq_true rfl) (List.mem_cons_of_mem _ (List.mem_append_left _ (List.mem_append_left _ (List.mem_of_getElem? (i := 5) rfl)))) rfl rfl dX11_text_165 ?_
                  refine lv_bipush (v := 12) hx hb dX11_text_168 (by decide) ?_
                  refine lv_iload_n hx hb dX11_text_170 rfl (lv_at hl 1 rfl) ?_
                  refine lv_imul hx hb dX11_text_171 ?_
                  rw [show (12 * (nI tw) : Int32) = nI (12 * tw) from pk_mul 12 tw]
                  refine lv_iload hx hb dX11_text_172 (lv_at hl 3 rfl) ?_
                  refine lv_iadd hx hb dX11_text_174 ?_
                  rw [show ((nI (12 * tw)) + (nI r) : Int32) = nI ((12 * tw) + r) from nI_add (12 * tw) r]
                  refine lv_aload_n hx hb dX11_text_175 rfl (lv_at hl 0 rfl) ?_
                  refine x_get (ref := "NoteHouseModel") F hP k477 rfl (fun _ h => List.mem_cons_of_mem _ (List.mem_append_right _ (h))) 30 (Nat.le_of_ble_eq_true rfl) (List.mem_cons_of_mem _ (List.mem_append_left _ (List.mem_append_left _ (List.mem_of_getElem? (i := 5) rfl)))) rfl rfl dX11_text_176 ?_
                  refine lv_sipush (v := 144) hx hb dX11_text_179 (by decide) ?_
                  refine lv_iload hx hb dX11_text_182 (lv_at hl 3 rfl) ?_
                  refine lv_iadd hx hb dX11_text_184 ?_
                  rw [show (144 + (nI r) : Int32) = nI (144 + r) from nI_add 144 r]
                  refine x_iald F hP k480 (vp_in_nI (n := (144 + r)) (N := 156) (by omega) (by decide)) dX11_text_185 ?_
                  refine y_iast F hP hD hS k480 (vp_in_nI (n := ((12 * tw) + r)) (N := 156) (by omega) (by decide)) dX11_text_186 (fun w488 ew489 H locs hP hD hS => ?_)
                  have k490 := wd_at.pt ew489 k477 (tg_ne ty tm30 (by decide))
                  have k491 := wd_at.pt ew489 k478 (tg_ne tm24 tm30 (by decide))
                  have k492 := wd_at.pt ew489 k479 (tg_ne tm29 tm30 (by decide))
                  have k493 : wd_at w488 m30 (.inl (cy 2, 156, .inl (upd p30 (nI ((12 * tw) + r)).toNatClampNeg (p30 (nI (144 + r)).toNatClampNeg)))) := wd_at.ps ew489 k480
                  have k494 := wd_at.pt ew489 k481 (tg_ne tm31 tm30 (by decide))
                  have k495 := wd_at.pt ew489 k482 (tg_ne tm32 tm30 (by decide))
                  have k496 := wd_at.pt ew489 k483 (tg_ne tm33 tm30 (by decide))
                  have k497 := wd_at.pt ew489 k484 (tg_ne tm34 tm30 (by decide))
                  have kp498 := kp485.put ew489 s92
                  refine lv_aload_n hx hb dX11_text_187 rfl (lv_at hl 0 rfl) ?_
                  refine x_get (ref := "NoteHouseModel") F hP k490 rfl (fun _ h => List.mem_cons_of_mem _ (List.mem_append_right _ (h))) 31 (Nat.le_of_ble_eq_true rfl) (List.mem_cons_of_mem _ (List.mem_append_left _ (List.mem_append_left _ (List.mem_of_getElem? (i := 6) rfl)))) rfl rfl dX11_text_188 ?_
                  refine lv_bipush (v := 12) hx hb dX11_text_191 (by decide) ?_
                  refine lv_iload_n hx hb dX11_text_193 rfl (lv_at hl 1 rfl) ?_
                  refine lv_imul hx hb dX11_text_194 ?_
                  rw [show (12 * (nI tw) : Int32) = nI (12 * tw) from pk_mul 12 tw]
                  refine lv_iload hx hb dX11_text_195 (lv_at hl 3 rfl) ?_
                  refine lv_iadd hx hb dX11_text_197 ?_
                  rw [show ((nI (12 * tw)) + (nI r) : Int32) = nI ((12 * tw) + r) from nI_add (12 * tw) r]
                  refine lv_aload_n hx hb dX11_text_198 rfl (lv_at hl 0 rfl) ?_
                  refine x_get (ref := "NoteHouseModel") F hP k490 rfl (fun _ h => List.mem_cons_of_mem _ (List.mem_append_right _ (h))) 31 (Nat.le_of_ble_eq_true rfl) (List.mem_cons_of_mem _ (List.mem_append_left _ (List.mem_append_left _ (List.mem_of_getElem? (i := 6) rfl)))) rfl rfl dX11_text_199 ?_
                  refine lv_sipush (v := 144) hx hb dX11_text_202 (by decide) ?_
                  refine lv_iload hx hb dX11_text_205 (lv_at hl 3 rfl) ?_
                  refine lv_iadd hx hb dX11_text_207 ?_
                  rw [show (144 + (nI r) : Int32) = nI (144 + r) from nI_add 144 r]
                  refine x_iald F hP k494 (vp_in_nI (n := (144 + r)) (N := 156) (by omega) (by decide)) dX11_text_208 ?_
                  obtain ⟨uc, huc, euc⟩ := hc3 (144 + r) (by omega)
                  rw [nI_clamp (n := 144 + r) (by omega), euc]
                  refine y_iast F hP hD hS k494 (vp_in_nI (n := ((12 * tw) + r)) (N := 156) (by omega) (by decide)) dX11_text_209 (fun w499 ew500 H locs hP hD hS => ?_)
                  have k501 := wd_at.pt ew500 k490 (tg_ne ty tm31 (by decide))
                  have k502 := wd_at.pt ew500 k491 (tg_ne tm24 tm31 (by decide))
                  have k503 := wd_at.pt ew500 k492 (tg_ne tm29 tm31 (by decide))
                  have k504 := wd_at.pt ew500 k493 (tg_ne tm30 tm31 (by decide))
                  have k505 : wd_at w499 m31 (.inl (cy 2, 156, .inl (upd p31 (nI ((12 * tw) + r)).toNatClampNeg (nI uc)))) := wd_at.ps ew500 k494
                  have k506 := wd_at.pt ew500 k495 (tg_ne tm32 tm31 (by decide))
                  have k507 := wd_at.pt ew500 k496 (tg_ne tm33 tm31 (by decide))
                  have k508 := wd_at.pt ew500 k497 (tg_ne tm34 tm31 (by decide))
                  have kp509 := kp498.put ew500 s93
                  refine lv_iconst (v := 0) hx hb dX11_text_210 (by decide) ?_
                  refine lv_istore (lv' := [(5, .int 0), (0, .ref y), (1, .int (nI tw)), (2, .int (nI n)), (4, .int (nI r))]) hx hb dX11_text_211 hl (by decide) rfl (fun ls hl => ?_)
                  have lp213 : ∀ (N : Nat) (cz : Nat) (q32 : Nat → Int32) (q33 : Nat → Int32) (q34 : Nat → Int32) (w510 : Wd), (cz + N = 6) → (wd_at w510 y (.inr (11, [.int v0, .int td, .ref m2, .ref m3, .ref m4, .ref m5, .ref m6, .int (nI pc), .ref m8, .ref m9, .ref m10, .ref m11, .ref m12, .ref m13, .ref m14, .int (nI ac), .int (nI sc), .ref m17, .ref m18, .ref m19, .ref m20, .ref m21, .ref m22, .ref m23, .ref m24, .int 0, .int (nI a), .int (nI b), .int (nI fq), .ref m29, .ref m30, .ref m31, .ref m32, .ref m33, .ref m34, .ref m35, .ref m36, .ref m37, .int (nI sh), .ref m39, .ref m40, .ref m41, .ref m42, .ref m43, .ref m44, .ref m45, .ref m46, .ref m47, .ref m48, .ref m49, .int v50, .ref m51, .ref m52, .ref m53, .ref m54, .int (nI gf), .ref m56, .ref m57, .ref m58, .ref m59]))) → (wd_at w510 m24 (.inl (cy 0, 300, .inl f24))) → (wd_at w510 m29 (.inl (cy 2, 12, .inl (upd f29 (nI tw).toNatClampNeg (nI n))))) → (wd_at w510 m30 (.inl (cy 2, 156, .inl (upd p30 (nI ((12 * tw) + r)).toNatClampNeg (p30 (nI (144 + r)).toNatClampNeg))))) → (wd_at w510 m31 (.inl (cy 2, 156, .inl (upd p31 (nI ((12 * tw) + r)).toNatClampNeg (nI uc))))) → (wd_at w510 m32 (.inl (cy 2, 936, .inl q32))) → (wd_at w510 m33 (.inl (cy 2, 936, .inl q33))) → (wd_at w510 m34 (.inl (cy 2, 936, .inl q34))) → (wd_kp S w w510) → ∀ (ls : Array Slot), lv_has ls 6 [(0, .ref y), (1, .int (nI tw)), (2, .int (nI n)), (4, .int (nI r)), (5, .int (nI cz))] → Wv p l e ({ frames := 7, cells := 0, slots := 0, locals := 155 }) s m args below meth c D A (0) (0) Q w510 (F0 m 213 ls []) := by
                    intro N
                    induction N with
                    | zero =>
                      intro cz q32 q33 q34 w510 hN213 k511 k512 k513 k514 k515 k516 k517 k518 kp519 ls hl H locs hP hD hS
                      refine lv_iload hx hb dX11_text_213 (lv_at hl 4 rfl) ?_
                      refine lv_bipush (v := 6) hx hb dX11_text_215 (by decide) ?_
                      refine lv_icmp_ge (tgt := 331) hx hb dX11_text_217 (by decide) (fun c_520 => ?_) (fun c_520 => absurd (nI_le (a := 6) (b := cz) (by omega) (by omega)) c_520)
                      refine lv_iinc (v := nI (r + 1)) (lv' := [(4, .int (nI (r + 1))), (0, .ref y), (1, .int (nI tw)), (2, .int (nI n)), (5, .int (nI cz))]) hx hb dX11_text_331 hl (k := 3) rfl (nI_1 r) (by decide) rfl (fun ls hl => ?_)
                      refine lv_goto (tgt := 158) hx hb dX11_text_334 (by decide) ?_
                      exact ih158 (r + 1) (upd p30 (nI ((12 * tw) + r)).toNatClampNeg (p30 (nI (144 + r)).toNatClampNeg)) (upd p31 (nI ((12 * tw) + r)).toNatClampNeg (nI uc)) q32 q33 q34 w510 (by omega) (hc3.c (u := uc) (by omega) (by omega)) k511 k512 k513 k514 k515 k516 k517 k518 kp519 ls (lv_sub hl [1, 2, 3, 0] rfl) H locs hP hD hS
                    | succ N ih213 =>
                      intro cz q32 q33 q34 w510 hN213 k511 k512 k513 k514 k515 k516 k517 k518 kp519 ls hl H locs hP hD hS
                      refine lv_iload hx hb dX11_text_213 (lv_at hl 4 rfl) ?_
                      refine lv_bipush (v := 6) hx hb dX11_text_215 (by decide) ?_
                      refine lv_icmp_ge (tgt := 331) hx hb dX11_text_217 (by decide) (fun c_521 => absurd c_521 (nI_ge (a := cz) (b := 6) (by omega) (by omega))) (fun c_521 => ?_)
                      refine lv_aload_n hx hb dX11_text_220 rfl (lv_at hl 0 rfl) ?_
                      refine x_get (ref := "NoteHouseModel") F hP k511 rfl (fun _ h => List.mem_cons_of_mem _ (List.mem_append_right _ (h))) 32 (Nat.le_of_ble_eq_true rfl) (List.mem_cons_of_mem _ (List.mem_append_left _ (List.mem_append_left _ (List.mem_of_getElem? (i := 7) rfl)))) rfl rfl dX11_text_221 ?_
                      refine lv_bipush (v := 6) hx hb dX11_text_224 (by decide) ?_
                      refine lv_bipush (v := 12) hx hb dX11_text_226 (by decide) ?_
                      refine lv_iload_n hx hb dX11_text_228 rfl (lv_at hl 1 rfl) ?_
                      refine lv_imul hx hb dX11_text_229 ?_
                      rw [show (12 * (nI tw) : Int32) = nI (12 * tw) from pk_mul 12 tw]
                      refine lv_iload hx hb dX11_text_230 (lv_at hl 3 rfl) ?_
                      refine lv_iadd hx hb dX11_text_232 ?_
                      rw [show ((nI (12 * tw)) + (nI r) : Int32) = nI ((12 * tw) + r) from nI_add (12 * tw) r]
                      refine lv_imul hx hb dX11_text_233 ?_
                      rw [show (6 * (nI ((12 * tw) + r)) : Int32) = nI (6 * ((12 * tw) + r)) from pk_mul 6 ((12 * tw) + r)]
                      refine lv_iload hx hb dX11_text_234 (lv_at hl 4 rfl) ?_
                      refine lv_iadd hx hb dX11_text_236 ?_
                      rw [show ((nI (6 * ((12 * tw) + r))) + (nI cz) : Int32) = nI ((6 * ((12 * tw) + r)) + cz) from nI_add (6 * ((12 * tw) + r)) cz]
                      refine lv_aload_n hx hb dX11_text_237 rfl (lv_at hl 0 rfl) ?_
                      refine x_get (ref := "NoteHouseModel") F hP k511 rfl (fun _ h => List.mem_cons_of_mem _ (List.mem_append_right _ (h))) 32 (Nat.le_of_ble_eq_true rfl) (List.mem_cons_of_mem _ (List.mem_append_left _ (List.mem_append_left _ (List.mem_of_getElem? (i := 7) rfl)))) rfl rfl dX11_text_238 ?_
                      refine lv_bipush (v := 6) hx hb dX11_text_241 (by decide) ?_
                      refine lv_sipush (v := 144) hx hb dX11_text_243 (by decide) ?_
                      refine lv_iload hx hb dX11_text_246 (lv_at hl 3 rfl) ?_
                      refine lv_iadd hx hb dX11_text_248 ?_
                      rw [show (144 + (nI r) : Int32) = nI (144 + r) from nI_add 144 r]
                      refine lv_imul hx hb dX11_text_249 ?_
                      rw [show (6 * (nI (144 + r)) : Int32) = nI (6 * (144 + r)) from pk_mul 6 (144 + r)]
                      refine lv_iload hx hb dX11_text_250 (lv_at hl 4 rfl) ?_
                      refine lv_iadd hx hb dX11_text_252 ?_
                      rw [show ((nI (6 * (144 + r))) + (nI cz) : Int32) = nI ((6 * (144 + r)) + cz) from nI_add (6 * (144 + r)) cz]
                      refine x_iald F hP k516 (vp_in_nI (n := ((6 * (144 + r)) + cz)) (N := 936) (by omega) (by decide)) dX11_text_253 ?_
                      refine y_iast F hP hD hS k516 (vp_in_nI (n := ((6 * ((12 * tw) + r)) + cz)) (N := 936) (by omega) (by decide)) dX11_text_254 (fun w522 ew523 H locs hP hD hS => ?_)
                      have k524 := wd_at.pt ew523 k511 (tg_ne ty tm32 (by decide))
                      have k525 := wd_at.pt ew523 k512 (tg_ne tm24 tm32 (by decide))
                      have k526 := wd_at.pt ew523 k513 (tg_ne tm29 tm32 (by decide))
                      have k527 := wd_at.pt ew523 k514 (tg_ne tm30 tm32 (by decide))
                      have k528 := wd_at.pt ew523 k515 (tg_ne tm31 tm32 (by decide))
                      have k529 : wd_at w522 m32 (.inl (cy 2, 936, .inl (upd q32 (nI ((6 * ((12 * tw) + r)) + cz)).toNatClampNeg (q32 (nI ((6 * (144 + r)) + cz)).toNatClampNeg)))) := wd_at.ps ew523 k516
                      have k530 := wd_at.pt ew523 k517 (tg_ne tm33 tm32 (by decide))
                      have k531 := wd_at.pt ew523 k518 (tg_ne tm34 tm32 (by decide))
                      have kp532 := kp519.put ew523 s94
                      refine lv_aload_n hx hb dX11_text_255 rfl (lv_at hl 0 rfl) ?_
                      refine x_get (ref := "NoteHouseModel") F hP k524 rfl (fun _ h => List.mem_cons_of_mem _ (List.mem_append_right _ (h))) 33 (Nat.le_of_ble_eq_true rfl) (List.mem_cons_of_mem _ (List.mem_append_left _ (List.mem_append_left _ (List.mem_of_getElem? (i := 8) rfl)))) rfl rfl dX11_text_256 ?_
                      refine lv_bipush (v := 6) hx hb dX11_text_259 (by decide) ?_
                      refine lv_bipush (v := 12) hx hb dX11_text_261 (by decide) ?_
                      refine lv_iload_n hx hb dX11_text_263 rfl (lv_at hl 1 rfl) ?_
                      refine lv_imul hx hb dX11_text_264 ?_
                      rw [show (12 * (nI tw) : Int32) = nI (12 * tw) from pk_mul 12 tw]
                      refine lv_iload hx hb dX11_text_265 (lv_at hl 3 rfl) ?_
                      refine lv_iadd hx hb dX11_text_267 ?_
                      rw [show ((nI (12 * tw)) + (nI r) : Int32) = nI ((12 * tw) + r) from nI_add (12 * tw) r]
                      refine lv_imul hx hb dX11_text_268 ?_
                      rw [show (6 * (nI ((12 * tw) + r)) : Int32) = nI (6 * ((12 * tw) + r)) from pk_mul 6 ((12 * tw) + r)]
                      refine lv_iload hx hb dX11_text_269 (lv_at hl 4 rfl) ?_
                      refine lv_iadd hx hb dX11_text_271 ?_
                      rw [show ((nI (6 * ((12 * tw) + r))) + (nI cz) : Int32) = nI ((6 * ((12 * tw) + r)) + cz) from nI_add (6 * ((12 * tw) + r)) cz]
                      refine lv_aload_n hx hb dX11_text_272 rfl (lv_at hl 0 rfl) ?_
                      refine x_get (ref := "NoteHouseModel") F hP k524 rfl (fun _ h => List.mem_cons_of_mem _ (List.mem_append_right _ (h))) 33 (Nat.le_of_ble_eq_true rfl) (List.mem_cons_of_mem _ (List.mem_append_left _ (List.mem_append_left _ (List.mem_of_getElem? (i := 8) rfl)))) rfl rfl dX11_text_273 ?_
                      refine lv_bipush (v := 6) hx hb dX11_text_276 (by decide) ?_
                      refine lv_sipush (v := 144) hx hb dX11_text_278 (by decide) ?_
                      refine lv_iload hx hb dX11_text_281 (lv_at hl 3 rfl) ?_
                      refine lv_iadd hx hb dX11_text_283 ?_
                      rw [show (144 + (nI r) : Int32) = nI (144 + r) from nI_add 144 r]
                      refine lv_imul hx hb dX11_text_284 ?_
                      rw [show (6 * (nI (144 + r)) : Int32) = nI (6 * (144 + r)) from pk_mul 6 (144 + r)]
                      refine lv_iload hx hb dX11_text_285 (lv_at hl 4 rfl) ?_
                      refine lv_iadd hx hb dX11_text_287 ?_
                      rw [show ((nI (6 * (144 + r))) + (nI cz) : Int32) = nI ((6 * (144 + r)) + cz) from nI_add (6 * (144 + r)) cz]
                      refine x_iald F hP k530 (vp_in_nI (n := ((6 * (144 + r)) + cz)) (N := 936) (by omega) (by decide)) dX11_text_288 ?_
                      refine y_iast F hP hD hS k530 (vp_in_nI (n := ((6 * ((12 * tw) + r)) + cz)) (N := 936) (by omega) (by decide)) dX11_text_289 (fun w533 ew534 H locs hP hD hS => ?_)
                      have k535 := wd_at.pt ew534 k524 (tg_ne ty tm33 (by decide))
                      have k536 := wd_at.pt ew534 k525 (tg_ne tm24 tm33 (by decide))
                      have k537 := wd_at.pt ew534 k526 (tg_ne tm29 tm33 (by decide))
                      have k538 := wd_at.pt ew534 k527 (tg_ne tm30 tm33 (by decide))
                      have k539 := wd_at.pt ew534 k528 (tg_ne tm31 tm33 (by decide))
                      have k540 := wd_at.pt ew534 k529 (tg_ne tm32 tm33 (by decide))
                      have k541 : wd_at w533 m33 (.inl (cy 2, 936, .inl (upd q33 (nI ((6 * ((12 * tw) + r)) + cz)).toNatClampNeg (q33 (nI ((6 * (144 + r)) + cz)).toNatClampNeg)))) := wd_at.ps ew534 k530
                      have k542 := wd_at.pt ew534 k531 (tg_ne tm34 tm33 (by decide))
                      have kp543 := kp532.put ew534 s95
                      refine lv_aload_n hx hb dX11_text_290 rfl (lv_at hl 0 rfl) ?_
                      refine x_get (ref := "NoteHouseModel") F hP k535 rfl (fun _ h => List.mem_cons_of_mem _ (List.mem_append_right _ (h))) 34 (Nat.le_of_ble_eq_true rfl) (List.mem_cons_of_mem _ (List.mem_append_left _ (List.mem_append_left _ (List.mem_of_getElem? (i := 9) rfl)))) rfl rfl dX11_text_291 ?_
                      refine lv_bipush (v := 6) hx hb dX11_text_294 (by decide) ?_
                      refine lv_bipush (v := 12) hx hb dX11_text_296 (by decide) ?_
                      refine lv_iload_n hx hb dX11_text_298 rfl (lv_at hl 1 rfl) ?_
                      refine lv_imul hx hb dX11_text_299 ?_
                      rw [show (12 * (nI tw) : Int32) = nI (12 * tw) from pk_mul 12 tw]
                      refine lv_iload hx hb dX11_text_300 (lv_at hl 3 rfl) ?_
                      refine lv_iadd hx hb dX11_text_302 ?_
                      rw [show ((nI (12 * tw)) + (nI r) : Int32) = nI ((12 * tw) + r) from nI_add (12 * tw) r]
                      refine lv_imul hx hb dX11_text_303 ?_
                      rw [show (6 * (nI ((12 * tw) + r)) : Int32) = nI (6 * ((12 * tw) + r)) from pk_mul 6 ((12 * tw) + r)]
                      refine lv_iload hx hb dX11_text_304 (lv_at hl 4 rfl) ?_
                      refine lv_iadd hx hb dX11_text_306 ?_
                      rw [show ((nI (6 * ((12 * tw) + r))) + (nI cz) : Int32) = nI ((6 * ((12 * tw) + r)) + cz) from nI_add (6 * ((12 * tw) + r)) cz]
                      refine lv_aload_n hx hb dX11_text_307 rfl (lv_at hl 0 rfl) ?_
                      refine x_get (ref := "NoteHouseModel") F hP k535 rfl (fun _ h => List.mem_cons_of_mem _ (List.mem_append_right _ (h))) 34 (Nat.le_of_ble_eq_true rfl) (List.mem_cons_of_mem _ (List.mem_append_left _ (List.mem_append_left _ (List.mem_of_getElem? (i := 9) rfl)))) rfl rfl dX11_text_308 ?_
                      refine lv_bipush (v := 6) hx hb dX11_text_311 (by decide) ?_
                      refine lv_sipush (v := 144) hx hb dX11_text_313 (by decide) ?_
                      refine lv_iload hx hb dX11_text_316 (lv_at hl 3 rfl) ?_
                      refine lv_iadd hx hb dX11_text_318 ?_
                      rw [show (144 + (nI r) : Int32) = nI (144 + r) from nI_add 144 r]
                      refine lv_imul hx hb dX11_text_319 ?_
                      rw [show (6 * (nI (144 + r)) : Int32) = nI (6 * (144 + r)) from pk_mul 6 (144 + r)]
                      refine lv_iload hx hb dX11_text_320 (lv_at hl 4 rfl) ?_
                      refine lv_iadd hx hb dX11_text_322 ?_
                      rw [show ((nI (6 * (144 + r))) + (nI cz) : Int32) = nI ((6 * (144 + r)) + cz) from nI_add (6 * (144 + r)) cz]
                      refine x_iald F hP k542 (vp_in_nI (n := ((6 * (144 + r)) + cz)) (N := 936) (by omega) (by decide)) dX11_text_323 ?_
                      refine y_iast F hP hD hS k542 (vp_in_nI (n := ((6 * ((12 * tw) + r)) + cz)) (N := 936) (by omega) (by decide)) dX11_text_324 (fun w544 ew545 H locs hP hD hS => ?_)
                      have k546 := wd_at.pt ew545 k535 (tg_ne ty tm34 (by decide))
                      have k547 := wd_at.pt ew545 k536 (tg_ne tm24 tm34 (by decide))
                      have k548 := wd_at.pt ew545 k537 (tg_ne tm29 tm34 (by decide))
                      have k549 := wd_at.pt ew545 k538 (tg_ne tm30 tm34 (by decide))
                      have k550 := wd_at.pt ew545 k539 (tg_ne tm31 tm34 (by decide))
                      have k551 := wd_at.pt ew545 k540 (tg_ne tm32 tm34 (by decide))
                      have k552 := wd_at.pt ew545 k541 (tg_ne tm33 tm34 (by decide))
                      have k553 : wd_at w544 m34 (.inl (cy 2, 936, .inl (upd q34 (nI ((6 * ((12 * tw) + r)) + cz)).toNatClampNeg (q34 (nI ((6 * (144 + r)) + cz)).toNatClampNeg)))) := wd_at.ps ew545 k542
                      have kp554 := kp543.put ew545 s96
                      refine lv_iinc (v := nI (cz + 1)) (lv' := [(5, .int (nI (cz + 1))), (0, .ref y), (1, .int (nI tw)), (2, .int (nI n)), (4, .int (nI r))]) hx hb dX11_text_325 hl (k := 4) rfl (nI_1 cz) (by decide) rfl (fun ls hl => ?_)
                      refine lv_goto (tgt := 213) hx hb dX11_text_328 (by decide) ?_
                      exact ih213 (cz + 1) (upd q32 (nI ((6 * ((12 * tw) + r)) + cz)).toNatClampNeg (q32 (nI ((6 * (144 + r)) + cz)).toNatClampNeg)) (upd q33 (nI ((6 * ((12 * tw) + r)) + cz)).toNatClampNeg (q33 (nI ((6 * (144 + r)) + cz)).toNatClampNeg)) (upd q34 (nI ((6 * ((12 * tw) + r)) + cz)).toNatClampNeg (q34 (nI ((6 * (144 + r)) + cz)).toNatClampNeg)) w544 (by omega)  k546 k547 k548 k549 k550 k551 k552 k553 kp554 ls (lv_sub hl [1, 2, 3, 4, 0] rfl) H locs hP hD hS
                  exact lp213 _ 0 p32 p33 p34 w499 (Nat.zero_add 6)  k501 k502 k503 k504 k505 k506 k507 k508 kp509 ls (lv_sub hl [1, 2, 3, 4, 0] rfl) H locs hP hD hS
              exact lp158 _ 0 h30 h31 h32 h33 h34 w465 (Nat.zero_add n) (by assumption) k467 k468 k469 k470 k471 k472 k473 k474 kp475 ls (lv_sub hl [1, 2, 3, 0] rfl) H locs hP hD hS
            · have hfp : 0 < fq := Nat.pos_of_ne_zero (fun q => c_464 (by rw [q]; decide))
              refine lv_bipush (v := (-2)) hx hb dX11_text_140 (by decide) ?_
              refine lv_aload_n hx hb dX11_text_142 rfl (lv_at hl 0 rfl) ?_
              refine x_get (ref := "NoteHouseModel") F hP k455 rfl (fun _ h => List.mem_cons_of_mem _ (List.mem_append_right _ (h))) 28 (Nat.le_of_ble_eq_true rfl) (List.mem_cons_of_mem _ (List.mem_append_left _ (List.mem_append_left _ (List.mem_of_getElem? (i := 1) rfl)))) rfl rfl dX11_text_143 ?_
              refine lv_isub hx hb dX11_text_146 ?_
              exact y_ir K hP hD hS (Nat.le_of_ble_eq_true rfl) (Nat.le_of_ble_eq_true rfl) (ty := .int) rfl rfl dX11_text_147 (⟨0, nI a, nI b, nI fq, f29, h30, h31, h32, h33, h34, (-2) - (nI fq), rfl, by simp [txtC, c_4], hrl, by assumption, kp463, k455, k457, k458, k459, k460, k461, k462⟩)
          · refine lv_aload_n hx hb dX11_text_38 rfl (lv_at hl 0 rfl) ?_
            refine x_get (ref := "NoteHouseModel") F hP k443 rfl (fun _ h => List.mem_cons_of_mem _ (List.mem_append_right _ (h))) 28 (Nat.le_of_ble_eq_true rfl) (List.mem_cons_of_mem _ (List.mem_append_left _ (List.mem_append_left _ (List.mem_of_getElem? (i := 1) rfl)))) rfl rfl dX11_text_39 ?_
            refine lv_if_ne (tgt := 128) hx hb dX11_text_42 (by decide) (fun c_555 => ?_) (fun c_555 => ?_)
            · have hfp : 0 < fq := nI_nz (by omega) c_555
              refine lv_aload_n hx hb dX11_text_128 rfl (lv_at hl 0 rfl) ?_
              refine lv_iconst (v := 0) hx hb dX11_text_129 (by decide) ?_
              refine y_put (ref := "NoteHouseModel") F hP hD hS k443 rfl (fun _ h => List.mem_cons_of_mem _ (List.mem_append_right _ (h))) tyX11_ok nmX11 25 (Nat.le_of_ble_eq_true rfl) (List.mem_cons_of_mem _ (List.mem_append_left _ (List.mem_append_left _ (List.mem_of_getElem? (i := 3) rfl)))) rfl rfl rfl rfl (Nat.le_of_ble_eq_true rfl) dX11_text_130 (fun w556 ew557 H locs hP hD hS => ?_)
              have k558 : wd_at w556 y (.inr (11, [.int v0, .int td, .ref m2, .ref m3, .ref m4, .ref m5, .ref m6, .int (nI pc), .ref m8, .ref m9, .ref m10, .ref m11, .ref m12, .ref m13, .ref m14, .int (nI ac), .int (nI sc), .ref m17, .ref m18, .ref m19, .ref m20, .ref m21, .ref m22, .ref m23, .ref m24, .int 0, .int (nI a), .int (nI b), .int (nI fq), .ref m29, .ref m30, .ref m31, .ref m32, .ref m33, .ref m34, .ref m35, .ref m36, .ref m37, .int (nI sh), .ref m39, .ref m40, .ref m41, .ref m42, .ref m43, .ref m44, .ref m45, .ref m46, .ref m47, .ref m48, .ref m49, .int v50, .ref m51, .ref m52, .ref m53, .ref m54, .int (nI gf), .ref m56, .ref m57, .ref m58, .ref m59])) := wd_at.ps ew557 k443
              have k559 := wd_at.pt ew557 k444 (tg_ne tm24 ty (by decide))
              have k560 := wd_at.pt ew557 k445 (tg_ne tm29 ty (by decide))
              have k561 := wd_at.pt ew557 k446 (tg_ne tm30 ty (by decide))
              have k562 := wd_at.pt ew557 k447 (tg_ne tm31 ty (by decide))
              have k563 := wd_at.pt ew557 k448 (tg_ne tm32 ty (by decide))
              have k564 := wd_at.pt ew557 k449 (tg_ne tm33 ty (by decide))
              have k565 := wd_at.pt ew557 k450 (tg_ne tm34 ty (by decide))
              have kp566 := kp451.put ew557 s90
              refine lv_aload_n hx hb dX11_text_133 rfl (lv_at hl 0 rfl) ?_
              refine x_get (ref := "NoteHouseModel") F hP k558 rfl (fun _ h => List.mem_cons_of_mem _ (List.mem_append_right _ (h))) 28 (Nat.le_of_ble_eq_true rfl) (List.mem_cons_of_mem _ (List.mem_append_left _ (List.mem_append_left _ (List.mem_of_getElem? (i := 1) rfl)))) rfl rfl dX11_text_134 ?_
              refine lv_if_le (tgt := 148) hx hb dX11_text_137 (by decide) (fun c_567 => ?_) (fun c_567 => ?_)
              · have hf0 : fq = 0 := nI_z (by omega) c_567
                refine lv_aload_n hx hb dX11_text_148 rfl (lv_at hl 0 rfl) ?_
                refine x_get (ref := "NoteHouseModel") F hP k558 rfl (fun _ h => List.mem_cons_of_mem _ (List.mem_append_right _ (h))) 29 (Nat.le_of_ble_eq_true rfl) (List.mem_cons_of_mem _ (List.mem_append_left _ (List.mem_append_left _ (List.mem_of_getElem? (i := 4) rfl)))) rfl rfl dX11_text_149 ?_
                refine lv_iload_n hx hb dX11_text_152 rfl (lv_at hl 1 rfl) ?_
                refine lv_iload_n hx hb dX11_text_153 rfl (lv_at hl 2 rfl) ?_
                refine y_iast F hP hD hS k560 (vp_in_nI (n := tw) (N := 12) (by omega) (by decide)) dX11_text_154 (fun w568 ew569 H locs hP hD hS => ?_)
                have k570 := wd_at.pt ew569 k558 (tg_ne ty tm29 (by decide))
                have k571 := wd_at.pt ew569 k559 (tg_ne tm24 tm29 (by decide))
                have k572 : wd_at w568 m29 (.inl (cy 2, 12, .inl (upd f29 (nI tw).toNatClampNeg (nI n)))) := wd_at.ps ew569 k560
                have k573 := wd_at.pt ew569 k561 (tg_ne tm30 tm29 (by decide))
                have k574 := wd_at.pt ew569 k562 (tg_ne tm31 tm29 (by decide))
                have k575 := wd_at.pt ew569 k563 (tg_ne tm32 tm29 (by decide))
                have k576 := wd_at.pt ew569 k564 (tg_ne tm33 tm29 (by decide))
                have k577 := wd_at.pt ew569 k565 (tg_ne tm34 tm29 (by decide))
                have kp578 := kp566.put ew569 s91
                refine lv_iconst (v := 0) hx hb dX11_text_155 (by decide) ?_
                refine lv_istore (lv' := [(4, .int 0), (0, .ref y), (1, .int (nI tw)), (2, .int (nI n)), (3, .int on)]) hx hb dX11_text_156 hl (by decide) rfl (fun ls hl => ?_)
                have lp158 : ∀ (N : Nat) (r : Nat) (p30 : Nat → Int32) (p31 : Nat → Int32) (p32 : Nat → Int32) (p33 : Nat → Int32) (p34 : Nat → Int32) (w579 : Wd), (r + N = n) → (cOK p31) → (wd_at w579 y (.inr (11, [.int v0, .int td, .ref m2, .ref m3, .ref m4, .ref m5, .ref m6, .int (nI pc), .ref m8, .ref m9, .ref m10, .ref m11, .ref m12, .ref m13, .ref m14, .int (nI ac), .int (nI sc), .ref m17, .ref m18, .ref m19, .ref m20, .ref m21, .ref m22, .ref m23, .ref m24, .int 0, .int (nI a), .int (nI b), .int (nI fq), .ref m29, .ref m30, .ref m31, .ref m32, .ref m33, .ref m34, .ref m35, .ref m36, .ref m37, .int (nI sh), .ref m39, .ref m40, .ref m41, .ref m42, .ref m43, .ref m44, .ref m45, .ref m46, .ref m47, .ref m48, .ref m49, .int v50, .ref m51, .ref m52, .ref m53, .ref m54, .int (nI gf), .ref m56, .ref m57, .ref m58, .ref m59]))) → (wd_at w579 m24 (.inl (cy 0, 300, .inl f24))) → (wd_at w579 m29 (.inl (cy 2, 12, .inl (upd f29 (nI tw).toNatClampNeg (nI n))))) → (wd_at w579 m30 (.inl (cy 2, 156, .inl p30))) → (wd_at w579 m31 (.inl (cy 2, 156, .inl p31))) → (wd_at w579 m32 (.inl (cy 2, 936, .inl p32))) → (wd_at w579 m33 (.inl (cy 2, 936, .inl p33))) → (wd_at w579 m34 (.inl (cy 2, 936, .inl p34))) → (wd_kp S w w579) → ∀ (ls : Array Slot), lv_has ls 6 [(0, .ref y), (1, .int (nI tw)), (2, .int (nI n)), (4, .int (nI r))] → Wv p l e ({ frames := 7, cells := 0, slots := 0, locals := 155 }) s m args below meth c D A (0) (0) Q w579 (F0 m 158 ls []) := by
                  intro N
                  induction N with
                  | zero =>
                    intro r p30 p31 p32 p33 p34 w579 hN158 hc3 k580 k581 k582 k583 k584 k585 k586 k587 kp588 ls hl H locs hP hD hS
                    refine lv_iload hx hb dX11_text_158 (lv_at hl 3 rfl) ?_
                    refine lv_iload_n hx hb dX11_text_160 rfl (lv_at hl 2 rfl) ?_
                    refine lv_icmp_ge (tgt := 337) hx hb dX11_text_161 (by decide) (fun c_589 => ?_) (fun c_589 => absurd (nI_le (a := n) (b := r) (by omega) (by omega)) c_589)
                    refine lv_iload_n hx hb dX11_text_337 rfl (lv_at hl 2 rfl) ?_
                    exact y_ir K hP hD hS (Nat.le_of_ble_eq_true rfl) (Nat.le_of_ble_eq_true rfl) (ty := .int) rfl rfl dX11_text_338 (⟨0, nI a, nI b, nI fq, upd f29 (nI tw).toNatClampNeg (nI n), p30, p31, p32, p33, p34, nI n, rfl, by simp [txtC, c_4], hrl.c (by omega) (by omega), by assumption, kp588, k580, k582, k583, k584, k585, k586, k587⟩)
                  | succ N ih158 =>
                    intro r p30 p31 p32 p33 p34 w579 hN158 hc3 k580 k581 k582 k583 k584 k585 k586 k587 kp588 ls hl H locs hP hD hS
                    refine lv_iload hx hb dX11_text_158 (lv_at hl 3 rfl) ?_
                    refine lv_iload_n hx hb dX11_text_160 rfl (lv_at hl 2 rfl) ?_
                    refine lv_icmp_ge (tgt := 337) hx hb dX11_text_161 (by decide) (fun c_590 => absurd c_590 (nI_ge (a := r) (b := n) (by omega) (by omega))) (fun c_590 => ?_)
                    refine lv_aload_n hx hb dX11_text_164 rfl (lv_at hl 0 rfl) ?_
                    refine x_get (ref := "NoteHouseModel") F hP k580 rfl (fun _ h => List.mem_cons_of_mem _ (List.mem_append_right _ (h))) 30 (Nat.le_of_ble_eq_true rfl) (List.mem_cons_of_mem _ (List.mem_append_left _ (List.mem_append_left _ (List.mem_of_getElem? (i := 5) rfl)))) rfl rfl dX11_text_165 ?_
                    refine lv_bipush (v := 12) hx hb dX11_text_168 (by decide) ?_
                    refine lv_iload_n hx hb dX11_text_170 rfl (lv_at hl 1 rfl) ?_
                    refine lv_imul hx hb dX11_text_171 ?_
                    rw [show (12 * (nI tw) : Int32) = nI (12 * tw) from pk_mul 12 tw]
                    refine lv_iload hx hb dX11_text_172 (lv_at hl 3 rfl) ?_
                    refine lv_iadd hx hb dX11_text_174 ?_
                    rw [show ((nI (12 * tw)) + (nI r) : Int32) = nI ((12 * tw) + r) from nI_add (12 * tw) r]
                    refine lv_aload_n hx hb dX11_text_175 rfl (lv_at hl 0 rfl) ?_
                    refine x_get (ref := "NoteHouseModel") F hP k580 rfl (fun _ h => List.mem_cons_of_mem _ (List.mem_append_right _ (h))) 30 (Nat.le_of_ble_eq_true rfl) (List.mem_cons_of_mem _ (List.mem_append_left _ (List.mem_append_left _ (List.mem_of_getElem? (i := 5) rfl)))) rfl rfl dX11_text_176 ?_
                    refine lv_sipush (v := 144) hx hb dX11_text_179 (by decide) ?_
                    refine lv_iload hx hb dX11_text_182 (lv_at hl 3 rfl) ?_
                    refine lv_iadd hx hb dX11_text_184 ?_
                    rw [show (144 + (nI r) : Int32) = nI (144 + r) from nI_add 144 r]
                    refine x_iald F hP k583 (vp_in_nI (n := (144 + r)) (N := 156) (by omega) (by decide)) dX11_text_185 ?_
                    refine y_iast F hP hD hS k583 (vp_in_nI (n := ((12 * tw) + r)) (N := 156) (by omega) (by decide)) dX11_text_186 (fun w591 ew592 H locs hP hD hS => ?_)
                    have k593 := wd_at.pt ew592 k580 (tg_ne ty tm30 (by decide))
                    have k594 := wd_at.pt ew592 k581 (tg_ne tm24 tm30 (by decide))
                    have k595 := wd_at.pt ew592 k582 (tg_ne tm29 tm30 (by decide))
                    have k596 : wd_at w591 m30 (.inl (cy 2, 156, .inl (upd p30 (nI ((12 * tw) + r)).toNatClampNeg (p30 (nI (144 + r)).toNatClampNeg)))) := wd_at.ps ew592 k583
                    have k597 := wd_at.pt ew592 k584 (tg_ne tm31 tm30 (by decide))
                    have k598 := wd_at.pt ew592 k585 (tg_ne tm32 tm30 (by decide))
                    have k599 := wd_at.pt ew592 k586 (tg_ne tm33 tm30 (by decide))
                    have k600 := wd_at.pt ew592 k587 (tg_ne tm34 tm30 (by decide))
                    have kp601 := kp588.put ew592 s92
                    refine lv_aload_n hx hb dX11_text_187 rfl (lv_at hl 0 rfl) ?_
                    refine x_get (ref := "NoteHouseModel") F hP k593 rfl (fun _ h => List.mem_cons_of_mem _ (List.mem_append_right _ (h))) 31 (Nat.le_of_ble_eq_true rfl) (List.mem_cons_of_mem _ (List.mem_append_left _ (List.mem_append_left _ (List.mem_of_getElem? (i := 6) rfl)))) rfl rfl dX11_text_188 ?_
                    refine lv_bipush (v := 12) hx hb dX11_text_191 (by decide) ?_
                    refine lv_iload_n hx hb dX11_text_193 rfl (lv_at hl 1 rfl) ?_
                    refine lv_imul hx hb dX11_text_194 ?_
                    rw [show (12 * (nI tw) : Int32) = nI (12 * tw) from pk_mul 12 tw]
                    refine lv_iload hx hb dX11_text_195 (lv_at hl 3 rfl) ?_
                    refine lv_iadd hx hb dX11_text_197 ?_
                    rw [show ((nI (12 * tw)) + (nI r) : Int32) = nI ((12 * tw) + r) from nI_add (12 * tw) r]
                    refine lv_aload_n hx hb dX11_text_198 rfl (lv_at hl 0 rfl) ?_
                    refine x_get (ref := "NoteHouseModel") F hP k593 rfl (fun _ h => List.mem_cons_of_mem _ (List.mem_append_right _ (h))) 31 (Nat.le_of_ble_eq_true rfl) (List.mem_cons_of_mem _ (List.mem_append_left _ (List.mem_append_left _ (List.mem_of_getElem? (i := 6) rfl)))) rfl rfl dX11_text_199 ?_
                    refine lv_sipush (v := 144) hx hb dX11_text_202 (by decide) ?_
                    refine lv_iload hx hb dX11_text_205 (lv_at hl 3 rfl) ?_
                    refine lv_iadd hx hb dX11_text_207 ?_
                    rw [show (144 + (nI r) : Int32) = nI (144 + r) from nI_add 144 r]
                    refine x_iald F hP k597 (vp_in_nI (n := (144 + r)) (N := 156) (by omega) (by decide)) dX11_text_208 ?_
                    obtain ⟨uc, huc, euc⟩ := hc3 (144 + r) (by omega)
                    rw [nI_clamp (n := 144 + r) (by omega), euc]
                    refine y_iast F hP hD hS k597 (vp_in_nI (n := ((12 * tw) + r)) (N := 156) (by omega) (by decide)) dX11_text_209 (fun w602 ew603 H locs hP hD hS => ?_)
                    have k604 := wd_at.pt ew603 k593 (tg_ne ty tm31 (by decide))
                    have k605 := wd_at.pt ew603 k594 (tg_ne tm24 tm31 (by decide))
                    have k606 := wd_at.pt ew603 k595 (tg_ne tm29 tm31 (by decide))
                    have k607 := wd_at.pt ew603 k596 (tg_ne tm30 tm31 (by decide))
                    have k608 : wd_at w602 m31 (.inl (cy 2, 156, .inl (upd p31 (nI ((12 * tw) + r)).toNatClampNeg (nI uc)))) := wd_at.ps ew603 k597
                    have k609 := wd_at.pt ew603 k598 (tg_ne tm32 tm31 (by decide))
                    have k610 := wd_at.pt ew603 k599 (tg_ne tm33 tm31 (by decide))
                    have k611 := wd_at.pt ew603 k600 (tg_ne tm34 tm31 (by decide))
                    have kp612 := kp601.put ew603 s93
                    refine lv_iconst (v := 0) hx hb dX11_text_210 (by decide) ?_
                    refine lv_istore (lv' := [(5, .int 0), (0, .ref y), (1, .int (nI tw)), (2, .int (nI n)), (4, .int (nI r))]) hx hb dX11_text_211 hl (by decide) rfl (fun ls hl => ?_)
                    have lp213 : ∀ (N : Nat) (cz : Nat) (q32 : Nat → Int32) (q33 : Nat → Int32) (q34 : Nat → Int32) (w613 : Wd), (cz + N = 6) → (wd_at w613 y (.inr (11, [.int v0, .int td, .ref m2, .ref m3, .ref m4, .ref m5, .ref m6, .int (nI pc), .ref m8, .ref m9, .ref m10, .ref m11, .ref m12, .ref m13, .ref m14, .int (nI ac), .int (nI sc), .ref m17, .ref m18, .ref m19, .ref m20, .ref m21, .ref m22, .ref m23, .ref m24, .int 0, .int (nI a), .int (nI b), .int (nI fq), .ref m29, .ref m30, .ref m31, .ref m32, .ref m33, .ref m34, .ref m35, .ref m36, .ref m37, .int (nI sh), .ref m39, .ref m40, .ref m41, .ref m42, .ref m43, .ref m44, .ref m45, .ref m46, .ref m47, .ref m48, .ref m49, .int v50, .ref m51, .ref m52, .ref m53, .ref m54, .int (nI gf), .ref m56, .ref m57, .ref m58, .ref m59]))) → (wd_at w613 m24 (.inl (cy 0, 300, .inl f24))) → (wd_at w613 m29 (.inl (cy 2, 12, .inl (upd f29 (nI tw).toNatClampNeg (nI n))))) → (wd_at w613 m30 (.inl (cy 2, 156, .inl (upd p30 (nI ((12 * tw) + r)).toNatClampNeg (p30 (nI (144 + r)).toNatClampNeg))))) → (wd_at w613 m31 (.inl (cy 2, 156, .inl (upd p31 (nI ((12 * tw) + r)).toNatClampNeg (nI uc))))) → (wd_at w613 m32 (.inl (cy 2, 936, .inl q32))) → (wd_at w613 m33 (.inl (cy 2, 936, .inl q33))) → (wd_at w613 m34 (.inl (cy 2, 936, .inl q34))) → (wd_kp S w w613) → ∀ (ls : Array Slot), lv_has ls 6 [(0, .ref y), (1, .int (nI tw)), (2, .int (nI n)), (4, .int (nI r)), (5, .int (nI cz))] → Wv p l e ({ frames := 7, cells := 0, slots := 0, locals := 155 }) s m args below meth c D A (0) (0) Q w613 (F0 m 213 ls []) := by
                      intro N
                      induction N with
                      | zero =>
                        intro cz q32 q33 q34 w613 hN213 k614 k615 k616 k617 k618 k619 k620 k621 kp622 ls hl H locs hP hD hS
                        refine lv_iload hx hb dX11_text_213 (lv_at hl 4 rfl) ?_
                        refine lv_bipush (v := 6) hx hb dX11_text_215 (by decide) ?_
                        refine lv_icmp_ge (tgt := 331) hx hb dX11_text_217 (by decide) (fun c_623 => ?_) (fun c_623 => absurd (nI_le (a := 6) (b := cz) (by omega) (by omega)) c_623)
                        refine lv_iinc (v := nI (r + 1)) (lv' := [(4, .int (nI (r + 1))), (0, .ref y), (1, .int (nI tw)), (2, .int (nI n)), (5, .int (nI cz))]) hx hb dX11_text_331 hl (k := 3) rfl (nI_1 r) (by decide) rfl (fun ls hl => ?_)
                        refine lv_goto (tgt := 158) hx hb dX11_text_334 (by decide) ?_
                        exact ih158 (r + 1) (upd p30 (nI ((12 * tw) + r)).toNatClampNeg (p30 (nI (144 + r)).toNatClampNeg)) (upd p31 (nI ((12 * tw) + r)).toNatClampNeg (nI uc)) q32 q33 q34 w613 (by omega) (hc3.c (u := uc) (by omega) (by omega)) k614 k615 k616 k617 k618 k619 k620 k621 kp622 ls (lv_sub hl [1, 2, 3, 0] rfl) H locs hP hD hS
                      | succ N ih213 =>
                        intro cz q32 q33 q34 w613 hN213 k614 k615 k616 k617 k618 k619 k620 k621 kp622 ls hl H locs hP hD hS
                        refine lv_iload hx hb dX11_text_213 (lv_at hl 4 rfl) ?_
                        refine lv_bipush (v := 6) hx hb dX11_text_215 (by decide) ?_
                        refine lv_icmp_ge (tgt := 331) hx hb dX11_text_217 (by decide) (fun c_624 => absurd c_624 (nI_ge (a := cz) (b := 6) (by omega) (by omega))) (fun c_624 => ?_)
                        refine lv_aload_n hx hb dX11_text_220 rfl (lv_at hl 0 rfl) ?_
                        refine x_get (ref := "NoteHouseModel") F hP k614 rfl (fun _ h => List.mem_cons_of_mem _ (List.mem_append_right _ (h))) 32 (Nat.le_of_ble_eq_true rfl) (List.mem_cons_of_mem _ (List.mem_append_left _ (List.mem_append_left _ (List.mem_of_getElem? (i := 7) rfl)))) rfl rfl dX11_text_221 ?_
                        refine lv_bipush (v := 6) hx hb dX11_text_224 (by decide) ?_
                        refine lv_bipush (v := 12) hx hb dX11_text_226 (by decide) ?_
                        refine lv_iload_n hx hb dX11_text_228 rfl (lv_at hl 1 rfl) ?_
                        refine lv_imul hx hb dX11_text_229 ?_
                        rw [show (12 * (nI tw) : Int32) = nI (12 * tw) from pk_mul 12 tw]
                        refine lv_iload hx hb dX11_text_230 (lv_at hl 3 rfl) ?_
                        refine lv_iadd hx hb dX11_text_232 ?_
                        rw [show ((nI (12 * tw)) + (nI r) : Int32) = nI ((12 * tw) + r) from nI_add (12 * tw) r]
                        refine lv_imul hx hb dX11_text_233 ?_
                        rw [show (6 * (nI ((12 * tw) + r)) : Int32) = nI (6 * ((12 * tw) + r)) from pk_mul 6 ((12 * tw) + r)]
                        refine lv_iload hx hb dX11_text_234 (lv_at hl 4 rfl) ?_
                        refine lv_iadd hx hb dX11_text_236 ?_
                        rw [show ((nI (6 * ((12 * tw) + r))) + (nI cz) : Int32) = nI ((6 * ((12 * tw) + r)) + cz) from nI_add (6 * ((12 * tw) + r)) cz]
                        refine lv_aload_n hx hb dX11_text_237 rfl (lv_at hl 0 rfl) ?_
                        refine x_get (ref := "NoteHouseModel") F hP k614 rfl (fun _ h => List.mem_cons_of_mem _ (List.mem_append_right _ (h))) 32 (Nat.le_of_ble_eq_true rfl) (List.mem_cons_of_mem _ (List.mem_append_left _ (List.mem_append_left _ (List.mem_of_getElem? (i := 7) rfl)))) rfl rfl dX11_text_238 ?_
                        refine lv_bipush (v := 6) hx hb dX11_text_241 (by decide) ?_
                        refine lv_sipush (v := 144) hx hb dX11_text_243 (by decide) ?_
                        refine lv_iload hx hb dX11_text_246 (lv_at hl 3 rfl) ?_
                        refine lv_iadd hx hb dX11_text_248 ?_
                        rw [show (144 + (nI r) : Int32) = nI (144 + r) from nI_add 144 r]
                        refine lv_imul hx hb dX11_text_249 ?_
                        rw [show (6 * (nI (144 + r)) : Int32) = nI (6 * (144 + r)) from pk_mul 6 (144 + r)]
                        refine lv_iload hx hb dX11_text_250 (lv_at hl 4 rfl) ?_
                        refine lv_iadd hx hb dX11_text_252 ?_
                        rw [show ((nI (6 * (144 + r))) + (nI cz) : Int32) = nI ((6 * (144 + r)) + cz) from nI_add (6 * (144 + r)) cz]
                        refine x_iald F hP k619 (vp_in_nI (n := ((6 * (144 + r)) + cz)) (N := 936) (by omega) (by decide)) dX11_text_253 ?_
                        refine y_iast F hP hD hS k619 (vp_in_nI (n := ((6 * ((12 * tw) + r)) + cz)) (N := 936) (by omega) (by decide)) dX11_text_254 (fun w625 ew626 H locs hP hD hS => ?_)
                        have k627 := wd_at.pt ew626 k614 (tg_ne ty tm32 (by decide))
                        have k628 := wd_at.pt ew626 k615 (tg_ne tm24 tm32 (by decide))
                        have k629 := wd_at.pt ew626 k616 (tg_ne tm29 tm32 (by decide))
                        have k630 := wd_at.pt ew626 k617 (tg_ne tm30 tm32 (by decide))
                        have k631 := wd_at.pt ew626 k618 (tg_ne tm31 tm32 (by decide))
                        have k632 : wd_at w625 m32 (.inl (cy 2, 936, .inl (upd q32 (nI ((6 * ((12 * tw) + r)) + cz)).toNatClampNeg (q32 (nI ((6 * (144 + r)) + cz)).toNatClampNeg)))) := wd_at.ps ew626 k619
                        have k633 := wd_at.pt ew626 k620 (tg_ne tm33 tm32 (by decide))
                        have k634 := wd_at.pt ew626 k621 (tg_ne tm34 tm32 (by decide))
                        have kp635 := kp622.put ew626 s94
                        refine lv_aload_n hx hb dX11_text_255 rfl (lv_at hl 0 rfl) ?_
                        refine x_get (ref := "NoteHouseModel") F hP k627 rfl (fun _ h => List.mem_cons_of_mem _ (List.mem_append_right _ (h))) 33 (Nat.le_of_ble_eq_true rfl) (List.mem_cons_of_mem _ (List.mem_append_left _ (List.mem_append_left _ (List.mem_of_getElem? (i := 8) rfl)))) rfl rfl dX11_text_256 ?_
                        refine lv_bipush (v := 6) hx hb dX11_text_259 (by decide) ?_
                        refine lv_bipush (v := 12) hx hb dX11_text_261 (by decide) ?_
                        refine lv_iload_n hx hb dX11_text_263 rfl (lv_at hl 1 rfl) ?_
                        refine lv_imul hx hb dX11_text_264 ?_
                        rw [show (12 * (nI tw) : Int32) = nI (12 * tw) from pk_mul 12 tw]
                        refine lv_iload hx hb dX11_text_265 (lv_at hl 3 rfl) ?_
                        refine lv_iadd hx hb dX11_text_267 ?_
                        rw [show ((nI (12 * tw)) + (nI r) : Int32) = nI ((12 * tw) + r) from nI_add (12 * tw) r]
                        refine lv_imul hx hb dX11_text_268 ?_
                        rw [show (6 * (nI ((12 * tw) + r)) : Int32) = nI (6 * ((12 * tw) + r)) from pk_mul 6 ((12 * tw) + r)]
                        refine lv_iload hx hb dX11_text_269 (lv_at hl 4 rfl) ?_
                        refine lv_iadd hx hb dX11_text_271 ?_
                        rw [show ((nI (6 * ((12 * tw) + r))) + (nI cz) : Int32) = nI ((6 * ((12 * tw) + r)) + cz) from nI_add (6 * ((12 * tw) + r)) cz]
                        refine lv_aload_n hx hb dX11_text_272 rfl (lv_at hl 0 rfl) ?_
                        refine x_get (ref := "NoteHouseModel") F hP k627 rfl (fun _ h => List.mem_cons_of_mem _ (List.mem_append_right _ (h))) 33 (Nat.le_of_ble_eq_true rfl) (List.mem_cons_of_mem _ (List.mem_append_left _ (List.mem_append_left _ (List.mem_of_getElem? (i := 8) rfl)))) rfl rfl dX11_text_273 ?_
                        refine lv_bipush (v := 6) hx hb dX11_text_276 (by decide) ?_
                        refine lv_sipush (v := 144) hx hb dX11_text_278 (by decide) ?_
                        refine lv_iload hx hb dX11_text_281 (lv_at hl 3 rfl) ?_
                        refine lv_iadd hx hb dX11_text_283 ?_
                        rw [show (144 + (nI r) : Int32) = nI (144 + r) from nI_add 144 r]
                        refine lv_imul hx hb dX11_text_284 ?_
                        rw [show (6 * (nI (144 + r)) : Int32) = nI (6 * (144 + r)) from pk_mul 6 (144 + r)]
                        refine lv_iload hx hb dX11_text_285 (lv_at hl 4 rfl) ?_
                        refine lv_iadd hx hb dX11_text_287 ?_
                        rw [show ((nI (6 * (144 + r))) + (nI cz) : Int32) = nI ((6 * (144 + r)) + cz) from nI_add (6 * (144 + r)) cz]
                        refine x_iald F hP k633 (vp_in_nI (n := ((6 * (144 + r)) + cz)) (N := 936) (by omega) (by decide)) dX11_text_288 ?_
                        refine y_iast F hP hD hS k633 (vp_in_nI (n := ((6 * ((12 * tw) + r)) + cz)) (N := 936) (by omega) (by decide)) dX11_text_289 (fun w636 ew637 H locs hP hD hS => ?_)
                        have k638 := wd_at.pt ew637 k627 (tg_ne ty tm33 (by decide))
                        have k639 := wd_at.pt ew637 k628 (tg_ne tm24 tm33 (by decide))
                        have k640 := wd_at.pt ew637 k629 (tg_ne tm29 tm33 (by decide))
                        have k641 := wd_at.pt ew637 k630 (tg_ne tm30 tm33 (by decide))
                        have k642 := wd_at.pt ew637 k631 (tg_ne tm31 tm33 (by decide))
                        have k643 := wd_at.pt ew637 k632 (tg_ne tm32 tm33 (by decide))
                        have k644 : wd_at w636 m33 (.inl (cy 2, 936, .inl (upd q33 (nI ((6 * ((12 * tw) + r)) + cz)).toNatClampNeg (q33 (nI ((6 * (144 + r)) + cz)).toNatClampNeg)))) := wd_at.ps ew637 k633
                        have k645 := wd_at.pt ew637 k634 (tg_ne tm34 tm33 (by decide))
                        have kp646 := kp635.put ew637 s95
                        refine lv_aload_n hx hb dX11_text_290 rfl (lv_at hl 0 rfl) ?_
                        refine x_get (ref := "NoteHouseModel") F hP k638 rfl (fun _ h => List.mem_cons_of_mem _ (List.mem_append_right _ (h))) 34 (Nat.le_of_ble_eq_true rfl) (List.mem_cons_of_mem _ (List.mem_append_left _ (List.mem_append_left _ (List.mem_of_getElem? (i := 9) rfl)))) rfl rfl dX11_text_291 ?_
                        refine lv_bipush (v := 6) hx hb dX11_text_294 (by decide) ?_
                        refine lv_bipush (v := 12) hx hb dX11_text_296 (by decide) ?_
                        refine lv_iload_n hx hb dX11_text_298 rfl (lv_at hl 1 rfl) ?_
                        refine lv_imul hx hb dX11_text_299 ?_
                        rw [show (12 * (nI tw) : Int32) = nI (12 * tw) from pk_mul 12 tw]
                        refine lv_iload hx hb dX11_text_300 (lv_at hl 3 rfl) ?_
                        refine lv_iadd hx hb dX11_text_302 ?_
                        rw [show ((nI (12 * tw)) + (nI r) : Int32) = nI ((12 * tw) + r) from nI_add (12 * tw) r]
                        refine lv_imul hx hb dX11_text_303 ?_
                        rw [show (6 * (nI ((12 * tw) + r)) : Int32) = nI (6 * ((12 * tw) + r)) from pk_mul 6 ((12 * tw) + r)]
                        refine lv_iload hx hb dX11_text_304 (lv_at hl 4 rfl) ?_
                        refine lv_iadd hx hb dX11_text_306 ?_
                        rw [show ((nI (6 * ((12 * tw) + r))) + (nI cz) : Int32) = nI ((6 * ((12 * tw) + r)) + cz) from nI_add (6 * ((12 * tw) + r)) cz]
                        refine lv_aload_n hx hb dX11_text_307 rfl (lv_at hl 0 rfl) ?_
                        refine x_get (ref := "NoteHouseModel") F hP k638 rfl (fun _ h => List.mem_cons_of_mem _ (List.mem_append_right _ (h))) 34 (Nat.le_of_ble_eq_true rfl) (List.mem_cons_of_mem _ (List.mem_append_left _ (List.mem_append_left _ (List.mem_of_getElem? (i := 9) rfl)))) rfl rfl dX11_text_308 ?_
                        refine lv_bipush (v := 6) hx hb dX11_text_311 (by decide) ?_
                        refine lv_sipush (v := 144) hx hb dX11_text_313 (by decide) ?_
                        refine lv_iload hx hb dX11_text_316 (lv_at hl 3 rfl) ?_
                        refine lv_iadd hx hb dX11_text_318 ?_
                        rw [show (144 + (nI r) : Int32) = nI (144 + r) from nI_add 144 r]
                        refine lv_imul hx hb dX11_text_319 ?_
                        rw [show (6 * (nI (144 + r)) : Int32) = nI (6 * (144 + r)) from pk_mul 6 (144 + r)]
                        refine lv_iload hx hb dX11_text_320 (lv_at hl 4 rfl) ?_
                        refine lv_iadd hx hb dX11_text_322 ?_
                        rw [show ((nI (6 * (144 + r))) + (nI cz) : Int32) = nI ((6 * (144 + r)) + cz) from nI_add (6 * (144 + r)) cz]
                        refine x_iald F hP k645 (vp_in_nI (n := ((6 * (144 + r)) + cz)) (N := 936) (by omega) (by decide)) dX11_text_323 ?_
                        refine y_iast F hP hD hS k645 (vp_in_nI (n := ((6 * ((12 * tw) + r)) + cz)) (N := 936) (by omega) (by decide)) dX11_text_324 (fun w647 ew648 H locs hP hD hS => ?_)
                        have k649 := wd_at.pt ew648 k638 (tg_ne ty tm34 (by decide))
                        have k650 := wd_at.pt ew648 k639 (tg_ne tm24 tm34 (by decide))
                        have k651 := wd_at.pt ew648 k640 (tg_ne tm29 tm34 (by decide))
                        have k652 := wd_at.pt ew648 k641 (tg_ne tm30 tm34 (by decide))
                        have k653 := wd_at.pt ew648 k642 (tg_ne tm31 tm34 (by decide))
                        have k654 := wd_at.pt ew648 k643 (tg_ne tm32 tm34 (by decide))
                        have k655 := wd_at.pt ew648 k644 (tg_ne tm33 tm34 (by decide))
                        have k656 : wd_at w647 m34 (.inl (cy 2, 936, .inl (upd q34 (nI ((6 * ((12 * tw) + r)) + cz)).toNatClampNeg (q34 (nI ((6 * (144 + r)) + cz)).toNatClampNeg)))) := wd_at.ps ew648 k645
                        have kp657 := kp646.put ew648 s96
                        refine lv_iinc (v := nI (cz + 1)) (lv' := [(5, .int (nI (cz + 1))), (0, .ref y), (1, .int (nI tw)), (2, .int (nI n)), (4, .int (nI r))]) hx hb dX11_text_325 hl (k := 4) rfl (nI_1 cz) (by decide) rfl (fun ls hl => ?_)
                        refine lv_goto (tgt := 213) hx hb dX11_text_328 (by decide) ?_
                        exact ih213 (cz + 1) (upd q32 (nI ((6 * ((12 * tw) + r)) + cz)).toNatClampNeg (q32 (nI ((6 * (144 + r)) + cz)).toNatClampNeg)) (upd q33 (nI ((6 * ((12 * tw) + r)) + cz)).toNatClampNeg (q33 (nI ((6 * (144 + r)) + cz)).toNatClampNeg)) (upd q34 (nI ((6 * ((12 * tw) + r)) + cz)).toNatClampNeg (q34 (nI ((6 * (144 + r)) + cz)).toNatClampNeg)) w647 (by omega)  k649 k650 k651 k652 k653 k654 k655 k656 kp657 ls (lv_sub hl [1, 2, 3, 4, 0] rfl) H locs hP hD hS
                    exact lp213 _ 0 p32 p33 p34 w602 (Nat.zero_add 6)  k604 k605 k606 k607 k608 k609 k610 k611 kp612 ls (lv_sub hl [1, 2, 3, 4, 0] rfl) H locs hP hD hS
                exact lp158 _ 0 h30 h31 h32 h33 h34 w568 (Nat.zero_add n) (by assumption) k570 k571 k572 k573 k574 k575 k576 k577 kp578 ls (lv_sub hl [1, 2, 3, 0] rfl) H locs hP hD hS
              · have hfp : 0 < fq := Nat.pos_of_ne_zero (fun q => c_567 (by rw [q]; decide))
                refine lv_bipush (v := (-2)) hx hb dX11_text_140 (by decide) ?_
                refine lv_aload_n hx hb dX11_text_142 rfl (lv_at hl 0 rfl) ?_
                refine x_get (ref := "NoteHouseModel") F hP k558 rfl (fun _ h => List.mem_cons_of_mem _ (List.mem_append_right _ (h))) 28 (Nat.le_of_ble_eq_true rfl) (List.mem_cons_of_mem _ (List.mem_append_left _ (List.mem_append_left _ (List.mem_of_getElem? (i := 1) rfl)))) rfl rfl dX11_text_143 ?_
                refine lv_isub hx hb dX11_text_146 ?_
                exact y_ir K hP hD hS (Nat.le_of_ble_eq_true rfl) (Nat.le_of_ble_eq_true rfl) (ty := .int) rfl rfl dX11_text_147 (⟨0, nI a, nI b, nI fq, f29, h30, h31, h32, h33, h34, (-2) - (nI fq), rfl, by simp [txtC, c_4], hrl, by assumption, kp566, k558, k560, k561, k562, k563, k564, k565⟩)
            · have hf0 : fq = 0 := nI_z0 (by omega) c_555
              have hn9 := hn13 hf0
              refine lv_aload_n hx hb dX11_text_45 rfl (lv_at hl 0 rfl) ?_
              refine lv_sipush (v := 144) hx hb dX11_text_46 (by decide) ?_
              refine lv_iload_n hx hb dX11_text_49 rfl (lv_at hl 2 rfl) ?_
              refine lv_bipush (v := 12) hx hb dX11_text_50 (by decide) ?_
              refine lv_icmp_ge (tgt := 59) hx hb dX11_text_52 (by decide) (fun c_658 => ?_) (fun c_658 => ?_)
              · have hn12 : 12 ≤ n := (nI_leI (a := 12) (b := n) (by omega) (by omega)).mp c_658
                refine lv_iconst (v := 0) hx hb dX11_text_59 (by decide) ?_
                refine lv_iadd hx hb dX11_text_60 ?_
                rw [show (144 + 0 : Int32) = 144 from by decide]
                refine lv_iload_n hx hb dX11_text_61 rfl (lv_at hl 2 rfl) ?_
                refine x_callV (n := 2) (As := [.int 144, .int (nI n)]) (rest := []) F hP hD hS (m_rule l D cy sk sv w442 tg y m2 m3 m4 m5 m6 m8 m9 m10 m11 m12 m13 m14 m17 m18 m19 m20 m21 m22 m23 m24 m29 m30 m31 m32 m33 m34 m35 m36 m37 m39 m40 m41 m42 m43 m44 m45 m46 m47 m48 m49 m51 m52 m53 m54 m56 m57 m58 m59 pc ac sc ln sh gf v0 td (nI b) v50 f24 h30 h31 h32 h33 h34 a fq 144 n k443 k444 k446 k447 k448 k449 k450 (fun b => b = y ∨ b = m30 ∨ b = m31 ∨ b = m32 ∨ b = m33 ∨ b = m34) (Or.inl rfl) (Or.inr (Or.inl rfl)) (Or.inr (Or.inr (Or.inl rfl))) (Or.inr (Or.inr (Or.inr (Or.inl rfl)))) (Or.inr (Or.inr (Or.inr (Or.inr (Or.inl rfl))))) (Or.inr (Or.inr (Or.inr (Or.inr (Or.inr rfl))))) ty tm24 tm30 tm31 tm32 tm33 tm34 (by omega) (by omega) (by omega) (by omega) (by omega) (by assumption)) gX11_text_X11_rule rfl rfl (by decide +kernel) ⟨(Nat.le_of_ble_eq_true rfl), (Nat.le_of_ble_eq_true rfl)⟩ rfl hl.1 (Nat.le_of_ble_eq_true rfl) k443 rfl dX11_text_62 rfl ⟨(Nat.le_of_ble_eq_true rfl), (Nat.le_of_ble_eq_true rfl)⟩ (fun v660 w661 hp659 H locs hP hD hS => ?_)
                obtain ⟨ax662, bx663, fvx664, gx665, gx666, gx667, gx668, gx669, rfl, hz670, hz671, hz672, hz673, hz674, kq681, k675, k676, k677, k678, k679, k680⟩ := hp659
                have k682 := kq681.2 _ _ k444 (orN (tg_ne tm24 ty (by decide)) (orN (tg_ne tm24 tm30 (by decide)) (orN (tg_ne tm24 tm31 (by decide)) (orN (tg_ne tm24 tm32 (by decide)) (orN (tg_ne tm24 tm33 (by decide)) (tg_ne tm24 tm34 (by decide)))))))
                have k683 := kq681.2 _ _ k445 (orN (tg_ne tm29 ty (by decide)) (orN (tg_ne tm29 tm30 (by decide)) (orN (tg_ne tm29 tm31 (by decide)) (orN (tg_ne tm29 tm32 (by decide)) (orN (tg_ne tm29 tm33 (by decide)) (tg_ne tm29 tm34 (by decide)))))))
                have kp684 := kp451.tr kq681 (fun b9 hm q9 => (fun q9 => Or.elim q9 (fun q9 => q9 ▸ s90) (fun q9 => Or.elim q9 (fun q9 => q9 ▸ s92) (fun q9 => Or.elim q9 (fun q9 => q9 ▸ s93) (fun q9 => Or.elim q9 (fun q9 => q9 ▸ s94) (fun q9 => Or.elim q9 (fun q9 => q9 ▸ s95) (fun q9 => q9 ▸ s96)))))) q9)
                refine W.eq (g2 := F0 m 65 ls []) rfl (W.widen (k := 0) (n := 0) (Nat.le_of_ble_eq_true rfl) (Nat.le_of_ble_eq_true rfl) ?_)
                refine lv_iinc (v := nI (n + 1)) (lv' := [(2, .int (nI (n + 1))), (0, .ref y), (1, .int (nI tw)), (3, .int on)]) hx hb dX11_text_65 hl (k := 2) rfl (nI_1 n) (by decide) rfl (fun ls hl => ?_)
                refine lv_aload_n hx hb dX11_text_68 rfl (lv_at hl 1 rfl) ?_
                refine x_get (ref := "NoteHouseModel") F hP k675 rfl (fun _ h => List.mem_cons_of_mem _ (List.mem_append_right _ (h))) 28 (Nat.le_of_ble_eq_true rfl) (List.mem_cons_of_mem _ (List.mem_append_left _ (List.mem_append_left _ (List.mem_of_getElem? (i := 1) rfl)))) rfl rfl dX11_text_69 ?_
                refine lv_if_ne (tgt := 86) hx hb dX11_text_72 (by decide) (fun c_685 => ?_) (fun c_685 => ?_)
                · have hfp : 0 < fvx664 := nI_nz (by omega) c_685
                  refine lv_iconst (v := 0) hx hb dX11_text_86 (by decide) ?_
                  refine lv_istore_n (lv' := [(3, .int 0), (2, .int (nI (n + 1))), (0, .ref y), (1, .int (nI tw))]) hx hb dX11_text_87 rfl hl (by decide) rfl (fun ls hl => ?_)
                  refine lv_iload_n hx hb dX11_text_88 rfl (lv_at hl 0 rfl) ?_
                  refine lv_if_eq (tgt := 34) hx hb dX11_text_89 (by decide) (fun c_686 => ?_) (fun c_686 => absurd (show (0 : Int32) = (0 : Int32) by decide) c_686)
                  exact ih34 (n + 1) 0 ax662 bx663 fvx664 gx665 gx666 gx667 gx668 gx669 w661 (by omega) (by omega) (by omega) (by omega) (by omega) (by assumption) k675 k682 k683 k676 k677 k678 k679 k680 kp684 ls (lv_sub hl [2, 3, 1, 0] rfl) H locs hP hD hS
                · have hf0 : fvx664 = 0 := nI_z0 (by omega) c_685
                  refine lv_aload_n hx hb dX11_text_75 rfl (lv_at hl 1 rfl) ?_
                  refine x_callV (n := 0) (As := []) (rest := []) F hP hD hS (m_isEnd l D cy sk sv w661 tg y m2 m3 m4 m5 m6 m8 m9 m10 m11 m12 m13 m14 m17 m18 m19 m20 m21 m22 m23 m24 m29 m30 m31 m32 m33 m34 m35 m36 m37 m39 m40 m41 m42 m43 m44 m45 m46 m47 m48 m49 m51 m52 m53 m54 m56 m57 m58 m59 pc ac sc ln sh gf v0 td (nI bx663) (nI fvx664) v50 f24 ax662 k675 k682 (fun b => b = y) rfl ty tm24 (by omega) (by omega)) gX11_text_X11_isEnd rfl rfl (by decide +kernel) ⟨(Nat.le_of_ble_eq_true rfl), (Nat.le_of_ble_eq_true rfl)⟩ rfl hl.1 (Nat.le_of_ble_eq_true rfl) k675 rfl dX11_text_76 rfl ⟨(Nat.le_of_ble_eq_true rfl), (Nat.le_of_ble_eq_true rfl)⟩ (fun v688 w689 hp687 H locs hP hD hS => ?_)
                  obtain ⟨ax690, rx691, rfl, hz692, hz693, hz694, hz695, kq697, k696⟩ := hp687
                  have k698 := kq697.2 _ _ k682 (tg_ne tm24 ty (by decide))
                  have k699 := kq697.2 _ _ k683 (tg_ne tm29 ty (by decide))
                  have k700 := kq697.2 _ _ k676 (tg_ne tm30 ty (by decide))
                  have k701 := kq697.2 _ _ k677 (tg_ne tm31 ty (by decide))
                  have k702 := kq697.2 _ _ k678 (tg_ne tm32 ty (by decide))
                  have k703 := kq697.2 _ _ k679 (tg_ne tm33 ty (by decide))
                  have k704 := kq697.2 _ _ k680 (tg_ne tm34 ty (by decide))
                  have kp705 := kp684.tr kq697 (fun b9 hm q9 => (fun q9 => q9 ▸ s90) q9)
                  refine W.eq (g2 := F0 m 79 ls [.int rx691]) rfl (W.widen (k := 0) (n := 0) (Nat.le_of_ble_eq_true rfl) (Nat.le_of_ble_eq_true rfl) ?_)
                  refine lv_if_ne (tgt := 86) hx hb dX11_text_79 (by decide) (fun c_706 => ?_) (fun c_706 => ?_)
                  · refine lv_iconst (v := 0) hx hb dX11_text_86 (by decide) ?_
                    refine lv_istore_n (lv' := [(3, .int 0), (2, .int (nI (n + 1))), (0, .ref y), (1, .int (nI tw))]) hx hb dX11_text_87 rfl hl (by decide) rfl (fun ls hl => ?_)
                    refine lv_iload_n hx hb dX11_text_88 rfl (lv_at hl 0 rfl) ?_
                    refine lv_if_eq (tgt := 34) hx hb dX11_text_89 (by decide) (fun c_707 => ?_) (fun c_707 => absurd (show (0 : Int32) = (0 : Int32) by decide) c_707)
                    exact ih34 (n + 1) 0 ax690 ax690 fvx664 gx665 gx666 gx667 gx668 gx669 w689 (by omega) (by omega) (by omega) (by omega) (by omega) (by assumption) k696 k698 k699 k700 k701 k702 k703 k704 kp705 ls (lv_sub hl [2, 3, 1, 0] rfl) H locs hP hD hS
                  · have hne := hz695 c_706
                    refine lv_iconst (v := 1) hx hb dX11_text_82 (by decide) ?_
                    refine lv_goto (tgt := 87) hx hb dX11_text_83 (by decide) ?_
                    refine lv_istore_n (lv' := [(3, .int 1), (2, .int (nI (n + 1))), (0, .ref y), (1, .int (nI tw))]) hx hb dX11_text_87 rfl hl (by decide) rfl (fun ls hl => ?_)
                    refine lv_iload_n hx hb dX11_text_88 rfl (lv_at hl 0 rfl) ?_
                    refine lv_if_eq (tgt := 34) hx hb dX11_text_89 (by decide) (fun c_708 => absurd c_708 (show ¬ (1 : Int32) = (0 : Int32) by decide)) (fun c_708 => ?_)
                    refine lv_aload_n hx hb dX11_text_92 rfl (lv_at hl 2 rfl) ?_
                    refine x_get (ref := "NoteHouseModel") F hP k696 rfl (fun _ h => List.mem_cons_of_mem _ (List.mem_append_right _ (h))) 24 (Nat.le_of_ble_eq_true rfl) (List.mem_cons_of_mem _ (List.mem_append_left _ (List.mem_append_left _ (List.mem_of_getElem? (i := 2) rfl)))) rfl rfl dX11_text_93 ?_
                    refine lv_aload_n hx hb dX11_text_96 rfl (lv_at hl 2 rfl) ?_
                    refine x_get (ref := "NoteHouseModel") F hP k696 rfl (fun _ h => List.mem_cons_of_mem _ (List.mem_append_right _ (h))) 26 (Nat.le_of_ble_eq_true rfl) (List.mem_cons_of_mem _ (List.mem_append_left _ (List.mem_append_left _ (List.mem_of_getElem? (i := 0) rfl)))) rfl rfl dX11_text_97 ?_
                    refine x_bald F hP k698 (vp_in_nI (n := ax690) (N := 300) (by omega) (by decide)) dX11_text_100 ?_
                    refine lv_bipush (v := 59) hx hb dX11_text_101 (by decide) ?_
                    refine lv_icmp_eq (tgt := 115) hx hb dX11_text_103 (by decide) (fun c_709 => ?_) (fun c_709 => ?_)
                    · refine lv_aload_n hx hb dX11_text_115 rfl (lv_at hl 2 rfl) ?_
                      refine lv_dup hx hb dX11_text_116 rfl ?_
                      refine x_get (ref := "NoteHouseModel") F hP k696 rfl (fun _ h => List.mem_cons_of_mem _ (List.mem_append_right _ (h))) 26 (Nat.le_of_ble_eq_true rfl) (List.mem_cons_of_mem _ (List.mem_append_left _ (List.mem_append_left _ (List.mem_of_getElem? (i := 0) rfl)))) rfl rfl dX11_text_117 ?_
                      refine lv_iconst (v := 1) hx hb dX11_text_120 (by decide) ?_
                      refine lv_iadd hx hb dX11_text_121 ?_
                      rw [show ((nI ax690) + 1 : Int32) = nI (ax690 + 1) from nI_add ax690 1]
                      refine y_put (ref := "NoteHouseModel") F hP hD hS k696 rfl (fun _ h => List.mem_cons_of_mem _ (List.mem_append_right _ (h))) tyX11_ok nmX11 26 (Nat.le_of_ble_eq_true rfl) (List.mem_cons_of_mem _ (List.mem_append_left _ (List.mem_append_left _ (List.mem_of_getElem? (i := 0) rfl)))) rfl rfl rfl rfl (Nat.le_of_ble_eq_true rfl) dX11_text_122 (fun w710 ew711 H locs hP hD hS => ?_)
                      have k712 : wd_at w710 y (.inr (11, [.int v0, .int td, .ref m2, .ref m3, .ref m4, .ref m5, .ref m6, .int (nI pc), .ref m8, .ref m9, .ref m10, .ref m11, .ref m12, .ref m13, .ref m14, .int (nI ac), .int (nI sc), .ref m17, .ref m18, .ref m19, .ref m20, .ref m21, .ref m22, .ref m23, .ref m24, .int (nI ln), .int (nI (ax690 + 1)), .int (nI ax690), .int (nI fvx664), .ref m29, .ref m30, .ref m31, .ref m32, .ref m33, .ref m34, .ref m35, .ref m36, .ref m37, .int (nI sh), .ref m39, .ref m40, .ref m41, .ref m42, .ref m43, .ref m44, .ref m45, .ref m46, .ref m47, .ref m48, .ref m49, .int v50, .ref m51, .ref m52, .ref m53, .ref m54, .int (nI gf), .ref m56, .ref m57, .ref m58, .ref m59])) := wd_at.ps ew711 k696
                      have k713 := wd_at.pt ew711 k698 (tg_ne tm24 ty (by decide))
                      have k714 := wd_at.pt ew711 k699 (tg_ne tm29 ty (by decide))
                      have k715 := wd_at.pt ew711 k700 (tg_ne tm30 ty (by decide))
                      have k716 := wd_at.pt ew711 k701 (tg_ne tm31 ty (by decide))
                      have k717 := wd_at.pt ew711 k702 (tg_ne tm32 ty (by decide))
                      have k718 := wd_at.pt ew711 k703 (tg_ne tm33 ty (by decide))
                      have k719 := wd_at.pt ew711 k704 (tg_ne tm34 ty (by decide))
                      have kp720 := kp705.put ew711 s90
                      refine lv_goto (tgt := 34) hx hb dX11_text_125 (by decide) ?_
                      exact ih34 (n + 1) 1 (ax690 + 1) ax690 fvx664 gx665 gx666 gx667 gx668 gx669 w710 (by omega) (by omega) (by omega) (by omega) (by omega) (by assumption) k712 k713 k714 k715 k716 k717 k718 k719 kp720 ls (lv_sub hl [2, 3, 1, 0] rfl) H locs hP hD hS
                    · refine lv_aload_n hx hb dX11_text_106 rfl (lv_at hl 2 rfl) ?_
                      refine lv_iconst (v := 0) hx hb dX11_text_107 (by decide) ?_
                      refine lv_aload_n hx hb dX11_text_108 rfl (lv_at hl 2 rfl) ?_
                      refine x_get (ref := "NoteHouseModel") F hP k696 rfl (fun _ h => List.mem_cons_of_mem _ (List.mem_append_right _ (h))) 26 (Nat.le_of_ble_eq_true rfl) (List.mem_cons_of_mem _ (List.mem_append_left _ (List.mem_append_left _ (List.mem_of_getElem? (i := 0) rfl)))) rfl rfl dX11_text_109 ?_
                      refine x_callV (n := 2) (As := [.int 0, .int (nI ax690)]) (rest := []) F hP hD hS (m_fails l D cy sk sv w689 tg y m2 m3 m4 m5 m6 m8 m9 m10 m11 m12 m13 m14 m17 m18 m19 m20 m21 m22 m23 m24 m29 m30 m31 m32 m33 m34 m35 m36 m37 m39 m40 m41 m42 m43 m44 m45 m46 m47 m48 m49 m51 m52 m53 m54 m56 m57 m58 m59 pc ac sc ln sh gf v0 td (nI ax690) (nI ax690) v50 fvx664 0 ax690 k696 (fun b => b = y) rfl ty (by omega) (by omega) (by omega)) gX11_text_X11_fails rfl rfl (by decide +kernel) ⟨(Nat.le_of_ble_eq_true rfl), (Nat.le_of_ble_eq_true rfl)⟩ rfl hl.1 (Nat.le_of_ble_eq_true rfl) k696 rfl dX11_text_112 rfl ⟨(Nat.le_of_ble_eq_true rfl), (Nat.le_of_ble_eq_true rfl)⟩ (fun v722 w723 hp721 H locs hP hD hS => ?_)
                      obtain ⟨fwx724, rfl, hz725, hz726, kq728, k727⟩ := hp721
                      have k729 := kq728.2 _ _ k698 (tg_ne tm24 ty (by decide))
                      have k730 := kq728.2 _ _ k699 (tg_ne tm29 ty (by decide))
                      have k731 := kq728.2 _ _ k700 (tg_ne tm30 ty (by decide))
                      have k732 := kq728.2 _ _ k701 (tg_ne tm31 ty (by decide))
                      have k733 := kq728.2 _ _ k702 (tg_ne tm32 ty (by decide))
                      have k734 := kq728.2 _ _ k703 (tg_ne tm33 ty (by decide))
                      have k735 := kq728.2 _ _ k704 (tg_ne tm34 ty (by decide))
                      have kp736 := kp705.tr kq728 (fun b9 hm q9 => (fun q9 => q9 ▸ s90) q9)
                      refine W.eq (g2 := F0 m 115 ls []) rfl (W.widen (k := 0) (n := 0) (Nat.le_of_ble_eq_true rfl) (Nat.le_of_ble_eq_true rfl) ?_)
                      refine lv_aload_n hx hb dX11_text_115 rfl (lv_at hl 2 rfl) ?_
                      refine lv_dup hx hb dX11_text_116 rfl ?_
                      refine x_get (ref := "NoteHouseModel") F hP k727 rfl (fun _ h => List.mem_cons_of_mem _ (List.mem_append_right _ (h))) 26 (Nat.le_of_ble_eq_true rfl) (List.mem_cons_of_mem _ (List.mem_append_left _ (List.mem_append_left _ (List.mem_of_getElem? (i := 0) rfl)))) rfl rfl dX11_text_117 ?_
                      refine lv_iconst (v := 1) hx hb dX11_text_120 (by decide) ?_
                      refine lv_iadd hx hb dX11_text_121 ?_
                      rw [show ((nI ax690) + 1 : Int32) = nI (ax690 + 1) from nI_add ax690 1]
                      refine y_put (ref := "NoteHouseModel") F hP hD hS k727 rfl (fun _ h => List.mem_cons_of_mem _ (List.mem_append_right _ (h))) tyX11_ok nmX11 26 (Nat.le_of_ble_eq_true rfl) (List.mem_cons_of_mem _ (List.mem_append_left _ (List.mem_append_left _ (List.mem_of_getElem? (i := 0) rfl)))) rfl rfl rfl rfl (Nat.le_of_ble_eq_true rfl) dX11_text_122 (fun w737 ew738 H locs hP hD hS => ?_)
                      have k739 : wd_at w737 y (.inr (11, [.int v0, .int td, .ref m2, .ref m3, .ref m4, .ref m5, .ref m6, .int (nI pc), .ref m8, .ref m9, .ref m10, .ref m11, .ref m12, .ref m13, .ref m14, .int (nI ac), .int (nI sc), .ref m17, .ref m18, .ref m19, .ref m20, .ref m21, .ref m22, .ref m23, .ref m24, .int (nI ln), .int (nI (ax690 + 1)), .int (nI ax690), .int (nI fwx724), .ref m29, .ref m30, .ref m31, .ref m32, .ref m33, .ref m34, .ref m35, .ref m36, .ref m37, .int (nI sh), .ref m39, .ref m40, .ref m41, .ref m42, .ref m43, .ref m44, .ref m45, .ref m46, .ref m47, .ref m48, .ref m49, .int v50, .ref m51, .ref m52, .ref m53, .ref m54, .int (nI gf), .ref m56, .ref m57, .ref m58, .ref m59])) := wd_at.ps ew738 k727
                      have k740 := wd_at.pt ew738 k729 (tg_ne tm24 ty (by decide))
                      have k741 := wd_at.pt ew738 k730 (tg_ne tm29 ty (by decide))
                      have k742 := wd_at.pt ew738 k731 (tg_ne tm30 ty (by decide))
                      have k743 := wd_at.pt ew738 k732 (tg_ne tm31 ty (by decide))
                      have k744 := wd_at.pt ew738 k733 (tg_ne tm32 ty (by decide))
                      have k745 := wd_at.pt ew738 k734 (tg_ne tm33 ty (by decide))
                      have k746 := wd_at.pt ew738 k735 (tg_ne tm34 ty (by decide))
                      have kp747 := kp736.put ew738 s90
                      refine lv_goto (tgt := 34) hx hb dX11_text_125 (by decide) ?_
                      exact ih34 (n + 1) 1 (ax690 + 1) ax690 fwx724 gx665 gx666 gx667 gx668 gx669 w737 (by omega) (by omega) (by omega) (by omega) (by omega) (by assumption) k739 k740 k741 k742 k743 k744 k745 k746 kp747 ls (lv_sub hl [2, 3, 1, 0] rfl) H locs hP hD hS
              · have hn12 : n < 12 := nI_lt_of (a := n) (n := 12) c_658 (by omega)
                refine lv_iload_n hx hb dX11_text_55 rfl (lv_at hl 2 rfl) ?_
                refine lv_goto (tgt := 60) hx hb dX11_text_56 (by decide) ?_
                refine lv_iadd hx hb dX11_text_60 ?_
                rw [show (144 + (nI n) : Int32) = nI (144 + n) from nI_add 144 n]
                refine lv_iload_n hx hb dX11_text_61 rfl (lv_at hl 2 rfl) ?_
                refine x_callV (n := 2) (As := [.int (nI (144 + n)), .int (nI n)]) (rest := []) F hP hD hS (m_rule l D cy sk sv w442 tg y m2 m3 m4 m5 m6 m8 m9 m10 m11 m12 m13 m14 m17 m18 m19 m20 m21 m22 m23 m24 m29 m30 m31 m32 m33 m34 m35 m36 m37 m39 m40 m41 m42 m43 m44 m45 m46 m47 m48 m49 m51 m52 m53 m54 m56 m57 m58 m59 pc ac sc ln sh gf v0 td (nI b) v50 f24 h30 h31 h32 h33 h34 a fq (144 + n) n k443 k444 k446 k447 k448 k449 k450 (fun b => b = y ∨ b = m30 ∨ b = m31 ∨ b = m32 ∨ b = m33 ∨ b = m34) (Or.inl rfl) (Or.inr (Or.inl rfl)) (Or.inr (Or.inr (Or.inl rfl))) (Or.inr (Or.inr (Or.inr (Or.inl rfl)))) (Or.inr (Or.inr (Or.inr (Or.inr (Or.inl rfl))))) (Or.inr (Or.inr (Or.inr (Or.inr (Or.inr rfl))))) ty tm24 tm30 tm31 tm32 tm33 tm34 (by omega) (by omega) (by omega) (by omega) (by omega) (by assumption)) gX11_text_X11_rule rfl rfl (by decide +kernel) ⟨(Nat.le_of_ble_eq_true rfl), (Nat.le_of_ble_eq_true rfl)⟩ rfl hl.1 (Nat.le_of_ble_eq_true rfl) k443 rfl dX11_text_62 rfl ⟨(Nat.le_of_ble_eq_true rfl), (Nat.le_of_ble_eq_true rfl)⟩ (fun v749 w750 hp748 H locs hP hD hS => ?_)
                obtain ⟨ax751, bx752, fvx753, gx754, gx755, gx756, gx757, gx758, rfl, hz759, hz760, hz761, hz762, hz763, kq770, k764, k765, k766, k767, k768, k769⟩ := hp748
                have k771 := kq770.2 _ _ k444 (orN (tg_ne tm24 ty (by decide)) (orN (tg_ne tm24 tm30 (by decide)) (orN (tg_ne tm24 tm31 (by decide)) (orN (tg_ne tm24 tm32 (by decide)) (orN (tg_ne tm24 tm33 (by decide)) (tg_ne tm24 tm34 (by decide)))))))
                have k772 := kq770.2 _ _ k445 (orN (tg_ne tm29 ty (by decide)) (orN (tg_ne tm29 tm30 (by decide)) (orN (tg_ne tm29 tm31 (by decide)) (orN (tg_ne tm29 tm32 (by decide)) (orN (tg_ne tm29 tm33 (by decide)) (tg_ne tm29 tm34 (by decide)))))))
                have kp773 := kp451.tr kq770 (fun b9 hm q9 => (fun q9 => Or.elim q9 (fun q9 => q9 ▸ s90) (fun q9 => Or.elim q9 (fun q9 => q9 ▸ s92) (fun q9 => Or.elim q9 (fun q9 => q9 ▸ s93) (fun q9 => Or.elim q9 (fun q9 => q9 ▸ s94) (fun q9 => Or.elim q9 (fun q9 => q9 ▸ s95) (fun q9 => q9 ▸ s96)))))) q9)
                refine W.eq (g2 := F0 m 65 ls []) rfl (W.widen (k := 0) (n := 0) (Nat.le_of_ble_eq_true rfl) (Nat.le_of_ble_eq_true rfl) ?_)
                refine lv_iinc (v := nI (n + 1)) (lv' := [(2, .int (nI (n + 1))), (0, .ref y), (1, .int (nI tw)), (3, .int on)]) hx hb dX11_text_65 hl (k := 2) rfl (nI_1 n) (by decide) rfl (fun ls hl => ?_)
                refine lv_aload_n hx hb dX11_text_68 rfl (lv_at hl 1 rfl) ?_
                refine x_get (ref := "NoteHouseModel") F hP k764 rfl (fun _ h => List.mem_cons_of_mem _ (List.mem_append_right _ (h))) 28 (Nat.le_of_ble_eq_true rfl) (List.mem_cons_of_mem _ (List.mem_append_left _ (List.mem_append_left _ (List.mem_of_getElem? (i := 1) rfl)))) rfl rfl dX11_text_69 ?_
                refine lv_if_ne (tgt := 86) hx hb dX11_text_72 (by decide) (fun c_774 => ?_) (fun c_774 => ?_)
                · have hfp : 0 < fvx753 := nI_nz (by omega) c_774
                  refine lv_iconst (v := 0) hx hb dX11_text_86 (by decide) ?_
                  refine lv_istore_n (lv' := [(3, .int 0), (2, .int (nI (n + 1))), (0, .ref y), (1, .int (nI tw))]) hx hb dX11_text_87 rfl hl (by decide) rfl (fun ls hl => ?_)
                  refine lv_iload_n hx hb dX11_text_88 rfl (lv_at hl 0 rfl) ?_
                  refine lv_if_eq (tgt := 34) hx hb dX11_text_89 (by decide) (fun c_775 => ?_) (fun c_775 => absurd (show (0 : Int32) = (0 : Int32) by decide) c_775)
                  exact ih34 (n + 1) 0 ax751 bx752 fvx753 gx754 gx755 gx756 gx757 gx758 w750 (by omega) (by omega) (by omega) (by omega) (by omega) (by assumption) k764 k771 k772 k765 k766 k767 k768 k769 kp773 ls (lv_sub hl [2, 3, 1, 0] rfl) H locs hP hD hS
                · have hf0 : fvx753 = 0 := nI_z0 (by omega) c_774
                  refine lv_aload_n hx hb dX11_text_75 rfl (lv_at hl 1 rfl) ?_
                  refine x_callV (n := 0) (As := []) (rest := []) F hP hD hS (m_isEnd l D cy sk sv w750 tg y m2 m3 m4 m5 m6 m8 m9 m10 m11 m12 m13 m14 m17 m18 m19 m20 m21 m22 m23 m24 m29 m30 m31 m32 m33 m34 m35 m36 m37 m39 m40 m41 m42 m43 m44 m45 m46 m47 m48 m49 m51 m52 m53 m54 m56 m57 m58 m59 pc ac sc ln sh gf v0 td (nI bx752) (nI fvx753) v50 f24 ax751 k764 k771 (fun b => b = y) rfl ty tm24 (by omega) (by omega)) gX11_text_X11_isEnd rfl rfl (by decide +kernel) ⟨(Nat.le_of_ble_eq_true rfl), (Nat.le_of_ble_eq_true rfl)⟩ rfl hl.1 (Nat.le_of_ble_eq_true rfl) k764 rfl dX11_text_76 rfl ⟨(Nat.le_of_ble_eq_true rfl), (Nat.le_of_ble_eq_true rfl)⟩ (fun v777 w778 hp776 H locs hP hD hS => ?_)
                  obtain ⟨ax779, rx780, rfl, hz781, hz782, hz783, hz784, kq786, k785⟩ := hp776
                  have k787 := kq786.2 _ _ k771 (tg_ne tm24 ty (by decide))
                  have k788 := kq786.2 _ _ k772 (tg_ne tm29 ty (by decide))
                  have k789 := kq786.2 _ _ k765 (tg_ne tm30 ty (by decide))
                  have k790 := kq786.2 _ _ k766 (tg_ne tm31 ty (by decide))
                  have k791 := kq786.2 _ _ k767 (tg_ne tm32 ty (by decide))
                  have k792 := kq786.2 _ _ k768 (tg_ne tm33 ty (by decide))
                  have k793 := kq786.2 _ _ k769 (tg_ne tm34 ty (by decide))
                  have kp794 := kp773.tr kq786 (fun b9 hm q9 => (fun q9 => q9 ▸ s90) q9)
                  refine W.eq (g2 := F0 m 79 ls [.int rx780]) rfl (W.widen (k := 0) (n := 0) (Nat.le_of_ble_eq_true rfl) (Nat.le_of_ble_eq_true rfl) ?_)
                  refine lv_if_ne (tgt := 86) hx hb dX11_text_79 (by decide) (fun c_795 => ?_) (fun c_795 => ?_)
                  · refine lv_iconst (v := 0) hx hb dX11_text_86 (by decide) ?_
                    refine lv_istore_n (lv' := [(3, .int 0), (2, .int (nI (n + 1))), (0, .ref y), (1, .int (nI tw))]) hx hb dX11_text_87 rfl hl (by decide) rfl (fun ls hl => ?_)
                    refine lv_iload_n hx hb dX11_text_88 rfl (lv_at hl 0 rfl) ?_
                    refine lv_if_eq (tgt := 34) hx hb dX11_text_89 (by decide) (fun c_796 => ?_) (fun c_796 => absurd (show (0 : Int32) = (0 : Int32) by decide) c_796)
                    exact ih34 (n + 1) 0 ax779 ax779 fvx753 gx754 gx755 gx756 gx757 gx758 w778 (by omega) (by omega) (by omega) (by omega) (by omega) (by assumption) k785 k787 k788 k789 k790 k791 k792 k793 kp794 ls (lv_sub hl [2, 3, 1, 0] rfl) H locs hP hD hS
                  · have hne := hz784 c_795
                    refine lv_iconst (v := 1) hx hb dX11_text_82 (by decide) ?_
                    refine lv_goto (tgt := 87) hx hb dX11_text_83 (by decide) ?_
                    refine lv_istore_n (lv' := [(3, .int 1), (2, .int (nI (n + 1))), (0, .ref y), (1, .int (nI tw))]) hx hb dX11_text_87 rfl hl (by decide) rfl (fun ls hl => ?_)
                    refine lv_iload_n hx hb dX11_text_88 rfl (lv_at hl 0 rfl) ?_
                    refine lv_if_eq (tgt := 34) hx hb dX11_text_89 (by decide) (fun c_797 => absurd c_797 (show ¬ (1 : Int32) = (0 : Int32) by decide)) (fun c_797 => ?_)
                    refine lv_aload_n hx hb dX11_text_92 rfl (lv_at hl 2 rfl) ?_
                    refine x_get (ref := "NoteHouseModel") F hP k785 rfl (fun _ h => List.mem_cons_of_mem _ (List.mem_append_right _ (h))) 24 (Nat.le_of_ble_eq_true rfl) (List.mem_cons_of_mem _ (List.mem_append_left _ (List.mem_append_left _ (List.mem_of_getElem? (i := 2) rfl)))) rfl rfl dX11_text_93 ?_
                    refine lv_aload_n hx hb dX11_text_96 rfl (lv_at hl 2 rfl) ?_
                    refine x_get (ref := "NoteHouseModel") F hP k785 rfl (fun _ h => List.mem_cons_of_mem _ (List.mem_append_right _ (h))) 26 (Nat.le_of_ble_eq_true rfl) (List.mem_cons_of_mem _ (List.mem_append_left _ (List.mem_append_left _ (List.mem_of_getElem? (i := 0) rfl)))) rfl rfl dX11_text_97 ?_
                    refine x_bald F hP k787 (vp_in_nI (n := ax779) (N := 300) (by omega) (by decide)) dX11_text_100 ?_
                    refine lv_bipush (v := 59) hx hb dX11_text_101 (by decide) ?_
                    refine lv_icmp_eq (tgt := 115) hx hb dX11_text_103 (by decide) (fun c_798 => ?_) (fun c_798 => ?_)
                    · refine lv_aload_n hx hb dX11_text_115 rfl (lv_at hl 2 rfl) ?_
                      refine lv_dup hx hb dX11_text_116 rfl ?_
                      refine x_get (ref := "NoteHouseModel") F hP k785 rfl (fun _ h => List.mem_cons_of_mem _ (List.mem_append_right _ (h))) 26 (Nat.le_of_ble_eq_true rfl) (List.mem_cons_of_mem _ (List.mem_append_left _ (List.mem_append_left _ (List.mem_of_getElem? (i := 0) rfl)))) rfl rfl dX11_text_117 ?_
                      refine lv_iconst (v := 1) hx hb dX11_text_120 (by decide) ?_
                      refine lv_iadd hx hb dX11_text_121 ?_
                      rw [show ((nI ax779) + 1 : Int32) = nI (ax779 + 1) from nI_add ax779 1]
                      refine y_put (ref := "NoteHouseModel") F hP hD hS k785 rfl (fun _ h => List.mem_cons_of_mem _ (List.mem_append_right _ (h))) tyX11_ok nmX11 26 (Nat.le_of_ble_eq_true rfl) (List.mem_cons_of_mem _ (List.mem_append_left _ (List.mem_append_left _ (List.mem_of_getElem? (i := 0) rfl)))) rfl rfl rfl rfl (Nat.le_of_ble_eq_true rfl) dX11_text_122 (fun w799 ew800 H locs hP hD hS => ?_)
                      have k801 : wd_at w799 y (.inr (11, [.int v0, .int td, .ref m2, .ref m3, .ref m4, .ref m5, .ref m6, .int (nI pc), .ref m8, .ref m9, .ref m10, .ref m11, .ref m12, .ref m13, .ref m14, .int (nI ac), .int (nI sc), .ref m17, .ref m18, .ref m19, .ref m20, .ref m21, .ref m22, .ref m23, .ref m24, .int (nI ln), .int (nI (ax779 + 1)), .int (nI ax779), .int (nI fvx753), .ref m29, .ref m30, .ref m31, .ref m32, .ref m33, .ref m34, .ref m35, .ref m36, .ref m37, .int (nI sh), .ref m39, .ref m40, .ref m41, .ref m42, .ref m43, .ref m44, .ref m45, .ref m46, .ref m47, .ref m48, .ref m49, .int v50, .ref m51, .ref m52, .ref m53, .ref m54, .int (nI gf), .ref m56, .ref m57, .ref m58, .ref m59])) := wd_at.ps ew800 k785
                      have k802 := wd_at.pt ew800 k787 (tg_ne tm24 ty (by decide))
                      have k803 := wd_at.pt ew800 k788 (tg_ne tm29 ty (by decide))
                      have k804 := wd_at.pt ew800 k789 (tg_ne tm30 ty (by decide))
                      have k805 := wd_at.pt ew800 k790 (tg_ne tm31 ty (by decide))
                      have k806 := wd_at.pt ew800 k791 (tg_ne tm32 ty (by decide))
                      have k807 := wd_at.pt ew800 k792 (tg_ne tm33 ty (by decide))
                      have k808 := wd_at.pt ew800 k793 (tg_ne tm34 ty (by decide))
                      have kp809 := kp794.put ew800 s90
                      refine lv_goto (tgt := 34) hx hb dX11_text_125 (by decide) ?_
                      exact ih34 (n + 1) 1 (ax779 + 1) ax779 fvx753 gx754 gx755 gx756 gx757 gx758 w799 (by omega) (by omega) (by omega) (by omega) (by omega) (by assumption) k801 k802 k803 k804 k805 k806 k807 k808 kp809 ls (lv_sub hl [2, 3, 1, 0] rfl) H locs hP hD hS
                    · refine lv_aload_n hx hb dX11_text_106 rfl (lv_at hl 2 rfl) ?_
                      refine lv_iconst (v := 0) hx hb dX11_text_107 (by decide) ?_
                      refine lv_aload_n hx hb dX11_text_108 rfl (lv_at hl 2 rfl) ?_
                      refine x_get (ref := "NoteHouseModel") F hP k785 rfl (fun _ h => List.mem_cons_of_mem _ (List.mem_append_right _ (h))) 26 (Nat.le_of_ble_eq_true rfl) (List.mem_cons_of_mem _ (List.mem_append_left _ (List.mem_append_left _ (List.mem_of_getElem? (i := 0) rfl)))) rfl rfl dX11_text_109 ?_
                      refine x_callV (n := 2) (As := [.int 0, .int (nI ax779)]) (rest := []) F hP hD hS (m_fails l D cy sk sv w778 tg y m2 m3 m4 m5 m6 m8 m9 m10 m11 m12 m13 m14 m17 m18 m19 m20 m21 m22 m23 m24 m29 m30 m31 m32 m33 m34 m35 m36 m37 m39 m40 m41 m42 m43 m44 m45 m46 m47 m48 m49 m51 m52 m53 m54 m56 m57 m58 m59 pc ac sc ln sh gf v0 td (nI ax779) (nI ax779) v50 fvx753 0 ax779 k785 (fun b => b = y) rfl ty (by omega) (by omega) (by omega)) gX11_text_X11_fails rfl rfl (by decide +kernel) ⟨(Nat.le_of_ble_eq_true rfl), (Nat.le_of_ble_eq_true rfl)⟩ rfl hl.1 (Nat.le_of_ble_eq_true rfl) k785 rfl dX11_text_112 rfl ⟨(Nat.le_of_ble_eq_true rfl), (Nat.le_of_ble_eq_true rfl)⟩ (fun v811 w812 hp810 H locs hP hD hS => ?_)
                      obtain ⟨fwx813, rfl, hz814, hz815, kq817, k816⟩ := hp810
                      have k818 := kq817.2 _ _ k787 (tg_ne tm24 ty (by decide))
                      have k819 := kq817.2 _ _ k788 (tg_ne tm29 ty (by decide))
                      have k820 := kq817.2 _ _ k789 (tg_ne tm30 ty (by decide))
                      have k821 := kq817.2 _ _ k790 (tg_ne tm31 ty (by decide))
                      have k822 := kq817.2 _ _ k791 (tg_ne tm32 ty (by decide))
                      have k823 := kq817.2 _ _ k792 (tg_ne tm33 ty (by decide))
                      have k824 := kq817.2 _ _ k793 (tg_ne tm34 ty (by decide))
                      have kp825 := kp794.tr kq817 (fun b9 hm q9 => (fun q9 => q9 ▸ s90) q9)
                      refine W.eq (g2 := F0 m 115 ls []) rfl (W.widen (k := 0) (n := 0) (Nat.le_of_ble_eq_true rfl) (Nat.le_of_ble_eq_true rfl) ?_)
                      refine lv_aload_n hx hb dX11_text_115 rfl (lv_at hl 2 rfl) ?_
                      refine lv_dup hx hb dX11_text_116 rfl ?_
                      refine x_get (ref := "NoteHouseModel") F hP k816 rfl (fun _ h => List.mem_cons_of_mem _ (List.mem_append_right _ (h))) 26 (Nat.le_of_ble_eq_true rfl) (List.mem_cons_of_mem _ (List.mem_append_left _ (List.mem_append_left _ (List.mem_of_getElem? (i := 0) rfl)))) rfl rfl dX11_text_117 ?_
                      refine lv_iconst (v := 1) hx hb dX11_text_120 (by decide) ?_
                      refine lv_iadd hx hb dX11_text_121 ?_
                      rw [show ((nI ax779) + 1 : Int32) = nI (ax779 + 1) from nI_add ax779 1]
                      refine y_put (ref := "NoteHouseModel") F hP hD hS k816 rfl (fun _ h => List.mem_cons_of_mem _ (List.mem_append_right _ (h))) tyX11_ok nmX11 26 (Nat.le_of_ble_eq_true rfl) (List.mem_cons_of_mem _ (List.mem_append_left _ (List.mem_append_left _ (List.mem_of_getElem? (i := 0) rfl)))) rfl rfl rfl rfl (Nat.le_of_ble_eq_true rfl) dX11_text_122 (fun w826 ew827 H locs hP hD hS => ?_)
                      have k828 : wd_at w826 y (.inr (11, [.int v0, .int td, .ref m2, .ref m3, .ref m4, .ref m5, .ref m6, .int (nI pc), .ref m8, .ref m9, .ref m10, .ref m11, .ref m12, .ref m13, .ref m14, .int (nI ac), .int (nI sc), .ref m17, .ref m18, .ref m19, .ref m20, .ref m21, .ref m22, .ref m23, .ref m24, .int (nI ln), .int (nI (ax779 + 1)), .int (nI ax779), .int (nI fwx813), .ref m29, .ref m30, .ref m31, .ref m32, .ref m33, .ref m34, .ref m35, .ref m36, .ref m37, .int (nI sh), .ref m39, .ref m40, .ref m41, .ref m42, .ref m43, .ref m44, .ref m45, .ref m46, .ref m47, .ref m48, .ref m49, .int v50, .ref m51, .ref m52, .ref m53, .ref m54, .int (nI gf), .ref m56, .ref m57, .ref m58, .ref m59])) := wd_at.ps ew827 k816
                      have k829 := wd_at.pt ew827 k818 (tg_ne tm24 ty (by decide))
                      have k830 := wd_at.pt ew827 k819 (tg_ne tm29 ty (by decide))
                      have k831 := wd_at.pt ew827 k820 (tg_ne tm30 ty (by decide))
                      have k832 := wd_at.pt ew827 k821 (tg_ne tm31 ty (by decide))
                      have k833 := wd_at.pt ew827 k822 (tg_ne tm32 ty (by decide))
                      have k834 := wd_at.pt ew827 k823 (tg_ne tm33 ty (by decide))
                      have k835 := wd_at.pt ew827 k824 (tg_ne tm34 ty (by decide))
                      have kp836 := kp825.put ew827 s90
                      refine lv_goto (tgt := 34) hx hb dX11_text_125 (by decide) ?_
                      exact ih34 (n + 1) 1 (ax779 + 1) ax779 fwx813 gx754 gx755 gx756 gx757 gx758 w826 (by omega) (by omega) (by omega) (by omega) (by omega) (by assumption) k828 k829 k830 k831 k832 k833 k834 k835 kp836 ls (lv_sub hl [2, 3, 1, 0] rfl) H locs hP hD hS
      exact lp34 _ 0 1 ax30 ax30 0 f30 f31 f32 f33 f34 w29 (Nat.zero_add 14) (by omega) (by omega) (by omega) (by omega) hc k36 k38 k39 k40 k41 k42 k43 k44 kp45 ls (lv_sub hl [2, 3, 1, 0] rfl) H locs hP hD hS
  · refine lv_iconst (v := (-1)) hx hb dX11_text_7 (by decide) ?_
    exact y_ir K hP hD hS (Nat.le_of_ble_eq_true rfl) (Nat.le_of_ble_eq_true rfl) (ty := .int) rfl rfl dX11_text_8 (⟨ln, v26, v27, v28, f29, f30, f31, f32, f33, f34, (-1), rfl, by simp [txtC, c_4], hrl, by assumption, kp0, c90, c92, c93, c94, c95, c96, c97⟩)
