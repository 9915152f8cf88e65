set_option maxHeartbeats 4000000 in
set_option maxRecDepth 100000 in
theorem m_text (l : Launch) (D : va_G) (cy : Nat → ClassId) (sk sv : Nat → Nat) (w : Wd) (tg : Nat → Nat) (y m2 m3 m4 m5 m6 m8 m9 m10 m11 m12 m13 m14 m17 m18 m19 m20 m21 m22 m23 m24 m29 m30 m31 m32 m33 m34 m35 m36 m37 m39 m40 m41 m42 m43 m44 m45 m46 m47 m48 m49 m51 m52 m53 m54 m56 m57 m58 m59 pc ac sc ln sh gf : Nat) (v0 td v26 v27 v28 v50 : Int32) (f24 : Nat → Int32) (f29 : Nat → Int32) (f30 : Nat → Int32) (f31 : Nat → Int32) (f32 : Nat → Int32) (f33 : Nat → Int32) (f34 : Nat → Int32) (x1 : Int32) (rt : Nat → Nat) (tT : Nat → Nat → Nat → Int32) (c90 : wd_at w y (.inr (11, [.int v0, .int td, .ref m2, .ref m3, .ref m4, .ref m5, .ref m6, .int (nI pc), .ref m8, .ref m9, .ref m10, .ref m11, .ref m12, .ref m13, .ref m14, .int (nI ac), .int (nI sc), .ref m17, .ref m18, .ref m19, .ref m20, .ref m21, .ref m22, .ref m23, .ref m24, .int (nI ln), .int v26, .int v27, .int v28, .ref m29, .ref m30, .ref m31, .ref m32, .ref m33, .ref m34, .ref m35, .ref m36, .ref m37, .int (nI sh), .ref m39, .ref m40, .ref m41, .ref m42, .ref m43, .ref m44, .ref m45, .ref m46, .ref m47, .ref m48, .ref m49, .int v50, .ref m51, .ref m52, .ref m53, .ref m54, .int (nI gf), .ref m56, .ref m57, .ref m58, .ref m59]))) (c91 : wd_at w m24 (.inl (cy 0, 300, .inl f24))) (c92 : wd_at w m29 (.inl (cy 2, 12, .inl f29))) (c93 : wd_at w m30 (.inl (cy 2, 156, .inl f30))) (c94 : wd_at w m31 (.inl (cy 2, 156, .inl f31))) (c95 : wd_at w m32 (.inl (cy 2, 936, .inl f32))) (c96 : wd_at w m33 (.inl (cy 2, 936, .inl f33))) (c97 : wd_at w m34 (.inl (cy 2, 936, .inl f34)))  (S : Nat → Prop) (s90 : S y) (s91 : S m29) (s92 : S m30) (s93 : S m31) (s94 : S m32) (s95 : S m33) (s96 : S m34) (ty : tg y = 10000) (tm24 : tg m24 = 10124) (tm29 : tg m29 = 10129) (tm30 : tg m30 = 10130) (tm31 : tg m31 = 10131) (tm32 : tg m32 = 10132) (tm33 : tg m33 = 10133) (tm34 : tg m34 = 10134) (hln : ln ≤ 300) (hrl : bOK 12 13 f29) (hc : cOK f31) (hmt0 : mtR f29 f30 f31 f32 f33 f34 rt tT) : Ct l D cy sk sv yX11_text wsX11_text ({ frames := 7, cells := 0, slots := 0, locals := 155 }) [.ref y, .int x1] w (fun v w1 => ∃ (ln1 : Nat) (w26 : Int32) (w27 : Int32) (w28 : Int32) (g29 : Nat → Int32) (g30 : Nat → Int32) (g31 : Nat → Int32) (g32 : Nat → Int32) (g33 : Nat → Int32) (g34 : Nat → Int32) (r1 : Int32), v = some (.int r1) ∧ (ln1 = txtC ln x1) ∧ (bOK 12 13 g29) ∧ (cOK g31) ∧ (mtR g29 g30 g31 g32 g33 g34 (txN rt f24 ln x1) (txV tT f24 ln x1)) ∧ wd_kp S w w1 ∧ wd_at w1 y (.inr (11, [.int v0, .int td, .ref m2, .ref m3, .ref m4, .ref m5, .ref m6, .int (nI pc), .ref m8, .ref m9, .ref m10, .ref m11, .ref m12, .ref m13, .ref m14, .int (nI ac), .int (nI sc), .ref m17, .ref m18, .ref m19, .ref m20, .ref m21, .ref m22, .ref m23, .ref m24, .int (nI ln1), .int w26, .int w27, .int w28, .ref m29, .ref m30, .ref m31, .ref m32, .ref m33, .ref m34, .ref m35, .ref m36, .ref m37, .int (nI sh), .ref m39, .ref m40, .ref m41, .ref m42, .ref m43, .ref m44, .ref m45, .ref m46, .ref m47, .ref m48, .ref m49, .int v50, .ref m51, .ref m52, .ref m53, .ref m54, .int (nI gf), .ref m56, .ref m57, .ref m58, .ref m59])) ∧ wd_at w1 m29 (.inl (cy 2, 12, .inl g29)) ∧ wd_at w1 m30 (.inl (cy 2, 156, .inl g30)) ∧ wd_at w1 m31 (.inl (cy 2, 156, .inl g31)) ∧ wd_at w1 m32 (.inl (cy 2, 936, .inl g32)) ∧ wd_at w1 m33 (.inl (cy 2, 936, .inl g33)) ∧ wd_at w1 m34 (.inl (cy 2, 936, .inl g34))) := by
  refine Ct.by (cc := cX11_text) (maxL := 6) (ret := (some .int)) (by decide +kernel) rfl (Nat.le_of_ble_eq_true rfl) ?_
  intro p e s m args below meth c A Q F hnm K ls hl
  have F : wd_Fx p s m args meth c cX11_text 6 wsX11_text RX11 D cy sk sv A := F
  have hl : lv_has ls 6 [(0, .ref y), (1, .int x1)] := hl
  have hx := F.1.1
  have hb := F.1.2.1
  have hown := F.1.2.2.2.1
  have hts := F.1.2.2.2.2
  intro H locs hP hD hS
  have kp0 : wd_kp S w w := wd_kp.rf
  refine lv_iload_n hx hb dX11_text_0 rfl (lv_at hl 1 rfl) ?_
  refine x_callS (n := 1) (As := [.int x1]) (rest := []) F hP hD hS (g_mTown l D cy sk sv w x1) gX11_text_X11_isTown rfl (by decide +kernel) ⟨(Nat.le_of_ble_eq_true rfl), (Nat.le_of_ble_eq_true rfl)⟩ rfl hl.1 (Nat.le_of_ble_eq_true rfl) dX11_text_1 rfl ⟨(Nat.le_of_ble_eq_true rfl), (Nat.le_of_ble_eq_true rfl)⟩ (fun v2 w3 hp1 H locs hP hD hS => ?_)
  obtain ⟨rfl, rfl⟩ := hp1
  refine W.eq (g2 := F0 m 4 ls [.int (wi x1 0 11)]) rfl (W.widen (k := 0) (n := 0) (Nat.le_of_ble_eq_true rfl) (Nat.le_of_ble_eq_true rfl) ?_)
  refine lv_if_ne (tgt := 9) hx hb dX11_text_4 (by decide) (fun c4 => ?_) (fun c4 => ?_)
  · obtain ⟨tw, htw, rfl, cltw⟩ := wi_t c4
    refine lv_aload_n hx hb dX11_text_9 rfl (lv_at hl 0 rfl) ?_
    refine lv_iconst (v := 0) hx hb dX11_text_10 (by decide) ?_
    refine y_put (ref := "NoteHouseModel") F hP hD hS c90 rfl (fun _ h => List.mem_cons_of_mem _ (List.mem_append_right _ (h))) tyX11_ok nmX11 26 (Nat.le_of_ble_eq_true rfl) (List.mem_cons_of_mem _ (List.mem_append_left _ (List.mem_append_left _ (List.mem_of_getElem? (i := 0) rfl)))) rfl rfl rfl rfl (Nat.le_of_ble_eq_true rfl) dX11_text_11 (fun w4 ew5 H locs hP hD hS => ?_)
    have k6 : wd_at w4 y (.inr (11, [.int v0, .int td, .ref m2, .ref m3, .ref m4, .ref m5, .ref m6, .int (nI pc), .ref m8, .ref m9, .ref m10, .ref m11, .ref m12, .ref m13, .ref m14, .int (nI ac), .int (nI sc), .ref m17, .ref m18, .ref m19, .ref m20, .ref m21, .ref m22, .ref m23, .ref m24, .int (nI ln), .int 0, .int v27, .int v28, .ref m29, .ref m30, .ref m31, .ref m32, .ref m33, .ref m34, .ref m35, .ref m36, .ref m37, .int (nI sh), .ref m39, .ref m40, .ref m41, .ref m42, .ref m43, .ref m44, .ref m45, .ref m46, .ref m47, .ref m48, .ref m49, .int v50, .ref m51, .ref m52, .ref m53, .ref m54, .int (nI gf), .ref m56, .ref m57, .ref m58, .ref m59])) := wd_at.ps ew5 c90
    have k7 := wd_at.pt ew5 c91 (tg_ne tm24 ty (by decide))
    have k8 := wd_at.pt ew5 c92 (tg_ne tm29 ty (by decide))
    have k9 := wd_at.pt ew5 c93 (tg_ne tm30 ty (by decide))
    have k10 := wd_at.pt ew5 c94 (tg_ne tm31 ty (by decide))
    have k11 := wd_at.pt ew5 c95 (tg_ne tm32 ty (by decide))
    have k12 := wd_at.pt ew5 c96 (tg_ne tm33 ty (by decide))
    have k13 := wd_at.pt ew5 c97 (tg_ne tm34 ty (by decide))
    have kp14 := kp0.put ew5 s90
    refine lv_aload_n hx hb dX11_text_14 rfl (lv_at hl 0 rfl) ?_
    refine lv_iconst (v := 0) hx hb dX11_text_15 (by decide) ?_
    refine y_put (ref := "NoteHouseModel") F hP hD hS k6 rfl (fun _ h => List.mem_cons_of_mem _ (List.mem_append_right _ (h))) tyX11_ok nmX11 28 (Nat.le_of_ble_eq_true rfl) (List.mem_cons_of_mem _ (List.mem_append_left _ (List.mem_append_left _ (List.mem_of_getElem? (i := 1) rfl)))) rfl rfl rfl rfl (Nat.le_of_ble_eq_true rfl) dX11_text_16 (fun w15 ew16 H locs hP hD hS => ?_)
    have k17 : wd_at w15 y (.inr (11, [.int v0, .int td, .ref m2, .ref m3, .ref m4, .ref m5, .ref m6, .int (nI pc), .ref m8, .ref m9, .ref m10, .ref m11, .ref m12, .ref m13, .ref m14, .int (nI ac), .int (nI sc), .ref m17, .ref m18, .ref m19, .ref m20, .ref m21, .ref m22, .ref m23, .ref m24, .int (nI ln), .int 0, .int v27, .int 0, .ref m29, .ref m30, .ref m31, .ref m32, .ref m33, .ref m34, .ref m35, .ref m36, .ref m37, .int (nI sh), .ref m39, .ref m40, .ref m41, .ref m42, .ref m43, .ref m44, .ref m45, .ref m46, .ref m47, .ref m48, .ref m49, .int v50, .ref m51, .ref m52, .ref m53, .ref m54, .int (nI gf), .ref m56, .ref m57, .ref m58, .ref m59])) := wd_at.ps ew16 k6
    have k18 := wd_at.pt ew16 k7 (tg_ne tm24 ty (by decide))
    have k19 := wd_at.pt ew16 k8 (tg_ne tm29 ty (by decide))
    have k20 := wd_at.pt ew16 k9 (tg_ne tm30 ty (by decide))
    have k21 := wd_at.pt ew16 k10 (tg_ne tm31 ty (by decide))
    have k22 := wd_at.pt ew16 k11 (tg_ne tm32 ty (by decide))
    have k23 := wd_at.pt ew16 k12 (tg_ne tm33 ty (by decide))
    have k24 := wd_at.pt ew16 k13 (tg_ne tm34 ty (by decide))
    have kp25 := kp14.put ew16 s90
    refine lv_iconst (v := 0) hx hb dX11_text_19 (by decide) ?_
    refine lv_istore_n (lv' := [(2, .int 0), (0, .ref y), (1, .int (nI tw))]) hx hb dX11_text_20 rfl hl (by decide) rfl (fun ls hl => ?_)
    refine lv_aload_n hx hb dX11_text_21 rfl (lv_at hl 1 rfl) ?_
    refine x_callV (n := 0) (As := []) (rest := []) F hP hD hS (m_isEnd l D cy sk sv w15 tg y m2 m3 m4 m5 m6 m8 m9 m10 m11 m12 m13 m14 m17 m18 m19 m20 m21 m22 m23 m24 m29 m30 m31 m32 m33 m34 m35 m36 m37 m39 m40 m41 m42 m43 m44 m45 m46 m47 m48 m49 m51 m52 m53 m54 m56 m57 m58 m59 pc ac sc ln sh gf v0 td v27 0 v50 f24 0 k17 k18 (fun b => b = y) rfl ty tm24 (by omega) (by omega)) gX11_text_X11_isEnd rfl rfl (by decide +kernel) ⟨(Nat.le_of_ble_eq_true rfl), (Nat.le_of_ble_eq_true rfl)⟩ rfl hl.1 (Nat.le_of_ble_eq_true rfl) k17 rfl dX11_text_22 rfl ⟨(Nat.le_of_ble_eq_true rfl), (Nat.le_of_ble_eq_true rfl)⟩ (fun v27 w28 hp26 H locs hP hD hS => ?_)
    obtain ⟨ax29, rx30, rfl, rfl, rfl, hz31, hz32, hz33, hz34, kq36, k35⟩ := hp26
    have k37 := kq36.2 _ _ k18 (tg_ne tm24 ty (by decide))
    have k38 := kq36.2 _ _ k19 (tg_ne tm29 ty (by decide))
    have k39 := kq36.2 _ _ k20 (tg_ne tm30 ty (by decide))
    have k40 := kq36.2 _ _ k21 (tg_ne tm31 ty (by decide))
    have k41 := kq36.2 _ _ k22 (tg_ne tm32 ty (by decide))
    have k42 := kq36.2 _ _ k23 (tg_ne tm33 ty (by decide))
    have k43 := kq36.2 _ _ k24 (tg_ne tm34 ty (by decide))
    have kp44 := kp25.tr kq36 (fun b9 hm q9 => (fun q9 => q9 ▸ s90) q9)
    refine W.eq (g2 := F0 m 25 ls [.int (ieR f24 ln 0)]) rfl (W.widen (k := 0) (n := 0) (Nat.le_of_ble_eq_true rfl) (Nat.le_of_ble_eq_true rfl) ?_)
    refine lv_if_ne (tgt := 32) hx hb dX11_text_25 (by decide) (fun c_45 => ?_) (fun c_45 => ?_)
    · have hnx : ¬ nx f24 ln 0 < ln := by rw [ieR_1 c_45]; exact Nat.lt_irrefl _
      refine lv_iconst (v := 0) hx hb dX11_text_32 (by decide) ?_
      refine lv_istore_n (lv' := [(3, .int 0), (2, .int 0), (0, .ref y), (1, .int (nI tw))]) hx hb dX11_text_33 rfl hl (by decide) rfl (fun ls hl => ?_)
      have lp34 : ∀ (N : Nat) (n : Nat) (on : Int32) (a : Nat) (b : Nat) (fq : Nat) (h30 : Nat → Int32) (h31 : Nat → Int32) (h32 : Nat → Int32) (h33 : Nat → Int32) (h34 : Nat → Int32) (T2 : Nat → Nat → Int32) (w46 : Wd), (n + N = 14) → (n ≤ 13) → (fq = 0 → n ≤ 12) → (a ≤ ln) → (fq < 2000) → (cOK h31) → (¬ on = 0 → fq = 0 → (txG f24 ln (13 - n) a n T2 = txT f24 ln ∧ mgR h30 h31 h32 h33 h34 144 n T2)) → ((on = 0 ∨ ¬ fq = 0) → (fq = 0 → txT f24 ln = some (n, T2) ∧ mgR h30 h31 h32 h33 h34 144 n T2) ∧ (¬ fq = 0 → txT f24 ln = none)) → (∀ j, j < 144 → h30 j = f30 j ∧ h31 j = f31 j) → (∀ j, j < 864 → h32 j = f32 j ∧ h33 j = f33 j ∧ h34 j = f34 j) → (wd_at w46 y (.inr (11, [.int v0, .int td, .ref m2, .ref m3, .ref m4, .ref m5, .ref m6, .int (nI pc), .ref m8, .ref m9, .ref m10, .ref m11, .ref m12, .ref m13, .ref m14, .int (nI ac), .int (nI sc), .ref m17, .ref m18, .ref m19, .ref m20, .ref m21, .ref m22, .ref m23, .ref m24, .int (nI ln), .int (nI a), .int (nI b), .int (nI fq), .ref m29, .ref m30, .ref m31, .ref m32, .ref m33, .ref m34, .ref m35, .ref m36, .ref m37, .int (nI sh), .ref m39, .ref m40, .ref m41, .ref m42, .ref m43, .ref m44, .ref m45, .ref m46, .ref m47, .ref m48, .ref m49, .int v50, .ref m51, .ref m52, .ref m53, .ref m54, .int (nI gf), .ref m56, .ref m57, .ref m58, .ref m59]))) → (wd_at w46 m24 (.inl (cy 0, 300, .inl f24))) → (wd_at w46 m29 (.inl (cy 2, 12, .inl f29))) → (wd_at w46 m30 (.inl (cy 2, 156, .inl h30))) → (wd_at w46 m31 (.inl (cy 2, 156, .inl h31))) → (wd_at w46 m32 (.inl (cy 2, 936, .inl h32))) → (wd_at w46 m33 (.inl (cy 2, 936, .inl h33))) → (wd_at w46 m34 (.inl (cy 2, 936, .inl h34))) → (wd_kp S w w46) → ∀ (ls : Array Slot), lv_has ls 6 [(0, .ref y), (1, .int (nI tw)), (2, .int (nI n)), (3, .int on)] → Wv p l e ({ frames := 7, cells := 0, slots := 0, locals := 155 }) s m args below meth c D A (0) (0) Q w46 (F0 m 34 ls []) := by
        intro N
        induction N with
        | zero =>
          intro n on a b fq h30 h31 h32 h33 h34 T2 w46 hN34 hn14 hn13 ha2 hfq hc2 hact hdone hfr1 hfr2 k47 k48 k49 k50 k51 k52 k53 k54 kp55 ls hl H locs hP hD hS
          exact absurd hN34 (by omega)
        | succ N ih34 =>
          intro n on a b fq h30 h31 h32 h33 h34 T2 w46 hN34 hn14 hn13 ha2 hfq hc2 hact hdone hfr1 hfr2 k47 k48 k49 k50 k51 k52 k53 k54 kp55 ls hl H locs hP hD hS
          refine lv_iload_n hx hb dX11_text_34 rfl (lv_at hl 3 rfl) ?_
          refine lv_if_eq (tgt := 128) hx hb dX11_text_35 (by decide) (fun c35 => ?_) (fun c35 => ?_)
          · have hfin := hdone (Or.inl c35)
            refine lv_aload_n hx hb dX11_text_128 rfl (lv_at hl 0 rfl) ?_
            refine lv_iconst (v := 0) hx hb dX11_text_129 (by decide) ?_
            refine y_put (ref := "NoteHouseModel") F hP hD hS k47 rfl (fun _ h => List.mem_cons_of_mem _ (List.mem_append_right _ (h))) tyX11_ok nmX11 25 (Nat.le_of_ble_eq_true rfl) (List.mem_cons_of_mem _ (List.mem_append_left _ (List.mem_append_left _ (List.mem_of_getElem? (i := 3) rfl)))) rfl rfl rfl rfl (Nat.le_of_ble_eq_true rfl) dX11_text_130 (fun w56 ew57 H locs hP hD hS => ?_)
            have k58 : wd_at w56 y (.inr (11, [.int v0, .int td, .ref m2, .ref m3, .ref m4, .ref m5, .ref m6, .int (nI pc), .ref m8, .ref m9, .ref m10, .ref m11, .ref m12, .ref m13, .ref m14, .int (nI ac), .int (nI sc), .ref m17, .ref m18, .ref m19, .ref m20, .ref m21, .ref m22, .ref m23, .ref m24, .int 0, .int (nI a), .int (nI b), .int (nI fq), .ref m29, .ref m30, .ref m31, .ref m32, .ref m33, .ref m34, .ref m35, .ref m36, .ref m37, .int (nI sh), .ref m39, .ref m40, .ref m41, .ref m42, .ref m43, .ref m44, .ref m45, .ref m46, .ref m47, .ref m48, .ref m49, .int v50, .ref m51, .ref m52, .ref m53, .ref m54, .int (nI gf), .ref m56, .ref m57, .ref m58, .ref m59])) := wd_at.ps ew57 k47
            have k59 := wd_at.pt ew57 k48 (tg_ne tm24 ty (by decide))
            have k60 := wd_at.pt ew57 k49 (tg_ne tm29 ty (by decide))
            have k61 := wd_at.pt ew57 k50 (tg_ne tm30 ty (by decide))
            have k62 := wd_at.pt ew57 k51 (tg_ne tm31 ty (by decide))
            have k63 := wd_at.pt ew57 k52 (tg_ne tm32 ty (by decide))
            have k64 := wd_at.pt ew57 k53 (tg_ne tm33 ty (by decide))
            have k65 := wd_at.pt ew57 k54 (tg_ne tm34 ty (by decide))
            have kp66 := kp55.put ew57 s90
            refine lv_aload_n hx hb dX11_text_133 rfl (lv_at hl 0 rfl) ?_
            refine x_get (ref := "NoteHouseModel") F hP k58 rfl (fun _ h => List.mem_cons_of_mem _ (List.mem_append_right _ (h))) 28 (Nat.le_of_ble_eq_true rfl) (List.mem_cons_of_mem _ (List.mem_append_left _ (List.mem_append_left _ (List.mem_of_getElem? (i := 1) rfl)))) rfl rfl dX11_text_134 ?_
            refine lv_if_le (tgt := 148) hx hb dX11_text_137 (by decide) (fun c_67 => ?_) (fun c_67 => ?_)
            · have hfq9 : fq = 0 := nI_z (by omega) c_67
              have hn12z : n ≤ 12 := hn13 hfq9
              refine lv_aload_n hx hb dX11_text_148 rfl (lv_at hl 0 rfl) ?_
              refine x_get (ref := "NoteHouseModel") F hP k58 rfl (fun _ h => List.mem_cons_of_mem _ (List.mem_append_right _ (h))) 29 (Nat.le_of_ble_eq_true rfl) (List.mem_cons_of_mem _ (List.mem_append_left _ (List.mem_append_left _ (List.mem_of_getElem? (i := 4) rfl)))) rfl rfl dX11_text_149 ?_
              refine lv_iload_n hx hb dX11_text_152 rfl (lv_at hl 1 rfl) ?_
              refine lv_iload_n hx hb dX11_text_153 rfl (lv_at hl 2 rfl) ?_
              refine y_iast F hP hD hS k60 (vp_in_nI (n := tw) (N := 12) (by omega) (by decide)) dX11_text_154 (fun w68 ew69 H locs hP hD hS => ?_)
              have k70 := wd_at.pt ew69 k58 (tg_ne ty tm29 (by decide))
              have k71 := wd_at.pt ew69 k59 (tg_ne tm24 tm29 (by decide))
              have k72 : wd_at w68 m29 (.inl (cy 2, 12, .inl (upd f29 (nI tw).toNatClampNeg (nI n)))) := wd_at.ps ew69 k60
              have k73 := wd_at.pt ew69 k61 (tg_ne tm30 tm29 (by decide))
              have k74 := wd_at.pt ew69 k62 (tg_ne tm31 tm29 (by decide))
              have k75 := wd_at.pt ew69 k63 (tg_ne tm32 tm29 (by decide))
              have k76 := wd_at.pt ew69 k64 (tg_ne tm33 tm29 (by decide))
              have k77 := wd_at.pt ew69 k65 (tg_ne tm34 tm29 (by decide))
              have kp78 := kp66.put ew69 s91
              refine lv_iconst (v := 0) hx hb dX11_text_155 (by decide) ?_
              refine lv_istore (lv' := [(4, .int 0), (0, .ref y), (1, .int (nI tw)), (2, .int (nI n)), (3, .int on)]) hx hb dX11_text_156 hl (by decide) rfl (fun ls hl => ?_)
              have lp158 : ∀ (N : Nat) (r : Nat) (p30 : Nat → Int32) (p31 : Nat → Int32) (p32 : Nat → Int32) (p33 : Nat → Int32) (p34 : Nat → Int32) (w79 : Wd), (r + N = n) → (cOK p31) → (cpR tw r p30 p31 h30 h31) → (cqR tw r 0 p32 h32) → (cqR tw r 0 p33 h33) → (cqR tw r 0 p34 h34) → (wd_at w79 y (.inr (11, [.int v0, .int td, .ref m2, .ref m3, .ref m4, .ref m5, .ref m6, .int (nI pc), .ref m8, .ref m9, .ref m10, .ref m11, .ref m12, .ref m13, .ref m14, .int (nI ac), .int (nI sc), .ref m17, .ref m18, .ref m19, .ref m20, .ref m21, .ref m22, .ref m23, .ref m24, .int 0, .int (nI a), .int (nI b), .int (nI fq), .ref m29, .ref m30, .ref m31, .ref m32, .ref m33, .ref m34, .ref m35, .ref m36, .ref m37, .int (nI sh), .ref m39, .ref m40, .ref m41, .ref m42, .ref m43, .ref m44, .ref m45, .ref m46, .ref m47, .ref m48, .ref m49, .int v50, .ref m51, .ref m52, .ref m53, .ref m54, .int (nI gf), .ref m56, .ref m57, .ref m58, .ref m59]))) → (wd_at w79 m24 (.inl (cy 0, 300, .inl f24))) → (wd_at w79 m29 (.inl (cy 2, 12, .inl (upd f29 (nI tw).toNatClampNeg (nI n))))) → (wd_at w79 m30 (.inl (cy 2, 156, .inl p30))) → (wd_at w79 m31 (.inl (cy 2, 156, .inl p31))) → (wd_at w79 m32 (.inl (cy 2, 936, .inl p32))) → (wd_at w79 m33 (.inl (cy 2, 936, .inl p33))) → (wd_at w79 m34 (.inl (cy 2, 936, .inl p34))) → (wd_kp S w w79) → ∀ (ls : Array Slot), lv_has ls 6 [(0, .ref y), (1, .int (nI tw)), (2, .int (nI n)), (4, .int (nI r))] → Wv p l e ({ frames := 7, cells := 0, slots := 0, locals := 155 }) s m args below meth c D A (0) (0) Q w79 (F0 m 158 ls []) := by
                intro N
                induction N with
                | zero =>
                  intro r p30 p31 p32 p33 p34 w79 hN158 hc3 hcp hq2 hq3 hq4 k80 k81 k82 k83 k84 k85 k86 k87 kp88 ls hl H locs hP hD hS
                  refine lv_iload hx hb dX11_text_158 (lv_at hl 3 rfl) ?_
                  refine lv_iload_n hx hb dX11_text_160 rfl (lv_at hl 2 rfl) ?_
                  refine lv_icmp_ge (tgt := 337) hx hb dX11_text_161 (by decide) (fun c_89 => ?_) (fun c_89 => absurd (nI_le (a := n) (b := r) (by omega) (by omega)) c_89)
                  refine lv_iload_n hx hb dX11_text_337 rfl (lv_at hl 2 rfl) ?_
                  exact y_ir K hP hD hS (Nat.le_of_ble_eq_true rfl) (Nat.le_of_ble_eq_true rfl) (ty := .int) rfl rfl dX11_text_338 (⟨0, nI a, nI b, nI fq, upd f29 (nI tw).toNatClampNeg (nI n), p30, p31, p32, p33, p34, nI n, rfl, by simp [txtC, c4], hrl.c (by omega) (by omega), by assumption, by rw [txN_s c4 (hfin.1 hfq9).1, txV_s c4 (hfin.1 hfq9).1, cltw]; have h9 := (hmt0.keep hfr1 hfr2).set htw (by omega) (hfin.1 hfq9).2 ((show r = n by omega) ▸ hcp) ((show r = n by omega) ▸ hq2) ((show r = n by omega) ▸ hq3) ((show r = n by omega) ▸ hq4); rw [cltw] at h9; exact h9, kp88, k80, k82, k83, k84, k85, k86, k87⟩)
                | succ N ih158 =>
                  intro r p30 p31 p32 p33 p34 w79 hN158 hc3 hcp hq2 hq3 hq4 k80 k81 k82 k83 k84 k85 k86 k87 kp88 ls hl H locs hP hD hS
                  refine lv_iload hx hb dX11_text_158 (lv_at hl 3 rfl) ?_
                  refine lv_iload_n hx hb dX11_text_160 rfl (lv_at hl 2 rfl) ?_
                  refine lv_icmp_ge (tgt := 337) hx hb dX11_text_161 (by decide) (fun c_90 => absurd c_90 (nI_ge (a := r) (b := n) (by omega) (by omega))) (fun c_90 => ?_)
                  refine lv_aload_n hx hb dX11_text_164 rfl (lv_at hl 0 rfl) ?_
                  refine x_get (ref := "NoteHouseModel") F hP k80 rfl (fun _ h => List.mem_cons_of_mem _ (List.mem_append_right _ (h))) 30 (Nat.le_of_ble_eq_true rfl) (List.mem_cons_of_mem _ (List.mem_append_left _ (List.mem_append_left _ (List.mem_of_getElem? (i := 5) rfl)))) rfl rfl dX11_text_165 ?_
                  refine lv_bipush (v := 12) hx hb dX11_text_168 (by decide) ?_
                  refine lv_iload_n hx hb dX11_text_170 rfl (lv_at hl 1 rfl) ?_
                  refine lv_imul hx hb dX11_text_171 ?_
                  rw [show (12 * (nI tw) : Int32) = nI (12 * tw) from pk_mul 12 tw]
                  refine lv_iload hx hb dX11_text_172 (lv_at hl 3 rfl) ?_
                  refine lv_iadd hx hb dX11_text_174 ?_
                  rw [show ((nI (12 * tw)) + (nI r) : Int32) = nI ((12 * tw) + r) from nI_add (12 * tw) r]
                  refine lv_aload_n hx hb dX11_text_175 rfl (lv_at hl 0 rfl) ?_
                  refine x_get (ref := "NoteHouseModel") F hP k80 rfl (fun _ h => List.mem_cons_of_mem _ (List.mem_append_right _ (h))) 30 (Nat.le_of_ble_eq_true rfl) (List.mem_cons_of_mem _ (List.mem_append_left _ (List.mem_append_left _ (List.mem_of_getElem? (i := 5) rfl)))) rfl rfl dX11_text_176 ?_
                  refine lv_sipush (v := 144) hx hb dX11_text_179 (by decide) ?_
                  refine lv_iload hx hb dX11_text_182 (lv_at hl 3 rfl) ?_
                  refine lv_iadd hx hb dX11_text_184 ?_
                  rw [show (144 + (nI r) : Int32) = nI (144 + r) from nI_add 144 r]
                  refine x_iald F hP k83 (vp_in_nI (n := (144 + r)) (N := 156) (by omega) (by decide)) dX11_text_185 ?_
                  rw [nI_clamp (n := 144 + r) (by omega), ((hcp (144 + r) (by omega)).2 (by omega)).1]
                  refine y_iast F hP hD hS k83 (vp_in_nI (n := ((12 * tw) + r)) (N := 156) (by omega) (by decide)) dX11_text_186 (fun w91 ew92 H locs hP hD hS => ?_)
                  have k93 := wd_at.pt ew92 k80 (tg_ne ty tm30 (by decide))
                  have k94 := wd_at.pt ew92 k81 (tg_ne tm24 tm30 (by decide))
                  have k95 := wd_at.pt ew92 k82 (tg_ne tm29 tm30 (by decide))
                  have k96 : wd_at w91 m30 (.inl (cy 2, 156, .inl (upd p30 (nI ((12 * tw) + r)).toNatClampNeg (h30 (144 + r))))) := wd_at.ps ew92 k83
                  have k97 := wd_at.pt ew92 k84 (tg_ne tm31 tm30 (by decide))
                  have k98 := wd_at.pt ew92 k85 (tg_ne tm32 tm30 (by decide))
                  have k99 := wd_at.pt ew92 k86 (tg_ne tm33 tm30 (by decide))
                  have k100 := wd_at.pt ew92 k87 (tg_ne tm34 tm30 (by decide))
                  have kp101 := kp88.put ew92 s92
                  refine lv_aload_n hx hb dX11_text_187 rfl (lv_at hl 0 rfl) ?_
                  refine x_get (ref := "NoteHouseModel") F hP k93 rfl (fun _ h => List.mem_cons_of_mem _ (List.mem_append_right _ (h))) 31 (Nat.le_of_ble_eq_true rfl) (List.mem_cons_of_mem _ (List.mem_append_left _ (List.mem_append_left _ (List.mem_of_getElem? (i := 6) rfl)))) rfl rfl dX11_text_188 ?_
                  refine lv_bipush (v := 12) hx hb dX11_text_191 (by decide) ?_
                  refine lv_iload_n hx hb dX11_text_193 rfl (lv_at hl 1 rfl) ?_
                  refine lv_imul hx hb dX11_text_194 ?_
                  rw [show (12 * (nI tw) : Int32) = nI (12 * tw) from pk_mul 12 tw]
                  refine lv_iload hx hb dX11_text_195 (lv_at hl 3 rfl) ?_
                  refine lv_iadd hx hb dX11_text_197 ?_
                  rw [show ((nI (12 * tw)) + (nI r) : Int32) = nI ((12 * tw) + r) from nI_add (12 * tw) r]
                  refine lv_aload_n hx hb dX11_text_198 rfl (lv_at hl 0 rfl) ?_
                  refine x_get (ref := "NoteHouseModel") F hP k93 rfl (fun _ h => List.mem_cons_of_mem _ (List.mem_append_right _ (h))) 31 (Nat.le_of_ble_eq_true rfl) (List.mem_cons_of_mem _ (List.mem_append_left _ (List.mem_append_left _ (List.mem_of_getElem? (i := 6) rfl)))) rfl rfl dX11_text_199 ?_
                  refine lv_sipush (v := 144) hx hb dX11_text_202 (by decide) ?_
                  refine lv_iload hx hb dX11_text_205 (lv_at hl 3 rfl) ?_
                  refine lv_iadd hx hb dX11_text_207 ?_
                  rw [show (144 + (nI r) : Int32) = nI (144 + r) from nI_add 144 r]
                  refine x_iald F hP k97 (vp_in_nI (n := (144 + r)) (N := 156) (by omega) (by decide)) dX11_text_208 ?_
                  obtain ⟨uc, huc, euc⟩ := hc3 (144 + r) (by omega)
                  have euh : p31 (144 + r) = h31 (144 + r) := ((hcp (144 + r) (by omega)).2 (by omega)).2
                  rw [nI_clamp (n := 144 + r) (by omega), euc]
                  refine y_iast F hP hD hS k97 (vp_in_nI (n := ((12 * tw) + r)) (N := 156) (by omega) (by decide)) dX11_text_209 (fun w102 ew103 H locs hP hD hS => ?_)
                  have k104 := wd_at.pt ew103 k93 (tg_ne ty tm31 (by decide))
                  have k105 := wd_at.pt ew103 k94 (tg_ne tm24 tm31 (by decide))
                  have k106 := wd_at.pt ew103 k95 (tg_ne tm29 tm31 (by decide))
                  have k107 := wd_at.pt ew103 k96 (tg_ne tm30 tm31 (by decide))
                  have k108 : wd_at w102 m31 (.inl (cy 2, 156, .inl (upd p31 (nI ((12 * tw) + r)).toNatClampNeg (nI uc)))) := wd_at.ps ew103 k97
                  have k109 := wd_at.pt ew103 k98 (tg_ne tm32 tm31 (by decide))
                  have k110 := wd_at.pt ew103 k99 (tg_ne tm33 tm31 (by decide))
                  have k111 := wd_at.pt ew103 k100 (tg_ne tm34 tm31 (by decide))
                  have kp112 := kp101.put ew103 s93
                  refine lv_iconst (v := 0) hx hb dX11_text_210 (by decide) ?_
                  refine lv_istore (lv' := [(5, .int 0), (0, .ref y), (1, .int (nI tw)), (2, .int (nI n)), (4, .int (nI r))]) hx hb dX11_text_211 hl (by decide) rfl (fun ls hl => ?_)
                  have lp213 : ∀ (N : Nat) (cz : Nat) (q32 : Nat → Int32) (q33 : Nat → Int32) (q34 : Nat → Int32) (w113 : Wd), (cz + N = 6) → (cqR tw r cz q32 h32) → (cqR tw r cz q33 h33) → (cqR tw r cz q34 h34) → (wd_at w113 y (.inr (11, [.int v0, .int td, .ref m2, .ref m3, .ref m4, .ref m5, .ref m6, .int (nI pc), .ref m8, .ref m9, .ref m10, .ref m11, .ref m12, .ref m13, .ref m14, .int (nI ac), .int (nI sc), .ref m17, .ref m18, .ref m19, .ref m20, .ref m21, .ref m22, .ref m23, .ref m24, .int 0, .int (nI a), .int (nI b), .int (nI fq), .ref m29, .ref m30, .ref m31, .ref m32, .ref m33, .ref m34, .ref m35, .ref m36, .ref m37, .int (nI sh), .ref m39, .ref m40, .ref m41, .ref m42, .ref m43, .ref m44, .ref m45, .ref m46, .ref m47, .ref m48, .ref m49, .int v50, .ref m51, .ref m52, .ref m53, .ref m54, .int (nI gf), .ref m56, .ref m57, .ref m58, .ref m59]))) → (wd_at w113 m24 (.inl (cy 0, 300, .inl f24))) → (wd_at w113 m29 (.inl (cy 2, 12, .inl (upd f29 (nI tw).toNatClampNeg (nI n))))) → (wd_at w113 m30 (.inl (cy 2, 156, .inl (upd p30 (nI ((12 * tw) + r)).toNatClampNeg (h30 (144 + r)))))) → (wd_at w113 m31 (.inl (cy 2, 156, .inl (upd p31 (nI ((12 * tw) + r)).toNatClampNeg (nI uc))))) → (wd_at w113 m32 (.inl (cy 2, 936, .inl q32))) → (wd_at w113 m33 (.inl (cy 2, 936, .inl q33))) → (wd_at w113 m34 (.inl (cy 2, 936, .inl q34))) → (wd_kp S w w113) → ∀ (ls : Array Slot), lv_has ls 6 [(0, .ref y), (1, .int (nI tw)), (2, .int (nI n)), (4, .int (nI r)), (5, .int (nI cz))] → Wv p l e ({ frames := 7, cells := 0, slots := 0, locals := 155 }) s m args below meth c D A (0) (0) Q w113 (F0 m 213 ls []) := by
                    intro N
                    induction N with
                    | zero =>
                      intro cz q32 q33 q34 w113 hN213 hz2 hz3 hz4 k114 k115 k116 k117 k118 k119 k120 k121 kp122 ls hl H locs hP hD hS
                      refine lv_iload hx hb dX11_text_213 (lv_at hl 4 rfl) ?_
                      refine lv_bipush (v := 6) hx hb dX11_text_215 (by decide) ?_
                      refine lv_icmp_ge (tgt := 331) hx hb dX11_text_217 (by decide) (fun c_123 => ?_) (fun c_123 => absurd (nI_le (a := 6) (b := cz) (by omega) (by omega)) c_123)
                      refine lv_iinc (v := nI (r + 1)) (lv' := [(4, .int (nI (r + 1))), (0, .ref y), (1, .int (nI tw)), (2, .int (nI n)), (5, .int (nI cz))]) hx hb dX11_text_331 hl (k := 3) rfl (nI_1 r) (by decide) rfl (fun ls hl => ?_)
                      refine lv_goto (tgt := 158) hx hb dX11_text_334 (by decide) ?_
                      exact ih158 (r + 1) (upd p30 (nI ((12 * tw) + r)).toNatClampNeg (h30 (144 + r))) (upd p31 (nI ((12 * tw) + r)).toNatClampNeg (nI uc)) q32 q33 q34 w113 (by omega) (hc3.c (u := uc) (by omega) (by omega)) (hcp.s (by omega) (by omega) rfl (euc.symm.trans euh)) ((show cqR tw r 6 q32 h32 from (show cz = 6 by omega) ▸ hz2).n) ((show cqR tw r 6 q33 h33 from (show cz = 6 by omega) ▸ hz3).n) ((show cqR tw r 6 q34 h34 from (show cz = 6 by omega) ▸ hz4).n) k114 k115 k116 k117 k118 k119 k120 k121 kp122 ls (lv_sub hl [1, 2, 3, 0] rfl) H locs hP hD hS
                    | succ N ih213 =>
                      intro cz q32 q33 q34 w113 hN213 hz2 hz3 hz4 k114 k115 k116 k117 k118 k119 k120 k121 kp122 ls hl H locs hP hD hS
                      refine lv_iload hx hb dX11_text_213 (lv_at hl 4 rfl) ?_
                      refine lv_bipush (v := 6) hx hb dX11_text_215 (by decide) ?_
                      refine lv_icmp_ge (tgt := 331) hx hb dX11_text_217 (by decide) (fun c_124 => absurd c_124 (nI_ge (a := cz) (b := 6) (by omega) (by omega))) (fun c_124 => ?_)
                      refine lv_aload_n hx hb dX11_text_220 rfl (lv_at hl 0 rfl) ?_
                      refine x_get (ref := "NoteHouseModel") F hP k114 rfl (fun _ h => List.mem_cons_of_mem _ (List.mem_append_right _ (h))) 32 (Nat.le_of_ble_eq_true rfl) (List.mem_cons_of_mem _ (List.mem_append_left _ (List.mem_append_left _ (List.mem_of_getElem? (i := 7) rfl)))) rfl rfl dX11_text_221 ?_
                      refine lv_bipush (v := 6) hx hb dX11_text_224 (by decide) ?_
                      refine lv_bipush (v := 12) hx hb dX11_text_226 (by decide) ?_
                      refine lv_iload_n hx hb dX11_text_228 rfl (lv_at hl 1 rfl) ?_
                      refine lv_imul hx hb dX11_text_229 ?_
                      rw [show (12 * (nI tw) : Int32) = nI (12 * tw) from pk_mul 12 tw]
                      refine lv_iload hx hb dX11_text_230 (lv_at hl 3 rfl) ?_
                      refine lv_iadd hx hb dX11_text_232 ?_
                      rw [show ((nI (12 * tw)) + (nI r) : Int32) = nI ((12 * tw) + r) from nI_add (12 * tw) r]
                      refine lv_imul hx hb dX11_text_233 ?_
                      rw [show (6 * (nI ((12 * tw) + r)) : Int32) = nI (6 * ((12 * tw) + r)) from pk_mul 6 ((12 * tw) + r)]
                      refine lv_iload hx hb dX11_text_234 (lv_at hl 4 rfl) ?_
                      refine lv_iadd hx hb dX11_text_236 ?_
                      rw [show ((nI (6 * ((12 * tw) + r))) + (nI cz) : Int32) = nI ((6 * ((12 * tw) + r)) + cz) from nI_add (6 * ((12 * tw) + r)) cz]
                      refine lv_aload_n hx hb dX11_text_237 rfl (lv_at hl 0 rfl) ?_
                      refine x_get (ref := "NoteHouseModel") F hP k114 rfl (fun _ h => List.mem_cons_of_mem _ (List.mem_append_right _ (h))) 32 (Nat.le_of_ble_eq_true rfl) (List.mem_cons_of_mem _ (List.mem_append_left _ (List.mem_append_left _ (List.mem_of_getElem? (i := 7) rfl)))) rfl rfl dX11_text_238 ?_
                      refine lv_bipush (v := 6) hx hb dX11_text_241 (by decide) ?_
                      refine lv_sipush (v := 144) hx hb dX11_text_243 (by decide) ?_
                      refine lv_iload hx hb dX11_text_246 (lv_at hl 3 rfl) ?_
                      refine lv_iadd hx hb dX11_text_248 ?_
                      rw [show (144 + (nI r) : Int32) = nI (144 + r) from nI_add 144 r]
                      refine lv_imul hx hb dX11_text_249 ?_
                      rw [show (6 * (nI (144 + r)) : Int32) = nI (6 * (144 + r)) from pk_mul 6 (144 + r)]
                      refine lv_iload hx hb dX11_text_250 (lv_at hl 4 rfl) ?_
                      refine lv_iadd hx hb dX11_text_252 ?_
                      rw [show ((nI (6 * (144 + r))) + (nI cz) : Int32) = nI ((6 * (144 + r)) + cz) from nI_add (6 * (144 + r)) cz]
                      refine x_iald F hP k119 (vp_in_nI (n := ((6 * (144 + r)) + cz)) (N := 936) (by omega) (by decide)) dX11_text_253 ?_
                      rw [nI_clamp (n := 6 * (144 + r) + cz) (by omega), (hz2 (6 * (144 + r) + cz) (by omega)).2 (by omega)]
                      refine y_iast F hP hD hS k119 (vp_in_nI (n := ((6 * ((12 * tw) + r)) + cz)) (N := 936) (by omega) (by decide)) dX11_text_254 (fun w125 ew126 H locs hP hD hS => ?_)
                      have k127 := wd_at.pt ew126 k114 (tg_ne ty tm32 (by decide))
                      have k128 := wd_at.pt ew126 k115 (tg_ne tm24 tm32 (by decide))
                      have k129 := wd_at.pt ew126 k116 (tg_ne tm29 tm32 (by decide))
                      have k130 := wd_at.pt ew126 k117 (tg_ne tm30 tm32 (by decide))
                      have k131 := wd_at.pt ew126 k118 (tg_ne tm31 tm32 (by decide))
                      have k132 : wd_at w125 m32 (.inl (cy 2, 936, .inl (upd q32 (nI ((6 * ((12 * tw) + r)) + cz)).toNatClampNeg (h32 (6 * (144 + r) + cz))))) := wd_at.ps ew126 k119
                      have k133 := wd_at.pt ew126 k120 (tg_ne tm33 tm32 (by decide))
                      have k134 := wd_at.pt ew126 k121 (tg_ne tm34 tm32 (by decide))
                      have kp135 := kp122.put ew126 s94
                      refine lv_aload_n hx hb dX11_text_255 rfl (lv_at hl 0 rfl) ?_
                      refine x_get (ref := "NoteHouseModel") F hP k127 rfl (fun _ h => List.mem_cons_of_mem _ (List.mem_append_right _ (h))) 33 (Nat.le_of_ble_eq_true rfl) (List.mem_cons_of_mem _ (List.mem_append_left _ (List.mem_append_left _ (List.mem_of_getElem? (i := 8) rfl)))) rfl rfl dX11_text_256 ?_
                      refine lv_bipush (v := 6) hx hb dX11_text_259 (by decide) ?_
                      refine lv_bipush (v := 12) hx hb dX11_text_261 (by decide) ?_
                      refine lv_iload_n hx hb dX11_text_263 rfl (lv_at hl 1 rfl) ?_
                      refine lv_imul hx hb dX11_text_264 ?_
                      rw [show (12 * (nI tw) : Int32) = nI (12 * tw) from pk_mul 12 tw]
                      refine lv_iload hx hb dX11_text_265 (lv_at hl 3 rfl) ?_
                      refine lv_iadd hx hb dX11_text_267 ?_
                      rw [show ((nI (12 * tw)) + (nI r) : Int32) = nI ((12 * tw) + r) from nI_add (12 * tw) r]
                      refine lv_imul hx hb dX11_text_268 ?_
                      rw [show (6 * (nI ((12 * tw) + r)) : Int32) = nI (6 * ((12 * tw) + r)) from pk_mul 6 ((12 * tw) + r)]
                      refine lv_iload hx hb dX11_text_269 (lv_at hl 4 rfl) ?_
                      refine lv_iadd hx hb dX11_text_271 ?_
                      rw [show ((nI (6 * ((12 * tw) + r))) + (nI cz) : Int32) = nI ((6 * ((12 * tw) + r)) + cz) from nI_add (6 * ((12 * tw) + r)) cz]
                      refine lv_aload_n hx hb dX11_text_272 rfl (lv_at hl 0 rfl) ?_
                      refine x_get (ref := "NoteHouseModel") F hP k127 rfl (fun _ h => List.mem_cons_of_mem _ (List.mem_append_right _ (h))) 33 (Nat.le_of_ble_eq_true rfl) (List.mem_cons_of_mem _ (List.mem_append_left _ (List.mem_append_left _ (List.mem_of_getElem? (i := 8) rfl)))) rfl rfl dX11_text_273 ?_
                      refine lv_bipush (v := 6) hx hb dX11_text_276 (by decide) ?_
                      refine lv_sipush (v := 144) hx hb dX11_text_278 (by decide) ?_
                      refine lv_iload hx hb dX11_text_281 (lv_at hl 3 rfl) ?_
                      refine lv_iadd hx hb dX11_text_283 ?_
                      rw [show (144 + (nI r) : Int32) = nI (144 + r) from nI_add 144 r]
                      refine lv_imul hx hb dX11_text_284 ?_
                      rw [show (6 * (nI (144 + r)) : Int32) = nI (6 * (144 + r)) from pk_mul 6 (144 + r)]
                      refine lv_iload hx hb dX11_text_285 (lv_at hl 4 rfl) ?_
                      refine lv_iadd hx hb dX11_text_287 ?_
                      rw [show ((nI (6 * (144 + r))) + (nI cz) : Int32) = nI ((6 * (144 + r)) + cz) from nI_add (6 * (144 + r)) cz]
                      refine x_iald F hP k133 (vp_in_nI (n := ((6 * (144 + r)) + cz)) (N := 936) (by omega) (by decide)) dX11_text_288 ?_
                      rw [nI_clamp (n := 6 * (144 + r) + cz) (by omega), (hz3 (6 * (144 + r) + cz) (by omega)).2 (by omega)]
                      refine y_iast F hP hD hS k133 (vp_in_nI (n := ((6 * ((12 * tw) + r)) + cz)) (N := 936) (by omega) (by decide)) dX11_text_289 (fun w136 ew137 H locs hP hD hS => ?_)
                      have k138 := wd_at.pt ew137 k127 (tg_ne ty tm33 (by decide))
                      have k139 := wd_at.pt ew137 k128 (tg_ne tm24 tm33 (by decide))
                      have k140 := wd_at.pt ew137 k129 (tg_ne tm29 tm33 (by decide))
                      have k141 := wd_at.pt ew137 k130 (tg_ne tm30 tm33 (by decide))
                      have k142 := wd_at.pt ew137 k131 (tg_ne tm31 tm33 (by decide))
                      have k143 := wd_at.pt ew137 k132 (tg_ne tm32 tm33 (by decide))
                      have k144 : wd_at w136 m33 (.inl (cy 2, 936, .inl (upd q33 (nI ((6 * ((12 * tw) + r)) + cz)).toNatClampNeg (h33 (6 * (144 + r) + cz))))) := wd_at.ps ew137 k133
                      have k145 := wd_at.pt ew137 k134 (tg_ne tm34 tm33 (by decide))
                      have kp146 := kp135.put ew137 s95
                      refine lv_aload_n hx hb dX11_text_290 rfl (lv_at hl 0 rfl) ?_
                      refine x_get (ref := "NoteHouseModel") F hP k138 rfl (fun _ h => List.mem_cons_of_mem _ (List.mem_append_right _ (h))) 34 (Nat.le_of_ble_eq_true rfl) (List.mem_cons_of_mem _ (List.mem_append_left _ (List.mem_append_left _ (List.mem_of_getElem? (i := 9) rfl)))) rfl rfl dX11_text_291 ?_
                      refine lv_bipush (v := 6) hx hb dX11_text_294 (by decide) ?_
                      refine lv_bipush (v := 12) hx hb dX11_text_296 (by decide) ?_
                      refine lv_iload_n hx hb dX11_text_298 rfl (lv_at hl 1 rfl) ?_
                      refine lv_imul hx hb dX11_text_299 ?_
                      rw [show (12 * (nI tw) : Int32) = nI (12 * tw) from pk_mul 12 tw]
                      refine lv_iload hx hb dX11_text_300 (lv_at hl 3 rfl) ?_
                      refine lv_iadd hx hb dX11_text_302 ?_
                      rw [show ((nI (12 * tw)) + (nI r) : Int32) = nI ((12 * tw) + r) from nI_add (12 * tw) r]
                      refine lv_imul hx hb dX11_text_303 ?_
                      rw [show (6 * (nI ((12 * tw) + r)) : Int32) = nI (6 * ((12 * tw) + r)) from pk_mul 6 ((12 * tw) + r)]
                      refine lv_iload hx hb dX11_text_304 (lv_at hl 4 rfl) ?_
                      refine lv_iadd hx hb dX11_text_306 ?_
                      rw [show ((nI (6 * ((12 * tw) + r))) + (nI cz) : Int32) = nI ((6 * ((12 * tw) + r)) + cz) from nI_add (6 * ((12 * tw) + r)) cz]
                      refine lv_aload_n hx hb dX11_text_307 rfl (lv_at hl 0 rfl) ?_
                      refine x_get (ref := "NoteHouseModel") F hP k138 rfl (fun _ h => List.mem_cons_of_mem _ (List.mem_append_right _ (h))) 34 (Nat.le_of_ble_eq_true rfl) (List.mem_cons_of_mem _ (List.mem_append_left _ (List.mem_append_left _ (List.mem_of_getElem? (i := 9) rfl)))) rfl rfl dX11_text_308 ?_
                      refine lv_bipush (v := 6) hx hb dX11_text_311 (by decide) ?_
                      refine lv_sipush (v := 144) hx hb dX11_text_313 (by decide) ?_
                      refine lv_iload hx hb dX11_text_316 (lv_at hl 3 rfl) ?_
                      refine lv_iadd hx hb dX11_text_318 ?_
                      rw [show (144 + (nI r) : Int32) = nI (144 + r) from nI_add 144 r]
                      refine lv_imul hx hb dX11_text_319 ?_
                      rw [show (6 * (nI (144 + r)) : Int32) = nI (6 * (144 + r)) from pk_mul 6 (144 + r)]
                      refine lv_iload hx hb dX11_text_320 (lv_at hl 4 rfl) ?_
                      refine lv_iadd hx hb dX11_text_322 ?_
                      rw [show ((nI (6 * (144 + r))) + (nI cz) : Int32) = nI ((6 * (144 + r)) + cz) from nI_add (6 * (144 + r)) cz]
                      refine x_iald F hP k145 (vp_in_nI (n := ((6 * (144 + r)) + cz)) (N := 936) (by omega) (by decide)) dX11_text_323 ?_
                      rw [nI_clamp (n := 6 * (144 + r) + cz) (by omega), (hz4 (6 * (144 + r) + cz) (by omega)).2 (by omega)]
                      refine y_iast F hP hD hS k145 (vp_in_nI (n := ((6 * ((12 * tw) + r)) + cz)) (N := 936) (by omega) (by decide)) dX11_text_324 (fun w147 ew148 H locs hP hD hS => ?_)
                      have k149 := wd_at.pt ew148 k138 (tg_ne ty tm34 (by decide))
                      have k150 := wd_at.pt ew148 k139 (tg_ne tm24 tm34 (by decide))
                      have k151 := wd_at.pt ew148 k140 (tg_ne tm29 tm34 (by decide))
                      have k152 := wd_at.pt ew148 k141 (tg_ne tm30 tm34 (by decide))
                      have k153 := wd_at.pt ew148 k142 (tg_ne tm31 tm34 (by decide))
                      have k154 := wd_at.pt ew148 k143 (tg_ne tm32 tm34 (by decide))
                      have k155 := wd_at.pt ew148 k144 (tg_ne tm33 tm34 (by decide))
                      have k156 : wd_at w147 m34 (.inl (cy 2, 936, .inl (upd q34 (nI ((6 * ((12 * tw) + r)) + cz)).toNatClampNeg (h34 (6 * (144 + r) + cz))))) := wd_at.ps ew148 k145
                      have kp157 := kp146.put ew148 s96
                      refine lv_iinc (v := nI (cz + 1)) (lv' := [(5, .int (nI (cz + 1))), (0, .ref y), (1, .int (nI tw)), (2, .int (nI n)), (4, .int (nI r))]) hx hb dX11_text_325 hl (k := 4) rfl (nI_1 cz) (by decide) rfl (fun ls hl => ?_)
                      refine lv_goto (tgt := 213) hx hb dX11_text_328 (by decide) ?_
                      exact ih213 (cz + 1) (upd q32 (nI ((6 * ((12 * tw) + r)) + cz)).toNatClampNeg (h32 (6 * (144 + r) + cz))) (upd q33 (nI ((6 * ((12 * tw) + r)) + cz)).toNatClampNeg (h33 (6 * (144 + r) + cz))) (upd q34 (nI ((6 * ((12 * tw) + r)) + cz)).toNatClampNeg (h34 (6 * (144 + r) + cz))) w147 (by omega) (hz2.s (by omega) (by omega) (by omega) (by rw [(show 6 * (144 + r) + cz = 864 + (6 * r + cz) by omega)])) (hz3.s (by omega) (by omega) (by omega) (by rw [(show 6 * (144 + r) + cz = 864 + (6 * r + cz) by omega)])) (hz4.s (by omega) (by omega) (by omega) (by rw [(show 6 * (144 + r) + cz = 864 + (6 * r + cz) by omega)])) k149 k150 k151 k152 k153 k154 k155 k156 kp157 ls (lv_sub hl [1, 2, 3, 4, 0] rfl) H locs hP hD hS
                  exact lp213 _ 0 p32 p33 p34 w102 (Nat.zero_add 6) hq2 hq3 hq4 k104 k105 k106 k107 k108 k109 k110 k111 kp112 ls (lv_sub hl [1, 2, 3, 4, 0] rfl) H locs hP hD hS
              exact lp158 _ 0 h30 h31 h32 h33 h34 w68 (Nat.zero_add n) (by assumption) (fun j hj => ⟨fun q => absurd q (by omega), fun _ => ⟨rfl, rfl⟩⟩) cqR.z cqR.z cqR.z k70 k71 k72 k73 k74 k75 k76 k77 kp78 ls (lv_sub hl [1, 2, 3, 0] rfl) H locs hP hD hS
            · have hfq9 : ¬ fq = 0 := fun q => c_67 (by rw [q]; decide)
              refine lv_bipush (v := (-2)) hx hb dX11_text_140 (by decide) ?_
              refine lv_aload_n hx hb dX11_text_142 rfl (lv_at hl 0 rfl) ?_
              refine x_get (ref := "NoteHouseModel") F hP k58 rfl (fun _ h => List.mem_cons_of_mem _ (List.mem_append_right _ (h))) 28 (Nat.le_of_ble_eq_true rfl) (List.mem_cons_of_mem _ (List.mem_append_left _ (List.mem_append_left _ (List.mem_of_getElem? (i := 1) rfl)))) rfl rfl dX11_text_143 ?_
              refine lv_isub hx hb dX11_text_146 ?_
              exact y_ir K hP hD hS (Nat.le_of_ble_eq_true rfl) (Nat.le_of_ble_eq_true rfl) (ty := .int) rfl rfl dX11_text_147 (⟨0, nI a, nI b, nI fq, f29, h30, h31, h32, h33, h34, (-2) - (nI fq), rfl, by simp [txtC, c4], hrl, by assumption, by have h9 := hfin.2 hfq9; rw [txN_n h9, txV_n h9]; exact hmt0.keep hfr1 hfr2, kp66, k58, k60, k61, k62, k63, k64, k65⟩)
          · refine lv_aload_n hx hb dX11_text_38 rfl (lv_at hl 0 rfl) ?_
            refine x_get (ref := "NoteHouseModel") F hP k47 rfl (fun _ h => List.mem_cons_of_mem _ (List.mem_append_right _ (h))) 28 (Nat.le_of_ble_eq_true rfl) (List.mem_cons_of_mem _ (List.mem_append_left _ (List.mem_append_left _ (List.mem_of_getElem? (i := 1) rfl)))) rfl rfl dX11_text_39 ?_
            refine lv_if_ne (tgt := 128) hx hb dX11_text_42 (by decide) (fun c42 => ?_) (fun c42 => ?_)
            · have hfin := hdone (Or.inr (fun q => c42 (by rw [q]; rfl)))
              refine lv_aload_n hx hb dX11_text_128 rfl (lv_at hl 0 rfl) ?_
              refine lv_iconst (v := 0) hx hb dX11_text_129 (by decide) ?_
              refine y_put (ref := "NoteHouseModel") F hP hD hS k47 rfl (fun _ h => List.mem_cons_of_mem _ (List.mem_append_right _ (h))) tyX11_ok nmX11 25 (Nat.le_of_ble_eq_true rfl) (List.mem_cons_of_mem _ (List.mem_append_left _ (List.mem_append_left _ (List.mem_of_getElem? (i := 3) rfl)))) rfl rfl rfl rfl (Nat.le_of_ble_eq_true rfl) dX11_text_130 (fun w158 ew159 H locs hP hD hS => ?_)
              have k160 : wd_at w158 y (.inr (11, [.int v0, .int td, .ref m2, .ref m3, .ref m4, .ref m5, .ref m6, .int (nI pc), .ref m8, .ref m9, .ref m10, .ref m11, .ref m12, .ref m13, .ref m14, .int (nI ac), .int (nI sc), .ref m17, .ref m18, .ref m19, .ref m20, .ref m21, .ref m22, .ref m23, .ref m24, .int 0, .int (nI a), .int (nI b), .int (nI fq), .ref m29, .ref m30, .ref m31, .ref m32, .ref m33, .ref m34, .ref m35, .ref m36, .ref m37, .int (nI sh), .ref m39, .ref m40, .ref m41, .ref m42, .ref m43, .ref m44, .ref m45, .ref m46, .ref m47, .ref m48, .ref m49, .int v50, .ref m51, .ref m52, .ref m53, .ref m54, .int (nI gf), .ref m56, .ref m57, .ref m58, .ref m59])) := wd_at.ps ew159 k47
              have k161 := wd_at.pt ew159 k48 (tg_ne tm24 ty (by decide))
              have k162 := wd_at.pt ew159 k49 (tg_ne tm29 ty (by decide))
              have k163 := wd_at.pt ew159 k50 (tg_ne tm30 ty (by decide))
              have k164 := wd_at.pt ew159 k51 (tg_ne tm31 ty (by decide))
              have k165 := wd_at.pt ew159 k52 (tg_ne tm32 ty (by decide))
              have k166 := wd_at.pt ew159 k53 (tg_ne tm33 ty (by decide))
              have k167 := wd_at.pt ew159 k54 (tg_ne tm34 ty (by decide))
              have kp168 := kp55.put ew159 s90
              refine lv_aload_n hx hb dX11_text_133 rfl (lv_at hl 0 rfl) ?_
              refine x_get (ref := "NoteHouseModel") F hP k160 rfl (fun _ h => List.mem_cons_of_mem _ (List.mem_append_right _ (h))) 28 (Nat.le_of_ble_eq_true rfl) (List.mem_cons_of_mem _ (List.mem_append_left _ (List.mem_append_left _ (List.mem_of_getElem? (i := 1) rfl)))) rfl rfl dX11_text_134 ?_
              refine lv_if_le (tgt := 148) hx hb dX11_text_137 (by decide) (fun c_169 => ?_) (fun c_169 => ?_)
              · have hfq9 : fq = 0 := nI_z (by omega) c_169
                have hn12z : n ≤ 12 := hn13 hfq9
                refine lv_aload_n hx hb dX11_text_148 rfl (lv_at hl 0 rfl) ?_
                refine x_get (ref := "NoteHouseModel") F hP k160 rfl (fun _ h => List.mem_cons_of_mem _ (List.mem_append_right _ (h))) 29 (Nat.le_of_ble_eq_true rfl) (List.mem_cons_of_mem _ (List.mem_append_left _ (List.mem_append_left _ (List.mem_of_getElem? (i := 4) rfl)))) rfl rfl dX11_text_149 ?_
                refine lv_iload_n hx hb dX11_text_152 rfl (lv_at hl 1 rfl) ?_
                refine lv_iload_n hx hb dX11_text_153 rfl (lv_at hl 2 rfl) ?_
                refine y_iast F hP hD hS k162 (vp_in_nI (n := tw) (N := 12) (by omega) (by decide)) dX11_text_154 (fun w170 ew171 H locs hP hD hS => ?_)
                have k172 := wd_at.pt ew171 k160 (tg_ne ty tm29 (by decide))
                have k173 := wd_at.pt ew171 k161 (tg_ne tm24 tm29 (by decide))
                have k174 : wd_at w170 m29 (.inl (cy 2, 12, .inl (upd f29 (nI tw).toNatClampNeg (nI n)))) := wd_at.ps ew171 k162
                have k175 := wd_at.pt ew171 k163 (tg_ne tm30 tm29 (by decide))
                have k176 := wd_at.pt ew171 k164 (tg_ne tm31 tm29 (by decide))
                have k177 := wd_at.pt ew171 k165 (tg_ne tm32 tm29 (by decide))
                have k178 := wd_at.pt ew171 k166 (tg_ne tm33 tm29 (by decide))
                have k179 := wd_at.pt ew171 k167 (tg_ne tm34 tm29 (by decide))
                have kp180 := kp168.put ew171 s91
                refine lv_iconst (v := 0) hx hb dX11_text_155 (by decide) ?_
                refine lv_istore (lv' := [(4, .int 0), (0, .ref y), (1, .int (nI tw)), (2, .int (nI n)), (3, .int on)]) hx hb dX11_text_156 hl (by decide) rfl (fun ls hl => ?_)
                have lp158 : ∀ (N : Nat) (r : Nat) (p30 : Nat → Int32) (p31 : Nat → Int32) (p32 : Nat → Int32) (p33 : Nat → Int32) (p34 : Nat → Int32) (w181 : Wd), (r + N = n) → (cOK p31) → (cpR tw r p30 p31 h30 h31) → (cqR tw r 0 p32 h32) → (cqR tw r 0 p33 h33) → (cqR tw r 0 p34 h34) → (wd_at w181 y (.inr (11, [.int v0, .int td, .ref m2, .ref m3, .ref m4, .ref m5, .ref m6, .int (nI pc), .ref m8, .ref m9, .ref m10, .ref m11, .ref m12, .ref m13, .ref m14, .int (nI ac), .int (nI sc), .ref m17, .ref m18, .ref m19, .ref m20, .ref m21, .ref m22, .ref m23, .ref m24, .int 0, .int (nI a), .int (nI b), .int (nI fq), .ref m29, .ref m30, .ref m31, .ref m32, .ref m33, .ref m34, .ref m35, .ref m36, .ref m37, .int (nI sh), .ref m39, .ref m40, .ref m41, .ref m42, .ref m43, .ref m44, .ref m45, .ref m46, .ref m47, .ref m48, .ref m49, .int v50, .ref m51, .ref m52, .ref m53, .ref m54, .int (nI gf), .ref m56, .ref m57, .ref m58, .ref m59]))) → (wd_at w181 m24 (.inl (cy 0, 300, .inl f24))) → (wd_at w181 m29 (.inl (cy 2, 12, .inl (upd f29 (nI tw).toNatClampNeg (nI n))))) → (wd_at w181 m30 (.inl (cy 2, 156, .inl p30))) → (wd_at w181 m31 (.inl (cy 2, 156, .inl p31))) → (wd_at w181 m32 (.inl (cy 2, 936, .inl p32))) → (wd_at w181 m33 (.inl (cy 2, 936, .inl p33))) → (wd_at w181 m34 (.inl (cy 2, 936, .inl p34))) → (wd_kp S w w181) → ∀ (ls : Array Slot), lv_has ls 6 [(0, .ref y), (1, .int (nI tw)), (2, .int (nI n)), (4, .int (nI r))] → Wv p l e ({ frames := 7, cells := 0, slots := 0, locals := 155 }) s m args below meth c D A (0) (0) Q w181 (F0 m 158 ls []) := by
                  intro N
                  induction N with
                  | zero =>
                    intro r p30 p31 p32 p33 p34 w181 hN158 hc3 hcp hq2 hq3 hq4 k182 k183 k184 k185 k186 k187 k188 k189 kp190 ls hl H locs hP hD hS
                    refine lv_iload hx hb dX11_text_158 (lv_at hl 3 rfl) ?_
                    refine lv_iload_n hx hb dX11_text_160 rfl (lv_at hl 2 rfl) ?_
                    refine lv_icmp_ge (tgt := 337) hx hb dX11_text_161 (by decide) (fun c_191 => ?_) (fun c_191 => absurd (nI_le (a := n) (b := r) (by omega) (by omega)) c_191)
                    refine lv_iload_n hx hb dX11_text_337 rfl (lv_at hl 2 rfl) ?_
                    exact y_ir K hP hD hS (Nat.le_of_ble_eq_true rfl) (Nat.le_of_ble_eq_true rfl) (ty := .int) rfl rfl dX11_text_338 (⟨0, nI a, nI b, nI fq, upd f29 (nI tw).toNatClampNeg (nI n), p30, p31, p32, p33, p34, nI n, rfl, by simp [txtC, c4], hrl.c (by omega) (by omega), by assumption, by rw [txN_s c4 (hfin.1 hfq9).1, txV_s c4 (hfin.1 hfq9).1, cltw]; have h9 := (hmt0.keep hfr1 hfr2).set htw (by omega) (hfin.1 hfq9).2 ((show r = n by omega) ▸ hcp) ((show r = n by omega) ▸ hq2) ((show r = n by omega) ▸ hq3) ((show r = n by omega) ▸ hq4); rw [cltw] at h9; exact h9, kp190, k182, k184, k185, k186, k187, k188, k189⟩)
                  | succ N ih158 =>
                    intro r p30 p31 p32 p33 p34 w181 hN158 hc3 hcp hq2 hq3 hq4 k182 k183 k184 k185 k186 k187 k188 k189 kp190 ls hl H locs hP hD hS
                    refine lv_iload hx hb dX11_text_158 (lv_at hl 3 rfl) ?_
                    refine lv_iload_n hx hb dX11_text_160 rfl (lv_at hl 2 rfl) ?_
                    refine lv_icmp_ge (tgt := 337) hx hb dX11_text_161 (by decide) (fun c_192 => absurd c_192 (nI_ge (a := r) (b := n) (by omega) (by omega))) (fun c_192 => ?_)
                    refine lv_aload_n hx hb dX11_text_164 rfl (lv_at hl 0 rfl) ?_
                    refine x_get (ref := "NoteHouseModel") F hP k182 rfl (fun _ h => List.mem_cons_of_mem _ (List.mem_append_right _ (h))) 30 (Nat.le_of_ble_eq_true rfl) (List.mem_cons_of_mem _ (List.mem_append_left _ (List.mem_append_left _ (List.mem_of_getElem? (i := 5) rfl)))) rfl rfl dX11_text_165 ?_
                    refine lv_bipush (v := 12) hx hb dX11_text_168 (by decide) ?_
                    refine lv_iload_n hx hb dX11_text_170 rfl (lv_at hl 1 rfl) ?_
                    refine lv_imul hx hb dX11_text_171 ?_
                    rw [show (12 * (nI tw) : Int32) = nI (12 * tw) from pk_mul 12 tw]
                    refine lv_iload hx hb dX11_text_172 (lv_at hl 3 rfl) ?_
                    refine lv_iadd hx hb dX11_text_174 ?_
                    rw [show ((nI (12 * tw)) + (nI r) : Int32) = nI ((12 * tw) + r) from nI_add (12 * tw) r]
                    refine lv_aload_n hx hb dX11_text_175 rfl (lv_at hl 0 rfl) ?_
                    refine x_get (ref := "NoteHouseModel") F hP k182 rfl (fun _ h => List.mem_cons_of_mem _ (List.mem_append_right _ (h))) 30 (Nat.le_of_ble_eq_true rfl) (List.mem_cons_of_mem _ (List.mem_append_left _ (List.mem_append_left _ (List.mem_of_getElem? (i := 5) rfl)))) rfl rfl dX11_text_176 ?_
                    refine lv_sipush (v := 144) hx hb dX11_text_179 (by decide) ?_
                    refine lv_iload hx hb dX11_text_182 (lv_at hl 3 rfl) ?_
                    refine lv_iadd hx hb dX11_text_184 ?_
                    rw [show (144 + (nI r) : Int32) = nI (144 + r) from nI_add 144 r]
                    refine x_iald F hP k185 (vp_in_nI (n := (144 + r)) (N := 156) (by omega) (by decide)) dX11_text_185 ?_
                    rw [nI_clamp (n := 144 + r) (by omega), ((hcp (144 + r) (by omega)).2 (by omega)).1]
                    refine y_iast F hP hD hS k185 (vp_in_nI (n := ((12 * tw) + r)) (N := 156) (by omega) (by decide)) dX11_text_186 (fun w193 ew194 H locs hP hD hS => ?_)
                    have k195 := wd_at.pt ew194 k182 (tg_ne ty tm30 (by decide))
                    have k196 := wd_at.pt ew194 k183 (tg_ne tm24 tm30 (by decide))
                    have k197 := wd_at.pt ew194 k184 (tg_ne tm29 tm30 (by decide))
                    have k198 : wd_at w193 m30 (.inl (cy 2, 156, .inl (upd p30 (nI ((12 * tw) + r)).toNatClampNeg (h30 (144 + r))))) := wd_at.ps ew194 k185
                    have k199 := wd_at.pt ew194 k186 (tg_ne tm31 tm30 (by decide))
                    have k200 := wd_at.pt ew194 k187 (tg_ne tm32 tm30 (by decide))
                    have k201 := wd_at.pt ew194 k188 (tg_ne tm33 tm30 (by decide))
                    have k202 := wd_at.pt ew194 k189 (tg_ne tm34 tm30 (by decide))
                    have kp203 := kp190.put ew194 s92
                    refine lv_aload_n hx hb dX11_text_187 rfl (lv_at hl 0 rfl) ?_
                    refine x_get (ref := "NoteHouseModel") F hP k195 rfl (fun _ h => List.mem_cons_of_mem _ (List.mem_append_right _ (h))) 31 (Nat.le_of_ble_eq_true rfl) (List.mem_cons_of_mem _ (List.mem_append_left _ (List.mem_append_left _ (List.mem_of_getElem? (i := 6) rfl)))) rfl rfl dX11_text_188 ?_
                    refine lv_bipush (v := 12) hx hb dX11_text_191 (by decide) ?_
                    refine lv_iload_n hx hb dX11_text_193 rfl (lv_at hl 1 rfl) ?_
                    refine lv_imul hx hb dX11_text_194 ?_
                    rw [show (12 * (nI tw) : Int32) = nI (12 * tw) from pk_mul 12 tw]
                    refine lv_iload hx hb dX11_text_195 (lv_at hl 3 rfl) ?_
                    refine lv_iadd hx hb dX11_text_197 ?_
                    rw [show ((nI (12 * tw)) + (nI r) : Int32) = nI ((12 * tw) + r) from nI_add (12 * tw) r]
                    refine lv_aload_n hx hb dX11_text_198 rfl (lv_at hl 0 rfl) ?_
                    refine x_get (ref := "NoteHouseModel") F hP k195 rfl (fun _ h => List.mem_cons_of_mem _ (List.mem_append_right _ (h))) 31 (Nat.le_of_ble_eq_true rfl) (List.mem_cons_of_mem _ (List.mem_append_left _ (List.mem_append_left _ (List.mem_of_getElem? (i := 6) rfl)))) rfl rfl dX11_text_199 ?_
                    refine lv_sipush (v := 144) hx hb dX11_text_202 (by decide) ?_
                    refine lv_iload hx hb dX11_text_205 (lv_at hl 3 rfl) ?_
                    refine lv_iadd hx hb dX11_text_207 ?_
                    rw [show (144 + (nI r) : Int32) = nI (144 + r) from nI_add 144 r]
                    refine x_iald F hP k199 (vp_in_nI (n := (144 + r)) (N := 156) (by omega) (by decide)) dX11_text_208 ?_
                    obtain ⟨uc, huc, euc⟩ := hc3 (144 + r) (by omega)
                    have euh : p31 (144 + r) = h31 (144 + r) := ((hcp (144 + r) (by omega)).2 (by omega)).2
                    rw [nI_clamp (n := 144 + r) (by omega), euc]
                    refine y_iast F hP hD hS k199 (vp_in_nI (n := ((12 * tw) + r)) (N := 156) (by omega) (by decide)) dX11_text_209 (fun w204 ew205 H locs hP hD hS => ?_)
                    have k206 := wd_at.pt ew205 k195 (tg_ne ty tm31 (by decide))
                    have k207 := wd_at.pt ew205 k196 (tg_ne tm24 tm31 (by decide))
                    have k208 := wd_at.pt ew205 k197 (tg_ne tm29 tm31 (by decide))
                    have k209 := wd_at.pt ew205 k198 (tg_ne tm30 tm31 (by decide))
                    have k210 : wd_at w204 m31 (.inl (cy 2, 156, .inl (upd p31 (nI ((12 * tw) + r)).toNatClampNeg (nI uc)))) := wd_at.ps ew205 k199
                    have k211 := wd_at.pt ew205 k200 (tg_ne tm32 tm31 (by decide))
                    have k212 := wd_at.pt ew205 k201 (tg_ne tm33 tm31 (by decide))
                    have k213 := wd_at.pt ew205 k202 (tg_ne tm34 tm31 (by decide))
                    have kp214 := kp203.put ew205 s93
                    refine lv_iconst (v := 0) hx hb dX11_text_210 (by decide) ?_
                    refine lv_istore (lv' := [(5, .int 0), (0, .ref y), (1, .int (nI tw)), (2, .int (nI n)), (4, .int (nI r))]) hx hb dX11_text_211 hl (by decide) rfl (fun ls hl => ?_)
                    have lp213 : ∀ (N : Nat) (cz : Nat) (q32 : Nat → Int32) (q33 : Nat → Int32) (q34 : Nat → Int32) (w215 : Wd), (cz + N = 6) → (cqR tw r cz q32 h32) → (cqR tw r cz q33 h33) → (cqR tw r cz q34 h34) → (wd_at w215 y (.inr (11, [.int v0, .int td, .ref m2, .ref m3, .ref m4, .ref m5, .ref m6, .int (nI pc), .ref m8, .ref m9, .ref m10, .ref m11, .ref m12, .ref m13, .ref m14, .int (nI ac), .int (nI sc), .ref m17, .ref m18, .ref m19, .ref m20, .ref m21, .ref m22, .ref m23, .ref m24, .int 0, .int (nI a), .int (nI b), .int (nI fq), .ref m29, .ref m30, .ref m31, .ref m32, .ref m33, .ref m34, .ref m35, .ref m36, .ref m37, .int (nI sh), .ref m39, .ref m40, .ref m41, .ref m42, .ref m43, .ref m44, .ref m45, .ref m46, .ref m47, .ref m48, .ref m49, .int v50, .ref m51, .ref m52, .ref m53, .ref m54, .int (nI gf), .ref m56, .ref m57, .ref m58, .ref m59]))) → (wd_at w215 m24 (.inl (cy 0, 300, .inl f24))) → (wd_at w215 m29 (.inl (cy 2, 12, .inl (upd f29 (nI tw).toNatClampNeg (nI n))))) → (wd_at w215 m30 (.inl (cy 2, 156, .inl (upd p30 (nI ((12 * tw) + r)).toNatClampNeg (h30 (144 + r)))))) → (wd_at w215 m31 (.inl (cy 2, 156, .inl (upd p31 (nI ((12 * tw) + r)).toNatClampNeg (nI uc))))) → (wd_at w215 m32 (.inl (cy 2, 936, .inl q32))) → (wd_at w215 m33 (.inl (cy 2, 936, .inl q33))) → (wd_at w215 m34 (.inl (cy 2, 936, .inl q34))) → (wd_kp S w w215) → ∀ (ls : Array Slot), lv_has ls 6 [(0, .ref y), (1, .int (nI tw)), (2, .int (nI n)), (4, .int (nI r)), (5, .int (nI cz))] → Wv p l e ({ frames := 7, cells := 0, slots := 0, locals := 155 }) s m args below meth c D A (0) (0) Q w215 (F0 m 213 ls []) := by
                      intro N
                      induction N with
                      | zero =>
                        intro cz q32 q33 q34 w215 hN213 hz2 hz3 hz4 k216 k217 k218 k219 k220 k221 k222 k223 kp224 ls hl H locs hP hD hS
                        refine lv_iload hx hb dX11_text_213 (lv_at hl 4 rfl) ?_
                        refine lv_bipush (v := 6) hx hb dX11_text_215 (by decide) ?_
                        refine lv_icmp_ge (tgt := 331) hx hb dX11_text_217 (by decide) (fun c_225 => ?_) (fun c_225 => absurd (nI_le (a := 6) (b := cz) (by omega) (by omega)) c_225)
                        refine lv_iinc (v := nI (r + 1)) (lv' := [(4, .int (nI (r + 1))), (0, .ref y), (1, .int (nI tw)), (2, .int (nI n)), (5, .int (nI cz))]) hx hb dX11_text_331 hl (k := 3) rfl (nI_1 r) (by decide) rfl (fun ls hl => ?_)
                        refine lv_goto (tgt := 158) hx hb dX11_text_334 (by decide) ?_
                        exact ih158 (r + 1) (upd p30 (nI ((12 * tw) + r)).toNatClampNeg (h30 (144 + r))) (upd p31 (nI ((12 * tw) + r)).toNatClampNeg (nI uc)) q32 q33 q34 w215 (by omega) (hc3.c (u := uc) (by omega) (by omega)) (hcp.s (by omega) (by omega) rfl (euc.symm.trans euh)) ((show cqR tw r 6 q32 h32 from (show cz = 6 by omega) ▸ hz2).n) ((show cqR tw r 6 q33 h33 from (show cz = 6 by omega) ▸ hz3).n) ((show cqR tw r 6 q34 h34 from (show cz = 6 by omega) ▸ hz4).n) k216 k217 k218 k219 k220 k221 k222 k223 kp224 ls (lv_sub hl [1, 2, 3, 0] rfl) H locs hP hD hS
                      | succ N ih213 =>
                        intro cz q32 q33 q34 w215 hN213 hz2 hz3 hz4 k216 k217 k218 k219 k220 k221 k222 k223 kp224 ls hl H locs hP hD hS
                        refine lv_iload hx hb dX11_text_213 (lv_at hl 4 rfl) ?_
                        refine lv_bipush (v := 6) hx hb dX11_text_215 (by decide) ?_
                        refine lv_icmp_ge (tgt := 331) hx hb dX11_text_217 (by decide) (fun c_226 => absurd c_226 (nI_ge (a := cz) (b := 6) (by omega) (by omega))) (fun c_226 => ?_)
                        refine lv_aload_n hx hb dX11_text_220 rfl (lv_at hl 0 rfl) ?_
                        refine x_get (ref := "NoteHouseModel") F hP k216 rfl (fun _ h => List.mem_cons_of_mem _ (List.mem_append_right _ (h))) 32 (Nat.le_of_ble_eq_true rfl) (List.mem_cons_of_mem _ (List.mem_append_left _ (List.mem_append_left _ (List.mem_of_getElem? (i := 7) rfl)))) rfl rfl dX11_text_221 ?_
                        refine lv_bipush (v := 6) hx hb dX11_text_224 (by decide) ?_
                        refine lv_bipush (v := 12) hx hb dX11_text_226 (by decide) ?_
                        refine lv_iload_n hx hb dX11_text_228 rfl (lv_at hl 1 rfl) ?_
                        refine lv_imul hx hb dX11_text_229 ?_
                        rw [show (12 * (nI tw) : Int32) = nI (12 * tw) from pk_mul 12 tw]
                        refine lv_iload hx hb dX11_text_230 (lv_at hl 3 rfl) ?_
                        refine lv_iadd hx hb dX11_text_232 ?_
                        rw [show ((nI (12 * tw)) + (nI r) : Int32) = nI ((12 * tw) + r) from nI_add (12 * tw) r]
                        refine lv_imul hx hb dX11_text_233 ?_
                        rw [show (6 * (nI ((12 * tw) + r)) : Int32) = nI (6 * ((12 * tw) + r)) from pk_mul 6 ((12 * tw) + r)]
                        refine lv_iload hx hb dX11_text_234 (lv_at hl 4 rfl) ?_
                        refine lv_iadd hx hb dX11_text_236 ?_
                        rw [show ((nI (6 * ((12 * tw) + r))) + (nI cz) : Int32) = nI ((6 * ((12 * tw) + r)) + cz) from nI_add (6 * ((12 * tw) + r)) cz]
                        refine lv_aload_n hx hb dX11_text_237 rfl (lv_at hl 0 rfl) ?_
                        refine x_get (ref := "NoteHouseModel") F hP k216 rfl (fun _ h => List.mem_cons_of_mem _ (List.mem_append_right _ (h))) 32 (Nat.le_of_ble_eq_true rfl) (List.mem_cons_of_mem _ (List.mem_append_left _ (List.mem_append_left _ (List.mem_of_getElem? (i := 7) rfl)))) rfl rfl dX11_text_238 ?_
                        refine lv_bipush (v := 6) hx hb dX11_text_241 (by decide) ?_
                        refine lv_sipush (v := 144) hx hb dX11_text_243 (by decide) ?_
                        refine lv_iload hx hb dX11_text_246 (lv_at hl 3 rfl) ?_
                        refine lv_iadd hx hb dX11_text_248 ?_
                        rw [show (144 + (nI r) : Int32) = nI (144 + r) from nI_add 144 r]
                        refine lv_imul hx hb dX11_text_249 ?_
                        rw [show (6 * (nI (144 + r)) : Int32) = nI (6 * (144 + r)) from pk_mul 6 (144 + r)]
                        refine lv_iload hx hb dX11_text_250 (lv_at hl 4 rfl) ?_
                        refine lv_iadd hx hb dX11_text_252 ?_
                        rw [show ((nI (6 * (144 + r))) + (nI cz) : Int32) = nI ((6 * (144 + r)) + cz) from nI_add (6 * (144 + r)) cz]
                        refine x_iald F hP k221 (vp_in_nI (n := ((6 * (144 + r)) + cz)) (N := 936) (by omega) (by decide)) dX11_text_253 ?_
                        rw [nI_clamp (n := 6 * (144 + r) + cz) (by omega), (hz2 (6 * (144 + r) + cz) (by omega)).2 (by omega)]
                        refine y_iast F hP hD hS k221 (vp_in_nI (n := ((6 * ((12 * tw) + r)) + cz)) (N := 936) (by omega) (by decide)) dX11_text_254 (fun w227 ew228 H locs hP hD hS => ?_)
                        have k229 := wd_at.pt ew228 k216 (tg_ne ty tm32 (by decide))
                        have k230 := wd_at.pt ew228 k217 (tg_ne tm24 tm32 (by decide))
                        have k231 := wd_at.pt ew228 k218 (tg_ne tm29 tm32 (by decide))
                        have k232 := wd_at.pt ew228 k219 (tg_ne tm30 tm32 (by decide))
                        have k233 := wd_at.pt ew228 k220 (tg_ne tm31 tm32 (by decide))
                        have k234 : wd_at w227 m32 (.inl (cy 2, 936, .inl (upd q32 (nI ((6 * ((12 * tw) + r)) + cz)).toNatClampNeg (h32 (6 * (144 + r) + cz))))) := wd_at.ps ew228 k221
                        have k235 := wd_at.pt ew228 k222 (tg_ne tm33 tm32 (by decide))
                        have k236 := wd_at.pt ew228 k223 (tg_ne tm34 tm32 (by decide))
                        have kp237 := kp224.put ew228 s94
                        refine lv_aload_n hx hb dX11_text_255 rfl (lv_at hl 0 rfl) ?_
                        refine x_get (ref := "NoteHouseModel") F hP k229 rfl (fun _ h => List.mem_cons_of_mem _ (List.mem_append_right _ (h))) 33 (Nat.le_of_ble_eq_true rfl) (List.mem_cons_of_mem _ (List.mem_append_left _ (List.mem_append_left _ (List.mem_of_getElem? (i := 8) rfl)))) rfl rfl dX11_text_256 ?_
                        refine lv_bipush (v := 6) hx hb dX11_text_259 (by decide) ?_
                        refine lv_bipush (v := 12) hx hb dX11_text_261 (by decide) ?_
                        refine lv_iload_n hx hb dX11_text_263 rfl (lv_at hl 1 rfl) ?_
                        refine lv_imul hx hb dX11_text_264 ?_
                        rw [show (12 * (nI tw) : Int32) = nI (12 * tw) from pk_mul 12 tw]
                        refine lv_iload hx hb dX11_text_265 (lv_at hl 3 rfl) ?_
                        refine lv_iadd hx hb dX11_text_267 ?_
                        rw [show ((nI (12 * tw)) + (nI r) : Int32) = nI ((12 * tw) + r) from nI_add (12 * tw) r]
                        refine lv_imul hx hb dX11_text_268 ?_
                        rw [show (6 * (nI ((12 * tw) + r)) : Int32) = nI (6 * ((12 * tw) + r)) from pk_mul 6 ((12 * tw) + r)]
                        refine lv_iload hx hb dX11_text_269 (lv_at hl 4 rfl) ?_
                        refine lv_iadd hx hb dX11_text_271 ?_
                        rw [show ((nI (6 * ((12 * tw) + r))) + (nI cz) : Int32) = nI ((6 * ((12 * tw) + r)) + cz) from nI_add (6 * ((12 * tw) + r)) cz]
                        refine lv_aload_n hx hb dX11_text_272 rfl (lv_at hl 0 rfl) ?_
                        refine x_get (ref := "NoteHouseModel") F hP k229 rfl (fun _ h => List.mem_cons_of_mem _ (List.mem_append_right _ (h))) 33 (Nat.le_of_ble_eq_true rfl) (List.mem_cons_of_mem _ (List.mem_append_left _ (List.mem_append_left _ (List.mem_of_getElem? (i := 8) rfl)))) rfl rfl dX11_text_273 ?_
                        refine lv_bipush (v := 6) hx hb dX11_text_276 (by decide) ?_
                        refine lv_sipush (v := 144) hx hb dX11_text_278 (by decide) ?_
                        refine lv_iload hx hb dX11_text_281 (lv_at hl 3 rfl) ?_
                        refine lv_iadd hx hb dX11_text_283 ?_
                        rw [show (144 + (nI r) : Int32) = nI (144 + r) from nI_add 144 r]
                        refine lv_imul hx hb dX11_text_284 ?_
                        rw [show (6 * (nI (144 + r)) : Int32) = nI (6 * (144 + r)) from pk_mul 6 (144 + r)]
                        refine lv_iload hx hb dX11_text_285 (lv_at hl 4 rfl) ?_
                        refine lv_iadd hx hb dX11_text_287 ?_
                        rw [show ((nI (6 * (144 + r))) + (nI cz) : Int32) = nI ((6 * (144 + r)) + cz) from nI_add (6 * (144 + r)) cz]
                        refine x_iald F hP k235 (vp_in_nI (n := ((6 * (144 + r)) + cz)) (N := 936) (by omega) (by decide)) dX11_text_288 ?_
                        rw [nI_clamp (n := 6 * (144 + r) + cz) (by omega), (hz3 (6 * (144 + r) + cz) (by omega)).2 (by omega)]
                        refine y_iast F hP hD hS k235 (vp_in_nI (n := ((6 * ((12 * tw) + r)) + cz)) (N := 936) (by omega) (by decide)) dX11_text_289 (fun w238 ew239 H locs hP hD hS => ?_)
                        have k240 := wd_at.pt ew239 k229 (tg_ne ty tm33 (by decide))
                        have k241 := wd_at.pt ew239 k230 (tg_ne tm24 tm33 (by decide))
                        have k242 := wd_at.pt ew239 k231 (tg_ne tm29 tm33 (by decide))
                        have k243 := wd_at.pt ew239 k232 (tg_ne tm30 tm33 (by decide))
                        have k244 := wd_at.pt ew239 k233 (tg_ne tm31 tm33 (by decide))
                        have k245 := wd_at.pt ew239 k234 (tg_ne tm32 tm33 (by decide))
                        have k246 : wd_at w238 m33 (.inl (cy 2, 936, .inl (upd q33 (nI ((6 * ((12 * tw) + r)) + cz)).toNatClampNeg (h33 (6 * (144 + r) + cz))))) := wd_at.ps ew239 k235
                        have k247 := wd_at.pt ew239 k236 (tg_ne tm34 tm33 (by decide))
                        have kp248 := kp237.put ew239 s95
                        refine lv_aload_n hx hb dX11_text_290 rfl (lv_at hl 0 rfl) ?_
                        refine x_get (ref := "NoteHouseModel") F hP k240 rfl (fun _ h => List.mem_cons_of_mem _ (List.mem_append_right _ (h))) 34 (Nat.le_of_ble_eq_true rfl) (List.mem_cons_of_mem _ (List.mem_append_left _ (List.mem_append_left _ (List.mem_of_getElem? (i := 9) rfl)))) rfl rfl dX11_text_291 ?_
                        refine lv_bipush (v := 6) hx hb dX11_text_294 (by decide) ?_
                        refine lv_bipush (v := 12) hx hb dX11_text_296 (by decide) ?_
                        refine lv_iload_n hx hb dX11_text_298 rfl (lv_at hl 1 rfl) ?_
                        refine lv_imul hx hb dX11_text_299 ?_
                        rw [show (12 * (nI tw) : Int32) = nI (12 * tw) from pk_mul 12 tw]
                        refine lv_iload hx hb dX11_text_300 (lv_at hl 3 rfl) ?_
                        refine lv_iadd hx hb dX11_text_302 ?_
                        rw [show ((nI (12 * tw)) + (nI r) : Int32) = nI ((12 * tw) + r) from nI_add (12 * tw) r]
                        refine lv_imul hx hb dX11_text_303 ?_
                        rw [show (6 * (nI ((12 * tw) + r)) : Int32) = nI (6 * ((12 * tw) + r)) from pk_mul 6 ((12 * tw) + r)]
                        refine lv_iload hx hb dX11_text_304 (lv_at hl 4 rfl) ?_
                        refine lv_iadd hx hb dX11_text_306 ?_
                        rw [show ((nI (6 * ((12 * tw) + r))) + (nI cz) : Int32) = nI ((6 * ((12 * tw) + r)) + cz) from nI_add (6 * ((12 * tw) + r)) cz]
                        refine lv_aload_n hx hb dX11_text_307 rfl (lv_at hl 0 rfl) ?_
                        refine x_get (ref := "NoteHouseModel") F hP k240 rfl (fun _ h => List.mem_cons_of_mem _ (List.mem_append_right _ (h))) 34 (Nat.le_of_ble_eq_true rfl) (List.mem_cons_of_mem _ (List.mem_append_left _ (List.mem_append_left _ (List.mem_of_getElem? (i := 9) rfl)))) rfl rfl dX11_text_308 ?_
                        refine lv_bipush (v := 6) hx hb dX11_text_311 (by decide) ?_
                        refine lv_sipush (v := 144) hx hb dX11_text_313 (by decide) ?_
                        refine lv_iload hx hb dX11_text_316 (lv_at hl 3 rfl) ?_
                        refine lv_iadd hx hb dX11_text_318 ?_
                        rw [show (144 + (nI r) : Int32) = nI (144 + r) from nI_add 144 r]
                        refine lv_imul hx hb dX11_text_319 ?_
                        rw [show (6 * (nI (144 + r)) : Int32) = nI (6 * (144 + r)) from pk_mul 6 (144 + r)]
                        refine lv_iload hx hb dX11_text_320 (lv_at hl 4 rfl) ?_
                        refine lv_iadd hx hb dX11_text_322 ?_
                        rw [show ((nI (6 * (144 + r))) + (nI cz) : Int32) = nI ((6 * (144 + r)) + cz) from nI_add (6 * (144 + r)) cz]
                        refine x_iald F hP k247 (vp_in_nI (n := ((6 * (144 + r)) + cz)) (N := 936) (by omega) (by decide)) dX11_text_323 ?_
                        rw [nI_clamp (n := 6 * (144 + r) + cz) (by omega), (hz4 (6 * (144 + r) + cz) (by omega)).2 (by omega)]
                        refine y_iast F hP hD hS k247 (vp_in_nI (n := ((6 * ((12 * tw) + r)) + cz)) (N := 936) (by omega) (by decide)) dX11_text_324 (fun w249 ew250 H locs hP hD hS => ?_)
                        have k251 := wd_at.pt ew250 k240 (tg_ne ty tm34 (by decide))
                        have k252 := wd_at.pt ew250 k241 (tg_ne tm24 tm34 (by decide))
                        have k253 := wd_at.pt ew250 k242 (tg_ne tm29 tm34 (by decide))
                        have k254 := wd_at.pt ew250 k243 (tg_ne tm30 tm34 (by decide))
                        have k255 := wd_at.pt ew250 k244 (tg_ne tm31 tm34 (by decide))
                        have k256 := wd_at.pt ew250 k245 (tg_ne tm32 tm34 (by decide))
                        have k257 := wd_at.pt ew250 k246 (tg_ne tm33 tm34 (by decide))
                        have k258 : wd_at w249 m34 (.inl (cy 2, 936, .inl (upd q34 (nI ((6 * ((12 * tw) + r)) + cz)).toNatClampNeg (h34 (6 * (144 + r) + cz))))) := wd_at.ps ew250 k247
                        have kp259 := kp248.put ew250 s96
                        refine lv_iinc (v := nI (cz + 1)) (lv' := [(5, .int (nI (cz + 1))), (0, .ref y), (1, .int (nI tw)), (2, .int (nI n)), (4, .int (nI r))]) hx hb dX11_text_325 hl (k := 4) rfl (nI_1 cz) (by decide) rfl (fun ls hl => ?_)
                        refine lv_goto (tgt := 213) hx hb dX11_text_328 (by decide) ?_
                        exact ih213 (cz + 1) (upd q32 (nI ((6 * ((12 * tw) + r)) + cz)).toNatClampNeg (h32 (6 * (144 + r) + cz))) (upd q33 (nI ((6 * ((12 * tw) + r)) + cz)).toNatClampNeg (h33 (6 * (144 + r) + cz))) (upd q34 (nI ((6 * ((12 * tw) + r)) + cz)).toNatClampNeg (h34 (6 * (144 + r) + cz))) w249 (by omega) (hz2.s (by omega) (by omega) (by omega) (by rw [(show 6 * (144 + r) + cz = 864 + (6 * r + cz) by omega)])) (hz3.s (by omega) (by omega) (by omega) (by rw [(show 6 * (144 + r) + cz = 864 + (6 * r + cz) by omega)])) (hz4.s (by omega) (by omega) (by omega) (by rw [(show 6 * (144 + r) + cz = 864 + (6 * r + cz) by omega)])) k251 k252 k253 k254 k255 k256 k257 k258 kp259 ls (lv_sub hl [1, 2, 3, 4, 0] rfl) H locs hP hD hS
                    exact lp213 _ 0 p32 p33 p34 w204 (Nat.zero_add 6) hq2 hq3 hq4 k206 k207 k208 k209 k210 k211 k212 k213 kp214 ls (lv_sub hl [1, 2, 3, 4, 0] rfl) H locs hP hD hS
                exact lp158 _ 0 h30 h31 h32 h33 h34 w170 (Nat.zero_add n) (by assumption) (fun j hj => ⟨fun q => absurd q (by omega), fun _ => ⟨rfl, rfl⟩⟩) cqR.z cqR.z cqR.z k172 k173 k174 k175 k176 k177 k178 k179 kp180 ls (lv_sub hl [1, 2, 3, 0] rfl) H locs hP hD hS
              · have hfq9 : ¬ fq = 0 := fun q => c_169 (by rw [q]; decide)
                refine lv_bipush (v := (-2)) hx hb dX11_text_140 (by decide) ?_
                refine lv_aload_n hx hb dX11_text_142 rfl (lv_at hl 0 rfl) ?_
                refine x_get (ref := "NoteHouseModel") F hP k160 rfl (fun _ h => List.mem_cons_of_mem _ (List.mem_append_right _ (h))) 28 (Nat.le_of_ble_eq_true rfl) (List.mem_cons_of_mem _ (List.mem_append_left _ (List.mem_append_left _ (List.mem_of_getElem? (i := 1) rfl)))) rfl rfl dX11_text_143 ?_
                refine lv_isub hx hb dX11_text_146 ?_
                exact y_ir K hP hD hS (Nat.le_of_ble_eq_true rfl) (Nat.le_of_ble_eq_true rfl) (ty := .int) rfl rfl dX11_text_147 (⟨0, nI a, nI b, nI fq, f29, h30, h31, h32, h33, h34, (-2) - (nI fq), rfl, by simp [txtC, c4], hrl, by assumption, by have h9 := hfin.2 hfq9; rw [txN_n h9, txV_n h9]; exact hmt0.keep hfr1 hfr2, kp168, k160, k162, k163, k164, k165, k166, k167⟩)
            · have hf0 : fq = 0 := nI_z0 (by omega) c42
              have hn9 := hn13 hf0
              obtain ⟨hG, hmg2⟩ := hact c35 hf0
              subst hf0
              refine lv_aload_n hx hb dX11_text_45 rfl (lv_at hl 0 rfl) ?_
              refine lv_sipush (v := 144) hx hb dX11_text_46 (by decide) ?_
              refine lv_iload_n hx hb dX11_text_49 rfl (lv_at hl 2 rfl) ?_
              refine lv_bipush (v := 12) hx hb dX11_text_50 (by decide) ?_
              refine lv_icmp_ge (tgt := 59) hx hb dX11_text_52 (by decide) (fun c_260 => ?_) (fun c_260 => ?_)
              · have hn12 : 12 ≤ n := (nI_leI (a := 12) (b := n) (by omega) (by omega)).mp c_260
                refine lv_iconst (v := 0) hx hb dX11_text_59 (by decide) ?_
                refine lv_iadd hx hb dX11_text_60 ?_
                rw [show (144 + 0 : Int32) = 144 from by decide]
                refine lv_iload_n hx hb dX11_text_61 rfl (lv_at hl 2 rfl) ?_
                refine x_callV (n := 2) (As := [.int 144, .int (nI n)]) (rest := []) F hP hD hS (m_rule l D cy sk sv w46 tg y m2 m3 m4 m5 m6 m8 m9 m10 m11 m12 m13 m14 m17 m18 m19 m20 m21 m22 m23 m24 m29 m30 m31 m32 m33 m34 m35 m36 m37 m39 m40 m41 m42 m43 m44 m45 m46 m47 m48 m49 m51 m52 m53 m54 m56 m57 m58 m59 pc ac sc ln sh gf v0 td (nI b) v50 f24 h30 h31 h32 h33 h34 a 144 n T2 k47 k48 k50 k51 k52 k53 k54 (fun b => b = y ∨ b = m30 ∨ b = m31 ∨ b = m32 ∨ b = m33 ∨ b = m34) (Or.inl rfl) (Or.inr (Or.inl rfl)) (Or.inr (Or.inr (Or.inl rfl))) (Or.inr (Or.inr (Or.inr (Or.inl rfl)))) (Or.inr (Or.inr (Or.inr (Or.inr (Or.inl rfl))))) (Or.inr (Or.inr (Or.inr (Or.inr (Or.inr rfl))))) ty tm24 tm30 tm31 tm32 tm33 tm34 (by omega) (by omega) (by omega) (by omega) (by omega) (by omega) (by assumption) (by assumption)) gX11_text_X11_rule rfl rfl (by decide +kernel) ⟨(Nat.le_of_ble_eq_true rfl), (Nat.le_of_ble_eq_true rfl)⟩ rfl hl.1 (Nat.le_of_ble_eq_true rfl) k47 rfl dX11_text_62 rfl ⟨(Nat.le_of_ble_eq_true rfl), (Nat.le_of_ble_eq_true rfl)⟩ (fun v262 w263 hp261 H locs hP hD hS => ?_)
                obtain ⟨ax264, bx265, fvx266, gx267, gx268, gx269, gx270, gx271, rfl, hz272, hz273, hz274, hz275, hz276, hz277, hz278, hz279, hz280, kq287, k281, k282, k283, k284, k285, k286⟩ := hp261
                have k288 := kq287.2 _ _ k48 (orN (tg_ne tm24 ty (by decide)) (orN (tg_ne tm24 tm30 (by decide)) (orN (tg_ne tm24 tm31 (by decide)) (orN (tg_ne tm24 tm32 (by decide)) (orN (tg_ne tm24 tm33 (by decide)) (tg_ne tm24 tm34 (by decide)))))))
                have k289 := kq287.2 _ _ k49 (orN (tg_ne tm29 ty (by decide)) (orN (tg_ne tm29 tm30 (by decide)) (orN (tg_ne tm29 tm31 (by decide)) (orN (tg_ne tm29 tm32 (by decide)) (orN (tg_ne tm29 tm33 (by decide)) (tg_ne tm29 tm34 (by decide)))))))
                have kp290 := kp55.tr kq287 (fun b9 hm q9 => (fun q9 => Or.elim q9 (fun q9 => q9 ▸ s90) (fun q9 => Or.elim q9 (fun q9 => q9 ▸ s92) (fun q9 => Or.elim q9 (fun q9 => q9 ▸ s93) (fun q9 => Or.elim q9 (fun q9 => q9 ▸ s94) (fun q9 => Or.elim q9 (fun q9 => q9 ▸ s95) (fun q9 => q9 ▸ s96)))))) q9)
                refine W.eq (g2 := F0 m 65 ls []) rfl (W.widen (k := 0) (n := 0) (Nat.le_of_ble_eq_true rfl) (Nat.le_of_ble_eq_true rfl) ?_)
                refine lv_iinc (v := nI (n + 1)) (lv' := [(2, .int (nI (n + 1))), (0, .ref y), (1, .int (nI tw)), (3, .int on)]) hx hb dX11_text_65 hl (k := 2) rfl (nI_1 n) (by decide) rfl (fun ls hl => ?_)
                refine lv_aload_n hx hb dX11_text_68 rfl (lv_at hl 1 rfl) ?_
                refine x_get (ref := "NoteHouseModel") F hP k281 rfl (fun _ h => List.mem_cons_of_mem _ (List.mem_append_right _ (h))) 28 (Nat.le_of_ble_eq_true rfl) (List.mem_cons_of_mem _ (List.mem_append_left _ (List.mem_append_left _ (List.mem_of_getElem? (i := 1) rfl)))) rfl rfl dX11_text_69 ?_
                refine lv_if_ne (tgt := 86) hx hb dX11_text_72 (by decide) (fun c_291 => ?_) (fun c_291 => ?_)
                · have hF : ¬ fvx266 = 0 := fun q => c_291 (by rw [q]; rfl)
                  refine lv_iconst (v := 0) hx hb dX11_text_86 (by decide) ?_
                  refine lv_istore_n (lv' := [(3, .int 0), (2, .int (nI (n + 1))), (0, .ref y), (1, .int (nI tw))]) hx hb dX11_text_87 rfl hl (by decide) rfl (fun ls hl => ?_)
                  refine lv_iload_n hx hb dX11_text_88 rfl (lv_at hl 0 rfl) ?_
                  refine lv_if_eq (tgt := 34) hx hb dX11_text_89 (by decide) (fun c_292 => ?_) (fun c_292 => absurd (show (0 : Int32) = (0 : Int32) by decide) c_292)
                  exact ih34 (n + 1) 0 ax264 bx265 fvx266 gx267 gx268 gx269 gx270 gx271 T2 w263 (by omega) (by omega) (by omega) (by omega) (by omega) (by assumption) (fun h => absurd rfl h) (fun _ => ⟨fun q => absurd q hF, fun _ => by rw [← hG, show 13 - n = (12 - n) + 1 by omega]; rcases hz278 hF with h9 | ⟨T1, a9, h9, h8, h7⟩; exact txG_n h9; exact txG_f h9 h8 h7⟩) (fun j hj => by obtain ⟨z1, z2⟩ := hz279 j hj; obtain ⟨z4, z5⟩ := hfr1 j hj; exact ⟨z1.trans z4, z2.trans z5⟩) (fun j hj => by obtain ⟨z1, z2, z3⟩ := hz280 j hj; obtain ⟨z4, z5, z6⟩ := hfr2 j hj; exact ⟨z1.trans z4, z2.trans z5, z3.trans z6⟩) k281 k288 k289 k282 k283 k284 k285 k286 kp290 ls (lv_sub hl [2, 3, 1, 0] rfl) H locs hP hD hS
                · have hF0 : fvx266 = 0 := nI_z0 (by omega) c_291
                  obtain ⟨TN9, a9, hS1, hnx9, hmg3⟩ := hz277 hF0
                  clear hz277 hz278
                  subst hF0
                  refine lv_aload_n hx hb dX11_text_75 rfl (lv_at hl 1 rfl) ?_
                  refine x_callV (n := 0) (As := []) (rest := []) F hP hD hS (m_isEnd l D cy sk sv w263 tg y m2 m3 m4 m5 m6 m8 m9 m10 m11 m12 m13 m14 m17 m18 m19 m20 m21 m22 m23 m24 m29 m30 m31 m32 m33 m34 m35 m36 m37 m39 m40 m41 m42 m43 m44 m45 m46 m47 m48 m49 m51 m52 m53 m54 m56 m57 m58 m59 pc ac sc ln sh gf v0 td (nI bx265) (nI 0) v50 f24 ax264 k281 k288 (fun b => b = y) rfl ty tm24 (by omega) (by omega)) gX11_text_X11_isEnd rfl rfl (by decide +kernel) ⟨(Nat.le_of_ble_eq_true rfl), (Nat.le_of_ble_eq_true rfl)⟩ rfl hl.1 (Nat.le_of_ble_eq_true rfl) k281 rfl dX11_text_76 rfl ⟨(Nat.le_of_ble_eq_true rfl), (Nat.le_of_ble_eq_true rfl)⟩ (fun v294 w295 hp293 H locs hP hD hS => ?_)
                  obtain ⟨ax296, rx297, rfl, rfl, rfl, hz298, hz299, hz300, hz301, kq303, k302⟩ := hp293
                  have k304 := kq303.2 _ _ k288 (tg_ne tm24 ty (by decide))
                  have k305 := kq303.2 _ _ k289 (tg_ne tm29 ty (by decide))
                  have k306 := kq303.2 _ _ k282 (tg_ne tm30 ty (by decide))
                  have k307 := kq303.2 _ _ k283 (tg_ne tm31 ty (by decide))
                  have k308 := kq303.2 _ _ k284 (tg_ne tm32 ty (by decide))
                  have k309 := kq303.2 _ _ k285 (tg_ne tm33 ty (by decide))
                  have k310 := kq303.2 _ _ k286 (tg_ne tm34 ty (by decide))
                  have kp311 := kp290.tr kq303 (fun b9 hm q9 => (fun q9 => q9 ▸ s90) q9)
                  refine W.eq (g2 := F0 m 79 ls [.int (ieR f24 ln ax264)]) rfl (W.widen (k := 0) (n := 0) (Nat.le_of_ble_eq_true rfl) (Nat.le_of_ble_eq_true rfl) ?_)
                  refine lv_if_ne (tgt := 86) hx hb dX11_text_79 (by decide) (fun cE => ?_) (fun cE => ?_)
                  · have hE := ieR_1 cE
                    refine lv_iconst (v := 0) hx hb dX11_text_86 (by decide) ?_
                    refine lv_istore_n (lv' := [(3, .int 0), (2, .int (nI (n + 1))), (0, .ref y), (1, .int (nI tw))]) hx hb dX11_text_87 rfl hl (by decide) rfl (fun ls hl => ?_)
                    refine lv_iload_n hx hb dX11_text_88 rfl (lv_at hl 0 rfl) ?_
                    refine lv_if_eq (tgt := 34) hx hb dX11_text_89 (by decide) (fun c_312 => ?_) (fun c_312 => absurd (show (0 : Int32) = (0 : Int32) by decide) c_312)
                    exact ih34 (n + 1) 0 (nx f24 ln ax264) (nx f24 ln ax264) 0 gx267 gx268 gx269 gx270 gx271 TN9 w295 (by omega) (by omega) (by omega) (by omega) (by omega) (by assumption) (fun h => absurd rfl h) (fun _ => ⟨fun _ => ⟨by rw [← hG, show 13 - n = (12 - n) + 1 by omega]; exact txG_e hS1 (by rw [hnx9]; omega), hmg3⟩, fun h => absurd rfl h⟩) (fun j hj => by obtain ⟨z1, z2⟩ := hz279 j hj; obtain ⟨z4, z5⟩ := hfr1 j hj; exact ⟨z1.trans z4, z2.trans z5⟩) (fun j hj => by obtain ⟨z1, z2, z3⟩ := hz280 j hj; obtain ⟨z4, z5, z6⟩ := hfr2 j hj; exact ⟨z1.trans z4, z2.trans z5, z3.trans z6⟩) k302 k304 k305 k306 k307 k308 k309 k310 kp311 ls (lv_sub hl [2, 3, 1, 0] rfl) H locs hP hD hS
                  · have hne := hz301 cE
                    refine lv_iconst (v := 1) hx hb dX11_text_82 (by decide) ?_
                    refine lv_goto (tgt := 87) hx hb dX11_text_83 (by decide) ?_
                    refine lv_istore_n (lv' := [(3, .int 1), (2, .int (nI (n + 1))), (0, .ref y), (1, .int (nI tw))]) hx hb dX11_text_87 rfl hl (by decide) rfl (fun ls hl => ?_)
                    refine lv_iload_n hx hb dX11_text_88 rfl (lv_at hl 0 rfl) ?_
                    refine lv_if_eq (tgt := 34) hx hb dX11_text_89 (by decide) (fun c_313 => absurd c_313 (show ¬ (1 : Int32) = (0 : Int32) by decide)) (fun c_313 => ?_)
                    refine lv_aload_n hx hb dX11_text_92 rfl (lv_at hl 2 rfl) ?_
                    refine x_get (ref := "NoteHouseModel") F hP k302 rfl (fun _ h => List.mem_cons_of_mem _ (List.mem_append_right _ (h))) 24 (Nat.le_of_ble_eq_true rfl) (List.mem_cons_of_mem _ (List.mem_append_left _ (List.mem_append_left _ (List.mem_of_getElem? (i := 2) rfl)))) rfl rfl dX11_text_93 ?_
                    refine lv_aload_n hx hb dX11_text_96 rfl (lv_at hl 2 rfl) ?_
                    refine x_get (ref := "NoteHouseModel") F hP k302 rfl (fun _ h => List.mem_cons_of_mem _ (List.mem_append_right _ (h))) 26 (Nat.le_of_ble_eq_true rfl) (List.mem_cons_of_mem _ (List.mem_append_left _ (List.mem_append_left _ (List.mem_of_getElem? (i := 0) rfl)))) rfl rfl dX11_text_97 ?_
                    refine x_bald F hP k304 (vp_in_nI (n := (nx f24 ln ax264)) (N := 300) (by omega) (by decide)) dX11_text_100 ?_
                    rw [nI_clamp (n := nx f24 ln ax264) (by omega)]
                    refine lv_bipush (v := 59) hx hb dX11_text_101 (by decide) ?_
                    refine lv_icmp_eq (tgt := 115) hx hb dX11_text_103 (by decide) (fun c59 => ?_) (fun c59 => ?_)
                    · refine lv_aload_n hx hb dX11_text_115 rfl (lv_at hl 2 rfl) ?_
                      refine lv_dup hx hb dX11_text_116 rfl ?_
                      refine x_get (ref := "NoteHouseModel") F hP k302 rfl (fun _ h => List.mem_cons_of_mem _ (List.mem_append_right _ (h))) 26 (Nat.le_of_ble_eq_true rfl) (List.mem_cons_of_mem _ (List.mem_append_left _ (List.mem_append_left _ (List.mem_of_getElem? (i := 0) rfl)))) rfl rfl dX11_text_117 ?_
                      refine lv_iconst (v := 1) hx hb dX11_text_120 (by decide) ?_
                      refine lv_iadd hx hb dX11_text_121 ?_
                      rw [show ((nI (nx f24 ln ax264)) + 1 : Int32) = nI ((nx f24 ln ax264) + 1) from nI_add (nx f24 ln ax264) 1]
                      refine y_put (ref := "NoteHouseModel") F hP hD hS k302 rfl (fun _ h => List.mem_cons_of_mem _ (List.mem_append_right _ (h))) tyX11_ok nmX11 26 (Nat.le_of_ble_eq_true rfl) (List.mem_cons_of_mem _ (List.mem_append_left _ (List.mem_append_left _ (List.mem_of_getElem? (i := 0) rfl)))) rfl rfl rfl rfl (Nat.le_of_ble_eq_true rfl) dX11_text_122 (fun w314 ew315 H locs hP hD hS => ?_)
                      have k316 : wd_at w314 y (.inr (11, [.int v0, .int td, .ref m2, .ref m3, .ref m4, .ref m5, .ref m6, .int (nI pc), .ref m8, .ref m9, .ref m10, .ref m11, .ref m12, .ref m13, .ref m14, .int (nI ac), .int (nI sc), .ref m17, .ref m18, .ref m19, .ref m20, .ref m21, .ref m22, .ref m23, .ref m24, .int (nI ln), .int (nI ((nx f24 ln ax264) + 1)), .int (nI (nx f24 ln ax264)), .int (nI 0), .ref m29, .ref m30, .ref m31, .ref m32, .ref m33, .ref m34, .ref m35, .ref m36, .ref m37, .int (nI sh), .ref m39, .ref m40, .ref m41, .ref m42, .ref m43, .ref m44, .ref m45, .ref m46, .ref m47, .ref m48, .ref m49, .int v50, .ref m51, .ref m52, .ref m53, .ref m54, .int (nI gf), .ref m56, .ref m57, .ref m58, .ref m59])) := wd_at.ps ew315 k302
                      have k317 := wd_at.pt ew315 k304 (tg_ne tm24 ty (by decide))
                      have k318 := wd_at.pt ew315 k305 (tg_ne tm29 ty (by decide))
                      have k319 := wd_at.pt ew315 k306 (tg_ne tm30 ty (by decide))
                      have k320 := wd_at.pt ew315 k307 (tg_ne tm31 ty (by decide))
                      have k321 := wd_at.pt ew315 k308 (tg_ne tm32 ty (by decide))
                      have k322 := wd_at.pt ew315 k309 (tg_ne tm33 ty (by decide))
                      have k323 := wd_at.pt ew315 k310 (tg_ne tm34 ty (by decide))
                      have kp324 := kp311.put ew315 s90
                      refine lv_goto (tgt := 34) hx hb dX11_text_125 (by decide) ?_
                      exact ih34 (n + 1) 1 ((nx f24 ln ax264) + 1) (nx f24 ln ax264) 0 gx267 gx268 gx269 gx270 gx271 TN9 w314 (by omega) (by omega) (by omega) (by omega) (by omega) (by assumption) (fun _ _ => ⟨by rw [← hG, show 13 - n = (12 - n) + 1 by omega, show 13 - (n + 1) = 12 - n by omega, txG_s hS1 (by rw [hnx9]; omega) (by rw [hnx9]; exact c59), hnx9], hmg3⟩) (fun h => absurd h (by simp)) (fun j hj => by obtain ⟨z1, z2⟩ := hz279 j hj; obtain ⟨z4, z5⟩ := hfr1 j hj; exact ⟨z1.trans z4, z2.trans z5⟩) (fun j hj => by obtain ⟨z1, z2, z3⟩ := hz280 j hj; obtain ⟨z4, z5, z6⟩ := hfr2 j hj; exact ⟨z1.trans z4, z2.trans z5, z3.trans z6⟩) k316 k317 k318 k319 k320 k321 k322 k323 kp324 ls (lv_sub hl [2, 3, 1, 0] rfl) H locs hP hD hS
                    · refine lv_aload_n hx hb dX11_text_106 rfl (lv_at hl 2 rfl) ?_
                      refine lv_iconst (v := 0) hx hb dX11_text_107 (by decide) ?_
                      refine lv_aload_n hx hb dX11_text_108 rfl (lv_at hl 2 rfl) ?_
                      refine x_get (ref := "NoteHouseModel") F hP k302 rfl (fun _ h => List.mem_cons_of_mem _ (List.mem_append_right _ (h))) 26 (Nat.le_of_ble_eq_true rfl) (List.mem_cons_of_mem _ (List.mem_append_left _ (List.mem_append_left _ (List.mem_of_getElem? (i := 0) rfl)))) rfl rfl dX11_text_109 ?_
                      refine x_callV (n := 2) (As := [.int 0, .int (nI (nx f24 ln ax264))]) (rest := []) F hP hD hS (m_fails l D cy sk sv w295 tg y m2 m3 m4 m5 m6 m8 m9 m10 m11 m12 m13 m14 m17 m18 m19 m20 m21 m22 m23 m24 m29 m30 m31 m32 m33 m34 m35 m36 m37 m39 m40 m41 m42 m43 m44 m45 m46 m47 m48 m49 m51 m52 m53 m54 m56 m57 m58 m59 pc ac sc ln sh gf v0 td (nI (nx f24 ln ax264)) (nI (nx f24 ln ax264)) v50 0 0 (nx f24 ln ax264) k302 (fun b => b = y) rfl ty (by omega) (by omega) (by omega)) gX11_text_X11_fails rfl rfl (by decide +kernel) ⟨(Nat.le_of_ble_eq_true rfl), (Nat.le_of_ble_eq_true rfl)⟩ rfl hl.1 (Nat.le_of_ble_eq_true rfl) k302 rfl dX11_text_112 rfl ⟨(Nat.le_of_ble_eq_true rfl), (Nat.le_of_ble_eq_true rfl)⟩ (fun v326 w327 hp325 H locs hP hD hS => ?_)
                      obtain ⟨fwx328, rfl, rfl, hz329, hz330, kq332, k331⟩ := hp325
                      have k333 := kq332.2 _ _ k304 (tg_ne tm24 ty (by decide))
                      have k334 := kq332.2 _ _ k305 (tg_ne tm29 ty (by decide))
                      have k335 := kq332.2 _ _ k306 (tg_ne tm30 ty (by decide))
                      have k336 := kq332.2 _ _ k307 (tg_ne tm31 ty (by decide))
                      have k337 := kq332.2 _ _ k308 (tg_ne tm32 ty (by decide))
                      have k338 := kq332.2 _ _ k309 (tg_ne tm33 ty (by decide))
                      have k339 := kq332.2 _ _ k310 (tg_ne tm34 ty (by decide))
                      have kp340 := kp311.tr kq332 (fun b9 hm q9 => (fun q9 => q9 ▸ s90) q9)
                      refine W.eq (g2 := F0 m 115 ls []) rfl (W.widen (k := 0) (n := 0) (Nat.le_of_ble_eq_true rfl) (Nat.le_of_ble_eq_true rfl) ?_)
                      refine lv_aload_n hx hb dX11_text_115 rfl (lv_at hl 2 rfl) ?_
                      refine lv_dup hx hb dX11_text_116 rfl ?_
                      refine x_get (ref := "NoteHouseModel") F hP k331 rfl (fun _ h => List.mem_cons_of_mem _ (List.mem_append_right _ (h))) 26 (Nat.le_of_ble_eq_true rfl) (List.mem_cons_of_mem _ (List.mem_append_left _ (List.mem_append_left _ (List.mem_of_getElem? (i := 0) rfl)))) rfl rfl dX11_text_117 ?_
                      refine lv_iconst (v := 1) hx hb dX11_text_120 (by decide) ?_
                      refine lv_iadd hx hb dX11_text_121 ?_
                      rw [show ((nI (nx f24 ln ax264)) + 1 : Int32) = nI ((nx f24 ln ax264) + 1) from nI_add (nx f24 ln ax264) 1]
                      refine y_put (ref := "NoteHouseModel") F hP hD hS k331 rfl (fun _ h => List.mem_cons_of_mem _ (List.mem_append_right _ (h))) tyX11_ok nmX11 26 (Nat.le_of_ble_eq_true rfl) (List.mem_cons_of_mem _ (List.mem_append_left _ (List.mem_append_left _ (List.mem_of_getElem? (i := 0) rfl)))) rfl rfl rfl rfl (Nat.le_of_ble_eq_true rfl) dX11_text_122 (fun w341 ew342 H locs hP hD hS => ?_)
                      have k343 : wd_at w341 y (.inr (11, [.int v0, .int td, .ref m2, .ref m3, .ref m4, .ref m5, .ref m6, .int (nI pc), .ref m8, .ref m9, .ref m10, .ref m11, .ref m12, .ref m13, .ref m14, .int (nI ac), .int (nI sc), .ref m17, .ref m18, .ref m19, .ref m20, .ref m21, .ref m22, .ref m23, .ref m24, .int (nI ln), .int (nI ((nx f24 ln ax264) + 1)), .int (nI (nx f24 ln ax264)), .int (nI (flF 0 0 (nx f24 ln ax264))), .ref m29, .ref m30, .ref m31, .ref m32, .ref m33, .ref m34, .ref m35, .ref m36, .ref m37, .int (nI sh), .ref m39, .ref m40, .ref m41, .ref m42, .ref m43, .ref m44, .ref m45, .ref m46, .ref m47, .ref m48, .ref m49, .int v50, .ref m51, .ref m52, .ref m53, .ref m54, .int (nI gf), .ref m56, .ref m57, .ref m58, .ref m59])) := wd_at.ps ew342 k331
                      have k344 := wd_at.pt ew342 k333 (tg_ne tm24 ty (by decide))
                      have k345 := wd_at.pt ew342 k334 (tg_ne tm29 ty (by decide))
                      have k346 := wd_at.pt ew342 k335 (tg_ne tm30 ty (by decide))
                      have k347 := wd_at.pt ew342 k336 (tg_ne tm31 ty (by decide))
                      have k348 := wd_at.pt ew342 k337 (tg_ne tm32 ty (by decide))
                      have k349 := wd_at.pt ew342 k338 (tg_ne tm33 ty (by decide))
                      have k350 := wd_at.pt ew342 k339 (tg_ne tm34 ty (by decide))
                      have kp351 := kp340.put ew342 s90
                      refine lv_goto (tgt := 34) hx hb dX11_text_125 (by decide) ?_
                      exact ih34 (n + 1) 1 ((nx f24 ln ax264) + 1) (nx f24 ln ax264) (flF 0 0 (nx f24 ln ax264)) gx267 gx268 gx269 gx270 gx271 TN9 w341 (by omega) (by omega) (by omega) (by omega) (by omega) (by assumption) (fun _ q => absurd q flF_p) (fun _ => ⟨fun q => absurd q flF_p, fun _ => by rw [← hG, show 13 - n = (12 - n) + 1 by omega]; exact txG_f hS1 (by rw [hnx9]; omega) (by rw [hnx9]; exact c59)⟩) (fun j hj => by obtain ⟨z1, z2⟩ := hz279 j hj; obtain ⟨z4, z5⟩ := hfr1 j hj; exact ⟨z1.trans z4, z2.trans z5⟩) (fun j hj => by obtain ⟨z1, z2, z3⟩ := hz280 j hj; obtain ⟨z4, z5, z6⟩ := hfr2 j hj; exact ⟨z1.trans z4, z2.trans z5, z3.trans z6⟩) k343 k344 k345 k346 k347 k348 k349 k350 kp351 ls (lv_sub hl [2, 3, 1, 0] rfl) H locs hP hD hS
              · have hn12 : n < 12 := nI_lt_of (a := n) (n := 12) c_260 (by omega)
                refine lv_iload_n hx hb dX11_text_55 rfl (lv_at hl 2 rfl) ?_
                refine lv_goto (tgt := 60) hx hb dX11_text_56 (by decide) ?_
                refine lv_iadd hx hb dX11_text_60 ?_
                rw [show (144 + (nI n) : Int32) = nI (144 + n) from nI_add 144 n]
                refine lv_iload_n hx hb dX11_text_61 rfl (lv_at hl 2 rfl) ?_
                refine x_callV (n := 2) (As := [.int (nI (144 + n)), .int (nI n)]) (rest := []) F hP hD hS (m_rule l D cy sk sv w46 tg y m2 m3 m4 m5 m6 m8 m9 m10 m11 m12 m13 m14 m17 m18 m19 m20 m21 m22 m23 m24 m29 m30 m31 m32 m33 m34 m35 m36 m37 m39 m40 m41 m42 m43 m44 m45 m46 m47 m48 m49 m51 m52 m53 m54 m56 m57 m58 m59 pc ac sc ln sh gf v0 td (nI b) v50 f24 h30 h31 h32 h33 h34 a (144 + n) n T2 k47 k48 k50 k51 k52 k53 k54 (fun b => b = y ∨ b = m30 ∨ b = m31 ∨ b = m32 ∨ b = m33 ∨ b = m34) (Or.inl rfl) (Or.inr (Or.inl rfl)) (Or.inr (Or.inr (Or.inl rfl))) (Or.inr (Or.inr (Or.inr (Or.inl rfl)))) (Or.inr (Or.inr (Or.inr (Or.inr (Or.inl rfl))))) (Or.inr (Or.inr (Or.inr (Or.inr (Or.inr rfl))))) ty tm24 tm30 tm31 tm32 tm33 tm34 (by omega) (by omega) (by omega) (by omega) (by omega) (by omega) (by assumption) (by assumption)) gX11_text_X11_rule rfl rfl (by decide +kernel) ⟨(Nat.le_of_ble_eq_true rfl), (Nat.le_of_ble_eq_true rfl)⟩ rfl hl.1 (Nat.le_of_ble_eq_true rfl) k47 rfl dX11_text_62 rfl ⟨(Nat.le_of_ble_eq_true rfl), (Nat.le_of_ble_eq_true rfl)⟩ (fun v353 w354 hp352 H locs hP hD hS => ?_)
                obtain ⟨ax355, bx356, fvx357, gx358, gx359, gx360, gx361, gx362, rfl, hz363, hz364, hz365, hz366, hz367, hz368, hz369, hz370, hz371, kq378, k372, k373, k374, k375, k376, k377⟩ := hp352
                have k379 := kq378.2 _ _ k48 (orN (tg_ne tm24 ty (by decide)) (orN (tg_ne tm24 tm30 (by decide)) (orN (tg_ne tm24 tm31 (by decide)) (orN (tg_ne tm24 tm32 (by decide)) (orN (tg_ne tm24 tm33 (by decide)) (tg_ne tm24 tm34 (by decide)))))))
                have k380 := kq378.2 _ _ k49 (orN (tg_ne tm29 ty (by decide)) (orN (tg_ne tm29 tm30 (by decide)) (orN (tg_ne tm29 tm31 (by decide)) (orN (tg_ne tm29 tm32 (by decide)) (orN (tg_ne tm29 tm33 (by decide)) (tg_ne tm29 tm34 (by decide)))))))
                have kp381 := kp55.tr kq378 (fun b9 hm q9 => (fun q9 => Or.elim q9 (fun q9 => q9 ▸ s90) (fun q9 => Or.elim q9 (fun q9 => q9 ▸ s92) (fun q9 => Or.elim q9 (fun q9 => q9 ▸ s93) (fun q9 => Or.elim q9 (fun q9 => q9 ▸ s94) (fun q9 => Or.elim q9 (fun q9 => q9 ▸ s95) (fun q9 => q9 ▸ s96)))))) q9)
                refine W.eq (g2 := F0 m 65 ls []) rfl (W.widen (k := 0) (n := 0) (Nat.le_of_ble_eq_true rfl) (Nat.le_of_ble_eq_true rfl) ?_)
                refine lv_iinc (v := nI (n + 1)) (lv' := [(2, .int (nI (n + 1))), (0, .ref y), (1, .int (nI tw)), (3, .int on)]) hx hb dX11_text_65 hl (k := 2) rfl (nI_1 n) (by decide) rfl (fun ls hl => ?_)
                refine lv_aload_n hx hb dX11_text_68 rfl (lv_at hl 1 rfl) ?_
                refine x_get (ref := "NoteHouseModel") F hP k372 rfl (fun _ h => List.mem_cons_of_mem _ (List.mem_append_right _ (h))) 28 (Nat.le_of_ble_eq_true rfl) (List.mem_cons_of_mem _ (List.mem_append_left _ (List.mem_append_left _ (List.mem_of_getElem? (i := 1) rfl)))) rfl rfl dX11_text_69 ?_
                refine lv_if_ne (tgt := 86) hx hb dX11_text_72 (by decide) (fun c_382 => ?_) (fun c_382 => ?_)
                · have hF : ¬ fvx357 = 0 := fun q => c_382 (by rw [q]; rfl)
                  refine lv_iconst (v := 0) hx hb dX11_text_86 (by decide) ?_
                  refine lv_istore_n (lv' := [(3, .int 0), (2, .int (nI (n + 1))), (0, .ref y), (1, .int (nI tw))]) hx hb dX11_text_87 rfl hl (by decide) rfl (fun ls hl => ?_)
                  refine lv_iload_n hx hb dX11_text_88 rfl (lv_at hl 0 rfl) ?_
                  refine lv_if_eq (tgt := 34) hx hb dX11_text_89 (by decide) (fun c_383 => ?_) (fun c_383 => absurd (show (0 : Int32) = (0 : Int32) by decide) c_383)
                  exact ih34 (n + 1) 0 ax355 bx356 fvx357 gx358 gx359 gx360 gx361 gx362 T2 w354 (by omega) (by omega) (by omega) (by omega) (by omega) (by assumption) (fun h => absurd rfl h) (fun _ => ⟨fun q => absurd q hF, fun _ => by rw [← hG, show 13 - n = (12 - n) + 1 by omega]; rcases hz369 hF with h9 | ⟨T1, a9, h9, h8, h7⟩; exact txG_n h9; exact txG_f h9 h8 h7⟩) (fun j hj => by obtain ⟨z1, z2⟩ := hz370 j hj; obtain ⟨z4, z5⟩ := hfr1 j hj; exact ⟨z1.trans z4, z2.trans z5⟩) (fun j hj => by obtain ⟨z1, z2, z3⟩ := hz371 j hj; obtain ⟨z4, z5, z6⟩ := hfr2 j hj; exact ⟨z1.trans z4, z2.trans z5, z3.trans z6⟩) k372 k379 k380 k373 k374 k375 k376 k377 kp381 ls (lv_sub hl [2, 3, 1, 0] rfl) H locs hP hD hS
                · have hF0 : fvx357 = 0 := nI_z0 (by omega) c_382
                  obtain ⟨TN9, a9, hS1, hnx9, hmg3⟩ := hz368 hF0
                  clear hz368 hz369
                  subst hF0
                  refine lv_aload_n hx hb dX11_text_75 rfl (lv_at hl 1 rfl) ?_
                  refine x_callV (n := 0) (As := []) (rest := []) F hP hD hS (m_isEnd l D cy sk sv w354 tg y m2 m3 m4 m5 m6 m8 m9 m10 m11 m12 m13 m14 m17 m18 m19 m20 m21 m22 m23 m24 m29 m30 m31 m32 m33 m34 m35 m36 m37 m39 m40 m41 m42 m43 m44 m45 m46 m47 m48 m49 m51 m52 m53 m54 m56 m57 m58 m59 pc ac sc ln sh gf v0 td (nI bx356) (nI 0) v50 f24 ax355 k372 k379 (fun b => b = y) rfl ty tm24 (by omega) (by omega)) gX11_text_X11_isEnd rfl rfl (by decide +kernel) ⟨(Nat.le_of_ble_eq_true rfl), (Nat.le_of_ble_eq_true rfl)⟩ rfl hl.1 (Nat.le_of_ble_eq_true rfl) k372 rfl dX11_text_76 rfl ⟨(Nat.le_of_ble_eq_true rfl), (Nat.le_of_ble_eq_true rfl)⟩ (fun v385 w386 hp384 H locs hP hD hS => ?_)
                  obtain ⟨ax387, rx388, rfl, rfl, rfl, hz389, hz390, hz391, hz392, kq394, k393⟩ := hp384
                  have k395 := kq394.2 _ _ k379 (tg_ne tm24 ty (by decide))
                  have k396 := kq394.2 _ _ k380 (tg_ne tm29 ty (by decide))
                  have k397 := kq394.2 _ _ k373 (tg_ne tm30 ty (by decide))
                  have k398 := kq394.2 _ _ k374 (tg_ne tm31 ty (by decide))
                  have k399 := kq394.2 _ _ k375 (tg_ne tm32 ty (by decide))
                  have k400 := kq394.2 _ _ k376 (tg_ne tm33 ty (by decide))
                  have k401 := kq394.2 _ _ k377 (tg_ne tm34 ty (by decide))
                  have kp402 := kp381.tr kq394 (fun b9 hm q9 => (fun q9 => q9 ▸ s90) q9)
                  refine W.eq (g2 := F0 m 79 ls [.int (ieR f24 ln ax355)]) rfl (W.widen (k := 0) (n := 0) (Nat.le_of_ble_eq_true rfl) (Nat.le_of_ble_eq_true rfl) ?_)
                  refine lv_if_ne (tgt := 86) hx hb dX11_text_79 (by decide) (fun cE => ?_) (fun cE => ?_)
                  · have hE := ieR_1 cE
                    refine lv_iconst (v := 0) hx hb dX11_text_86 (by decide) ?_
                    refine lv_istore_n (lv' := [(3, .int 0), (2, .int (nI (n + 1))), (0, .ref y), (1, .int (nI tw))]) hx hb dX11_text_87 rfl hl (by decide) rfl (fun ls hl => ?_)
                    refine lv_iload_n hx hb dX11_text_88 rfl (lv_at hl 0 rfl) ?_
                    refine lv_if_eq (tgt := 34) hx hb dX11_text_89 (by decide) (fun c_403 => ?_) (fun c_403 => absurd (show (0 : Int32) = (0 : Int32) by decide) c_403)
                    exact ih34 (n + 1) 0 (nx f24 ln ax355) (nx f24 ln ax355) 0 gx358 gx359 gx360 gx361 gx362 TN9 w386 (by omega) (by omega) (by omega) (by omega) (by omega) (by assumption) (fun h => absurd rfl h) (fun _ => ⟨fun _ => ⟨by rw [← hG, show 13 - n = (12 - n) + 1 by omega]; exact txG_e hS1 (by rw [hnx9]; omega), hmg3⟩, fun h => absurd rfl h⟩) (fun j hj => by obtain ⟨z1, z2⟩ := hz370 j hj; obtain ⟨z4, z5⟩ := hfr1 j hj; exact ⟨z1.trans z4, z2.trans z5⟩) (fun j hj => by obtain ⟨z1, z2, z3⟩ := hz371 j hj; obtain ⟨z4, z5, z6⟩ := hfr2 j hj; exact ⟨z1.trans z4, z2.trans z5, z3.trans z6⟩) k393 k395 k396 k397 k398 k399 k400 k401 kp402 ls (lv_sub hl [2, 3, 1, 0] rfl) H locs hP hD hS
                  · have hne := hz392 cE
                    refine lv_iconst (v := 1) hx hb dX11_text_82 (by decide) ?_
                    refine lv_goto (tgt := 87) hx hb dX11_text_83 (by decide) ?_
                    refine lv_istore_n (lv' := [(3, .int 1), (2, .int (nI (n + 1))), (0, .ref y), (1, .int (nI tw))]) hx hb dX11_text_87 rfl hl (by decide) rfl (fun ls hl => ?_)
                    refine lv_iload_n hx hb dX11_text_88 rfl (lv_at hl 0 rfl) ?_
                    refine lv_if_eq (tgt := 34) hx hb dX11_text_89 (by decide) (fun c_404 => absurd c_404 (show ¬ (1 : Int32) = (0 : Int32) by decide)) (fun c_404 => ?_)
                    refine lv_aload_n hx hb dX11_text_92 rfl (lv_at hl 2 rfl) ?_
                    refine x_get (ref := "NoteHouseModel") F hP k393 rfl (fun _ h => List.mem_cons_of_mem _ (List.mem_append_right _ (h))) 24 (Nat.le_of_ble_eq_true rfl) (List.mem_cons_of_mem _ (List.mem_append_left _ (List.mem_append_left _ (List.mem_of_getElem? (i := 2) rfl)))) rfl rfl dX11_text_93 ?_
                    refine lv_aload_n hx hb dX11_text_96 rfl (lv_at hl 2 rfl) ?_
                    refine x_get (ref := "NoteHouseModel") F hP k393 rfl (fun _ h => List.mem_cons_of_mem _ (List.mem_append_right _ (h))) 26 (Nat.le_of_ble_eq_true rfl) (List.mem_cons_of_mem _ (List.mem_append_left _ (List.mem_append_left _ (List.mem_of_getElem? (i := 0) rfl)))) rfl rfl dX11_text_97 ?_
                    refine x_bald F hP k395 (vp_in_nI (n := (nx f24 ln ax355)) (N := 300) (by omega) (by decide)) dX11_text_100 ?_
                    rw [nI_clamp (n := nx f24 ln ax355) (by omega)]
                    refine lv_bipush (v := 59) hx hb dX11_text_101 (by decide) ?_
                    refine lv_icmp_eq (tgt := 115) hx hb dX11_text_103 (by decide) (fun c59 => ?_) (fun c59 => ?_)
                    · refine lv_aload_n hx hb dX11_text_115 rfl (lv_at hl 2 rfl) ?_
                      refine lv_dup hx hb dX11_text_116 rfl ?_
                      refine x_get (ref := "NoteHouseModel") F hP k393 rfl (fun _ h => List.mem_cons_of_mem _ (List.mem_append_right _ (h))) 26 (Nat.le_of_ble_eq_true rfl) (List.mem_cons_of_mem _ (List.mem_append_left _ (List.mem_append_left _ (List.mem_of_getElem? (i := 0) rfl)))) rfl rfl dX11_text_117 ?_
                      refine lv_iconst (v := 1) hx hb dX11_text_120 (by decide) ?_
                      refine lv_iadd hx hb dX11_text_121 ?_
                      rw [show ((nI (nx f24 ln ax355)) + 1 : Int32) = nI ((nx f24 ln ax355) + 1) from nI_add (nx f24 ln ax355) 1]
                      refine y_put (ref := "NoteHouseModel") F hP hD hS k393 rfl (fun _ h => List.mem_cons_of_mem _ (List.mem_append_right _ (h))) tyX11_ok nmX11 26 (Nat.le_of_ble_eq_true rfl) (List.mem_cons_of_mem _ (List.mem_append_left _ (List.mem_append_left _ (List.mem_of_getElem? (i := 0) rfl)))) rfl rfl rfl rfl (Nat.le_of_ble_eq_true rfl) dX11_text_122 (fun w405 ew406 H locs hP hD hS => ?_)
                      have k407 : wd_at w405 y (.inr (11, [.int v0, .int td, .ref m2, .ref m3, .ref m4, .ref m5, .ref m6, .int (nI pc), .ref m8, .ref m9, .ref m10, .ref m11, .ref m12, .ref m13, .ref m14, .int (nI ac), .int (nI sc), .ref m17, .ref m18, .ref m19, .ref m20, .ref m21, .ref m22, .ref m23, .ref m24, .int (nI ln), .int (nI ((nx f24 ln ax355) + 1)), .int (nI (nx f24 ln ax355)), .int (nI 0), .ref m29, .ref m30, .ref m31, .ref m32, .ref m33, .ref m34, .ref m35, .ref m36, .ref m37, .int (nI sh), .ref m39, .ref m40, .ref m41, .ref m42, .ref m43, .ref m44, .ref m45, .ref m46, .ref m47, .ref m48, .ref m49, .int v50, .ref m51, .ref m52, .ref m53, .ref m54, .int (nI gf), .ref m56, .ref m57, .ref m58, .ref m59])) := wd_at.ps ew406 k393
                      have k408 := wd_at.pt ew406 k395 (tg_ne tm24 ty (by decide))
                      have k409 := wd_at.pt ew406 k396 (tg_ne tm29 ty (by decide))
                      have k410 := wd_at.pt ew406 k397 (tg_ne tm30 ty (by decide))
                      have k411 := wd_at.pt ew406 k398 (tg_ne tm31 ty (by decide))
                      have k412 := wd_at.pt ew406 k399 (tg_ne tm32 ty (by decide))
                      have k413 := wd_at.pt ew406 k400 (tg_ne tm33 ty (by decide))
                      have k414 := wd_at.pt ew406 k401 (tg_ne tm34 ty (by decide))
                      have kp415 := kp402.put ew406 s90
                      refine lv_goto (tgt := 34) hx hb dX11_text_125 (by decide) ?_
                      exact ih34 (n + 1) 1 ((nx f24 ln ax355) + 1) (nx f24 ln ax355) 0 gx358 gx359 gx360 gx361 gx362 TN9 w405 (by omega) (by omega) (by omega) (by omega) (by omega) (by assumption) (fun _ _ => ⟨by rw [← hG, show 13 - n = (12 - n) + 1 by omega, show 13 - (n + 1) = 12 - n by omega, txG_s hS1 (by rw [hnx9]; omega) (by rw [hnx9]; exact c59), hnx9], hmg3⟩) (fun h => absurd h (by simp)) (fun j hj => by obtain ⟨z1, z2⟩ := hz370 j hj; obtain ⟨z4, z5⟩ := hfr1 j hj; exact ⟨z1.trans z4, z2.trans z5⟩) (fun j hj => by obtain ⟨z1, z2, z3⟩ := hz371 j hj; obtain ⟨z4, z5, z6⟩ := hfr2 j hj; exact ⟨z1.trans z4, z2.trans z5, z3.trans z6⟩) k407 k408 k409 k410 k411 k412 k413 k414 kp415 ls (lv_sub hl [2, 3, 1, 0] rfl) H locs hP hD hS
                    · refine lv_aload_n hx hb dX11_text_106 rfl (lv_at hl 2 rfl) ?_
                      refine lv_iconst (v := 0) hx hb dX11_text_107 (by decide) ?_
                      refine lv_aload_n hx hb dX11_text_108 rfl (lv_at hl 2 rfl) ?_
                      refine x_get (ref := "NoteHouseModel") F hP k393 rfl (fun _ h => List.mem_cons_of_mem _ (List.mem_append_right _ (h))) 26 (Nat.le_of_ble_eq_true rfl) (List.mem_cons_of_mem _ (List.mem_append_left _ (List.mem_append_left _ (List.mem_of_getElem? (i := 0) rfl)))) rfl rfl dX11_text_109 ?_
                      refine x_callV (n := 2) (As := [.int 0, .int (nI (nx f24 ln ax355))]) (rest := []) F hP hD hS (m_fails l D cy sk sv w386 tg y m2 m3 m4 m5 m6 m8 m9 m10 m11 m12 m13 m14 m17 m18 m19 m20 m21 m22 m23 m24 m29 m30 m31 m32 m33 m34 m35 m36 m37 m39 m40 m41 m42 m43 m44 m45 m46 m47 m48 m49 m51 m52 m53 m54 m56 m57 m58 m59 pc ac sc ln sh gf v0 td (nI (nx f24 ln ax355)) (nI (nx f24 ln ax355)) v50 0 0 (nx f24 ln ax355) k393 (fun b => b = y) rfl ty (by omega) (by omega) (by omega)) gX11_text_X11_fails rfl rfl (by decide +kernel) ⟨(Nat.le_of_ble_eq_true rfl), (Nat.le_of_ble_eq_true rfl)⟩ rfl hl.1 (Nat.le_of_ble_eq_true rfl) k393 rfl dX11_text_112 rfl ⟨(Nat.le_of_ble_eq_true rfl), (Nat.le_of_ble_eq_true rfl)⟩ (fun v417 w418 hp416 H locs hP hD hS => ?_)
                      obtain ⟨fwx419, rfl, rfl, hz420, hz421, kq423, k422⟩ := hp416
                      have k424 := kq423.2 _ _ k395 (tg_ne tm24 ty (by decide))
                      have k425 := kq423.2 _ _ k396 (tg_ne tm29 ty (by decide))
                      have k426 := kq423.2 _ _ k397 (tg_ne tm30 ty (by decide))
                      have k427 := kq423.2 _ _ k398 (tg_ne tm31 ty (by decide))
                      have k428 := kq423.2 _ _ k399 (tg_ne tm32 ty (by decide))
                      have k429 := kq423.2 _ _ k400 (tg_ne tm33 ty (by decide))
                      have k430 := kq423.2 _ _ k401 (tg_ne tm34 ty (by decide))
                      have kp431 := kp402.tr kq423 (fun b9 hm q9 => (fun q9 => q9 ▸ s90) q9)
                      refine W.eq (g2 := F0 m 115 ls []) rfl (W.widen (k := 0) (n := 0) (Nat.le_of_ble_eq_true rfl) (Nat.le_of_ble_eq_true rfl) ?_)
                      refine lv_aload_n hx hb dX11_text_115 rfl (lv_at hl 2 rfl) ?_
                      refine lv_dup hx hb dX11_text_116 rfl ?_
                      refine x_get (ref := "NoteHouseModel") F hP k422 rfl (fun _ h => List.mem_cons_of_mem _ (List.mem_append_right _ (h))) 26 (Nat.le_of_ble_eq_true rfl) (List.mem_cons_of_mem _ (List.mem_append_left _ (List.mem_append_left _ (List.mem_of_getElem? (i := 0) rfl)))) rfl rfl dX11_text_117 ?_
                      refine lv_iconst (v := 1) hx hb dX11_text_120 (by decide) ?_
                      refine lv_iadd hx hb dX11_text_121 ?_
                      rw [show ((nI (nx f24 ln ax355)) + 1 : Int32) = nI ((nx f24 ln ax355) + 1) from nI_add (nx f24 ln ax355) 1]
                      refine y_put (ref := "NoteHouseModel") F hP hD hS k422 rfl (fun _ h => List.mem_cons_of_mem _ (List.mem_append_right _ (h))) tyX11_ok nmX11 26 (Nat.le_of_ble_eq_true rfl) (List.mem_cons_of_mem _ (List.mem_append_left _ (List.mem_append_left _ (List.mem_of_getElem? (i := 0) rfl)))) rfl rfl rfl rfl (Nat.le_of_ble_eq_true rfl) dX11_text_122 (fun w432 ew433 H locs hP hD hS => ?_)
                      have k434 : wd_at w432 y (.inr (11, [.int v0, .int td, .ref m2, .ref m3, .ref m4, .ref m5, .ref m6, .int (nI pc), .ref m8, .ref m9, .ref m10, .ref m11, .ref m12, .ref m13, .ref m14, .int (nI ac), .int (nI sc), .ref m17, .ref m18, .ref m19, .ref m20, .ref m21, .ref m22, .ref m23, .ref m24, .int (nI ln), .int (nI ((nx f24 ln ax355) + 1)), .int (nI (nx f24 ln ax355)), .int (nI (flF 0 0 (nx f24 ln ax355))), .ref m29, .ref m30, .ref m31, .ref m32, .ref m33, .ref m34, .ref m35, .ref m36, .ref m37, .int (nI sh), .ref m39, .ref m40, .ref m41, .ref m42, .ref m43, .ref m44, .ref m45, .ref m46, .ref m47, .ref m48, .ref m49, .int v50, .ref m51, .ref m52, .ref m53, .ref m54, .int (nI gf), .ref m56, .ref m57, .ref m58, .ref m59])) := wd_at.ps ew433 k422
                      have k435 := wd_at.pt ew433 k424 (tg_ne tm24 ty (by decide))
                      have k436 := wd_at.pt ew433 k425 (tg_ne tm29 ty (by decide))
                      have k437 := wd_at.pt ew433 k426 (tg_ne tm30 ty (by decide))
                      have k438 := wd_at.pt ew433 k427 (tg_ne tm31 ty (by decide))
                      have k439 := wd_at.pt ew433 k428 (tg_ne tm32 ty (by decide))
                      have k440 := wd_at.pt ew433 k429 (tg_ne tm33 ty (by decide))
                      have k441 := wd_at.pt ew433 k430 (tg_ne tm34 ty (by decide))
                      have kp442 := kp431.put ew433 s90
                      refine lv_goto (tgt := 34) hx hb dX11_text_125 (by decide) ?_
                      exact ih34 (n + 1) 1 ((nx f24 ln ax355) + 1) (nx f24 ln ax355) (flF 0 0 (nx f24 ln ax355)) gx358 gx359 gx360 gx361 gx362 TN9 w432 (by omega) (by omega) (by omega) (by omega) (by omega) (by assumption) (fun _ q => absurd q flF_p) (fun _ => ⟨fun q => absurd q flF_p, fun _ => by rw [← hG, show 13 - n = (12 - n) + 1 by omega]; exact txG_f hS1 (by rw [hnx9]; omega) (by rw [hnx9]; exact c59)⟩) (fun j hj => by obtain ⟨z1, z2⟩ := hz370 j hj; obtain ⟨z4, z5⟩ := hfr1 j hj; exact ⟨z1.trans z4, z2.trans z5⟩) (fun j hj => by obtain ⟨z1, z2, z3⟩ := hz371 j hj; obtain ⟨z4, z5, z6⟩ := hfr2 j hj; exact ⟨z1.trans z4, z2.trans z5, z3.trans z6⟩) k434 k435 k436 k437 k438 k439 k440 k441 kp442 ls (lv_sub hl [2, 3, 1, 0] rfl) H locs hP hD hS
      exact lp34 _ 0 0 (nx f24 ln 0) (nx f24 ln 0) 0 f30 f31 f32 f33 f34 (fun _ _ => 0) w28 (Nat.zero_add 14) (by omega) (by omega) (by omega) (by omega) hc (fun h => absurd rfl h) (fun _ => ⟨fun _ => ⟨txT_0 hnx, agR.z⟩, fun h => absurd rfl h⟩) (fun j hj => ⟨rfl, rfl⟩) (fun j hj => ⟨rfl, rfl, rfl⟩) k35 k37 k38 k39 k40 k41 k42 k43 kp44 ls (lv_sub hl [2, 3, 1, 0] rfl) H locs hP hD hS
    · have hnx : nx f24 ln 0 < ln := Nat.lt_of_le_of_ne (nx_le (B := f24) (Nat.zero_le ln)).2 (ieR_0 c_45)
      refine lv_iconst (v := 1) hx hb dX11_text_28 (by decide) ?_
      refine lv_goto (tgt := 33) hx hb dX11_text_29 (by decide) ?_
      refine lv_istore_n (lv' := [(3, .int 1), (2, .int 0), (0, .ref y), (1, .int (nI tw))]) hx hb dX11_text_33 rfl hl (by decide) rfl (fun ls hl => ?_)
      have lp34 : ∀ (N : Nat) (n : Nat) (on : Int32) (a : Nat) (b : Nat) (fq : Nat) (h30 : Nat → Int32) (h31 : Nat → Int32) (h32 : Nat → Int32) (h33 : Nat → Int32) (h34 : Nat → Int32) (T2 : Nat → Nat → Int32) (w443 : Wd), (n + N = 14) → (n ≤ 13) → (fq = 0 → n ≤ 12) → (a ≤ ln) → (fq < 2000) → (cOK h31) → (¬ on = 0 → fq = 0 → (txG f24 ln (13 - n) a n T2 = txT f24 ln ∧ mgR h30 h31 h32 h33 h34 144 n T2)) → ((on = 0 ∨ ¬ fq = 0) → (fq = 0 → txT f24 ln = some (n, T2) ∧ mgR h30 h31 h32 h33 h34 144 n T2) ∧ (¬ fq = 0 → txT f24 ln = none)) → (∀ j, j < 144 → h30 j = f30 j ∧ h31 j = f31 j) → (∀ j, j < 864 → h32 j = f32 j ∧ h33 j = f33 j ∧ h34 j = f34 j) → (wd_at w443 y (.inr (11, [.int v0, .int td, .ref m2, .ref m3, .ref m4, .ref m5, .ref m6, .int (nI pc), .ref m8, .ref m9, .ref m10, .ref m11, .ref m12, .ref m13, .ref m14, .int (nI ac), .int (nI sc), .ref m17, .ref m18, .ref m19, .ref m20, .ref m21, .ref m22, .ref m23, .ref m24, .int (nI ln), .int (nI a), .int (nI b), .int (nI fq), .ref m29, .ref m30, .ref m31, .ref m32, .ref m33, .ref m34, .ref m35, .ref m36, .ref m37, .int (nI sh), .ref m39, .ref m40, .ref m41, .ref m42, .ref m43, .ref m44, .ref m45, .ref m46, .ref m47, .ref m48, .ref m49, .int v50, .ref m51, .ref m52, .ref m53, .ref m54, .int (nI gf), .ref m56, .ref m57, .ref m58, .ref m59]))) → (wd_at w443 m24 (.inl (cy 0, 300, .inl f24))) → (wd_at w443 m29 (.inl (cy 2, 12, .inl f29))) → (wd_at w443 m30 (.inl (cy 2, 156, .inl h30))) → (wd_at w443 m31 (.inl (cy 2, 156, .inl h31))) → (wd_at w443 m32 (.inl (cy 2, 936, .inl h32))) → (wd_at w443 m33 (.inl (cy 2, 936, .inl h33))) → (wd_at w443 m34 (.inl (cy 2, 936, .inl h34))) → (wd_kp S w w443) → ∀ (ls : Array Slot), lv_has ls 6 [(0, .ref y), (1, .int (nI tw)), (2, .int (nI n)), (3, .int on)] → Wv p l e ({ frames := 7, cells := 0, slots := 0, locals := 155 }) s m args below meth c D A (0) (0) Q w443 (F0 m 34 ls []) := by
        intro N
        induction N with
        | zero =>
          intro n on a b fq h30 h31 h32 h33 h34 T2 w443 hN34 hn14 hn13 ha2 hfq hc2 hact hdone hfr1 hfr2 k444 k445 k446 k447 k448 k449 k450 k451 kp452 ls hl H locs hP hD hS
          exact absurd hN34 (by omega)
        | succ N ih34 =>
          intro n on a b fq h30 h31 h32 h33 h34 T2 w443 hN34 hn14 hn13 ha2 hfq hc2 hact hdone hfr1 hfr2 k444 k445 k446 k447 k448 k449 k450 k451 kp452 ls hl H locs hP hD hS
          refine lv_iload_n hx hb dX11_text_34 rfl (lv_at hl 3 rfl) ?_
          refine lv_if_eq (tgt := 128) hx hb dX11_text_35 (by decide) (fun c35 => ?_) (fun c35 => ?_)
          · have hfin := hdone (Or.inl c35)
            refine lv_aload_n hx hb dX11_text_128 rfl (lv_at hl 0 rfl) ?_
            refine lv_iconst (v := 0) hx hb dX11_text_129 (by decide) ?_
            refine y_put (ref := "NoteHouseModel") F hP hD hS k444 rfl (fun _ h => List.mem_cons_of_mem _ (List.mem_append_right _ (h))) tyX11_ok nmX11 25 (Nat.le_of_ble_eq_true rfl) (List.mem_cons_of_mem _ (List.mem_append_left _ (List.mem_append_left _ (List.mem_of_getElem? (i := 3) rfl)))) rfl rfl rfl rfl (Nat.le_of_ble_eq_true rfl) dX11_text_130 (fun w453 ew454 H locs hP hD hS => ?_)
            have k455 : wd_at w453 y (.inr (11, [.int v0, .int td, .ref m2, .ref m3, .ref m4, .ref m5, .ref m6, .int (nI pc), .ref m8, .ref m9, .ref m10, .ref m11, .ref m12, .ref m13, .ref m14, .int (nI ac), .int (nI sc), .ref m17, .ref m18, .ref m19, .ref m20, .ref m21, .ref m22, .ref m23, .ref m24, .int 0, .int (nI a), .int (nI b), .int (nI fq), .ref m29, .ref m30, .ref m31, .ref m32, .ref m33, .ref m34, .ref m35, .ref m36, .ref m37, .int (nI sh), .ref m39, .ref m40, .ref m41, .ref m42, .ref m43, .ref m44, .ref m45, .ref m46, .ref m47, .ref m48, .ref m49, .int v50, .ref m51, .ref m52, .ref m53, .ref m54, .int (nI gf), .ref m56, .ref m57, .ref m58, .ref m59])) := wd_at.ps ew454 k444
            have k456 := wd_at.pt ew454 k445 (tg_ne tm24 ty (by decide))
            have k457 := wd_at.pt ew454 k446 (tg_ne tm29 ty (by decide))
            have k458 := wd_at.pt ew454 k447 (tg_ne tm30 ty (by decide))
            have k459 := wd_at.pt ew454 k448 (tg_ne tm31 ty (by decide))
            have k460 := wd_at.pt ew454 k449 (tg_ne tm32 ty (by decide))
            have k461 := wd_at.pt ew454 k450 (tg_ne tm33 ty (by decide))
            have k462 := wd_at.pt ew454 k451 (tg_ne tm34 ty (by decide))
            have kp463 := kp452.put ew454 s90
            refine lv_aload_n hx hb dX11_text_133 rfl (lv_at hl 0 rfl) ?_
            refine x_get (ref := "NoteHouseModel") F hP k455 rfl (fun _ h => List.mem_cons_of_mem _ (List.mem_append_right _ (h))) 28 (Nat.le_of_ble_eq_true rfl) (List.mem_cons_of_mem _ (List.mem_append_left _ (List.mem_append_left _ (List.mem_of_getElem? (i := 1) rfl)))) rfl rfl dX11_text_134 ?_
            refine lv_if_le (tgt := 148) hx hb dX11_text_137 (by decide) (fun c_464 => ?_) (fun c_464 => ?_)
            · have hfq9 : fq = 0 := nI_z (by omega) c_464
              have hn12z : n ≤ 12 := hn13 hfq9
              refine lv_aload_n hx hb dX11_text_148 rfl (lv_at hl 0 rfl) ?_
              refine x_get (ref := "NoteHouseModel") F hP k455 rfl (fun _ h => List.mem_cons_of_mem _ (List.mem_append_right _ (h))) 29 (Nat.le_of_ble_eq_true rfl) (List.mem_cons_of_mem _ (List.mem_append_left _ (List.mem_append_left _ (List.mem_of_getElem? (i := 4) rfl)))) rfl rfl dX11_text_149 ?_
              refine lv_iload_n hx hb dX11_text_152 rfl (lv_at hl 1 rfl) ?_
              refine lv_iload_n hx hb dX11_text_153 rfl (lv_at hl 2 rfl) ?_
              refine y_iast F hP hD hS k457 (vp_in_nI (n := tw) (N := 12) (by omega) (by decide)) dX11_text_154 (fun w465 ew466 H locs hP hD hS => ?_)
              have k467 := wd_at.pt ew466 k455 (tg_ne ty tm29 (by decide))
              have k468 := wd_at.pt ew466 k456 (tg_ne tm24 tm29 (by decide))
              have k469 : wd_at w465 m29 (.inl (cy 2, 12, .inl (upd f29 (nI tw).toNatClampNeg (nI n)))) := wd_at.ps ew466 k457
              have k470 := wd_at.pt ew466 k458 (tg_ne tm30 tm29 (by decide))
              have k471 := wd_at.pt ew466 k459 (tg_ne tm31 tm29 (by decide))
              have k472 := wd_at.pt ew466 k460 (tg_ne tm32 tm29 (by decide))
              have k473 := wd_at.pt ew466 k461 (tg_ne tm33 tm29 (by decide))
              have k474 := wd_at.pt ew466 k462 (tg_ne tm34 tm29 (by decide))
              have kp475 := kp463.put ew466 s91
              refine lv_iconst (v := 0) hx hb dX11_text_155 (by decide) ?_
              refine lv_istore (lv' := [(4, .int 0), (0, .ref y), (1, .int (nI tw)), (2, .int (nI n)), (3, .int on)]) hx hb dX11_text_156 hl (by decide) rfl (fun ls hl => ?_)
              have lp158 : ∀ (N : Nat) (r : Nat) (p30 : Nat → Int32) (p31 : Nat → Int32) (p32 : Nat → Int32) (p33 : Nat → Int32) (p34 : Nat → Int32) (w476 : Wd), (r + N = n) → (cOK p31) → (cpR tw r p30 p31 h30 h31) → (cqR tw r 0 p32 h32) → (cqR tw r 0 p33 h33) → (cqR tw r 0 p34 h34) → (wd_at w476 y (.inr (11, [.int v0, .int td, .ref m2, .ref m3, .ref m4, .ref m5, .ref m6, .int (nI pc), .ref m8, .ref m9, .ref m10, .ref m11, .ref m12, .ref m13, .ref m14, .int (nI ac), .int (nI sc), .ref m17, .ref m18, .ref m19, .ref m20, .ref m21, .ref m22, .ref m23, .ref m24, .int 0, .int (nI a), .int (nI b), .int (nI fq), .ref m29, .ref m30, .ref m31, .ref m32, .ref m33, .ref m34, .ref m35, .ref m36, .ref m37, .int (nI sh), .ref m39, .ref m40, .ref m41, .ref m42, .ref m43, .ref m44, .ref m45, .ref m46, .ref m47, .ref m48, .ref m49, .int v50, .ref m51, .ref m52, .ref m53, .ref m54, .int (nI gf), .ref m56, .ref m57, .ref m58, .ref m59]))) → (wd_at w476 m24 (.inl (cy 0, 300, .inl f24))) → (wd_at w476 m29 (.inl (cy 2, 12, .inl (upd f29 (nI tw).toNatClampNeg (nI n))))) → (wd_at w476 m30 (.inl (cy 2, 156, .inl p30))) → (wd_at w476 m31 (.inl (cy 2, 156, .inl p31))) → (wd_at w476 m32 (.inl (cy 2, 936, .inl p32))) → (wd_at w476 m33 (.inl (cy 2, 936, .inl p33))) → (wd_at w476 m34 (.inl (cy 2, 936, .inl p34))) → (wd_kp S w w476) → ∀ (ls : Array Slot), lv_has ls 6 [(0, .ref y), (1, .int (nI tw)), (2, .int (nI n)), (4, .int (nI r))] → Wv p l e ({ frames := 7, cells := 0, slots := 0, locals := 155 }) s m args below meth c D A (0) (0) Q w476 (F0 m 158 ls []) := by
                intro N
                induction N with
                | zero =>
                  intro r p30 p31 p32 p33 p34 w476 hN158 hc3 hcp hq2 hq3 hq4 k477 k478 k479 k480 k481 k482 k483 k484 kp485 ls hl H locs hP hD hS
                  refine lv_iload hx hb dX11_text_158 (lv_at hl 3 rfl) ?_
                  refine lv_iload_n hx hb dX11_text_160 rfl (lv_at hl 2 rfl) ?_
                  refine lv_icmp_ge (tgt := 337) hx hb dX11_text_161 (by decide) (fun c_486 => ?_) (fun c_486 => absurd (nI_le (a := n) (b := r) (by omega) (by omega)) c_486)
                  refine lv_iload_n hx hb dX11_text_337 rfl (lv_at hl 2 rfl) ?_
                  exact y_ir K hP hD hS (Nat.le_of_ble_eq_true rfl) (Nat.le_of_ble_eq_true rfl) (ty := .int) rfl rfl dX11_text_338 (⟨0, nI a, nI b, nI fq, upd f29 (nI tw).toNatClampNeg (nI n), p30, p31, p32, p33, p34, nI n, rfl, by simp [txtC, c4], hrl.c (by omega) (by omega), by assumption, by rw [txN_s c4 (hfin.1 hfq9).1, txV_s c4 (hfin.1 hfq9).1, cltw]; have h9 := (hmt0.keep hfr1 hfr2).set htw (by omega) (hfin.1 hfq9).2 ((show r = n by omega) ▸ hcp) ((show r = n by omega) ▸ hq2) ((show r = n by omega) ▸ hq3) ((show r = n by omega) ▸ hq4); rw [cltw] at h9; exact h9, kp485, k477, k479, k480, k481, k482, k483, k484⟩)
                | succ N ih158 =>
                  intro r p30 p31 p32 p33 p34 w476 hN158 hc3 hcp hq2 hq3 hq4 k477 k478 k479 k480 k481 k482 k483 k484 kp485 ls hl H locs hP hD hS
                  refine lv_iload hx hb dX11_text_158 (lv_at hl 3 rfl) ?_
                  refine lv_iload_n hx hb dX11_text_160 rfl (lv_at hl 2 rfl) ?_
                  refine lv_icmp_ge (tgt := 337) hx hb dX11_text_161 (by decide) (fun c_487 => absurd c_487 (nI_ge (a := r) (b := n) (by omega) (by omega))) (fun c_487 => ?_)
                  refine lv_aload_n hx hb dX11_text_164 rfl (lv_at hl 0 rfl) ?_
                  refine x_get (ref := "NoteHouseModel") F hP k477 rfl (fun _ h => List.mem_cons_of_mem _ (List.mem_append_right _ (h))) 30 (Nat.le_of_ble_eq_true rfl) (List.mem_cons_of_mem _ (List.mem_append_left _ (List.mem_append_left _ (List.mem_of_getElem? (i := 5) rfl)))) rfl rfl dX11_text_165 ?_
                  refine lv_bipush (v := 12) hx hb dX11_text_168 (by decide) ?_
                  refine lv_iload_n hx hb dX11_text_170 rfl (lv_at hl 1 rfl) ?_
                  refine lv_imul hx hb dX11_text_171 ?_
                  rw [show (12 * (nI tw) : Int32) = nI (12 * tw) from pk_mul 12 tw]
                  refine lv_iload hx hb dX11_text_172 (lv_at hl 3 rfl) ?_
                  refine lv_iadd hx hb dX11_text_174 ?_
                  rw [show ((nI (12 * tw)) + (nI r) : Int32) = nI ((12 * tw) + r) from nI_add (12 * tw) r]
                  refine lv_aload_n hx hb dX11_text_175 rfl (lv_at hl 0 rfl) ?_
                  refine x_get (ref := "NoteHouseModel") F hP k477 rfl (fun _ h => List.mem_cons_of_mem _ (List.mem_append_right _ (h))) 30 (Nat.le_of_ble_eq_true rfl) (List.mem_cons_of_mem _ (List.mem_append_left _ (List.mem_append_left _ (List.mem_of_getElem? (i := 5) rfl)))) rfl rfl dX11_text_176 ?_
                  refine lv_sipush (v := 144) hx hb dX11_text_179 (by decide) ?_
                  refine lv_iload hx hb dX11_text_182 (lv_at hl 3 rfl) ?_
                  refine lv_iadd hx hb dX11_text_184 ?_
                  rw [show (144 + (nI r) : Int32) = nI (144 + r) from nI_add 144 r]
                  refine x_iald F hP k480 (vp_in_nI (n := (144 + r)) (N := 156) (by omega) (by decide)) dX11_text_185 ?_
                  rw [nI_clamp (n := 144 + r) (by omega), ((hcp (144 + r) (by omega)).2 (by omega)).1]
                  refine y_iast F hP hD hS k480 (vp_in_nI (n := ((12 * tw) + r)) (N := 156) (by omega) (by decide)) dX11_text_186 (fun w488 ew489 H locs hP hD hS => ?_)
                  have k490 := wd_at.pt ew489 k477 (tg_ne ty tm30 (by decide))
                  have k491 := wd_at.pt ew489 k478 (tg_ne tm24 tm30 (by decide))
                  have k492 := wd_at.pt ew489 k479 (tg_ne tm29 tm30 (by decide))
                  have k493 : wd_at w488 m30 (.inl (cy 2, 156, .inl (upd p30 (nI ((12 * tw) + r)).toNatClampNeg (h30 (144 + r))))) := wd_at.ps ew489 k480
                  have k494 := wd_at.pt ew489 k481 (tg_ne tm31 tm30 (by decide))
                  have k495 := wd_at.pt ew489 k482 (tg_ne tm32 tm30 (by decide))
                  have k496 := wd_at.pt ew489 k483 (tg_ne tm33 tm30 (by decide))
                  have k497 := wd_at.pt ew489 k484 (tg_ne tm34 tm30 (by decide))
                  have kp498 := kp485.put ew489 s92
                  refine lv_aload_n hx hb dX11_text_187 rfl (lv_at hl 0 rfl) ?_
                  refine x_get (ref := "NoteHouseModel") F hP k490 rfl (fun _ h => List.mem_cons_of_mem _ (List.mem_append_right _ (h))) 31 (Nat.le_of_ble_eq_true rfl) (List.mem_cons_of_mem _ (List.mem_append_left _ (List.mem_append_left _ (List.mem_of_getElem? (i := 6) rfl)))) rfl rfl dX11_text_188 ?_
                  refine lv_bipush (v := 12) hx hb dX11_text_191 (by decide) ?_
                  refine lv_iload_n hx hb dX11_text_193 rfl (lv_at hl 1 rfl) ?_
                  refine lv_imul hx hb dX11_text_194 ?_
                  rw [show (12 * (nI tw) : Int32) = nI (12 * tw) from pk_mul 12 tw]
                  refine lv_iload hx hb dX11_text_195 (lv_at hl 3 rfl) ?_
                  refine lv_iadd hx hb dX11_text_197 ?_
                  rw [show ((nI (12 * tw)) + (nI r) : Int32) = nI ((12 * tw) + r) from nI_add (12 * tw) r]
                  refine lv_aload_n hx hb dX11_text_198 rfl (lv_at hl 0 rfl) ?_
                  refine x_get (ref := "NoteHouseModel") F hP k490 rfl (fun _ h => List.mem_cons_of_mem _ (List.mem_append_right _ (h))) 31 (Nat.le_of_ble_eq_true rfl) (List.mem_cons_of_mem _ (List.mem_append_left _ (List.mem_append_left _ (List.mem_of_getElem? (i := 6) rfl)))) rfl rfl dX11_text_199 ?_
                  refine lv_sipush (v := 144) hx hb dX11_text_202 (by decide) ?_
                  refine lv_iload hx hb dX11_text_205 (lv_at hl 3 rfl) ?_
                  refine lv_iadd hx hb dX11_text_207 ?_
                  rw [show (144 + (nI r) : Int32) = nI (144 + r) from nI_add 144 r]
                  refine x_iald F hP k494 (vp_in_nI (n := (144 + r)) (N := 156) (by omega) (by decide)) dX11_text_208 ?_
                  obtain ⟨uc, huc, euc⟩ := hc3 (144 + r) (by omega)
                  have euh : p31 (144 + r) = h31 (144 + r) := ((hcp (144 + r) (by omega)).2 (by omega)).2
                  rw [nI_clamp (n := 144 + r) (by omega), euc]
                  refine y_iast F hP hD hS k494 (vp_in_nI (n := ((12 * tw) + r)) (N := 156) (by omega) (by decide)) dX11_text_209 (fun w499 ew500 H locs hP hD hS => ?_)
                  have k501 := wd_at.pt ew500 k490 (tg_ne ty tm31 (by decide))
                  have k502 := wd_at.pt ew500 k491 (tg_ne tm24 tm31 (by decide))
                  have k503 := wd_at.pt ew500 k492 (tg_ne tm29 tm31 (by decide))
                  have k504 := wd_at.pt ew500 k493 (tg_ne tm30 tm31 (by decide))
                  have k505 : wd_at w499 m31 (.inl (cy 2, 156, .inl (upd p31 (nI ((12 * tw) + r)).toNatClampNeg (nI uc)))) := wd_at.ps ew500 k494
                  have k506 := wd_at.pt ew500 k495 (tg_ne tm32 tm31 (by decide))
                  have k507 := wd_at.pt ew500 k496 (tg_ne tm33 tm31 (by decide))
                  have k508 := wd_at.pt ew500 k497 (tg_ne tm34 tm31 (by decide))
                  have kp509 := kp498.put ew500 s93
                  refine lv_iconst (v := 0) hx hb dX11_text_210 (by decide) ?_
                  refine lv_istore (lv' := [(5, .int 0), (0, .ref y), (1, .int (nI tw)), (2, .int (nI n)), (4, .int (nI r))]) hx hb dX11_text_211 hl (by decide) rfl (fun ls hl => ?_)
                  have lp213 : ∀ (N : Nat) (cz : Nat) (q32 : Nat → Int32) (q33 : Nat → Int32) (q34 : Nat → Int32) (w510 : Wd), (cz + N = 6) → (cqR tw r cz q32 h32) → (cqR tw r cz q33 h33) → (cqR tw r cz q34 h34) → (wd_at w510 y (.inr (11, [.int v0, .int td, .ref m2, .ref m3, .ref m4, .ref m5, .ref m6, .int (nI pc), .ref m8, .ref m9, .ref m10, .ref m11, .ref m12, .ref m13, .ref m14, .int (nI ac), .int (nI sc), .ref m17, .ref m18, .ref m19, .ref m20, .ref m21, .ref m22, .ref m23, .ref m24, .int 0, .int (nI a), .int (nI b), .int (nI fq), .ref m29, .ref m30, .ref m31, .ref m32, .ref m33, .ref m34, .ref m35, .ref m36, .ref m37, .int (nI sh), .ref m39, .ref m40, .ref m41, .ref m42, .ref m43, .ref m44, .ref m45, .ref m46, .ref m47, .ref m48, .ref m49, .int v50, .ref m51, .ref m52, .ref m53, .ref m54, .int (nI gf), .ref m56, .ref m57, .ref m58, .ref m59]))) → (wd_at w510 m24 (.inl (cy 0, 300, .inl f24))) → (wd_at w510 m29 (.inl (cy 2, 12, .inl (upd f29 (nI tw).toNatClampNeg (nI n))))) → (wd_at w510 m30 (.inl (cy 2, 156, .inl (upd p30 (nI ((12 * tw) + r)).toNatClampNeg (h30 (144 + r)))))) → (wd_at w510 m31 (.inl (cy 2, 156, .inl (upd p31 (nI ((12 * tw) + r)).toNatClampNeg (nI uc))))) → (wd_at w510 m32 (.inl (cy 2, 936, .inl q32))) → (wd_at w510 m33 (.inl (cy 2, 936, .inl q33))) → (wd_at w510 m34 (.inl (cy 2, 936, .inl q34))) → (wd_kp S w w510) → ∀ (ls : Array Slot), lv_has ls 6 [(0, .ref y), (1, .int (nI tw)), (2, .int (nI n)), (4, .int (nI r)), (5, .int (nI cz))] → Wv p l e ({ frames := 7, cells := 0, slots := 0, locals := 155 }) s m args below meth c D A (0) (0) Q w510 (F0 m 213 ls []) := by
                    intro N
                    induction N with
                    | zero =>
                      intro cz q32 q33 q34 w510 hN213 hz2 hz3 hz4 k511 k512 k513 k514 k515 k516 k517 k518 kp519 ls hl H locs hP hD hS
                      refine lv_iload hx hb dX11_text_213 (lv_at hl 4 rfl) ?_
                      refine lv_bipush (v := 6) hx hb dX11_text_215 (by decide) ?_
                      refine lv_icmp_ge (tgt := 331) hx hb dX11_text_217 (by decide) (fun c_520 => ?_) (fun c_520 => absurd (nI_le (a := 6) (b := cz) (by omega) (by omega)) c_520)
                      refine lv_iinc (v := nI (r + 1)) (lv' := [(4, .int (nI (r + 1))), (0, .ref y), (1, .int (nI tw)), (2, .int (nI n)), (5, .int (nI cz))]) hx hb dX11_text_331 hl (k := 3) rfl (nI_1 r) (by decide) rfl (fun ls hl => ?_)
                      refine lv_goto (tgt := 158) hx hb dX11_text_334 (by decide) ?_
                      exact ih158 (r + 1) (upd p30 (nI ((12 * tw) + r)).toNatClampNeg (h30 (144 + r))) (upd p31 (nI ((12 * tw) + r)).toNatClampNeg (nI uc)) q32 q33 q34 w510 (by omega) (hc3.c (u := uc) (by omega) (by omega)) (hcp.s (by omega) (by omega) rfl (euc.symm.trans euh)) ((show cqR tw r 6 q32 h32 from (show cz = 6 by omega) ▸ hz2).n) ((show cqR tw r 6 q33 h33 from (show cz = 6 by omega) ▸ hz3).n) ((show cqR tw r 6 q34 h34 from (show cz = 6 by omega) ▸ hz4).n) k511 k512 k513 k514 k515 k516 k517 k518 kp519 ls (lv_sub hl [1, 2, 3, 0] rfl) H locs hP hD hS
                    | succ N ih213 =>
                      intro cz q32 q33 q34 w510 hN213 hz2 hz3 hz4 k511 k512 k513 k514 k515 k516 k517 k518 kp519 ls hl H locs hP hD hS
                      refine lv_iload hx hb dX11_text_213 (lv_at hl 4 rfl) ?_
                      refine lv_bipush (v := 6) hx hb dX11_text_215 (by decide) ?_
                      refine lv_icmp_ge (tgt := 331) hx hb dX11_text_217 (by decide) (fun c_521 => absurd c_521 (nI_ge (a := cz) (b := 6) (by omega) (by omega))) (fun c_521 => ?_)
                      refine lv_aload_n hx hb dX11_text_220 rfl (lv_at hl 0 rfl) ?_
                      refine x_get (ref := "NoteHouseModel") F hP k511 rfl (fun _ h => List.mem_cons_of_mem _ (List.mem_append_right _ (h))) 32 (Nat.le_of_ble_eq_true rfl) (List.mem_cons_of_mem _ (List.mem_append_left _ (List.mem_append_left _ (List.mem_of_getElem? (i := 7) rfl)))) rfl rfl dX11_text_221 ?_
                      refine lv_bipush (v := 6) hx hb dX11_text_224 (by decide) ?_
                      refine lv_bipush (v := 12) hx hb dX11_text_226 (by decide) ?_
                      refine lv_iload_n hx hb dX11_text_228 rfl (lv_at hl 1 rfl) ?_
                      refine lv_imul hx hb dX11_text_229 ?_
                      rw [show (12 * (nI tw) : Int32) = nI (12 * tw) from pk_mul 12 tw]
                      refine lv_iload hx hb dX11_text_230 (lv_at hl 3 rfl) ?_
                      refine lv_iadd hx hb dX11_text_232 ?_
                      rw [show ((nI (12 * tw)) + (nI r) : Int32) = nI ((12 * tw) + r) from nI_add (12 * tw) r]
                      refine lv_imul hx hb dX11_text_233 ?_
                      rw [show (6 * (nI ((12 * tw) + r)) : Int32) = nI (6 * ((12 * tw) + r)) from pk_mul 6 ((12 * tw) + r)]
                      refine lv_iload hx hb dX11_text_234 (lv_at hl 4 rfl) ?_
                      refine lv_iadd hx hb dX11_text_236 ?_
                      rw [show ((nI (6 * ((12 * tw) + r))) + (nI cz) : Int32) = nI ((6 * ((12 * tw) + r)) + cz) from nI_add (6 * ((12 * tw) + r)) cz]
                      refine lv_aload_n hx hb dX11_text_237 rfl (lv_at hl 0 rfl) ?_
                      refine x_get (ref := "NoteHouseModel") F hP k511 rfl (fun _ h => List.mem_cons_of_mem _ (List.mem_append_right _ (h))) 32 (Nat.le_of_ble_eq_true rfl) (List.mem_cons_of_mem _ (List.mem_append_left _ (List.mem_append_left _ (List.mem_of_getElem? (i := 7) rfl)))) rfl rfl dX11_text_238 ?_
                      refine lv_bipush (v := 6) hx hb dX11_text_241 (by decide) ?_
                      refine lv_sipush (v := 144) hx hb dX11_text_243 (by decide) ?_
                      refine lv_iload hx hb dX11_text_246 (lv_at hl 3 rfl) ?_
                      refine lv_iadd hx hb dX11_text_248 ?_
                      rw [show (144 + (nI r) : Int32) = nI (144 + r) from nI_add 144 r]
                      refine lv_imul hx hb dX11_text_249 ?_
                      rw [show (6 * (nI (144 + r)) : Int32) = nI (6 * (144 + r)) from pk_mul 6 (144 + r)]
                      refine lv_iload hx hb dX11_text_250 (lv_at hl 4 rfl) ?_
                      refine lv_iadd hx hb dX11_text_252 ?_
                      rw [show ((nI (6 * (144 + r))) + (nI cz) : Int32) = nI ((6 * (144 + r)) + cz) from nI_add (6 * (144 + r)) cz]
                      refine x_iald F hP k516 (vp_in_nI (n := ((6 * (144 + r)) + cz)) (N := 936) (by omega) (by decide)) dX11_text_253 ?_
                      rw [nI_clamp (n := 6 * (144 + r) + cz) (by omega), (hz2 (6 * (144 + r) + cz) (by omega)).2 (by omega)]
                      refine y_iast F hP hD hS k516 (vp_in_nI (n := ((6 * ((12 * tw) + r)) + cz)) (N := 936) (by omega) (by decide)) dX11_text_254 (fun w522 ew523 H locs hP hD hS => ?_)
                      have k524 := wd_at.pt ew523 k511 (tg_ne ty tm32 (by decide))
                      have k525 := wd_at.pt ew523 k512 (tg_ne tm24 tm32 (by decide))
                      have k526 := wd_at.pt ew523 k513 (tg_ne tm29 tm32 (by decide))
                      have k527 := wd_at.pt ew523 k514 (tg_ne tm30 tm32 (by decide))
                      have k528 := wd_at.pt ew523 k515 (tg_ne tm31 tm32 (by decide))
                      have k529 : wd_at w522 m32 (.inl (cy 2, 936, .inl (upd q32 (nI ((6 * ((12 * tw) + r)) + cz)).toNatClampNeg (h32 (6 * (144 + r) + cz))))) := wd_at.ps ew523 k516
                      have k530 := wd_at.pt ew523 k517 (tg_ne tm33 tm32 (by decide))
                      have k531 := wd_at.pt ew523 k518 (tg_ne tm34 tm32 (by decide))
                      have kp532 := kp519.put ew523 s94
                      refine lv_aload_n hx hb dX11_text_255 rfl (lv_at hl 0 rfl) ?_
                      refine x_get (ref := "NoteHouseModel") F hP k524 rfl (fun _ h => List.mem_cons_of_mem _ (List.mem_append_right _ (h))) 33 (Nat.le_of_ble_eq_true rfl) (List.mem_cons_of_mem _ (List.mem_append_left _ (List.mem_append_left _ (List.mem_of_getElem? (i := 8) rfl)))) rfl rfl dX11_text_256 ?_
                      refine lv_bipush (v := 6) hx hb dX11_text_259 (by decide) ?_
                      refine lv_bipush (v := 12) hx hb dX11_text_261 (by decide) ?_
                      refine lv_iload_n hx hb dX11_text_263 rfl (lv_at hl 1 rfl) ?_
                      refine lv_imul hx hb dX11_text_264 ?_
                      rw [show (12 * (nI tw) : Int32) = nI (12 * tw) from pk_mul 12 tw]
                      refine lv_iload hx hb dX11_text_265 (lv_at hl 3 rfl) ?_
                      refine lv_iadd hx hb dX11_text_267 ?_
                      rw [show ((nI (12 * tw)) + (nI r) : Int32) = nI ((12 * tw) + r) from nI_add (12 * tw) r]
                      refine lv_imul hx hb dX11_text_268 ?_
                      rw [show (6 * (nI ((12 * tw) + r)) : Int32) = nI (6 * ((12 * tw) + r)) from pk_mul 6 ((12 * tw) + r)]
                      refine lv_iload hx hb dX11_text_269 (lv_at hl 4 rfl) ?_
                      refine lv_iadd hx hb dX11_text_271 ?_
                      rw [show ((nI (6 * ((12 * tw) + r))) + (nI cz) : Int32) = nI ((6 * ((12 * tw) + r)) + cz) from nI_add (6 * ((12 * tw) + r)) cz]
                      refine lv_aload_n hx hb dX11_text_272 rfl (lv_at hl 0 rfl) ?_
                      refine x_get (ref := "NoteHouseModel") F hP k524 rfl (fun _ h => List.mem_cons_of_mem _ (List.mem_append_right _ (h))) 33 (Nat.le_of_ble_eq_true rfl) (List.mem_cons_of_mem _ (List.mem_append_left _ (List.mem_append_left _ (List.mem_of_getElem? (i := 8) rfl)))) rfl rfl dX11_text_273 ?_
                      refine lv_bipush (v := 6) hx hb dX11_text_276 (by decide) ?_
                      refine lv_sipush (v := 144) hx hb dX11_text_278 (by decide) ?_
                      refine lv_iload hx hb dX11_text_281 (lv_at hl 3 rfl) ?_
                      refine lv_iadd hx hb dX11_text_283 ?_
                      rw [show (144 + (nI r) : Int32) = nI (144 + r) from nI_add 144 r]
                      refine lv_imul hx hb dX11_text_284 ?_
                      rw [show (6 * (nI (144 + r)) : Int32) = nI (6 * (144 + r)) from pk_mul 6 (144 + r)]
                      refine lv_iload hx hb dX11_text_285 (lv_at hl 4 rfl) ?_
                      refine lv_iadd hx hb dX11_text_287 ?_
                      rw [show ((nI (6 * (144 + r))) + (nI cz) : Int32) = nI ((6 * (144 + r)) + cz) from nI_add (6 * (144 + r)) cz]
                      refine x_iald F hP k530 (vp_in_nI (n := ((6 * (144 + r)) + cz)) (N := 936) (by omega) (by decide)) dX11_text_288 ?_
                      rw [nI_clamp (n := 6 * (144 + r) + cz) (by omega), (hz3 (6 * (144 + r) + cz) (by omega)).2 (by omega)]
                      refine y_iast F hP hD hS k530 (vp_in_nI (n := ((6 * ((12 * tw) + r)) + cz)) (N := 936) (by omega) (by decide)) dX11_text_289 (fun w533 ew534 H locs hP hD hS => ?_)
                      have k535 := wd_at.pt ew534 k524 (tg_ne ty tm33 (by decide))
                      have k536 := wd_at.pt ew534 k525 (tg_ne tm24 tm33 (by decide))
                      have k537 := wd_at.pt ew534 k526 (tg_ne tm29 tm33 (by decide))
                      have k538 := wd_at.pt ew534 k527 (tg_ne tm30 tm33 (by decide))
                      have k539 := wd_at.pt ew534 k528 (tg_ne tm31 tm33 (by decide))
                      have k540 := wd_at.pt ew534 k529 (tg_ne tm32 tm33 (by decide))
                      have k541 : wd_at w533 m33 (.inl (cy 2, 936, .inl (upd q33 (nI ((6 * ((12 * tw) + r)) + cz)).toNatClampNeg (h33 (6 * (144 + r) + cz))))) := wd_at.ps ew534 k530
                      have k542 := wd_at.pt ew534 k531 (tg_ne tm34 tm33 (by decide))
                      have kp543 := kp532.put ew534 s95
                      refine lv_aload_n hx hb dX11_text_290 rfl (lv_at hl 0 rfl) ?_
                      refine x_get (ref := "NoteHouseModel") F hP k535 rfl (fun _ h => List.mem_cons_of_mem _ (List.mem_append_right _ (h))) 34 (Nat.le_of_ble_eq_true rfl) (List.mem_cons_of_mem _ (List.mem_append_left _ (List.mem_append_left _ (List.mem_of_getElem? (i := 9) rfl)))) rfl rfl dX11_text_291 ?_
                      refine lv_bipush (v := 6) hx hb dX11_text_294 (by decide) ?_
                      refine lv_bipush (v := 12) hx hb dX11_text_296 (by decide) ?_
                      refine lv_iload_n hx hb dX11_text_298 rfl (lv_at hl 1 rfl) ?_
                      refine lv_imul hx hb dX11_text_299 ?_
                      rw [show (12 * (nI tw) : Int32) = nI (12 * tw) from pk_mul 12 tw]
                      refine lv_iload hx hb dX11_text_300 (lv_at hl 3 rfl) ?_
                      refine lv_iadd hx hb dX11_text_302 ?_
                      rw [show ((nI (12 * tw)) + (nI r) : Int32) = nI ((12 * tw) + r) from nI_add (12 * tw) r]
                      refine lv_imul hx hb dX11_text_303 ?_
                      rw [show (6 * (nI ((12 * tw) + r)) : Int32) = nI (6 * ((12 * tw) + r)) from pk_mul 6 ((12 * tw) + r)]
                      refine lv_iload hx hb dX11_text_304 (lv_at hl 4 rfl) ?_
                      refine lv_iadd hx hb dX11_text_306 ?_
                      rw [show ((nI (6 * ((12 * tw) + r))) + (nI cz) : Int32) = nI ((6 * ((12 * tw) + r)) + cz) from nI_add (6 * ((12 * tw) + r)) cz]
                      refine lv_aload_n hx hb dX11_text_307 rfl (lv_at hl 0 rfl) ?_
                      refine x_get (ref := "NoteHouseModel") F hP k535 rfl (fun _ h => List.mem_cons_of_mem _ (List.mem_append_right _ (h))) 34 (Nat.le_of_ble_eq_true rfl) (List.mem_cons_of_mem _ (List.mem_append_left _ (List.mem_append_left _ (List.mem_of_getElem? (i := 9) rfl)))) rfl rfl dX11_text_308 ?_
                      refine lv_bipush (v := 6) hx hb dX11_text_311 (by decide) ?_
                      refine lv_sipush (v := 144) hx hb dX11_text_313 (by decide) ?_
                      refine lv_iload hx hb dX11_text_316 (lv_at hl 3 rfl) ?_
                      refine lv_iadd hx hb dX11_text_318 ?_
                      rw [show (144 + (nI r) : Int32) = nI (144 + r) from nI_add 144 r]
                      refine lv_imul hx hb dX11_text_319 ?_
                      rw [show (6 * (nI (144 + r)) : Int32) = nI (6 * (144 + r)) from pk_mul 6 (144 + r)]
                      refine lv_iload hx hb dX11_text_320 (lv_at hl 4 rfl) ?_
                      refine lv_iadd hx hb dX11_text_322 ?_
                      rw [show ((nI (6 * (144 + r))) + (nI cz) : Int32) = nI ((6 * (144 + r)) + cz) from nI_add (6 * (144 + r)) cz]
                      refine x_iald F hP k542 (vp_in_nI (n := ((6 * (144 + r)) + cz)) (N := 936) (by omega) (by decide)) dX11_text_323 ?_
                      rw [nI_clamp (n := 6 * (144 + r) + cz) (by omega), (hz4 (6 * (144 + r) + cz) (by omega)).2 (by omega)]
                      refine y_iast F hP hD hS k542 (vp_in_nI (n := ((6 * ((12 * tw) + r)) + cz)) (N := 936) (by omega) (by decide)) dX11_text_324 (fun w544 ew545 H locs hP hD hS => ?_)
                      have k546 := wd_at.pt ew545 k535 (tg_ne ty tm34 (by decide))
                      have k547 := wd_at.pt ew545 k536 (tg_ne tm24 tm34 (by decide))
                      have k548 := wd_at.pt ew545 k537 (tg_ne tm29 tm34 (by decide))
                      have k549 := wd_at.pt ew545 k538 (tg_ne tm30 tm34 (by decide))
                      have k550 := wd_at.pt ew545 k539 (tg_ne tm31 tm34 (by decide))
                      have k551 := wd_at.pt ew545 k540 (tg_ne tm32 tm34 (by decide))
                      have k552 := wd_at.pt ew545 k541 (tg_ne tm33 tm34 (by decide))
                      have k553 : wd_at w544 m34 (.inl (cy 2, 936, .inl (upd q34 (nI ((6 * ((12 * tw) + r)) + cz)).toNatClampNeg (h34 (6 * (144 + r) + cz))))) := wd_at.ps ew545 k542
                      have kp554 := kp543.put ew545 s96
                      refine lv_iinc (v := nI (cz + 1)) (lv' := [(5, .int (nI (cz + 1))), (0, .ref y), (1, .int (nI tw)), (2, .int (nI n)), (4, .int (nI r))]) hx hb dX11_text_325 hl (k := 4) rfl (nI_1 cz) (by decide) rfl (fun ls hl => ?_)
                      refine lv_goto (tgt := 213) hx hb dX11_text_328 (by decide) ?_
                      exact ih213 (cz + 1) (upd q32 (nI ((6 * ((12 * tw) + r)) + cz)).toNatClampNeg (h32 (6 * (144 + r) + cz))) (upd q33 (nI ((6 * ((12 * tw) + r)) + cz)).toNatClampNeg (h33 (6 * (144 + r) + cz))) (upd q34 (nI ((6 * ((12 * tw) + r)) + cz)).toNatClampNeg (h34 (6 * (144 + r) + cz))) w544 (by omega) (hz2.s (by omega) (by omega) (by omega) (by rw [(show 6 * (144 + r) + cz = 864 + (6 * r + cz) by omega)])) (hz3.s (by omega) (by omega) (by omega) (by rw [(show 6 * (144 + r) + cz = 864 + (6 * r + cz) by omega)])) (hz4.s (by omega) (by omega) (by omega) (by rw [(show 6 * (144 + r) + cz = 864 + (6 * r + cz) by omega)])) k546 k547 k548 k549 k550 k551 k552 k553 kp554 ls (lv_sub hl [1, 2, 3, 4, 0] rfl) H locs hP hD hS
                  exact lp213 _ 0 p32 p33 p34 w499 (Nat.zero_add 6) hq2 hq3 hq4 k501 k502 k503 k504 k505 k506 k507 k508 kp509 ls (lv_sub hl [1, 2, 3, 4, 0] rfl) H locs hP hD hS
              exact lp158 _ 0 h30 h31 h32 h33 h34 w465 (Nat.zero_add n) (by assumption) (fun j hj => ⟨fun q => absurd q (by omega), fun _ => ⟨rfl, rfl⟩⟩) cqR.z cqR.z cqR.z k467 k468 k469 k470 k471 k472 k473 k474 kp475 ls (lv_sub hl [1, 2, 3, 0] rfl) H locs hP hD hS
            · have hfq9 : ¬ fq = 0 := fun q => c_464 (by rw [q]; decide)
              refine lv_bipush (v := (-2)) hx hb dX11_text_140 (by decide) ?_
              refine lv_aload_n hx hb dX11_text_142 rfl (lv_at hl 0 rfl) ?_
              refine x_get (ref := "NoteHouseModel") F hP k455 rfl (fun _ h => List.mem_cons_of_mem _ (List.mem_append_right _ (h))) 28 (Nat.le_of_ble_eq_true rfl) (List.mem_cons_of_mem _ (List.mem_append_left _ (List.mem_append_left _ (List.mem_of_getElem? (i := 1) rfl)))) rfl rfl dX11_text_143 ?_
              refine lv_isub hx hb dX11_text_146 ?_
              exact y_ir K hP hD hS (Nat.le_of_ble_eq_true rfl) (Nat.le_of_ble_eq_true rfl) (ty := .int) rfl rfl dX11_text_147 (⟨0, nI a, nI b, nI fq, f29, h30, h31, h32, h33, h34, (-2) - (nI fq), rfl, by simp [txtC, c4], hrl, by assumption, by have h9 := hfin.2 hfq9; rw [txN_n h9, txV_n h9]; exact hmt0.keep hfr1 hfr2, kp463, k455, k457, k458, k459, k460, k461, k462⟩)
          · refine lv_aload_n hx hb dX11_text_38 rfl (lv_at hl 0 rfl) ?_
            refine x_get (ref := "NoteHouseModel") F hP k444 rfl (fun _ h => List.mem_cons_of_mem _ (List.mem_append_right _ (h))) 28 (Nat.le_of_ble_eq_true rfl) (List.mem_cons_of_mem _ (List.mem_append_left _ (List.mem_append_left _ (List.mem_of_getElem? (i := 1) rfl)))) rfl rfl dX11_text_39 ?_
            refine lv_if_ne (tgt := 128) hx hb dX11_text_42 (by decide) (fun c42 => ?_) (fun c42 => ?_)
            · have hfin := hdone (Or.inr (fun q => c42 (by rw [q]; rfl)))
              refine lv_aload_n hx hb dX11_text_128 rfl (lv_at hl 0 rfl) ?_
              refine lv_iconst (v := 0) hx hb dX11_text_129 (by decide) ?_
              refine y_put (ref := "NoteHouseModel") F hP hD hS k444 rfl (fun _ h => List.mem_cons_of_mem _ (List.mem_append_right _ (h))) tyX11_ok nmX11 25 (Nat.le_of_ble_eq_true rfl) (List.mem_cons_of_mem _ (List.mem_append_left _ (List.mem_append_left _ (List.mem_of_getElem? (i := 3) rfl)))) rfl rfl rfl rfl (Nat.le_of_ble_eq_true rfl) dX11_text_130 (fun w555 ew556 H locs hP hD hS => ?_)
              have k557 : wd_at w555 y (.inr (11, [.int v0, .int td, .ref m2, .ref m3, .ref m4, .ref m5, .ref m6, .int (nI pc), .ref m8, .ref m9, .ref m10, .ref m11, .ref m12, .ref m13, .ref m14, .int (nI ac), .int (nI sc), .ref m17, .ref m18, .ref m19, .ref m20, .ref m21, .ref m22, .ref m23, .ref m24, .int 0, .int (nI a), .int (nI b), .int (nI fq), .ref m29, .ref m30, .ref m31, .ref m32, .ref m33, .ref m34, .ref m35, .ref m36, .ref m37, .int (nI sh), .ref m39, .ref m40, .ref m41, .ref m42, .ref m43, .ref m44, .ref m45, .ref m46, .ref m47, .ref m48, .ref m49, .int v50, .ref m51, .ref m52, .ref m53, .ref m54, .int (nI gf), .ref m56, .ref m57, .ref m58, .ref m59])) := wd_at.ps ew556 k444
              have k558 := wd_at.pt ew556 k445 (tg_ne tm24 ty (by decide))
              have k559 := wd_at.pt ew556 k446 (tg_ne tm29 ty (by decide))
              have k560 := wd_at.pt ew556 k447 (tg_ne tm30 ty (by decide))
              have k561 := wd_at.pt ew556 k448 (tg_ne tm31 ty (by decide))
              have k562 := wd_at.pt ew556 k449 (tg_ne tm32 ty (by decide))
              have k563 := wd_at.pt ew556 k450 (tg_ne tm33 ty (by decide))
              have k564 := wd_at.pt ew556 k451 (tg_ne tm34 ty (by decide))
              have kp565 := kp452.put ew556 s90
              refine lv_aload_n hx hb dX11_text_133 rfl (lv_at hl 0 rfl) ?_
              refine x_get (ref := "NoteHouseModel") F hP k557 rfl (fun _ h => List.mem_cons_of_mem _ (List.mem_append_right _ (h))) 28 (Nat.le_of_ble_eq_true rfl) (List.mem_cons_of_mem _ (List.mem_append_left _ (List.mem_append_left _ (List.mem_of_getElem? (i := 1) rfl)))) rfl rfl dX11_text_134 ?_
              refine lv_if_le (tgt := 148) hx hb dX11_text_137 (by decide) (fun c_566 => ?_) (fun c_566 => ?_)
              · have hfq9 : fq = 0 := nI_z (by omega) c_566
                have hn12z : n ≤ 12 := hn13 hfq9
                refine lv_aload_n hx hb dX11_text_148 rfl (lv_at hl 0 rfl) ?_
                refine x_get (ref := "NoteHouseModel") F hP k557 rfl (fun _ h => List.mem_cons_of_mem _ (List.mem_append_right _ (h))) 29 (Nat.le_of_ble_eq_true rfl) (List.mem_cons_of_mem _ (List.mem_append_left _ (List.mem_append_left _ (List.mem_of_getElem? (i := 4) rfl)))) rfl rfl dX11_text_149 ?_
                refine lv_iload_n hx hb dX11_text_152 rfl (lv_at hl 1 rfl) ?_
                refine lv_iload_n hx hb dX11_text_153 rfl (lv_at hl 2 rfl) ?_
                refine y_iast F hP hD hS k559 (vp_in_nI (n := tw) (N := 12) (by omega) (by decide)) dX11_text_154 (fun w567 ew568 H locs hP hD hS => ?_)
                have k569 := wd_at.pt ew568 k557 (tg_ne ty tm29 (by decide))
                have k570 := wd_at.pt ew568 k558 (tg_ne tm24 tm29 (by decide))
                have k571 : wd_at w567 m29 (.inl (cy 2, 12, .inl (upd f29 (nI tw).toNatClampNeg (nI n)))) := wd_at.ps ew568 k559
                have k572 := wd_at.pt ew568 k560 (tg_ne tm30 tm29 (by decide))
                have k573 := wd_at.pt ew568 k561 (tg_ne tm31 tm29 (by decide))
                have k574 := wd_at.pt ew568 k562 (tg_ne tm32 tm29 (by decide))
                have k575 := wd_at.pt ew568 k563 (tg_ne tm33 tm29 (by decide))
                have k576 := wd_at.pt ew568 k564 (tg_ne tm34 tm29 (by decide))
                have kp577 := kp565.put ew568 s91
                refine lv_iconst (v := 0) hx hb dX11_text_155 (by decide) ?_
                refine lv_istore (lv' := [(4, .int 0), (0, .ref y), (1, .int (nI tw)), (2, .int (nI n)), (3, .int on)]) hx hb dX11_text_156 hl (by decide) rfl (fun ls hl => ?_)
                have lp158 : ∀ (N : Nat) (r : Nat) (p30 : Nat → Int32) (p31 : Nat → Int32) (p32 : Nat → Int32) (p33 : Nat → Int32) (p34 : Nat → Int32) (w578 : Wd), (r + N = n) → (cOK p31) → (cpR tw r p30 p31 h30 h31) → (cqR tw r 0 p32 h32) → (cqR tw r 0 p33 h33) → (cqR tw r 0 p34 h34) → (wd_at w578 y (.inr (11, [.int v0, .int td, .ref m2, .ref m3, .ref m4, .ref m5, .ref m6, .int (nI pc), .ref m8, .ref m9, .ref m10, .ref m11, .ref m12, .ref m13, .ref m14, .int (nI ac), .int (nI sc), .ref m17, .ref m18, .ref m19, .ref m20, .ref m21, .ref m22, .ref m23, .ref m24, .int 0, .int (nI a), .int (nI b), .int (nI fq), .ref m29, .ref m30, .ref m31, .ref m32, .ref m33, .ref m34, .ref m35, .ref m36, .ref m37, .int (nI sh), .ref m39, .ref m40, .ref m41, .ref m42, .ref m43, .ref m44, .ref m45, .ref m46, .ref m47, .ref m48, .ref m49, .int v50, .ref m51, .ref m52, .ref m53, .ref m54, .int (nI gf), .ref m56, .ref m57, .ref m58, .ref m59]))) → (wd_at w578 m24 (.inl (cy 0, 300, .inl f24))) → (wd_at w578 m29 (.inl (cy 2, 12, .inl (upd f29 (nI tw).toNatClampNeg (nI n))))) → (wd_at w578 m30 (.inl (cy 2, 156, .inl p30))) → (wd_at w578 m31 (.inl (cy 2, 156, .inl p31))) → (wd_at w578 m32 (.inl (cy 2, 936, .inl p32))) → (wd_at w578 m33 (.inl (cy 2, 936, .inl p33))) → (wd_at w578 m34 (.inl (cy 2, 936, .inl p34))) → (wd_kp S w w578) → ∀ (ls : Array Slot), lv_has ls 6 [(0, .ref y), (1, .int (nI tw)), (2, .int (nI n)), (4, .int (nI r))] → Wv p l e ({ frames := 7, cells := 0, slots := 0, locals := 155 }) s m args below meth c D A (0) (0) Q w578 (F0 m 158 ls []) := by
                  intro N
                  induction N with
                  | zero =>
                    intro r p30 p31 p32 p33 p34 w578 hN158 hc3 hcp hq2 hq3 hq4 k579 k580 k581 k582 k583 k584 k585 k586 kp587 ls hl H locs hP hD hS
                    refine lv_iload hx hb dX11_text_158 (lv_at hl 3 rfl) ?_
                    refine lv_iload_n hx hb dX11_text_160 rfl (lv_at hl 2 rfl) ?_
                    refine lv_icmp_ge (tgt := 337) hx hb dX11_text_161 (by decide) (fun c_588 => ?_) (fun c_588 => absurd (nI_le (a := n) (b := r) (by omega) (by omega)) c_588)
                    refine lv_iload_n hx hb dX11_text_337 rfl (lv_at hl 2 rfl) ?_
                    exact y_ir K hP hD hS (Nat.le_of_ble_eq_true rfl) (Nat.le_of_ble_eq_true rfl) (ty := .int) rfl rfl dX11_text_338 (⟨0, nI a, nI b, nI fq, upd f29 (nI tw).toNatClampNeg (nI n), p30, p31, p32, p33, p34, nI n, rfl, by simp [txtC, c4], hrl.c (by omega) (by omega), by assumption, by rw [txN_s c4 (hfin.1 hfq9).1, txV_s c4 (hfin.1 hfq9).1, cltw]; have h9 := (hmt0.keep hfr1 hfr2).set htw (by omega) (hfin.1 hfq9).2 ((show r = n by omega) ▸ hcp) ((show r = n by omega) ▸ hq2) ((show r = n by omega) ▸ hq3) ((show r = n by omega) ▸ hq4); rw [cltw] at h9; exact h9, kp587, k579, k581, k582, k583, k584, k585, k586⟩)
                  | succ N ih158 =>
                    intro r p30 p31 p32 p33 p34 w578 hN158 hc3 hcp hq2 hq3 hq4 k579 k580 k581 k582 k583 k584 k585 k586 kp587 ls hl H locs hP hD hS
                    refine lv_iload hx hb dX11_text_158 (lv_at hl 3 rfl) ?_
                    refine lv_iload_n hx hb dX11_text_160 rfl (lv_at hl 2 rfl) ?_
                    refine lv_icmp_ge (tgt := 337) hx hb dX11_text_161 (by decide) (fun c_589 => absurd c_589 (nI_ge (a := r) (b := n) (by omega) (by omega))) (fun c_589 => ?_)
                    refine lv_aload_n hx hb dX11_text_164 rfl (lv_at hl 0 rfl) ?_
                    refine x_get (ref := "NoteHouseModel") F hP k579 rfl (fun _ h => List.mem_cons_of_mem _ (List.mem_append_right _ (h))) 30 (Nat.le_of_ble_eq_true rfl) (List.mem_cons_of_mem _ (List.mem_append_left _ (List.mem_append_left _ (List.mem_of_getElem? (i := 5) rfl)))) rfl rfl dX11_text_165 ?_
                    refine lv_bipush (v := 12) hx hb dX11_text_168 (by decide) ?_
                    refine lv_iload_n hx hb dX11_text_170 rfl (lv_at hl 1 rfl) ?_
                    refine lv_imul hx hb dX11_text_171 ?_
                    rw [show (12 * (nI tw) : Int32) = nI (12 * tw) from pk_mul 12 tw]
                    refine lv_iload hx hb dX11_text_172 (lv_at hl 3 rfl) ?_
                    refine lv_iadd hx hb dX11_text_174 ?_
                    rw [show ((nI (12 * tw)) + (nI r) : Int32) = nI ((12 * tw) + r) from nI_add (12 * tw) r]
                    refine lv_aload_n hx hb dX11_text_175 rfl (lv_at hl 0 rfl) ?_
                    refine x_get (ref := "NoteHouseModel") F hP k579 rfl (fun _ h => List.mem_cons_of_mem _ (List.mem_append_right _ (h))) 30 (Nat.le_of_ble_eq_true rfl) (List.mem_cons_of_mem _ (List.mem_append_left _ (List.mem_append_left _ (List.mem_of_getElem? (i := 5) rfl)))) rfl rfl dX11_text_176 ?_
                    refine lv_sipush (v := 144) hx hb dX11_text_179 (by decide) ?_
                    refine lv_iload hx hb dX11_text_182 (lv_at hl 3 rfl) ?_
                    refine lv_iadd hx hb dX11_text_184 ?_
                    rw [show (144 + (nI r) : Int32) = nI (144 + r) from nI_add 144 r]
                    refine x_iald F hP k582 (vp_in_nI (n := (144 + r)) (N := 156) (by omega) (by decide)) dX11_text_185 ?_
                    rw [nI_clamp (n := 144 + r) (by omega), ((hcp (144 + r) (by omega)).2 (by omega)).1]
                    refine y_iast F hP hD hS k582 (vp_in_nI (n := ((12 * tw) + r)) (N := 156) (by omega) (by decide)) dX11_text_186 (fun w590 ew591 H locs hP hD hS => ?_)
                    have k592 := wd_at.pt ew591 k579 (tg_ne ty tm30 (by decide))
                    have k593 := wd_at.pt ew591 k580 (tg_ne tm24 tm30 (by decide))
                    have k594 := wd_at.pt ew591 k581 (tg_ne tm29 tm30 (by decide))
                    have k595 : wd_at w590 m30 (.inl (cy 2, 156, .inl (upd p30 (nI ((12 * tw) + r)).toNatClampNeg (h30 (144 + r))))) := wd_at.ps ew591 k582
                    have k596 := wd_at.pt ew591 k583 (tg_ne tm31 tm30 (by decide))
                    have k597 := wd_at.pt ew591 k584 (tg_ne tm32 tm30 (by decide))
                    have k598 := wd_at.pt ew591 k585 (tg_ne tm33 tm30 (by decide))
                    have k599 := wd_at.pt ew591 k586 (tg_ne tm34 tm30 (by decide))
                    have kp600 := kp587.put ew591 s92
                    refine lv_aload_n hx hb dX11_text_187 rfl (lv_at hl 0 rfl) ?_
                    refine x_get (ref := "NoteHouseModel") F hP k592 rfl (fun _ h => List.mem_cons_of_mem _ (List.mem_append_right _ (h))) 31 (Nat.le_of_ble_eq_true rfl) (List.mem_cons_of_mem _ (List.mem_append_left _ (List.mem_append_left _ (List.mem_of_getElem? (i := 6) rfl)))) rfl rfl dX11_text_188 ?_
                    refine lv_bipush (v := 12) hx hb dX11_text_191 (by decide) ?_
                    refine lv_iload_n hx hb dX11_text_193 rfl (lv_at hl 1 rfl) ?_
                    refine lv_imul hx hb dX11_text_194 ?_
                    rw [show (12 * (nI tw) : Int32) = nI (12 * tw) from pk_mul 12 tw]
                    refine lv_iload hx hb dX11_text_195 (lv_at hl 3 rfl) ?_
                    refine lv_iadd hx hb dX11_text_197 ?_
                    rw [show ((nI (12 * tw)) + (nI r) : Int32) = nI ((12 * tw) + r) from nI_add (12 * tw) r]
                    refine lv_aload_n hx hb dX11_text_198 rfl (lv_at hl 0 rfl) ?_
                    refine x_get (ref := "NoteHouseModel") F hP k592 rfl (fun _ h => List.mem_cons_of_mem _ (List.mem_append_right _ (h))) 31 (Nat.le_of_ble_eq_true rfl) (List.mem_cons_of_mem _ (List.mem_append_left _ (List.mem_append_left _ (List.mem_of_getElem? (i := 6) rfl)))) rfl rfl dX11_text_199 ?_
                    refine lv_sipush (v := 144) hx hb dX11_text_202 (by decide) ?_
                    refine lv_iload hx hb dX11_text_205 (lv_at hl 3 rfl) ?_
                    refine lv_iadd hx hb dX11_text_207 ?_
                    rw [show (144 + (nI r) : Int32) = nI (144 + r) from nI_add 144 r]
                    refine x_iald F hP k596 (vp_in_nI (n := (144 + r)) (N := 156) (by omega) (by decide)) dX11_text_208 ?_
                    obtain ⟨uc, huc, euc⟩ := hc3 (144 + r) (by omega)
                    have euh : p31 (144 + r) = h31 (144 + r) := ((hcp (144 + r) (by omega)).2 (by omega)).2
                    rw [nI_clamp (n := 144 + r) (by omega), euc]
                    refine y_iast F hP hD hS k596 (vp_in_nI (n := ((12 * tw) + r)) (N := 156) (by omega) (by decide)) dX11_text_209 (fun w601 ew602 H locs hP hD hS => ?_)
                    have k603 := wd_at.pt ew602 k592 (tg_ne ty tm31 (by decide))
                    have k604 := wd_at.pt ew602 k593 (tg_ne tm24 tm31 (by decide))
                    have k605 := wd_at.pt ew602 k594 (tg_ne tm29 tm31 (by decide))
                    have k606 := wd_at.pt ew602 k595 (tg_ne tm30 tm31 (by decide))
                    have k607 : wd_at w601 m31 (.inl (cy 2, 156, .inl (upd p31 (nI ((12 * tw) + r)).toNatClampNeg (nI uc)))) := wd_at.ps ew602 k596
                    have k608 := wd_at.pt ew602 k597 (tg_ne tm32 tm31 (by decide))
                    have k609 := wd_at.pt ew602 k598 (tg_ne tm33 tm31 (by decide))
                    have k610 := wd_at.pt ew602 k599 (tg_ne tm34 tm31 (by decide))
                    have kp611 := kp600.put ew602 s93
                    refine lv_iconst (v := 0) hx hb dX11_text_210 (by decide) ?_
                    refine lv_istore (lv' := [(5, .int 0), (0, .ref y), (1, .int (nI tw)), (2, .int (nI n)), (4, .int (nI r))]) hx hb dX11_text_211 hl (by decide) rfl (fun ls hl => ?_)
                    have lp213 : ∀ (N : Nat) (cz : Nat) (q32 : Nat → Int32) (q33 : Nat → Int32) (q34 : Nat → Int32) (w612 : Wd), (cz + N = 6) → (cqR tw r cz q32 h32) → (cqR tw r cz q33 h33) → (cqR tw r cz q34 h34) → (wd_at w612 y (.inr (11, [.int v0, .int td, .ref m2, .ref m3, .ref m4, .ref m5, .ref m6, .int (nI pc), .ref m8, .ref m9, .ref m10, .ref m11, .ref m12, .ref m13, .ref m14, .int (nI ac), .int (nI sc), .ref m17, .ref m18, .ref m19, .ref m20, .ref m21, .ref m22, .ref m23, .ref m24, .int 0, .int (nI a), .int (nI b), .int (nI fq), .ref m29, .ref m30, .ref m31, .ref m32, .ref m33, .ref m34, .ref m35, .ref m36, .ref m37, .int (nI sh), .ref m39, .ref m40, .ref m41, .ref m42, .ref m43, .ref m44, .ref m45, .ref m46, .ref m47, .ref m48, .ref m49, .int v50, .ref m51, .ref m52, .ref m53, .ref m54, .int (nI gf), .ref m56, .ref m57, .ref m58, .ref m59]))) → (wd_at w612 m24 (.inl (cy 0, 300, .inl f24))) → (wd_at w612 m29 (.inl (cy 2, 12, .inl (upd f29 (nI tw).toNatClampNeg (nI n))))) → (wd_at w612 m30 (.inl (cy 2, 156, .inl (upd p30 (nI ((12 * tw) + r)).toNatClampNeg (h30 (144 + r)))))) → (wd_at w612 m31 (.inl (cy 2, 156, .inl (upd p31 (nI ((12 * tw) + r)).toNatClampNeg (nI uc))))) → (wd_at w612 m32 (.inl (cy 2, 936, .inl q32))) → (wd_at w612 m33 (.inl (cy 2, 936, .inl q33))) → (wd_at w612 m34 (.inl (cy 2, 936, .inl q34))) → (wd_kp S w w612) → ∀ (ls : Array Slot), lv_has ls 6 [(0, .ref y), (1, .int (nI tw)), (2, .int (nI n)), (4, .int (nI r)), (5, .int (nI cz))] → Wv p l e ({ frames := 7, cells := 0, slots := 0, locals := 155 }) s m args below meth c D A (0) (0) Q w612 (F0 m 213 ls []) := by
                      intro N
                      induction N with
                      | zero =>
                        intro cz q32 q33 q34 w612 hN213 hz2 hz3 hz4 k613 k614 k615 k616 k617 k618 k619 k620 kp621 ls hl H locs hP hD hS
                        refine lv_iload hx hb dX11_text_213 (lv_at hl 4 rfl) ?_
                        refine lv_bipush (v := 6) hx hb dX11_text_215 (by decide) ?_
                        refine lv_icmp_ge (tgt := 331) hx hb dX11_text_217 (by decide) (fun c_622 => ?_) (fun c_622 => absurd (nI_le (a := 6) (b := cz) (by omega) (by omega)) c_622)
                        refine lv_iinc (v := nI (r + 1)) (lv' := [(4, .int (nI (r + 1))), (0, .ref y), (1, .int (nI tw)), (2, .int (nI n)), (5, .int (nI cz))]) hx hb dX11_text_331 hl (k := 3) rfl (nI_1 r) (by decide) rfl (fun ls hl => ?_)
                        refine lv_goto (tgt := 158) hx hb dX11_text_334 (by decide) ?_
                        exact ih158 (r + 1) (upd p30 (nI ((12 * tw) + r)).toNatClampNeg (h30 (144 + r))) (upd p31 (nI ((12 * tw) + r)).toNatClampNeg (nI uc)) q32 q33 q34 w612 (by omega) (hc3.c (u := uc) (by omega) (by omega)) (hcp.s (by omega) (by omega) rfl (euc.symm.trans euh)) ((show cqR tw r 6 q32 h32 from (show cz = 6 by omega) ▸ hz2).n) ((show cqR tw r 6 q33 h33 from (show cz = 6 by omega) ▸ hz3).n) ((show cqR tw r 6 q34 h34 from (show cz = 6 by omega) ▸ hz4).n) k613 k614 k615 k616 k617 k618 k619 k620 kp621 ls (lv_sub hl [1, 2, 3, 0] rfl) H locs hP hD hS
                      | succ N ih213 =>
                        intro cz q32 q33 q34 w612 hN213 hz2 hz3 hz4 k613 k614 k615 k616 k617 k618 k619 k620 kp621 ls hl H locs hP hD hS
                        refine lv_iload hx hb dX11_text_213 (lv_at hl 4 rfl) ?_
                        refine lv_bipush (v := 6) hx hb dX11_text_215 (by decide) ?_
                        refine lv_icmp_ge (tgt := 331) hx hb dX11_text_217 (by decide) (fun c_623 => absurd c_623 (nI_ge (a := cz) (b := 6) (by omega) (by omega))) (fun c_623 => ?_)
                        refine lv_aload_n hx hb dX11_text_220 rfl (lv_at hl 0 rfl) ?_
                        refine x_get (ref := "NoteHouseModel") F hP k613 rfl (fun _ h => List.mem_cons_of_mem _ (List.mem_append_right _ (h))) 32 (Nat.le_of_ble_eq_true rfl) (List.mem_cons_of_mem _ (List.mem_append_left _ (List.mem_append_left _ (List.mem_of_getElem? (i := 7) rfl)))) rfl rfl dX11_text_221 ?_
                        refine lv_bipush (v := 6) hx hb dX11_text_224 (by decide) ?_
                        refine lv_bipush (v := 12) hx hb dX11_text_226 (by decide) ?_
                        refine lv_iload_n hx hb dX11_text_228 rfl (lv_at hl 1 rfl) ?_
                        refine lv_imul hx hb dX11_text_229 ?_
                        rw [show (12 * (nI tw) : Int32) = nI (12 * tw) from pk_mul 12 tw]
                        refine lv_iload hx hb dX11_text_230 (lv_at hl 3 rfl) ?_
                        refine lv_iadd hx hb dX11_text_232 ?_
                        rw [show ((nI (12 * tw)) + (nI r) : Int32) = nI ((12 * tw) + r) from nI_add (12 * tw) r]
                        refine lv_imul hx hb dX11_text_233 ?_
                        rw [show (6 * (nI ((12 * tw) + r)) : Int32) = nI (6 * ((12 * tw) + r)) from pk_mul 6 ((12 * tw) + r)]
                        refine lv_iload hx hb dX11_text_234 (lv_at hl 4 rfl) ?_
                        refine lv_iadd hx hb dX11_text_236 ?_
                        rw [show ((nI (6 * ((12 * tw) + r))) + (nI cz) : Int32) = nI ((6 * ((12 * tw) + r)) + cz) from nI_add (6 * ((12 * tw) + r)) cz]
                        refine lv_aload_n hx hb dX11_text_237 rfl (lv_at hl 0 rfl) ?_
                        refine x_get (ref := "NoteHouseModel") F hP k613 rfl (fun _ h => List.mem_cons_of_mem _ (List.mem_append_right _ (h))) 32 (Nat.le_of_ble_eq_true rfl) (List.mem_cons_of_mem _ (List.mem_append_left _ (List.mem_append_left _ (List.mem_of_getElem? (i := 7) rfl)))) rfl rfl dX11_text_238 ?_
                        refine lv_bipush (v := 6) hx hb dX11_text_241 (by decide) ?_
                        refine lv_sipush (v := 144) hx hb dX11_text_243 (by decide) ?_
                        refine lv_iload hx hb dX11_text_246 (lv_at hl 3 rfl) ?_
                        refine lv_iadd hx hb dX11_text_248 ?_
                        rw [show (144 + (nI r) : Int32) = nI (144 + r) from nI_add 144 r]
                        refine lv_imul hx hb dX11_text_249 ?_
                        rw [show (6 * (nI (144 + r)) : Int32) = nI (6 * (144 + r)) from pk_mul 6 (144 + r)]
                        refine lv_iload hx hb dX11_text_250 (lv_at hl 4 rfl) ?_
                        refine lv_iadd hx hb dX11_text_252 ?_
                        rw [show ((nI (6 * (144 + r))) + (nI cz) : Int32) = nI ((6 * (144 + r)) + cz) from nI_add (6 * (144 + r)) cz]
                        refine x_iald F hP k618 (vp_in_nI (n := ((6 * (144 + r)) + cz)) (N := 936) (by omega) (by decide)) dX11_text_253 ?_
                        rw [nI_clamp (n := 6 * (144 + r) + cz) (by omega), (hz2 (6 * (144 + r) + cz) (by omega)).2 (by omega)]
                        refine y_iast F hP hD hS k618 (vp_in_nI (n := ((6 * ((12 * tw) + r)) + cz)) (N := 936) (by omega) (by decide)) dX11_text_254 (fun w624 ew625 H locs hP hD hS => ?_)
                        have k626 := wd_at.pt ew625 k613 (tg_ne ty tm32 (by decide))
                        have k627 := wd_at.pt ew625 k614 (tg_ne tm24 tm32 (by decide))
                        have k628 := wd_at.pt ew625 k615 (tg_ne tm29 tm32 (by decide))
                        have k629 := wd_at.pt ew625 k616 (tg_ne tm30 tm32 (by decide))
                        have k630 := wd_at.pt ew625 k617 (tg_ne tm31 tm32 (by decide))
                        have k631 : wd_at w624 m32 (.inl (cy 2, 936, .inl (upd q32 (nI ((6 * ((12 * tw) + r)) + cz)).toNatClampNeg (h32 (6 * (144 + r) + cz))))) := wd_at.ps ew625 k618
                        have k632 := wd_at.pt ew625 k619 (tg_ne tm33 tm32 (by decide))
                        have k633 := wd_at.pt ew625 k620 (tg_ne tm34 tm32 (by decide))
                        have kp634 := kp621.put ew625 s94
                        refine lv_aload_n hx hb dX11_text_255 rfl (lv_at hl 0 rfl) ?_
                        refine x_get (ref := "NoteHouseModel") F hP k626 rfl (fun _ h => List.mem_cons_of_mem _ (List.mem_append_right _ (h))) 33 (Nat.le_of_ble_eq_true rfl) (List.mem_cons_of_mem _ (List.mem_append_left _ (List.mem_append_left _ (List.mem_of_getElem? (i := 8) rfl)))) rfl rfl dX11_text_256 ?_
                        refine lv_bipush (v := 6) hx hb dX11_text_259 (by decide) ?_
                        refine lv_bipush (v := 12) hx hb dX11_text_261 (by decide) ?_
                        refine lv_iload_n hx hb dX11_text_263 rfl (lv_at hl 1 rfl) ?_
                        refine lv_imul hx hb dX11_text_264 ?_
                        rw [show (12 * (nI tw) : Int32) = nI (12 * tw) from pk_mul 12 tw]
                        refine lv_iload hx hb dX11_text_265 (lv_at hl 3 rfl) ?_
                        refine lv_iadd hx hb dX11_text_267 ?_
                        rw [show ((nI (12 * tw)) + (nI r) : Int32) = nI ((12 * tw) + r) from nI_add (12 * tw) r]
                        refine lv_imul hx hb dX11_text_268 ?_
                        rw [show (6 * (nI ((12 * tw) + r)) : Int32) = nI (6 * ((12 * tw) + r)) from pk_mul 6 ((12 * tw) + r)]
                        refine lv_iload hx hb dX11_text_269 (lv_at hl 4 rfl) ?_
                        refine lv_iadd hx hb dX11_text_271 ?_
                        rw [show ((nI (6 * ((12 * tw) + r))) + (nI cz) : Int32) = nI ((6 * ((12 * tw) + r)) + cz) from nI_add (6 * ((12 * tw) + r)) cz]
                        refine lv_aload_n hx hb dX11_text_272 rfl (lv_at hl 0 rfl) ?_
                        refine x_get (ref := "NoteHouseModel") F hP k626 rfl (fun _ h => List.mem_cons_of_mem _ (List.mem_append_right _ (h))) 33 (Nat.le_of_ble_eq_true rfl) (List.mem_cons_of_mem _ (List.mem_append_left _ (List.mem_append_left _ (List.mem_of_getElem? (i := 8) rfl)))) rfl rfl dX11_text_273 ?_
                        refine lv_bipush (v := 6) hx hb dX11_text_276 (by decide) ?_
                        refine lv_sipush (v := 144) hx hb dX11_text_278 (by decide) ?_
                        refine lv_iload hx hb dX11_text_281 (lv_at hl 3 rfl) ?_
                        refine lv_iadd hx hb dX11_text_283 ?_
                        rw [show (144 + (nI r) : Int32) = nI (144 + r) from nI_add 144 r]
                        refine lv_imul hx hb dX11_text_284 ?_
                        rw [show (6 * (nI (144 + r)) : Int32) = nI (6 * (144 + r)) from pk_mul 6 (144 + r)]
                        refine lv_iload hx hb dX11_text_285 (lv_at hl 4 rfl) ?_
                        refine lv_iadd hx hb dX11_text_287 ?_
                        rw [show ((nI (6 * (144 + r))) + (nI cz) : Int32) = nI ((6 * (144 + r)) + cz) from nI_add (6 * (144 + r)) cz]
                        refine x_iald F hP k632 (vp_in_nI (n := ((6 * (144 + r)) + cz)) (N := 936) (by omega) (by decide)) dX11_text_288 ?_
                        rw [nI_clamp (n := 6 * (144 + r) + cz) (by omega), (hz3 (6 * (144 + r) + cz) (by omega)).2 (by omega)]
                        refine y_iast F hP hD hS k632 (vp_in_nI (n := ((6 * ((12 * tw) + r)) + cz)) (N := 936) (by omega) (by decide)) dX11_text_289 (fun w635 ew636 H locs hP hD hS => ?_)
                        have k637 := wd_at.pt ew636 k626 (tg_ne ty tm33 (by decide))
                        have k638 := wd_at.pt ew636 k627 (tg_ne tm24 tm33 (by decide))
                        have k639 := wd_at.pt ew636 k628 (tg_ne tm29 tm33 (by decide))
                        have k640 := wd_at.pt ew636 k629 (tg_ne tm30 tm33 (by decide))
                        have k641 := wd_at.pt ew636 k630 (tg_ne tm31 tm33 (by decide))
                        have k642 := wd_at.pt ew636 k631 (tg_ne tm32 tm33 (by decide))
                        have k643 : wd_at w635 m33 (.inl (cy 2, 936, .inl (upd q33 (nI ((6 * ((12 * tw) + r)) + cz)).toNatClampNeg (h33 (6 * (144 + r) + cz))))) := wd_at.ps ew636 k632
                        have k644 := wd_at.pt ew636 k633 (tg_ne tm34 tm33 (by decide))
                        have kp645 := kp634.put ew636 s95
                        refine lv_aload_n hx hb dX11_text_290 rfl (lv_at hl 0 rfl) ?_
                        refine x_get (ref := "NoteHouseModel") F hP k637 rfl (fun _ h => List.mem_cons_of_mem _ (List.mem_append_right _ (h))) 34 (Nat.le_of_ble_eq_true rfl) (List.mem_cons_of_mem _ (List.mem_append_left _ (List.mem_append_left _ (List.mem_of_getElem? (i := 9) rfl)))) rfl rfl dX11_text_291 ?_
                        refine lv_bipush (v := 6) hx hb dX11_text_294 (by decide) ?_
                        refine lv_bipush (v := 12) hx hb dX11_text_296 (by decide) ?_
                        refine lv_iload_n hx hb dX11_text_298 rfl (lv_at hl 1 rfl) ?_
                        refine lv_imul hx hb dX11_text_299 ?_
                        rw [show (12 * (nI tw) : Int32) = nI (12 * tw) from pk_mul 12 tw]
                        refine lv_iload hx hb dX11_text_300 (lv_at hl 3 rfl) ?_
                        refine lv_iadd hx hb dX11_text_302 ?_
                        rw [show ((nI (12 * tw)) + (nI r) : Int32) = nI ((12 * tw) + r) from nI_add (12 * tw) r]
                        refine lv_imul hx hb dX11_text_303 ?_
                        rw [show (6 * (nI ((12 * tw) + r)) : Int32) = nI (6 * ((12 * tw) + r)) from pk_mul 6 ((12 * tw) + r)]
                        refine lv_iload hx hb dX11_text_304 (lv_at hl 4 rfl) ?_
                        refine lv_iadd hx hb dX11_text_306 ?_
                        rw [show ((nI (6 * ((12 * tw) + r))) + (nI cz) : Int32) = nI ((6 * ((12 * tw) + r)) + cz) from nI_add (6 * ((12 * tw) + r)) cz]
                        refine lv_aload_n hx hb dX11_text_307 rfl (lv_at hl 0 rfl) ?_
                        refine x_get (ref := "NoteHouseModel") F hP k637 rfl (fun _ h => List.mem_cons_of_mem _ (List.mem_append_right _ (h))) 34 (Nat.le_of_ble_eq_true rfl) (List.mem_cons_of_mem _ (List.mem_append_left _ (List.mem_append_left _ (List.mem_of_getElem? (i := 9) rfl)))) rfl rfl dX11_text_308 ?_
                        refine lv_bipush (v := 6) hx hb dX11_text_311 (by decide) ?_
                        refine lv_sipush (v := 144) hx hb dX11_text_313 (by decide) ?_
                        refine lv_iload hx hb dX11_text_316 (lv_at hl 3 rfl) ?_
                        refine lv_iadd hx hb dX11_text_318 ?_
                        rw [show (144 + (nI r) : Int32) = nI (144 + r) from nI_add 144 r]
                        refine lv_imul hx hb dX11_text_319 ?_
                        rw [show (6 * (nI (144 + r)) : Int32) = nI (6 * (144 + r)) from pk_mul 6 (144 + r)]
                        refine lv_iload hx hb dX11_text_320 (lv_at hl 4 rfl) ?_
                        refine lv_iadd hx hb dX11_text_322 ?_
                        rw [show ((nI (6 * (144 + r))) + (nI cz) : Int32) = nI ((6 * (144 + r)) + cz) from nI_add (6 * (144 + r)) cz]
                        refine x_iald F hP k644 (vp_in_nI (n := ((6 * (144 + r)) + cz)) (N := 936) (by omega) (by decide)) dX11_text_323 ?_
                        rw [nI_clamp (n := 6 * (144 + r) + cz) (by omega), (hz4 (6 * (144 + r) + cz) (by omega)).2 (by omega)]
                        refine y_iast F hP hD hS k644 (vp_in_nI (n := ((6 * ((12 * tw) + r)) + cz)) (N := 936) (by omega) (by decide)) dX11_text_324 (fun w646 ew647 H locs hP hD hS => ?_)
                        have k648 := wd_at.pt ew647 k637 (tg_ne ty tm34 (by decide))
                        have k649 := wd_at.pt ew647 k638 (tg_ne tm24 tm34 (by decide))
                        have k650 := wd_at.pt ew647 k639 (tg_ne tm29 tm34 (by decide))
                        have k651 := wd_at.pt ew647 k640 (tg_ne tm30 tm34 (by decide))
                        have k652 := wd_at.pt ew647 k641 (tg_ne tm31 tm34 (by decide))
                        have k653 := wd_at.pt ew647 k642 (tg_ne tm32 tm34 (by decide))
                        have k654 := wd_at.pt ew647 k643 (tg_ne tm33 tm34 (by decide))
                        have k655 : wd_at w646 m34 (.inl (cy 2, 936, .inl (upd q34 (nI ((6 * ((12 * tw) + r)) + cz)).toNatClampNeg (h34 (6 * (144 + r) + cz))))) := wd_at.ps ew647 k644
                        have kp656 := kp645.put ew647 s96
                        refine lv_iinc (v := nI (cz + 1)) (lv' := [(5, .int (nI (cz + 1))), (0, .ref y), (1, .int (nI tw)), (2, .int (nI n)), (4, .int (nI r))]) hx hb dX11_text_325 hl (k := 4) rfl (nI_1 cz) (by decide) rfl (fun ls hl => ?_)
                        refine lv_goto (tgt := 213) hx hb dX11_text_328 (by decide) ?_
                        exact ih213 (cz + 1) (upd q32 (nI ((6 * ((12 * tw) + r)) + cz)).toNatClampNeg (h32 (6 * (144 + r) + cz))) (upd q33 (nI ((6 * ((12 * tw) + r)) + cz)).toNatClampNeg (h33 (6 * (144 + r) + cz))) (upd q34 (nI ((6 * ((12 * tw) + r)) + cz)).toNatClampNeg (h34 (6 * (144 + r) + cz))) w646 (by omega) (hz2.s (by omega) (by omega) (by omega) (by rw [(show 6 * (144 + r) + cz = 864 + (6 * r + cz) by omega)])) (hz3.s (by omega) (by omega) (by omega) (by rw [(show 6 * (144 + r) + cz = 864 + (6 * r + cz) by omega)])) (hz4.s (by omega) (by omega) (by omega) (by rw [(show 6 * (144 + r) + cz = 864 + (6 * r + cz) by omega)])) k648 k649 k650 k651 k652 k653 k654 k655 kp656 ls (lv_sub hl [1, 2, 3, 4, 0] rfl) H locs hP hD hS
                    exact lp213 _ 0 p32 p33 p34 w601 (Nat.zero_add 6) hq2 hq3 hq4 k603 k604 k605 k606 k607 k608 k609 k610 kp611 ls (lv_sub hl [1, 2, 3, 4, 0] rfl) H locs hP hD hS
                exact lp158 _ 0 h30 h31 h32 h33 h34 w567 (Nat.zero_add n) (by assumption) (fun j hj => ⟨fun q => absurd q (by omega), fun _ => ⟨rfl, rfl⟩⟩) cqR.z cqR.z cqR.z k569 k570 k571 k572 k573 k574 k575 k576 kp577 ls (lv_sub hl [1, 2, 3, 0] rfl) H locs hP hD hS
              · have hfq9 : ¬ fq = 0 := fun q => c_566 (by rw [q]; decide)
                refine lv_bipush (v := (-2)) hx hb dX11_text_140 (by decide) ?_
                refine lv_aload_n hx hb dX11_text_142 rfl (lv_at hl 0 rfl) ?_
                refine x_get (ref := "NoteHouseModel") F hP k557 rfl (fun _ h => List.mem_cons_of_mem _ (List.mem_append_right _ (h))) 28 (Nat.le_of_ble_eq_true rfl) (List.mem_cons_of_mem _ (List.mem_append_left _ (List.mem_append_left _ (List.mem_of_getElem? (i := 1) rfl)))) rfl rfl dX11_text_143 ?_
                refine lv_isub hx hb dX11_text_146 ?_
                exact y_ir K hP hD hS (Nat.le_of_ble_eq_true rfl) (Nat.le_of_ble_eq_true rfl) (ty := .int) rfl rfl dX11_text_147 (⟨0, nI a, nI b, nI fq, f29, h30, h31, h32, h33, h34, (-2) - (nI fq), rfl, by simp [txtC, c4], hrl, by assumption, by have h9 := hfin.2 hfq9; rw [txN_n h9, txV_n h9]; exact hmt0.keep hfr1 hfr2, kp565, k557, k559, k560, k561, k562, k563, k564⟩)
            · have hf0 : fq = 0 := nI_z0 (by omega) c42
              have hn9 := hn13 hf0
              obtain ⟨hG, hmg2⟩ := hact c35 hf0
              subst hf0
              refine lv_aload_n hx hb dX11_text_45 rfl (lv_at hl 0 rfl) ?_
              refine lv_sipush (v := 144) hx hb dX11_text_46 (by decide) ?_
              refine lv_iload_n hx hb dX11_text_49 rfl (lv_at hl 2 rfl) ?_
              refine lv_bipush (v := 12) hx hb dX11_text_50 (by decide) ?_
              refine lv_icmp_ge (tgt := 59) hx hb dX11_text_52 (by decide) (fun c_657 => ?_) (fun c_657 => ?_)
              · have hn12 : 12 ≤ n := (nI_leI (a := 12) (b := n) (by omega) (by omega)).mp c_657
                refine lv_iconst (v := 0) hx hb dX11_text_59 (by decide) ?_
                refine lv_iadd hx hb dX11_text_60 ?_
                rw [show (144 + 0 : Int32) = 144 from by decide]
                refine lv_iload_n hx hb dX11_text_61 rfl (lv_at hl 2 rfl) ?_
                refine x_callV (n := 2) (As := [.int 144, .int (nI n)]) (rest := []) F hP hD hS (m_rule l D cy sk sv w443 tg y m2 m3 m4 m5 m6 m8 m9 m10 m11 m12 m13 m14 m17 m18 m19 m20 m21 m22 m23 m24 m29 m30 m31 m32 m33 m34 m35 m36 m37 m39 m40 m41 m42 m43 m44 m45 m46 m47 m48 m49 m51 m52 m53 m54 m56 m57 m58 m59 pc ac sc ln sh gf v0 td (nI b) v50 f24 h30 h31 h32 h33 h34 a 144 n T2 k444 k445 k447 k448 k449 k450 k451 (fun b => b = y ∨ b = m30 ∨ b = m31 ∨ b = m32 ∨ b = m33 ∨ b = m34) (Or.inl rfl) (Or.inr (Or.inl rfl)) (Or.inr (Or.inr (Or.inl rfl))) (Or.inr (Or.inr (Or.inr (Or.inl rfl)))) (Or.inr (Or.inr (Or.inr (Or.inr (Or.inl rfl))))) (Or.inr (Or.inr (Or.inr (Or.inr (Or.inr rfl))))) ty tm24 tm30 tm31 tm32 tm33 tm34 (by omega) (by omega) (by omega) (by omega) (by omega) (by omega) (by assumption) (by assumption)) gX11_text_X11_rule rfl rfl (by decide +kernel) ⟨(Nat.le_of_ble_eq_true rfl), (Nat.le_of_ble_eq_true rfl)⟩ rfl hl.1 (Nat.le_of_ble_eq_true rfl) k444 rfl dX11_text_62 rfl ⟨(Nat.le_of_ble_eq_true rfl), (Nat.le_of_ble_eq_true rfl)⟩ (fun v659 w660 hp658 H locs hP hD hS => ?_)
                obtain ⟨ax661, bx662, fvx663, gx664, gx665, gx666, gx667, gx668, rfl, hz669, hz670, hz671, hz672, hz673, hz674, hz675, hz676, hz677, kq684, k678, k679, k680, k681, k682, k683⟩ := hp658
                have k685 := kq684.2 _ _ k445 (orN (tg_ne tm24 ty (by decide)) (orN (tg_ne tm24 tm30 (by decide)) (orN (tg_ne tm24 tm31 (by decide)) (orN (tg_ne tm24 tm32 (by decide)) (orN (tg_ne tm24 tm33 (by decide)) (tg_ne tm24 tm34 (by decide)))))))
                have k686 := kq684.2 _ _ k446 (orN (tg_ne tm29 ty (by decide)) (orN (tg_ne tm29 tm30 (by decide)) (orN (tg_ne tm29 tm31 (by decide)) (orN (tg_ne tm29 tm32 (by decide)) (orN (tg_ne tm29 tm33 (by decide)) (tg_ne tm29 tm34 (by decide)))))))
                have kp687 := kp452.tr kq684 (fun b9 hm q9 => (fun q9 => Or.elim q9 (fun q9 => q9 ▸ s90) (fun q9 => Or.elim q9 (fun q9 => q9 ▸ s92) (fun q9 => Or.elim q9 (fun q9 => q9 ▸ s93) (fun q9 => Or.elim q9 (fun q9 => q9 ▸ s94) (fun q9 => Or.elim q9 (fun q9 => q9 ▸ s95) (fun q9 => q9 ▸ s96)))))) q9)
                refine W.eq (g2 := F0 m 65 ls []) rfl (W.widen (k := 0) (n := 0) (Nat.le_of_ble_eq_true rfl) (Nat.le_of_ble_eq_true rfl) ?_)
                refine lv_iinc (v := nI (n + 1)) (lv' := [(2, .int (nI (n + 1))), (0, .ref y), (1, .int (nI tw)), (3, .int on)]) hx hb dX11_text_65 hl (k := 2) rfl (nI_1 n) (by decide) rfl (fun ls hl => ?_)
                refine lv_aload_n hx hb dX11_text_68 rfl (lv_at hl 1 rfl) ?_
                refine x_get (ref := "NoteHouseModel") F hP k678 rfl (fun _ h => List.mem_cons_of_mem _ (List.mem_append_right _ (h))) 28 (Nat.le_of_ble_eq_true rfl) (List.mem_cons_of_mem _ (List.mem_append_left _ (List.mem_append_left _ (List.mem_of_getElem? (i := 1) rfl)))) rfl rfl dX11_text_69 ?_
                refine lv_if_ne (tgt := 86) hx hb dX11_text_72 (by decide) (fun c_688 => ?_) (fun c_688 => ?_)
                · have hF : ¬ fvx663 = 0 := fun q => c_688 (by rw [q]; rfl)
                  refine lv_iconst (v := 0) hx hb dX11_text_86 (by decide) ?_
                  refine lv_istore_n (lv' := [(3, .int 0), (2, .int (nI (n + 1))), (0, .ref y), (1, .int (nI tw))]) hx hb dX11_text_87 rfl hl (by decide) rfl (fun ls hl => ?_)
                  refine lv_iload_n hx hb dX11_text_88 rfl (lv_at hl 0 rfl) ?_
                  refine lv_if_eq (tgt := 34) hx hb dX11_text_89 (by decide) (fun c_689 => ?_) (fun c_689 => absurd (show (0 : Int32) = (0 : Int32) by decide) c_689)
                  exact ih34 (n + 1) 0 ax661 bx662 fvx663 gx664 gx665 gx666 gx667 gx668 T2 w660 (by omega) (by omega) (by omega) (by omega) (by omega) (by assumption) (fun h => absurd rfl h) (fun _ => ⟨fun q => absurd q hF, fun _ => by rw [← hG, show 13 - n = (12 - n) + 1 by omega]; rcases hz675 hF with h9 | ⟨T1, a9, h9, h8, h7⟩; exact txG_n h9; exact txG_f h9 h8 h7⟩) (fun j hj => by obtain ⟨z1, z2⟩ := hz676 j hj; obtain ⟨z4, z5⟩ := hfr1 j hj; exact ⟨z1.trans z4, z2.trans z5⟩) (fun j hj => by obtain ⟨z1, z2, z3⟩ := hz677 j hj; obtain ⟨z4, z5, z6⟩ := hfr2 j hj; exact ⟨z1.trans z4, z2.trans z5, z3.trans z6⟩) k678 k685 k686 k679 k680 k681 k682 k683 kp687 ls (lv_sub hl [2, 3, 1, 0] rfl) H locs hP hD hS
                · have hF0 : fvx663 = 0 := nI_z0 (by omega) c_688
                  obtain ⟨TN9, a9, hS1, hnx9, hmg3⟩ := hz674 hF0
                  clear hz674 hz675
                  subst hF0
                  refine lv_aload_n hx hb dX11_text_75 rfl (lv_at hl 1 rfl) ?_
                  refine x_callV (n := 0) (As := []) (rest := []) F hP hD hS (m_isEnd l D cy sk sv w660 tg y m2 m3 m4 m5 m6 m8 m9 m10 m11 m12 m13 m14 m17 m18 m19 m20 m21 m22 m23 m24 m29 m30 m31 m32 m33 m34 m35 m36 m37 m39 m40 m41 m42 m43 m44 m45 m46 m47 m48 m49 m51 m52 m53 m54 m56 m57 m58 m59 pc ac sc ln sh gf v0 td (nI bx662) (nI 0) v50 f24 ax661 k678 k685 (fun b => b = y) rfl ty tm24 (by omega) (by omega)) gX11_text_X11_isEnd rfl rfl (by decide +kernel) ⟨(Nat.le_of_ble_eq_true rfl), (Nat.le_of_ble_eq_true rfl)⟩ rfl hl.1 (Nat.le_of_ble_eq_true rfl) k678 rfl dX11_text_76 rfl ⟨(Nat.le_of_ble_eq_true rfl), (Nat.le_of_ble_eq_true rfl)⟩ (fun v691 w692 hp690 H locs hP hD hS => ?_)
                  obtain ⟨ax693, rx694, rfl, rfl, rfl, hz695, hz696, hz697, hz698, kq700, k699⟩ := hp690
                  have k701 := kq700.2 _ _ k685 (tg_ne tm24 ty (by decide))
                  have k702 := kq700.2 _ _ k686 (tg_ne tm29 ty (by decide))
                  have k703 := kq700.2 _ _ k679 (tg_ne tm30 ty (by decide))
                  have k704 := kq700.2 _ _ k680 (tg_ne tm31 ty (by decide))
                  have k705 := kq700.2 _ _ k681 (tg_ne tm32 ty (by decide))
                  have k706 := kq700.2 _ _ k682 (tg_ne tm33 ty (by decide))
                  have k707 := kq700.2 _ _ k683 (tg_ne tm34 ty (by decide))
                  have kp708 := kp687.tr kq700 (fun b9 hm q9 => (fun q9 => q9 ▸ s90) q9)
                  refine W.eq (g2 := F0 m 79 ls [.int (ieR f24 ln ax661)]) rfl (W.widen (k := 0) (n := 0) (Nat.le_of_ble_eq_true rfl) (Nat.le_of_ble_eq_true rfl) ?_)
                  refine lv_if_ne (tgt := 86) hx hb dX11_text_79 (by decide) (fun cE => ?_) (fun cE => ?_)
                  · have hE := ieR_1 cE
                    refine lv_iconst (v := 0) hx hb dX11_text_86 (by decide) ?_
                    refine lv_istore_n (lv' := [(3, .int 0), (2, .int (nI (n + 1))), (0, .ref y), (1, .int (nI tw))]) hx hb dX11_text_87 rfl hl (by decide) rfl (fun ls hl => ?_)
                    refine lv_iload_n hx hb dX11_text_88 rfl (lv_at hl 0 rfl) ?_
                    refine lv_if_eq (tgt := 34) hx hb dX11_text_89 (by decide) (fun c_709 => ?_) (fun c_709 => absurd (show (0 : Int32) = (0 : Int32) by decide) c_709)
                    exact ih34 (n + 1) 0 (nx f24 ln ax661) (nx f24 ln ax661) 0 gx664 gx665 gx666 gx667 gx668 TN9 w692 (by omega) (by omega) (by omega) (by omega) (by omega) (by assumption) (fun h => absurd rfl h) (fun _ => ⟨fun _ => ⟨by rw [← hG, show 13 - n = (12 - n) + 1 by omega]; exact txG_e hS1 (by rw [hnx9]; omega), hmg3⟩, fun h => absurd rfl h⟩) (fun j hj => by obtain ⟨z1, z2⟩ := hz676 j hj; obtain ⟨z4, z5⟩ := hfr1 j hj; exact ⟨z1.trans z4, z2.trans z5⟩) (fun j hj => by obtain ⟨z1, z2, z3⟩ := hz677 j hj; obtain ⟨z4, z5, z6⟩ := hfr2 j hj; exact ⟨z1.trans z4, z2.trans z5, z3.trans z6⟩) k699 k701 k702 k703 k704 k705 k706 k707 kp708 ls (lv_sub hl [2, 3, 1, 0] rfl) H locs hP hD hS
                  · have hne := hz698 cE
                    refine lv_iconst (v := 1) hx hb dX11_text_82 (by decide) ?_
                    refine lv_goto (tgt := 87) hx hb dX11_text_83 (by decide) ?_
                    refine lv_istore_n (lv' := [(3, .int 1), (2, .int (nI (n + 1))), (0, .ref y), (1, .int (nI tw))]) hx hb dX11_text_87 rfl hl (by decide) rfl (fun ls hl => ?_)
                    refine lv_iload_n hx hb dX11_text_88 rfl (lv_at hl 0 rfl) ?_
                    refine lv_if_eq (tgt := 34) hx hb dX11_text_89 (by decide) (fun c_710 => absurd c_710 (show ¬ (1 : Int32) = (0 : Int32) by decide)) (fun c_710 => ?_)
                    refine lv_aload_n hx hb dX11_text_92 rfl (lv_at hl 2 rfl) ?_
                    refine x_get (ref := "NoteHouseModel") F hP k699 rfl (fun _ h => List.mem_cons_of_mem _ (List.mem_append_right _ (h))) 24 (Nat.le_of_ble_eq_true rfl) (List.mem_cons_of_mem _ (List.mem_append_left _ (List.mem_append_left _ (List.mem_of_getElem? (i := 2) rfl)))) rfl rfl dX11_text_93 ?_
                    refine lv_aload_n hx hb dX11_text_96 rfl (lv_at hl 2 rfl) ?_
                    refine x_get (ref := "NoteHouseModel") F hP k699 rfl (fun _ h => List.mem_cons_of_mem _ (List.mem_append_right _ (h))) 26 (Nat.le_of_ble_eq_true rfl) (List.mem_cons_of_mem _ (List.mem_append_left _ (List.mem_append_left _ (List.mem_of_getElem? (i := 0) rfl)))) rfl rfl dX11_text_97 ?_
                    refine x_bald F hP k701 (vp_in_nI (n := (nx f24 ln ax661)) (N := 300) (by omega) (by decide)) dX11_text_100 ?_
                    rw [nI_clamp (n := nx f24 ln ax661) (by omega)]
                    refine lv_bipush (v := 59) hx hb dX11_text_101 (by decide) ?_
                    refine lv_icmp_eq (tgt := 115) hx hb dX11_text_103 (by decide) (fun c59 => ?_) (fun c59 => ?_)
                    · refine lv_aload_n hx hb dX11_text_115 rfl (lv_at hl 2 rfl) ?_
                      refine lv_dup hx hb dX11_text_116 rfl ?_
                      refine x_get (ref := "NoteHouseModel") F hP k699 rfl (fun _ h => List.mem_cons_of_mem _ (List.mem_append_right _ (h))) 26 (Nat.le_of_ble_eq_true rfl) (List.mem_cons_of_mem _ (List.mem_append_left _ (List.mem_append_left _ (List.mem_of_getElem? (i := 0) rfl)))) rfl rfl dX11_text_117 ?_
                      refine lv_iconst (v := 1) hx hb dX11_text_120 (by decide) ?_
                      refine lv_iadd hx hb dX11_text_121 ?_
                      rw [show ((nI (nx f24 ln ax661)) + 1 : Int32) = nI ((nx f24 ln ax661) + 1) from nI_add (nx f24 ln ax661) 1]
                      refine y_put (ref := "NoteHouseModel") F hP hD hS k699 rfl (fun _ h => List.mem_cons_of_mem _ (List.mem_append_right _ (h))) tyX11_ok nmX11 26 (Nat.le_of_ble_eq_true rfl) (List.mem_cons_of_mem _ (List.mem_append_left _ (List.mem_append_left _ (List.mem_of_getElem? (i := 0) rfl)))) rfl rfl rfl rfl (Nat.le_of_ble_eq_true rfl) dX11_text_122 (fun w711 ew712 H locs hP hD hS => ?_)
                      have k713 : wd_at w711 y (.inr (11, [.int v0, .int td, .ref m2, .ref m3, .ref m4, .ref m5, .ref m6, .int (nI pc), .ref m8, .ref m9, .ref m10, .ref m11, .ref m12, .ref m13, .ref m14, .int (nI ac), .int (nI sc), .ref m17, .ref m18, .ref m19, .ref m20, .ref m21, .ref m22, .ref m23, .ref m24, .int (nI ln), .int (nI ((nx f24 ln ax661) + 1)), .int (nI (nx f24 ln ax661)), .int (nI 0), .ref m29, .ref m30, .ref m31, .ref m32, .ref m33, .ref m34, .ref m35, .ref m36, .ref m37, .int (nI sh), .ref m39, .ref m40, .ref m41, .ref m42, .ref m43, .ref m44, .ref m45, .ref m46, .ref m47, .ref m48, .ref m49, .int v50, .ref m51, .ref m52, .ref m53, .ref m54, .int (nI gf), .ref m56, .ref m57, .ref m58, .ref m59])) := wd_at.ps ew712 k699
                      have k714 := wd_at.pt ew712 k701 (tg_ne tm24 ty (by decide))
                      have k715 := wd_at.pt ew712 k702 (tg_ne tm29 ty (by decide))
                      have k716 := wd_at.pt ew712 k703 (tg_ne tm30 ty (by decide))
                      have k717 := wd_at.pt ew712 k704 (tg_ne tm31 ty (by decide))
                      have k718 := wd_at.pt ew712 k705 (tg_ne tm32 ty (by decide))
                      have k719 := wd_at.pt ew712 k706 (tg_ne tm33 ty (by decide))
                      have k720 := wd_at.pt ew712 k707 (tg_ne tm34 ty (by decide))
                      have kp721 := kp708.put ew712 s90
                      refine lv_goto (tgt := 34) hx hb dX11_text_125 (by decide) ?_
                      exact ih34 (n + 1) 1 ((nx f24 ln ax661) + 1) (nx f24 ln ax661) 0 gx664 gx665 gx666 gx667 gx668 TN9 w711 (by omega) (by omega) (by omega) (by omega) (by omega) (by assumption) (fun _ _ => ⟨by rw [← hG, show 13 - n = (12 - n) + 1 by omega, show 13 - (n + 1) = 12 - n by omega, txG_s hS1 (by rw [hnx9]; omega) (by rw [hnx9]; exact c59), hnx9], hmg3⟩) (fun h => absurd h (by simp)) (fun j hj => by obtain ⟨z1, z2⟩ := hz676 j hj; obtain ⟨z4, z5⟩ := hfr1 j hj; exact ⟨z1.trans z4, z2.trans z5⟩) (fun j hj => by obtain ⟨z1, z2, z3⟩ := hz677 j hj; obtain ⟨z4, z5, z6⟩ := hfr2 j hj; exact ⟨z1.trans z4, z2.trans z5, z3.trans z6⟩) k713 k714 k715 k716 k717 k718 k719 k720 kp721 ls (lv_sub hl [2, 3, 1, 0] rfl) H locs hP hD hS
                    · refine lv_aload_n hx hb dX11_text_106 rfl (lv_at hl 2 rfl) ?_
                      refine lv_iconst (v := 0) hx hb dX11_text_107 (by decide) ?_
                      refine lv_aload_n hx hb dX11_text_108 rfl (lv_at hl 2 rfl) ?_
                      refine x_get (ref := "NoteHouseModel") F hP k699 rfl (fun _ h => List.mem_cons_of_mem _ (List.mem_append_right _ (h))) 26 (Nat.le_of_ble_eq_true rfl) (List.mem_cons_of_mem _ (List.mem_append_left _ (List.mem_append_left _ (List.mem_of_getElem? (i := 0) rfl)))) rfl rfl dX11_text_109 ?_
                      refine x_callV (n := 2) (As := [.int 0, .int (nI (nx f24 ln ax661))]) (rest := []) F hP hD hS (m_fails l D cy sk sv w692 tg y m2 m3 m4 m5 m6 m8 m9 m10 m11 m12 m13 m14 m17 m18 m19 m20 m21 m22 m23 m24 m29 m30 m31 m32 m33 m34 m35 m36 m37 m39 m40 m41 m42 m43 m44 m45 m46 m47 m48 m49 m51 m52 m53 m54 m56 m57 m58 m59 pc ac sc ln sh gf v0 td (nI (nx f24 ln ax661)) (nI (nx f24 ln ax661)) v50 0 0 (nx f24 ln ax661) k699 (fun b => b = y) rfl ty (by omega) (by omega) (by omega)) gX11_text_X11_fails rfl rfl (by decide +kernel) ⟨(Nat.le_of_ble_eq_true rfl), (Nat.le_of_ble_eq_true rfl)⟩ rfl hl.1 (Nat.le_of_ble_eq_true rfl) k699 rfl dX11_text_112 rfl ⟨(Nat.le_of_ble_eq_true rfl), (Nat.le_of_ble_eq_true rfl)⟩ (fun v723 w724 hp722 H locs hP hD hS => ?_)
                      obtain ⟨fwx725, rfl, rfl, hz726, hz727, kq729, k728⟩ := hp722
                      have k730 := kq729.2 _ _ k701 (tg_ne tm24 ty (by decide))
                      have k731 := kq729.2 _ _ k702 (tg_ne tm29 ty (by decide))
                      have k732 := kq729.2 _ _ k703 (tg_ne tm30 ty (by decide))
                      have k733 := kq729.2 _ _ k704 (tg_ne tm31 ty (by decide))
                      have k734 := kq729.2 _ _ k705 (tg_ne tm32 ty (by decide))
                      have k735 := kq729.2 _ _ k706 (tg_ne tm33 ty (by decide))
                      have k736 := kq729.2 _ _ k707 (tg_ne tm34 ty (by decide))
                      have kp737 := kp708.tr kq729 (fun b9 hm q9 => (fun q9 => q9 ▸ s90) q9)
                      refine W.eq (g2 := F0 m 115 ls []) rfl (W.widen (k := 0) (n := 0) (Nat.le_of_ble_eq_true rfl) (Nat.le_of_ble_eq_true rfl) ?_)
                      refine lv_aload_n hx hb dX11_text_115 rfl (lv_at hl 2 rfl) ?_
                      refine lv_dup hx hb dX11_text_116 rfl ?_
                      refine x_get (ref := "NoteHouseModel") F hP k728 rfl (fun _ h => List.mem_cons_of_mem _ (List.mem_append_right _ (h))) 26 (Nat.le_of_ble_eq_true rfl) (List.mem_cons_of_mem _ (List.mem_append_left _ (List.mem_append_left _ (List.mem_of_getElem? (i := 0) rfl)))) rfl rfl dX11_text_117 ?_
                      refine lv_iconst (v := 1) hx hb dX11_text_120 (by decide) ?_
                      refine lv_iadd hx hb dX11_text_121 ?_
                      rw [show ((nI (nx f24 ln ax661)) + 1 : Int32) = nI ((nx f24 ln ax661) + 1) from nI_add (nx f24 ln ax661) 1]
                      refine y_put (ref := "NoteHouseModel") F hP hD hS k728 rfl (fun _ h => List.mem_cons_of_mem _ (List.mem_append_right _ (h))) tyX11_ok nmX11 26 (Nat.le_of_ble_eq_true rfl) (List.mem_cons_of_mem _ (List.mem_append_left _ (List.mem_append_left _ (List.mem_of_getElem? (i := 0) rfl)))) rfl rfl rfl rfl (Nat.le_of_ble_eq_true rfl) dX11_text_122 (fun w738 ew739 H locs hP hD hS => ?_)
                      have k740 : wd_at w738 y (.inr (11, [.int v0, .int td, .ref m2, .ref m3, .ref m4, .ref m5, .ref m6, .int (nI pc), .ref m8, .ref m9, .ref m10, .ref m11, .ref m12, .ref m13, .ref m14, .int (nI ac), .int (nI sc), .ref m17, .ref m18, .ref m19, .ref m20, .ref m21, .ref m22, .ref m23, .ref m24, .int (nI ln), .int (nI ((nx f24 ln ax661) + 1)), .int (nI (nx f24 ln ax661)), .int (nI (flF 0 0 (nx f24 ln ax661))), .ref m29, .ref m30, .ref m31, .ref m32, .ref m33, .ref m34, .ref m35, .ref m36, .ref m37, .int (nI sh), .ref m39, .ref m40, .ref m41, .ref m42, .ref m43, .ref m44, .ref m45, .ref m46, .ref m47, .ref m48, .ref m49, .int v50, .ref m51, .ref m52, .ref m53, .ref m54, .int (nI gf), .ref m56, .ref m57, .ref m58, .ref m59])) := wd_at.ps ew739 k728
                      have k741 := wd_at.pt ew739 k730 (tg_ne tm24 ty (by decide))
                      have k742 := wd_at.pt ew739 k731 (tg_ne tm29 ty (by decide))
                      have k743 := wd_at.pt ew739 k732 (tg_ne tm30 ty (by decide))
                      have k744 := wd_at.pt ew739 k733 (tg_ne tm31 ty (by decide))
                      have k745 := wd_at.pt ew739 k734 (tg_ne tm32 ty (by decide))
                      have k746 := wd_at.pt ew739 k735 (tg_ne tm33 ty (by decide))
                      have k747 := wd_at.pt ew739 k736 (tg_ne tm34 ty (by decide))
                      have kp748 := kp737.put ew739 s90
                      refine lv_goto (tgt := 34) hx hb dX11_text_125 (by decide) ?_
                      exact ih34 (n + 1) 1 ((nx f24 ln ax661) + 1) (nx f24 ln ax661) (flF 0 0 (nx f24 ln ax661)) gx664 gx665 gx666 gx667 gx668 TN9 w738 (by omega) (by omega) (by omega) (by omega) (by omega) (by assumption) (fun _ q => absurd q flF_p) (fun _ => ⟨fun q => absurd q flF_p, fun _ => by rw [← hG, show 13 - n = (12 - n) + 1 by omega]; exact txG_f hS1 (by rw [hnx9]; omega) (by rw [hnx9]; exact c59)⟩) (fun j hj => by obtain ⟨z1, z2⟩ := hz676 j hj; obtain ⟨z4, z5⟩ := hfr1 j hj; exact ⟨z1.trans z4, z2.trans z5⟩) (fun j hj => by obtain ⟨z1, z2, z3⟩ := hz677 j hj; obtain ⟨z4, z5, z6⟩ := hfr2 j hj; exact ⟨z1.trans z4, z2.trans z5, z3.trans z6⟩) k740 k741 k742 k743 k744 k745 k746 k747 kp748 ls (lv_sub hl [2, 3, 1, 0] rfl) H locs hP hD hS
              · have hn12 : n < 12 := nI_lt_of (a := n) (n := 12) c_657 (by omega)
                refine lv_iload_n hx hb dX11_text_55 rfl (lv_at hl 2 rfl) ?_
                refine lv_goto (tgt := 60) hx hb dX11_text_56 (by decide) ?_
                refine lv_iadd hx hb dX11_text_60 ?_
                rw [show (144 + (nI n) : Int32) = nI (144 + n) from nI_add 144 n]
                refine lv_iload_n hx hb dX11_text_61 rfl (lv_at hl 2 rfl) ?_
                refine x_callV (n := 2) (As := [.int (nI (144 + n)), .int (nI n)]) (rest := []) F hP hD hS (m_rule l D cy sk sv w443 tg y m2 m3 m4 m5 m6 m8 m9 m10 m11 m12 m13 m14 m17 m18 m19 m20 m21 m22 m23 m24 m29 m30 m31 m32 m33 m34 m35 m36 m37 m39 m40 m41 m42 m43 m44 m45 m46 m47 m48 m49 m51 m52 m53 m54 m56 m57 m58 m59 pc ac sc ln sh gf v0 td (nI b) v50 f24 h30 h31 h32 h33 h34 a (144 + n) n T2 k444 k445 k447 k448 k449 k450 k451 (fun b => b = y ∨ b = m30 ∨ b = m31 ∨ b = m32 ∨ b = m33 ∨ b = m34) (Or.inl rfl) (Or.inr (Or.inl rfl)) (Or.inr (Or.inr (Or.inl rfl))) (Or.inr (Or.inr (Or.inr (Or.inl rfl)))) (Or.inr (Or.inr (Or.inr (Or.inr (Or.inl rfl))))) (Or.inr (Or.inr (Or.inr (Or.inr (Or.inr rfl))))) ty tm24 tm30 tm31 tm32 tm33 tm34 (by omega) (by omega) (by omega) (by omega) (by omega) (by omega) (by assumption) (by assumption)) gX11_text_X11_rule rfl rfl (by decide +kernel) ⟨(Nat.le_of_ble_eq_true rfl), (Nat.le_of_ble_eq_true rfl)⟩ rfl hl.1 (Nat.le_of_ble_eq_true rfl) k444 rfl dX11_text_62 rfl ⟨(Nat.le_of_ble_eq_true rfl), (Nat.le_of_ble_eq_true rfl)⟩ (fun v750 w751 hp749 H locs hP hD hS => ?_)
                obtain ⟨ax752, bx753, fvx754, gx755, gx756, gx757, gx758, gx759, rfl, hz760, hz761, hz762, hz763, hz764, hz765, hz766, hz767, hz768, kq775, k769, k770, k771, k772, k773, k774⟩ := hp749
                have k776 := kq775.2 _ _ k445 (orN (tg_ne tm24 ty (by decide)) (orN (tg_ne tm24 tm30 (by decide)) (orN (tg_ne tm24 tm31 (by decide)) (orN (tg_ne tm24 tm32 (by decide)) (orN (tg_ne tm24 tm33 (by decide)) (tg_ne tm24 tm34 (by decide)))))))
                have k777 := kq775.2 _ _ k446 (orN (tg_ne tm29 ty (by decide)) (orN (tg_ne tm29 tm30 (by decide)) (orN (tg_ne tm29 tm31 (by decide)) (orN (tg_ne tm29 tm32 (by decide)) (orN (tg_ne tm29 tm33 (by decide)) (tg_ne tm29 tm34 (by decide)))))))
                have kp778 := kp452.tr kq775 (fun b9 hm q9 => (fun q9 => Or.elim q9 (fun q9 => q9 ▸ s90) (fun q9 => Or.elim q9 (fun q9 => q9 ▸ s92) (fun q9 => Or.elim q9 (fun q9 => q9 ▸ s93) (fun q9 => Or.elim q9 (fun q9 => q9 ▸ s94) (fun q9 => Or.elim q9 (fun q9 => q9 ▸ s95) (fun q9 => q9 ▸ s96)))))) q9)
                refine W.eq (g2 := F0 m 65 ls []) rfl (W.widen (k := 0) (n := 0) (Nat.le_of_ble_eq_true rfl) (Nat.le_of_ble_eq_true rfl) ?_)
                refine lv_iinc (v := nI (n + 1)) (lv' := [(2, .int (nI (n + 1))), (0, .ref y), (1, .int (nI tw)), (3, .int on)]) hx hb dX11_text_65 hl (k := 2) rfl (nI_1 n) (by decide) rfl (fun ls hl => ?_)
                refine lv_aload_n hx hb dX11_text_68 rfl (lv_at hl 1 rfl) ?_
                refine x_get (ref := "NoteHouseModel") F hP k769 rfl (fun _ h => List.mem_cons_of_mem _ (List.mem_append_right _ (h))) 28 (Nat.le_of_ble_eq_true rfl) (List.mem_cons_of_mem _ (List.mem_append_left _ (List.mem_append_left _ (List.mem_of_getElem? (i := 1) rfl)))) rfl rfl dX11_text_69 ?_
                refine lv_if_ne (tgt := 86) hx hb dX11_text_72 (by decide) (fun c_779 => ?_) (fun c_779 => ?_)
                · have hF : ¬ fvx754 = 0 := fun q => c_779 (by rw [q]; rfl)
                  refine lv_iconst (v := 0) hx hb dX11_text_86 (by decide) ?_
                  refine lv_istore_n (lv' := [(3, .int 0), (2, .int (nI (n + 1))), (0, .ref y), (1, .int (nI tw))]) hx hb dX11_text_87 rfl hl (by decide) rfl (fun ls hl => ?_)
                  refine lv_iload_n hx hb dX11_text_88 rfl (lv_at hl 0 rfl) ?_
                  refine lv_if_eq (tgt := 34) hx hb dX11_text_89 (by decide) (fun c_780 => ?_) (fun c_780 => absurd (show (0 : Int32) = (0 : Int32) by decide) c_780)
                  exact ih34 (n + 1) 0 ax752 bx753 fvx754 gx755 gx756 gx757 gx758 gx759 T2 w751 (by omega) (by omega) (by omega) (by omega) (by omega) (by assumption) (fun h => absurd rfl h) (fun _ => ⟨fun q => absurd q hF, fun _ => by rw [← hG, show 13 - n = (12 - n) + 1 by omega]; rcases hz766 hF with h9 | ⟨T1, a9, h9, h8, h7⟩; exact txG_n h9; exact txG_f h9 h8 h7⟩) (fun j hj => by obtain ⟨z1, z2⟩ := hz767 j hj; obtain ⟨z4, z5⟩ := hfr1 j hj; exact ⟨z1.trans z4, z2.trans z5⟩) (fun j hj => by obtain ⟨z1, z2, z3⟩ := hz768 j hj; obtain ⟨z4, z5, z6⟩ := hfr2 j hj; exact ⟨z1.trans z4, z2.trans z5, z3.trans z6⟩) k769 k776 k777 k770 k771 k772 k773 k774 kp778 ls (lv_sub hl [2, 3, 1, 0] rfl) H locs hP hD hS
                · have hF0 : fvx754 = 0 := nI_z0 (by omega) c_779
                  obtain ⟨TN9, a9, hS1, hnx9, hmg3⟩ := hz765 hF0
                  clear hz765 hz766
                  subst hF0
                  refine lv_aload_n hx hb dX11_text_75 rfl (lv_at hl 1 rfl) ?_
                  refine x_callV (n := 0) (As := []) (rest := []) F hP hD hS (m_isEnd l D cy sk sv w751 tg y m2 m3 m4 m5 m6 m8 m9 m10 m11 m12 m13 m14 m17 m18 m19 m20 m21 m22 m23 m24 m29 m30 m31 m32 m33 m34 m35 m36 m37 m39 m40 m41 m42 m43 m44 m45 m46 m47 m48 m49 m51 m52 m53 m54 m56 m57 m58 m59 pc ac sc ln sh gf v0 td (nI bx753) (nI 0) v50 f24 ax752 k769 k776 (fun b => b = y) rfl ty tm24 (by omega) (by omega)) gX11_text_X11_isEnd rfl rfl (by decide +kernel) ⟨(Nat.le_of_ble_eq_true rfl), (Nat.le_of_ble_eq_true rfl)⟩ rfl hl.1 (Nat.le_of_ble_eq_true rfl) k769 rfl dX11_text_76 rfl ⟨(Nat.le_of_ble_eq_true rfl), (Nat.le_of_ble_eq_true rfl)⟩ (fun v782 w783 hp781 H locs hP hD hS => ?_)
                  obtain ⟨ax784, rx785, rfl, rfl, rfl, hz786, hz787, hz788, hz789, kq791, k790⟩ := hp781
                  have k792 := kq791.2 _ _ k776 (tg_ne tm24 ty (by decide))
                  have k793 := kq791.2 _ _ k777 (tg_ne tm29 ty (by decide))
                  have k794 := kq791.2 _ _ k770 (tg_ne tm30 ty (by decide))
                  have k795 := kq791.2 _ _ k771 (tg_ne tm31 ty (by decide))
                  have k796 := kq791.2 _ _ k772 (tg_ne tm32 ty (by decide))
                  have k797 := kq791.2 _ _ k773 (tg_ne tm33 ty (by decide))
                  have k798 := kq791.2 _ _ k774 (tg_ne tm34 ty (by decide))
                  have kp799 := kp778.tr kq791 (fun b9 hm q9 => (fun q9 => q9 ▸ s90) q9)
                  refine W.eq (g2 := F0 m 79 ls [.int (ieR f24 ln ax752)]) rfl (W.widen (k := 0) (n := 0) (Nat.le_of_ble_eq_true rfl) (Nat.le_of_ble_eq_true rfl) ?_)
                  refine lv_if_ne (tgt := 86) hx hb dX11_text_79 (by decide) (fun cE => ?_) (fun cE => ?_)
                  · have hE := ieR_1 cE
                    refine lv_iconst (v := 0) hx hb dX11_text_86 (by decide) ?_
                    refine lv_istore_n (lv' := [(3, .int 0), (2, .int (nI (n + 1))), (0, .ref y), (1, .int (nI tw))]) hx hb dX11_text_87 rfl hl (by decide) rfl (fun ls hl => ?_)
                    refine lv_iload_n hx hb dX11_text_88 rfl (lv_at hl 0 rfl) ?_
                    refine lv_if_eq (tgt := 34) hx hb dX11_text_89 (by decide) (fun c_800 => ?_) (fun c_800 => absurd (show (0 : Int32) = (0 : Int32) by decide) c_800)
                    exact ih34 (n + 1) 0 (nx f24 ln ax752) (nx f24 ln ax752) 0 gx755 gx756 gx757 gx758 gx759 TN9 w783 (by omega) (by omega) (by omega) (by omega) (by omega) (by assumption) (fun h => absurd rfl h) (fun _ => ⟨fun _ => ⟨by rw [← hG, show 13 - n = (12 - n) + 1 by omega]; exact txG_e hS1 (by rw [hnx9]; omega), hmg3⟩, fun h => absurd rfl h⟩) (fun j hj => by obtain ⟨z1, z2⟩ := hz767 j hj; obtain ⟨z4, z5⟩ := hfr1 j hj; exact ⟨z1.trans z4, z2.trans z5⟩) (fun j hj => by obtain ⟨z1, z2, z3⟩ := hz768 j hj; obtain ⟨z4, z5, z6⟩ := hfr2 j hj; exact ⟨z1.trans z4, z2.trans z5, z3.trans z6⟩) k790 k792 k793 k794 k795 k796 k797 k798 kp799 ls (lv_sub hl [2, 3, 1, 0] rfl) H locs hP hD hS
                  · have hne := hz789 cE
                    refine lv_iconst (v := 1) hx hb dX11_text_82 (by decide) ?_
                    refine lv_goto (tgt := 87) hx hb dX11_text_83 (by decide) ?_
                    refine lv_istore_n (lv' := [(3, .int 1), (2, .int (nI (n + 1))), (0, .ref y), (1, .int (nI tw))]) hx hb dX11_text_87 rfl hl (by decide) rfl (fun ls hl => ?_)
                    refine lv_iload_n hx hb dX11_text_88 rfl (lv_at hl 0 rfl) ?_
                    refine lv_if_eq (tgt := 34) hx hb dX11_text_89 (by decide) (fun c_801 => absurd c_801 (show ¬ (1 : Int32) = (0 : Int32) by decide)) (fun c_801 => ?_)
                    refine lv_aload_n hx hb dX11_text_92 rfl (lv_at hl 2 rfl) ?_
                    refine x_get (ref := "NoteHouseModel") F hP k790 rfl (fun _ h => List.mem_cons_of_mem _ (List.mem_append_right _ (h))) 24 (Nat.le_of_ble_eq_true rfl) (List.mem_cons_of_mem _ (List.mem_append_left _ (List.mem_append_left _ (List.mem_of_getElem? (i := 2) rfl)))) rfl rfl dX11_text_93 ?_
                    refine lv_aload_n hx hb dX11_text_96 rfl (lv_at hl 2 rfl) ?_
                    refine x_get (ref := "NoteHouseModel") F hP k790 rfl (fun _ h => List.mem_cons_of_mem _ (List.mem_append_right _ (h))) 26 (Nat.le_of_ble_eq_true rfl) (List.mem_cons_of_mem _ (List.mem_append_left _ (List.mem_append_left _ (List.mem_of_getElem? (i := 0) rfl)))) rfl rfl dX11_text_97 ?_
                    refine x_bald F hP k792 (vp_in_nI (n := (nx f24 ln ax752)) (N := 300) (by omega) (by decide)) dX11_text_100 ?_
                    rw [nI_clamp (n := nx f24 ln ax752) (by omega)]
                    refine lv_bipush (v := 59) hx hb dX11_text_101 (by decide) ?_
                    refine lv_icmp_eq (tgt := 115) hx hb dX11_text_103 (by decide) (fun c59 => ?_) (fun c59 => ?_)
                    · refine lv_aload_n hx hb dX11_text_115 rfl (lv_at hl 2 rfl) ?_
                      refine lv_dup hx hb dX11_text_116 rfl ?_
                      refine x_get (ref := "NoteHouseModel") F hP k790 rfl (fun _ h => List.mem_cons_of_mem _ (List.mem_append_right _ (h))) 26 (Nat.le_of_ble_eq_true rfl) (List.mem_cons_of_mem _ (List.mem_append_left _ (List.mem_append_left _ (List.mem_of_getElem? (i := 0) rfl)))) rfl rfl dX11_text_117 ?_
                      refine lv_iconst (v := 1) hx hb dX11_text_120 (by decide) ?_
                      refine lv_iadd hx hb dX11_text_121 ?_
                      rw [show ((nI (nx f24 ln ax752)) + 1 : Int32) = nI ((nx f24 ln ax752) + 1) from nI_add (nx f24 ln ax752) 1]
                      refine y_put (ref := "NoteHouseModel") F hP hD hS k790 rfl (fun _ h => List.mem_cons_of_mem _ (List.mem_append_right _ (h))) tyX11_ok nmX11 26 (Nat.le_of_ble_eq_true rfl) (List.mem_cons_of_mem _ (List.mem_append_left _ (List.mem_append_left _ (List.mem_of_getElem? (i := 0) rfl)))) rfl rfl rfl rfl (Nat.le_of_ble_eq_true rfl) dX11_text_122 (fun w802 ew803 H locs hP hD hS => ?_)
                      have k804 : wd_at w802 y (.inr (11, [.int v0, .int td, .ref m2, .ref m3, .ref m4, .ref m5, .ref m6, .int (nI pc), .ref m8, .ref m9, .ref m10, .ref m11, .ref m12, .ref m13, .ref m14, .int (nI ac), .int (nI sc), .ref m17, .ref m18, .ref m19, .ref m20, .ref m21, .ref m22, .ref m23, .ref m24, .int (nI ln), .int (nI ((nx f24 ln ax752) + 1)), .int (nI (nx f24 ln ax752)), .int (nI 0), .ref m29, .ref m30, .ref m31, .ref m32, .ref m33, .ref m34, .ref m35, .ref m36, .ref m37, .int (nI sh), .ref m39, .ref m40, .ref m41, .ref m42, .ref m43, .ref m44, .ref m45, .ref m46, .ref m47, .ref m48, .ref m49, .int v50, .ref m51, .ref m52, .ref m53, .ref m54, .int (nI gf), .ref m56, .ref m57, .ref m58, .ref m59])) := wd_at.ps ew803 k790
                      have k805 := wd_at.pt ew803 k792 (tg_ne tm24 ty (by decide))
                      have k806 := wd_at.pt ew803 k793 (tg_ne tm29 ty (by decide))
                      have k807 := wd_at.pt ew803 k794 (tg_ne tm30 ty (by decide))
                      have k808 := wd_at.pt ew803 k795 (tg_ne tm31 ty (by decide))
                      have k809 := wd_at.pt ew803 k796 (tg_ne tm32 ty (by decide))
                      have k810 := wd_at.pt ew803 k797 (tg_ne tm33 ty (by decide))
                      have k811 := wd_at.pt ew803 k798 (tg_ne tm34 ty (by decide))
                      have kp812 := kp799.put ew803 s90
                      refine lv_goto (tgt := 34) hx hb dX11_text_125 (by decide) ?_
                      exact ih34 (n + 1) 1 ((nx f24 ln ax752) + 1) (nx f24 ln ax752) 0 gx755 gx756 gx757 gx758 gx759 TN9 w802 (by omega) (by omega) (by omega) (by omega) (by omega) (by assumption) (fun _ _ => ⟨by rw [← hG, show 13 - n = (12 - n) + 1 by omega, show 13 - (n + 1) = 12 - n by omega, txG_s hS1 (by rw [hnx9]; omega) (by rw [hnx9]; exact c59), hnx9], hmg3⟩) (fun h => absurd h (by simp)) (fun j hj => by obtain ⟨z1, z2⟩ := hz767 j hj; obtain ⟨z4, z5⟩ := hfr1 j hj; exact ⟨z1.trans z4, z2.trans z5⟩) (fun j hj => by obtain ⟨z1, z2, z3⟩ := hz768 j hj; obtain ⟨z4, z5, z6⟩ := hfr2 j hj; exact ⟨z1.trans z4, z2.trans z5, z3.trans z6⟩) k804 k805 k806 k807 k808 k809 k810 k811 kp812 ls (lv_sub hl [2, 3, 1, 0] rfl) H locs hP hD hS
                    · refine lv_aload_n hx hb dX11_text_106 rfl (lv_at hl 2 rfl) ?_
                      refine lv_iconst (v := 0) hx hb dX11_text_107 (by decide) ?_
                      refine lv_aload_n hx hb dX11_text_108 rfl (lv_at hl 2 rfl) ?_
                      refine x_get (ref := "NoteHouseModel") F hP k790 rfl (fun _ h => List.mem_cons_of_mem _ (List.mem_append_right _ (h))) 26 (Nat.le_of_ble_eq_true rfl) (List.mem_cons_of_mem _ (List.mem_append_left _ (List.mem_append_left _ (List.mem_of_getElem? (i := 0) rfl)))) rfl rfl dX11_text_109 ?_
                      refine x_callV (n := 2) (As := [.int 0, .int (nI (nx f24 ln ax752))]) (rest := []) F hP hD hS (m_fails l D cy sk sv w783 tg y m2 m3 m4 m5 m6 m8 m9 m10 m11 m12 m13 m14 m17 m18 m19 m20 m21 m22 m23 m24 m29 m30 m31 m32 m33 m34 m35 m36 m37 m39 m40 m41 m42 m43 m44 m45 m46 m47 m48 m49 m51 m52 m53 m54 m56 m57 m58 m59 pc ac sc ln sh gf v0 td (nI (nx f24 ln ax752)) (nI (nx f24 ln ax752)) v50 0 0 (nx f24 ln ax752) k790 (fun b => b = y) rfl ty (by omega) (by omega) (by omega)) gX11_text_X11_fails rfl rfl (by decide +kernel) ⟨(Nat.le_of_ble_eq_true rfl), (Nat.le_of_ble_eq_true rfl)⟩ rfl hl.1 (Nat.le_of_ble_eq_true rfl) k790 rfl dX11_text_112 rfl ⟨(Nat.le_of_ble_eq_true rfl), (Nat.le_of_ble_eq_true rfl)⟩ (fun v814 w815 hp813 H locs hP hD hS => ?_)
                      obtain ⟨fwx816, rfl, rfl, hz817, hz818, kq820, k819⟩ := hp813
                      have k821 := kq820.2 _ _ k792 (tg_ne tm24 ty (by decide))
                      have k822 := kq820.2 _ _ k793 (tg_ne tm29 ty (by decide))
                      have k823 := kq820.2 _ _ k794 (tg_ne tm30 ty (by decide))
                      have k824 := kq820.2 _ _ k795 (tg_ne tm31 ty (by decide))
                      have k825 := kq820.2 _ _ k796 (tg_ne tm32 ty (by decide))
                      have k826 := kq820.2 _ _ k797 (tg_ne tm33 ty (by decide))
                      have k827 := kq820.2 _ _ k798 (tg_ne tm34 ty (by decide))
                      have kp828 := kp799.tr kq820 (fun b9 hm q9 => (fun q9 => q9 ▸ s90) q9)
                      refine W.eq (g2 := F0 m 115 ls []) rfl (W.widen (k := 0) (n := 0) (Nat.le_of_ble_eq_true rfl) (Nat.le_of_ble_eq_true rfl) ?_)
                      refine lv_aload_n hx hb dX11_text_115 rfl (lv_at hl 2 rfl) ?_
                      refine lv_dup hx hb dX11_text_116 rfl ?_
                      refine x_get (ref := "NoteHouseModel") F hP k819 rfl (fun _ h => List.mem_cons_of_mem _ (List.mem_append_right _ (h))) 26 (Nat.le_of_ble_eq_true rfl) (List.mem_cons_of_mem _ (List.mem_append_left _ (List.mem_append_left _ (List.mem_of_getElem? (i := 0) rfl)))) rfl rfl dX11_text_117 ?_
                      refine lv_iconst (v := 1) hx hb dX11_text_120 (by decide) ?_
                      refine lv_iadd hx hb dX11_text_121 ?_
                      rw [show ((nI (nx f24 ln ax752)) + 1 : Int32) = nI ((nx f24 ln ax752) + 1) from nI_add (nx f24 ln ax752) 1]
                      refine y_put (ref := "NoteHouseModel") F hP hD hS k819 rfl (fun _ h => List.mem_cons_of_mem _ (List.mem_append_right _ (h))) tyX11_ok nmX11 26 (Nat.le_of_ble_eq_true rfl) (List.mem_cons_of_mem _ (List.mem_append_left _ (List.mem_append_left _ (List.mem_of_getElem? (i := 0) rfl)))) rfl rfl rfl rfl (Nat.le_of_ble_eq_true rfl) dX11_text_122 (fun w829 ew830 H locs hP hD hS => ?_)
                      have k831 : wd_at w829 y (.inr (11, [.int v0, .int td, .ref m2, .ref m3, .ref m4, .ref m5, .ref m6, .int (nI pc), .ref m8, .ref m9, .ref m10, .ref m11, .ref m12, .ref m13, .ref m14, .int (nI ac), .int (nI sc), .ref m17, .ref m18, .ref m19, .ref m20, .ref m21, .ref m22, .ref m23, .ref m24, .int (nI ln), .int (nI ((nx f24 ln ax752) + 1)), .int (nI (nx f24 ln ax752)), .int (nI (flF 0 0 (nx f24 ln ax752))), .ref m29, .ref m30, .ref m31, .ref m32, .ref m33, .ref m34, .ref m35, .ref m36, .ref m37, .int (nI sh), .ref m39, .ref m40, .ref m41, .ref m42, .ref m43, .ref m44, .ref m45, .ref m46, .ref m47, .ref m48, .ref m49, .int v50, .ref m51, .ref m52, .ref m53, .ref m54, .int (nI gf), .ref m56, .ref m57, .ref m58, .ref m59])) := wd_at.ps ew830 k819
                      have k832 := wd_at.pt ew830 k821 (tg_ne tm24 ty (by decide))
                      have k833 := wd_at.pt ew830 k822 (tg_ne tm29 ty (by decide))
                      have k834 := wd_at.pt ew830 k823 (tg_ne tm30 ty (by decide))
                      have k835 := wd_at.pt ew830 k824 (tg_ne tm31 ty (by decide))
                      have k836 := wd_at.pt ew830 k825 (tg_ne tm32 ty (by decide))
                      have k837 := wd_at.pt ew830 k826 (tg_ne tm33 ty (by decide))
                      have k838 := wd_at.pt ew830 k827 (tg_ne tm34 ty (by decide))
                      have kp839 := kp828.put ew830 s90
                      refine lv_goto (tgt := 34) hx hb dX11_text_125 (by decide) ?_
                      exact ih34 (n + 1) 1 ((nx f24 ln ax752) + 1) (nx f24 ln ax752) (flF 0 0 (nx f24 ln ax752)) gx755 gx756 gx757 gx758 gx759 TN9 w829 (by omega) (by omega) (by omega) (by omega) (by omega) (by assumption) (fun _ q => absurd q flF_p) (fun _ => ⟨fun q => absurd q flF_p, fun _ => by rw [← hG, show 13 - n = (12 - n) + 1 by omega]; exact txG_f hS1 (by rw [hnx9]; omega) (by rw [hnx9]; exact c59)⟩) (fun j hj => by obtain ⟨z1, z2⟩ := hz767 j hj; obtain ⟨z4, z5⟩ := hfr1 j hj; exact ⟨z1.trans z4, z2.trans z5⟩) (fun j hj => by obtain ⟨z1, z2, z3⟩ := hz768 j hj; obtain ⟨z4, z5, z6⟩ := hfr2 j hj; exact ⟨z1.trans z4, z2.trans z5, z3.trans z6⟩) k831 k832 k833 k834 k835 k836 k837 k838 kp839 ls (lv_sub hl [2, 3, 1, 0] rfl) H locs hP hD hS
      exact lp34 _ 0 1 (nx f24 ln 0) (nx f24 ln 0) 0 f30 f31 f32 f33 f34 (fun _ _ => 0) w28 (Nat.zero_add 14) (by omega) (by omega) (by omega) (by omega) hc (fun _ _ => ⟨(txT_1 hnx).symm, agR.z⟩) (fun h => absurd h (by decide)) (fun j hj => ⟨rfl, rfl⟩) (fun j hj => ⟨rfl, rfl, rfl⟩) k35 k37 k38 k39 k40 k41 k42 k43 kp44 ls (lv_sub hl [2, 3, 1, 0] rfl) H locs hP hD hS
  · refine lv_iconst (v := (-1)) hx hb dX11_text_7 (by decide) ?_
    exact y_ir K hP hD hS (Nat.le_of_ble_eq_true rfl) (Nat.le_of_ble_eq_true rfl) (ty := .int) rfl rfl dX11_text_8 (⟨ln, v26, v27, v28, f29, f30, f31, f32, f33, f34, (-1), rfl, by simp [txtC, c4], hrl, by assumption, by rw [txN_w c4, txV_w c4]; exact hmt0, kp0, c90, c92, c93, c94, c95, c96, c97⟩)
