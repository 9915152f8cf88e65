set_option maxHeartbeats 4000000 in
set_option maxRecDepth 100000 in
theorem m_law (l : Launch) (D : va_G) (cy : Nat → ClassId) (sk sv : Nat → Nat) (w : Wd) (tg : Nat → Nat) (y m2 m3 m4 m5 m6 m8 m9 m10 m11 m12 m13 m14 m17 m18 m19 m20 m21 m22 m23 m24 m29 m30 m31 m32 m33 m34 m35 m36 m37 m39 m40 m41 m42 m43 m44 m45 m46 m47 m48 m49 m51 m52 m53 m54 m56 m57 m58 m59 pc ac sc ln sh gf : Nat) (v0 td v26 v27 v28 v50 : Int32) (f24 : Nat → Int32) (f35 : Nat → Int32) (f36 : Nat → Int32) (f37 : Nat → Int32) (lb : Nat → Int32) (c90 : wd_at w y (.inr (11, [.int v0, .int td, .ref m2, .ref m3, .ref m4, .ref m5, .ref m6, .int (nI pc), .ref m8, .ref m9, .ref m10, .ref m11, .ref m12, .ref m13, .ref m14, .int (nI ac), .int (nI sc), .ref m17, .ref m18, .ref m19, .ref m20, .ref m21, .ref m22, .ref m23, .ref m24, .int (nI ln), .int v26, .int v27, .int v28, .ref m29, .ref m30, .ref m31, .ref m32, .ref m33, .ref m34, .ref m35, .ref m36, .ref m37, .int (nI sh), .ref m39, .ref m40, .ref m41, .ref m42, .ref m43, .ref m44, .ref m45, .ref m46, .ref m47, .ref m48, .ref m49, .int v50, .ref m51, .ref m52, .ref m53, .ref m54, .int (nI gf), .ref m56, .ref m57, .ref m58, .ref m59]))) (c91 : wd_at w m24 (.inl (cy 0, 300, .inl f24))) (c92 : wd_at w m35 (.inl (cy 2, 5, .inl f35))) (c93 : wd_at w m36 (.inl (cy 4, 5, .inl f36))) (c94 : wd_at w m37 (.inl (cy 2, 5, .inl f37)))  (S : Nat → Prop) (s90 : S y) (s91 : S m35) (s92 : S m36) (s93 : S m37) (ty : tg y = 10000) (tm24 : tg m24 = 10124) (tm35 : tg m35 = 10135) (tm36 : tg m36 = 10136) (tm37 : tg m37 = 10137) (hln : ln ≤ 300) (hlb : lR f35 lb) : Ct l D cy sk sv yX11_law wsX11_law ({ frames := 6, cells := 0, slots := 0, locals := 130 }) [.ref y] w (fun v w1 => ∃ (w26 : Int32) (w27 : Int32) (w28 : Int32) (g35 : Nat → Int32) (g36 : Nat → Int32) (g37 : Nat → Int32) (r1 : Int32), v = some (.int r1) ∧ (r1 = lawA f24 ln) ∧ (lR g35 (lawB lb f24 ln)) ∧ wd_kp S w w1 ∧ wd_at w1 y (.inr (11, [.int v0, .int td, .ref m2, .ref m3, .ref m4, .ref m5, .ref m6, .int (nI pc), .ref m8, .ref m9, .ref m10, .ref m11, .ref m12, .ref m13, .ref m14, .int (nI ac), .int (nI sc), .ref m17, .ref m18, .ref m19, .ref m20, .ref m21, .ref m22, .ref m23, .ref m24, .int 0, .int w26, .int w27, .int w28, .ref m29, .ref m30, .ref m31, .ref m32, .ref m33, .ref m34, .ref m35, .ref m36, .ref m37, .int (nI sh), .ref m39, .ref m40, .ref m41, .ref m42, .ref m43, .ref m44, .ref m45, .ref m46, .ref m47, .ref m48, .ref m49, .int v50, .ref m51, .ref m52, .ref m53, .ref m54, .int (nI gf), .ref m56, .ref m57, .ref m58, .ref m59])) ∧ wd_at w1 m35 (.inl (cy 2, 5, .inl g35)) ∧ wd_at w1 m36 (.inl (cy 4, 5, .inl g36)) ∧ wd_at w1 m37 (.inl (cy 2, 5, .inl g37))) := by
  refine Ct.by (cc := cX11_law) (maxL := 3) (ret := (some .int)) (by decide +kernel) rfl (Nat.le_of_ble_eq_true rfl) ?_
  intro p e s m args below meth c A Q F hnm K ls hl
  have F : wd_Fx p s m args meth c cX11_law 3 wsX11_law RX11 D cy sk sv A := F
  have hl : lv_has ls 3 [(0, .ref y)] := hl
  have hx := F.1.1
  have hb := F.1.2.1
  have hown := F.1.2.2.2.1
  have hts := F.1.2.2.2.2
  intro H locs hP hD hS
  have kp0 : wd_kp S w w := wd_kp.rf
  refine lv_iconst (v := 0) hx hb dX11_law_0 (by decide) ?_
  refine lv_istore_n (lv' := [(1, .int 0), (0, .ref y)]) hx hb dX11_law_1 rfl hl (by decide) rfl (fun ls hl => ?_)
  have lp2 : ∀ (N : Nat) (k : Nat) (ga : Nat → Int32) (gb : Nat → Int32) (w1 : Wd), (k + N = 5) → (∀ j, j < k → ga j = 0) → (∀ j, j < k → gb j = law0 j) → (wd_at w1 y (.inr (11, [.int v0, .int td, .ref m2, .ref m3, .ref m4, .ref m5, .ref m6, .int (nI pc), .ref m8, .ref m9, .ref m10, .ref m11, .ref m12, .ref m13, .ref m14, .int (nI ac), .int (nI sc), .ref m17, .ref m18, .ref m19, .ref m20, .ref m21, .ref m22, .ref m23, .ref m24, .int (nI ln), .int v26, .int v27, .int v28, .ref m29, .ref m30, .ref m31, .ref m32, .ref m33, .ref m34, .ref m35, .ref m36, .ref m37, .int (nI sh), .ref m39, .ref m40, .ref m41, .ref m42, .ref m43, .ref m44, .ref m45, .ref m46, .ref m47, .ref m48, .ref m49, .int v50, .ref m51, .ref m52, .ref m53, .ref m54, .int (nI gf), .ref m56, .ref m57, .ref m58, .ref m59]))) → (wd_at w1 m24 (.inl (cy 0, 300, .inl f24))) → (wd_at w1 m35 (.inl (cy 2, 5, .inl f35))) → (wd_at w1 m36 (.inl (cy 4, 5, .inl ga))) → (wd_at w1 m37 (.inl (cy 2, 5, .inl gb))) → (wd_kp S w w1) → ∀ (ls : Array Slot), lv_has ls 3 [(0, .ref y), (1, .int (nI k))] → Wv p l e ({ frames := 6, cells := 0, slots := 0, locals := 130 }) s m args below meth c D A (0) (0) Q w1 (F0 m 2 ls []) := by
    intro N
    induction N with
    | zero =>
      intro k ga gb w1 hN2 hga hgb k2 k3 k4 k5 k6 kp7 ls hl H locs hP hD hS
      refine lv_iload_n hx hb dX11_law_2 rfl (lv_at hl 1 rfl) ?_
      refine lv_iconst (v := 5) hx hb dX11_law_3 (by decide) ?_
      refine lv_icmp_ge (tgt := 30) hx hb dX11_law_4 (by decide) (fun c_8 => ?_) (fun c_8 => absurd (nI_le (a := 5) (b := k) (by omega) (by omega)) c_8)
      have htR0 : tR ga 0 := fun j hj => by rw [hga j (by omega), Nat.zero_testBit]; rfl
      have hlR0 : lR gb law0 := fun j hj => hgb j (by omega)
      refine lv_aload_n hx hb dX11_law_30 rfl (lv_at hl 0 rfl) ?_
      refine lv_iconst (v := 0) hx hb dX11_law_31 (by decide) ?_
      refine y_put (ref := "NoteHouseModel") F hP hD hS k2 rfl (fun _ h => List.mem_cons_of_mem _ (List.mem_append_right _ (h))) tyX11_ok nmX11 26 (Nat.le_of_ble_eq_true rfl) (List.mem_cons_of_mem _ (List.mem_append_left _ (List.mem_append_left _ (List.mem_of_getElem? (i := 2) rfl)))) rfl rfl rfl rfl (Nat.le_of_ble_eq_true rfl) dX11_law_32 (fun w9 ew10 H locs hP hD hS => ?_)
      have k11 : wd_at w9 y (.inr (11, [.int v0, .int td, .ref m2, .ref m3, .ref m4, .ref m5, .ref m6, .int (nI pc), .ref m8, .ref m9, .ref m10, .ref m11, .ref m12, .ref m13, .ref m14, .int (nI ac), .int (nI sc), .ref m17, .ref m18, .ref m19, .ref m20, .ref m21, .ref m22, .ref m23, .ref m24, .int (nI ln), .int 0, .int v27, .int v28, .ref m29, .ref m30, .ref m31, .ref m32, .ref m33, .ref m34, .ref m35, .ref m36, .ref m37, .int (nI sh), .ref m39, .ref m40, .ref m41, .ref m42, .ref m43, .ref m44, .ref m45, .ref m46, .ref m47, .ref m48, .ref m49, .int v50, .ref m51, .ref m52, .ref m53, .ref m54, .int (nI gf), .ref m56, .ref m57, .ref m58, .ref m59])) := wd_at.ps ew10 k2
      have k12 := wd_at.pt ew10 k3 (tg_ne tm24 ty (by decide))
      have k13 := wd_at.pt ew10 k4 (tg_ne tm35 ty (by decide))
      have k14 := wd_at.pt ew10 k5 (tg_ne tm36 ty (by decide))
      have k15 := wd_at.pt ew10 k6 (tg_ne tm37 ty (by decide))
      have kp16 := kp7.put ew10 s90
      refine lv_aload_n hx hb dX11_law_35 rfl (lv_at hl 0 rfl) ?_
      refine lv_iconst (v := 0) hx hb dX11_law_36 (by decide) ?_
      refine y_put (ref := "NoteHouseModel") F hP hD hS k11 rfl (fun _ h => List.mem_cons_of_mem _ (List.mem_append_right _ (h))) tyX11_ok nmX11 28 (Nat.le_of_ble_eq_true rfl) (List.mem_cons_of_mem _ (List.mem_append_left _ (List.mem_append_left _ (List.mem_of_getElem? (i := 3) rfl)))) rfl rfl rfl rfl (Nat.le_of_ble_eq_true rfl) dX11_law_37 (fun w17 ew18 H locs hP hD hS => ?_)
      have k19 : wd_at w17 y (.inr (11, [.int v0, .int td, .ref m2, .ref m3, .ref m4, .ref m5, .ref m6, .int (nI pc), .ref m8, .ref m9, .ref m10, .ref m11, .ref m12, .ref m13, .ref m14, .int (nI ac), .int (nI sc), .ref m17, .ref m18, .ref m19, .ref m20, .ref m21, .ref m22, .ref m23, .ref m24, .int (nI ln), .int 0, .int v27, .int 0, .ref m29, .ref m30, .ref m31, .ref m32, .ref m33, .ref m34, .ref m35, .ref m36, .ref m37, .int (nI sh), .ref m39, .ref m40, .ref m41, .ref m42, .ref m43, .ref m44, .ref m45, .ref m46, .ref m47, .ref m48, .ref m49, .int v50, .ref m51, .ref m52, .ref m53, .ref m54, .int (nI gf), .ref m56, .ref m57, .ref m58, .ref m59])) := wd_at.ps ew18 k11
      have k20 := wd_at.pt ew18 k12 (tg_ne tm24 ty (by decide))
      have k21 := wd_at.pt ew18 k13 (tg_ne tm35 ty (by decide))
      have k22 := wd_at.pt ew18 k14 (tg_ne tm36 ty (by decide))
      have k23 := wd_at.pt ew18 k15 (tg_ne tm37 ty (by decide))
      have kp24 := kp16.put ew18 s90
      refine lv_aload_n hx hb dX11_law_40 rfl (lv_at hl 0 rfl) ?_
      refine x_get (ref := "NoteHouseModel") F hP k19 rfl (fun _ h => List.mem_cons_of_mem _ (List.mem_append_right _ (h))) 25 (Nat.le_of_ble_eq_true rfl) (List.mem_cons_of_mem _ (List.mem_append_left _ (List.mem_append_left _ (List.mem_of_getElem? (i := 4) rfl)))) rfl rfl dX11_law_41 ?_
      refine lv_sipush (v := 200) hx hb dX11_law_44 (by decide) ?_
      refine lv_icmp_le (tgt := 58) hx hb dX11_law_47 (by decide) (fun c_25 => ?_) (fun c_25 => ?_)
      · have h200 : ¬ 200 < ln := Nat.not_lt.mpr ((nI_leI (a := ln) (b := 200) (by omega) (by omega)).mp c_25)
        refine lv_aload_n hx hb dX11_law_58 rfl (lv_at hl 0 rfl) ?_
        refine x_callV (n := 0) (As := []) (rest := []) F hP hD hS (m_isEnd l D cy sk sv w17 tg y m2 m3 m4 m5 m6 m8 m9 m10 m11 m12 m13 m14 m17 m18 m19 m20 m21 m22 m23 m24 m29 m30 m31 m32 m33 m34 m35 m36 m37 m39 m40 m41 m42 m43 m44 m45 m46 m47 m48 m49 m51 m52 m53 m54 m56 m57 m58 m59 pc ac sc ln sh gf v0 td v27 0 v50 f24 0 k19 k20 (fun b => b = y) rfl ty tm24 (by omega) (by omega)) gX11_law_X11_isEnd rfl rfl (by decide +kernel) ⟨(Nat.le_of_ble_eq_true rfl), (Nat.le_of_ble_eq_true rfl)⟩ rfl hl.1 (Nat.le_of_ble_eq_true rfl) k19 rfl dX11_law_59 rfl ⟨(Nat.le_of_ble_eq_true rfl), (Nat.le_of_ble_eq_true rfl)⟩ (fun v27 w28 hp26 H locs hP hD hS => ?_)
        obtain ⟨ax29, rx30, rfl, rfl, rfl, hz31, hz32, hz33, hz34, kq36, k35⟩ := hp26
        have k37 := kq36.2 _ _ k20 (tg_ne tm24 ty (by decide))
        have k38 := kq36.2 _ _ k21 (tg_ne tm35 ty (by decide))
        have k39 := kq36.2 _ _ k22 (tg_ne tm36 ty (by decide))
        have k40 := kq36.2 _ _ k23 (tg_ne tm37 ty (by decide))
        have kp41 := kp24.tr kq36 (fun b9 hm q9 => (fun q9 => q9 ▸ s90) q9)
        refine W.eq (g2 := F0 m 62 ls [.int (ieR f24 ln 0)]) rfl (W.widen (k := 0) (n := 0) (Nat.le_of_ble_eq_true rfl) (Nat.le_of_ble_eq_true rfl) ?_)
        refine lv_if_ne (tgt := 69) hx hb dX11_law_62 (by decide) (fun c_42 => ?_) (fun c_42 => ?_)
        · have hnx : ¬ nx f24 ln 0 < ln := by rw [ieR_1 c_42]; exact Nat.lt_irrefl _
          refine lv_iconst (v := 0) hx hb dX11_law_69 (by decide) ?_
          refine lv_istore_n (lv' := [(1, .int 0), (0, .ref y)]) hx hb dX11_law_70 rfl hl (by decide) rfl (fun ls hl => ?_)
          have lp71 : ∀ (N : Nat) (on : Nat) (a : Nat) (b : Nat) (fq : Nat) (h36 : Nat → Int32) (h37 : Nat → Int32) (mt2 : Nat) (bb2 : Nat → Int32) (w43 : Wd), (2 * ln + on + 1 ≤ 2 * a + N) → (a ≤ ln) → (fq < 2000) → (on ≤ 1) → (0 < on → fq = 0 → (lawG f24 ln (6 - bc5 mt2) a mt2 bb2 = lawT f24 ln ∧ tR h36 mt2 ∧ lR h37 bb2 ∧ mt2 < 32)) → ((on = 0 ∨ 0 < fq) → (lawT f24 ln).1 = fq ∧ (fq = 0 → lR h37 (lawT f24 ln).2)) → (wd_at w43 y (.inr (11, [.int v0, .int td, .ref m2, .ref m3, .ref m4, .ref m5, .ref m6, .int (nI pc), .ref m8, .ref m9, .ref m10, .ref m11, .ref m12, .ref m13, .ref m14, .int (nI ac), .int (nI sc), .ref m17, .ref m18, .ref m19, .ref m20, .ref m21, .ref m22, .ref m23, .ref m24, .int (nI ln), .int (nI a), .int (nI b), .int (nI fq), .ref m29, .ref m30, .ref m31, .ref m32, .ref m33, .ref m34, .ref m35, .ref m36, .ref m37, .int (nI sh), .ref m39, .ref m40, .ref m41, .ref m42, .ref m43, .ref m44, .ref m45, .ref m46, .ref m47, .ref m48, .ref m49, .int v50, .ref m51, .ref m52, .ref m53, .ref m54, .int (nI gf), .ref m56, .ref m57, .ref m58, .ref m59]))) → (wd_at w43 m24 (.inl (cy 0, 300, .inl f24))) → (wd_at w43 m35 (.inl (cy 2, 5, .inl f35))) → (wd_at w43 m36 (.inl (cy 4, 5, .inl h36))) → (wd_at w43 m37 (.inl (cy 2, 5, .inl h37))) → (wd_kp S w w43) → ∀ (ls : Array Slot), lv_has ls 3 [(0, .ref y), (1, .int (nI on))] → Wv p l e ({ frames := 6, cells := 0, slots := 0, locals := 130 }) s m args below meth c D A (0) (0) Q w43 (F0 m 71 ls []) := by
            intro N
            induction N with
            | zero =>
              intro on a b fq h36 h37 mt2 bb2 w43 hN71 ha2 hfq hon hact hdone k44 k45 k46 k47 k48 kp49 ls hl H locs hP hD hS
              exact absurd hN71 (by omega)
            | succ N ih71 =>
              intro on a b fq h36 h37 mt2 bb2 w43 hN71 ha2 hfq hon hact hdone k44 k45 k46 k47 k48 kp49 ls hl H locs hP hD hS
              refine lv_iload_n hx hb dX11_law_71 rfl (lv_at hl 1 rfl) ?_
              refine lv_if_eq (tgt := 146) hx hb dX11_law_72 (by decide) (fun c72 => ?_) (fun c72 => ?_)
              · have hfin := hdone (Or.inl (nI_z0 (by omega) c72))
                refine lv_aload_n hx hb dX11_law_146 rfl (lv_at hl 0 rfl) ?_
                refine lv_iconst (v := 0) hx hb dX11_law_147 (by decide) ?_
                refine y_put (ref := "NoteHouseModel") F hP hD hS k44 rfl (fun _ h => List.mem_cons_of_mem _ (List.mem_append_right _ (h))) tyX11_ok nmX11 25 (Nat.le_of_ble_eq_true rfl) (List.mem_cons_of_mem _ (List.mem_append_left _ (List.mem_append_left _ (List.mem_of_getElem? (i := 4) rfl)))) rfl rfl rfl rfl (Nat.le_of_ble_eq_true rfl) dX11_law_148 (fun w50 ew51 H locs hP hD hS => ?_)
                have k52 : wd_at w50 y (.inr (11, [.int v0, .int td, .ref m2, .ref m3, .ref m4, .ref m5, .ref m6, .int (nI pc), .ref m8, .ref m9, .ref m10, .ref m11, .ref m12, .ref m13, .ref m14, .int (nI ac), .int (nI sc), .ref m17, .ref m18, .ref m19, .ref m20, .ref m21, .ref m22, .ref m23, .ref m24, .int 0, .int (nI a), .int (nI b), .int (nI fq), .ref m29, .ref m30, .ref m31, .ref m32, .ref m33, .ref m34, .ref m35, .ref m36, .ref m37, .int (nI sh), .ref m39, .ref m40, .ref m41, .ref m42, .ref m43, .ref m44, .ref m45, .ref m46, .ref m47, .ref m48, .ref m49, .int v50, .ref m51, .ref m52, .ref m53, .ref m54, .int (nI gf), .ref m56, .ref m57, .ref m58, .ref m59])) := wd_at.ps ew51 k44
                have k53 := wd_at.pt ew51 k45 (tg_ne tm24 ty (by decide))
                have k54 := wd_at.pt ew51 k46 (tg_ne tm35 ty (by decide))
                have k55 := wd_at.pt ew51 k47 (tg_ne tm36 ty (by decide))
                have k56 := wd_at.pt ew51 k48 (tg_ne tm37 ty (by decide))
                have kp57 := kp49.put ew51 s90
                refine lv_aload_n hx hb dX11_law_151 rfl (lv_at hl 0 rfl) ?_
                refine x_get (ref := "NoteHouseModel") F hP k52 rfl (fun _ h => List.mem_cons_of_mem _ (List.mem_append_right _ (h))) 28 (Nat.le_of_ble_eq_true rfl) (List.mem_cons_of_mem _ (List.mem_append_left _ (List.mem_append_left _ (List.mem_of_getElem? (i := 3) rfl)))) rfl rfl dX11_law_152 ?_
                refine lv_if_ne (tgt := 183) hx hb dX11_law_155 (by decide) (fun c155 => ?_) (fun c155 => ?_)
                · refine lv_aload_n hx hb dX11_law_183 rfl (lv_at hl 0 rfl) ?_
                  refine x_get (ref := "NoteHouseModel") F hP k52 rfl (fun _ h => List.mem_cons_of_mem _ (List.mem_append_right _ (h))) 28 (Nat.le_of_ble_eq_true rfl) (List.mem_cons_of_mem _ (List.mem_append_left _ (List.mem_append_left _ (List.mem_of_getElem? (i := 3) rfl)))) rfl rfl dX11_law_184 ?_
                  exact y_ir K hP hD hS (Nat.le_of_ble_eq_true rfl) (Nat.le_of_ble_eq_true rfl) (ty := .int) rfl rfl dX11_law_187 (⟨nI a, nI b, nI fq, f35, h36, h37, nI fq, rfl, by unfold lawA; rw [hfin.1], by unfold lawB; rw [if_neg (by rw [hfin.1]; exact fun q => c155 (by rw [q]; rfl))]; exact hlb, kp57, k52, k54, k55, k56⟩)
                · refine lv_iconst (v := 0) hx hb dX11_law_158 (by decide) ?_
                  refine lv_istore_n (lv' := [(2, .int 0), (0, .ref y), (1, .int (nI on))]) hx hb dX11_law_159 rfl hl (by decide) rfl (fun ls hl => ?_)
                  have lp160 : ∀ (N : Nat) (k2 : Nat) (gd : Nat → Int32) (w58 : Wd), (k2 + N = 5) → (∀ j, j < k2 → gd j = h37 j) → (wd_at w58 y (.inr (11, [.int v0, .int td, .ref m2, .ref m3, .ref m4, .ref m5, .ref m6, .int (nI pc), .ref m8, .ref m9, .ref m10, .ref m11, .ref m12, .ref m13, .ref m14, .int (nI ac), .int (nI sc), .ref m17, .ref m18, .ref m19, .ref m20, .ref m21, .ref m22, .ref m23, .ref m24, .int 0, .int (nI a), .int (nI b), .int (nI fq), .ref m29, .ref m30, .ref m31, .ref m32, .ref m33, .ref m34, .ref m35, .ref m36, .ref m37, .int (nI sh), .ref m39, .ref m40, .ref m41, .ref m42, .ref m43, .ref m44, .ref m45, .ref m46, .ref m47, .ref m48, .ref m49, .int v50, .ref m51, .ref m52, .ref m53, .ref m54, .int (nI gf), .ref m56, .ref m57, .ref m58, .ref m59]))) → (wd_at w58 m24 (.inl (cy 0, 300, .inl f24))) → (wd_at w58 m35 (.inl (cy 2, 5, .inl gd))) → (wd_at w58 m36 (.inl (cy 4, 5, .inl h36))) → (wd_at w58 m37 (.inl (cy 2, 5, .inl h37))) → (wd_kp S w w58) → ∀ (ls : Array Slot), lv_has ls 3 [(0, .ref y), (2, .int (nI k2))] → Wv p l e ({ frames := 6, cells := 0, slots := 0, locals := 130 }) s m args below meth c D A (0) (0) Q w58 (F0 m 160 ls []) := by
                    intro N
                    induction N with
                    | zero =>
                      intro k2 gd w58 hN160 hgd k59 k60 k61 k62 k63 kp64 ls hl H locs hP hD hS
                      refine lv_iload_n hx hb dX11_law_160 rfl (lv_at hl 1 rfl) ?_
                      refine lv_iconst (v := 5) hx hb dX11_law_161 (by decide) ?_
                      refine lv_icmp_ge (tgt := 183) hx hb dX11_law_162 (by decide) (fun c_65 => ?_) (fun c_65 => absurd (nI_le (a := 5) (b := k2) (by omega) (by omega)) c_65)
                      refine lv_aload_n hx hb dX11_law_183 rfl (lv_at hl 0 rfl) ?_
                      refine x_get (ref := "NoteHouseModel") F hP k59 rfl (fun _ h => List.mem_cons_of_mem _ (List.mem_append_right _ (h))) 28 (Nat.le_of_ble_eq_true rfl) (List.mem_cons_of_mem _ (List.mem_append_left _ (List.mem_append_left _ (List.mem_of_getElem? (i := 3) rfl)))) rfl rfl dX11_law_184 ?_
                      exact y_ir K hP hD hS (Nat.le_of_ble_eq_true rfl) (Nat.le_of_ble_eq_true rfl) (ty := .int) rfl rfl dX11_law_187 (⟨nI a, nI b, nI fq, gd, h36, h37, nI fq, rfl, by unfold lawA; rw [hfin.1], by unfold lawB; rw [if_pos (hfin.1.trans (nI_z0 (by omega) c155))]; exact fun j hj => (hgd j (by omega)).trans (hfin.2 (nI_z0 (by omega) c155) j hj), kp64, k59, k61, k62, k63⟩)
                    | succ N ih160 =>
                      intro k2 gd w58 hN160 hgd k59 k60 k61 k62 k63 kp64 ls hl H locs hP hD hS
                      refine lv_iload_n hx hb dX11_law_160 rfl (lv_at hl 1 rfl) ?_
                      refine lv_iconst (v := 5) hx hb dX11_law_161 (by decide) ?_
                      refine lv_icmp_ge (tgt := 183) hx hb dX11_law_162 (by decide) (fun c_66 => absurd c_66 (nI_ge (a := k2) (b := 5) (by omega) (by omega))) (fun c_66 => ?_)
                      refine lv_aload_n hx hb dX11_law_165 rfl (lv_at hl 0 rfl) ?_
                      refine x_get (ref := "NoteHouseModel") F hP k59 rfl (fun _ h => List.mem_cons_of_mem _ (List.mem_append_right _ (h))) 35 (Nat.le_of_ble_eq_true rfl) (List.mem_cons_of_mem _ (List.mem_append_left _ (List.mem_append_left _ (List.mem_of_getElem? (i := 6) rfl)))) rfl rfl dX11_law_166 ?_
                      refine lv_iload_n hx hb dX11_law_169 rfl (lv_at hl 1 rfl) ?_
                      refine lv_aload_n hx hb dX11_law_170 rfl (lv_at hl 0 rfl) ?_
                      refine x_get (ref := "NoteHouseModel") F hP k59 rfl (fun _ h => List.mem_cons_of_mem _ (List.mem_append_right _ (h))) 37 (Nat.le_of_ble_eq_true rfl) (List.mem_cons_of_mem _ (List.mem_append_left _ (List.mem_append_left _ (List.mem_of_getElem? (i := 1) rfl)))) rfl rfl dX11_law_171 ?_
                      refine lv_iload_n hx hb dX11_law_174 rfl (lv_at hl 1 rfl) ?_
                      refine x_iald F hP k63 (vp_in_nI (n := k2) (N := 5) (by omega) (by decide)) dX11_law_175 ?_
                      rw [nI_clamp (n := k2) (by omega)]
                      refine y_iast F hP hD hS k61 (vp_in_nI (n := k2) (N := 5) (by omega) (by decide)) dX11_law_176 (fun w67 ew68 H locs hP hD hS => ?_)
                      have k69 := wd_at.pt ew68 k59 (tg_ne ty tm35 (by decide))
                      have k70 := wd_at.pt ew68 k60 (tg_ne tm24 tm35 (by decide))
                      have k71 : wd_at w67 m35 (.inl (cy 2, 5, .inl (upd gd (nI k2).toNatClampNeg (h37 k2)))) := wd_at.ps ew68 k61
                      have k72 := wd_at.pt ew68 k62 (tg_ne tm36 tm35 (by decide))
                      have k73 := wd_at.pt ew68 k63 (tg_ne tm37 tm35 (by decide))
                      have kp74 := kp64.put ew68 s91
                      refine lv_iinc (v := nI (k2 + 1)) (lv' := [(2, .int (nI (k2 + 1))), (0, .ref y)]) hx hb dX11_law_177 hl (k := 1) rfl (nI_1 k2) (by decide) rfl (fun ls hl => ?_)
                      refine lv_goto (tgt := 160) hx hb dX11_law_180 (by decide) ?_
                      exact ih160 (k2 + 1) (upd gd (nI k2).toNatClampNeg (h37 k2)) w67 (by omega) (up5 (by omega) hgd) k69 k70 k71 k72 k73 kp74 ls (lv_sub hl [1, 0] rfl) H locs hP hD hS
                  exact lp160 _ 0 f35 w50 (Nat.zero_add 5) (fun j hj => absurd hj (Nat.not_lt_zero j)) k52 k53 k54 k55 k56 kp57 ls (lv_sub hl [1, 0] rfl) H locs hP hD hS
              · have hon1 : 0 < on := nI_nz (by omega) c72
                refine lv_aload_n hx hb dX11_law_75 rfl (lv_at hl 0 rfl) ?_
                refine x_get (ref := "NoteHouseModel") F hP k44 rfl (fun _ h => List.mem_cons_of_mem _ (List.mem_append_right _ (h))) 28 (Nat.le_of_ble_eq_true rfl) (List.mem_cons_of_mem _ (List.mem_append_left _ (List.mem_append_left _ (List.mem_of_getElem? (i := 3) rfl)))) rfl rfl dX11_law_76 ?_
                refine lv_if_ne (tgt := 146) hx hb dX11_law_79 (by decide) (fun c79 => ?_) (fun c79 => ?_)
                · have hfin := hdone (Or.inr (nI_nz (by omega) c79))
                  refine lv_aload_n hx hb dX11_law_146 rfl (lv_at hl 0 rfl) ?_
                  refine lv_iconst (v := 0) hx hb dX11_law_147 (by decide) ?_
                  refine y_put (ref := "NoteHouseModel") F hP hD hS k44 rfl (fun _ h => List.mem_cons_of_mem _ (List.mem_append_right _ (h))) tyX11_ok nmX11 25 (Nat.le_of_ble_eq_true rfl) (List.mem_cons_of_mem _ (List.mem_append_left _ (List.mem_append_left _ (List.mem_of_getElem? (i := 4) rfl)))) rfl rfl rfl rfl (Nat.le_of_ble_eq_true rfl) dX11_law_148 (fun w75 ew76 H locs hP hD hS => ?_)
                  have k77 : wd_at w75 y (.inr (11, [.int v0, .int td, .ref m2, .ref m3, .ref m4, .ref m5, .ref m6, .int (nI pc), .ref m8, .ref m9, .ref m10, .ref m11, .ref m12, .ref m13, .ref m14, .int (nI ac), .int (nI sc), .ref m17, .ref m18, .ref m19, .ref m20, .ref m21, .ref m22, .ref m23, .ref m24, .int 0, .int (nI a), .int (nI b), .int (nI fq), .ref m29, .ref m30, .ref m31, .ref m32, .ref m33, .ref m34, .ref m35, .ref m36, .ref m37, .int (nI sh), .ref m39, .ref m40, .ref m41, .ref m42, .ref m43, .ref m44, .ref m45, .ref m46, .ref m47, .ref m48, .ref m49, .int v50, .ref m51, .ref m52, .ref m53, .ref m54, .int (nI gf), .ref m56, .ref m57, .ref m58, .ref m59])) := wd_at.ps ew76 k44
                  have k78 := wd_at.pt ew76 k45 (tg_ne tm24 ty (by decide))
                  have k79 := wd_at.pt ew76 k46 (tg_ne tm35 ty (by decide))
                  have k80 := wd_at.pt ew76 k47 (tg_ne tm36 ty (by decide))
                  have k81 := wd_at.pt ew76 k48 (tg_ne tm37 ty (by decide))
                  have kp82 := kp49.put ew76 s90
                  refine lv_aload_n hx hb dX11_law_151 rfl (lv_at hl 0 rfl) ?_
                  refine x_get (ref := "NoteHouseModel") F hP k77 rfl (fun _ h => List.mem_cons_of_mem _ (List.mem_append_right _ (h))) 28 (Nat.le_of_ble_eq_true rfl) (List.mem_cons_of_mem _ (List.mem_append_left _ (List.mem_append_left _ (List.mem_of_getElem? (i := 3) rfl)))) rfl rfl dX11_law_152 ?_
                  refine lv_if_ne (tgt := 183) hx hb dX11_law_155 (by decide) (fun c155 => ?_) (fun c155 => ?_)
                  · refine lv_aload_n hx hb dX11_law_183 rfl (lv_at hl 0 rfl) ?_
                    refine x_get (ref := "NoteHouseModel") F hP k77 rfl (fun _ h => List.mem_cons_of_mem _ (List.mem_append_right _ (h))) 28 (Nat.le_of_ble_eq_true rfl) (List.mem_cons_of_mem _ (List.mem_append_left _ (List.mem_append_left _ (List.mem_of_getElem? (i := 3) rfl)))) rfl rfl dX11_law_184 ?_
                    exact y_ir K hP hD hS (Nat.le_of_ble_eq_true rfl) (Nat.le_of_ble_eq_true rfl) (ty := .int) rfl rfl dX11_law_187 (⟨nI a, nI b, nI fq, f35, h36, h37, nI fq, rfl, by unfold lawA; rw [hfin.1], by unfold lawB; rw [if_neg (by rw [hfin.1]; exact fun q => c155 (by rw [q]; rfl))]; exact hlb, kp82, k77, k79, k80, k81⟩)
                  · refine lv_iconst (v := 0) hx hb dX11_law_158 (by decide) ?_
                    refine lv_istore_n (lv' := [(2, .int 0), (0, .ref y), (1, .int (nI on))]) hx hb dX11_law_159 rfl hl (by decide) rfl (fun ls hl => ?_)
                    have lp160 : ∀ (N : Nat) (k2 : Nat) (gd : Nat → Int32) (w83 : Wd), (k2 + N = 5) → (∀ j, j < k2 → gd j = h37 j) → (wd_at w83 y (.inr (11, [.int v0, .int td, .ref m2, .ref m3, .ref m4, .ref m5, .ref m6, .int (nI pc), .ref m8, .ref m9, .ref m10, .ref m11, .ref m12, .ref m13, .ref m14, .int (nI ac), .int (nI sc), .ref m17, .ref m18, .ref m19, .ref m20, .ref m21, .ref m22, .ref m23, .ref m24, .int 0, .int (nI a), .int (nI b), .int (nI fq), .ref m29, .ref m30, .ref m31, .ref m32, .ref m33, .ref m34, .ref m35, .ref m36, .ref m37, .int (nI sh), .ref m39, .ref m40, .ref m41, .ref m42, .ref m43, .ref m44, .ref m45, .ref m46, .ref m47, .ref m48, .ref m49, .int v50, .ref m51, .ref m52, .ref m53, .ref m54, .int (nI gf), .ref m56, .ref m57, .ref m58, .ref m59]))) → (wd_at w83 m24 (.inl (cy 0, 300, .inl f24))) → (wd_at w83 m35 (.inl (cy 2, 5, .inl gd))) → (wd_at w83 m36 (.inl (cy 4, 5, .inl h36))) → (wd_at w83 m37 (.inl (cy 2, 5, .inl h37))) → (wd_kp S w w83) → ∀ (ls : Array Slot), lv_has ls 3 [(0, .ref y), (2, .int (nI k2))] → Wv p l e ({ frames := 6, cells := 0, slots := 0, locals := 130 }) s m args below meth c D A (0) (0) Q w83 (F0 m 160 ls []) := by
                      intro N
                      induction N with
                      | zero =>
                        intro k2 gd w83 hN160 hgd k84 k85 k86 k87 k88 kp89 ls hl H locs hP hD hS
                        refine lv_iload_n hx hb dX11_law_160 rfl (lv_at hl 1 rfl) ?_
                        refine lv_iconst (v := 5) hx hb dX11_law_161 (by decide) ?_
                        refine lv_icmp_ge (tgt := 183) hx hb dX11_law_162 (by decide) (fun c_90 => ?_) (fun c_90 => absurd (nI_le (a := 5) (b := k2) (by omega) (by omega)) c_90)
                        refine lv_aload_n hx hb dX11_law_183 rfl (lv_at hl 0 rfl) ?_
                        refine x_get (ref := "NoteHouseModel") F hP k84 rfl (fun _ h => List.mem_cons_of_mem _ (List.mem_append_right _ (h))) 28 (Nat.le_of_ble_eq_true rfl) (List.mem_cons_of_mem _ (List.mem_append_left _ (List.mem_append_left _ (List.mem_of_getElem? (i := 3) rfl)))) rfl rfl dX11_law_184 ?_
                        exact y_ir K hP hD hS (Nat.le_of_ble_eq_true rfl) (Nat.le_of_ble_eq_true rfl) (ty := .int) rfl rfl dX11_law_187 (⟨nI a, nI b, nI fq, gd, h36, h37, nI fq, rfl, by unfold lawA; rw [hfin.1], by unfold lawB; rw [if_pos (hfin.1.trans (nI_z0 (by omega) c155))]; exact fun j hj => (hgd j (by omega)).trans (hfin.2 (nI_z0 (by omega) c155) j hj), kp89, k84, k86, k87, k88⟩)
                      | succ N ih160 =>
                        intro k2 gd w83 hN160 hgd k84 k85 k86 k87 k88 kp89 ls hl H locs hP hD hS
                        refine lv_iload_n hx hb dX11_law_160 rfl (lv_at hl 1 rfl) ?_
                        refine lv_iconst (v := 5) hx hb dX11_law_161 (by decide) ?_
                        refine lv_icmp_ge (tgt := 183) hx hb dX11_law_162 (by decide) (fun c_91 => absurd c_91 (nI_ge (a := k2) (b := 5) (by omega) (by omega))) (fun c_91 => ?_)
                        refine lv_aload_n hx hb dX11_law_165 rfl (lv_at hl 0 rfl) ?_
                        refine x_get (ref := "NoteHouseModel") F hP k84 rfl (fun _ h => List.mem_cons_of_mem _ (List.mem_append_right _ (h))) 35 (Nat.le_of_ble_eq_true rfl) (List.mem_cons_of_mem _ (List.mem_append_left _ (List.mem_append_left _ (List.mem_of_getElem? (i := 6) rfl)))) rfl rfl dX11_law_166 ?_
                        refine lv_iload_n hx hb dX11_law_169 rfl (lv_at hl 1 rfl) ?_
                        refine lv_aload_n hx hb dX11_law_170 rfl (lv_at hl 0 rfl) ?_
                        refine x_get (ref := "NoteHouseModel") F hP k84 rfl (fun _ h => List.mem_cons_of_mem _ (List.mem_append_right _ (h))) 37 (Nat.le_of_ble_eq_true rfl) (List.mem_cons_of_mem _ (List.mem_append_left _ (List.mem_append_left _ (List.mem_of_getElem? (i := 1) rfl)))) rfl rfl dX11_law_171 ?_
                        refine lv_iload_n hx hb dX11_law_174 rfl (lv_at hl 1 rfl) ?_
                        refine x_iald F hP k88 (vp_in_nI (n := k2) (N := 5) (by omega) (by decide)) dX11_law_175 ?_
                        rw [nI_clamp (n := k2) (by omega)]
                        refine y_iast F hP hD hS k86 (vp_in_nI (n := k2) (N := 5) (by omega) (by decide)) dX11_law_176 (fun w92 ew93 H locs hP hD hS => ?_)
                        have k94 := wd_at.pt ew93 k84 (tg_ne ty tm35 (by decide))
                        have k95 := wd_at.pt ew93 k85 (tg_ne tm24 tm35 (by decide))
                        have k96 : wd_at w92 m35 (.inl (cy 2, 5, .inl (upd gd (nI k2).toNatClampNeg (h37 k2)))) := wd_at.ps ew93 k86
                        have k97 := wd_at.pt ew93 k87 (tg_ne tm36 tm35 (by decide))
                        have k98 := wd_at.pt ew93 k88 (tg_ne tm37 tm35 (by decide))
                        have kp99 := kp89.put ew93 s91
                        refine lv_iinc (v := nI (k2 + 1)) (lv' := [(2, .int (nI (k2 + 1))), (0, .ref y)]) hx hb dX11_law_177 hl (k := 1) rfl (nI_1 k2) (by decide) rfl (fun ls hl => ?_)
                        refine lv_goto (tgt := 160) hx hb dX11_law_180 (by decide) ?_
                        exact ih160 (k2 + 1) (upd gd (nI k2).toNatClampNeg (h37 k2)) w92 (by omega) (up5 (by omega) hgd) k94 k95 k96 k97 k98 kp99 ls (lv_sub hl [1, 0] rfl) H locs hP hD hS
                    exact lp160 _ 0 f35 w75 (Nat.zero_add 5) (fun j hj => absurd hj (Nat.not_lt_zero j)) k77 k78 k79 k80 k81 kp82 ls (lv_sub hl [1, 0] rfl) H locs hP hD hS
                · have hf0 : fq = 0 := nI_z0 (by omega) c79
                  obtain ⟨hG, htR2, hlR2, hm2⟩ := hact hon1 hf0
                  subst hf0
                  refine lv_aload_n hx hb dX11_law_82 rfl (lv_at hl 0 rfl) ?_
                  refine x_callV (n := 0) (As := []) (rest := []) F hP hD hS (m_clause l D cy sk sv w43 tg y m2 m3 m4 m5 m6 m8 m9 m10 m11 m12 m13 m14 m17 m18 m19 m20 m21 m22 m23 m24 m29 m30 m31 m32 m33 m34 m35 m36 m37 m39 m40 m41 m42 m43 m44 m45 m46 m47 m48 m49 m51 m52 m53 m54 m56 m57 m58 m59 pc ac sc ln sh gf v0 td (nI b) v50 f24 h36 h37 a mt2 bb2 k44 k45 k47 k48 (fun b => b = y ∨ b = m36 ∨ b = m37) (Or.inl rfl) (Or.inr (Or.inl rfl)) (Or.inr (Or.inr rfl)) ty tm24 tm36 tm37 (by omega) (by omega) (by omega) (by assumption) (by assumption)) gX11_law_X11_clause rfl rfl (by decide +kernel) ⟨(Nat.le_of_ble_eq_true rfl), (Nat.le_of_ble_eq_true rfl)⟩ rfl hl.1 (Nat.le_of_ble_eq_true rfl) k44 rfl dX11_law_83 rfl ⟨(Nat.le_of_ble_eq_true rfl), (Nat.le_of_ble_eq_true rfl)⟩ (fun v101 w102 hp100 H locs hP hD hS => ?_)
                  obtain ⟨ax103, bx104, fvx105, gx106, gx107, rfl, rfl, hz108, hz109, hz110, hz111, kq115, k112, k113, k114⟩ := hp100
                  have k116 := kq115.2 _ _ k45 (orN (tg_ne tm24 ty (by decide)) (orN (tg_ne tm24 tm36 (by decide)) (tg_ne tm24 tm37 (by decide))))
                  have k117 := kq115.2 _ _ k46 (orN (tg_ne tm35 ty (by decide)) (orN (tg_ne tm35 tm36 (by decide)) (tg_ne tm35 tm37 (by decide))))
                  have kp118 := kp49.tr kq115 (fun b9 hm q9 => (fun q9 => Or.elim q9 (fun q9 => q9 ▸ s90) (fun q9 => Or.elim q9 (fun q9 => q9 ▸ s92) (fun q9 => q9 ▸ s93))) q9)
                  refine W.eq (g2 := F0 m 86 ls []) rfl (W.widen (k := 0) (n := 0) (Nat.le_of_ble_eq_true rfl) (Nat.le_of_ble_eq_true rfl) ?_)
                  refine lv_aload_n hx hb dX11_law_86 rfl (lv_at hl 0 rfl) ?_
                  refine x_get (ref := "NoteHouseModel") F hP k112 rfl (fun _ h => List.mem_cons_of_mem _ (List.mem_append_right _ (h))) 28 (Nat.le_of_ble_eq_true rfl) (List.mem_cons_of_mem _ (List.mem_append_left _ (List.mem_append_left _ (List.mem_of_getElem? (i := 3) rfl)))) rfl rfl dX11_law_87 ?_
                  refine lv_if_ne (tgt := 104) hx hb dX11_law_90 (by decide) (fun cF => ?_) (fun cF => ?_)
                  · have hF : ¬ clF f24 ln a mt2 = 0 := fun q => cF (by rw [q]; rfl)
                    refine lv_iconst (v := 0) hx hb dX11_law_104 (by decide) ?_
                    refine lv_istore_n (lv' := [(1, .int 0), (0, .ref y)]) hx hb dX11_law_105 rfl hl (by decide) rfl (fun ls hl => ?_)
                    refine lv_iload_n hx hb dX11_law_106 rfl (lv_at hl 0 rfl) ?_
                    refine lv_if_eq (tgt := 71) hx hb dX11_law_107 (by decide) (fun c_119 => ?_) (fun c_119 => absurd (show (0 : Int32) = (0 : Int32) by decide) c_119)
                    exact ih71 0 ax103 bx104 (clF f24 ln a mt2) gx106 gx107 (clM f24 ln a mt2) (clB f24 ln a bb2) w102 (by omega) (by omega) (by omega) (by omega) (fun h => absurd h (by omega)) (fun _ => by rw [← hG, show 6 - bc5 mt2 = (5 - bc5 mt2) + 1 by have h9 := bt_5 mt2 hm2; omega, lawG_n hF]; exact ⟨rfl, fun q => absurd q hF⟩) k112 k116 k117 k113 k114 kp118 ls (lv_sub hl [1, 0] rfl) H locs hP hD hS
                  · have hF0 : clF f24 ln a mt2 = 0 := nI_z0 (by omega) cF
                    obtain ⟨ea9, htR3, hlR3⟩ := hz111 hF0
                    subst ea9
                    refine lv_aload_n hx hb dX11_law_93 rfl (lv_at hl 0 rfl) ?_
                    refine x_callV (n := 0) (As := []) (rest := []) F hP hD hS (m_isEnd l D cy sk sv w102 tg y m2 m3 m4 m5 m6 m8 m9 m10 m11 m12 m13 m14 m17 m18 m19 m20 m21 m22 m23 m24 m29 m30 m31 m32 m33 m34 m35 m36 m37 m39 m40 m41 m42 m43 m44 m45 m46 m47 m48 m49 m51 m52 m53 m54 m56 m57 m58 m59 pc ac sc ln sh gf v0 td (nI bx104) (nI (clF f24 ln a mt2)) v50 f24 (clA f24 ln a) k112 k116 (fun b => b = y) rfl ty tm24 (by omega) (by omega)) gX11_law_X11_isEnd rfl rfl (by decide +kernel) ⟨(Nat.le_of_ble_eq_true rfl), (Nat.le_of_ble_eq_true rfl)⟩ rfl hl.1 (Nat.le_of_ble_eq_true rfl) k112 rfl dX11_law_94 rfl ⟨(Nat.le_of_ble_eq_true rfl), (Nat.le_of_ble_eq_true rfl)⟩ (fun v121 w122 hp120 H locs hP hD hS => ?_)
                    obtain ⟨ax123, rx124, rfl, rfl, rfl, hz125, hz126, hz127, hz128, kq130, k129⟩ := hp120
                    have k131 := kq130.2 _ _ k116 (tg_ne tm24 ty (by decide))
                    have k132 := kq130.2 _ _ k117 (tg_ne tm35 ty (by decide))
                    have k133 := kq130.2 _ _ k113 (tg_ne tm36 ty (by decide))
                    have k134 := kq130.2 _ _ k114 (tg_ne tm37 ty (by decide))
                    have kp135 := kp118.tr kq130 (fun b9 hm q9 => (fun q9 => q9 ▸ s90) q9)
                    refine W.eq (g2 := F0 m 97 ls [.int (ieR f24 ln (clA f24 ln a))]) rfl (W.widen (k := 0) (n := 0) (Nat.le_of_ble_eq_true rfl) (Nat.le_of_ble_eq_true rfl) ?_)
                    refine lv_if_ne (tgt := 104) hx hb dX11_law_97 (by decide) (fun cE => ?_) (fun cE => ?_)
                    · have hE := ieR_1 cE
                      refine lv_iconst (v := 0) hx hb dX11_law_104 (by decide) ?_
                      refine lv_istore_n (lv' := [(1, .int 0), (0, .ref y)]) hx hb dX11_law_105 rfl hl (by decide) rfl (fun ls hl => ?_)
                      refine lv_iload_n hx hb dX11_law_106 rfl (lv_at hl 0 rfl) ?_
                      refine lv_if_eq (tgt := 71) hx hb dX11_law_107 (by decide) (fun c_136 => ?_) (fun c_136 => absurd (show (0 : Int32) = (0 : Int32) by decide) c_136)
                      exact ih71 0 (nx f24 ln (clA f24 ln a)) (nx f24 ln (clA f24 ln a)) (clF f24 ln a mt2) gx106 gx107 (clM f24 ln a mt2) (clB f24 ln a bb2) w122 (by omega) (by omega) (by omega) (by omega) (fun h => absurd h (by omega)) (fun _ => by rw [← hG, show 6 - bc5 mt2 = (5 - bc5 mt2) + 1 by have h9 := bt_5 mt2 hm2; omega, lawG_e hF0 (by omega)]; exact ⟨hF0.symm, fun _ => hlR3⟩) k129 k131 k132 k133 k134 kp135 ls (lv_sub hl [1, 0] rfl) H locs hP hD hS
                    · have hne := hz128 cE
                      refine lv_iconst (v := 1) hx hb dX11_law_100 (by decide) ?_
                      refine lv_goto (tgt := 105) hx hb dX11_law_101 (by decide) ?_
                      refine lv_istore_n (lv' := [(1, .int 1), (0, .ref y)]) hx hb dX11_law_105 rfl hl (by decide) rfl (fun ls hl => ?_)
                      refine lv_iload_n hx hb dX11_law_106 rfl (lv_at hl 0 rfl) ?_
                      refine lv_if_eq (tgt := 71) hx hb dX11_law_107 (by decide) (fun c_137 => absurd c_137 (show ¬ (1 : Int32) = (0 : Int32) by decide)) (fun c_137 => ?_)
                      refine lv_aload_n hx hb dX11_law_110 rfl (lv_at hl 1 rfl) ?_
                      refine x_get (ref := "NoteHouseModel") F hP k129 rfl (fun _ h => List.mem_cons_of_mem _ (List.mem_append_right _ (h))) 24 (Nat.le_of_ble_eq_true rfl) (List.mem_cons_of_mem _ (List.mem_append_left _ (List.mem_append_left _ (List.mem_of_getElem? (i := 5) rfl)))) rfl rfl dX11_law_111 ?_
                      refine lv_aload_n hx hb dX11_law_114 rfl (lv_at hl 1 rfl) ?_
                      refine x_get (ref := "NoteHouseModel") F hP k129 rfl (fun _ h => List.mem_cons_of_mem _ (List.mem_append_right _ (h))) 26 (Nat.le_of_ble_eq_true rfl) (List.mem_cons_of_mem _ (List.mem_append_left _ (List.mem_append_left _ (List.mem_of_getElem? (i := 2) rfl)))) rfl rfl dX11_law_115 ?_
                      refine x_bald F hP k131 (vp_in_nI (n := (nx f24 ln (clA f24 ln a))) (N := 300) (by omega) (by decide)) dX11_law_118 ?_
                      rw [nI_clamp (n := nx f24 ln (clA f24 ln a)) (by omega)]
                      refine lv_bipush (v := 59) hx hb dX11_law_119 (by decide) ?_
                      refine lv_icmp_eq (tgt := 133) hx hb dX11_law_121 (by decide) (fun c59 => ?_) (fun c59 => ?_)
                      · refine lv_aload_n hx hb dX11_law_133 rfl (lv_at hl 1 rfl) ?_
                        refine lv_dup hx hb dX11_law_134 rfl ?_
                        refine x_get (ref := "NoteHouseModel") F hP k129 rfl (fun _ h => List.mem_cons_of_mem _ (List.mem_append_right _ (h))) 26 (Nat.le_of_ble_eq_true rfl) (List.mem_cons_of_mem _ (List.mem_append_left _ (List.mem_append_left _ (List.mem_of_getElem? (i := 2) rfl)))) rfl rfl dX11_law_135 ?_
                        refine lv_iconst (v := 1) hx hb dX11_law_138 (by decide) ?_
                        refine lv_iadd hx hb dX11_law_139 ?_
                        rw [show ((nI (nx f24 ln (clA f24 ln a))) + 1 : Int32) = nI ((nx f24 ln (clA f24 ln a)) + 1) from nI_add (nx f24 ln (clA f24 ln a)) 1]
                        refine y_put (ref := "NoteHouseModel") F hP hD hS k129 rfl (fun _ h => List.mem_cons_of_mem _ (List.mem_append_right _ (h))) tyX11_ok nmX11 26 (Nat.le_of_ble_eq_true rfl) (List.mem_cons_of_mem _ (List.mem_append_left _ (List.mem_append_left _ (List.mem_of_getElem? (i := 2) rfl)))) rfl rfl rfl rfl (Nat.le_of_ble_eq_true rfl) dX11_law_140 (fun w138 ew139 H locs hP hD hS => ?_)
                        have k140 : wd_at w138 y (.inr (11, [.int v0, .int td, .ref m2, .ref m3, .ref m4, .ref m5, .ref m6, .int (nI pc), .ref m8, .ref m9, .ref m10, .ref m11, .ref m12, .ref m13, .ref m14, .int (nI ac), .int (nI sc), .ref m17, .ref m18, .ref m19, .ref m20, .ref m21, .ref m22, .ref m23, .ref m24, .int (nI ln), .int (nI ((nx f24 ln (clA f24 ln a)) + 1)), .int (nI (nx f24 ln (clA f24 ln a))), .int (nI (clF f24 ln a mt2)), .ref m29, .ref m30, .ref m31, .ref m32, .ref m33, .ref m34, .ref m35, .ref m36, .ref m37, .int (nI sh), .ref m39, .ref m40, .ref m41, .ref m42, .ref m43, .ref m44, .ref m45, .ref m46, .ref m47, .ref m48, .ref m49, .int v50, .ref m51, .ref m52, .ref m53, .ref m54, .int (nI gf), .ref m56, .ref m57, .ref m58, .ref m59])) := wd_at.ps ew139 k129
                        have k141 := wd_at.pt ew139 k131 (tg_ne tm24 ty (by decide))
                        have k142 := wd_at.pt ew139 k132 (tg_ne tm35 ty (by decide))
                        have k143 := wd_at.pt ew139 k133 (tg_ne tm36 ty (by decide))
                        have k144 := wd_at.pt ew139 k134 (tg_ne tm37 ty (by decide))
                        have kp145 := kp135.put ew139 s90
                        refine lv_goto (tgt := 71) hx hb dX11_law_143 (by decide) ?_
                        exact ih71 1 ((nx f24 ln (clA f24 ln a)) + 1) (nx f24 ln (clA f24 ln a)) (clF f24 ln a mt2) gx106 gx107 (clM f24 ln a mt2) (clB f24 ln a bb2) w138 (by omega) (by omega) (by omega) (by omega) (fun _ _ => ⟨by rw [(clM_s hm2 hF0).2, show 6 - (bc5 mt2 + 1) = 5 - bc5 mt2 by omega, ← lawG_s hF0 hne c59, ← hG, show 6 - bc5 mt2 = (5 - bc5 mt2) + 1 by have h9 := bt_5 mt2 hm2; omega], htR3, hlR3, (clM_s hm2 hF0).1⟩) (fun h => absurd h (by omega)) k140 k141 k142 k143 k144 kp145 ls (lv_sub hl [1, 0] rfl) H locs hP hD hS
                      · refine lv_aload_n hx hb dX11_law_124 rfl (lv_at hl 1 rfl) ?_
                        refine lv_iconst (v := 0) hx hb dX11_law_125 (by decide) ?_
                        refine lv_aload_n hx hb dX11_law_126 rfl (lv_at hl 1 rfl) ?_
                        refine x_get (ref := "NoteHouseModel") F hP k129 rfl (fun _ h => List.mem_cons_of_mem _ (List.mem_append_right _ (h))) 26 (Nat.le_of_ble_eq_true rfl) (List.mem_cons_of_mem _ (List.mem_append_left _ (List.mem_append_left _ (List.mem_of_getElem? (i := 2) rfl)))) rfl rfl dX11_law_127 ?_
                        refine x_callV (n := 2) (As := [.int 0, .int (nI (nx f24 ln (clA f24 ln a)))]) (rest := []) F hP hD hS (m_fails l D cy sk sv w122 tg y m2 m3 m4 m5 m6 m8 m9 m10 m11 m12 m13 m14 m17 m18 m19 m20 m21 m22 m23 m24 m29 m30 m31 m32 m33 m34 m35 m36 m37 m39 m40 m41 m42 m43 m44 m45 m46 m47 m48 m49 m51 m52 m53 m54 m56 m57 m58 m59 pc ac sc ln sh gf v0 td (nI (nx f24 ln (clA f24 ln a))) (nI (nx f24 ln (clA f24 ln a))) v50 (clF f24 ln a mt2) 0 (nx f24 ln (clA f24 ln a)) k129 (fun b => b = y) rfl ty (by omega) (by omega) (by omega)) gX11_law_X11_fails rfl rfl (by decide +kernel) ⟨(Nat.le_of_ble_eq_true rfl), (Nat.le_of_ble_eq_true rfl)⟩ rfl hl.1 (Nat.le_of_ble_eq_true rfl) k129 rfl dX11_law_130 rfl ⟨(Nat.le_of_ble_eq_true rfl), (Nat.le_of_ble_eq_true rfl)⟩ (fun v147 w148 hp146 H locs hP hD hS => ?_)
                        obtain ⟨fwx149, rfl, rfl, hz150, hz151, kq153, k152⟩ := hp146
                        have k154 := kq153.2 _ _ k131 (tg_ne tm24 ty (by decide))
                        have k155 := kq153.2 _ _ k132 (tg_ne tm35 ty (by decide))
                        have k156 := kq153.2 _ _ k133 (tg_ne tm36 ty (by decide))
                        have k157 := kq153.2 _ _ k134 (tg_ne tm37 ty (by decide))
                        have kp158 := kp135.tr kq153 (fun b9 hm q9 => (fun q9 => q9 ▸ s90) q9)
                        refine W.eq (g2 := F0 m 133 ls []) rfl (W.widen (k := 0) (n := 0) (Nat.le_of_ble_eq_true rfl) (Nat.le_of_ble_eq_true rfl) ?_)
                        refine lv_aload_n hx hb dX11_law_133 rfl (lv_at hl 1 rfl) ?_
                        refine lv_dup hx hb dX11_law_134 rfl ?_
                        refine x_get (ref := "NoteHouseModel") F hP k152 rfl (fun _ h => List.mem_cons_of_mem _ (List.mem_append_right _ (h))) 26 (Nat.le_of_ble_eq_true rfl) (List.mem_cons_of_mem _ (List.mem_append_left _ (List.mem_append_left _ (List.mem_of_getElem? (i := 2) rfl)))) rfl rfl dX11_law_135 ?_
                        refine lv_iconst (v := 1) hx hb dX11_law_138 (by decide) ?_
                        refine lv_iadd hx hb dX11_law_139 ?_
                        rw [show ((nI (nx f24 ln (clA f24 ln a))) + 1 : Int32) = nI ((nx f24 ln (clA f24 ln a)) + 1) from nI_add (nx f24 ln (clA f24 ln a)) 1]
                        refine y_put (ref := "NoteHouseModel") F hP hD hS k152 rfl (fun _ h => List.mem_cons_of_mem _ (List.mem_append_right _ (h))) tyX11_ok nmX11 26 (Nat.le_of_ble_eq_true rfl) (List.mem_cons_of_mem _ (List.mem_append_left _ (List.mem_append_left _ (List.mem_of_getElem? (i := 2) rfl)))) rfl rfl rfl rfl (Nat.le_of_ble_eq_true rfl) dX11_law_140 (fun w159 ew160 H locs hP hD hS => ?_)
                        have k161 : wd_at w159 y (.inr (11, [.int v0, .int td, .ref m2, .ref m3, .ref m4, .ref m5, .ref m6, .int (nI pc), .ref m8, .ref m9, .ref m10, .ref m11, .ref m12, .ref m13, .ref m14, .int (nI ac), .int (nI sc), .ref m17, .ref m18, .ref m19, .ref m20, .ref m21, .ref m22, .ref m23, .ref m24, .int (nI ln), .int (nI ((nx f24 ln (clA f24 ln a)) + 1)), .int (nI (nx f24 ln (clA f24 ln a))), .int (nI (flF (clF f24 ln a mt2) 0 (nx f24 ln (clA f24 ln a)))), .ref m29, .ref m30, .ref m31, .ref m32, .ref m33, .ref m34, .ref m35, .ref m36, .ref m37, .int (nI sh), .ref m39, .ref m40, .ref m41, .ref m42, .ref m43, .ref m44, .ref m45, .ref m46, .ref m47, .ref m48, .ref m49, .int v50, .ref m51, .ref m52, .ref m53, .ref m54, .int (nI gf), .ref m56, .ref m57, .ref m58, .ref m59])) := wd_at.ps ew160 k152
                        have k162 := wd_at.pt ew160 k154 (tg_ne tm24 ty (by decide))
                        have k163 := wd_at.pt ew160 k155 (tg_ne tm35 ty (by decide))
                        have k164 := wd_at.pt ew160 k156 (tg_ne tm36 ty (by decide))
                        have k165 := wd_at.pt ew160 k157 (tg_ne tm37 ty (by decide))
                        have kp166 := kp158.put ew160 s90
                        refine lv_goto (tgt := 71) hx hb dX11_law_143 (by decide) ?_
                        exact ih71 1 ((nx f24 ln (clA f24 ln a)) + 1) (nx f24 ln (clA f24 ln a)) (flF (clF f24 ln a mt2) 0 (nx f24 ln (clA f24 ln a))) gx106 gx107 (clM f24 ln a mt2) (clB f24 ln a bb2) w159 (by omega) (by omega) (by omega) (by omega) (fun _ q => absurd q (by omega)) (fun _ => by rw [← hG, show 6 - bc5 mt2 = (5 - bc5 mt2) + 1 by have h9 := bt_5 mt2 hm2; omega, lawG_f hF0 hne c59]; exact ⟨by rw [hF0, flF_0], fun q => absurd q (by omega)⟩) k161 k162 k163 k164 k165 kp166 ls (lv_sub hl [1, 0] rfl) H locs hP hD hS
          exact lp71 (2 * ln + 2) 0 (nx f24 ln 0) (nx f24 ln 0) 0 ga gb 0 law0 w28 (by omega) (by omega) (by omega) (by omega) (fun h => absurd h (by omega)) (fun _ => by rw [lawT_2 h200 hnx]; exact ⟨rfl, fun _ => hlR0⟩) k35 k37 k38 k39 k40 kp41 ls (lv_sub hl [1, 0] rfl) H locs hP hD hS
        · have hnx : nx f24 ln 0 < ln := Nat.lt_of_le_of_ne (nx_le (B := f24) (Nat.zero_le ln)).2 (ieR_0 c_42)
          refine lv_iconst (v := 1) hx hb dX11_law_65 (by decide) ?_
          refine lv_goto (tgt := 70) hx hb dX11_law_66 (by decide) ?_
          refine lv_istore_n (lv' := [(1, .int 1), (0, .ref y)]) hx hb dX11_law_70 rfl hl (by decide) rfl (fun ls hl => ?_)
          have lp71 : ∀ (N : Nat) (on : Nat) (a : Nat) (b : Nat) (fq : Nat) (h36 : Nat → Int32) (h37 : Nat → Int32) (mt2 : Nat) (bb2 : Nat → Int32) (w167 : Wd), (2 * ln + on + 1 ≤ 2 * a + N) → (a ≤ ln) → (fq < 2000) → (on ≤ 1) → (0 < on → fq = 0 → (lawG f24 ln (6 - bc5 mt2) a mt2 bb2 = lawT f24 ln ∧ tR h36 mt2 ∧ lR h37 bb2 ∧ mt2 < 32)) → ((on = 0 ∨ 0 < fq) → (lawT f24 ln).1 = fq ∧ (fq = 0 → lR h37 (lawT f24 ln).2)) → (wd_at w167 y (.inr (11, [.int v0, .int td, .ref m2, .ref m3, .ref m4, .ref m5, .ref m6, .int (nI pc), .ref m8, .ref m9, .ref m10, .ref m11, .ref m12, .ref m13, .ref m14, .int (nI ac), .int (nI sc), .ref m17, .ref m18, .ref m19, .ref m20, .ref m21, .ref m22, .ref m23, .ref m24, .int (nI ln), .int (nI a), .int (nI b), .int (nI fq), .ref m29, .ref m30, .ref m31, .ref m32, .ref m33, .ref m34, .ref m35, .ref m36, .ref m37, .int (nI sh), .ref m39, .ref m40, .ref m41, .ref m42, .ref m43, .ref m44, .ref m45, .ref m46, .ref m47, .ref m48, .ref m49, .int v50, .ref m51, .ref m52, .ref m53, .ref m54, .int (nI gf), .ref m56, .ref m57, .ref m58, .ref m59]))) → (wd_at w167 m24 (.inl (cy 0, 300, .inl f24))) → (wd_at w167 m35 (.inl (cy 2, 5, .inl f35))) → (wd_at w167 m36 (.inl (cy 4, 5, .inl h36))) → (wd_at w167 m37 (.inl (cy 2, 5, .inl h37))) → (wd_kp S w w167) → ∀ (ls : Array Slot), lv_has ls 3 [(0, .ref y), (1, .int (nI on))] → Wv p l e ({ frames := 6, cells := 0, slots := 0, locals := 130 }) s m args below meth c D A (0) (0) Q w167 (F0 m 71 ls []) := by
            intro N
            induction N with
            | zero =>
              intro on a b fq h36 h37 mt2 bb2 w167 hN71 ha2 hfq hon hact hdone k168 k169 k170 k171 k172 kp173 ls hl H locs hP hD hS
              exact absurd hN71 (by omega)
            | succ N ih71 =>
              intro on a b fq h36 h37 mt2 bb2 w167 hN71 ha2 hfq hon hact hdone k168 k169 k170 k171 k172 kp173 ls hl H locs hP hD hS
              refine lv_iload_n hx hb dX11_law_71 rfl (lv_at hl 1 rfl) ?_
              refine lv_if_eq (tgt := 146) hx hb dX11_law_72 (by decide) (fun c72 => ?_) (fun c72 => ?_)
              · have hfin := hdone (Or.inl (nI_z0 (by omega) c72))
                refine lv_aload_n hx hb dX11_law_146 rfl (lv_at hl 0 rfl) ?_
                refine lv_iconst (v := 0) hx hb dX11_law_147 (by decide) ?_
                refine y_put (ref := "NoteHouseModel") F hP hD hS k168 rfl (fun _ h => List.mem_cons_of_mem _ (List.mem_append_right _ (h))) tyX11_ok nmX11 25 (Nat.le_of_ble_eq_true rfl) (List.mem_cons_of_mem _ (List.mem_append_left _ (List.mem_append_left _ (List.mem_of_getElem? (i := 4) rfl)))) rfl rfl rfl rfl (Nat.le_of_ble_eq_true rfl) dX11_law_148 (fun w174 ew175 H locs hP hD hS => ?_)
                have k176 : wd_at w174 y (.inr (11, [.int v0, .int td, .ref m2, .ref m3, .ref m4, .ref m5, .ref m6, .int (nI pc), .ref m8, .ref m9, .ref m10, .ref m11, .ref m12, .ref m13, .ref m14, .int (nI ac), .int (nI sc), .ref m17, .ref m18, .ref m19, .ref m20, .ref m21, .ref m22, .ref m23, .ref m24, .int 0, .int (nI a), .int (nI b), .int (nI fq), .ref m29, .ref m30, .ref m31, .ref m32, .ref m33, .ref m34, .ref m35, .ref m36, .ref m37, .int (nI sh), .ref m39, .ref m40, .ref m41, .ref m42, .ref m43, .ref m44, .ref m45, .ref m46, .ref m47, .ref m48, .ref m49, .int v50, .ref m51, .ref m52, .ref m53, .ref m54, .int (nI gf), .ref m56, .ref m57, .ref m58, .ref m59])) := wd_at.ps ew175 k168
                have k177 := wd_at.pt ew175 k169 (tg_ne tm24 ty (by decide))
                have k178 := wd_at.pt ew175 k170 (tg_ne tm35 ty (by decide))
                have k179 := wd_at.pt ew175 k171 (tg_ne tm36 ty (by decide))
                have k180 := wd_at.pt ew175 k172 (tg_ne tm37 ty (by decide))
                have kp181 := kp173.put ew175 s90
                refine lv_aload_n hx hb dX11_law_151 rfl (lv_at hl 0 rfl) ?_
                refine x_get (ref := "NoteHouseModel") F hP k176 rfl (fun _ h => List.mem_cons_of_mem _ (List.mem_append_right _ (h))) 28 (Nat.le_of_ble_eq_true rfl) (List.mem_cons_of_mem _ (List.mem_append_left _ (List.mem_append_left _ (List.mem_of_getElem? (i := 3) rfl)))) rfl rfl dX11_law_152 ?_
                refine lv_if_ne (tgt := 183) hx hb dX11_law_155 (by decide) (fun c155 => ?_) (fun c155 => ?_)
                · refine lv_aload_n hx hb dX11_law_183 rfl (lv_at hl 0 rfl) ?_
                  refine x_get (ref := "NoteHouseModel") F hP k176 rfl (fun _ h => List.mem_cons_of_mem _ (List.mem_append_right _ (h))) 28 (Nat.le_of_ble_eq_true rfl) (List.mem_cons_of_mem _ (List.mem_append_left _ (List.mem_append_left _ (List.mem_of_getElem? (i := 3) rfl)))) rfl rfl dX11_law_184 ?_
                  exact y_ir K hP hD hS (Nat.le_of_ble_eq_true rfl) (Nat.le_of_ble_eq_true rfl) (ty := .int) rfl rfl dX11_law_187 (⟨nI a, nI b, nI fq, f35, h36, h37, nI fq, rfl, by unfold lawA; rw [hfin.1], by unfold lawB; rw [if_neg (by rw [hfin.1]; exact fun q => c155 (by rw [q]; rfl))]; exact hlb, kp181, k176, k178, k179, k180⟩)
                · refine lv_iconst (v := 0) hx hb dX11_law_158 (by decide) ?_
                  refine lv_istore_n (lv' := [(2, .int 0), (0, .ref y), (1, .int (nI on))]) hx hb dX11_law_159 rfl hl (by decide) rfl (fun ls hl => ?_)
                  have lp160 : ∀ (N : Nat) (k2 : Nat) (gd : Nat → Int32) (w182 : Wd), (k2 + N = 5) → (∀ j, j < k2 → gd j = h37 j) → (wd_at w182 y (.inr (11, [.int v0, .int td, .ref m2, .ref m3, .ref m4, .ref m5, .ref m6, .int (nI pc), .ref m8, .ref m9, .ref m10, .ref m11, .ref m12, .ref m13, .ref m14, .int (nI ac), .int (nI sc), .ref m17, .ref m18, .ref m19, .ref m20, .ref m21, .ref m22, .ref m23, .ref m24, .int 0, .int (nI a), .int (nI b), .int (nI fq), .ref m29, .ref m30, .ref m31, .ref m32, .ref m33, .ref m34, .ref m35, .ref m36, .ref m37, .int (nI sh), .ref m39, .ref m40, .ref m41, .ref m42, .ref m43, .ref m44, .ref m45, .ref m46, .ref m47, .ref m48, .ref m49, .int v50, .ref m51, .ref m52, .ref m53, .ref m54, .int (nI gf), .ref m56, .ref m57, .ref m58, .ref m59]))) → (wd_at w182 m24 (.inl (cy 0, 300, .inl f24))) → (wd_at w182 m35 (.inl (cy 2, 5, .inl gd))) → (wd_at w182 m36 (.inl (cy 4, 5, .inl h36))) → (wd_at w182 m37 (.inl (cy 2, 5, .inl h37))) → (wd_kp S w w182) → ∀ (ls : Array Slot), lv_has ls 3 [(0, .ref y), (2, .int (nI k2))] → Wv p l e ({ frames := 6, cells := 0, slots := 0, locals := 130 }) s m args below meth c D A (0) (0) Q w182 (F0 m 160 ls []) := by
                    intro N
                    induction N with
                    | zero =>
                      intro k2 gd w182 hN160 hgd k183 k184 k185 k186 k187 kp188 ls hl H locs hP hD hS
                      refine lv_iload_n hx hb dX11_law_160 rfl (lv_at hl 1 rfl) ?_
                      refine lv_iconst (v := 5) hx hb dX11_law_161 (by decide) ?_
                      refine lv_icmp_ge (tgt := 183) hx hb dX11_law_162 (by decide) (fun c_189 => ?_) (fun c_189 => absurd (nI_le (a := 5) (b := k2) (by omega) (by omega)) c_189)
                      refine lv_aload_n hx hb dX11_law_183 rfl (lv_at hl 0 rfl) ?_
                      refine x_get (ref := "NoteHouseModel") F hP k183 rfl (fun _ h => List.mem_cons_of_mem _ (List.mem_append_right _ (h))) 28 (Nat.le_of_ble_eq_true rfl) (List.mem_cons_of_mem _ (List.mem_append_left _ (List.mem_append_left _ (List.mem_of_getElem? (i := 3) rfl)))) rfl rfl dX11_law_184 ?_
                      exact y_ir K hP hD hS (Nat.le_of_ble_eq_true rfl) (Nat.le_of_ble_eq_true rfl) (ty := .int) rfl rfl dX11_law_187 (⟨nI a, nI b, nI fq, gd, h36, h37, nI fq, rfl, by unfold lawA; rw [hfin.1], by unfold lawB; rw [if_pos (hfin.1.trans (nI_z0 (by omega) c155))]; exact fun j hj => (hgd j (by omega)).trans (hfin.2 (nI_z0 (by omega) c155) j hj), kp188, k183, k185, k186, k187⟩)
                    | succ N ih160 =>
                      intro k2 gd w182 hN160 hgd k183 k184 k185 k186 k187 kp188 ls hl H locs hP hD hS
                      refine lv_iload_n hx hb dX11_law_160 rfl (lv_at hl 1 rfl) ?_
                      refine lv_iconst (v := 5) hx hb dX11_law_161 (by decide) ?_
                      refine lv_icmp_ge (tgt := 183) hx hb dX11_law_162 (by decide) (fun c_190 => absurd c_190 (nI_ge (a := k2) (b := 5) (by omega) (by omega))) (fun c_190 => ?_)
                      refine lv_aload_n hx hb dX11_law_165 rfl (lv_at hl 0 rfl) ?_
                      refine x_get (ref := "NoteHouseModel") F hP k183 rfl (fun _ h => List.mem_cons_of_mem _ (List.mem_append_right _ (h))) 35 (Nat.le_of_ble_eq_true rfl) (List.mem_cons_of_mem _ (List.mem_append_left _ (List.mem_append_left _ (List.mem_of_getElem? (i := 6) rfl)))) rfl rfl dX11_law_166 ?_
                      refine lv_iload_n hx hb dX11_law_169 rfl (lv_at hl 1 rfl) ?_
                      refine lv_aload_n hx hb dX11_law_170 rfl (lv_at hl 0 rfl) ?_
                      refine x_get (ref := "NoteHouseModel") F hP k183 rfl (fun _ h => List.mem_cons_of_mem _ (List.mem_append_right _ (h))) 37 (Nat.le_of_ble_eq_true rfl) (List.mem_cons_of_mem _ (List.mem_append_left _ (List.mem_append_left _ (List.mem_of_getElem? (i := 1) rfl)))) rfl rfl dX11_law_171 ?_
                      refine lv_iload_n hx hb dX11_law_174 rfl (lv_at hl 1 rfl) ?_
                      refine x_iald F hP k187 (vp_in_nI (n := k2) (N := 5) (by omega) (by decide)) dX11_law_175 ?_
                      rw [nI_clamp (n := k2) (by omega)]
                      refine y_iast F hP hD hS k185 (vp_in_nI (n := k2) (N := 5) (by omega) (by decide)) dX11_law_176 (fun w191 ew192 H locs hP hD hS => ?_)
                      have k193 := wd_at.pt ew192 k183 (tg_ne ty tm35 (by decide))
                      have k194 := wd_at.pt ew192 k184 (tg_ne tm24 tm35 (by decide))
                      have k195 : wd_at w191 m35 (.inl (cy 2, 5, .inl (upd gd (nI k2).toNatClampNeg (h37 k2)))) := wd_at.ps ew192 k185
                      have k196 := wd_at.pt ew192 k186 (tg_ne tm36 tm35 (by decide))
                      have k197 := wd_at.pt ew192 k187 (tg_ne tm37 tm35 (by decide))
                      have kp198 := kp188.put ew192 s91
                      refine lv_iinc (v := nI (k2 + 1)) (lv' := [(2, .int (nI (k2 + 1))), (0, .ref y)]) hx hb dX11_law_177 hl (k := 1) rfl (nI_1 k2) (by decide) rfl (fun ls hl => ?_)
                      refine lv_goto (tgt := 160) hx hb dX11_law_180 (by decide) ?_
                      exact ih160 (k2 + 1) (upd gd (nI k2).toNatClampNeg (h37 k2)) w191 (by omega) (up5 (by omega) hgd) k193 k194 k195 k196 k197 kp198 ls (lv_sub hl [1, 0] rfl) H locs hP hD hS
                  exact lp160 _ 0 f35 w174 (Nat.zero_add 5) (fun j hj => absurd hj (Nat.not_lt_zero j)) k176 k177 k178 k179 k180 kp181 ls (lv_sub hl [1, 0] rfl) H locs hP hD hS
              · have hon1 : 0 < on := nI_nz (by omega) c72
                refine lv_aload_n hx hb dX11_law_75 rfl (lv_at hl 0 rfl) ?_
                refine x_get (ref := "NoteHouseModel") F hP k168 rfl (fun _ h => List.mem_cons_of_mem _ (List.mem_append_right _ (h))) 28 (Nat.le_of_ble_eq_true rfl) (List.mem_cons_of_mem _ (List.mem_append_left _ (List.mem_append_left _ (List.mem_of_getElem? (i := 3) rfl)))) rfl rfl dX11_law_76 ?_
                refine lv_if_ne (tgt := 146) hx hb dX11_law_79 (by decide) (fun c79 => ?_) (fun c79 => ?_)
                · have hfin := hdone (Or.inr (nI_nz (by omega) c79))
                  refine lv_aload_n hx hb dX11_law_146 rfl (lv_at hl 0 rfl) ?_
                  refine lv_iconst (v := 0) hx hb dX11_law_147 (by decide) ?_
                  refine y_put (ref := "NoteHouseModel") F hP hD hS k168 rfl (fun _ h => List.mem_cons_of_mem _ (List.mem_append_right _ (h))) tyX11_ok nmX11 25 (Nat.le_of_ble_eq_true rfl) (List.mem_cons_of_mem _ (List.mem_append_left _ (List.mem_append_left _ (List.mem_of_getElem? (i := 4) rfl)))) rfl rfl rfl rfl (Nat.le_of_ble_eq_true rfl) dX11_law_148 (fun w199 ew200 H locs hP hD hS => ?_)
                  have k201 : wd_at w199 y (.inr (11, [.int v0, .int td, .ref m2, .ref m3, .ref m4, .ref m5, .ref m6, .int (nI pc), .ref m8, .ref m9, .ref m10, .ref m11, .ref m12, .ref m13, .ref m14, .int (nI ac), .int (nI sc), .ref m17, .ref m18, .ref m19, .ref m20, .ref m21, .ref m22, .ref m23, .ref m24, .int 0, .int (nI a), .int (nI b), .int (nI fq), .ref m29, .ref m30, .ref m31, .ref m32, .ref m33, .ref m34, .ref m35, .ref m36, .ref m37, .int (nI sh), .ref m39, .ref m40, .ref m41, .ref m42, .ref m43, .ref m44, .ref m45, .ref m46, .ref m47, .ref m48, .ref m49, .int v50, .ref m51, .ref m52, .ref m53, .ref m54, .int (nI gf), .ref m56, .ref m57, .ref m58, .ref m59])) := wd_at.ps ew200 k168
                  have k202 := wd_at.pt ew200 k169 (tg_ne tm24 ty (by decide))
                  have k203 := wd_at.pt ew200 k170 (tg_ne tm35 ty (by decide))
                  have k204 := wd_at.pt ew200 k171 (tg_ne tm36 ty (by decide))
                  have k205 := wd_at.pt ew200 k172 (tg_ne tm37 ty (by decide))
                  have kp206 := kp173.put ew200 s90
                  refine lv_aload_n hx hb dX11_law_151 rfl (lv_at hl 0 rfl) ?_
                  refine x_get (ref := "NoteHouseModel") F hP k201 rfl (fun _ h => List.mem_cons_of_mem _ (List.mem_append_right _ (h))) 28 (Nat.le_of_ble_eq_true rfl) (List.mem_cons_of_mem _ (List.mem_append_left _ (List.mem_append_left _ (List.mem_of_getElem? (i := 3) rfl)))) rfl rfl dX11_law_152 ?_
                  refine lv_if_ne (tgt := 183) hx hb dX11_law_155 (by decide) (fun c155 => ?_) (fun c155 => ?_)
                  · refine lv_aload_n hx hb dX11_law_183 rfl (lv_at hl 0 rfl) ?_
                    refine x_get (ref := "NoteHouseModel") F hP k201 rfl (fun _ h => List.mem_cons_of_mem _ (List.mem_append_right _ (h))) 28 (Nat.le_of_ble_eq_true rfl) (List.mem_cons_of_mem _ (List.mem_append_left _ (List.mem_append_left _ (List.mem_of_getElem? (i := 3) rfl)))) rfl rfl dX11_law_184 ?_
                    exact y_ir K hP hD hS (Nat.le_of_ble_eq_true rfl) (Nat.le_of_ble_eq_true rfl) (ty := .int) rfl rfl dX11_law_187 (⟨nI a, nI b, nI fq, f35, h36, h37, nI fq, rfl, by unfold lawA; rw [hfin.1], by unfold lawB; rw [if_neg (by rw [hfin.1]; exact fun q => c155 (by rw [q]; rfl))]; exact hlb, kp206, k201, k203, k204, k205⟩)
                  · refine lv_iconst (v := 0) hx hb dX11_law_158 (by decide) ?_
                    refine lv_istore_n (lv' := [(2, .int 0), (0, .ref y), (1, .int (nI on))]) hx hb dX11_law_159 rfl hl (by decide) rfl (fun ls hl => ?_)
                    have lp160 : ∀ (N : Nat) (k2 : Nat) (gd : Nat → Int32) (w207 : Wd), (k2 + N = 5) → (∀ j, j < k2 → gd j = h37 j) → (wd_at w207 y (.inr (11, [.int v0, .int td, .ref m2, .ref m3, .ref m4, .ref m5, .ref m6, .int (nI pc), .ref m8, .ref m9, .ref m10, .ref m11, .ref m12, .ref m13, .ref m14, .int (nI ac), .int (nI sc), .ref m17, .ref m18, .ref m19, .ref m20, .ref m21, .ref m22, .ref m23, .ref m24, .int 0, .int (nI a), .int (nI b), .int (nI fq), .ref m29, .ref m30, .ref m31, .ref m32, .ref m33, .ref m34, .ref m35, .ref m36, .ref m37, .int (nI sh), .ref m39, .ref m40, .ref m41, .ref m42, .ref m43, .ref m44, .ref m45, .ref m46, .ref m47, .ref m48, .ref m49, .int v50, .ref m51, .ref m52, .ref m53, .ref m54, .int (nI gf), .ref m56, .ref m57, .ref m58, .ref m59]))) → (wd_at w207 m24 (.inl (cy 0, 300, .inl f24))) → (wd_at w207 m35 (.inl (cy 2, 5, .inl gd))) → (wd_at w207 m36 (.inl (cy 4, 5, .inl h36))) → (wd_at w207 m37 (.inl (cy 2, 5, .inl h37))) → (wd_kp S w w207) → ∀ (ls : Array Slot), lv_has ls 3 [(0, .ref y), (2, .int (nI k2))] → Wv p l e ({ frames := 6, cells := 0, slots := 0, locals := 130 }) s m args below meth c D A (0) (0) Q w207 (F0 m 160 ls []) := by
                      intro N
                      induction N with
                      | zero =>
                        intro k2 gd w207 hN160 hgd k208 k209 k210 k211 k212 kp213 ls hl H locs hP hD hS
                        refine lv_iload_n hx hb dX11_law_160 rfl (lv_at hl 1 rfl) ?_
                        refine lv_iconst (v := 5) hx hb dX11_law_161 (by decide) ?_
                        refine lv_icmp_ge (tgt := 183) hx hb dX11_law_162 (by decide) (fun c_214 => ?_) (fun c_214 => absurd (nI_le (a := 5) (b := k2) (by omega) (by omega)) c_214)
                        refine lv_aload_n hx hb dX11_law_183 rfl (lv_at hl 0 rfl) ?_
                        refine x_get (ref := "NoteHouseModel") F hP k208 rfl (fun _ h => List.mem_cons_of_mem _ (List.mem_append_right _ (h))) 28 (Nat.le_of_ble_eq_true rfl) (List.mem_cons_of_mem _ (List.mem_append_left _ (List.mem_append_left _ (List.mem_of_getElem? (i := 3) rfl)))) rfl rfl dX11_law_184 ?_
                        exact y_ir K hP hD hS (Nat.le_of_ble_eq_true rfl) (Nat.le_of_ble_eq_true rfl) (ty := .int) rfl rfl dX11_law_187 (⟨nI a, nI b, nI fq, gd, h36, h37, nI fq, rfl, by unfold lawA; rw [hfin.1], by unfold lawB; rw [if_pos (hfin.1.trans (nI_z0 (by omega) c155))]; exact fun j hj => (hgd j (by omega)).trans (hfin.2 (nI_z0 (by omega) c155) j hj), kp213, k208, k210, k211, k212⟩)
                      | succ N ih160 =>
                        intro k2 gd w207 hN160 hgd k208 k209 k210 k211 k212 kp213 ls hl H locs hP hD hS
                        refine lv_iload_n hx hb dX11_law_160 rfl (lv_at hl 1 rfl) ?_
                        refine lv_iconst (v := 5) hx hb dX11_law_161 (by decide) ?_
                        refine lv_icmp_ge (tgt := 183) hx hb dX11_law_162 (by decide) (fun c_215 => absurd c_215 (nI_ge (a := k2) (b := 5) (by omega) (by omega))) (fun c_215 => ?_)
                        refine lv_aload_n hx hb dX11_law_165 rfl (lv_at hl 0 rfl) ?_
                        refine x_get (ref := "NoteHouseModel") F hP k208 rfl (fun _ h => List.mem_cons_of_mem _ (List.mem_append_right _ (h))) 35 (Nat.le_of_ble_eq_true rfl) (List.mem_cons_of_mem _ (List.mem_append_left _ (List.mem_append_left _ (List.mem_of_getElem? (i := 6) rfl)))) rfl rfl dX11_law_166 ?_
                        refine lv_iload_n hx hb dX11_law_169 rfl (lv_at hl 1 rfl) ?_
                        refine lv_aload_n hx hb dX11_law_170 rfl (lv_at hl 0 rfl) ?_
                        refine x_get (ref := "NoteHouseModel") F hP k208 rfl (fun _ h => List.mem_cons_of_mem _ (List.mem_append_right _ (h))) 37 (Nat.le_of_ble_eq_true rfl) (List.mem_cons_of_mem _ (List.mem_append_left _ (List.mem_append_left _ (List.mem_of_getElem? (i := 1) rfl)))) rfl rfl dX11_law_171 ?_
                        refine lv_iload_n hx hb dX11_law_174 rfl (lv_at hl 1 rfl) ?_
                        refine x_iald F hP k212 (vp_in_nI (n := k2) (N := 5) (by omega) (by decide)) dX11_law_175 ?_
                        rw [nI_clamp (n := k2) (by omega)]
                        refine y_iast F hP hD hS k210 (vp_in_nI (n := k2) (N := 5) (by omega) (by decide)) dX11_law_176 (fun w216 ew217 H locs hP hD hS => ?_)
                        have k218 := wd_at.pt ew217 k208 (tg_ne ty tm35 (by decide))
                        have k219 := wd_at.pt ew217 k209 (tg_ne tm24 tm35 (by decide))
                        have k220 : wd_at w216 m35 (.inl (cy 2, 5, .inl (upd gd (nI k2).toNatClampNeg (h37 k2)))) := wd_at.ps ew217 k210
                        have k221 := wd_at.pt ew217 k211 (tg_ne tm36 tm35 (by decide))
                        have k222 := wd_at.pt ew217 k212 (tg_ne tm37 tm35 (by decide))
                        have kp223 := kp213.put ew217 s91
                        refine lv_iinc (v := nI (k2 + 1)) (lv' := [(2, .int (nI (k2 + 1))), (0, .ref y)]) hx hb dX11_law_177 hl (k := 1) rfl (nI_1 k2) (by decide) rfl (fun ls hl => ?_)
                        refine lv_goto (tgt := 160) hx hb dX11_law_180 (by decide) ?_
                        exact ih160 (k2 + 1) (upd gd (nI k2).toNatClampNeg (h37 k2)) w216 (by omega) (up5 (by omega) hgd) k218 k219 k220 k221 k222 kp223 ls (lv_sub hl [1, 0] rfl) H locs hP hD hS
                    exact lp160 _ 0 f35 w199 (Nat.zero_add 5) (fun j hj => absurd hj (Nat.not_lt_zero j)) k201 k202 k203 k204 k205 kp206 ls (lv_sub hl [1, 0] rfl) H locs hP hD hS
                · have hf0 : fq = 0 := nI_z0 (by omega) c79
                  obtain ⟨hG, htR2, hlR2, hm2⟩ := hact hon1 hf0
                  subst hf0
                  refine lv_aload_n hx hb dX11_law_82 rfl (lv_at hl 0 rfl) ?_
                  refine x_callV (n := 0) (As := []) (rest := []) F hP hD hS (m_clause l D cy sk sv w167 tg y m2 m3 m4 m5 m6 m8 m9 m10 m11 m12 m13 m14 m17 m18 m19 m20 m21 m22 m23 m24 m29 m30 m31 m32 m33 m34 m35 m36 m37 m39 m40 m41 m42 m43 m44 m45 m46 m47 m48 m49 m51 m52 m53 m54 m56 m57 m58 m59 pc ac sc ln sh gf v0 td (nI b) v50 f24 h36 h37 a mt2 bb2 k168 k169 k171 k172 (fun b => b = y ∨ b = m36 ∨ b = m37) (Or.inl rfl) (Or.inr (Or.inl rfl)) (Or.inr (Or.inr rfl)) ty tm24 tm36 tm37 (by omega) (by omega) (by omega) (by assumption) (by assumption)) gX11_law_X11_clause rfl rfl (by decide +kernel) ⟨(Nat.le_of_ble_eq_true rfl), (Nat.le_of_ble_eq_true rfl)⟩ rfl hl.1 (Nat.le_of_ble_eq_true rfl) k168 rfl dX11_law_83 rfl ⟨(Nat.le_of_ble_eq_true rfl), (Nat.le_of_ble_eq_true rfl)⟩ (fun v225 w226 hp224 H locs hP hD hS => ?_)
                  obtain ⟨ax227, bx228, fvx229, gx230, gx231, rfl, rfl, hz232, hz233, hz234, hz235, kq239, k236, k237, k238⟩ := hp224
                  have k240 := kq239.2 _ _ k169 (orN (tg_ne tm24 ty (by decide)) (orN (tg_ne tm24 tm36 (by decide)) (tg_ne tm24 tm37 (by decide))))
                  have k241 := kq239.2 _ _ k170 (orN (tg_ne tm35 ty (by decide)) (orN (tg_ne tm35 tm36 (by decide)) (tg_ne tm35 tm37 (by decide))))
                  have kp242 := kp173.tr kq239 (fun b9 hm q9 => (fun q9 => Or.elim q9 (fun q9 => q9 ▸ s90) (fun q9 => Or.elim q9 (fun q9 => q9 ▸ s92) (fun q9 => q9 ▸ s93))) q9)
                  refine W.eq (g2 := F0 m 86 ls []) rfl (W.widen (k := 0) (n := 0) (Nat.le_of_ble_eq_true rfl) (Nat.le_of_ble_eq_true rfl) ?_)
                  refine lv_aload_n hx hb dX11_law_86 rfl (lv_at hl 0 rfl) ?_
                  refine x_get (ref := "NoteHouseModel") F hP k236 rfl (fun _ h => List.mem_cons_of_mem _ (List.mem_append_right _ (h))) 28 (Nat.le_of_ble_eq_true rfl) (List.mem_cons_of_mem _ (List.mem_append_left _ (List.mem_append_left _ (List.mem_of_getElem? (i := 3) rfl)))) rfl rfl dX11_law_87 ?_
                  refine lv_if_ne (tgt := 104) hx hb dX11_law_90 (by decide) (fun cF => ?_) (fun cF => ?_)
                  · have hF : ¬ clF f24 ln a mt2 = 0 := fun q => cF (by rw [q]; rfl)
                    refine lv_iconst (v := 0) hx hb dX11_law_104 (by decide) ?_
                    refine lv_istore_n (lv' := [(1, .int 0), (0, .ref y)]) hx hb dX11_law_105 rfl hl (by decide) rfl (fun ls hl => ?_)
                    refine lv_iload_n hx hb dX11_law_106 rfl (lv_at hl 0 rfl) ?_
                    refine lv_if_eq (tgt := 71) hx hb dX11_law_107 (by decide) (fun c_243 => ?_) (fun c_243 => absurd (show (0 : Int32) = (0 : Int32) by decide) c_243)
                    exact ih71 0 ax227 bx228 (clF f24 ln a mt2) gx230 gx231 (clM f24 ln a mt2) (clB f24 ln a bb2) w226 (by omega) (by omega) (by omega) (by omega) (fun h => absurd h (by omega)) (fun _ => by rw [← hG, show 6 - bc5 mt2 = (5 - bc5 mt2) + 1 by have h9 := bt_5 mt2 hm2; omega, lawG_n hF]; exact ⟨rfl, fun q => absurd q hF⟩) k236 k240 k241 k237 k238 kp242 ls (lv_sub hl [1, 0] rfl) H locs hP hD hS
                  · have hF0 : clF f24 ln a mt2 = 0 := nI_z0 (by omega) cF
                    obtain ⟨ea9, htR3, hlR3⟩ := hz235 hF0
                    subst ea9
                    refine lv_aload_n hx hb dX11_law_93 rfl (lv_at hl 0 rfl) ?_
                    refine x_callV (n := 0) (As := []) (rest := []) F hP hD hS (m_isEnd l D cy sk sv w226 tg y m2 m3 m4 m5 m6 m8 m9 m10 m11 m12 m13 m14 m17 m18 m19 m20 m21 m22 m23 m24 m29 m30 m31 m32 m33 m34 m35 m36 m37 m39 m40 m41 m42 m43 m44 m45 m46 m47 m48 m49 m51 m52 m53 m54 m56 m57 m58 m59 pc ac sc ln sh gf v0 td (nI bx228) (nI (clF f24 ln a mt2)) v50 f24 (clA f24 ln a) k236 k240 (fun b => b = y) rfl ty tm24 (by omega) (by omega)) gX11_law_X11_isEnd rfl rfl (by decide +kernel) ⟨(Nat.le_of_ble_eq_true rfl), (Nat.le_of_ble_eq_true rfl)⟩ rfl hl.1 (Nat.le_of_ble_eq_true rfl) k236 rfl dX11_law_94 rfl ⟨(Nat.le_of_ble_eq_true rfl), (Nat.le_of_ble_eq_true rfl)⟩ (fun v245 w246 hp244 H locs hP hD hS => ?_)
                    obtain ⟨ax247, rx248, rfl, rfl, rfl, hz249, hz250, hz251, hz252, kq254, k253⟩ := hp244
                    have k255 := kq254.2 _ _ k240 (tg_ne tm24 ty (by decide))
                    have k256 := kq254.2 _ _ k241 (tg_ne tm35 ty (by decide))
                    have k257 := kq254.2 _ _ k237 (tg_ne tm36 ty (by decide))
                    have k258 := kq254.2 _ _ k238 (tg_ne tm37 ty (by decide))
                    have kp259 := kp242.tr kq254 (fun b9 hm q9 => (fun q9 => q9 ▸ s90) q9)
                    refine W.eq (g2 := F0 m 97 ls [.int (ieR f24 ln (clA f24 ln a))]) rfl (W.widen (k := 0) (n := 0) (Nat.le_of_ble_eq_true rfl) (Nat.le_of_ble_eq_true rfl) ?_)
                    refine lv_if_ne (tgt := 104) hx hb dX11_law_97 (by decide) (fun cE => ?_) (fun cE => ?_)
                    · have hE := ieR_1 cE
                      refine lv_iconst (v := 0) hx hb dX11_law_104 (by decide) ?_
                      refine lv_istore_n (lv' := [(1, .int 0), (0, .ref y)]) hx hb dX11_law_105 rfl hl (by decide) rfl (fun ls hl => ?_)
                      refine lv_iload_n hx hb dX11_law_106 rfl (lv_at hl 0 rfl) ?_
                      refine lv_if_eq (tgt := 71) hx hb dX11_law_107 (by decide) (fun c_260 => ?_) (fun c_260 => absurd (show (0 : Int32) = (0 : Int32) by decide) c_260)
                      exact ih71 0 (nx f24 ln (clA f24 ln a)) (nx f24 ln (clA f24 ln a)) (clF f24 ln a mt2) gx230 gx231 (clM f24 ln a mt2) (clB f24 ln a bb2) w246 (by omega) (by omega) (by omega) (by omega) (fun h => absurd h (by omega)) (fun _ => by rw [← hG, show 6 - bc5 mt2 = (5 - bc5 mt2) + 1 by have h9 := bt_5 mt2 hm2; omega, lawG_e hF0 (by omega)]; exact ⟨hF0.symm, fun _ => hlR3⟩) k253 k255 k256 k257 k258 kp259 ls (lv_sub hl [1, 0] rfl) H locs hP hD hS
                    · have hne := hz252 cE
                      refine lv_iconst (v := 1) hx hb dX11_law_100 (by decide) ?_
                      refine lv_goto (tgt := 105) hx hb dX11_law_101 (by decide) ?_
                      refine lv_istore_n (lv' := [(1, .int 1), (0, .ref y)]) hx hb dX11_law_105 rfl hl (by decide) rfl (fun ls hl => ?_)
                      refine lv_iload_n hx hb dX11_law_106 rfl (lv_at hl 0 rfl) ?_
                      refine lv_if_eq (tgt := 71) hx hb dX11_law_107 (by decide) (fun c_261 => absurd c_261 (show ¬ (1 : Int32) = (0 : Int32) by decide)) (fun c_261 => ?_)
                      refine lv_aload_n hx hb dX11_law_110 rfl (lv_at hl 1 rfl) ?_
                      refine x_get (ref := "NoteHouseModel") F hP k253 rfl (fun _ h => List.mem_cons_of_mem _ (List.mem_append_right _ (h))) 24 (Nat.le_of_ble_eq_true rfl) (List.mem_cons_of_mem _ (List.mem_append_left _ (List.mem_append_left _ (List.mem_of_getElem? (i := 5) rfl)))) rfl rfl dX11_law_111 ?_
                      refine lv_aload_n hx hb dX11_law_114 rfl (lv_at hl 1 rfl) ?_
                      refine x_get (ref := "NoteHouseModel") F hP k253 rfl (fun _ h => List.mem_cons_of_mem _ (List.mem_append_right _ (h))) 26 (Nat.le_of_ble_eq_true rfl) (List.mem_cons_of_mem _ (List.mem_append_left _ (List.mem_append_left _ (List.mem_of_getElem? (i := 2) rfl)))) rfl rfl dX11_law_115 ?_
                      refine x_bald F hP k255 (vp_in_nI (n := (nx f24 ln (clA f24 ln a))) (N := 300) (by omega) (by decide)) dX11_law_118 ?_
                      rw [nI_clamp (n := nx f24 ln (clA f24 ln a)) (by omega)]
                      refine lv_bipush (v := 59) hx hb dX11_law_119 (by decide) ?_
                      refine lv_icmp_eq (tgt := 133) hx hb dX11_law_121 (by decide) (fun c59 => ?_) (fun c59 => ?_)
                      · refine lv_aload_n hx hb dX11_law_133 rfl (lv_at hl 1 rfl) ?_
                        refine lv_dup hx hb dX11_law_134 rfl ?_
                        refine x_get (ref := "NoteHouseModel") F hP k253 rfl (fun _ h => List.mem_cons_of_mem _ (List.mem_append_right _ (h))) 26 (Nat.le_of_ble_eq_true rfl) (List.mem_cons_of_mem _ (List.mem_append_left _ (List.mem_append_left _ (List.mem_of_getElem? (i := 2) rfl)))) rfl rfl dX11_law_135 ?_
                        refine lv_iconst (v := 1) hx hb dX11_law_138 (by decide) ?_
                        refine lv_iadd hx hb dX11_law_139 ?_
                        rw [show ((nI (nx f24 ln (clA f24 ln a))) + 1 : Int32) = nI ((nx f24 ln (clA f24 ln a)) + 1) from nI_add (nx f24 ln (clA f24 ln a)) 1]
                        refine y_put (ref := "NoteHouseModel") F hP hD hS k253 rfl (fun _ h => List.mem_cons_of_mem _ (List.mem_append_right _ (h))) tyX11_ok nmX11 26 (Nat.le_of_ble_eq_true rfl) (List.mem_cons_of_mem _ (List.mem_append_left _ (List.mem_append_left _ (List.mem_of_getElem? (i := 2) rfl)))) rfl rfl rfl rfl (Nat.le_of_ble_eq_true rfl) dX11_law_140 (fun w262 ew263 H locs hP hD hS => ?_)
                        have k264 : wd_at w262 y (.inr (11, [.int v0, .int td, .ref m2, .ref m3, .ref m4, .ref m5, .ref m6, .int (nI pc), .ref m8, .ref m9, .ref m10, .ref m11, .ref m12, .ref m13, .ref m14, .int (nI ac), .int (nI sc), .ref m17, .ref m18, .ref m19, .ref m20, .ref m21, .ref m22, .ref m23, .ref m24, .int (nI ln), .int (nI ((nx f24 ln (clA f24 ln a)) + 1)), .int (nI (nx f24 ln (clA f24 ln a))), .int (nI (clF f24 ln a mt2)), .ref m29, .ref m30, .ref m31, .ref m32, .ref m33, .ref m34, .ref m35, .ref m36, .ref m37, .int (nI sh), .ref m39, .ref m40, .ref m41, .ref m42, .ref m43, .ref m44, .ref m45, .ref m46, .ref m47, .ref m48, .ref m49, .int v50, .ref m51, .ref m52, .ref m53, .ref m54, .int (nI gf), .ref m56, .ref m57, .ref m58, .ref m59])) := wd_at.ps ew263 k253
                        have k265 := wd_at.pt ew263 k255 (tg_ne tm24 ty (by decide))
                        have k266 := wd_at.pt ew263 k256 (tg_ne tm35 ty (by decide))
                        have k267 := wd_at.pt ew263 k257 (tg_ne tm36 ty (by decide))
                        have k268 := wd_at.pt ew263 k258 (tg_ne tm37 ty (by decide))
                        have kp269 := kp259.put ew263 s90
                        refine lv_goto (tgt := 71) hx hb dX11_law_143 (by decide) ?_
                        exact ih71 1 ((nx f24 ln (clA f24 ln a)) + 1) (nx f24 ln (clA f24 ln a)) (clF f24 ln a mt2) gx230 gx231 (clM f24 ln a mt2) (clB f24 ln a bb2) w262 (by omega) (by omega) (by omega) (by omega) (fun _ _ => ⟨by rw [(clM_s hm2 hF0).2, show 6 - (bc5 mt2 + 1) = 5 - bc5 mt2 by omega, ← lawG_s hF0 hne c59, ← hG, show 6 - bc5 mt2 = (5 - bc5 mt2) + 1 by have h9 := bt_5 mt2 hm2; omega], htR3, hlR3, (clM_s hm2 hF0).1⟩) (fun h => absurd h (by omega)) k264 k265 k266 k267 k268 kp269 ls (lv_sub hl [1, 0] rfl) H locs hP hD hS
                      · refine lv_aload_n hx hb dX11_law_124 rfl (lv_at hl 1 rfl) ?_
                        refine lv_iconst (v := 0) hx hb dX11_law_125 (by decide) ?_
                        refine lv_aload_n hx hb dX11_law_126 rfl (lv_at hl 1 rfl) ?_
                        refine x_get (ref := "NoteHouseModel") F hP k253 rfl (fun _ h => List.mem_cons_of_mem _ (List.mem_append_right _ (h))) 26 (Nat.le_of_ble_eq_true rfl) (List.mem_cons_of_mem _ (List.mem_append_left _ (List.mem_append_left _ (List.mem_of_getElem? (i := 2) rfl)))) rfl rfl dX11_law_127 ?_
                        refine x_callV (n := 2) (As := [.int 0, .int (nI (nx f24 ln (clA f24 ln a)))]) (rest := []) F hP hD hS (m_fails l D cy sk sv w246 tg y m2 m3 m4 m5 m6 m8 m9 m10 m11 m12 m13 m14 m17 m18 m19 m20 m21 m22 m23 m24 m29 m30 m31 m32 m33 m34 m35 m36 m37 m39 m40 m41 m42 m43 m44 m45 m46 m47 m48 m49 m51 m52 m53 m54 m56 m57 m58 m59 pc ac sc ln sh gf v0 td (nI (nx f24 ln (clA f24 ln a))) (nI (nx f24 ln (clA f24 ln a))) v50 (clF f24 ln a mt2) 0 (nx f24 ln (clA f24 ln a)) k253 (fun b => b = y) rfl ty (by omega) (by omega) (by omega)) gX11_law_X11_fails rfl rfl (by decide +kernel) ⟨(Nat.le_of_ble_eq_true rfl), (Nat.le_of_ble_eq_true rfl)⟩ rfl hl.1 (Nat.le_of_ble_eq_true rfl) k253 rfl dX11_law_130 rfl ⟨(Nat.le_of_ble_eq_true rfl), (Nat.le_of_ble_eq_true rfl)⟩ (fun v271 w272 hp270 H locs hP hD hS => ?_)
                        obtain ⟨fwx273, rfl, rfl, hz274, hz275, kq277, k276⟩ := hp270
                        have k278 := kq277.2 _ _ k255 (tg_ne tm24 ty (by decide))
                        have k279 := kq277.2 _ _ k256 (tg_ne tm35 ty (by decide))
                        have k280 := kq277.2 _ _ k257 (tg_ne tm36 ty (by decide))
                        have k281 := kq277.2 _ _ k258 (tg_ne tm37 ty (by decide))
                        have kp282 := kp259.tr kq277 (fun b9 hm q9 => (fun q9 => q9 ▸ s90) q9)
                        refine W.eq (g2 := F0 m 133 ls []) rfl (W.widen (k := 0) (n := 0) (Nat.le_of_ble_eq_true rfl) (Nat.le_of_ble_eq_true rfl) ?_)
                        refine lv_aload_n hx hb dX11_law_133 rfl (lv_at hl 1 rfl) ?_
                        refine lv_dup hx hb dX11_law_134 rfl ?_
                        refine x_get (ref := "NoteHouseModel") F hP k276 rfl (fun _ h => List.mem_cons_of_mem _ (List.mem_append_right _ (h))) 26 (Nat.le_of_ble_eq_true rfl) (List.mem_cons_of_mem _ (List.mem_append_left _ (List.mem_append_left _ (List.mem_of_getElem? (i := 2) rfl)))) rfl rfl dX11_law_135 ?_
                        refine lv_iconst (v := 1) hx hb dX11_law_138 (by decide) ?_
                        refine lv_iadd hx hb dX11_law_139 ?_
                        rw [show ((nI (nx f24 ln (clA f24 ln a))) + 1 : Int32) = nI ((nx f24 ln (clA f24 ln a)) + 1) from nI_add (nx f24 ln (clA f24 ln a)) 1]
                        refine y_put (ref := "NoteHouseModel") F hP hD hS k276 rfl (fun _ h => List.mem_cons_of_mem _ (List.mem_append_right _ (h))) tyX11_ok nmX11 26 (Nat.le_of_ble_eq_true rfl) (List.mem_cons_of_mem _ (List.mem_append_left _ (List.mem_append_left _ (List.mem_of_getElem? (i := 2) rfl)))) rfl rfl rfl rfl (Nat.le_of_ble_eq_true rfl) dX11_law_140 (fun w283 ew284 H locs hP hD hS => ?_)
                        have k285 : wd_at w283 y (.inr (11, [.int v0, .int td, .ref m2, .ref m3, .ref m4, .ref m5, .ref m6, .int (nI pc), .ref m8, .ref m9, .ref m10, .ref m11, .ref m12, .ref m13, .ref m14, .int (nI ac), .int (nI sc), .ref m17, .ref m18, .ref m19, .ref m20, .ref m21, .ref m22, .ref m23, .ref m24, .int (nI ln), .int (nI ((nx f24 ln (clA f24 ln a)) + 1)), .int (nI (nx f24 ln (clA f24 ln a))), .int (nI (flF (clF f24 ln a mt2) 0 (nx f24 ln (clA f24 ln a)))), .ref m29, .ref m30, .ref m31, .ref m32, .ref m33, .ref m34, .ref m35, .ref m36, .ref m37, .int (nI sh), .ref m39, .ref m40, .ref m41, .ref m42, .ref m43, .ref m44, .ref m45, .ref m46, .ref m47, .ref m48, .ref m49, .int v50, .ref m51, .ref m52, .ref m53, .ref m54, .int (nI gf), .ref m56, .ref m57, .ref m58, .ref m59])) := wd_at.ps ew284 k276
                        have k286 := wd_at.pt ew284 k278 (tg_ne tm24 ty (by decide))
                        have k287 := wd_at.pt ew284 k279 (tg_ne tm35 ty (by decide))
                        have k288 := wd_at.pt ew284 k280 (tg_ne tm36 ty (by decide))
                        have k289 := wd_at.pt ew284 k281 (tg_ne tm37 ty (by decide))
                        have kp290 := kp282.put ew284 s90
                        refine lv_goto (tgt := 71) hx hb dX11_law_143 (by decide) ?_
                        exact ih71 1 ((nx f24 ln (clA f24 ln a)) + 1) (nx f24 ln (clA f24 ln a)) (flF (clF f24 ln a mt2) 0 (nx f24 ln (clA f24 ln a))) gx230 gx231 (clM f24 ln a mt2) (clB f24 ln a bb2) w283 (by omega) (by omega) (by omega) (by omega) (fun _ q => absurd q (by omega)) (fun _ => by rw [← hG, show 6 - bc5 mt2 = (5 - bc5 mt2) + 1 by have h9 := bt_5 mt2 hm2; omega, lawG_f hF0 hne c59]; exact ⟨by rw [hF0, flF_0], fun q => absurd q (by omega)⟩) k285 k286 k287 k288 k289 kp290 ls (lv_sub hl [1, 0] rfl) H locs hP hD hS
          exact lp71 (2 * ln + 2) 1 (nx f24 ln 0) (nx f24 ln 0) 0 ga gb 0 law0 w28 (by omega) (by omega) (by omega) (by omega) (fun _ _ => ⟨by rw [show bc5 0 = 0 from by decide]; exact (lawT_3 h200 hnx).symm, htR0, hlR0, by decide⟩) (fun h => absurd h (by omega)) k35 k37 k38 k39 k40 kp41 ls (lv_sub hl [1, 0] rfl) H locs hP hD hS
      · have h200 : 200 < ln := Nat.lt_of_not_le (fun q => c_25 (nI_le (b := 200) q (by omega)))
        refine lv_aload_n hx hb dX11_law_50 rfl (lv_at hl 0 rfl) ?_
        refine lv_iconst (v := 0) hx hb dX11_law_51 (by decide) ?_
        refine lv_sipush (v := 200) hx hb dX11_law_52 (by decide) ?_
        refine x_callV (n := 2) (As := [.int 0, .int 200]) (rest := []) F hP hD hS (m_fails l D cy sk sv w17 tg y m2 m3 m4 m5 m6 m8 m9 m10 m11 m12 m13 m14 m17 m18 m19 m20 m21 m22 m23 m24 m29 m30 m31 m32 m33 m34 m35 m36 m37 m39 m40 m41 m42 m43 m44 m45 m46 m47 m48 m49 m51 m52 m53 m54 m56 m57 m58 m59 pc ac sc ln sh gf v0 td 0 v27 v50 0 0 200 k19 (fun b => b = y) rfl ty (by omega) (by omega) (by omega)) gX11_law_X11_fails rfl rfl (by decide +kernel) ⟨(Nat.le_of_ble_eq_true rfl), (Nat.le_of_ble_eq_true rfl)⟩ rfl hl.1 (Nat.le_of_ble_eq_true rfl) k19 rfl dX11_law_55 rfl ⟨(Nat.le_of_ble_eq_true rfl), (Nat.le_of_ble_eq_true rfl)⟩ (fun v292 w293 hp291 H locs hP hD hS => ?_)
        obtain ⟨fwx294, rfl, rfl, hz295, hz296, kq298, k297⟩ := hp291
        have k299 := kq298.2 _ _ k20 (tg_ne tm24 ty (by decide))
        have k300 := kq298.2 _ _ k21 (tg_ne tm35 ty (by decide))
        have k301 := kq298.2 _ _ k22 (tg_ne tm36 ty (by decide))
        have k302 := kq298.2 _ _ k23 (tg_ne tm37 ty (by decide))
        have kp303 := kp24.tr kq298 (fun b9 hm q9 => (fun q9 => q9 ▸ s90) q9)
        refine W.eq (g2 := F0 m 58 ls []) rfl (W.widen (k := 0) (n := 0) (Nat.le_of_ble_eq_true rfl) (Nat.le_of_ble_eq_true rfl) ?_)
        refine lv_aload_n hx hb dX11_law_58 rfl (lv_at hl 0 rfl) ?_
        refine x_callV (n := 0) (As := []) (rest := []) F hP hD hS (m_isEnd l D cy sk sv w293 tg y m2 m3 m4 m5 m6 m8 m9 m10 m11 m12 m13 m14 m17 m18 m19 m20 m21 m22 m23 m24 m29 m30 m31 m32 m33 m34 m35 m36 m37 m39 m40 m41 m42 m43 m44 m45 m46 m47 m48 m49 m51 m52 m53 m54 m56 m57 m58 m59 pc ac sc ln sh gf v0 td v27 (nI (flF 0 0 200)) v50 f24 0 k297 k299 (fun b => b = y) rfl ty tm24 (by omega) (by omega)) gX11_law_X11_isEnd rfl rfl (by decide +kernel) ⟨(Nat.le_of_ble_eq_true rfl), (Nat.le_of_ble_eq_true rfl)⟩ rfl hl.1 (Nat.le_of_ble_eq_true rfl) k297 rfl dX11_law_59 rfl ⟨(Nat.le_of_ble_eq_true rfl), (Nat.le_of_ble_eq_true rfl)⟩ (fun v305 w306 hp304 H locs hP hD hS => ?_)
        obtain ⟨ax307, rx308, rfl, rfl, rfl, hz309, hz310, hz311, hz312, kq314, k313⟩ := hp304
        have k315 := kq314.2 _ _ k299 (tg_ne tm24 ty (by decide))
        have k316 := kq314.2 _ _ k300 (tg_ne tm35 ty (by decide))
        have k317 := kq314.2 _ _ k301 (tg_ne tm36 ty (by decide))
        have k318 := kq314.2 _ _ k302 (tg_ne tm37 ty (by decide))
        have kp319 := kp303.tr kq314 (fun b9 hm q9 => (fun q9 => q9 ▸ s90) q9)
        refine W.eq (g2 := F0 m 62 ls [.int (ieR f24 ln 0)]) rfl (W.widen (k := 0) (n := 0) (Nat.le_of_ble_eq_true rfl) (Nat.le_of_ble_eq_true rfl) ?_)
        refine lv_if_ne (tgt := 69) hx hb dX11_law_62 (by decide) (fun c_320 => ?_) (fun c_320 => ?_)
        · have hnx : ¬ nx f24 ln 0 < ln := by rw [ieR_1 c_320]; exact Nat.lt_irrefl _
          refine lv_iconst (v := 0) hx hb dX11_law_69 (by decide) ?_
          refine lv_istore_n (lv' := [(1, .int 0), (0, .ref y)]) hx hb dX11_law_70 rfl hl (by decide) rfl (fun ls hl => ?_)
          have lp71 : ∀ (N : Nat) (on : Nat) (a : Nat) (b : Nat) (fq : Nat) (h36 : Nat → Int32) (h37 : Nat → Int32) (mt2 : Nat) (bb2 : Nat → Int32) (w321 : Wd), (2 * ln + on + 1 ≤ 2 * a + N) → (a ≤ ln) → (fq < 2000) → (on ≤ 1) → (0 < on → fq = 0 → (lawG f24 ln (6 - bc5 mt2) a mt2 bb2 = lawT f24 ln ∧ tR h36 mt2 ∧ lR h37 bb2 ∧ mt2 < 32)) → ((on = 0 ∨ 0 < fq) → (lawT f24 ln).1 = fq ∧ (fq = 0 → lR h37 (lawT f24 ln).2)) → (wd_at w321 y (.inr (11, [.int v0, .int td, .ref m2, .ref m3, .ref m4, .ref m5, .ref m6, .int (nI pc), .ref m8, .ref m9, .ref m10, .ref m11, .ref m12, .ref m13, .ref m14, .int (nI ac), .int (nI sc), .ref m17, .ref m18, .ref m19, .ref m20, .ref m21, .ref m22, .ref m23, .ref m24, .int (nI ln), .int (nI a), .int (nI b), .int (nI fq), .ref m29, .ref m30, .ref m31, .ref m32, .ref m33, .ref m34, .ref m35, .ref m36, .ref m37, .int (nI sh), .ref m39, .ref m40, .ref m41, .ref m42, .ref m43, .ref m44, .ref m45, .ref m46, .ref m47, .ref m48, .ref m49, .int v50, .ref m51, .ref m52, .ref m53, .ref m54, .int (nI gf), .ref m56, .ref m57, .ref m58, .ref m59]))) → (wd_at w321 m24 (.inl (cy 0, 300, .inl f24))) → (wd_at w321 m35 (.inl (cy 2, 5, .inl f35))) → (wd_at w321 m36 (.inl (cy 4, 5, .inl h36))) → (wd_at w321 m37 (.inl (cy 2, 5, .inl h37))) → (wd_kp S w w321) → ∀ (ls : Array Slot), lv_has ls 3 [(0, .ref y), (1, .int (nI on))] → Wv p l e ({ frames := 6, cells := 0, slots := 0, locals := 130 }) s m args below meth c D A (0) (0) Q w321 (F0 m 71 ls []) := by
            intro N
            induction N with
            | zero =>
              intro on a b fq h36 h37 mt2 bb2 w321 hN71 ha2 hfq hon hact hdone k322 k323 k324 k325 k326 kp327 ls hl H locs hP hD hS
              exact absurd hN71 (by omega)
            | succ N ih71 =>
              intro on a b fq h36 h37 mt2 bb2 w321 hN71 ha2 hfq hon hact hdone k322 k323 k324 k325 k326 kp327 ls hl H locs hP hD hS
              refine lv_iload_n hx hb dX11_law_71 rfl (lv_at hl 1 rfl) ?_
              refine lv_if_eq (tgt := 146) hx hb dX11_law_72 (by decide) (fun c72 => ?_) (fun c72 => ?_)
              · have hfin := hdone (Or.inl (nI_z0 (by omega) c72))
                refine lv_aload_n hx hb dX11_law_146 rfl (lv_at hl 0 rfl) ?_
                refine lv_iconst (v := 0) hx hb dX11_law_147 (by decide) ?_
                refine y_put (ref := "NoteHouseModel") F hP hD hS k322 rfl (fun _ h => List.mem_cons_of_mem _ (List.mem_append_right _ (h))) tyX11_ok nmX11 25 (Nat.le_of_ble_eq_true rfl) (List.mem_cons_of_mem _ (List.mem_append_left _ (List.mem_append_left _ (List.mem_of_getElem? (i := 4) rfl)))) rfl rfl rfl rfl (Nat.le_of_ble_eq_true rfl) dX11_law_148 (fun w328 ew329 H locs hP hD hS => ?_)
                have k330 : wd_at w328 y (.inr (11, [.int v0, .int td, .ref m2, .ref m3, .ref m4, .ref m5, .ref m6, .int (nI pc), .ref m8, .ref m9, .ref m10, .ref m11, .ref m12, .ref m13, .ref m14, .int (nI ac), .int (nI sc), .ref m17, .ref m18, .ref m19, .ref m20, .ref m21, .ref m22, .ref m23, .ref m24, .int 0, .int (nI a), .int (nI b), .int (nI fq), .ref m29, .ref m30, .ref m31, .ref m32, .ref m33, .ref m34, .ref m35, .ref m36, .ref m37, .int (nI sh), .ref m39, .ref m40, .ref m41, .ref m42, .ref m43, .ref m44, .ref m45, .ref m46, .ref m47, .ref m48, .ref m49, .int v50, .ref m51, .ref m52, .ref m53, .ref m54, .int (nI gf), .ref m56, .ref m57, .ref m58, .ref m59])) := wd_at.ps ew329 k322
                have k331 := wd_at.pt ew329 k323 (tg_ne tm24 ty (by decide))
                have k332 := wd_at.pt ew329 k324 (tg_ne tm35 ty (by decide))
                have k333 := wd_at.pt ew329 k325 (tg_ne tm36 ty (by decide))
                have k334 := wd_at.pt ew329 k326 (tg_ne tm37 ty (by decide))
                have kp335 := kp327.put ew329 s90
                refine lv_aload_n hx hb dX11_law_151 rfl (lv_at hl 0 rfl) ?_
                refine x_get (ref := "NoteHouseModel") F hP k330 rfl (fun _ h => List.mem_cons_of_mem _ (List.mem_append_right _ (h))) 28 (Nat.le_of_ble_eq_true rfl) (List.mem_cons_of_mem _ (List.mem_append_left _ (List.mem_append_left _ (List.mem_of_getElem? (i := 3) rfl)))) rfl rfl dX11_law_152 ?_
                refine lv_if_ne (tgt := 183) hx hb dX11_law_155 (by decide) (fun c155 => ?_) (fun c155 => ?_)
                · refine lv_aload_n hx hb dX11_law_183 rfl (lv_at hl 0 rfl) ?_
                  refine x_get (ref := "NoteHouseModel") F hP k330 rfl (fun _ h => List.mem_cons_of_mem _ (List.mem_append_right _ (h))) 28 (Nat.le_of_ble_eq_true rfl) (List.mem_cons_of_mem _ (List.mem_append_left _ (List.mem_append_left _ (List.mem_of_getElem? (i := 3) rfl)))) rfl rfl dX11_law_184 ?_
                  exact y_ir K hP hD hS (Nat.le_of_ble_eq_true rfl) (Nat.le_of_ble_eq_true rfl) (ty := .int) rfl rfl dX11_law_187 (⟨nI a, nI b, nI fq, f35, h36, h37, nI fq, rfl, by unfold lawA; rw [hfin.1], by unfold lawB; rw [if_neg (by rw [hfin.1]; exact fun q => c155 (by rw [q]; rfl))]; exact hlb, kp335, k330, k332, k333, k334⟩)
                · refine lv_iconst (v := 0) hx hb dX11_law_158 (by decide) ?_
                  refine lv_istore_n (lv' := [(2, .int 0), (0, .ref y), (1, .int (nI on))]) hx hb dX11_law_159 rfl hl (by decide) rfl (fun ls hl => ?_)
                  have lp160 : ∀ (N : Nat) (k2 : Nat) (gd : Nat → Int32) (w336 : Wd), (k2 + N = 5) → (∀ j, j < k2 → gd j = h37 j) → (wd_at w336 y (.inr (11, [.int v0, .int td, .ref m2, .ref m3, .ref m4, .ref m5, .ref m6, .int (nI pc), .ref m8, .ref m9, .ref m10, .ref m11, .ref m12, .ref m13, .ref m14, .int (nI ac), .int (nI sc), .ref m17, .ref m18, .ref m19, .ref m20, .ref m21, .ref m22, .ref m23, .ref m24, .int 0, .int (nI a), .int (nI b), .int (nI fq), .ref m29, .ref m30, .ref m31, .ref m32, .ref m33, .ref m34, .ref m35, .ref m36, .ref m37, .int (nI sh), .ref m39, .ref m40, .ref m41, .ref m42, .ref m43, .ref m44, .ref m45, .ref m46, .ref m47, .ref m48, .ref m49, .int v50, .ref m51, .ref m52, .ref m53, .ref m54, .int (nI gf), .ref m56, .ref m57, .ref m58, .ref m59]))) → (wd_at w336 m24 (.inl (cy 0, 300, .inl f24))) → (wd_at w336 m35 (.inl (cy 2, 5, .inl gd))) → (wd_at w336 m36 (.inl (cy 4, 5, .inl h36))) → (wd_at w336 m37 (.inl (cy 2, 5, .inl h37))) → (wd_kp S w w336) → ∀ (ls : Array Slot), lv_has ls 3 [(0, .ref y), (2, .int (nI k2))] → Wv p l e ({ frames := 6, cells := 0, slots := 0, locals := 130 }) s m args below meth c D A (0) (0) Q w336 (F0 m 160 ls []) := by
                    intro N
                    induction N with
                    | zero =>
                      intro k2 gd w336 hN160 hgd k337 k338 k339 k340 k341 kp342 ls hl H locs hP hD hS
                      refine lv_iload_n hx hb dX11_law_160 rfl (lv_at hl 1 rfl) ?_
                      refine lv_iconst (v := 5) hx hb dX11_law_161 (by decide) ?_
                      refine lv_icmp_ge (tgt := 183) hx hb dX11_law_162 (by decide) (fun c_343 => ?_) (fun c_343 => absurd (nI_le (a := 5) (b := k2) (by omega) (by omega)) c_343)
                      refine lv_aload_n hx hb dX11_law_183 rfl (lv_at hl 0 rfl) ?_
                      refine x_get (ref := "NoteHouseModel") F hP k337 rfl (fun _ h => List.mem_cons_of_mem _ (List.mem_append_right _ (h))) 28 (Nat.le_of_ble_eq_true rfl) (List.mem_cons_of_mem _ (List.mem_append_left _ (List.mem_append_left _ (List.mem_of_getElem? (i := 3) rfl)))) rfl rfl dX11_law_184 ?_
                      exact y_ir K hP hD hS (Nat.le_of_ble_eq_true rfl) (Nat.le_of_ble_eq_true rfl) (ty := .int) rfl rfl dX11_law_187 (⟨nI a, nI b, nI fq, gd, h36, h37, nI fq, rfl, by unfold lawA; rw [hfin.1], by unfold lawB; rw [if_pos (hfin.1.trans (nI_z0 (by omega) c155))]; exact fun j hj => (hgd j (by omega)).trans (hfin.2 (nI_z0 (by omega) c155) j hj), kp342, k337, k339, k340, k341⟩)
                    | succ N ih160 =>
                      intro k2 gd w336 hN160 hgd k337 k338 k339 k340 k341 kp342 ls hl H locs hP hD hS
                      refine lv_iload_n hx hb dX11_law_160 rfl (lv_at hl 1 rfl) ?_
                      refine lv_iconst (v := 5) hx hb dX11_law_161 (by decide) ?_
                      refine lv_icmp_ge (tgt := 183) hx hb dX11_law_162 (by decide) (fun c_344 => absurd c_344 (nI_ge (a := k2) (b := 5) (by omega) (by omega))) (fun c_344 => ?_)
                      refine lv_aload_n hx hb dX11_law_165 rfl (lv_at hl 0 rfl) ?_
                      refine x_get (ref := "NoteHouseModel") F hP k337 rfl (fun _ h => List.mem_cons_of_mem _ (List.mem_append_right _ (h))) 35 (Nat.le_of_ble_eq_true rfl) (List.mem_cons_of_mem _ (List.mem_append_left _ (List.mem_append_left _ (List.mem_of_getElem? (i := 6) rfl)))) rfl rfl dX11_law_166 ?_
                      refine lv_iload_n hx hb dX11_law_169 rfl (lv_at hl 1 rfl) ?_
                      refine lv_aload_n hx hb dX11_law_170 rfl (lv_at hl 0 rfl) ?_
                      refine x_get (ref := "NoteHouseModel") F hP k337 rfl (fun _ h => List.mem_cons_of_mem _ (List.mem_append_right _ (h))) 37 (Nat.le_of_ble_eq_true rfl) (List.mem_cons_of_mem _ (List.mem_append_left _ (List.mem_append_left _ (List.mem_of_getElem? (i := 1) rfl)))) rfl rfl dX11_law_171 ?_
                      refine lv_iload_n hx hb dX11_law_174 rfl (lv_at hl 1 rfl) ?_
                      refine x_iald F hP k341 (vp_in_nI (n := k2) (N := 5) (by omega) (by decide)) dX11_law_175 ?_
                      rw [nI_clamp (n := k2) (by omega)]
                      refine y_iast F hP hD hS k339 (vp_in_nI (n := k2) (N := 5) (by omega) (by decide)) dX11_law_176 (fun w345 ew346 H locs hP hD hS => ?_)
                      have k347 := wd_at.pt ew346 k337 (tg_ne ty tm35 (by decide))
                      have k348 := wd_at.pt ew346 k338 (tg_ne tm24 tm35 (by decide))
                      have k349 : wd_at w345 m35 (.inl (cy 2, 5, .inl (upd gd (nI k2).toNatClampNeg (h37 k2)))) := wd_at.ps ew346 k339
                      have k350 := wd_at.pt ew346 k340 (tg_ne tm36 tm35 (by decide))
                      have k351 := wd_at.pt ew346 k341 (tg_ne tm37 tm35 (by decide))
                      have kp352 := kp342.put ew346 s91
                      refine lv_iinc (v := nI (k2 + 1)) (lv' := [(2, .int (nI (k2 + 1))), (0, .ref y)]) hx hb dX11_law_177 hl (k := 1) rfl (nI_1 k2) (by decide) rfl (fun ls hl => ?_)
                      refine lv_goto (tgt := 160) hx hb dX11_law_180 (by decide) ?_
                      exact ih160 (k2 + 1) (upd gd (nI k2).toNatClampNeg (h37 k2)) w345 (by omega) (up5 (by omega) hgd) k347 k348 k349 k350 k351 kp352 ls (lv_sub hl [1, 0] rfl) H locs hP hD hS
                  exact lp160 _ 0 f35 w328 (Nat.zero_add 5) (fun j hj => absurd hj (Nat.not_lt_zero j)) k330 k331 k332 k333 k334 kp335 ls (lv_sub hl [1, 0] rfl) H locs hP hD hS
              · have hon1 : 0 < on := nI_nz (by omega) c72
                refine lv_aload_n hx hb dX11_law_75 rfl (lv_at hl 0 rfl) ?_
                refine x_get (ref := "NoteHouseModel") F hP k322 rfl (fun _ h => List.mem_cons_of_mem _ (List.mem_append_right _ (h))) 28 (Nat.le_of_ble_eq_true rfl) (List.mem_cons_of_mem _ (List.mem_append_left _ (List.mem_append_left _ (List.mem_of_getElem? (i := 3) rfl)))) rfl rfl dX11_law_76 ?_
                refine lv_if_ne (tgt := 146) hx hb dX11_law_79 (by decide) (fun c79 => ?_) (fun c79 => ?_)
                · have hfin := hdone (Or.inr (nI_nz (by omega) c79))
                  refine lv_aload_n hx hb dX11_law_146 rfl (lv_at hl 0 rfl) ?_
                  refine lv_iconst (v := 0) hx hb dX11_law_147 (by decide) ?_
                  refine y_put (ref := "NoteHouseModel") F hP hD hS k322 rfl (fun _ h => List.mem_cons_of_mem _ (List.mem_append_right _ (h))) tyX11_ok nmX11 25 (Nat.le_of_ble_eq_true rfl) (List.mem_cons_of_mem _ (List.mem_append_left _ (List.mem_append_left _ (List.mem_of_getElem? (i := 4) rfl)))) rfl rfl rfl rfl (Nat.le_of_ble_eq_true rfl) dX11_law_148 (fun w353 ew354 H locs hP hD hS => ?_)
                  have k355 : wd_at w353 y (.inr (11, [.int v0, .int td, .ref m2, .ref m3, .ref m4, .ref m5, .ref m6, .int (nI pc), .ref m8, .ref m9, .ref m10, .ref m11, .ref m12, .ref m13, .ref m14, .int (nI ac), .int (nI sc), .ref m17, .ref m18, .ref m19, .ref m20, .ref m21, .ref m22, .ref m23, .ref m24, .int 0, .int (nI a), .int (nI b), .int (nI fq), .ref m29, .ref m30, .ref m31, .ref m32, .ref m33, .ref m34, .ref m35, .ref m36, .ref m37, .int (nI sh), .ref m39, .ref m40, .ref m41, .ref m42, .ref m43, .ref m44, .ref m45, .ref m46, .ref m47, .ref m48, .ref m49, .int v50, .ref m51, .ref m52, .ref m53, .ref m54, .int (nI gf), .ref m56, .ref m57, .ref m58, .ref m59])) := wd_at.ps ew354 k322
                  have k356 := wd_at.pt ew354 k323 (tg_ne tm24 ty (by decide))
                  have k357 := wd_at.pt ew354 k324 (tg_ne tm35 ty (by decide))
                  have k358 := wd_at.pt ew354 k325 (tg_ne tm36 ty (by decide))
                  have k359 := wd_at.pt ew354 k326 (tg_ne tm37 ty (by decide))
                  have kp360 := kp327.put ew354 s90
                  refine lv_aload_n hx hb dX11_law_151 rfl (lv_at hl 0 rfl) ?_
                  refine x_get (ref := "NoteHouseModel") F hP k355 rfl (fun _ h => List.mem_cons_of_mem _ (List.mem_append_right _ (h))) 28 (Nat.le_of_ble_eq_true rfl) (List.mem_cons_of_mem _ (List.mem_append_left _ (List.mem_append_left _ (List.mem_of_getElem? (i := 3) rfl)))) rfl rfl dX11_law_152 ?_
                  refine lv_if_ne (tgt := 183) hx hb dX11_law_155 (by decide) (fun c155 => ?_) (fun c155 => ?_)
                  · refine lv_aload_n hx hb dX11_law_183 rfl (lv_at hl 0 rfl) ?_
                    refine x_get (ref := "NoteHouseModel") F hP k355 rfl (fun _ h => List.mem_cons_of_mem _ (List.mem_append_right _ (h))) 28 (Nat.le_of_ble_eq_true rfl) (List.mem_cons_of_mem _ (List.mem_append_left _ (List.mem_append_left _ (List.mem_of_getElem? (i := 3) rfl)))) rfl rfl dX11_law_184 ?_
                    exact y_ir K hP hD hS (Nat.le_of_ble_eq_true rfl) (Nat.le_of_ble_eq_true rfl) (ty := .int) rfl rfl dX11_law_187 (⟨nI a, nI b, nI fq, f35, h36, h37, nI fq, rfl, by unfold lawA; rw [hfin.1], by unfold lawB; rw [if_neg (by rw [hfin.1]; exact fun q => c155 (by rw [q]; rfl))]; exact hlb, kp360, k355, k357, k358, k359⟩)
                  · refine lv_iconst (v := 0) hx hb dX11_law_158 (by decide) ?_
                    refine lv_istore_n (lv' := [(2, .int 0), (0, .ref y), (1, .int (nI on))]) hx hb dX11_law_159 rfl hl (by decide) rfl (fun ls hl => ?_)
                    have lp160 : ∀ (N : Nat) (k2 : Nat) (gd : Nat → Int32) (w361 : Wd), (k2 + N = 5) → (∀ j, j < k2 → gd j = h37 j) → (wd_at w361 y (.inr (11, [.int v0, .int td, .ref m2, .ref m3, .ref m4, .ref m5, .ref m6, .int (nI pc), .ref m8, .ref m9, .ref m10, .ref m11, .ref m12, .ref m13, .ref m14, .int (nI ac), .int (nI sc), .ref m17, .ref m18, .ref m19, .ref m20, .ref m21, .ref m22, .ref m23, .ref m24, .int 0, .int (nI a), .int (nI b), .int (nI fq), .ref m29, .ref m30, .ref m31, .ref m32, .ref m33, .ref m34, .ref m35, .ref m36, .ref m37, .int (nI sh), .ref m39, .ref m40, .ref m41, .ref m42, .ref m43, .ref m44, .ref m45, .ref m46, .ref m47, .ref m48, .ref m49, .int v50, .ref m51, .ref m52, .ref m53, .ref m54, .int (nI gf), .ref m56, .ref m57, .ref m58, .ref m59]))) → (wd_at w361 m24 (.inl (cy 0, 300, .inl f24))) → (wd_at w361 m35 (.inl (cy 2, 5, .inl gd))) → (wd_at w361 m36 (.inl (cy 4, 5, .inl h36))) → (wd_at w361 m37 (.inl (cy 2, 5, .inl h37))) → (wd_kp S w w361) → ∀ (ls : Array Slot), lv_has ls 3 [(0, .ref y), (2, .int (nI k2))] → Wv p l e ({ frames := 6, cells := 0, slots := 0, locals := 130 }) s m args below meth c D A (0) (0) Q w361 (F0 m 160 ls []) := by
                      intro N
                      induction N with
                      | zero =>
                        intro k2 gd w361 hN160 hgd k362 k363 k364 k365 k366 kp367 ls hl H locs hP hD hS
                        refine lv_iload_n hx hb dX11_law_160 rfl (lv_at hl 1 rfl) ?_
                        refine lv_iconst (v := 5) hx hb dX11_law_161 (by decide) ?_
                        refine lv_icmp_ge (tgt := 183) hx hb dX11_law_162 (by decide) (fun c_368 => ?_) (fun c_368 => absurd (nI_le (a := 5) (b := k2) (by omega) (by omega)) c_368)
                        refine lv_aload_n hx hb dX11_law_183 rfl (lv_at hl 0 rfl) ?_
                        refine x_get (ref := "NoteHouseModel") F hP k362 rfl (fun _ h => List.mem_cons_of_mem _ (List.mem_append_right _ (h))) 28 (Nat.le_of_ble_eq_true rfl) (List.mem_cons_of_mem _ (List.mem_append_left _ (List.mem_append_left _ (List.mem_of_getElem? (i := 3) rfl)))) rfl rfl dX11_law_184 ?_
                        exact y_ir K hP hD hS (Nat.le_of_ble_eq_true rfl) (Nat.le_of_ble_eq_true rfl) (ty := .int) rfl rfl dX11_law_187 (⟨nI a, nI b, nI fq, gd, h36, h37, nI fq, rfl, by unfold lawA; rw [hfin.1], by unfold lawB; rw [if_pos (hfin.1.trans (nI_z0 (by omega) c155))]; exact fun j hj => (hgd j (by omega)).trans (hfin.2 (nI_z0 (by omega) c155) j hj), kp367, k362, k364, k365, k366⟩)
                      | succ N ih160 =>
                        intro k2 gd w361 hN160 hgd k362 k363 k364 k365 k366 kp367 ls hl H locs hP hD hS
                        refine lv_iload_n hx hb dX11_law_160 rfl (lv_at hl 1 rfl) ?_
                        refine lv_iconst (v := 5) hx hb dX11_law_161 (by decide) ?_
                        refine lv_icmp_ge (tgt := 183) hx hb dX11_law_162 (by decide) (fun c_369 => absurd c_369 (nI_ge (a := k2) (b := 5) (by omega) (by omega))) (fun c_369 => ?_)
                        refine lv_aload_n hx hb dX11_law_165 rfl (lv_at hl 0 rfl) ?_
                        refine x_get (ref := "NoteHouseModel") F hP k362 rfl (fun _ h => List.mem_cons_of_mem _ (List.mem_append_right _ (h))) 35 (Nat.le_of_ble_eq_true rfl) (List.mem_cons_of_mem _ (List.mem_append_left _ (List.mem_append_left _ (List.mem_of_getElem? (i := 6) rfl)))) rfl rfl dX11_law_166 ?_
                        refine lv_iload_n hx hb dX11_law_169 rfl (lv_at hl 1 rfl) ?_
                        refine lv_aload_n hx hb dX11_law_170 rfl (lv_at hl 0 rfl) ?_
                        refine x_get (ref := "NoteHouseModel") F hP k362 rfl (fun _ h => List.mem_cons_of_mem _ (List.mem_append_right _ (h))) 37 (Nat.le_of_ble_eq_true rfl) (List.mem_cons_of_mem _ (List.mem_append_left _ (List.mem_append_left _ (List.mem_of_getElem? (i := 1) rfl)))) rfl rfl dX11_law_171 ?_
                        refine lv_iload_n hx hb dX11_law_174 rfl (lv_at hl 1 rfl) ?_
                        refine x_iald F hP k366 (vp_in_nI (n := k2) (N := 5) (by omega) (by decide)) dX11_law_175 ?_
                        rw [nI_clamp (n := k2) (by omega)]
                        refine y_iast F hP hD hS k364 (vp_in_nI (n := k2) (N := 5) (by omega) (by decide)) dX11_law_176 (fun w370 ew371 H locs hP hD hS => ?_)
                        have k372 := wd_at.pt ew371 k362 (tg_ne ty tm35 (by decide))
                        have k373 := wd_at.pt ew371 k363 (tg_ne tm24 tm35 (by decide))
                        have k374 : wd_at w370 m35 (.inl (cy 2, 5, .inl (upd gd (nI k2).toNatClampNeg (h37 k2)))) := wd_at.ps ew371 k364
                        have k375 := wd_at.pt ew371 k365 (tg_ne tm36 tm35 (by decide))
                        have k376 := wd_at.pt ew371 k366 (tg_ne tm37 tm35 (by decide))
                        have kp377 := kp367.put ew371 s91
                        refine lv_iinc (v := nI (k2 + 1)) (lv' := [(2, .int (nI (k2 + 1))), (0, .ref y)]) hx hb dX11_law_177 hl (k := 1) rfl (nI_1 k2) (by decide) rfl (fun ls hl => ?_)
                        refine lv_goto (tgt := 160) hx hb dX11_law_180 (by decide) ?_
                        exact ih160 (k2 + 1) (upd gd (nI k2).toNatClampNeg (h37 k2)) w370 (by omega) (up5 (by omega) hgd) k372 k373 k374 k375 k376 kp377 ls (lv_sub hl [1, 0] rfl) H locs hP hD hS
                    exact lp160 _ 0 f35 w353 (Nat.zero_add 5) (fun j hj => absurd hj (Nat.not_lt_zero j)) k355 k356 k357 k358 k359 kp360 ls (lv_sub hl [1, 0] rfl) H locs hP hD hS
                · have hf0 : fq = 0 := nI_z0 (by omega) c79
                  obtain ⟨hG, htR2, hlR2, hm2⟩ := hact hon1 hf0
                  subst hf0
                  refine lv_aload_n hx hb dX11_law_82 rfl (lv_at hl 0 rfl) ?_
                  refine x_callV (n := 0) (As := []) (rest := []) F hP hD hS (m_clause l D cy sk sv w321 tg y m2 m3 m4 m5 m6 m8 m9 m10 m11 m12 m13 m14 m17 m18 m19 m20 m21 m22 m23 m24 m29 m30 m31 m32 m33 m34 m35 m36 m37 m39 m40 m41 m42 m43 m44 m45 m46 m47 m48 m49 m51 m52 m53 m54 m56 m57 m58 m59 pc ac sc ln sh gf v0 td (nI b) v50 f24 h36 h37 a mt2 bb2 k322 k323 k325 k326 (fun b => b = y ∨ b = m36 ∨ b = m37) (Or.inl rfl) (Or.inr (Or.inl rfl)) (Or.inr (Or.inr rfl)) ty tm24 tm36 tm37 (by omega) (by omega) (by omega) (by assumption) (by assumption)) gX11_law_X11_clause rfl rfl (by decide +kernel) ⟨(Nat.le_of_ble_eq_true rfl), (Nat.le_of_ble_eq_true rfl)⟩ rfl hl.1 (Nat.le_of_ble_eq_true rfl) k322 rfl dX11_law_83 rfl ⟨(Nat.le_of_ble_eq_true rfl), (Nat.le_of_ble_eq_true rfl)⟩ (fun v379 w380 hp378 H locs hP hD hS => ?_)
                  obtain ⟨ax381, bx382, fvx383, gx384, gx385, rfl, rfl, hz386, hz387, hz388, hz389, kq393, k390, k391, k392⟩ := hp378
                  have k394 := kq393.2 _ _ k323 (orN (tg_ne tm24 ty (by decide)) (orN (tg_ne tm24 tm36 (by decide)) (tg_ne tm24 tm37 (by decide))))
                  have k395 := kq393.2 _ _ k324 (orN (tg_ne tm35 ty (by decide)) (orN (tg_ne tm35 tm36 (by decide)) (tg_ne tm35 tm37 (by decide))))
                  have kp396 := kp327.tr kq393 (fun b9 hm q9 => (fun q9 => Or.elim q9 (fun q9 => q9 ▸ s90) (fun q9 => Or.elim q9 (fun q9 => q9 ▸ s92) (fun q9 => q9 ▸ s93))) q9)
                  refine W.eq (g2 := F0 m 86 ls []) rfl (W.widen (k := 0) (n := 0) (Nat.le_of_ble_eq_true rfl) (Nat.le_of_ble_eq_true rfl) ?_)
                  refine lv_aload_n hx hb dX11_law_86 rfl (lv_at hl 0 rfl) ?_
                  refine x_get (ref := "NoteHouseModel") F hP k390 rfl (fun _ h => List.mem_cons_of_mem _ (List.mem_append_right _ (h))) 28 (Nat.le_of_ble_eq_true rfl) (List.mem_cons_of_mem _ (List.mem_append_left _ (List.mem_append_left _ (List.mem_of_getElem? (i := 3) rfl)))) rfl rfl dX11_law_87 ?_
                  refine lv_if_ne (tgt := 104) hx hb dX11_law_90 (by decide) (fun cF => ?_) (fun cF => ?_)
                  · have hF : ¬ clF f24 ln a mt2 = 0 := fun q => cF (by rw [q]; rfl)
                    refine lv_iconst (v := 0) hx hb dX11_law_104 (by decide) ?_
                    refine lv_istore_n (lv' := [(1, .int 0), (0, .ref y)]) hx hb dX11_law_105 rfl hl (by decide) rfl (fun ls hl => ?_)
                    refine lv_iload_n hx hb dX11_law_106 rfl (lv_at hl 0 rfl) ?_
                    refine lv_if_eq (tgt := 71) hx hb dX11_law_107 (by decide) (fun c_397 => ?_) (fun c_397 => absurd (show (0 : Int32) = (0 : Int32) by decide) c_397)
                    exact ih71 0 ax381 bx382 (clF f24 ln a mt2) gx384 gx385 (clM f24 ln a mt2) (clB f24 ln a bb2) w380 (by omega) (by omega) (by omega) (by omega) (fun h => absurd h (by omega)) (fun _ => by rw [← hG, show 6 - bc5 mt2 = (5 - bc5 mt2) + 1 by have h9 := bt_5 mt2 hm2; omega, lawG_n hF]; exact ⟨rfl, fun q => absurd q hF⟩) k390 k394 k395 k391 k392 kp396 ls (lv_sub hl [1, 0] rfl) H locs hP hD hS
                  · have hF0 : clF f24 ln a mt2 = 0 := nI_z0 (by omega) cF
                    obtain ⟨ea9, htR3, hlR3⟩ := hz389 hF0
                    subst ea9
                    refine lv_aload_n hx hb dX11_law_93 rfl (lv_at hl 0 rfl) ?_
                    refine x_callV (n := 0) (As := []) (rest := []) F hP hD hS (m_isEnd l D cy sk sv w380 tg y m2 m3 m4 m5 m6 m8 m9 m10 m11 m12 m13 m14 m17 m18 m19 m20 m21 m22 m23 m24 m29 m30 m31 m32 m33 m34 m35 m36 m37 m39 m40 m41 m42 m43 m44 m45 m46 m47 m48 m49 m51 m52 m53 m54 m56 m57 m58 m59 pc ac sc ln sh gf v0 td (nI bx382) (nI (clF f24 ln a mt2)) v50 f24 (clA f24 ln a) k390 k394 (fun b => b = y) rfl ty tm24 (by omega) (by omega)) gX11_law_X11_isEnd rfl rfl (by decide +kernel) ⟨(Nat.le_of_ble_eq_true rfl), (Nat.le_of_ble_eq_true rfl)⟩ rfl hl.1 (Nat.le_of_ble_eq_true rfl) k390 rfl dX11_law_94 rfl ⟨(Nat.le_of_ble_eq_true rfl), (Nat.le_of_ble_eq_true rfl)⟩ (fun v399 w400 hp398 H locs hP hD hS => ?_)
                    obtain ⟨ax401, rx402, rfl, rfl, rfl, hz403, hz404, hz405, hz406, kq408, k407⟩ := hp398
                    have k409 := kq408.2 _ _ k394 (tg_ne tm24 ty (by decide))
                    have k410 := kq408.2 _ _ k395 (tg_ne tm35 ty (by decide))
                    have k411 := kq408.2 _ _ k391 (tg_ne tm36 ty (by decide))
                    have k412 := kq408.2 _ _ k392 (tg_ne tm37 ty (by decide))
                    have kp413 := kp396.tr kq408 (fun b9 hm q9 => (fun q9 => q9 ▸ s90) q9)
                    refine W.eq (g2 := F0 m 97 ls [.int (ieR f24 ln (clA f24 ln a))]) rfl (W.widen (k := 0) (n := 0) (Nat.le_of_ble_eq_true rfl) (Nat.le_of_ble_eq_true rfl) ?_)
                    refine lv_if_ne (tgt := 104) hx hb dX11_law_97 (by decide) (fun cE => ?_) (fun cE => ?_)
                    · have hE := ieR_1 cE
                      refine lv_iconst (v := 0) hx hb dX11_law_104 (by decide) ?_
                      refine lv_istore_n (lv' := [(1, .int 0), (0, .ref y)]) hx hb dX11_law_105 rfl hl (by decide) rfl (fun ls hl => ?_)
                      refine lv_iload_n hx hb dX11_law_106 rfl (lv_at hl 0 rfl) ?_
                      refine lv_if_eq (tgt := 71) hx hb dX11_law_107 (by decide) (fun c_414 => ?_) (fun c_414 => absurd (show (0 : Int32) = (0 : Int32) by decide) c_414)
                      exact ih71 0 (nx f24 ln (clA f24 ln a)) (nx f24 ln (clA f24 ln a)) (clF f24 ln a mt2) gx384 gx385 (clM f24 ln a mt2) (clB f24 ln a bb2) w400 (by omega) (by omega) (by omega) (by omega) (fun h => absurd h (by omega)) (fun _ => by rw [← hG, show 6 - bc5 mt2 = (5 - bc5 mt2) + 1 by have h9 := bt_5 mt2 hm2; omega, lawG_e hF0 (by omega)]; exact ⟨hF0.symm, fun _ => hlR3⟩) k407 k409 k410 k411 k412 kp413 ls (lv_sub hl [1, 0] rfl) H locs hP hD hS
                    · have hne := hz406 cE
                      refine lv_iconst (v := 1) hx hb dX11_law_100 (by decide) ?_
                      refine lv_goto (tgt := 105) hx hb dX11_law_101 (by decide) ?_
                      refine lv_istore_n (lv' := [(1, .int 1), (0, .ref y)]) hx hb dX11_law_105 rfl hl (by decide) rfl (fun ls hl => ?_)
                      refine lv_iload_n hx hb dX11_law_106 rfl (lv_at hl 0 rfl) ?_
                      refine lv_if_eq (tgt := 71) hx hb dX11_law_107 (by decide) (fun c_415 => absurd c_415 (show ¬ (1 : Int32) = (0 : Int32) by decide)) (fun c_415 => ?_)
                      refine lv_aload_n hx hb dX11_law_110 rfl (lv_at hl 1 rfl) ?_
                      refine x_get (ref := "NoteHouseModel") F hP k407 rfl (fun _ h => List.mem_cons_of_mem _ (List.mem_append_right _ (h))) 24 (Nat.le_of_ble_eq_true rfl) (List.mem_cons_of_mem _ (List.mem_append_left _ (List.mem_append_left _ (List.mem_of_getElem? (i := 5) rfl)))) rfl rfl dX11_law_111 ?_
                      refine lv_aload_n hx hb dX11_law_114 rfl (lv_at hl 1 rfl) ?_
                      refine x_get (ref := "NoteHouseModel") F hP k407 rfl (fun _ h => List.mem_cons_of_mem _ (List.mem_append_right _ (h))) 26 (Nat.le_of_ble_eq_true rfl) (List.mem_cons_of_mem _ (List.mem_append_left _ (List.mem_append_left _ (List.mem_of_getElem? (i := 2) rfl)))) rfl rfl dX11_law_115 ?_
                      refine x_bald F hP k409 (vp_in_nI (n := (nx f24 ln (clA f24 ln a))) (N := 300) (by omega) (by decide)) dX11_law_118 ?_
                      rw [nI_clamp (n := nx f24 ln (clA f24 ln a)) (by omega)]
                      refine lv_bipush (v := 59) hx hb dX11_law_119 (by decide) ?_
                      refine lv_icmp_eq (tgt := 133) hx hb dX11_law_121 (by decide) (fun c59 => ?_) (fun c59 => ?_)
                      · refine lv_aload_n hx hb dX11_law_133 rfl (lv_at hl 1 rfl) ?_
                        refine lv_dup hx hb dX11_law_134 rfl ?_
                        refine x_get (ref := "NoteHouseModel") F hP k407 rfl (fun _ h => List.mem_cons_of_mem _ (List.mem_append_right _ (h))) 26 (Nat.le_of_ble_eq_true rfl) (List.mem_cons_of_mem _ (List.mem_append_left _ (List.mem_append_left _ (List.mem_of_getElem? (i := 2) rfl)))) rfl rfl dX11_law_135 ?_
                        refine lv_iconst (v := 1) hx hb dX11_law_138 (by decide) ?_
                        refine lv_iadd hx hb dX11_law_139 ?_
                        rw [show ((nI (nx f24 ln (clA f24 ln a))) + 1 : Int32) = nI ((nx f24 ln (clA f24 ln a)) + 1) from nI_add (nx f24 ln (clA f24 ln a)) 1]
                        refine y_put (ref := "NoteHouseModel") F hP hD hS k407 rfl (fun _ h => List.mem_cons_of_mem _ (List.mem_append_right _ (h))) tyX11_ok nmX11 26 (Nat.le_of_ble_eq_true rfl) (List.mem_cons_of_mem _ (List.mem_append_left _ (List.mem_append_left _ (List.mem_of_getElem? (i := 2) rfl)))) rfl rfl rfl rfl (Nat.le_of_ble_eq_true rfl) dX11_law_140 (fun w416 ew417 H locs hP hD hS => ?_)
                        have k418 : wd_at w416 y (.inr (11, [.int v0, .int td, .ref m2, .ref m3, .ref m4, .ref m5, .ref m6, .int (nI pc), .ref m8, .ref m9, .ref m10, .ref m11, .ref m12, .ref m13, .ref m14, .int (nI ac), .int (nI sc), .ref m17, .ref m18, .ref m19, .ref m20, .ref m21, .ref m22, .ref m23, .ref m24, .int (nI ln), .int (nI ((nx f24 ln (clA f24 ln a)) + 1)), .int (nI (nx f24 ln (clA f24 ln a))), .int (nI (clF f24 ln a mt2)), .ref m29, .ref m30, .ref m31, .ref m32, .ref m33, .ref m34, .ref m35, .ref m36, .ref m37, .int (nI sh), .ref m39, .ref m40, .ref m41, .ref m42, .ref m43, .ref m44, .ref m45, .ref m46, .ref m47, .ref m48, .ref m49, .int v50, .ref m51, .ref m52, .ref m53, .ref m54, .int (nI gf), .ref m56, .ref m57, .ref m58, .ref m59])) := wd_at.ps ew417 k407
                        have k419 := wd_at.pt ew417 k409 (tg_ne tm24 ty (by decide))
                        have k420 := wd_at.pt ew417 k410 (tg_ne tm35 ty (by decide))
                        have k421 := wd_at.pt ew417 k411 (tg_ne tm36 ty (by decide))
                        have k422 := wd_at.pt ew417 k412 (tg_ne tm37 ty (by decide))
                        have kp423 := kp413.put ew417 s90
                        refine lv_goto (tgt := 71) hx hb dX11_law_143 (by decide) ?_
                        exact ih71 1 ((nx f24 ln (clA f24 ln a)) + 1) (nx f24 ln (clA f24 ln a)) (clF f24 ln a mt2) gx384 gx385 (clM f24 ln a mt2) (clB f24 ln a bb2) w416 (by omega) (by omega) (by omega) (by omega) (fun _ _ => ⟨by rw [(clM_s hm2 hF0).2, show 6 - (bc5 mt2 + 1) = 5 - bc5 mt2 by omega, ← lawG_s hF0 hne c59, ← hG, show 6 - bc5 mt2 = (5 - bc5 mt2) + 1 by have h9 := bt_5 mt2 hm2; omega], htR3, hlR3, (clM_s hm2 hF0).1⟩) (fun h => absurd h (by omega)) k418 k419 k420 k421 k422 kp423 ls (lv_sub hl [1, 0] rfl) H locs hP hD hS
                      · refine lv_aload_n hx hb dX11_law_124 rfl (lv_at hl 1 rfl) ?_
                        refine lv_iconst (v := 0) hx hb dX11_law_125 (by decide) ?_
                        refine lv_aload_n hx hb dX11_law_126 rfl (lv_at hl 1 rfl) ?_
                        refine x_get (ref := "NoteHouseModel") F hP k407 rfl (fun _ h => List.mem_cons_of_mem _ (List.mem_append_right _ (h))) 26 (Nat.le_of_ble_eq_true rfl) (List.mem_cons_of_mem _ (List.mem_append_left _ (List.mem_append_left _ (List.mem_of_getElem? (i := 2) rfl)))) rfl rfl dX11_law_127 ?_
                        refine x_callV (n := 2) (As := [.int 0, .int (nI (nx f24 ln (clA f24 ln a)))]) (rest := []) F hP hD hS (m_fails l D cy sk sv w400 tg y m2 m3 m4 m5 m6 m8 m9 m10 m11 m12 m13 m14 m17 m18 m19 m20 m21 m22 m23 m24 m29 m30 m31 m32 m33 m34 m35 m36 m37 m39 m40 m41 m42 m43 m44 m45 m46 m47 m48 m49 m51 m52 m53 m54 m56 m57 m58 m59 pc ac sc ln sh gf v0 td (nI (nx f24 ln (clA f24 ln a))) (nI (nx f24 ln (clA f24 ln a))) v50 (clF f24 ln a mt2) 0 (nx f24 ln (clA f24 ln a)) k407 (fun b => b = y) rfl ty (by omega) (by omega) (by omega)) gX11_law_X11_fails rfl rfl (by decide +kernel) ⟨(Nat.le_of_ble_eq_true rfl), (Nat.le_of_ble_eq_true rfl)⟩ rfl hl.1 (Nat.le_of_ble_eq_true rfl) k407 rfl dX11_law_130 rfl ⟨(Nat.le_of_ble_eq_true rfl), (Nat.le_of_ble_eq_true rfl)⟩ (fun v425 w426 hp424 H locs hP hD hS => ?_)
                        obtain ⟨fwx427, rfl, rfl, hz428, hz429, kq431, k430⟩ := hp424
                        have k432 := kq431.2 _ _ k409 (tg_ne tm24 ty (by decide))
                        have k433 := kq431.2 _ _ k410 (tg_ne tm35 ty (by decide))
                        have k434 := kq431.2 _ _ k411 (tg_ne tm36 ty (by decide))
                        have k435 := kq431.2 _ _ k412 (tg_ne tm37 ty (by decide))
                        have kp436 := kp413.tr kq431 (fun b9 hm q9 => (fun q9 => q9 ▸ s90) q9)
                        refine W.eq (g2 := F0 m 133 ls []) rfl (W.widen (k := 0) (n := 0) (Nat.le_of_ble_eq_true rfl) (Nat.le_of_ble_eq_true rfl) ?_)
                        refine lv_aload_n hx hb dX11_law_133 rfl (lv_at hl 1 rfl) ?_
                        refine lv_dup hx hb dX11_law_134 rfl ?_
                        refine x_get (ref := "NoteHouseModel") F hP k430 rfl (fun _ h => List.mem_cons_of_mem _ (List.mem_append_right _ (h))) 26 (Nat.le_of_ble_eq_true rfl) (List.mem_cons_of_mem _ (List.mem_append_left _ (List.mem_append_left _ (List.mem_of_getElem? (i := 2) rfl)))) rfl rfl dX11_law_135 ?_
                        refine lv_iconst (v := 1) hx hb dX11_law_138 (by decide) ?_
                        refine lv_iadd hx hb dX11_law_139 ?_
                        rw [show ((nI (nx f24 ln (clA f24 ln a))) + 1 : Int32) = nI ((nx f24 ln (clA f24 ln a)) + 1) from nI_add (nx f24 ln (clA f24 ln a)) 1]
                        refine y_put (ref := "NoteHouseModel") F hP hD hS k430 rfl (fun _ h => List.mem_cons_of_mem _ (List.mem_append_right _ (h))) tyX11_ok nmX11 26 (Nat.le_of_ble_eq_true rfl) (List.mem_cons_of_mem _ (List.mem_append_left _ (List.mem_append_left _ (List.mem_of_getElem? (i := 2) rfl)))) rfl rfl rfl rfl (Nat.le_of_ble_eq_true rfl) dX11_law_140 (fun w437 ew438 H locs hP hD hS => ?_)
                        have k439 : wd_at w437 y (.inr (11, [.int v0, .int td, .ref m2, .ref m3, .ref m4, .ref m5, .ref m6, .int (nI pc), .ref m8, .ref m9, .ref m10, .ref m11, .ref m12, .ref m13, .ref m14, .int (nI ac), .int (nI sc), .ref m17, .ref m18, .ref m19, .ref m20, .ref m21, .ref m22, .ref m23, .ref m24, .int (nI ln), .int (nI ((nx f24 ln (clA f24 ln a)) + 1)), .int (nI (nx f24 ln (clA f24 ln a))), .int (nI (flF (clF f24 ln a mt2) 0 (nx f24 ln (clA f24 ln a)))), .ref m29, .ref m30, .ref m31, .ref m32, .ref m33, .ref m34, .ref m35, .ref m36, .ref m37, .int (nI sh), .ref m39, .ref m40, .ref m41, .ref m42, .ref m43, .ref m44, .ref m45, .ref m46, .ref m47, .ref m48, .ref m49, .int v50, .ref m51, .ref m52, .ref m53, .ref m54, .int (nI gf), .ref m56, .ref m57, .ref m58, .ref m59])) := wd_at.ps ew438 k430
                        have k440 := wd_at.pt ew438 k432 (tg_ne tm24 ty (by decide))
                        have k441 := wd_at.pt ew438 k433 (tg_ne tm35 ty (by decide))
                        have k442 := wd_at.pt ew438 k434 (tg_ne tm36 ty (by decide))
                        have k443 := wd_at.pt ew438 k435 (tg_ne tm37 ty (by decide))
                        have kp444 := kp436.put ew438 s90
                        refine lv_goto (tgt := 71) hx hb dX11_law_143 (by decide) ?_
                        exact ih71 1 ((nx f24 ln (clA f24 ln a)) + 1) (nx f24 ln (clA f24 ln a)) (flF (clF f24 ln a mt2) 0 (nx f24 ln (clA f24 ln a))) gx384 gx385 (clM f24 ln a mt2) (clB f24 ln a bb2) w437 (by omega) (by omega) (by omega) (by omega) (fun _ q => absurd q (by omega)) (fun _ => by rw [← hG, show 6 - bc5 mt2 = (5 - bc5 mt2) + 1 by have h9 := bt_5 mt2 hm2; omega, lawG_f hF0 hne c59]; exact ⟨by rw [hF0, flF_0], fun q => absurd q (by omega)⟩) k439 k440 k441 k442 k443 kp444 ls (lv_sub hl [1, 0] rfl) H locs hP hD hS
          exact lp71 (2 * ln + 2) 0 (nx f24 ln 0) (nx f24 ln 0) (flF 0 0 200) ga gb 0 law0 w306 (by omega) (by omega) (by omega) (by omega) (fun _ q => absurd q (by decide)) (fun _ => by rw [lawT_1 h200]; exact ⟨rfl, fun q => absurd q (by decide)⟩) k313 k315 k316 k317 k318 kp319 ls (lv_sub hl [1, 0] rfl) H locs hP hD hS
        · have hnx : nx f24 ln 0 < ln := Nat.lt_of_le_of_ne (nx_le (B := f24) (Nat.zero_le ln)).2 (ieR_0 c_320)
          refine lv_iconst (v := 1) hx hb dX11_law_65 (by decide) ?_
          refine lv_goto (tgt := 70) hx hb dX11_law_66 (by decide) ?_
          refine lv_istore_n (lv' := [(1, .int 1), (0, .ref y)]) hx hb dX11_law_70 rfl hl (by decide) rfl (fun ls hl => ?_)
          have lp71 : ∀ (N : Nat) (on : Nat) (a : Nat) (b : Nat) (fq : Nat) (h36 : Nat → Int32) (h37 : Nat → Int32) (mt2 : Nat) (bb2 : Nat → Int32) (w445 : Wd), (2 * ln + on + 1 ≤ 2 * a + N) → (a ≤ ln) → (fq < 2000) → (on ≤ 1) → (0 < on → fq = 0 → (lawG f24 ln (6 - bc5 mt2) a mt2 bb2 = lawT f24 ln ∧ tR h36 mt2 ∧ lR h37 bb2 ∧ mt2 < 32)) → ((on = 0 ∨ 0 < fq) → (lawT f24 ln).1 = fq ∧ (fq = 0 → lR h37 (lawT f24 ln).2)) → (wd_at w445 y (.inr (11, [.int v0, .int td, .ref m2, .ref m3, .ref m4, .ref m5, .ref m6, .int (nI pc), .ref m8, .ref m9, .ref m10, .ref m11, .ref m12, .ref m13, .ref m14, .int (nI ac), .int (nI sc), .ref m17, .ref m18, .ref m19, .ref m20, .ref m21, .ref m22, .ref m23, .ref m24, .int (nI ln), .int (nI a), .int (nI b), .int (nI fq), .ref m29, .ref m30, .ref m31, .ref m32, .ref m33, .ref m34, .ref m35, .ref m36, .ref m37, .int (nI sh), .ref m39, .ref m40, .ref m41, .ref m42, .ref m43, .ref m44, .ref m45, .ref m46, .ref m47, .ref m48, .ref m49, .int v50, .ref m51, .ref m52, .ref m53, .ref m54, .int (nI gf), .ref m56, .ref m57, .ref m58, .ref m59]))) → (wd_at w445 m24 (.inl (cy 0, 300, .inl f24))) → (wd_at w445 m35 (.inl (cy 2, 5, .inl f35))) → (wd_at w445 m36 (.inl (cy 4, 5, .inl h36))) → (wd_at w445 m37 (.inl (cy 2, 5, .inl h37))) → (wd_kp S w w445) → ∀ (ls : Array Slot), lv_has ls 3 [(0, .ref y), (1, .int (nI on))] → Wv p l e ({ frames := 6, cells := 0, slots := 0, locals := 130 }) s m args below meth c D A (0) (0) Q w445 (F0 m 71 ls []) := by
            intro N
            induction N with
            | zero =>
              intro on a b fq h36 h37 mt2 bb2 w445 hN71 ha2 hfq hon hact hdone k446 k447 k448 k449 k450 kp451 ls hl H locs hP hD hS
              exact absurd hN71 (by omega)
            | succ N ih71 =>
              intro on a b fq h36 h37 mt2 bb2 w445 hN71 ha2 hfq hon hact hdone k446 k447 k448 k449 k450 kp451 ls hl H locs hP hD hS
              refine lv_iload_n hx hb dX11_law_71 rfl (lv_at hl 1 rfl) ?_
              refine lv_if_eq (tgt := 146) hx hb dX11_law_72 (by decide) (fun c72 => ?_) (fun c72 => ?_)
              · have hfin := hdone (Or.inl (nI_z0 (by omega) c72))
                refine lv_aload_n hx hb dX11_law_146 rfl (lv_at hl 0 rfl) ?_
                refine lv_iconst (v := 0) hx hb dX11_law_147 (by decide) ?_
                refine y_put (ref := "NoteHouseModel") F hP hD hS k446 rfl (fun _ h => List.mem_cons_of_mem _ (List.mem_append_right _ (h))) tyX11_ok nmX11 25 (Nat.le_of_ble_eq_true rfl) (List.mem_cons_of_mem _ (List.mem_append_left _ (List.mem_append_left _ (List.mem_of_getElem? (i := 4) rfl)))) rfl rfl rfl rfl (Nat.le_of_ble_eq_true rfl) dX11_law_148 (fun w452 ew453 H locs hP hD hS => ?_)
                have k454 : wd_at w452 y (.inr (11, [.int v0, .int td, .ref m2, .ref m3, .ref m4, .ref m5, .ref m6, .int (nI pc), .ref m8, .ref m9, .ref m10, .ref m11, .ref m12, .ref m13, .ref m14, .int (nI ac), .int (nI sc), .ref m17, .ref m18, .ref m19, .ref m20, .ref m21, .ref m22, .ref m23, .ref m24, .int 0, .int (nI a), .int (nI b), .int (nI fq), .ref m29, .ref m30, .ref m31, .ref m32, .ref m33, .ref m34, .ref m35, .ref m36, .ref m37, .int (nI sh), .ref m39, .ref m40, .ref m41, .ref m42, .ref m43, .ref m44, .ref m45, .ref m46, .ref m47, .ref m48, .ref m49, .int v50, .ref m51, .ref m52, .ref m53, .ref m54, .int (nI gf), .ref m56, .ref m57, .ref m58, .ref m59])) := wd_at.ps ew453 k446
                have k455 := wd_at.pt ew453 k447 (tg_ne tm24 ty (by decide))
                have k456 := wd_at.pt ew453 k448 (tg_ne tm35 ty (by decide))
                have k457 := wd_at.pt ew453 k449 (tg_ne tm36 ty (by decide))
                have k458 := wd_at.pt ew453 k450 (tg_ne tm37 ty (by decide))
                have kp459 := kp451.put ew453 s90
                refine lv_aload_n hx hb dX11_law_151 rfl (lv_at hl 0 rfl) ?_
                refine x_get (ref := "NoteHouseModel") F hP k454 rfl (fun _ h => List.mem_cons_of_mem _ (List.mem_append_right _ (h))) 28 (Nat.le_of_ble_eq_true rfl) (List.mem_cons_of_mem _ (List.mem_append_left _ (List.mem_append_left _ (List.mem_of_getElem? (i := 3) rfl)))) rfl rfl dX11_law_152 ?_
                refine lv_if_ne (tgt := 183) hx hb dX11_law_155 (by decide) (fun c155 => ?_) (fun c155 => ?_)
                · refine lv_aload_n hx hb dX11_law_183 rfl (lv_at hl 0 rfl) ?_
                  refine x_get (ref := "NoteHouseModel") F hP k454 rfl (fun _ h => List.mem_cons_of_mem _ (List.mem_append_right _ (h))) 28 (Nat.le_of_ble_eq_true rfl) (List.mem_cons_of_mem _ (List.mem_append_left _ (List.mem_append_left _ (List.mem_of_getElem? (i := 3) rfl)))) rfl rfl dX11_law_184 ?_
                  exact y_ir K hP hD hS (Nat.le_of_ble_eq_true rfl) (Nat.le_of_ble_eq_true rfl) (ty := .int) rfl rfl dX11_law_187 (⟨nI a, nI b, nI fq, f35, h36, h37, nI fq, rfl, by unfold lawA; rw [hfin.1], by unfold lawB; rw [if_neg (by rw [hfin.1]; exact fun q => c155 (by rw [q]; rfl))]; exact hlb, kp459, k454, k456, k457, k458⟩)
                · refine lv_iconst (v := 0) hx hb dX11_law_158 (by decide) ?_
                  refine lv_istore_n (lv' := [(2, .int 0), (0, .ref y), (1, .int (nI on))]) hx hb dX11_law_159 rfl hl (by decide) rfl (fun ls hl => ?_)
                  have lp160 : ∀ (N : Nat) (k2 : Nat) (gd : Nat → Int32) (w460 : Wd), (k2 + N = 5) → (∀ j, j < k2 → gd j = h37 j) → (wd_at w460 y (.inr (11, [.int v0, .int td, .ref m2, .ref m3, .ref m4, .ref m5, .ref m6, .int (nI pc), .ref m8, .ref m9, .ref m10, .ref m11, .ref m12, .ref m13, .ref m14, .int (nI ac), .int (nI sc), .ref m17, .ref m18, .ref m19, .ref m20, .ref m21, .ref m22, .ref m23, .ref m24, .int 0, .int (nI a), .int (nI b), .int (nI fq), .ref m29, .ref m30, .ref m31, .ref m32, .ref m33, .ref m34, .ref m35, .ref m36, .ref m37, .int (nI sh), .ref m39, .ref m40, .ref m41, .ref m42, .ref m43, .ref m44, .ref m45, .ref m46, .ref m47, .ref m48, .ref m49, .int v50, .ref m51, .ref m52, .ref m53, .ref m54, .int (nI gf), .ref m56, .ref m57, .ref m58, .ref m59]))) → (wd_at w460 m24 (.inl (cy 0, 300, .inl f24))) → (wd_at w460 m35 (.inl (cy 2, 5, .inl gd))) → (wd_at w460 m36 (.inl (cy 4, 5, .inl h36))) → (wd_at w460 m37 (.inl (cy 2, 5, .inl h37))) → (wd_kp S w w460) → ∀ (ls : Array Slot), lv_has ls 3 [(0, .ref y), (2, .int (nI k2))] → Wv p l e ({ frames := 6, cells := 0, slots := 0, locals := 130 }) s m args below meth c D A (0) (0) Q w460 (F0 m 160 ls []) := by
                    intro N
                    induction N with
                    | zero =>
                      intro k2 gd w460 hN160 hgd k461 k462 k463 k464 k465 kp466 ls hl H locs hP hD hS
                      refine lv_iload_n hx hb dX11_law_160 rfl (lv_at hl 1 rfl) ?_
                      refine lv_iconst (v := 5) hx hb dX11_law_161 (by decide) ?_
                      refine lv_icmp_ge (tgt := 183) hx hb dX11_law_162 (by decide) (fun c_467 => ?_) (fun c_467 => absurd (nI_le (a := 5) (b := k2) (by omega) (by omega)) c_467)
                      refine lv_aload_n hx hb dX11_law_183 rfl (lv_at hl 0 rfl) ?_
                      refine x_get (ref := "NoteHouseModel") F hP k461 rfl (fun _ h => List.mem_cons_of_mem _ (List.mem_append_right _ (h))) 28 (Nat.le_of_ble_eq_true rfl) (List.mem_cons_of_mem _ (List.mem_append_left _ (List.mem_append_left _ (List.mem_of_getElem? (i := 3) rfl)))) rfl rfl dX11_law_184 ?_
                      exact y_ir K hP hD hS (Nat.le_of_ble_eq_true rfl) (Nat.le_of_ble_eq_true rfl) (ty := .int) rfl rfl dX11_law_187 (⟨nI a, nI b, nI fq, gd, h36, h37, nI fq, rfl, by unfold lawA; rw [hfin.1], by unfold lawB; rw [if_pos (hfin.1.trans (nI_z0 (by omega) c155))]; exact fun j hj => (hgd j (by omega)).trans (hfin.2 (nI_z0 (by omega) c155) j hj), kp466, k461, k463, k464, k465⟩)
                    | succ N ih160 =>
                      intro k2 gd w460 hN160 hgd k461 k462 k463 k464 k465 kp466 ls hl H locs hP hD hS
                      refine lv_iload_n hx hb dX11_law_160 rfl (lv_at hl 1 rfl) ?_
                      refine lv_iconst (v := 5) hx hb dX11_law_161 (by decide) ?_
                      refine lv_icmp_ge (tgt := 183) hx hb dX11_law_162 (by decide) (fun c_468 => absurd c_468 (nI_ge (a := k2) (b := 5) (by omega) (by omega))) (fun c_468 => ?_)
                      refine lv_aload_n hx hb dX11_law_165 rfl (lv_at hl 0 rfl) ?_
                      refine x_get (ref := "NoteHouseModel") F hP k461 rfl (fun _ h => List.mem_cons_of_mem _ (List.mem_append_right _ (h))) 35 (Nat.le_of_ble_eq_true rfl) (List.mem_cons_of_mem _ (List.mem_append_left _ (List.mem_append_left _ (List.mem_of_getElem? (i := 6) rfl)))) rfl rfl dX11_law_166 ?_
                      refine lv_iload_n hx hb dX11_law_169 rfl (lv_at hl 1 rfl) ?_
                      refine lv_aload_n hx hb dX11_law_170 rfl (lv_at hl 0 rfl) ?_
                      refine x_get (ref := "NoteHouseModel") F hP k461 rfl (fun _ h => List.mem_cons_of_mem _ (List.mem_append_right _ (h))) 37 (Nat.le_of_ble_eq_true rfl) (List.mem_cons_of_mem _ (List.mem_append_left _ (List.mem_append_left _ (List.mem_of_getElem? (i := 1) rfl)))) rfl rfl dX11_law_171 ?_
                      refine lv_iload_n hx hb dX11_law_174 rfl (lv_at hl 1 rfl) ?_
                      refine x_iald F hP k465 (vp_in_nI (n := k2) (N := 5) (by omega) (by decide)) dX11_law_175 ?_
                      rw [nI_clamp (n := k2) (by omega)]
                      refine y_iast F hP hD hS k463 (vp_in_nI (n := k2) (N := 5) (by omega) (by decide)) dX11_law_176 (fun w469 ew470 H locs hP hD hS => ?_)
                      have k471 := wd_at.pt ew470 k461 (tg_ne ty tm35 (by decide))
                      have k472 := wd_at.pt ew470 k462 (tg_ne tm24 tm35 (by decide))
                      have k473 : wd_at w469 m35 (.inl (cy 2, 5, .inl (upd gd (nI k2).toNatClampNeg (h37 k2)))) := wd_at.ps ew470 k463
                      have k474 := wd_at.pt ew470 k464 (tg_ne tm36 tm35 (by decide))
                      have k475 := wd_at.pt ew470 k465 (tg_ne tm37 tm35 (by decide))
                      have kp476 := kp466.put ew470 s91
                      refine lv_iinc (v := nI (k2 + 1)) (lv' := [(2, .int (nI (k2 + 1))), (0, .ref y)]) hx hb dX11_law_177 hl (k := 1) rfl (nI_1 k2) (by decide) rfl (fun ls hl => ?_)
                      refine lv_goto (tgt := 160) hx hb dX11_law_180 (by decide) ?_
                      exact ih160 (k2 + 1) (upd gd (nI k2).toNatClampNeg (h37 k2)) w469 (by omega) (up5 (by omega) hgd) k471 k472 k473 k474 k475 kp476 ls (lv_sub hl [1, 0] rfl) H locs hP hD hS
                  exact lp160 _ 0 f35 w452 (Nat.zero_add 5) (fun j hj => absurd hj (Nat.not_lt_zero j)) k454 k455 k456 k457 k458 kp459 ls (lv_sub hl [1, 0] rfl) H locs hP hD hS
              · have hon1 : 0 < on := nI_nz (by omega) c72
                refine lv_aload_n hx hb dX11_law_75 rfl (lv_at hl 0 rfl) ?_
                refine x_get (ref := "NoteHouseModel") F hP k446 rfl (fun _ h => List.mem_cons_of_mem _ (List.mem_append_right _ (h))) 28 (Nat.le_of_ble_eq_true rfl) (List.mem_cons_of_mem _ (List.mem_append_left _ (List.mem_append_left _ (List.mem_of_getElem? (i := 3) rfl)))) rfl rfl dX11_law_76 ?_
                refine lv_if_ne (tgt := 146) hx hb dX11_law_79 (by decide) (fun c79 => ?_) (fun c79 => ?_)
                · have hfin := hdone (Or.inr (nI_nz (by omega) c79))
                  refine lv_aload_n hx hb dX11_law_146 rfl (lv_at hl 0 rfl) ?_
                  refine lv_iconst (v := 0) hx hb dX11_law_147 (by decide) ?_
                  refine y_put (ref := "NoteHouseModel") F hP hD hS k446 rfl (fun _ h => List.mem_cons_of_mem _ (List.mem_append_right _ (h))) tyX11_ok nmX11 25 (Nat.le_of_ble_eq_true rfl) (List.mem_cons_of_mem _ (List.mem_append_left _ (List.mem_append_left _ (List.mem_of_getElem? (i := 4) rfl)))) rfl rfl rfl rfl (Nat.le_of_ble_eq_true rfl) dX11_law_148 (fun w477 ew478 H locs hP hD hS => ?_)
                  have k479 : wd_at w477 y (.inr (11, [.int v0, .int td, .ref m2, .ref m3, .ref m4, .ref m5, .ref m6, .int (nI pc), .ref m8, .ref m9, .ref m10, .ref m11, .ref m12, .ref m13, .ref m14, .int (nI ac), .int (nI sc), .ref m17, .ref m18, .ref m19, .ref m20, .ref m21, .ref m22, .ref m23, .ref m24, .int 0, .int (nI a), .int (nI b), .int (nI fq), .ref m29, .ref m30, .ref m31, .ref m32, .ref m33, .ref m34, .ref m35, .ref m36, .ref m37, .int (nI sh), .ref m39, .ref m40, .ref m41, .ref m42, .ref m43, .ref m44, .ref m45, .ref m46, .ref m47, .ref m48, .ref m49, .int v50, .ref m51, .ref m52, .ref m53, .ref m54, .int (nI gf), .ref m56, .ref m57, .ref m58, .ref m59])) := wd_at.ps ew478 k446
                  have k480 := wd_at.pt ew478 k447 (tg_ne tm24 ty (by decide))
                  have k481 := wd_at.pt ew478 k448 (tg_ne tm35 ty (by decide))
                  have k482 := wd_at.pt ew478 k449 (tg_ne tm36 ty (by decide))
                  have k483 := wd_at.pt ew478 k450 (tg_ne tm37 ty (by decide))
                  have kp484 := kp451.put ew478 s90
                  refine lv_aload_n hx hb dX11_law_151 rfl (lv_at hl 0 rfl) ?_
                  refine x_get (ref := "NoteHouseModel") F hP k479 rfl (fun _ h => List.mem_cons_of_mem _ (List.mem_append_right _ (h))) 28 (Nat.le_of_ble_eq_true rfl) (List.mem_cons_of_mem _ (List.mem_append_left _ (List.mem_append_left _ (List.mem_of_getElem? (i := 3) rfl)))) rfl rfl dX11_law_152 ?_
                  refine lv_if_ne (tgt := 183) hx hb dX11_law_155 (by decide) (fun c155 => ?_) (fun c155 => ?_)
                  · refine lv_aload_n hx hb dX11_law_183 rfl (lv_at hl 0 rfl) ?_
                    refine x_get (ref := "NoteHouseModel") F hP k479 rfl (fun _ h => List.mem_cons_of_mem _ (List.mem_append_right _ (h))) 28 (Nat.le_of_ble_eq_true rfl) (List.mem_cons_of_mem _ (List.mem_append_left _ (List.mem_append_left _ (List.mem_of_getElem? (i := 3) rfl)))) rfl rfl dX11_law_184 ?_
                    exact y_ir K hP hD hS (Nat.le_of_ble_eq_true rfl) (Nat.le_of_ble_eq_true rfl) (ty := .int) rfl rfl dX11_law_187 (⟨nI a, nI b, nI fq, f35, h36, h37, nI fq, rfl, by unfold lawA; rw [hfin.1], by unfold lawB; rw [if_neg (by rw [hfin.1]; exact fun q => c155 (by rw [q]; rfl))]; exact hlb, kp484, k479, k481, k482, k483⟩)
                  · refine lv_iconst (v := 0) hx hb dX11_law_158 (by decide) ?_
                    refine lv_istore_n (lv' := [(2, .int 0), (0, .ref y), (1, .int (nI on))]) hx hb dX11_law_159 rfl hl (by decide) rfl (fun ls hl => ?_)
                    have lp160 : ∀ (N : Nat) (k2 : Nat) (gd : Nat → Int32) (w485 : Wd), (k2 + N = 5) → (∀ j, j < k2 → gd j = h37 j) → (wd_at w485 y (.inr (11, [.int v0, .int td, .ref m2, .ref m3, .ref m4, .ref m5, .ref m6, .int (nI pc), .ref m8, .ref m9, .ref m10, .ref m11, .ref m12, .ref m13, .ref m14, .int (nI ac), .int (nI sc), .ref m17, .ref m18, .ref m19, .ref m20, .ref m21, .ref m22, .ref m23, .ref m24, .int 0, .int (nI a), .int (nI b), .int (nI fq), .ref m29, .ref m30, .ref m31, .ref m32, .ref m33, .ref m34, .ref m35, .ref m36, .ref m37, .int (nI sh), .ref m39, .ref m40, .ref m41, .ref m42, .ref m43, .ref m44, .ref m45, .ref m46, .ref m47, .ref m48, .ref m49, .int v50, .ref m51, .ref m52, .ref m53, .ref m54, .int (nI gf), .ref m56, .ref m57, .ref m58, .ref m59]))) → (wd_at w485 m24 (.inl (cy 0, 300, .inl f24))) → (wd_at w485 m35 (.inl (cy 2, 5, .inl gd))) → (wd_at w485 m36 (.inl (cy 4, 5, .inl h36))) → (wd_at w485 m37 (.inl (cy 2, 5, .inl h37))) → (wd_kp S w w485) → ∀ (ls : Array Slot), lv_has ls 3 [(0, .ref y), (2, .int (nI k2))] → Wv p l e ({ frames := 6, cells := 0, slots := 0, locals := 130 }) s m args below meth c D A (0) (0) Q w485 (F0 m 160 ls []) := by
                      intro N
                      induction N with
                      | zero =>
                        intro k2 gd w485 hN160 hgd k486 k487 k488 k489 k490 kp491 ls hl H locs hP hD hS
                        refine lv_iload_n hx hb dX11_law_160 rfl (lv_at hl 1 rfl) ?_
                        refine lv_iconst (v := 5) hx hb dX11_law_161 (by decide) ?_
                        refine lv_icmp_ge (tgt := 183) hx hb dX11_law_162 (by decide) (fun c_492 => ?_) (fun c_492 => absurd (nI_le (a := 5) (b := k2) (by omega) (by omega)) c_492)
                        refine lv_aload_n hx hb dX11_law_183 rfl (lv_at hl 0 rfl) ?_
                        refine x_get (ref := "NoteHouseModel") F hP k486 rfl (fun _ h => List.mem_cons_of_mem _ (List.mem_append_right _ (h))) 28 (Nat.le_of_ble_eq_true rfl) (List.mem_cons_of_mem _ (List.mem_append_left _ (List.mem_append_left _ (List.mem_of_getElem? (i := 3) rfl)))) rfl rfl dX11_law_184 ?_
                        exact y_ir K hP hD hS (Nat.le_of_ble_eq_true rfl) (Nat.le_of_ble_eq_true rfl) (ty := .int) rfl rfl dX11_law_187 (⟨nI a, nI b, nI fq, gd, h36, h37, nI fq, rfl, by unfold lawA; rw [hfin.1], by unfold lawB; rw [if_pos (hfin.1.trans (nI_z0 (by omega) c155))]; exact fun j hj => (hgd j (by omega)).trans (hfin.2 (nI_z0 (by omega) c155) j hj), kp491, k486, k488, k489, k490⟩)
                      | succ N ih160 =>
                        intro k2 gd w485 hN160 hgd k486 k487 k488 k489 k490 kp491 ls hl H locs hP hD hS
                        refine lv_iload_n hx hb dX11_law_160 rfl (lv_at hl 1 rfl) ?_
                        refine lv_iconst (v := 5) hx hb dX11_law_161 (by decide) ?_
                        refine lv_icmp_ge (tgt := 183) hx hb dX11_law_162 (by decide) (fun c_493 => absurd c_493 (nI_ge (a := k2) (b := 5) (by omega) (by omega))) (fun c_493 => ?_)
                        refine lv_aload_n hx hb dX11_law_165 rfl (lv_at hl 0 rfl) ?_
                        refine x_get (ref := "NoteHouseModel") F hP k486 rfl (fun _ h => List.mem_cons_of_mem _ (List.mem_append_right _ (h))) 35 (Nat.le_of_ble_eq_true rfl) (List.mem_cons_of_mem _ (List.mem_append_left _ (List.mem_append_left _ (List.mem_of_getElem? (i := 6) rfl)))) rfl rfl dX11_law_166 ?_
                        refine lv_iload_n hx hb dX11_law_169 rfl (lv_at hl 1 rfl) ?_
                        refine lv_aload_n hx hb dX11_law_170 rfl (lv_at hl 0 rfl) ?_
                        refine x_get (ref := "NoteHouseModel") F hP k486 rfl (fun _ h => List.mem_cons_of_mem _ (List.mem_append_right _ (h))) 37 (Nat.le_of_ble_eq_true rfl) (List.mem_cons_of_mem _ (List.mem_append_left _ (List.mem_append_left _ (List.mem_of_getElem? (i := 1) rfl)))) rfl rfl dX11_law_171 ?_
                        refine lv_iload_n hx hb dX11_law_174 rfl (lv_at hl 1 rfl) ?_
                        refine x_iald F hP k490 (vp_in_nI (n := k2) (N := 5) (by omega) (by decide)) dX11_law_175 ?_
                        rw [nI_clamp (n := k2) (by omega)]
                        refine y_iast F hP hD hS k488 (vp_in_nI (n := k2) (N := 5) (by omega) (by decide)) dX11_law_176 (fun w494 ew495 H locs hP hD hS => ?_)
                        have k496 := wd_at.pt ew495 k486 (tg_ne ty tm35 (by decide))
                        have k497 := wd_at.pt ew495 k487 (tg_ne tm24 tm35 (by decide))
                        have k498 : wd_at w494 m35 (.inl (cy 2, 5, .inl (upd gd (nI k2).toNatClampNeg (h37 k2)))) := wd_at.ps ew495 k488
                        have k499 := wd_at.pt ew495 k489 (tg_ne tm36 tm35 (by decide))
                        have k500 := wd_at.pt ew495 k490 (tg_ne tm37 tm35 (by decide))
                        have kp501 := kp491.put ew495 s91
                        refine lv_iinc (v := nI (k2 + 1)) (lv' := [(2, .int (nI (k2 + 1))), (0, .ref y)]) hx hb dX11_law_177 hl (k := 1) rfl (nI_1 k2) (by decide) rfl (fun ls hl => ?_)
                        refine lv_goto (tgt := 160) hx hb dX11_law_180 (by decide) ?_
                        exact ih160 (k2 + 1) (upd gd (nI k2).toNatClampNeg (h37 k2)) w494 (by omega) (up5 (by omega) hgd) k496 k497 k498 k499 k500 kp501 ls (lv_sub hl [1, 0] rfl) H locs hP hD hS
                    exact lp160 _ 0 f35 w477 (Nat.zero_add 5) (fun j hj => absurd hj (Nat.not_lt_zero j)) k479 k480 k481 k482 k483 kp484 ls (lv_sub hl [1, 0] rfl) H locs hP hD hS
                · have hf0 : fq = 0 := nI_z0 (by omega) c79
                  obtain ⟨hG, htR2, hlR2, hm2⟩ := hact hon1 hf0
                  subst hf0
                  refine lv_aload_n hx hb dX11_law_82 rfl (lv_at hl 0 rfl) ?_
                  refine x_callV (n := 0) (As := []) (rest := []) F hP hD hS (m_clause l D cy sk sv w445 tg y m2 m3 m4 m5 m6 m8 m9 m10 m11 m12 m13 m14 m17 m18 m19 m20 m21 m22 m23 m24 m29 m30 m31 m32 m33 m34 m35 m36 m37 m39 m40 m41 m42 m43 m44 m45 m46 m47 m48 m49 m51 m52 m53 m54 m56 m57 m58 m59 pc ac sc ln sh gf v0 td (nI b) v50 f24 h36 h37 a mt2 bb2 k446 k447 k449 k450 (fun b => b = y ∨ b = m36 ∨ b = m37) (Or.inl rfl) (Or.inr (Or.inl rfl)) (Or.inr (Or.inr rfl)) ty tm24 tm36 tm37 (by omega) (by omega) (by omega) (by assumption) (by assumption)) gX11_law_X11_clause rfl rfl (by decide +kernel) ⟨(Nat.le_of_ble_eq_true rfl), (Nat.le_of_ble_eq_true rfl)⟩ rfl hl.1 (Nat.le_of_ble_eq_true rfl) k446 rfl dX11_law_83 rfl ⟨(Nat.le_of_ble_eq_true rfl), (Nat.le_of_ble_eq_true rfl)⟩ (fun v503 w504 hp502 H locs hP hD hS => ?_)
                  obtain ⟨ax505, bx506, fvx507, gx508, gx509, rfl, rfl, hz510, hz511, hz512, hz513, kq517, k514, k515, k516⟩ := hp502
                  have k518 := kq517.2 _ _ k447 (orN (tg_ne tm24 ty (by decide)) (orN (tg_ne tm24 tm36 (by decide)) (tg_ne tm24 tm37 (by decide))))
                  have k519 := kq517.2 _ _ k448 (orN (tg_ne tm35 ty (by decide)) (orN (tg_ne tm35 tm36 (by decide)) (tg_ne tm35 tm37 (by decide))))
                  have kp520 := kp451.tr kq517 (fun b9 hm q9 => (fun q9 => Or.elim q9 (fun q9 => q9 ▸ s90) (fun q9 => Or.elim q9 (fun q9 => q9 ▸ s92) (fun q9 => q9 ▸ s93))) q9)
                  refine W.eq (g2 := F0 m 86 ls []) rfl (W.widen (k := 0) (n := 0) (Nat.le_of_ble_eq_true rfl) (Nat.le_of_ble_eq_true rfl) ?_)
                  refine lv_aload_n hx hb dX11_law_86 rfl (lv_at hl 0 rfl) ?_
                  refine x_get (ref := "NoteHouseModel") F hP k514 rfl (fun _ h => List.mem_cons_of_mem _ (List.mem_append_right _ (h))) 28 (Nat.le_of_ble_eq_true rfl) (List.mem_cons_of_mem _ (List.mem_append_left _ (List.mem_append_left _ (List.mem_of_getElem? (i := 3) rfl)))) rfl rfl dX11_law_87 ?_
                  refine lv_if_ne (tgt := 104) hx hb dX11_law_90 (by decide) (fun cF => ?_) (fun cF => ?_)
                  · have hF : ¬ clF f24 ln a mt2 = 0 := fun q => cF (by rw [q]; rfl)
                    refine lv_iconst (v := 0) hx hb dX11_law_104 (by decide) ?_
                    refine lv_istore_n (lv' := [(1, .int 0), (0, .ref y)]) hx hb dX11_law_105 rfl hl (by decide) rfl (fun ls hl => ?_)
                    refine lv_iload_n hx hb dX11_law_106 rfl (lv_at hl 0 rfl) ?_
                    refine lv_if_eq (tgt := 71) hx hb dX11_law_107 (by decide) (fun c_521 => ?_) (fun c_521 => absurd (show (0 : Int32) = (0 : Int32) by decide) c_521)
                    exact ih71 0 ax505 bx506 (clF f24 ln a mt2) gx508 gx509 (clM f24 ln a mt2) (clB f24 ln a bb2) w504 (by omega) (by omega) (by omega) (by omega) (fun h => absurd h (by omega)) (fun _ => by rw [← hG, show 6 - bc5 mt2 = (5 - bc5 mt2) + 1 by have h9 := bt_5 mt2 hm2; omega, lawG_n hF]; exact ⟨rfl, fun q => absurd q hF⟩) k514 k518 k519 k515 k516 kp520 ls (lv_sub hl [1, 0] rfl) H locs hP hD hS
                  · have hF0 : clF f24 ln a mt2 = 0 := nI_z0 (by omega) cF
                    obtain ⟨ea9, htR3, hlR3⟩ := hz513 hF0
                    subst ea9
                    refine lv_aload_n hx hb dX11_law_93 rfl (lv_at hl 0 rfl) ?_
                    refine x_callV (n := 0) (As := []) (rest := []) F hP hD hS (m_isEnd l D cy sk sv w504 tg y m2 m3 m4 m5 m6 m8 m9 m10 m11 m12 m13 m14 m17 m18 m19 m20 m21 m22 m23 m24 m29 m30 m31 m32 m33 m34 m35 m36 m37 m39 m40 m41 m42 m43 m44 m45 m46 m47 m48 m49 m51 m52 m53 m54 m56 m57 m58 m59 pc ac sc ln sh gf v0 td (nI bx506) (nI (clF f24 ln a mt2)) v50 f24 (clA f24 ln a) k514 k518 (fun b => b = y) rfl ty tm24 (by omega) (by omega)) gX11_law_X11_isEnd rfl rfl (by decide +kernel) ⟨(Nat.le_of_ble_eq_true rfl), (Nat.le_of_ble_eq_true rfl)⟩ rfl hl.1 (Nat.le_of_ble_eq_true rfl) k514 rfl dX11_law_94 rfl ⟨(Nat.le_of_ble_eq_true rfl), (Nat.le_of_ble_eq_true rfl)⟩ (fun v523 w524 hp522 H locs hP hD hS => ?_)
                    obtain ⟨ax525, rx526, rfl, rfl, rfl, hz527, hz528, hz529, hz530, kq532, k531⟩ := hp522
                    have k533 := kq532.2 _ _ k518 (tg_ne tm24 ty (by decide))
                    have k534 := kq532.2 _ _ k519 (tg_ne tm35 ty (by decide))
                    have k535 := kq532.2 _ _ k515 (tg_ne tm36 ty (by decide))
                    have k536 := kq532.2 _ _ k516 (tg_ne tm37 ty (by decide))
                    have kp537 := kp520.tr kq532 (fun b9 hm q9 => (fun q9 => q9 ▸ s90) q9)
                    refine W.eq (g2 := F0 m 97 ls [.int (ieR f24 ln (clA f24 ln a))]) rfl (W.widen (k := 0) (n := 0) (Nat.le_of_ble_eq_true rfl) (Nat.le_of_ble_eq_true rfl) ?_)
                    refine lv_if_ne (tgt := 104) hx hb dX11_law_97 (by decide) (fun cE => ?_) (fun cE => ?_)
                    · have hE := ieR_1 cE
                      refine lv_iconst (v := 0) hx hb dX11_law_104 (by decide) ?_
                      refine lv_istore_n (lv' := [(1, .int 0), (0, .ref y)]) hx hb dX11_law_105 rfl hl (by decide) rfl (fun ls hl => ?_)
                      refine lv_iload_n hx hb dX11_law_106 rfl (lv_at hl 0 rfl) ?_
                      refine lv_if_eq (tgt := 71) hx hb dX11_law_107 (by decide) (fun c_538 => ?_) (fun c_538 => absurd (show (0 : Int32) = (0 : Int32) by decide) c_538)
                      exact ih71 0 (nx f24 ln (clA f24 ln a)) (nx f24 ln (clA f24 ln a)) (clF f24 ln a mt2) gx508 gx509 (clM f24 ln a mt2) (clB f24 ln a bb2) w524 (by omega) (by omega) (by omega) (by omega) (fun h => absurd h (by omega)) (fun _ => by rw [← hG, show 6 - bc5 mt2 = (5 - bc5 mt2) + 1 by have h9 := bt_5 mt2 hm2; omega, lawG_e hF0 (by omega)]; exact ⟨hF0.symm, fun _ => hlR3⟩) k531 k533 k534 k535 k536 kp537 ls (lv_sub hl [1, 0] rfl) H locs hP hD hS
                    · have hne := hz530 cE
                      refine lv_iconst (v := 1) hx hb dX11_law_100 (by decide) ?_
                      refine lv_goto (tgt := 105) hx hb dX11_law_101 (by decide) ?_
                      refine lv_istore_n (lv' := [(1, .int 1), (0, .ref y)]) hx hb dX11_law_105 rfl hl (by decide) rfl (fun ls hl => ?_)
                      refine lv_iload_n hx hb dX11_law_106 rfl (lv_at hl 0 rfl) ?_
                      refine lv_if_eq (tgt := 71) hx hb dX11_law_107 (by decide) (fun c_539 => absurd c_539 (show ¬ (1 : Int32) = (0 : Int32) by decide)) (fun c_539 => ?_)
                      refine lv_aload_n hx hb dX11_law_110 rfl (lv_at hl 1 rfl) ?_
                      refine x_get (ref := "NoteHouseModel") F hP k531 rfl (fun _ h => List.mem_cons_of_mem _ (List.mem_append_right _ (h))) 24 (Nat.le_of_ble_eq_true rfl) (List.mem_cons_of_mem _ (List.mem_append_left _ (List.mem_append_left _ (List.mem_of_getElem? (i := 5) rfl)))) rfl rfl dX11_law_111 ?_
                      refine lv_aload_n hx hb dX11_law_114 rfl (lv_at hl 1 rfl) ?_
                      refine x_get (ref := "NoteHouseModel") F hP k531 rfl (fun _ h => List.mem_cons_of_mem _ (List.mem_append_right _ (h))) 26 (Nat.le_of_ble_eq_true rfl) (List.mem_cons_of_mem _ (List.mem_append_left _ (List.mem_append_left _ (List.mem_of_getElem? (i := 2) rfl)))) rfl rfl dX11_law_115 ?_
                      refine x_bald F hP k533 (vp_in_nI (n := (nx f24 ln (clA f24 ln a))) (N := 300) (by omega) (by decide)) dX11_law_118 ?_
                      rw [nI_clamp (n := nx f24 ln (clA f24 ln a)) (by omega)]
                      refine lv_bipush (v := 59) hx hb dX11_law_119 (by decide) ?_
                      refine lv_icmp_eq (tgt := 133) hx hb dX11_law_121 (by decide) (fun c59 => ?_) (fun c59 => ?_)
                      · refine lv_aload_n hx hb dX11_law_133 rfl (lv_at hl 1 rfl) ?_
                        refine lv_dup hx hb dX11_law_134 rfl ?_
                        refine x_get (ref := "NoteHouseModel") F hP k531 rfl (fun _ h => List.mem_cons_of_mem _ (List.mem_append_right _ (h))) 26 (Nat.le_of_ble_eq_true rfl) (List.mem_cons_of_mem _ (List.mem_append_left _ (List.mem_append_left _ (List.mem_of_getElem? (i := 2) rfl)))) rfl rfl dX11_law_135 ?_
                        refine lv_iconst (v := 1) hx hb dX11_law_138 (by decide) ?_
                        refine lv_iadd hx hb dX11_law_139 ?_
                        rw [show ((nI (nx f24 ln (clA f24 ln a))) + 1 : Int32) = nI ((nx f24 ln (clA f24 ln a)) + 1) from nI_add (nx f24 ln (clA f24 ln a)) 1]
                        refine y_put (ref := "NoteHouseModel") F hP hD hS k531 rfl (fun _ h => List.mem_cons_of_mem _ (List.mem_append_right _ (h))) tyX11_ok nmX11 26 (Nat.le_of_ble_eq_true rfl) (List.mem_cons_of_mem _ (List.mem_append_left _ (List.mem_append_left _ (List.mem_of_getElem? (i := 2) rfl)))) rfl rfl rfl rfl (Nat.le_of_ble_eq_true rfl) dX11_law_140 (fun w540 ew541 H locs hP hD hS => ?_)
                        have k542 : wd_at w540 y (.inr (11, [.int v0, .int td, .ref m2, .ref m3, .ref m4, .ref m5, .ref m6, .int (nI pc), .ref m8, .ref m9, .ref m10, .ref m11, .ref m12, .ref m13, .ref m14, .int (nI ac), .int (nI sc), .ref m17, .ref m18, .ref m19, .ref m20, .ref m21, .ref m22, .ref m23, .ref m24, .int (nI ln), .int (nI ((nx f24 ln (clA f24 ln a)) + 1)), .int (nI (nx f24 ln (clA f24 ln a))), .int (nI (clF f24 ln a mt2)), .ref m29, .ref m30, .ref m31, .ref m32, .ref m33, .ref m34, .ref m35, .ref m36, .ref m37, .int (nI sh), .ref m39, .ref m40, .ref m41, .ref m42, .ref m43, .ref m44, .ref m45, .ref m46, .ref m47, .ref m48, .ref m49, .int v50, .ref m51, .ref m52, .ref m53, .ref m54, .int (nI gf), .ref m56, .ref m57, .ref m58, .ref m59])) := wd_at.ps ew541 k531
                        have k543 := wd_at.pt ew541 k533 (tg_ne tm24 ty (by decide))
                        have k544 := wd_at.pt ew541 k534 (tg_ne tm35 ty (by decide))
                        have k545 := wd_at.pt ew541 k535 (tg_ne tm36 ty (by decide))
                        have k546 := wd_at.pt ew541 k536 (tg_ne tm37 ty (by decide))
                        have kp547 := kp537.put ew541 s90
                        refine lv_goto (tgt := 71) hx hb dX11_law_143 (by decide) ?_
                        exact ih71 1 ((nx f24 ln (clA f24 ln a)) + 1) (nx f24 ln (clA f24 ln a)) (clF f24 ln a mt2) gx508 gx509 (clM f24 ln a mt2) (clB f24 ln a bb2) w540 (by omega) (by omega) (by omega) (by omega) (fun _ _ => ⟨by rw [(clM_s hm2 hF0).2, show 6 - (bc5 mt2 + 1) = 5 - bc5 mt2 by omega, ← lawG_s hF0 hne c59, ← hG, show 6 - bc5 mt2 = (5 - bc5 mt2) + 1 by have h9 := bt_5 mt2 hm2; omega], htR3, hlR3, (clM_s hm2 hF0).1⟩) (fun h => absurd h (by omega)) k542 k543 k544 k545 k546 kp547 ls (lv_sub hl [1, 0] rfl) H locs hP hD hS
                      · refine lv_aload_n hx hb dX11_law_124 rfl (lv_at hl 1 rfl) ?_
                        refine lv_iconst (v := 0) hx hb dX11_law_125 (by decide) ?_
                        refine lv_aload_n hx hb dX11_law_126 rfl (lv_at hl 1 rfl) ?_
                        refine x_get (ref := "NoteHouseModel") F hP k531 rfl (fun _ h => List.mem_cons_of_mem _ (List.mem_append_right _ (h))) 26 (Nat.le_of_ble_eq_true rfl) (List.mem_cons_of_mem _ (List.mem_append_left _ (List.mem_append_left _ (List.mem_of_getElem? (i := 2) rfl)))) rfl rfl dX11_law_127 ?_
                        refine x_callV (n := 2) (As := [.int 0, .int (nI (nx f24 ln (clA f24 ln a)))]) (rest := []) F hP hD hS (m_fails l D cy sk sv w524 tg y m2 m3 m4 m5 m6 m8 m9 m10 m11 m12 m13 m14 m17 m18 m19 m20 m21 m22 m23 m24 m29 m30 m31 m32 m33 m34 m35 m36 m37 m39 m40 m41 m42 m43 m44 m45 m46 m47 m48 m49 m51 m52 m53 m54 m56 m57 m58 m59 pc ac sc ln sh gf v0 td (nI (nx f24 ln (clA f24 ln a))) (nI (nx f24 ln (clA f24 ln a))) v50 (clF f24 ln a mt2) 0 (nx f24 ln (clA f24 ln a)) k531 (fun b => b = y) rfl ty (by omega) (by omega) (by omega)) gX11_law_X11_fails rfl rfl (by decide +kernel) ⟨(Nat.le_of_ble_eq_true rfl), (Nat.le_of_ble_eq_true rfl)⟩ rfl hl.1 (Nat.le_of_ble_eq_true rfl) k531 rfl dX11_law_130 rfl ⟨(Nat.le_of_ble_eq_true rfl), (Nat.le_of_ble_eq_true rfl)⟩ (fun v549 w550 hp548 H locs hP hD hS => ?_)
                        obtain ⟨fwx551, rfl, rfl, hz552, hz553, kq555, k554⟩ := hp548
                        have k556 := kq555.2 _ _ k533 (tg_ne tm24 ty (by decide))
                        have k557 := kq555.2 _ _ k534 (tg_ne tm35 ty (by decide))
                        have k558 := kq555.2 _ _ k535 (tg_ne tm36 ty (by decide))
                        have k559 := kq555.2 _ _ k536 (tg_ne tm37 ty (by decide))
                        have kp560 := kp537.tr kq555 (fun b9 hm q9 => (fun q9 => q9 ▸ s90) q9)
                        refine W.eq (g2 := F0 m 133 ls []) rfl (W.widen (k := 0) (n := 0) (Nat.le_of_ble_eq_true rfl) (Nat.le_of_ble_eq_true rfl) ?_)
                        refine lv_aload_n hx hb dX11_law_133 rfl (lv_at hl 1 rfl) ?_
                        refine lv_dup hx hb dX11_law_134 rfl ?_
                        refine x_get (ref := "NoteHouseModel") F hP k554 rfl (fun _ h => List.mem_cons_of_mem _ (List.mem_append_right _ (h))) 26 (Nat.le_of_ble_eq_true rfl) (List.mem_cons_of_mem _ (List.mem_append_left _ (List.mem_append_left _ (List.mem_of_getElem? (i := 2) rfl)))) rfl rfl dX11_law_135 ?_
                        refine lv_iconst (v := 1) hx hb dX11_law_138 (by decide) ?_
                        refine lv_iadd hx hb dX11_law_139 ?_
                        rw [show ((nI (nx f24 ln (clA f24 ln a))) + 1 : Int32) = nI ((nx f24 ln (clA f24 ln a)) + 1) from nI_add (nx f24 ln (clA f24 ln a)) 1]
                        refine y_put (ref := "NoteHouseModel") F hP hD hS k554 rfl (fun _ h => List.mem_cons_of_mem _ (List.mem_append_right _ (h))) tyX11_ok nmX11 26 (Nat.le_of_ble_eq_true rfl) (List.mem_cons_of_mem _ (List.mem_append_left _ (List.mem_append_left _ (List.mem_of_getElem? (i := 2) rfl)))) rfl rfl rfl rfl (Nat.le_of_ble_eq_true rfl) dX11_law_140 (fun w561 ew562 H locs hP hD hS => ?_)
                        have k563 : wd_at w561 y (.inr (11, [.int v0, .int td, .ref m2, .ref m3, .ref m4, .ref m5, .ref m6, .int (nI pc), .ref m8, .ref m9, .ref m10, .ref m11, .ref m12, .ref m13, .ref m14, .int (nI ac), .int (nI sc), .ref m17, .ref m18, .ref m19, .ref m20, .ref m21, .ref m22, .ref m23, .ref m24, .int (nI ln), .int (nI ((nx f24 ln (clA f24 ln a)) + 1)), .int (nI (nx f24 ln (clA f24 ln a))), .int (nI (flF (clF f24 ln a mt2) 0 (nx f24 ln (clA f24 ln a)))), .ref m29, .ref m30, .ref m31, .ref m32, .ref m33, .ref m34, .ref m35, .ref m36, .ref m37, .int (nI sh), .ref m39, .ref m40, .ref m41, .ref m42, .ref m43, .ref m44, .ref m45, .ref m46, .ref m47, .ref m48, .ref m49, .int v50, .ref m51, .ref m52, .ref m53, .ref m54, .int (nI gf), .ref m56, .ref m57, .ref m58, .ref m59])) := wd_at.ps ew562 k554
                        have k564 := wd_at.pt ew562 k556 (tg_ne tm24 ty (by decide))
                        have k565 := wd_at.pt ew562 k557 (tg_ne tm35 ty (by decide))
                        have k566 := wd_at.pt ew562 k558 (tg_ne tm36 ty (by decide))
                        have k567 := wd_at.pt ew562 k559 (tg_ne tm37 ty (by decide))
                        have kp568 := kp560.put ew562 s90
                        refine lv_goto (tgt := 71) hx hb dX11_law_143 (by decide) ?_
                        exact ih71 1 ((nx f24 ln (clA f24 ln a)) + 1) (nx f24 ln (clA f24 ln a)) (flF (clF f24 ln a mt2) 0 (nx f24 ln (clA f24 ln a))) gx508 gx509 (clM f24 ln a mt2) (clB f24 ln a bb2) w561 (by omega) (by omega) (by omega) (by omega) (fun _ q => absurd q (by omega)) (fun _ => by rw [← hG, show 6 - bc5 mt2 = (5 - bc5 mt2) + 1 by have h9 := bt_5 mt2 hm2; omega, lawG_f hF0 hne c59]; exact ⟨by rw [hF0, flF_0], fun q => absurd q (by omega)⟩) k563 k564 k565 k566 k567 kp568 ls (lv_sub hl [1, 0] rfl) H locs hP hD hS
          exact lp71 (2 * ln + 2) 1 (nx f24 ln 0) (nx f24 ln 0) (flF 0 0 200) ga gb 0 law0 w306 (by omega) (by omega) (by omega) (by omega) (fun _ q => absurd q (by decide)) (fun _ => by rw [lawT_1 h200]; exact ⟨rfl, fun q => absurd q (by decide)⟩) k313 k315 k316 k317 k318 kp319 ls (lv_sub hl [1, 0] rfl) H locs hP hD hS
    | succ N ih2 =>
      intro k ga gb w1 hN2 hga hgb k2 k3 k4 k5 k6 kp7 ls hl H locs hP hD hS
      refine lv_iload_n hx hb dX11_law_2 rfl (lv_at hl 1 rfl) ?_
      refine lv_iconst (v := 5) hx hb dX11_law_3 (by decide) ?_
      refine lv_icmp_ge (tgt := 30) hx hb dX11_law_4 (by decide) (fun c_569 => absurd c_569 (nI_ge (a := k) (b := 5) (by omega) (by omega))) (fun c_569 => ?_)
      refine lv_aload_n hx hb dX11_law_7 rfl (lv_at hl 0 rfl) ?_
      refine x_get (ref := "NoteHouseModel") F hP k2 rfl (fun _ h => List.mem_cons_of_mem _ (List.mem_append_right _ (h))) 36 (Nat.le_of_ble_eq_true rfl) (List.mem_cons_of_mem _ (List.mem_append_left _ (List.mem_append_left _ (List.mem_of_getElem? (i := 0) rfl)))) rfl rfl dX11_law_8 ?_
      refine lv_iload_n hx hb dX11_law_11 rfl (lv_at hl 1 rfl) ?_
      refine lv_iconst (v := 0) hx hb dX11_law_12 (by decide) ?_
      refine y_zast F hP hD hS k5 (vp_in_nI (n := k) (N := 5) (by omega) (by decide)) dX11_law_13 (fun w570 ew571 H locs hP hD hS => ?_)
      have k572 := wd_at.pt ew571 k2 (tg_ne ty tm36 (by decide))
      have k573 := wd_at.pt ew571 k3 (tg_ne tm24 tm36 (by decide))
      have k574 := wd_at.pt ew571 k4 (tg_ne tm35 tm36 (by decide))
      have k575 : wd_at w570 m36 (.inl (cy 4, 5, .inl (upd ga (nI k).toNatClampNeg (vp_nar .boolean 0)))) := wd_at.ps ew571 k5
      have k576 := wd_at.pt ew571 k6 (tg_ne tm37 tm36 (by decide))
      have kp577 := kp7.put ew571 s92
      refine lv_aload_n hx hb dX11_law_14 rfl (lv_at hl 0 rfl) ?_
      refine x_get (ref := "NoteHouseModel") F hP k572 rfl (fun _ h => List.mem_cons_of_mem _ (List.mem_append_right _ (h))) 37 (Nat.le_of_ble_eq_true rfl) (List.mem_cons_of_mem _ (List.mem_append_left _ (List.mem_append_left _ (List.mem_of_getElem? (i := 1) rfl)))) rfl rfl dX11_law_15 ?_
      refine lv_iload_n hx hb dX11_law_18 rfl (lv_at hl 1 rfl) ?_
      refine lv_iload_n hx hb dX11_law_19 rfl (lv_at hl 1 rfl) ?_
      refine x_callS (n := 1) (As := [.int (nI k)]) (rest := [.int (nI k), .ref m37]) F hP hD hS (m_without l D cy sk sv w570 k (by omega)) gX11_law_X11_without rfl (by decide +kernel) ⟨(Nat.le_of_ble_eq_true rfl), (Nat.le_of_ble_eq_true rfl)⟩ rfl hl.1 (Nat.le_of_ble_eq_true rfl) dX11_law_20 rfl ⟨(Nat.le_of_ble_eq_true rfl), (Nat.le_of_ble_eq_true rfl)⟩ (fun v579 w580 hp578 H locs hP hD hS => ?_)
      obtain ⟨rx581, rfl, rfl, rfl⟩ := hp578
      refine W.eq (g2 := F0 m 23 ls [.int (law0 k), .int (nI k), .ref m37]) rfl (W.widen (k := 0) (n := 0) (Nat.le_of_ble_eq_true rfl) (Nat.le_of_ble_eq_true rfl) ?_)
      refine y_iast F hP hD hS k576 (vp_in_nI (n := k) (N := 5) (by omega) (by decide)) dX11_law_23 (fun w582 ew583 H locs hP hD hS => ?_)
      have k584 := wd_at.pt ew583 k572 (tg_ne ty tm37 (by decide))
      have k585 := wd_at.pt ew583 k573 (tg_ne tm24 tm37 (by decide))
      have k586 := wd_at.pt ew583 k574 (tg_ne tm35 tm37 (by decide))
      have k587 := wd_at.pt ew583 k575 (tg_ne tm36 tm37 (by decide))
      have k588 : wd_at w582 m37 (.inl (cy 2, 5, .inl (upd gb (nI k).toNatClampNeg (law0 k)))) := wd_at.ps ew583 k576
      have kp589 := kp577.put ew583 s93
      refine lv_iinc (v := nI (k + 1)) (lv' := [(1, .int (nI (k + 1))), (0, .ref y)]) hx hb dX11_law_24 hl (k := 1) rfl (nI_1 k) (by decide) rfl (fun ls hl => ?_)
      refine lv_goto (tgt := 2) hx hb dX11_law_27 (by decide) ?_
      exact ih2 (k + 1) (upd ga (nI k).toNatClampNeg (vp_nar .boolean 0)) (upd gb (nI k).toNatClampNeg (law0 k)) w582 (by omega) (up50 (by omega) hga) (up5 (by omega) hgb) k584 k585 k586 k587 k588 kp589 ls (lv_sub hl [1, 0] rfl) H locs hP hD hS
  exact lp2 _ 0 f36 f37 w (Nat.zero_add 5) (fun j hj => absurd hj (Nat.not_lt_zero j)) (fun j hj => absurd hj (Nat.not_lt_zero j)) c90 c91 c92 c93 c94 kp0 ls (lv_sub hl [1, 0] rfl) H locs hP hD hS
