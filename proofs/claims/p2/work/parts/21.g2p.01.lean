set_option maxHeartbeats 4000000 in
set_option maxRecDepth 100000 in
theorem m_without (l : Launch) (D : va_G) (cy : Nat → ClassId) (sk sv : Nat → Nat) (w : Wd) (k : Int32)    : Ct l D cy sk sv yX11_without wsX11_without ({ frames := 0, cells := 0, slots := 0, locals := 0 }) [.int k] w (fun v w1 => ∃ (r1 : Int32), v = some (.int r1) ∧ w = w1) := by
  refine Ct.by (cc := cX11_without) (maxL := 1) (ret := (some .int)) (by decide +kernel) rfl (Nat.le_of_ble_eq_true rfl) ?_
  intro p e s m args below meth c A Q F hnm K ls hl
  have F : wd_Fx p s m args meth c cX11_without 1 wsX11_without RX11 D cy sk sv A := F
  have hl : lv_has ls 1 [(0, .int k)] := hl
  have hx := F.1.1
  have hb := F.1.2.1
  have hown := F.1.2.2.2.1
  have hts := F.1.2.2.2.2
  intro H locs hP hD hS
  refine lv_iload_n hx hb dX11_without_0 rfl (lv_at hl 0 rfl) ?_
  refine lv_iconst (v := 2) hx hb dX11_without_1 (by decide) ?_
  refine lv_icmp_ge (tgt := 9) hx hb dX11_without_2 (by decide) (fun c_1 => ?_) (fun c_1 => ?_)
  · refine lv_iload_n hx hb dX11_without_9 rfl (lv_at hl 0 rfl) ?_
    refine lv_iconst (v := 2) hx hb dX11_without_10 (by decide) ?_
    refine lv_icmp_ne (tgt := 18) hx hb dX11_without_11 (by decide) (fun c_2 => ?_) (fun c_2 => ?_)
    · refine lv_iload_n hx hb dX11_without_18 rfl (lv_at hl 0 rfl) ?_
      refine lv_iconst (v := 3) hx hb dX11_without_19 (by decide) ?_
      refine lv_icmp_ne (tgt := 27) hx hb dX11_without_20 (by decide) (fun c_3 => ?_) (fun c_3 => ?_)
      · refine lv_bipush (v := 10) hx hb dX11_without_27 (by decide) ?_
        exact y_ir K hP hD hS (Nat.le_of_ble_eq_true rfl) (Nat.le_of_ble_eq_true rfl) (ty := .int) rfl rfl dX11_without_29 (⟨10, rfl, rfl⟩)
      · refine lv_iconst (v := 2) hx hb dX11_without_23 (by decide) ?_
        refine lv_goto (tgt := 29) hx hb dX11_without_24 (by decide) ?_
        exact y_ir K hP hD hS (Nat.le_of_ble_eq_true rfl) (Nat.le_of_ble_eq_true rfl) (ty := .int) rfl rfl dX11_without_29 (⟨2, rfl, rfl⟩)
    · refine lv_iconst (v := 0) hx hb dX11_without_14 (by decide) ?_
      refine lv_goto (tgt := 29) hx hb dX11_without_15 (by decide) ?_
      exact y_ir K hP hD hS (Nat.le_of_ble_eq_true rfl) (Nat.le_of_ble_eq_true rfl) (ty := .int) rfl rfl dX11_without_29 (⟨0, rfl, rfl⟩)
  · refine lv_iconst (v := 1) hx hb dX11_without_5 (by decide) ?_
    refine lv_goto (tgt := 29) hx hb dX11_without_6 (by decide) ?_
    exact y_ir K hP hD hS (Nat.le_of_ble_eq_true rfl) (Nat.le_of_ble_eq_true rfl) (ty := .int) rfl rfl dX11_without_29 (⟨1, rfl, rfl⟩)
set_option maxHeartbeats 4000000 in
set_option maxRecDepth 100000 in
theorem m_clause (l : Launch) (D : va_G) (cy : Nat → ClassId) (sk sv : Nat → Nat) (w : Wd) (tg : Nat → Nat) (y m2 m3 m4 m5 m6 m8 m9 m10 m11 m12 m13 m14 m17 m18 m19 m20 m21 m22 m23 m24 m29 m30 m31 m32 m33 m34 m35 m36 m37 m39 m40 m41 m42 m43 m44 m45 m46 m47 m48 m49 m51 m52 m53 m54 m56 m57 m58 m59 pc ac sc ln sh gf : Nat) (v0 td v27 v50 : Int32) (f24 : Nat → Int32) (f36 : Nat → Int32) (f37 : Nat → Int32) (a0 fv : Nat) (c90 : wd_at w y (.inr (11, [.int v0, .int td, .ref m2, .ref m3, .ref m4, .ref m5, .ref m6, .int (nI pc), .ref m8, .ref m9, .ref m10, .ref m11, .ref m12, .ref m13, .ref m14, .int (nI ac), .int (nI sc), .ref m17, .ref m18, .ref m19, .ref m20, .ref m21, .ref m22, .ref m23, .ref m24, .int (nI ln), .int (nI a0), .int v27, .int (nI fv), .ref m29, .ref m30, .ref m31, .ref m32, .ref m33, .ref m34, .ref m35, .ref m36, .ref m37, .int (nI sh), .ref m39, .ref m40, .ref m41, .ref m42, .ref m43, .ref m44, .ref m45, .ref m46, .ref m47, .ref m48, .ref m49, .int v50, .ref m51, .ref m52, .ref m53, .ref m54, .int (nI gf), .ref m56, .ref m57, .ref m58, .ref m59]))) (c91 : wd_at w m24 (.inl (cy 0, 300, .inl f24))) (c92 : wd_at w m36 (.inl (cy 4, 5, .inl f36))) (c93 : wd_at w m37 (.inl (cy 2, 5, .inl f37)))  (S : Nat → Prop) (s90 : S y) (s91 : S m36) (s92 : S m37) (ty : tg y = 10000) (tm24 : tg m24 = 10124) (tm36 : tg m36 = 10136) (tm37 : tg m37 = 10137) (hln : ln ≤ 300) (ha0 : a0 ≤ ln) (hfv : fv < 2000) : Ct l D cy sk sv yX11_clause wsX11_clause ({ frames := 5, cells := 0, slots := 0, locals := 108 }) [.ref y] w (fun v w1 => ∃ (a1 : Nat) (b1 : Nat) (fv1 : Nat) (g36 : Nat → Int32) (g37 : Nat → Int32), v = none ∧ (a0 ≤ a1) ∧ (a1 ≤ ln) ∧ (fv1 < 2000) ∧ wd_kp S w w1 ∧ wd_at w1 y (.inr (11, [.int v0, .int td, .ref m2, .ref m3, .ref m4, .ref m5, .ref m6, .int (nI pc), .ref m8, .ref m9, .ref m10, .ref m11, .ref m12, .ref m13, .ref m14, .int (nI ac), .int (nI sc), .ref m17, .ref m18, .ref m19, .ref m20, .ref m21, .ref m22, .ref m23, .ref m24, .int (nI ln), .int (nI a1), .int (nI b1), .int (nI fv1), .ref m29, .ref m30, .ref m31, .ref m32, .ref m33, .ref m34, .ref m35, .ref m36, .ref m37, .int (nI sh), .ref m39, .ref m40, .ref m41, .ref m42, .ref m43, .ref m44, .ref m45, .ref m46, .ref m47, .ref m48, .ref m49, .int v50, .ref m51, .ref m52, .ref m53, .ref m54, .int (nI gf), .ref m56, .ref m57, .ref m58, .ref m59])) ∧ wd_at w1 m36 (.inl (cy 4, 5, .inl g36)) ∧ wd_at w1 m37 (.inl (cy 2, 5, .inl g37))) := by
  refine Ct.by (cc := cX11_clause) (maxL := 3) (ret := none) (by decide +kernel) rfl (Nat.le_of_ble_eq_true rfl) ?_
  intro p e s m args below meth c A Q F hnm K ls hl
  have F : wd_Fx p s m args meth c cX11_clause 3 wsX11_clause RX11 D cy sk sv A := F
  have hl : lv_has ls 3 [(0, .ref y)] := hl
  have hx := F.1.1
  have hb := F.1.2.1
  have hown := F.1.2.2.2.1
  have hts := F.1.2.2.2.2
  intro H locs hP hD hS
  have kp0 : wd_kp S w w := wd_kp.rf
  refine lv_aload_n hx hb dX11_clause_0 rfl (lv_at hl 0 rfl) ?_
  refine x_callV (n := 0) (As := []) (rest := []) F hP hD hS (m_word l D cy sk sv w tg y m2 m3 m4 m5 m6 m8 m9 m10 m11 m12 m13 m14 m17 m18 m19 m20 m21 m22 m23 m24 m29 m30 m31 m32 m33 m34 m35 m36 m37 m39 m40 m41 m42 m43 m44 m45 m46 m47 m48 m49 m51 m52 m53 m54 m56 m57 m58 m59 pc ac sc ln sh gf v0 td v27 v50 f24 a0 fv c90 c91 (fun b => b = y) rfl ty tm24 (by omega) (by omega) (by omega)) gX11_clause_X11_word rfl rfl (by decide +kernel) ⟨(Nat.le_of_ble_eq_true rfl), (Nat.le_of_ble_eq_true rfl)⟩ rfl hl.1 (Nat.le_of_ble_eq_true rfl) c90 rfl dX11_clause_1 rfl ⟨(Nat.le_of_ble_eq_true rfl), (Nat.le_of_ble_eq_true rfl)⟩ (fun v2 w3 hp1 H locs hP hD hS => ?_)
  obtain ⟨ax4, bx5, fvx6, rfl, hz7, hz8, hz9, hz10, kq12, k11⟩ := hp1
  have k13 := kq12.2 _ _ c91 (tg_ne tm24 ty (by decide))
  have k14 := kq12.2 _ _ c92 (tg_ne tm36 ty (by decide))
  have k15 := kq12.2 _ _ c93 (tg_ne tm37 ty (by decide))
  have kp16 := kp0.tr kq12 (fun b9 hm q9 => (fun q9 => q9 ▸ s90) q9)
  refine W.eq (g2 := F0 m 4 ls []) rfl (W.widen (k := 0) (n := 0) (Nat.le_of_ble_eq_true rfl) (Nat.le_of_ble_eq_true rfl) ?_)
  refine lv_iconst (v := 0) hx hb dX11_clause_4 (by decide) ?_
  refine lv_istore_n (lv' := [(1, .int 0), (0, .ref y)]) hx hb dX11_clause_5 rfl hl (by decide) rfl (fun ls hl => ?_)
  have lp6 : ∀ (N : Nat) (k : Nat), (k + N = 5) → ∀ (ls : Array Slot), lv_has ls 3 [(0, .ref y), (1, .int (nI k))] → Wv p l e ({ frames := 5, cells := 0, slots := 0, locals := 108 }) s m args below meth c D A (0) (0) Q w3 (F0 m 6 ls []) := by
    intro N
    induction N with
    | zero =>
      intro k hN6 ls hl H locs hP hD hS
      refine lv_iload_n hx hb dX11_clause_6 rfl (lv_at hl 1 rfl) ?_
      refine lv_iconst (v := 5) hx hb dX11_clause_7 (by decide) ?_
      refine lv_icmp_ge (tgt := 29) hx hb dX11_clause_8 (by decide) (fun c_18 => ?_) (fun c_18 => absurd (nI_le (a := 5) (b := k) (by omega) (by omega)) c_18)
      refine lv_aload_n hx hb dX11_clause_29 rfl (lv_at hl 0 rfl) ?_
      refine x_get (ref := "NoteHouseModel") F hP k11 rfl (fun _ h => List.mem_cons_of_mem _ (List.mem_append_right _ (h))) 28 (Nat.le_of_ble_eq_true rfl) (List.mem_cons_of_mem _ (List.mem_append_left _ (List.mem_append_left _ (List.mem_of_getElem? (i := 0) rfl)))) rfl rfl dX11_clause_30 ?_
      refine lv_if_le (tgt := 37) hx hb dX11_clause_33 (by decide) (fun c_19 => ?_) (fun c_19 => ?_)
      · have hf0 : fvx6 = 0 := nI_z (by omega) c_19
        refine lv_iload_n hx hb dX11_clause_37 rfl (lv_at hl 1 rfl) ?_
        refine lv_iconst (v := 5) hx hb dX11_clause_38 (by decide) ?_
        refine lv_icmp_ne (tgt := 52) hx hb dX11_clause_39 (by decide) (fun c_20 => absurd (show nI k = 5 from congrArg nI (show k = 5 by omega)) c_20) (fun c_20 => ?_)
        refine lv_aload_n hx hb dX11_clause_42 rfl (lv_at hl 0 rfl) ?_
        refine lv_iconst (v := 0) hx hb dX11_clause_43 (by decide) ?_
        refine lv_aload_n hx hb dX11_clause_44 rfl (lv_at hl 0 rfl) ?_
        refine x_get (ref := "NoteHouseModel") F hP k11 rfl (fun _ h => List.mem_cons_of_mem _ (List.mem_append_right _ (h))) 27 (Nat.le_of_ble_eq_true rfl) (List.mem_cons_of_mem _ (List.mem_append_left _ (List.mem_append_left _ (List.mem_of_getElem? (i := 1) rfl)))) rfl rfl dX11_clause_45 ?_
        refine x_callV (n := 2) (As := [.int 0, .int (nI bx5)]) (rest := []) F hP hD hS (m_fails l D cy sk sv w3 tg y m2 m3 m4 m5 m6 m8 m9 m10 m11 m12 m13 m14 m17 m18 m19 m20 m21 m22 m23 m24 m29 m30 m31 m32 m33 m34 m35 m36 m37 m39 m40 m41 m42 m43 m44 m45 m46 m47 m48 m49 m51 m52 m53 m54 m56 m57 m58 m59 pc ac sc ln sh gf v0 td (nI ax4) (nI bx5) v50 fvx6 0 bx5 k11 (fun b => b = y) rfl ty (by omega) (by omega) (by omega)) gX11_clause_X11_fails rfl rfl (by decide +kernel) ⟨(Nat.le_of_ble_eq_true rfl), (Nat.le_of_ble_eq_true rfl)⟩ rfl hl.1 (Nat.le_of_ble_eq_true rfl) k11 rfl dX11_clause_48 rfl ⟨(Nat.le_of_ble_eq_true rfl), (Nat.le_of_ble_eq_true rfl)⟩ (fun v22 w23 hp21 H locs hP hD hS => ?_)
        obtain ⟨fwx24, rfl, hz25, hz26, kq28, k27⟩ := hp21
        have k29 := kq28.2 _ _ k13 (tg_ne tm24 ty (by decide))
        have k30 := kq28.2 _ _ k14 (tg_ne tm36 ty (by decide))
        have k31 := kq28.2 _ _ k15 (tg_ne tm37 ty (by decide))
        have kp32 := kp16.tr kq28 (fun b9 hm q9 => (fun q9 => q9 ▸ s90) q9)
        refine W.eq (g2 := F0 m 51 ls []) rfl (W.widen (k := 0) (n := 0) (Nat.le_of_ble_eq_true rfl) (Nat.le_of_ble_eq_true rfl) ?_)
        exact y_vr K hP hD hS (Nat.le_of_ble_eq_true rfl) (Nat.le_of_ble_eq_true rfl) rfl dX11_clause_51 (⟨ax4, bx5, fwx24, f36, f37, rfl, by omega, by omega, by omega, kp32, k27, k30, k31⟩)
      · have hfp : 0 < fvx6 := Nat.pos_of_ne_zero (fun q => c_19 (by rw [q]; decide))
        exact y_vr K hP hD hS (Nat.le_of_ble_eq_true rfl) (Nat.le_of_ble_eq_true rfl) rfl dX11_clause_36 (⟨ax4, bx5, fvx6, f36, f37, rfl, by omega, by omega, by omega, kp16, k11, k14, k15⟩)
    | succ N ih6 =>
      intro k hN6 ls hl H locs hP hD hS
      refine lv_iload_n hx hb dX11_clause_6 rfl (lv_at hl 1 rfl) ?_
      refine lv_iconst (v := 5) hx hb dX11_clause_7 (by decide) ?_
      refine lv_icmp_ge (tgt := 29) hx hb dX11_clause_8 (by decide) (fun c_33 => absurd c_33 (nI_ge (a := k) (b := 5) (by omega) (by omega))) (fun c_33 => ?_)
      refine lv_aload_n hx hb dX11_clause_11 rfl (lv_at hl 0 rfl) ?_
      refine lv_aload_n hx hb dX11_clause_12 rfl (lv_at hl 0 rfl) ?_
      refine lv_iload_n hx hb dX11_clause_13 rfl (lv_at hl 1 rfl) ?_
      refine x_callV (n := 1) (As := [.int (nI k)]) (rest := [.ref y]) F hP hD hS (m_kindOfS l D cy sk sv w3 y (nI k)) gX11_clause_X11_kindOf rfl rfl (by decide +kernel) ⟨(Nat.le_of_ble_eq_true rfl), (Nat.le_of_ble_eq_true rfl)⟩ rfl hl.1 (Nat.le_of_ble_eq_true rfl) k11 rfl dX11_clause_14 rfl ⟨(Nat.le_of_ble_eq_true rfl), (Nat.le_of_ble_eq_true rfl)⟩ (fun v35 w36 hp34 H locs hP hD hS => ?_)
      obtain ⟨ix37, rfl, hz38, rfl⟩ := hp34
      refine W.eq (g2 := F0 m 17 ls [.ref (sk ix37), .ref y]) rfl (W.widen (k := 0) (n := 0) (Nat.le_of_ble_eq_true rfl) (Nat.le_of_ble_eq_true rfl) ?_)
      refine x_callV (n := 1) (As := [.ref (sk ix37)]) (rest := []) F hP hD hS (m_is l D cy sk sv w3 tg y m2 m3 m4 m5 m6 m8 m9 m10 m11 m12 m13 m14 m17 m18 m19 m20 m21 m22 m23 m24 m29 m30 m31 m32 m33 m34 m35 m36 m37 m39 m40 m41 m42 m43 m44 m45 m46 m47 m48 m49 m51 m52 m53 m54 m56 m57 m58 m59 pc ac sc ln sh gf v0 td (nI fvx6) v50 f24 ax4 bx5 ix37 k11 k13 ty tm24 (by omega) (by omega) (by omega)) gX11_clause_X11_is rfl rfl (by decide +kernel) ⟨(Nat.le_of_ble_eq_true rfl), (Nat.le_of_ble_eq_true rfl)⟩ rfl hl.1 (Nat.le_of_ble_eq_true rfl) k11 rfl dX11_clause_17 rfl ⟨(Nat.le_of_ble_eq_true rfl), (Nat.le_of_ble_eq_true rfl)⟩ (fun v40 w41 hp39 H locs hP hD hS => ?_)
      obtain ⟨rx42, rfl, hz43, rfl⟩ := hp39
      refine W.eq (g2 := F0 m 20 ls [.int rx42]) rfl (W.widen (k := 0) (n := 0) (Nat.le_of_ble_eq_true rfl) (Nat.le_of_ble_eq_true rfl) ?_)
      refine lv_if_ne (tgt := 29) hx hb dX11_clause_20 (by decide) (fun c_44 => ?_) (fun c_44 => ?_)
      · refine lv_aload_n hx hb dX11_clause_29 rfl (lv_at hl 0 rfl) ?_
        refine x_get (ref := "NoteHouseModel") F hP k11 rfl (fun _ h => List.mem_cons_of_mem _ (List.mem_append_right _ (h))) 28 (Nat.le_of_ble_eq_true rfl) (List.mem_cons_of_mem _ (List.mem_append_left _ (List.mem_append_left _ (List.mem_of_getElem? (i := 0) rfl)))) rfl rfl dX11_clause_30 ?_
        refine lv_if_le (tgt := 37) hx hb dX11_clause_33 (by decide) (fun c_45 => ?_) (fun c_45 => ?_)
        · have hf0 : fvx6 = 0 := nI_z (by omega) c_45
          refine lv_iload_n hx hb dX11_clause_37 rfl (lv_at hl 1 rfl) ?_
          refine lv_iconst (v := 5) hx hb dX11_clause_38 (by decide) ?_
          refine lv_icmp_ne (tgt := 52) hx hb dX11_clause_39 (by decide) (fun c_46 => ?_) (fun c_46 => absurd c_46 (nI_nel (a := k) (b := 5) (by omega) (by omega) (by omega)))
          refine lv_aload_n hx hb dX11_clause_52 rfl (lv_at hl 0 rfl) ?_
          refine x_get (ref := "NoteHouseModel") F hP k11 rfl (fun _ h => List.mem_cons_of_mem _ (List.mem_append_right _ (h))) 36 (Nat.le_of_ble_eq_true rfl) (List.mem_cons_of_mem _ (List.mem_append_left _ (List.mem_append_left _ (List.mem_of_getElem? (i := 2) rfl)))) rfl rfl dX11_clause_53 ?_
          refine lv_iload_n hx hb dX11_clause_56 rfl (lv_at hl 1 rfl) ?_
          refine x_zald F hP k14 (vp_in_nI (n := k) (N := 5) (by omega) (by decide)) dX11_clause_57 ?_
          refine lv_if_eq (tgt := 71) hx hb dX11_clause_58 (by decide) (fun c_47 => ?_) (fun c_47 => ?_)
          · refine lv_aload_n hx hb dX11_clause_71 rfl (lv_at hl 0 rfl) ?_
            refine x_get (ref := "NoteHouseModel") F hP k11 rfl (fun _ h => List.mem_cons_of_mem _ (List.mem_append_right _ (h))) 36 (Nat.le_of_ble_eq_true rfl) (List.mem_cons_of_mem _ (List.mem_append_left _ (List.mem_append_left _ (List.mem_of_getElem? (i := 2) rfl)))) rfl rfl dX11_clause_72 ?_
            refine lv_iload_n hx hb dX11_clause_75 rfl (lv_at hl 1 rfl) ?_
            refine lv_iconst (v := 1) hx hb dX11_clause_76 (by decide) ?_
            refine y_zast F hP hD hS k14 (vp_in_nI (n := k) (N := 5) (by omega) (by decide)) dX11_clause_77 (fun w48 ew49 H locs hP hD hS => ?_)
            have k50 := wd_at.pt ew49 k11 (tg_ne ty tm36 (by decide))
            have k51 := wd_at.pt ew49 k13 (tg_ne tm24 tm36 (by decide))
            have k52 : wd_at w48 m36 (.inl (cy 4, 5, .inl (upd f36 (nI k).toNatClampNeg (vp_nar .boolean 1)))) := wd_at.ps ew49 k14
            have k53 := wd_at.pt ew49 k15 (tg_ne tm37 tm36 (by decide))
            have kp54 := kp16.put ew49 s91
            refine lv_iload_n hx hb dX11_clause_78 rfl (lv_at hl 1 rfl) ?_
            refine lv_iconst (v := 4) hx hb dX11_clause_79 (by decide) ?_
            refine lv_icmp_ne (tgt := 95) hx hb dX11_clause_80 (by decide) (fun c_55 => ?_) (fun c_55 => ?_)
            · refine lv_aload_n hx hb dX11_clause_95 rfl (lv_at hl 0 rfl) ?_
              refine x_callV (n := 0) (As := []) (rest := []) F hP hD hS (m_word l D cy sk sv w48 tg y m2 m3 m4 m5 m6 m8 m9 m10 m11 m12 m13 m14 m17 m18 m19 m20 m21 m22 m23 m24 m29 m30 m31 m32 m33 m34 m35 m36 m37 m39 m40 m41 m42 m43 m44 m45 m46 m47 m48 m49 m51 m52 m53 m54 m56 m57 m58 m59 pc ac sc ln sh gf v0 td (nI bx5) v50 f24 ax4 fvx6 k50 k51 (fun b => b = y) rfl ty tm24 (by omega) (by omega) (by omega)) gX11_clause_X11_word rfl rfl (by decide +kernel) ⟨(Nat.le_of_ble_eq_true rfl), (Nat.le_of_ble_eq_true rfl)⟩ rfl hl.1 (Nat.le_of_ble_eq_true rfl) k50 rfl dX11_clause_96 rfl ⟨(Nat.le_of_ble_eq_true rfl), (Nat.le_of_ble_eq_true rfl)⟩ (fun v57 w58 hp56 H locs hP hD hS => ?_)
              obtain ⟨ax59, bx60, fvx61, rfl, hz62, hz63, hz64, hz65, kq67, k66⟩ := hp56
              have k68 := kq67.2 _ _ k51 (tg_ne tm24 ty (by decide))
              have k69 := kq67.2 _ _ k52 (tg_ne tm36 ty (by decide))
              have k70 := kq67.2 _ _ k53 (tg_ne tm37 ty (by decide))
              have kp71 := kp54.tr kq67 (fun b9 hm q9 => (fun q9 => q9 ▸ s90) q9)
              refine W.eq (g2 := F0 m 99 ls []) rfl (W.widen (k := 0) (n := 0) (Nat.le_of_ble_eq_true rfl) (Nat.le_of_ble_eq_true rfl) ?_)
              refine lv_iconst (v := 0) hx hb dX11_clause_99 (by decide) ?_
              refine lv_istore_n (lv' := [(2, .int 0), (0, .ref y), (1, .int (nI k))]) hx hb dX11_clause_100 rfl hl (by decide) rfl (fun ls hl => ?_)
              have lp101 : ∀ (N : Nat) (b : Nat), (b + N = 3) → ∀ (ls : Array Slot), lv_has ls 3 [(0, .ref y), (1, .int (nI k)), (2, .int (nI b))] → Wv p l e ({ frames := 5, cells := 0, slots := 0, locals := 108 }) s m args below meth c D A (0) (0) Q w58 (F0 m 101 ls []) := by
                intro N
                induction N with
                | zero =>
                  intro b hN101 ls hl H locs hP hD hS
                  refine lv_iload_n hx hb dX11_clause_101 rfl (lv_at hl 2 rfl) ?_
                  refine lv_iconst (v := 3) hx hb dX11_clause_102 (by decide) ?_
                  refine lv_icmp_ge (tgt := 124) hx hb dX11_clause_103 (by decide) (fun c_73 => ?_) (fun c_73 => absurd (nI_le (a := 3) (b := b) (by omega) (by omega)) c_73)
                  refine lv_aload_n hx hb dX11_clause_124 rfl (lv_at hl 0 rfl) ?_
                  refine x_get (ref := "NoteHouseModel") F hP k66 rfl (fun _ h => List.mem_cons_of_mem _ (List.mem_append_right _ (h))) 28 (Nat.le_of_ble_eq_true rfl) (List.mem_cons_of_mem _ (List.mem_append_left _ (List.mem_append_left _ (List.mem_of_getElem? (i := 0) rfl)))) rfl rfl dX11_clause_125 ?_
                  refine lv_if_ne (tgt := 145) hx hb dX11_clause_128 (by decide) (fun c_74 => ?_) (fun c_74 => ?_)
                  · have hfp : 0 < fvx61 := nI_nz (by omega) c_74
                    refine lv_aload_n hx hb dX11_clause_145 rfl (lv_at hl 0 rfl) ?_
                    refine x_get (ref := "NoteHouseModel") F hP k66 rfl (fun _ h => List.mem_cons_of_mem _ (List.mem_append_right _ (h))) 37 (Nat.le_of_ble_eq_true rfl) (List.mem_cons_of_mem _ (List.mem_append_left _ (List.mem_append_left _ (List.mem_of_getElem? (i := 3) rfl)))) rfl rfl dX11_clause_146 ?_
                    refine lv_iload_n hx hb dX11_clause_149 rfl (lv_at hl 1 rfl) ?_
                    refine lv_iload_n hx hb dX11_clause_150 rfl (lv_at hl 2 rfl) ?_
                    refine y_iast F hP hD hS k70 (vp_in_nI (n := k) (N := 5) (by omega) (by decide)) dX11_clause_151 (fun w75 ew76 H locs hP hD hS => ?_)
                    have k77 := wd_at.pt ew76 k66 (tg_ne ty tm37 (by decide))
                    have k78 := wd_at.pt ew76 k68 (tg_ne tm24 tm37 (by decide))
                    have k79 := wd_at.pt ew76 k69 (tg_ne tm36 tm37 (by decide))
                    have k80 : wd_at w75 m37 (.inl (cy 2, 5, .inl (upd f37 (nI k).toNatClampNeg (nI b)))) := wd_at.ps ew76 k70
                    have kp81 := kp71.put ew76 s92
                    exact y_vr K hP hD hS (Nat.le_of_ble_eq_true rfl) (Nat.le_of_ble_eq_true rfl) rfl dX11_clause_152 (⟨ax59, bx60, fvx61, upd f36 (nI k).toNatClampNeg (vp_nar .boolean 1), upd f37 (nI k).toNatClampNeg (nI b), rfl, by omega, by omega, by omega, kp81, k77, k79, k80⟩)
                  · have hf0 : fvx61 = 0 := nI_z0 (by omega) c_74
                    refine lv_iload_n hx hb dX11_clause_131 rfl (lv_at hl 2 rfl) ?_
                    refine lv_iconst (v := 3) hx hb dX11_clause_132 (by decide) ?_
                    refine lv_icmp_ne (tgt := 145) hx hb dX11_clause_133 (by decide) (fun c_82 => absurd (show nI b = 3 from congrArg nI (show b = 3 by omega)) c_82) (fun c_82 => ?_)
                    refine lv_aload_n hx hb dX11_clause_136 rfl (lv_at hl 0 rfl) ?_
                    refine lv_iconst (v := 0) hx hb dX11_clause_137 (by decide) ?_
                    refine lv_aload_n hx hb dX11_clause_138 rfl (lv_at hl 0 rfl) ?_
                    refine x_get (ref := "NoteHouseModel") F hP k66 rfl (fun _ h => List.mem_cons_of_mem _ (List.mem_append_right _ (h))) 27 (Nat.le_of_ble_eq_true rfl) (List.mem_cons_of_mem _ (List.mem_append_left _ (List.mem_append_left _ (List.mem_of_getElem? (i := 1) rfl)))) rfl rfl dX11_clause_139 ?_
                    refine x_callV (n := 2) (As := [.int 0, .int (nI bx60)]) (rest := []) F hP hD hS (m_fails l D cy sk sv w58 tg y m2 m3 m4 m5 m6 m8 m9 m10 m11 m12 m13 m14 m17 m18 m19 m20 m21 m22 m23 m24 m29 m30 m31 m32 m33 m34 m35 m36 m37 m39 m40 m41 m42 m43 m44 m45 m46 m47 m48 m49 m51 m52 m53 m54 m56 m57 m58 m59 pc ac sc ln sh gf v0 td (nI ax59) (nI bx60) v50 fvx61 0 bx60 k66 (fun b => b = y) rfl ty (by omega) (by omega) (by omega)) gX11_clause_X11_fails rfl rfl (by decide +kernel) ⟨(Nat.le_of_ble_eq_true rfl), (Nat.le_of_ble_eq_true rfl)⟩ rfl hl.1 (Nat.le_of_ble_eq_true rfl) k66 rfl dX11_clause_142 rfl ⟨(Nat.le_of_ble_eq_true rfl), (Nat.le_of_ble_eq_true rfl)⟩ (fun v84 w85 hp83 H locs hP hD hS => ?_)
                    obtain ⟨fwx86, rfl, hz87, hz88, kq90, k89⟩ := hp83
                    have k91 := kq90.2 _ _ k68 (tg_ne tm24 ty (by decide))
                    have k92 := kq90.2 _ _ k69 (tg_ne tm36 ty (by decide))
                    have k93 := kq90.2 _ _ k70 (tg_ne tm37 ty (by decide))
                    have kp94 := kp71.tr kq90 (fun b9 hm q9 => (fun q9 => q9 ▸ s90) q9)
                    refine W.eq (g2 := F0 m 145 ls []) rfl (W.widen (k := 0) (n := 0) (Nat.le_of_ble_eq_true rfl) (Nat.le_of_ble_eq_true rfl) ?_)
                    refine lv_aload_n hx hb dX11_clause_145 rfl (lv_at hl 0 rfl) ?_
                    refine x_get (ref := "NoteHouseModel") F hP k89 rfl (fun _ h => List.mem_cons_of_mem _ (List.mem_append_right _ (h))) 37 (Nat.le_of_ble_eq_true rfl) (List.mem_cons_of_mem _ (List.mem_append_left _ (List.mem_append_left _ (List.mem_of_getElem? (i := 3) rfl)))) rfl rfl dX11_clause_146 ?_
                    refine lv_iload_n hx hb dX11_clause_149 rfl (lv_at hl 1 rfl) ?_
                    refine lv_iload_n hx hb dX11_clause_150 rfl (lv_at hl 2 rfl) ?_
                    refine y_iast F hP hD hS k93 (vp_in_nI (n := k) (N := 5) (by omega) (by decide)) dX11_clause_151 (fun w95 ew96 H locs hP hD hS => ?_)
                    have k97 := wd_at.pt ew96 k89 (tg_ne ty tm37 (by decide))
                    have k98 := wd_at.pt ew96 k91 (tg_ne tm24 tm37 (by decide))
                    have k99 := wd_at.pt ew96 k92 (tg_ne tm36 tm37 (by decide))
                    have k100 : wd_at w95 m37 (.inl (cy 2, 5, .inl (upd f37 (nI k).toNatClampNeg (nI b)))) := wd_at.ps ew96 k93
                    have kp101 := kp94.put ew96 s92
                    exact y_vr K hP hD hS (Nat.le_of_ble_eq_true rfl) (Nat.le_of_ble_eq_true rfl) rfl dX11_clause_152 (⟨ax59, bx60, fwx86, upd f36 (nI k).toNatClampNeg (vp_nar .boolean 1), upd f37 (nI k).toNatClampNeg (nI b), rfl, by omega, by omega, by omega, kp101, k97, k99, k100⟩)
                | succ N ih101 =>
                  intro b hN101 ls hl H locs hP hD hS
                  refine lv_iload_n hx hb dX11_clause_101 rfl (lv_at hl 2 rfl) ?_
                  refine lv_iconst (v := 3) hx hb dX11_clause_102 (by decide) ?_
                  refine lv_icmp_ge (tgt := 124) hx hb dX11_clause_103 (by decide) (fun c_102 => absurd c_102 (nI_ge (a := b) (b := 3) (by omega) (by omega))) (fun c_102 => ?_)
                  refine lv_aload_n hx hb dX11_clause_106 rfl (lv_at hl 0 rfl) ?_
                  refine lv_aload_n hx hb dX11_clause_107 rfl (lv_at hl 0 rfl) ?_
                  refine lv_iload_n hx hb dX11_clause_108 rfl (lv_at hl 2 rfl) ?_
                  refine x_callV (n := 1) (As := [.int (nI b)]) (rest := [.ref y]) F hP hD hS (m_bearerOf l D cy sk sv w58 y (nI b)) gX11_clause_X11_bearerOf rfl rfl (by decide +kernel) ⟨(Nat.le_of_ble_eq_true rfl), (Nat.le_of_ble_eq_true rfl)⟩ rfl hl.1 (Nat.le_of_ble_eq_true rfl) k66 rfl dX11_clause_109 rfl ⟨(Nat.le_of_ble_eq_true rfl), (Nat.le_of_ble_eq_true rfl)⟩ (fun v104 w105 hp103 H locs hP hD hS => ?_)
                  obtain ⟨ix106, rfl, hz107, rfl⟩ := hp103
                  refine W.eq (g2 := F0 m 112 ls [.ref (sk ix106), .ref y]) rfl (W.widen (k := 0) (n := 0) (Nat.le_of_ble_eq_true rfl) (Nat.le_of_ble_eq_true rfl) ?_)
                  refine x_callV (n := 1) (As := [.ref (sk ix106)]) (rest := []) F hP hD hS (m_is l D cy sk sv w58 tg y m2 m3 m4 m5 m6 m8 m9 m10 m11 m12 m13 m14 m17 m18 m19 m20 m21 m22 m23 m24 m29 m30 m31 m32 m33 m34 m35 m36 m37 m39 m40 m41 m42 m43 m44 m45 m46 m47 m48 m49 m51 m52 m53 m54 m56 m57 m58 m59 pc ac sc ln sh gf v0 td (nI fvx61) v50 f24 ax59 bx60 ix106 k66 k68 ty tm24 (by omega) (by omega) (by omega)) gX11_clause_X11_is rfl rfl (by decide +kernel) ⟨(Nat.le_of_ble_eq_true rfl), (Nat.le_of_ble_eq_true rfl)⟩ rfl hl.1 (Nat.le_of_ble_eq_true rfl) k66 rfl dX11_clause_112 rfl ⟨(Nat.le_of_ble_eq_true rfl), (Nat.le_of_ble_eq_true rfl)⟩ (fun v109 w110 hp108 H locs hP hD hS => ?_)
                  obtain ⟨rx111, rfl, hz112, rfl⟩ := hp108
                  refine W.eq (g2 := F0 m 115 ls [.int rx111]) rfl (W.widen (k := 0) (n := 0) (Nat.le_of_ble_eq_true rfl) (Nat.le_of_ble_eq_true rfl) ?_)
                  refine lv_if_ne (tgt := 124) hx hb dX11_clause_115 (by decide) (fun c_113 => ?_) (fun c_113 => ?_)
                  · refine lv_aload_n hx hb dX11_clause_124 rfl (lv_at hl 0 rfl) ?_
                    refine x_get (ref := "NoteHouseModel") F hP k66 rfl (fun _ h => List.mem_cons_of_mem _ (List.mem_append_right _ (h))) 28 (Nat.le_of_ble_eq_true rfl) (List.mem_cons_of_mem _ (List.mem_append_left _ (List.mem_append_left _ (List.mem_of_getElem? (i := 0) rfl)))) rfl rfl dX11_clause_125 ?_
                    refine lv_if_ne (tgt := 145) hx hb dX11_clause_128 (by decide) (fun c_114 => ?_) (fun c_114 => ?_)
                    · have hfp : 0 < fvx61 := nI_nz (by omega) c_114
                      refine lv_aload_n hx hb dX11_clause_145 rfl (lv_at hl 0 rfl) ?_
                      refine x_get (ref := "NoteHouseModel") F hP k66 rfl (fun _ h => List.mem_cons_of_mem _ (List.mem_append_right _ (h))) 37 (Nat.le_of_ble_eq_true rfl) (List.mem_cons_of_mem _ (List.mem_append_left _ (List.mem_append_left _ (List.mem_of_getElem? (i := 3) rfl)))) rfl rfl dX11_clause_146 ?_
                      refine lv_iload_n hx hb dX11_clause_149 rfl (lv_at hl 1 rfl) ?_
                      refine lv_iload_n hx hb dX11_clause_150 rfl (lv_at hl 2 rfl) ?_
                      refine y_iast F hP hD hS k70 (vp_in_nI (n := k) (N := 5) (by omega) (by decide)) dX11_clause_151 (fun w115 ew116 H locs hP hD hS => ?_)
                      have k117 := wd_at.pt ew116 k66 (tg_ne ty tm37 (by decide))
                      have k118 := wd_at.pt ew116 k68 (tg_ne tm24 tm37 (by decide))
                      have k119 := wd_at.pt ew116 k69 (tg_ne tm36 tm37 (by decide))
                      have k120 : wd_at w115 m37 (.inl (cy 2, 5, .inl (upd f37 (nI k).toNatClampNeg (nI b)))) := wd_at.ps ew116 k70
                      have kp121 := kp71.put ew116 s92
                      exact y_vr K hP hD hS (Nat.le_of_ble_eq_true rfl) (Nat.le_of_ble_eq_true rfl) rfl dX11_clause_152 (⟨ax59, bx60, fvx61, upd f36 (nI k).toNatClampNeg (vp_nar .boolean 1), upd f37 (nI k).toNatClampNeg (nI b), rfl, by omega, by omega, by omega, kp121, k117, k119, k120⟩)
                    · have hf0 : fvx61 = 0 := nI_z0 (by omega) c_114
                      refine lv_iload_n hx hb dX11_clause_131 rfl (lv_at hl 2 rfl) ?_
                      refine lv_iconst (v := 3) hx hb dX11_clause_132 (by decide) ?_
                      refine lv_icmp_ne (tgt := 145) hx hb dX11_clause_133 (by decide) (fun c_122 => ?_) (fun c_122 => absurd c_122 (nI_nel (a := b) (b := 3) (by omega) (by omega) (by omega)))
                      refine lv_aload_n hx hb dX11_clause_145 rfl (lv_at hl 0 rfl) ?_
                      refine x_get (ref := "NoteHouseModel") F hP k66 rfl (fun _ h => List.mem_cons_of_mem _ (List.mem_append_right _ (h))) 37 (Nat.le_of_ble_eq_true rfl) (List.mem_cons_of_mem _ (List.mem_append_left _ (List.mem_append_left _ (List.mem_of_getElem? (i := 3) rfl)))) rfl rfl dX11_clause_146 ?_
                      refine lv_iload_n hx hb dX11_clause_149 rfl (lv_at hl 1 rfl) ?_
                      refine lv_iload_n hx hb dX11_clause_150 rfl (lv_at hl 2 rfl) ?_
                      refine y_iast F hP hD hS k70 (vp_in_nI (n := k) (N := 5) (by omega) (by decide)) dX11_clause_151 (fun w123 ew124 H locs hP hD hS => ?_)
                      have k125 := wd_at.pt ew124 k66 (tg_ne ty tm37 (by decide))
                      have k126 := wd_at.pt ew124 k68 (tg_ne tm24 tm37 (by decide))
                      have k127 := wd_at.pt ew124 k69 (tg_ne tm36 tm37 (by decide))
                      have k128 : wd_at w123 m37 (.inl (cy 2, 5, .inl (upd f37 (nI k).toNatClampNeg (nI b)))) := wd_at.ps ew124 k70
                      have kp129 := kp71.put ew124 s92
                      exact y_vr K hP hD hS (Nat.le_of_ble_eq_true rfl) (Nat.le_of_ble_eq_true rfl) rfl dX11_clause_152 (⟨ax59, bx60, fvx61, upd f36 (nI k).toNatClampNeg (vp_nar .boolean 1), upd f37 (nI k).toNatClampNeg (nI b), rfl, by omega, by omega, by omega, kp129, k125, k127, k128⟩)
                  · refine lv_iinc (v := nI (b + 1)) (lv' := [(2, .int (nI (b + 1))), (0, .ref y), (1, .int (nI k))]) hx hb dX11_clause_118 hl (k := 2) rfl (nI_1 b) (by decide) rfl (fun ls hl => ?_)
                    refine lv_goto (tgt := 101) hx hb dX11_clause_121 (by decide) ?_
                    exact ih101 (b + 1)  (by omega)    ls (lv_sub hl [1, 2, 0] rfl) H locs hP hD hS
              exact lp101 _ 0  (Nat.zero_add 3)    ls (lv_sub hl [1, 2, 0] rfl) H locs hP hD hS
            · refine lv_aload_n hx hb dX11_clause_83 rfl (lv_at hl 0 rfl) ?_
              refine x_get (ref := "NoteHouseModel") F hP k50 rfl (fun _ h => List.mem_cons_of_mem _ (List.mem_append_right _ (h))) 37 (Nat.le_of_ble_eq_true rfl) (List.mem_cons_of_mem _ (List.mem_append_left _ (List.mem_append_left _ (List.mem_of_getElem? (i := 3) rfl)))) rfl rfl dX11_clause_84 ?_
              refine lv_iconst (v := 4) hx hb dX11_clause_87 (by decide) ?_
              refine lv_aload_n hx hb dX11_clause_88 rfl (lv_at hl 0 rfl) ?_
              refine lv_iconst (v := 2) hx hb dX11_clause_89 (by decide) ?_
              refine x_callV (n := 1) (As := [.int 2]) (rest := [.int 4, .ref m37]) F hP hD hS (m_number l D cy sk sv w48 tg y m2 m3 m4 m5 m6 m8 m9 m10 m11 m12 m13 m14 m17 m18 m19 m20 m21 m22 m23 m24 m29 m30 m31 m32 m33 m34 m35 m36 m37 m39 m40 m41 m42 m43 m44 m45 m46 m47 m48 m49 m51 m52 m53 m54 m56 m57 m58 m59 pc ac sc ln sh gf v0 td (nI bx5) v50 f24 ax4 fvx6 2 k50 k51 (fun b => b = y) rfl ty tm24 (by omega) (by omega) (by omega)) gX11_clause_X11_number rfl rfl (by decide +kernel) ⟨(Nat.le_of_ble_eq_true rfl), (Nat.le_of_ble_eq_true rfl)⟩ rfl hl.1 (Nat.le_of_ble_eq_true rfl) k50 rfl dX11_clause_90 rfl ⟨(Nat.le_of_ble_eq_true rfl), (Nat.le_of_ble_eq_true rfl)⟩ (fun v131 w132 hp130 H locs hP hD hS => ?_)
              obtain ⟨ax133, bx134, fvx135, rx136, rfl, hz137, hz138, hz139, hz140, kq142, k141⟩ := hp130
              have k143 := kq142.2 _ _ k51 (tg_ne tm24 ty (by decide))
              have k144 := kq142.2 _ _ k52 (tg_ne tm36 ty (by decide))
              have k145 := kq142.2 _ _ k53 (tg_ne tm37 ty (by decide))
              have kp146 := kp54.tr kq142 (fun b9 hm q9 => (fun q9 => q9 ▸ s90) q9)
              refine W.eq (g2 := F0 m 93 ls [.int rx136, .int 4, .ref m37]) rfl (W.widen (k := 0) (n := 0) (Nat.le_of_ble_eq_true rfl) (Nat.le_of_ble_eq_true rfl) ?_)
              refine y_iast F hP hD hS k145 (vp_in_iff.mpr ⟨by decide, by decide⟩) dX11_clause_93 (fun w147 ew148 H locs hP hD hS => ?_)
              have k149 := wd_at.pt ew148 k141 (tg_ne ty tm37 (by decide))
              have k150 := wd_at.pt ew148 k143 (tg_ne tm24 tm37 (by decide))
              have k151 := wd_at.pt ew148 k144 (tg_ne tm36 tm37 (by decide))
              have k152 : wd_at w147 m37 (.inl (cy 2, 5, .inl (upd f37 (4 : Int32).toNatClampNeg rx136))) := wd_at.ps ew148 k145
              have kp153 := kp146.put ew148 s92
              exact y_vr K hP hD hS (Nat.le_of_ble_eq_true rfl) (Nat.le_of_ble_eq_true rfl) rfl dX11_clause_94 (⟨ax133, bx134, fvx135, upd f36 (nI k).toNatClampNeg (vp_nar .boolean 1), upd f37 (4 : Int32).toNatClampNeg rx136, rfl, by omega, by omega, by omega, kp153, k149, k151, k152⟩)
          · refine lv_aload_n hx hb dX11_clause_61 rfl (lv_at hl 0 rfl) ?_
            refine lv_iconst (v := 2) hx hb dX11_clause_62 (by decide) ?_
            refine lv_aload_n hx hb dX11_clause_63 rfl (lv_at hl 0 rfl) ?_
            refine x_get (ref := "NoteHouseModel") F hP k11 rfl (fun _ h => List.mem_cons_of_mem _ (List.mem_append_right _ (h))) 27 (Nat.le_of_ble_eq_true rfl) (List.mem_cons_of_mem _ (List.mem_append_left _ (List.mem_append_left _ (List.mem_of_getElem? (i := 1) rfl)))) rfl rfl dX11_clause_64 ?_
            refine x_callV (n := 2) (As := [.int 2, .int (nI bx5)]) (rest := []) F hP hD hS (m_fails l D cy sk sv w3 tg y m2 m3 m4 m5 m6 m8 m9 m10 m11 m12 m13 m14 m17 m18 m19 m20 m21 m22 m23 m24 m29 m30 m31 m32 m33 m34 m35 m36 m37 m39 m40 m41 m42 m43 m44 m45 m46 m47 m48 m49 m51 m52 m53 m54 m56 m57 m58 m59 pc ac sc ln sh gf v0 td (nI ax4) (nI bx5) v50 fvx6 2 bx5 k11 (fun b => b = y) rfl ty (by omega) (by omega) (by omega)) gX11_clause_X11_fails rfl rfl (by decide +kernel) ⟨(Nat.le_of_ble_eq_true rfl), (Nat.le_of_ble_eq_true rfl)⟩ rfl hl.1 (Nat.le_of_ble_eq_true rfl) k11 rfl dX11_clause_67 rfl ⟨(Nat.le_of_ble_eq_true rfl), (Nat.le_of_ble_eq_true rfl)⟩ (fun v155 w156 hp154 H locs hP hD hS => ?_)
            obtain ⟨fwx157, rfl, hz158, hz159, kq161, k160⟩ := hp154
            have k162 := kq161.2 _ _ k13 (tg_ne tm24 ty (by decide))
            have k163 := kq161.2 _ _ k14 (tg_ne tm36 ty (by decide))
            have k164 := kq161.2 _ _ k15 (tg_ne tm37 ty (by decide))
            have kp165 := kp16.tr kq161 (fun b9 hm q9 => (fun q9 => q9 ▸ s90) q9)
            refine W.eq (g2 := F0 m 70 ls []) rfl (W.widen (k := 0) (n := 0) (Nat.le_of_ble_eq_true rfl) (Nat.le_of_ble_eq_true rfl) ?_)
            exact y_vr K hP hD hS (Nat.le_of_ble_eq_true rfl) (Nat.le_of_ble_eq_true rfl) rfl dX11_clause_70 (⟨ax4, bx5, fwx157, f36, f37, rfl, by omega, by omega, by omega, kp165, k160, k163, k164⟩)
        · have hfp : 0 < fvx6 := Nat.pos_of_ne_zero (fun q => c_45 (by rw [q]; decide))
          exact y_vr K hP hD hS (Nat.le_of_ble_eq_true rfl) (Nat.le_of_ble_eq_true rfl) rfl dX11_clause_36 (⟨ax4, bx5, fvx6, f36, f37, rfl, by omega, by omega, by omega, kp16, k11, k14, k15⟩)
      · refine lv_iinc (v := nI (k + 1)) (lv' := [(1, .int (nI (k + 1))), (0, .ref y)]) hx hb dX11_clause_23 hl (k := 1) rfl (nI_1 k) (by decide) rfl (fun ls hl => ?_)
        refine lv_goto (tgt := 6) hx hb dX11_clause_26 (by decide) ?_
        exact ih6 (k + 1)  (by omega)    ls (lv_sub hl [1, 0] rfl) H locs hP hD hS
  exact lp6 _ 0  (Nat.zero_add 5)    ls (lv_sub hl [1, 0] rfl) H locs hP hD hS
