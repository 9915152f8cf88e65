set_option maxHeartbeats 4000000 in
set_option maxRecDepth 100000 in
theorem m_without (l : Launch) (D : va_G) (cy : Nat → ClassId) (sk sv : Nat → Nat) (w : Wd) (k : Int32)    : Ct l D cy sk sv yX11_without wsX11_without ({ frames := 0, cells := 0, slots := 0, locals := 0 }) [.int k] w (fun v w1 => ∃ (r1 : Int32), v = some (.int r1) ∧ w = w1) := by
  refine Ct.by (cc := cX11_without) (maxL := 1) (ret := (some .int)) (by decide +kernel) rfl (Nat.le_of_ble_eq_true rfl) ?_
  intro p e s m args below meth c A Q F hnm K ls hl
  have F : wd_Fx p s m args meth c cX11_without 1 wsX11_without RX11 D cy sk sv A := F
  have hl : lv_has ls 1 [(0, .int k)] := hl
  have hx := F.1.1
  have hb := F.1.2.1
  have hown := F.1.2.2.2.1
  have hts := F.1.2.2.2.2
  intro H locs hP hD hS
  refine lv_iload_n hx hb dX11_without_0 rfl (lv_at hl 0 rfl) ?_
  refine lv_iconst (v := 2) hx hb dX11_without_1 (by decide) ?_
  refine lv_icmp_ge (tgt := 9) hx hb dX11_without_2 (by decide) (fun c_1 => ?_) (fun c_1 => ?_)
  · refine lv_iload_n hx hb dX11_without_9 rfl (lv_at hl 0 rfl) ?_
    refine lv_iconst (v := 2) hx hb dX11_without_10 (by decide) ?_
    refine lv_icmp_ne (tgt := 18) hx hb dX11_without_11 (by decide) (fun c_2 => ?_) (fun c_2 => ?_)
    · refine lv_iload_n hx hb dX11_without_18 rfl (lv_at hl 0 rfl) ?_
      refine lv_iconst (v := 3) hx hb dX11_without_19 (by decide) ?_
      refine lv_icmp_ne (tgt := 27) hx hb dX11_without_20 (by decide) (fun c_3 => ?_) (fun c_3 => ?_)
      · refine lv_bipush (v := 10) hx hb dX11_without_27 (by decide) ?_
        exact y_ir K hP hD hS (Nat.le_of_ble_eq_true rfl) (Nat.le_of_ble_eq_true rfl) (ty := .int) rfl rfl dX11_without_29 (⟨10, rfl, rfl⟩)
      · refine lv_iconst (v := 2) hx hb dX11_without_23 (by decide) ?_
        refine lv_goto (tgt := 29) hx hb dX11_without_24 (by decide) ?_
        exact y_ir K hP hD hS (Nat.le_of_ble_eq_true rfl) (Nat.le_of_ble_eq_true rfl) (ty := .int) rfl rfl dX11_without_29 (⟨2, rfl, rfl⟩)
    · refine lv_iconst (v := 0) hx hb dX11_without_14 (by decide) ?_
      refine lv_goto (tgt := 29) hx hb dX11_without_15 (by decide) ?_
      exact y_ir K hP hD hS (Nat.le_of_ble_eq_true rfl) (Nat.le_of_ble_eq_true rfl) (ty := .int) rfl rfl dX11_without_29 (⟨0, rfl, rfl⟩)
  · refine lv_iconst (v := 1) hx hb dX11_without_5 (by decide) ?_
    refine lv_goto (tgt := 29) hx hb dX11_without_6 (by decide) ?_
    exact y_ir K hP hD hS (Nat.le_of_ble_eq_true rfl) (Nat.le_of_ble_eq_true rfl) (ty := .int) rfl rfl dX11_without_29 (⟨1, rfl, rfl⟩)
set_option maxHeartbeats 4000000 in
set_option maxRecDepth 100000 in
theorem m_clause (l : Launch) (D : va_G) (cy : Nat → ClassId) (sk sv : Nat → Nat) (w : Wd) (tg : Nat → Nat) (y m2 m3 m4 m5 m6 m8 m9 m10 m11 m12 m13 m14 m17 m18 m19 m20 m21 m22 m23 m24 m29 m30 m31 m32 m33 m34 m35 m36 m37 m39 m40 m41 m42 m43 m44 m45 m46 m47 m48 m49 m51 m52 m53 m54 m56 m57 m58 m59 pc ac sc ln sh gf : Nat) (v0 td v27 v50 : Int32) (f24 : Nat → Int32) (f36 : Nat → Int32) (f37 : Nat → Int32) (a0 fv : Nat) (c90 : wd_at w y (.inr (11, [.int v0, .int td, .ref m2, .ref m3, .ref m4, .ref m5, .ref m6, .int (nI pc), .ref m8, .ref m9, .ref m10, .ref m11, .ref m12, .ref m13, .ref m14, .int (nI ac), .int (nI sc), .ref m17, .ref m18, .ref m19, .ref m20, .ref m21, .ref m22, .ref m23, .ref m24, .int (nI ln), .int (nI a0), .int v27, .int (nI fv), .ref m29, .ref m30, .ref m31, .ref m32, .ref m33, .ref m34, .ref m35, .ref m36, .ref m37, .int (nI sh), .ref m39, .ref m40, .ref m41, .ref m42, .ref m43, .ref m44, .ref m45, .ref m46, .ref m47, .ref m48, .ref m49, .int v50, .ref m51, .ref m52, .ref m53, .ref m54, .int (nI gf), .ref m56, .ref m57, .ref m58, .ref m59]))) (c91 : wd_at w m24 (.inl (cy 0, 300, .inl f24))) (c92 : wd_at w m36 (.inl (cy 4, 5, .inl f36))) (c93 : wd_at w m37 (.inl (cy 2, 5, .inl f37)))  (S : Nat → Prop) (s90 : S y) (s91 : S m36) (s92 : S m37) (ty : tg y = 10000) (tm24 : tg m24 = 10124) (tm36 : tg m36 = 10136) (tm37 : tg m37 = 10137) (hln : ln ≤ 300) (ha0 : a0 ≤ ln) (hfv : fv < 2000) : Ct l D cy sk sv yX11_clause wsX11_clause ({ frames := 5, cells := 0, slots := 0, locals := 108 }) [.ref y] w (fun v w1 => ∃ (a1 : Nat) (b1 : Nat) (fv1 : Nat) (g36 : Nat → Int32) (g37 : Nat → Int32), v = none ∧ (a0 ≤ a1) ∧ (a1 ≤ ln) ∧ (fv1 < 2000) ∧ wd_kp S w w1 ∧ wd_at w1 y (.inr (11, [.int v0, .int td, .ref m2, .ref m3, .ref m4, .ref m5, .ref m6, .int (nI pc), .ref m8, .ref m9, .ref m10, .ref m11, .ref m12, .ref m13, .ref m14, .int (nI ac), .int (nI sc), .ref m17, .ref m18, .ref m19, .ref m20, .ref m21, .ref m22, .ref m23, .ref m24, .int (nI ln), .int (nI a1), .int (nI b1), .int (nI fv1), .ref m29, .ref m30, .ref m31, .ref m32, .ref m33, .ref m34, .ref m35, .ref m36, .ref m37, .int (nI sh), .ref m39, .ref m40, .ref m41, .ref m42, .ref m43, .ref m44, .ref m45, .ref m46, .ref m47, .ref m48, .ref m49, .int v50, .ref m51, .ref m52, .ref m53, .ref m54, .int (nI gf), .ref m56, .ref m57, .ref m58, .ref m59])) ∧ wd_at w1 m36 (.inl (cy 4, 5, .inl g36)) ∧ wd_at w1 m37 (.inl (cy 2, 5, .inl g37))) := by
  refine Ct.by (cc := cX11_clause) (maxL := 3) (ret := none) (by decide +kernel) rfl (Nat.le_of_ble_eq_true rfl) ?_
  intro p e s m args below meth c A Q F hnm K ls hl
  have F : wd_Fx p s m args meth c cX11_clause 3 wsX11_clause RX11 D cy sk sv A := F
  have hl : lv_has ls 3 [(0, .ref y)] := hl
  have hx := F.1.1
  have hb := F.1.2.1
  have hown := F.1.2.2.2.1
  have hts := F.1.2.2.2.2
  intro H locs hP hD hS
  have kp0 : wd_kp S w w := wd_kp.rf
  refine lv_aload_n hx hb dX11_clause_0 rfl (lv_at hl 0 rfl) ?_
  refine x_callV (n := 0) (As := []) (rest := []) F hP hD hS (m_word l D cy sk sv w tg y m2 m3 m4 m5 m6 m8 m9 m10 m11 m12 m13 m14 m17 m18 m19 m20 m21 m22 m23 m24 m29 m30 m31 m32 m33 m34 m35 m36 m37 m39 m40 m41 m42 m43 m44 m45 m46 m47 m48 m49 m51 m52 m53 m54 m56 m57 m58 m59 pc ac sc ln sh gf v0 td v27 v50 f24 a0 fv c90 c91 (fun b => b = y) rfl ty tm24 (by omega) (by omega) (by omega)) gX11_clause_X11_word rfl rfl (by decide +kernel) ⟨(Nat.le_of_ble_eq_true rfl), (Nat.le_of_ble_eq_true rfl)⟩ rfl hl.1 (Nat.le_of_ble_eq_true rfl) c90 rfl dX11_clause_1 rfl ⟨(Nat.le_of_ble_eq_true rfl), (Nat.le_of_ble_eq_true rfl)⟩ (fun v2 w3 hp1 H locs hP hD hS => ?_)
  obtain ⟨ax4, bx5, fvx6, rfl, hz7, hz8, hz9, hz10, kq12, k11⟩ := hp1
  have k13 := kq12.2 _ _ c91 (tg_ne tm24 ty (by decide))
  have k14 := kq12.2 _ _ c92 (tg_ne tm36 ty (by decide))
  have k15 := kq12.2 _ _ c93 (tg_ne tm37 ty (by decide))
  have kp16 := kp0.tr kq12 (fun b9 hm q9 => (fun q9 => q9 ▸ s90) q9)
  refine W.eq (g2 := F0 m 4 ls []) rfl (W.widen (k := 0) (n := 0) (Nat.le_of_ble_eq_true rfl) (Nat.le_of_ble_eq_true rfl) ?_)
  refine lv_iconst (v := 0) hx hb dX11_clause_4 (by decide) ?_
  refine lv_istore_n (lv' := [(1, .int 0), (0, .ref y)]) hx hb dX11_clause_5 rfl hl (by decide) rfl (fun ls hl => ?_)
  have lp6 : ∀ (N : Nat) (k : Nat), (k + N = 5) → ∀ (ls : Array Slot), lv_has ls 3 [(0, .ref y), (1, .int (nI k))] → Wv p l e ({ frames := 5, cells := 0, slots := 0, locals := 108 }) s m args below meth c D A (0) (0) Q w3 (F0 m 6 ls []) := by
    intro N
    induction N with
    | zero =>
      intro k hN6 ls hl H locs hP hD hS
      refine lv_iload_n hx hb dX11_clause_6 rfl (lv_at hl 1 rfl) ?_
      refine lv_iconst (v := 5) hx hb dX11_clause_7 (by decide) ?_
      refine lv_icmp_ge (tgt := 29) hx hb dX11_clause_8 (by decide) (fun c_18 => ?_) (fun c_18 => absurd (nI_le (a := 5) (b := k) (by omega) (by omega)) c_18)
      refine lv_aload_n hx hb dX11_clause_29 rfl (lv_at hl 0 rfl) ?_
      refine x_get (ref := "NoteHouseModel") F hP k11 rfl (fun _ h => List.mem_cons_of_mem _ (List.mem_append_right _ (h))) 28 (Nat.le_of_ble_eq_true rfl) (List.mem_cons_of_mem _ (List.mem_append_left _ (List.mem_append_left _ (List.mem_of_getElem? (i := 0) rfl)))) rfl rfl dX11_clause_30 ?_
      refine lv_if_le (tgt := 37) hx hb dX11_clause_33 (by decide) (fun c_19 => ?_) (fun c_19 => ?_)
      · have hf0 : fvx6 = 0 := nI_z (by omega) c_19
        refine lv_iload_n hx hb dX11_clause_37 rfl (lv_at hl 1 rfl) ?_
        refine lv_iconst (v := 5) hx hb dX11_clause_38 (by decide) ?_
        refine lv_icmp_ne (tgt := 52) hx hb dX11_clause_39 (by decide) (fun c_20 => absurd (show nI k = 5 from congrArg nI (show k = 5 by omega)) c_20) (fun c_20 => ?_)
        refine lv_aload_n hx hb dX11_clause_42 rfl (lv_at hl 0 rfl) ?_
        refine lv_iconst (v := 0) hx hb dX11_clause_43 (by decide) ?_
        refine lv_aload_n hx hb dX11_clause_44 rfl (lv_at hl 0 rfl) ?_
        refine x_get (ref := "NoteHouseModel") F hP k11 rfl (fun _ h => List.mem_cons_of_mem _ (List.mem_append_right _ (h))) 27 (Nat.le_of_ble_eq_true rfl) (List.mem_cons_of_mem _ (List.mem_append_left _ (List.mem_append_left _ (List.mem_of_getElem? (i := 1) rfl)))) rfl rfl dX11_clause_45 ?_
        refine x_callV (n := 2) (As := [.int 0, .int (nI bx5)]) (rest := []) F hP hD hS (m_fails l D cy sk sv w3 tg y m2 m3 m4 m5 m6 m8 m9 m10 m11 m12 m13 m14 m17 m18 m19 m20 m21 m22 m23 m24 m29 m30 m31 m32 m33 m34 m35 m36 m37 m39 m40 m41 m42 m43 m44 m45 m46 m47 m48 m49 m51 m52 m53 m54 m56 m57 m58 m59 pc ac sc ln sh gf v0 td (nI ax4) (nI bx5) v50 fvx6 0 bx5 k11 (fun b => b = y) rfl ty (by omega) (by omega) (by omega)) gX11_clause_X11_fails rfl rfl (by decide +kernel) ⟨(Nat.le_of_ble_eq_true rfl), (Nat.le_of_ble_eq_true rfl)⟩ rfl hl.1 (Nat.le_of_ble_eq_true rfl) k11 rfl dX11_clause_48 rfl ⟨(Nat.le_of_ble_eq_true rfl), (Nat.le_of_ble_eq_true rfl)⟩ (fun v22 w23 hp21 H locs hP hD hS => ?_)
        obtain ⟨fwx24, rfl, hz25, hz26, kq28, k27⟩ := hp21
        have k29 := kq28.2 _ _ k13 (tg_ne tm24 ty (by decide))
        have k30 := kq28.2 _ _ k14 (tg_ne tm36 ty (by decide))
        have k31 := kq28.2 _ _ k15 (tg_ne tm37 ty (by decide))
        have kp32 := kp16.tr kq28 (fun b9 hm q9 => (fun q9 => q9 ▸ s90) q9)
        refine W.eq (g2 := F0 m 51 ls []) rfl (W.widen (k := 0) (n := 0) (Nat.le_of_ble_eq_true rfl) (Nat.le_of_ble_eq_true rfl) ?_)
        exact y_vr K hP hD hS (Nat.le_of_ble_eq_true rfl) (Nat.le_of_ble_eq_true rfl) rfl dX11_clause_51 (⟨ax4, bx5, fwx24, f36, f37, rfl, by omega, by omega, by omega, kp32, k27, k30, k31⟩)
      · have hfp : 0 < fvx6 := Nat.pos_of_ne_zero (fun q => c_19 (by rw [q]; decide))
        exact y_vr K hP hD hS (Nat.le_of_ble_eq_true rfl) (Nat.le_of_ble_eq_true rfl) rfl dX11_clause_36 (⟨ax4, bx5, fvx6, f36, f37, rfl, by omega, by omega, by omega, kp16, k11, k14, k15⟩)
    | succ N ih6 =>
      intro k hN6 ls hl H locs hP hD hS
      refine lv_iload_n hx hb dX11_clause_6 rfl (lv_at hl 1 rfl) ?_
      refine lv_iconst (v := 5) hx hb dX11_clause_7 (by decide) ?_
      refine lv_icmp_ge (tgt := 29) hx hb dX11_clause_8 (by decide) (fun c_33 => absurd c_33 (nI_ge (a := k) (b := 5) (by omega) (by omega))) (fun c_33 => ?_)
      refine lv_aload_n hx hb dX11_clause_11 rfl (lv_at hl 0 rfl) ?_
      refine lv_aload_n hx hb dX11_clause_12 rfl (lv_at hl 0 rfl) ?_
      refine lv_iload_n hx hb dX11_clause_13 rfl (lv_at hl 1 rfl) ?_
      refine x_callV (n := 1) (As := [.int (nI k)]) (rest := [.ref y]) F hP hD hS (m_kindOfS l D cy sk sv w3 y (nI k)) gX11_clause_X11_kindOf rfl rfl (by decide +kernel) ⟨(Nat.le_of_ble_eq_true rfl), (Nat.le_of_ble_eq_true rfl)⟩ rfl hl.1 (Nat.le_of_ble_eq_true rfl) k11 rfl dX11_clause_14 rfl ⟨(Nat.le_of_ble_eq_true rfl), (Nat.le_of_ble_eq_true rfl)⟩ (fun v35 w36 hp34 H locs hP hD hS => ?_)
      obtain ⟨ix37, rfl, hz38, rfl⟩ := hp34
      refine W.eq (g2 := F0 m 17 ls [.ref (sk ix37), .ref y]) rfl (W.widen (k := 0) (n := 0) (Nat.le_of_ble_eq_true rfl) (Nat.le_of_ble_eq_true rfl) ?_)
      refine x_callV (n := 1) (As := [.ref (sk ix37)]) (rest := []) F hP hD hS (m_is l D cy sk sv w3 tg y m2 m3 m4 m5 m6 m8 m9 m10 m11 m12 m13 m14 m17 m18 m19 m20 m21 m22 m23 m24 m29 m30 m31 m32 m33 m34 m35 m36 m37 m39 m40 m41 m42 m43 m44 m45 m46 m47 m48 m49 m51 m52 m53 m54 m56 m57 m58 m59 pc ac sc ln sh gf v0 td (nI fvx6) v50 f24 ax4 bx5 ix37 k11 k13 ty tm24 (by omega) (by omega) (by omega)) gX11_clause_X11_is rfl rfl (by decide +kernel) ⟨(Nat.le_of_ble_eq_true rfl), (Nat.le_of_ble_eq_true rfl)⟩ rfl hl.1 (Nat.le_of_ble_eq_true rfl) k11 rfl dX11_clause_17 rfl ⟨(Nat.le_of_ble_eq_true rfl), (Nat.le_of_ble_eq_true rfl)⟩ (fun v40 w41 hp39 H locs hP hD hS => ?_)
      obtain ⟨rx42, rfl, hz43, rfl⟩ := hp39
      refine W.eq (g2 := F0 m 20 ls [.int rx42]) rfl (W.widen (k := 0) (n := 0) (Nat.le_of_ble_eq_true rfl) (Nat.le_of_ble_eq_true rfl) ?_)
      refine lv_if_ne (tgt := 29) hx hb dX11_clause_20 (by decide) (fun c_44 => ?_) (fun c_44 => ?_)
      · refine lv_aload_n hx hb dX11_clause_29 rfl (lv_at hl 0 rfl) ?_
        refine x_get (ref := "NoteHouseModel") F hP k11 rfl (fun _ h => List.mem_cons_of_mem _ (List.mem_append_right _ (h))) 28 (Nat.le_of_ble_eq_true rfl) (List.mem_cons_of_mem _ (List.mem_append_left _ (List.mem_append_left _ (List.mem_of_getElem? (i := 0) rfl)))) rfl rfl dX11_clause_30 ?_
        refine lv_if_le (tgt := 37) hx hb dX11_clause_33 (by decide) (fun c_45 => ?_) (fun c_45 => ?_)
        · have hf0 : fvx6 = 0 := nI_z (by omega) c_45
          refine lv_iload_n hx hb dX11_clause_37 rfl (lv_at hl 1 rfl) ?_
          refine lv_iconst (v := 5) hx hb dX11_clause_38 (by decide) ?_
          refine lv_icmp_ne (tgt := 52) hx hb dX11_clause_39 (by decide) (fun c_46 => ?_) (fun c_46 => absurd c_46 (nI_nel (a := k) (b := 5) (by omega) (by omega) (by omega)))
          refine lv_aload_n hx hb dX11_clause_52 rfl (lv_at hl 0 rfl) ?_
          refine x_get (ref := "NoteHouseModel") F hP k11 rfl (fun _ h => List.mem_cons_of_mem _ (List.mem_append_right _ (h))) 36 (Nat.le_of_ble_eq_true rfl) (List.mem_cons_of_mem _ (List.mem_append_left _ (List.mem_append_left _ (List.mem_of_getElem? (i := 2) rfl)))) rfl rfl dX11_clause_53 ?_
          refine lv_iload_n hx hb dX11_clause_56 rfl (lv_at hl 1 rfl) ?_
          refine x_zald F hP k14 (vp_in_nI (n := k) (N := 5) (by omega) (by decide)) dX11_clause_57 ?_
          refine lv_if_eq (tgt := 71) hx hb dX11_clause_58 (by decide) (fun c_47 => ?_) (fun c_47 => ?_)
          · refine lv_aload_n hx hb dX11_clause_71 rfl (lv_at hl 0 rfl) ?_
            refine x_get (ref := "NoteHouseModel") F hP k11 rfl (fun _ h => List.mem_cons_of_mem _ (List.mem_append_right _ (h))) 36 (Nat.le_of_ble_eq_true rfl) (List.mem_cons_of_mem _ (List.mem_append_left _ (List.mem_append_left _ (List.mem_of_getElem? (i := 2) rfl)))) rfl rfl dX11_clause_72 ?_
            refine lv_iload_n hx hb dX11_clause_75 rfl (lv_at hl 1 rfl) ?_
            refine lv_iconst (v := 1) hx hb dX11_clause_76 (by decide) ?_
            refine y_zast F hP hD hS k14 (vp_in_nI (n := k) (N := 5) (by omega) (by decide)) dX11_clause_77 (fun w48 ew49 H locs hP hD hS => ?_)
            have k50 := wd_at.pt ew49 k11 (tg_ne ty tm36 (by decide))
            have k51 := wd_at.pt ew49 k13 (tg_ne tm24 tm36 (by decide))
            have k52 : wd_at w48 m36 (.inl (cy 4, 5, .inl (upd f36 (nI k).toNatClampNeg (vp_nar .boolean 1)))) := wd_at.ps ew49 k14
            have k53 := wd_at.pt ew49 k15 (tg_ne tm37 tm36 (by decide))
            have kp54 := kp16.put ew49 s91
            refine lv_iload_n hx hb dX11_clause_78 rfl (lv_at hl 1 rfl) ?_
            refine lv_iconst (v := 4) hx hb dX11_clause_79 (by decide) ?_
            refine lv_icmp_ne (tgt := 95) hx hb dX11_clause_80 (by decide) (fun c_55 => ?_) (fun c_55 => ?_)
            · refine lv_aload_n hx hb dX11_clause_95 rfl (lv_at hl 0 rfl) ?_
              refine x_callV (n := 0) (As := []) (rest := []) F hP hD hS (m_word l D cy sk sv w48 tg y m2 m3 m4 m5 m6 m8 m9 m10 m11 m12 m13 m14 m17 m18 m19 m20 m21 m22 m23 m24 m29 m30 m31 m32 m33 m34 m35 m36 m37 m39 m40 m41 m42 m43 m44 m45 m46 m47 m48 m49 m51 m52 m53 m54 m56 m57 m58 m59 pc ac sc ln sh gf v0 td (nI bx5) v50 f24 ax4 fvx6 k50 k51 (fun b => b = y) rfl ty tm24 (by omega) (by omega) (by omega)) gX11_clause_X11_word rfl rfl (by decide +kernel) ⟨(Nat.le_of_ble_eq_true rfl), (Nat.le_of_ble_eq_true rfl)⟩ rfl hl.1 (Nat.le_of_ble_eq_true rfl) k50 rfl dX11_clause_96 rfl ⟨(Nat.le_of_ble_eq_true rfl), (Nat.le_of_ble_eq_true rfl)⟩ (fun v57 w58 hp56 H locs hP hD hS => ?_)
              obtain ⟨ax59, bx60, fvx61, rfl, hz62, hz63, hz64, hz65, kq67, k66⟩ := hp56
              have k68 := kq67.2 _ _ k51 (tg_ne tm24 ty (by decide))
              have k69 := kq67.2 _ _ k52 (tg_ne tm36 ty (by decide))
              have k70 := kq67.2 _ _ k53 (tg_ne tm37 ty (by decide))
              have kp71 := kp54.tr kq67 (fun b9 hm q9 => (fun q9 => q9 ▸ s90) q9)
              refine W.eq (g2 := F0 m 99 ls []) rfl (W.widen (k := 0) (n := 0) (Nat.le_of_ble_eq_true rfl) (Nat.le_of_ble_eq_true rfl) ?_)
              refine lv_iconst (v := 0) hx hb dX11_clause_99 (by decide) ?_
              refine lv_istore_n (lv' := [(2, .int 0), (0, .ref y), (1, .int (nI k))]) hx hb dX11_clause_100 rfl hl (by decide) rfl (fun ls hl => ?_)
              have lp101 : ∀ (N : Nat) (b : Nat), (b + N = 3) → ∀ (ls : Array Slot), lv_has ls 3 [(0, .ref y), (1, .int (nI k)), (2, .int (nI b))] → Wv p l e ({ frames := 5, cells := 0, slots := 0, locals := 108 }) s m args below meth c D A (0) (0) Q w58 (F0 m 101 ls []) := by
                intro N
                induction N with
                | zero =>
                  intro b hN101 ls hl H locs hP hD hS
                  refine lv_iload_n hx hb dX11_clause_101 rfl (lv_at hl 2 rfl) ?_
                  refine lv_iconst (v := 3) hx hb dX11_clause_102 (by decide) ?_
                  refine lv_icmp_ge (tgt := 124) hx hb dX11_clause_103 (by decide) (fun c_73 => ?_) (fun c_73 => absurd (nI_le (a := 3) (b := b) (by omega) (by omega)) c_73)
                  refine lv_aload_n hx hb dX11_clause_124 rfl (lv_at hl 0 rfl) ?_
                  refine x_get (ref := "NoteHouseModel") F hP k66 rfl (fun _ h => List.mem_cons_of_mem _ (List.mem_append_right _ (h))) 28 (Nat.le_of_ble_eq_true rfl) (List.mem_cons_of_mem _ (List.mem_append_left _ (List.mem_append_left _ (List.mem_of_getElem? (i := 0) rfl)))) rfl rfl dX11_clause_125 ?_
                  refine lv_if_ne (tgt := 145) hx hb dX11_clause_128 (by decide) (fun c_74 => ?_) (fun c_74 => ?_)
                  · have hfp : 0 < fvx61 := nI_nz (by omega) c_74
                    refine lv_aload_n hx hb dX11_clause_145 rfl (lv_at hl 0 rfl) ?_
                    refine x_get (ref := "NoteHouseModel") F hP k66 rfl (fun _ h => List.mem_cons_of_mem _ (List.mem_append_right _ (h))) 37 (Nat.le_of_ble_eq_true rfl) (List.mem_cons_of_mem _ (List.mem_append_left _ (List.mem_append_left _ (List.mem_of_getElem? (i := 3) rfl)))) rfl rfl dX11_clause_146 ?_
                    refine lv_iload_n hx hb dX11_clause_149 rfl (lv_at hl 1 rfl) ?_
                    refine lv_iload_n hx hb dX11_clause_150 rfl (lv_at hl 2 rfl) ?_
                    refine y_iast F hP hD hS k70 (vp_in_nI (n := k) (N := 5) (by omega) (by decide)) dX11_clause_151 (fun w75 ew76 H locs hP hD hS => ?_)
                    have k77 := wd_at.pt ew76 k66 (tg_ne ty tm37 (by decide))
                    have k78 := wd_at.pt ew76 k68 (tg_ne tm24 tm37 (by decide))
                    have k79 := wd_at.pt ew76 k69 (tg_ne tm36 tm37 (by decide))
                    have k80 : wd_at w75 m37 (.inl (cy 2, 5, .inl (upd f37 (nI k).toNatClampNeg (nI b)))) := wd_at.ps ew76 k70
                    have kp81 := kp71.put ew76 s92
                    exact y_vr K hP hD hS (Nat.le_of_ble_eq_true rfl) (Nat.le_of_ble_eq_true rfl) rfl dX11_clause_152 (⟨ax59, bx60, fvx61, upd f36 (nI k).toNatClampNeg (vp_nar .boolean 1), upd f37 (nI k).toNatClampNeg (nI b), rfl, by omega, by omega, by omega, kp81, k77, k79, k80⟩)
                  · have hf0 : fvx61 = 0 := nI_z0 (by omega) c_74
                    refine lv_iload_n hx hb dX11_clause_131 rfl (lv_at hl 2 rfl) ?_
                    refine lv_iconst (v := 3) hx hb dX11_clause_132 (by decide) ?_
                    refine lv_icmp_ne (tgt := 145) hx hb dX11_clause_133 (by decide) (fun c_82 => absurd (show nI b = 3 from congrArg nI (show b = 3 by omega)) c_82) (fun c_82 => ?_)
                    refine lv_aload_n hx hb dX11_clause_136 rfl (lv_at hl 0 rfl) ?_
                    refine lv_iconst (v := 0) hx hb dX11_clause_137 (by decide) ?_
                    refine lv_aload_n hx hb dX11_clause_138 rfl (lv_at hl 0 rfl) ?_
                    refine x_get (ref := "NoteHouseModel") F hP k66 rfl (fun _ h => List.mem_cons_of_mem _ (List.mem_append_right _ (h))) 27 (Nat.le_of_ble_eq_true rfl) (List.mem_cons_of_mem _ (List.mem_append_left _ (List.mem_append_left _ (List.mem_of_getElem? (i := 1) rfl)))) rfl rfl dX11_clause_139 ?_
                    refine x_callV (n := 2) (As := [.int 0, .int (nI bx60)]) (rest := []) F hP hD hS (m_fails l D cy sk sv w58 tg y m2 m3 m4 m5 m6 m8 m9 m10 m11 m12 m13 m14 m17 m18 m19 m20 m21 m22 m23 m24 m29 m30 m31 m32 m33 m34 m35 m36 m37 m39 m40 m41 m42 m43 m44 m45 m46 m47 m48 m49 m51 m52 m53 m54 m56 m57 m58 m59 pc ac sc ln sh gf v0 td (nI ax59) (nI bx60) v50 fvx61 0 bx60 k66 (fun b => b = y) rfl ty (by omega) (by omega) (by omega)) gX11_clause_X11_fails rfl rfl (by decide +kernel) ⟨(Nat.le_of_ble_eq_true rfl), (Nat.le_of_ble_eq_true rfl)⟩ rfl hl.1 (Nat.le_of_ble_eq_true rfl) k66 rfl dX11_clause_142 rfl ⟨(Nat.le_of_ble_eq_true rfl), (Nat.le_of_ble_eq_true rfl)⟩ (fun v84 w85 hp83 H locs hP hD hS => ?_)
                    obtain ⟨fwx86, rfl, hz87, hz88, kq90, k89⟩ := hp83
                    have k91 := kq90.2 _ _ k68 (tg_ne tm24 ty (by decide))
                    have k92 := kq90.2 _ _ k69 (tg_ne tm36 ty (by decide))
                    have k93 := kq90.2 _ _ k70 (tg_ne tm37 ty (by decide))
                    have kp94 := kp71.tr kq90 (fun b9 hm q9 => (fun q9 => q9 ▸ s90) q9)
                    refine W.eq (g2 := F0 m 145 ls []) rfl (W.widen (k := 0) (n := 0) (Nat.le_of_ble_eq_true rfl) (Nat.le_of_ble_eq_true rfl) ?_)
                    refine lv_aload_n hx hb dX11_clause_145 rfl (lv_at hl 0 rfl) ?_
                    refine x_get (ref := "NoteHouseModel") F hP k89 rfl (fun _ h => List.mem_cons_of_mem _ (List.mem_append_right _ (h))) 37 (Nat.le_of_ble_eq_true rfl) (List.mem_cons_of_mem _ (List.mem_append_left _ (List.mem_append_left _ (List.mem_of_getElem? (i := 3) rfl)))) rfl rfl dX11_clause_146 ?_
                    refine lv_iload_n hx hb dX11_clause_149 rfl (lv_at hl 1 rfl) ?_
                    refine lv_iload_n hx hb dX11_clause_150 rfl (lv_at hl 2 rfl) ?_
                    refine y_iast F hP hD hS k93 (vp_in_nI (n := k) (N := 5) (by omega) (by decide)) dX11_clause_151 (fun w95 ew96 H locs hP hD hS => ?_)
                    have k97 := wd_at.pt ew96 k89 (tg_ne ty tm37 (by decide))
                    have k98 := wd_at.pt ew96 k91 (tg_ne tm24 tm37 (by decide))
                    have k99 := wd_at.pt ew96 k92 (tg_ne tm36 tm37 (by decide))
                    have k100 : wd_at w95 m37 (.inl (cy 2, 5, .inl (upd f37 (nI k).toNatClampNeg (nI b)))) := wd_at.ps ew96 k93
                    have kp101 := kp94.put ew96 s92
                    exact y_vr K hP hD hS (Nat.le_of_ble_eq_true rfl) (Nat.le_of_ble_eq_true rfl) rfl dX11_clause_152 (⟨ax59, bx60, fwx86, upd f36 (nI k).toNatClampNeg (vp_nar .boolean 1), upd f37 (nI k).toNatClampNeg (nI b), rfl, by omega, by omega, by omega, kp101, k97, k99, k100⟩)
                | succ N ih101 =>
                  intro b hN101 ls hl H locs hP hD hS
                  refine lv_iload_n hx hb dX11_clause_101 rfl (lv_at hl 2 rfl) ?_
                  refine lv_iconst (v := 3) hx hb dX11_clause_102 (by decide) ?_
                  refine lv_icmp_ge (tgt := 124) hx hb dX11_clause_103 (by decide) (fun c_102 => absurd c_102 (nI_ge (a := b) (b := 3) (by omega) (by omega))) (fun c_102 => ?_)
                  refine lv_aload_n hx hb dX11_clause_106 rfl (lv_at hl 0 rfl) ?_
                  refine lv_aload_n hx hb dX11_clause_107 rfl (lv_at hl 0 rfl) ?_
                  refine lv_iload_n hx hb dX11_clause_108 rfl (lv_at hl 2 rfl) ?_
                  refine x_callV (n := 1) (As := [.int (nI b)]) (rest := [.ref y]) F hP hD hS (m_bearerOf l D cy sk sv w58 y (nI b)) gX11_clause_X11_bearerOf rfl rfl (by decide +kernel) ⟨(Nat.le_of_ble_eq_true rfl), (Nat.le_of_ble_eq_true rfl)⟩ rfl hl.1 (Nat.le_of_ble_eq_true rfl) k66 rfl dX11_clause_109 rfl ⟨(Nat.le_of_ble_eq_true rfl), (Nat.le_of_ble_eq_true rfl)⟩ (fun v104 w105 hp103 H locs hP hD hS => ?_)
                  obtain ⟨ix106, rfl, hz107, rfl⟩ := hp103
                  refine W.eq (g2 := F0 m 112 ls [.ref (sk ix106), .ref y]) rfl (W.widen (k := 0) (n := 0) (Nat.le_of_ble_eq_true rfl) (Nat.le_of_ble_eq_true rfl) ?_)
                  refine x_callV (n := 1) (As := [.ref (sk ix106)]) (rest := []) F hP hD hS (m_is l D cy sk sv w58 tg y m2 m3 m4 m5 m6 m8 m9 m10 m11 m12 m13 m14 m17 m18 m19 m20 m21 m22 m23 m24 m29 m30 m31 m32 m33 m34 m35 m36 m37 m39 m40 m41 m42 m43 m44 m45 m46 m47 m48 m49 m51 m52 m53 m54 m56 m57 m58 m59 pc ac sc ln sh gf v0 td (nI fvx61) v50 f24 ax59 bx60 ix106 k66 k68 ty tm24 (by omega) (by omega) (by omega)) gX11_clause_X11_is rfl rfl (by decide +kernel) ⟨(Nat.le_of_ble_eq_true rfl), (Nat.le_of_ble_eq_true rfl)⟩ rfl hl.1 (Nat.le_of_ble_eq_true rfl) k66 rfl dX11_clause_112 rfl ⟨(Nat.le_of_ble_eq_true rfl), (Nat.le_of_ble_eq_true rfl)⟩ (fun v109 w110 hp108 H locs hP hD hS => ?_)
                  obtain ⟨rx111, rfl, hz112, rfl⟩ := hp108
                  refine W.eq (g2 := F0 m 115 ls [.int rx111]) rfl (W.widen (k := 0) (n := 0) (Nat.le_of_ble_eq_true rfl) (Nat.le_of_ble_eq_true rfl) ?_)
                  refine lv_if_ne (tgt := 124) hx hb dX11_clause_115 (by decide) (fun c_113 => ?_) (fun c_113 => ?_)
                  · refine lv_aload_n hx hb dX11_clause_124 rfl (lv_at hl 0 rfl) ?_
                    refine x_get (ref := "NoteHouseModel") F hP k66 rfl (fun _ h => List.mem_cons_of_mem _ (List.mem_append_right _ (h))) 28 (Nat.le_of_ble_eq_true rfl) (List.mem_cons_of_mem _ (List.mem_append_left _ (List.mem_append_left _ (List.mem_of_getElem? (i := 0) rfl)))) rfl rfl dX11_clause_125 ?_
                    refine lv_if_ne (tgt := 145) hx hb dX11_clause_128 (by decide) (fun c_114 => ?_) (fun c_114 => ?_)
                    · have hfp : 0 < fvx61 := nI_nz (by omega) c_114
                      refine lv_aload_n hx hb dX11_clause_145 rfl (lv_at hl 0 rfl) ?_
                      refine x_get (ref := "NoteHouseModel") F hP k66 rfl (fun _ h => List.mem_cons_of_mem _ (List.mem_append_right _ (h))) 37 (Nat.le_of_ble_eq_true rfl) (List.mem_cons_of_mem _ (List.mem_append_left _ (List.mem_append_left _ (List.mem_of_getElem? (i := 3) rfl)))) rfl rfl dX11_clause_146 ?_
                      refine lv_iload_n hx hb dX11_clause_149 rfl (lv_at hl 1 rfl) ?_
                      refine lv_iload_n hx hb dX11_clause_150 rfl (lv_at hl 2 rfl) ?_
                      refine y_iast F hP hD hS k70 (vp_in_nI (n := k) (N := 5) (by omega) (by decide)) dX11_clause_151 (fun w115 ew116 H locs hP hD hS => ?_)
                      have k117 := wd_at.pt ew116 k66 (tg_ne ty tm37 (by decide))
                      have k118 := wd_at.pt ew116 k68 (tg_ne tm24 tm37 (by decide))
                      have k119 := wd_at.pt ew116 k69 (tg_ne tm36 tm37 (by decide))
                      have k120 : wd_at w115 m37 (.inl (cy 2, 5, .inl (upd f37 (nI k).toNatClampNeg (nI b)))) := wd_at.ps ew116 k70
                      have kp121 := kp71.put ew116 s92
                      exact y_vr K hP hD hS (Nat.le_of_ble_eq_true rfl) (Nat.le_of_ble_eq_true rfl) rfl dX11_clause_152 (⟨ax59, bx60, fvx61, upd f36 (nI k).toNatClampNeg (vp_nar .boolean 1), upd f37 (nI k).toNatClampNeg (nI b), rfl, by omega, by omega, by omega, kp121, k117, k119, k120⟩)
                    · have hf0 : fvx61 = 0 := nI_z0 (by omega) c_114
                      refine lv_iload_n hx hb dX11_clause_131 rfl (lv_at hl 2 rfl) ?_
                      refine lv_iconst (v := 3) hx hb dX11_clause_132 (by decide) ?_
                      refine lv_icmp_ne (tgt := 145) hx hb dX11_clause_133 (by decide) (fun c_122 => ?_) (fun c_122 => absurd c_122 (nI_nel (a := b) (b := 3) (by omega) (by omega) (by omega)))
                      refine lv_aload_n hx hb dX11_clause_145 rfl (lv_at hl 0 rfl) ?_
                      refine x_get (ref := "NoteHouseModel") F hP k66 rfl (fun _ h => List.mem_cons_of_mem _ (List.mem_append_right _ (h))) 37 (Nat.le_of_ble_eq_true rfl) (List.mem_cons_of_mem _ (List.mem_append_left _ (List.mem_append_left _ (List.mem_of_getElem? (i := 3) rfl)))) rfl rfl dX11_clause_146 ?_
                      refine lv_iload_n hx hb dX11_clause_149 rfl (lv_at hl 1 rfl) ?_
                      refine lv_iload_n hx hb dX11_clause_150 rfl (lv_at hl 2 rfl) ?_
                      refine y_iast F hP hD hS k70 (vp_in_nI (n := k) (N := 5) (by omega) (by decide)) dX11_clause_151 (fun w123 ew124 H locs hP hD hS => ?_)
                      have k125 := wd_at.pt ew124 k66 (tg_ne ty tm37 (by decide))
                      have k126 := wd_at.pt ew124 k68 (tg_ne tm24 tm37 (by decide))
                      have k127 := wd_at.pt ew124 k69 (tg_ne tm36 tm37 (by decide))
                      have k128 : wd_at w123 m37 (.inl (cy 2, 5, .inl (upd f37 (nI k).toNatClampNeg (nI b)))) := wd_at.ps ew124 k70
                      have kp129 := kp71.put ew124 s92
                      exact y_vr K hP hD hS (Nat.le_of_ble_eq_true rfl) (Nat.le_of_ble_eq_true rfl) rfl dX11_clause_152 (⟨ax59, bx60, fvx61, upd f36 (nI k).toNatClampNeg (vp_nar .boolean 1), upd f37 (nI k).toNatClampNeg (nI b), rfl, by omega, by omega, by omega, kp129, k125, k127, k128⟩)
                  · refine lv_iinc (v := nI (b + 1)) (lv' := [(2, .int (nI (b + 1))), (0, .ref y), (1, .int (nI k))]) hx hb dX11_clause_118 hl (k := 2) rfl (nI_1 b) (by decide) rfl (fun ls hl => ?_)
                    refine lv_goto (tgt := 101) hx hb dX11_clause_121 (by decide) ?_
                    exact ih101 (b + 1)  (by omega)    ls (lv_sub hl [1, 2, 0] rfl) H locs hP hD hS
              exact lp101 _ 0  (Nat.zero_add 3)    ls (lv_sub hl [1, 2, 0] rfl) H locs hP hD hS
            · refine lv_aload_n hx hb dX11_clause_83 rfl (lv_at hl 0 rfl) ?_
              refine x_get (ref := "NoteHouseModel") F hP k50 rfl (fun _ h => List.mem_cons_of_mem _ (List.mem_append_right _ (h))) 37 (Nat.le_of_ble_eq_true rfl) (List.mem_cons_of_mem _ (List.mem_append_left _ (List.mem_append_left _ (List.mem_of_getElem? (i := 3) rfl)))) rfl rfl dX11_clause_84 ?_
              refine lv_iconst (v := 4) hx hb dX11_clause_87 (by decide) ?_
              refine lv_aload_n hx hb dX11_clause_88 rfl (lv_at hl 0 rfl) ?_
              refine lv_iconst (v := 2) hx hb dX11_clause_89 (by decide) ?_
              refine x_callV (n := 1) (As := [.int 2]) (rest := [.int 4, .ref m37]) F hP hD hS (m_number l D cy sk sv w48 tg y m2 m3 m4 m5 m6 m8 m9 m10 m11 m12 m13 m14 m17 m18 m19 m20 m21 m22 m23 m24 m29 m30 m31 m32 m33 m34 m35 m36 m37 m39 m40 m41 m42 m43 m44 m45 m46 m47 m48 m49 m51 m52 m53 m54 m56 m57 m58 m59 pc ac sc ln sh gf v0 td (nI bx5) v50 f24 ax4 fvx6 2 k50 k51 (fun b => b = y) rfl ty tm24 (by omega) (by omega) (by omega)) gX11_clause_X11_number rfl rfl (by decide +kernel) ⟨(Nat.le_of_ble_eq_true rfl), (Nat.le_of_ble_eq_true rfl)⟩ rfl hl.1 (Nat.le_of_ble_eq_true rfl) k50 rfl dX11_clause_90 rfl ⟨(Nat.le_of_ble_eq_true rfl), (Nat.le_of_ble_eq_true rfl)⟩ (fun v131 w132 hp130 H locs hP hD hS => ?_)
              obtain ⟨ax133, bx134, fvx135, rx136, rfl, hz137, hz138, hz139, hz140, kq142, k141⟩ := hp130
              have k143 := kq142.2 _ _ k51 (tg_ne tm24 ty (by decide))
              have k144 := kq142.2 _ _ k52 (tg_ne tm36 ty (by decide))
              have k145 := kq142.2 _ _ k53 (tg_ne tm37 ty (by decide))
              have kp146 := kp54.tr kq142 (fun b9 hm q9 => (fun q9 => q9 ▸ s90) q9)
              refine W.eq (g2 := F0 m 93 ls [.int rx136, .int 4, .ref m37]) rfl (W.widen (k := 0) (n := 0) (Nat.le_of_ble_eq_true rfl) (Nat.le_of_ble_eq_true rfl) ?_)
              refine y_iast F hP hD hS k145 (vp_in_iff.mpr ⟨by decide, by decide⟩) dX11_clause_93 (fun w147 ew148 H locs hP hD hS => ?_)
              have k149 := wd_at.pt ew148 k141 (tg_ne ty tm37 (by decide))
              have k150 := wd_at.pt ew148 k143 (tg_ne tm24 tm37 (by decide))
              have k151 := wd_at.pt ew148 k144 (tg_ne tm36 tm37 (by decide))
              have k152 : wd_at w147 m37 (.inl (cy 2, 5, .inl (upd f37 (4 : Int32).toNatClampNeg rx136))) := wd_at.ps ew148 k145
              have kp153 := kp146.put ew148 s92
              exact y_vr K hP hD hS (Nat.le_of_ble_eq_true rfl) (Nat.le_of_ble_eq_true rfl) rfl dX11_clause_94 (⟨ax133, bx134, fvx135, upd f36 (nI k).toNatClampNeg (vp_nar .boolean 1), upd f37 (4 : Int32).toNatClampNeg rx136, rfl, by omega, by omega, by omega, kp153, k149, k151, k152⟩)
          · refine lv_aload_n hx hb dX11_clause_61 rfl (lv_at hl 0 rfl) ?_
            refine lv_iconst (v := 2) hx hb dX11_clause_62 (by decide) ?_
            refine lv_aload_n hx hb dX11_clause_63 rfl (lv_at hl 0 rfl) ?_
            refine x_get (ref := "NoteHouseModel") F hP k11 rfl (fun _ h => List.mem_cons_of_mem _ (List.mem_append_right _ (h))) 27 (Nat.le_of_ble_eq_true rfl) (List.mem_cons_of_mem _ (List.mem_append_left _ (List.mem_append_left _ (List.mem_of_getElem? (i := 1) rfl)))) rfl rfl dX11_clause_64 ?_
            refine x_callV (n := 2) (As := [.int 2, .int (nI bx5)]) (rest := []) F hP hD hS (m_fails l D cy sk sv w3 tg y m2 m3 m4 m5 m6 m8 m9 m10 m11 m12 m13 m14 m17 m18 m19 m20 m21 m22 m23 m24 m29 m30 m31 m32 m33 m34 m35 m36 m37 m39 m40 m41 m42 m43 m44 m45 m46 m47 m48 m49 m51 m52 m53 m54 m56 m57 m58 m59 pc ac sc ln sh gf v0 td (nI ax4) (nI bx5) v50 fvx6 2 bx5 k11 (fun b => b = y) rfl ty (by omega) (by omega) (by omega)) gX11_clause_X11_fails rfl rfl (by decide +kernel) ⟨(Nat.le_of_ble_eq_true rfl), (Nat.le_of_ble_eq_true rfl)⟩ rfl hl.1 (Nat.le_of_ble_eq_true rfl) k11 rfl dX11_clause_67 rfl ⟨(Nat.le_of_ble_eq_true rfl), (Nat.le_of_ble_eq_true rfl)⟩ (fun v155 w156 hp154 H locs hP hD hS => ?_)
            obtain ⟨fwx157, rfl, hz158, hz159, kq161, k160⟩ := hp154
            have k162 := kq161.2 _ _ k13 (tg_ne tm24 ty (by decide))
            have k163 := kq161.2 _ _ k14 (tg_ne tm36 ty (by decide))
            have k164 := kq161.2 _ _ k15 (tg_ne tm37 ty (by decide))
            have kp165 := kp16.tr kq161 (fun b9 hm q9 => (fun q9 => q9 ▸ s90) q9)
            refine W.eq (g2 := F0 m 70 ls []) rfl (W.widen (k := 0) (n := 0) (Nat.le_of_ble_eq_true rfl) (Nat.le_of_ble_eq_true rfl) ?_)
            exact y_vr K hP hD hS (Nat.le_of_ble_eq_true rfl) (Nat.le_of_ble_eq_true rfl) rfl dX11_clause_70 (⟨ax4, bx5, fwx157, f36, f37, rfl, by omega, by omega, by omega, kp165, k160, k163, k164⟩)
        · have hfp : 0 < fvx6 := Nat.pos_of_ne_zero (fun q => c_45 (by rw [q]; decide))
          exact y_vr K hP hD hS (Nat.le_of_ble_eq_true rfl) (Nat.le_of_ble_eq_true rfl) rfl dX11_clause_36 (⟨ax4, bx5, fvx6, f36, f37, rfl, by omega, by omega, by omega, kp16, k11, k14, k15⟩)
      · refine lv_iinc (v := nI (k + 1)) (lv' := [(1, .int (nI (k + 1))), (0, .ref y)]) hx hb dX11_clause_23 hl (k := 1) rfl (nI_1 k) (by decide) rfl (fun ls hl => ?_)
        refine lv_goto (tgt := 6) hx hb dX11_clause_26 (by decide) ?_
        exact ih6 (k + 1)  (by omega)    ls (lv_sub hl [1, 0] rfl) H locs hP hD hS
  exact lp6 _ 0  (Nat.zero_add 5)    ls (lv_sub hl [1, 0] rfl) H locs hP hD hS
set_option maxHeartbeats 4000000 in
set_option maxRecDepth 100000 in
theorem m_law (l : Launch) (D : va_G) (cy : Nat → ClassId) (sk sv : Nat → Nat) (w : Wd) (tg : Nat → Nat) (y m2 m3 m4 m5 m6 m8 m9 m10 m11 m12 m13 m14 m17 m18 m19 m20 m21 m22 m23 m24 m29 m30 m31 m32 m33 m34 m35 m36 m37 m39 m40 m41 m42 m43 m44 m45 m46 m47 m48 m49 m51 m52 m53 m54 m56 m57 m58 m59 pc ac sc ln sh gf : Nat) (v0 td v26 v27 v28 v50 : Int32) (f24 : Nat → Int32) (f35 : Nat → Int32) (f36 : Nat → Int32) (f37 : Nat → Int32)  (c90 : wd_at w y (.inr (11, [.int v0, .int td, .ref m2, .ref m3, .ref m4, .ref m5, .ref m6, .int (nI pc), .ref m8, .ref m9, .ref m10, .ref m11, .ref m12, .ref m13, .ref m14, .int (nI ac), .int (nI sc), .ref m17, .ref m18, .ref m19, .ref m20, .ref m21, .ref m22, .ref m23, .ref m24, .int (nI ln), .int v26, .int v27, .int v28, .ref m29, .ref m30, .ref m31, .ref m32, .ref m33, .ref m34, .ref m35, .ref m36, .ref m37, .int (nI sh), .ref m39, .ref m40, .ref m41, .ref m42, .ref m43, .ref m44, .ref m45, .ref m46, .ref m47, .ref m48, .ref m49, .int v50, .ref m51, .ref m52, .ref m53, .ref m54, .int (nI gf), .ref m56, .ref m57, .ref m58, .ref m59]))) (c91 : wd_at w m24 (.inl (cy 0, 300, .inl f24))) (c92 : wd_at w m35 (.inl (cy 2, 5, .inl f35))) (c93 : wd_at w m36 (.inl (cy 4, 5, .inl f36))) (c94 : wd_at w m37 (.inl (cy 2, 5, .inl f37)))  (S : Nat → Prop) (s90 : S y) (s91 : S m35) (s92 : S m36) (s93 : S m37) (ty : tg y = 10000) (tm24 : tg m24 = 10124) (tm35 : tg m35 = 10135) (tm36 : tg m36 = 10136) (tm37 : tg m37 = 10137) (hln : ln ≤ 300) : Ct l D cy sk sv yX11_law wsX11_law ({ frames := 6, cells := 0, slots := 0, locals := 130 }) [.ref y] w (fun v w1 => ∃ (w26 : Int32) (w27 : Int32) (w28 : Int32) (g35 : Nat → Int32) (g36 : Nat → Int32) (g37 : Nat → Int32) (r1 : Int32), v = some (.int r1) ∧ wd_kp S w w1 ∧ wd_at w1 y (.inr (11, [.int v0, .int td, .ref m2, .ref m3, .ref m4, .ref m5, .ref m6, .int (nI pc), .ref m8, .ref m9, .ref m10, .ref m11, .ref m12, .ref m13, .ref m14, .int (nI ac), .int (nI sc), .ref m17, .ref m18, .ref m19, .ref m20, .ref m21, .ref m22, .ref m23, .ref m24, .int 0, .int w26, .int w27, .int w28, .ref m29, .ref m30, .ref m31, .ref m32, .ref m33, .ref m34, .ref m35, .ref m36, .ref m37, .int (nI sh), .ref m39, .ref m40, .ref m41, .ref m42, .ref m43, .ref m44, .ref m45, .ref m46, .ref m47, .ref m48, .ref m49, .int v50, .ref m51, .ref m52, .ref m53, .ref m54, .int (nI gf), .ref m56, .ref m57, .ref m58, .ref m59])) ∧ wd_at w1 m35 (.inl (cy 2, 5, .inl g35)) ∧ wd_at w1 m36 (.inl (cy 4, 5, .inl g36)) ∧ wd_at w1 m37 (.inl (cy 2, 5, .inl g37))) := by
  refine Ct.by (cc := cX11_law) (maxL := 3) (ret := (some .int)) (by decide +kernel) rfl (Nat.le_of_ble_eq_true rfl) ?_
  intro p e s m args below meth c A Q F hnm K ls hl
  have F : wd_Fx p s m args meth c cX11_law 3 wsX11_law RX11 D cy sk sv A := F
  have hl : lv_has ls 3 [(0, .ref y)] := hl
  have hx := F.1.1
  have hb := F.1.2.1
  have hown := F.1.2.2.2.1
  have hts := F.1.2.2.2.2
  intro H locs hP hD hS
  have kp0 : wd_kp S w w := wd_kp.rf
  refine lv_iconst (v := 0) hx hb dX11_law_0 (by decide) ?_
  refine lv_istore_n (lv' := [(1, .int 0), (0, .ref y)]) hx hb dX11_law_1 rfl hl (by decide) rfl (fun ls hl => ?_)
  have lp2 : ∀ (N : Nat) (k : Nat) (ga : Nat → Int32) (gb : Nat → Int32) (w1 : Wd), (k + N = 5) → (wd_at w1 y (.inr (11, [.int v0, .int td, .ref m2, .ref m3, .ref m4, .ref m5, .ref m6, .int (nI pc), .ref m8, .ref m9, .ref m10, .ref m11, .ref m12, .ref m13, .ref m14, .int (nI ac), .int (nI sc), .ref m17, .ref m18, .ref m19, .ref m20, .ref m21, .ref m22, .ref m23, .ref m24, .int (nI ln), .int v26, .int v27, .int v28, .ref m29, .ref m30, .ref m31, .ref m32, .ref m33, .ref m34, .ref m35, .ref m36, .ref m37, .int (nI sh), .ref m39, .ref m40, .ref m41, .ref m42, .ref m43, .ref m44, .ref m45, .ref m46, .ref m47, .ref m48, .ref m49, .int v50, .ref m51, .ref m52, .ref m53, .ref m54, .int (nI gf), .ref m56, .ref m57, .ref m58, .ref m59]))) → (wd_at w1 m24 (.inl (cy 0, 300, .inl f24))) → (wd_at w1 m35 (.inl (cy 2, 5, .inl f35))) → (wd_at w1 m36 (.inl (cy 4, 5, .inl ga))) → (wd_at w1 m37 (.inl (cy 2, 5, .inl gb))) → (wd_kp S w w1) → ∀ (ls : Array Slot), lv_has ls 3 [(0, .ref y), (1, .int (nI k))] → Wv p l e ({ frames := 6, cells := 0, slots := 0, locals := 130 }) s m args below meth c D A (0) (0) Q w1 (F0 m 2 ls []) := by
    intro N
    induction N with
    | zero =>
      intro k ga gb w1 hN2 k2 k3 k4 k5 k6 kp7 ls hl H locs hP hD hS
      refine lv_iload_n hx hb dX11_law_2 rfl (lv_at hl 1 rfl) ?_
      refine lv_iconst (v := 5) hx hb dX11_law_3 (by decide) ?_
      refine lv_icmp_ge (tgt := 30) hx hb dX11_law_4 (by decide) (fun c_8 => ?_) (fun c_8 => absurd (nI_le (a := 5) (b := k) (by omega) (by omega)) c_8)
      refine lv_aload_n hx hb dX11_law_30 rfl (lv_at hl 0 rfl) ?_
      refine lv_iconst (v := 0) hx hb dX11_law_31 (by decide) ?_
      refine y_put (ref := "NoteHouseModel") F hP hD hS k2 rfl (fun _ h => List.mem_cons_of_mem _ (List.mem_append_right _ (h))) tyX11_ok nmX11 26 (Nat.le_of_ble_eq_true rfl) (List.mem_cons_of_mem _ (List.mem_append_left _ (List.mem_append_left _ (List.mem_of_getElem? (i := 2) rfl)))) rfl rfl rfl rfl (Nat.le_of_ble_eq_true rfl) dX11_law_32 (fun w9 ew10 H locs hP hD hS => ?_)
      have k11 : wd_at w9 y (.inr (11, [.int v0, .int td, .ref m2, .ref m3, .ref m4, .ref m5, .ref m6, .int (nI pc), .ref m8, .ref m9, .ref m10, .ref m11, .ref m12, .ref m13, .ref m14, .int (nI ac), .int (nI sc), .ref m17, .ref m18, .ref m19, .ref m20, .ref m21, .ref m22, .ref m23, .ref m24, .int (nI ln), .int 0, .int v27, .int v28, .ref m29, .ref m30, .ref m31, .ref m32, .ref m33, .ref m34, .ref m35, .ref m36, .ref m37, .int (nI sh), .ref m39, .ref m40, .ref m41, .ref m42, .ref m43, .ref m44, .ref m45, .ref m46, .ref m47, .ref m48, .ref m49, .int v50, .ref m51, .ref m52, .ref m53, .ref m54, .int (nI gf), .ref m56, .ref m57, .ref m58, .ref m59])) := wd_at.ps ew10 k2
      have k12 := wd_at.pt ew10 k3 (tg_ne tm24 ty (by decide))
      have k13 := wd_at.pt ew10 k4 (tg_ne tm35 ty (by decide))
      have k14 := wd_at.pt ew10 k5 (tg_ne tm36 ty (by decide))
      have k15 := wd_at.pt ew10 k6 (tg_ne tm37 ty (by decide))
      have kp16 := kp7.put ew10 s90
      refine lv_aload_n hx hb dX11_law_35 rfl (lv_at hl 0 rfl) ?_
      refine lv_iconst (v := 0) hx hb dX11_law_36 (by decide) ?_
      refine y_put (ref := "NoteHouseModel") F hP hD hS k11 rfl (fun _ h => List.mem_cons_of_mem _ (List.mem_append_right _ (h))) tyX11_ok nmX11 28 (Nat.le_of_ble_eq_true rfl) (List.mem_cons_of_mem _ (List.mem_append_left _ (List.mem_append_left _ (List.mem_of_getElem? (i := 3) rfl)))) rfl rfl rfl rfl (Nat.le_of_ble_eq_true rfl) dX11_law_37 (fun w17 ew18 H locs hP hD hS => ?_)
      have k19 : wd_at w17 y (.inr (11, [.int v0, .int td, .ref m2, .ref m3, .ref m4, .ref m5, .ref m6, .int (nI pc), .ref m8, .ref m9, .ref m10, .ref m11, .ref m12, .ref m13, .ref m14, .int (nI ac), .int (nI sc), .ref m17, .ref m18, .ref m19, .ref m20, .ref m21, .ref m22, .ref m23, .ref m24, .int (nI ln), .int 0, .int v27, .int 0, .ref m29, .ref m30, .ref m31, .ref m32, .ref m33, .ref m34, .ref m35, .ref m36, .ref m37, .int (nI sh), .ref m39, .ref m40, .ref m41, .ref m42, .ref m43, .ref m44, .ref m45, .ref m46, .ref m47, .ref m48, .ref m49, .int v50, .ref m51, .ref m52, .ref m53, .ref m54, .int (nI gf), .ref m56, .ref m57, .ref m58, .ref m59])) := wd_at.ps ew18 k11
      have k20 := wd_at.pt ew18 k12 (tg_ne tm24 ty (by decide))
      have k21 := wd_at.pt ew18 k13 (tg_ne tm35 ty (by decide))
      have k22 := wd_at.pt ew18 k14 (tg_ne tm36 ty (by decide))
      have k23 := wd_at.pt ew18 k15 (tg_ne tm37 ty (by decide))
      have kp24 := kp16.put ew18 s90
      refine lv_aload_n hx hb dX11_law_40 rfl (lv_at hl 0 rfl) ?_
      refine x_get (ref := "NoteHouseModel") F hP k19 rfl (fun _ h => List.mem_cons_of_mem _ (List.mem_append_right _ (h))) 25 (Nat.le_of_ble_eq_true rfl) (List.mem_cons_of_mem _ (List.mem_append_left _ (List.mem_append_left _ (List.mem_of_getElem? (i := 4) rfl)))) rfl rfl dX11_law_41 ?_
      refine lv_sipush (v := 200) hx hb dX11_law_44 (by decide) ?_
      refine lv_icmp_le (tgt := 58) hx hb dX11_law_47 (by decide) (fun c_25 => ?_) (fun c_25 => ?_)
      · refine lv_aload_n hx hb dX11_law_58 rfl (lv_at hl 0 rfl) ?_
        refine x_callV (n := 0) (As := []) (rest := []) F hP hD hS (m_isEnd l D cy sk sv w17 tg y m2 m3 m4 m5 m6 m8 m9 m10 m11 m12 m13 m14 m17 m18 m19 m20 m21 m22 m23 m24 m29 m30 m31 m32 m33 m34 m35 m36 m37 m39 m40 m41 m42 m43 m44 m45 m46 m47 m48 m49 m51 m52 m53 m54 m56 m57 m58 m59 pc ac sc ln sh gf v0 td v27 0 v50 f24 0 k19 k20 (fun b => b = y) rfl ty tm24 (by omega) (by omega)) gX11_law_X11_isEnd rfl rfl (by decide +kernel) ⟨(Nat.le_of_ble_eq_true rfl), (Nat.le_of_ble_eq_true rfl)⟩ rfl hl.1 (Nat.le_of_ble_eq_true rfl) k19 rfl dX11_law_59 rfl ⟨(Nat.le_of_ble_eq_true rfl), (Nat.le_of_ble_eq_true rfl)⟩ (fun v27 w28 hp26 H locs hP hD hS => ?_)
        obtain ⟨ax29, rx30, rfl, hz31, hz32, hz33, hz34, kq36, k35⟩ := hp26
        have k37 := kq36.2 _ _ k20 (tg_ne tm24 ty (by decide))
        have k38 := kq36.2 _ _ k21 (tg_ne tm35 ty (by decide))
        have k39 := kq36.2 _ _ k22 (tg_ne tm36 ty (by decide))
        have k40 := kq36.2 _ _ k23 (tg_ne tm37 ty (by decide))
        have kp41 := kp24.tr kq36 (fun b9 hm q9 => (fun q9 => q9 ▸ s90) q9)
        refine W.eq (g2 := F0 m 62 ls [.int rx30]) rfl (W.widen (k := 0) (n := 0) (Nat.le_of_ble_eq_true rfl) (Nat.le_of_ble_eq_true rfl) ?_)
        refine lv_if_ne (tgt := 69) hx hb dX11_law_62 (by decide) (fun c_42 => ?_) (fun c_42 => ?_)
        · refine lv_iconst (v := 0) hx hb dX11_law_69 (by decide) ?_
          refine lv_istore_n (lv' := [(1, .int 0), (0, .ref y)]) hx hb dX11_law_70 rfl hl (by decide) rfl (fun ls hl => ?_)
          have lp71 : ∀ (N : Nat) (on : Nat) (a : Nat) (b : Nat) (fq : Nat) (h36 : Nat → Int32) (h37 : Nat → Int32) (w43 : Wd), (2 * ln + on + 1 ≤ 2 * a + N) → (a ≤ ln) → (fq < 2000) → (on ≤ 1) → (wd_at w43 y (.inr (11, [.int v0, .int td, .ref m2, .ref m3, .ref m4, .ref m5, .ref m6, .int (nI pc), .ref m8, .ref m9, .ref m10, .ref m11, .ref m12, .ref m13, .ref m14, .int (nI ac), .int (nI sc), .ref m17, .ref m18, .ref m19, .ref m20, .ref m21, .ref m22, .ref m23, .ref m24, .int (nI ln), .int (nI a), .int (nI b), .int (nI fq), .ref m29, .ref m30, .ref m31, .ref m32, .ref m33, .ref m34, .ref m35, .ref m36, .ref m37, .int (nI sh), .ref m39, .ref m40, .ref m41, .ref m42, .ref m43, .ref m44, .ref m45, .ref m46, .ref m47, .ref m48, .ref m49, .int v50, .ref m51, .ref m52, .ref m53, .ref m54, .int (nI gf), .ref m56, .ref m57, .ref m58, .ref m59]))) → (wd_at w43 m24 (.inl (cy 0, 300, .inl f24))) → (wd_at w43 m35 (.inl (cy 2, 5, .inl f35))) → (wd_at w43 m36 (.inl (cy 4, 5, .inl h36))) → (wd_at w43 m37 (.inl (cy 2, 5, .inl h37))) → (wd_kp S w w43) → ∀ (ls : Array Slot), lv_has ls 3 [(0, .ref y), (1, .int (nI on))] → Wv p l e ({ frames := 6, cells := 0, slots := 0, locals := 130 }) s m args below meth c D A (0) (0) Q w43 (F0 m 71 ls []) := by
            intro N
            induction N with
            | zero =>
              intro on a b fq h36 h37 w43 hN71 ha2 hfq hon k44 k45 k46 k47 k48 kp49 ls hl H locs hP hD hS
              exact absurd hN71 (by omega)
            | succ N ih71 =>
              intro on a b fq h36 h37 w43 hN71 ha2 hfq hon k44 k45 k46 k47 k48 kp49 ls hl H locs hP hD hS
              refine lv_iload_n hx hb dX11_law_71 rfl (lv_at hl 1 rfl) ?_
              refine lv_if_eq (tgt := 146) hx hb dX11_law_72 (by decide) (fun c_50 => ?_) (fun c_50 => ?_)
              · refine lv_aload_n hx hb dX11_law_146 rfl (lv_at hl 0 rfl) ?_
                refine lv_iconst (v := 0) hx hb dX11_law_147 (by decide) ?_
                refine y_put (ref := "NoteHouseModel") F hP hD hS k44 rfl (fun _ h => List.mem_cons_of_mem _ (List.mem_append_right _ (h))) tyX11_ok nmX11 25 (Nat.le_of_ble_eq_true rfl) (List.mem_cons_of_mem _ (List.mem_append_left _ (List.mem_append_left _ (List.mem_of_getElem? (i := 4) rfl)))) rfl rfl rfl rfl (Nat.le_of_ble_eq_true rfl) dX11_law_148 (fun w51 ew52 H locs hP hD hS => ?_)
                have k53 : wd_at w51 y (.inr (11, [.int v0, .int td, .ref m2, .ref m3, .ref m4, .ref m5, .ref m6, .int (nI pc), .ref m8, .ref m9, .ref m10, .ref m11, .ref m12, .ref m13, .ref m14, .int (nI ac), .int (nI sc), .ref m17, .ref m18, .ref m19, .ref m20, .ref m21, .ref m22, .ref m23, .ref m24, .int 0, .int (nI a), .int (nI b), .int (nI fq), .ref m29, .ref m30, .ref m31, .ref m32, .ref m33, .ref m34, .ref m35, .ref m36, .ref m37, .int (nI sh), .ref m39, .ref m40, .ref m41, .ref m42, .ref m43, .ref m44, .ref m45, .ref m46, .ref m47, .ref m48, .ref m49, .int v50, .ref m51, .ref m52, .ref m53, .ref m54, .int (nI gf), .ref m56, .ref m57, .ref m58, .ref m59])) := wd_at.ps ew52 k44
                have k54 := wd_at.pt ew52 k45 (tg_ne tm24 ty (by decide))
                have k55 := wd_at.pt ew52 k46 (tg_ne tm35 ty (by decide))
                have k56 := wd_at.pt ew52 k47 (tg_ne tm36 ty (by decide))
                have k57 := wd_at.pt ew52 k48 (tg_ne tm37 ty (by decide))
                have kp58 := kp49.put ew52 s90
                refine lv_aload_n hx hb dX11_law_151 rfl (lv_at hl 0 rfl) ?_
                refine x_get (ref := "NoteHouseModel") F hP k53 rfl (fun _ h => List.mem_cons_of_mem _ (List.mem_append_right _ (h))) 28 (Nat.le_of_ble_eq_true rfl) (List.mem_cons_of_mem _ (List.mem_append_left _ (List.mem_append_left _ (List.mem_of_getElem? (i := 3) rfl)))) rfl rfl dX11_law_152 ?_
                refine lv_if_ne (tgt := 183) hx hb dX11_law_155 (by decide) (fun c_59 => ?_) (fun c_59 => ?_)
                · have hfp : 0 < fq := nI_nz (by omega) c_59
                  refine lv_aload_n hx hb dX11_law_183 rfl (lv_at hl 0 rfl) ?_
                  refine x_get (ref := "NoteHouseModel") F hP k53 rfl (fun _ h => List.mem_cons_of_mem _ (List.mem_append_right _ (h))) 28 (Nat.le_of_ble_eq_true rfl) (List.mem_cons_of_mem _ (List.mem_append_left _ (List.mem_append_left _ (List.mem_of_getElem? (i := 3) rfl)))) rfl rfl dX11_law_184 ?_
                  exact y_ir K hP hD hS (Nat.le_of_ble_eq_true rfl) (Nat.le_of_ble_eq_true rfl) (ty := .int) rfl rfl dX11_law_187 (⟨nI a, nI b, nI fq, f35, h36, h37, nI fq, rfl, kp58, k53, k55, k56, k57⟩)
                · have hf0 : fq = 0 := nI_z0 (by omega) c_59
                  refine lv_iconst (v := 0) hx hb dX11_law_158 (by decide) ?_
                  refine lv_istore_n (lv' := [(2, .int 0), (0, .ref y), (1, .int (nI on))]) hx hb dX11_law_159 rfl hl (by decide) rfl (fun ls hl => ?_)
                  have lp160 : ∀ (N : Nat) (k2 : Nat) (gd : Nat → Int32) (w60 : Wd), (k2 + N = 5) → (wd_at w60 y (.inr (11, [.int v0, .int td, .ref m2, .ref m3, .ref m4, .ref m5, .ref m6, .int (nI pc), .ref m8, .ref m9, .ref m10, .ref m11, .ref m12, .ref m13, .ref m14, .int (nI ac), .int (nI sc), .ref m17, .ref m18, .ref m19, .ref m20, .ref m21, .ref m22, .ref m23, .ref m24, .int 0, .int (nI a), .int (nI b), .int (nI fq), .ref m29, .ref m30, .ref m31, .ref m32, .ref m33, .ref m34, .ref m35, .ref m36, .ref m37, .int (nI sh), .ref m39, .ref m40, .ref m41, .ref m42, .ref m43, .ref m44, .ref m45, .ref m46, .ref m47, .ref m48, .ref m49, .int v50, .ref m51, .ref m52, .ref m53, .ref m54, .int (nI gf), .ref m56, .ref m57, .ref m58, .ref m59]))) → (wd_at w60 m24 (.inl (cy 0, 300, .inl f24))) → (wd_at w60 m35 (.inl (cy 2, 5, .inl gd))) → (wd_at w60 m36 (.inl (cy 4, 5, .inl h36))) → (wd_at w60 m37 (.inl (cy 2, 5, .inl h37))) → (wd_kp S w w60) → ∀ (ls : Array Slot), lv_has ls 3 [(0, .ref y), (2, .int (nI k2))] → Wv p l e ({ frames := 6, cells := 0, slots := 0, locals := 130 }) s m args below meth c D A (0) (0) Q w60 (F0 m 160 ls []) := by
                    intro N
                    induction N with
                    | zero =>
                      intro k2 gd w60 hN160 k61 k62 k63 k64 k65 kp66 ls hl H locs hP hD hS
                      refine lv_iload_n hx hb dX11_law_160 rfl (lv_at hl 1 rfl) ?_
                      refine lv_iconst (v := 5) hx hb dX11_law_161 (by decide) ?_
                      refine lv_icmp_ge (tgt := 183) hx hb dX11_law_162 (by decide) (fun c_67 => ?_) (fun c_67 => absurd (nI_le (a := 5) (b := k2) (by omega) (by omega)) c_67)
                      refine lv_aload_n hx hb dX11_law_183 rfl (lv_at hl 0 rfl) ?_
                      refine x_get (ref := "NoteHouseModel") F hP k61 rfl (fun _ h => List.mem_cons_of_mem _ (List.mem_append_right _ (h))) 28 (Nat.le_of_ble_eq_true rfl) (List.mem_cons_of_mem _ (List.mem_append_left _ (List.mem_append_left _ (List.mem_of_getElem? (i := 3) rfl)))) rfl rfl dX11_law_184 ?_
                      exact y_ir K hP hD hS (Nat.le_of_ble_eq_true rfl) (Nat.le_of_ble_eq_true rfl) (ty := .int) rfl rfl dX11_law_187 (⟨nI a, nI b, nI fq, gd, h36, h37, nI fq, rfl, kp66, k61, k63, k64, k65⟩)
                    | succ N ih160 =>
                      intro k2 gd w60 hN160 k61 k62 k63 k64 k65 kp66 ls hl H locs hP hD hS
                      refine lv_iload_n hx hb dX11_law_160 rfl (lv_at hl 1 rfl) ?_
                      refine lv_iconst (v := 5) hx hb dX11_law_161 (by decide) ?_
                      refine lv_icmp_ge (tgt := 183) hx hb dX11_law_162 (by decide) (fun c_68 => absurd c_68 (nI_ge (a := k2) (b := 5) (by omega) (by omega))) (fun c_68 => ?_)
                      refine lv_aload_n hx hb dX11_law_165 rfl (lv_at hl 0 rfl) ?_
                      refine x_get (ref := "NoteHouseModel") F hP k61 rfl (fun _ h => List.mem_cons_of_mem _ (List.mem_append_right _ (h))) 35 (Nat.le_of_ble_eq_true rfl) (List.mem_cons_of_mem _ (List.mem_append_left _ (List.mem_append_left _ (List.mem_of_getElem? (i := 6) rfl)))) rfl rfl dX11_law_166 ?_
                      refine lv_iload_n hx hb dX11_law_169 rfl (lv_at hl 1 rfl) ?_
                      refine lv_aload_n hx hb dX11_law_170 rfl (lv_at hl 0 rfl) ?_
                      refine x_get (ref := "NoteHouseModel") F hP k61 rfl (fun _ h => List.mem_cons_of_mem _ (List.mem_append_right _ (h))) 37 (Nat.le_of_ble_eq_true rfl) (List.mem_cons_of_mem _ (List.mem_append_left _ (List.mem_append_left _ (List.mem_of_getElem? (i := 1) rfl)))) rfl rfl dX11_law_171 ?_
                      refine lv_iload_n hx hb dX11_law_174 rfl (lv_at hl 1 rfl) ?_
                      refine x_iald F hP k65 (vp_in_nI (n := k2) (N := 5) (by omega) (by decide)) dX11_law_175 ?_
                      refine y_iast F hP hD hS k63 (vp_in_nI (n := k2) (N := 5) (by omega) (by decide)) dX11_law_176 (fun w69 ew70 H locs hP hD hS => ?_)
                      have k71 := wd_at.pt ew70 k61 (tg_ne ty tm35 (by decide))
                      have k72 := wd_at.pt ew70 k62 (tg_ne tm24 tm35 (by decide))
                      have k73 : wd_at w69 m35 (.inl (cy 2, 5, .inl (upd gd (nI k2).toNatClampNeg (h37 (nI k2).toNatClampNeg)))) := wd_at.ps ew70 k63
                      have k74 := wd_at.pt ew70 k64 (tg_ne tm36 tm35 (by decide))
                      have k75 := wd_at.pt ew70 k65 (tg_ne tm37 tm35 (by decide))
                      have kp76 := kp66.put ew70 s91
                      refine lv_iinc (v := nI (k2 + 1)) (lv' := [(2, .int (nI (k2 + 1))), (0, .ref y)]) hx hb dX11_law_177 hl (k := 1) rfl (nI_1 k2) (by decide) rfl (fun ls hl => ?_)
                      refine lv_goto (tgt := 160) hx hb dX11_law_180 (by decide) ?_
                      exact ih160 (k2 + 1) (upd gd (nI k2).toNatClampNeg (h37 (nI k2).toNatClampNeg)) w69 (by omega)  k71 k72 k73 k74 k75 kp76 ls (lv_sub hl [1, 0] rfl) H locs hP hD hS
                  exact lp160 _ 0 f35 w51 (Nat.zero_add 5)  k53 k54 k55 k56 k57 kp58 ls (lv_sub hl [1, 0] rfl) H locs hP hD hS
              · have hon1 : 0 < on := nI_nz (by omega) c_50
                refine lv_aload_n hx hb dX11_law_75 rfl (lv_at hl 0 rfl) ?_
                refine x_get (ref := "NoteHouseModel") F hP k44 rfl (fun _ h => List.mem_cons_of_mem _ (List.mem_append_right _ (h))) 28 (Nat.le_of_ble_eq_true rfl) (List.mem_cons_of_mem _ (List.mem_append_left _ (List.mem_append_left _ (List.mem_of_getElem? (i := 3) rfl)))) rfl rfl dX11_law_76 ?_
                refine lv_if_ne (tgt := 146) hx hb dX11_law_79 (by decide) (fun c_77 => ?_) (fun c_77 => ?_)
                · have hfp : 0 < fq := nI_nz (by omega) c_77
                  refine lv_aload_n hx hb dX11_law_146 rfl (lv_at hl 0 rfl) ?_
                  refine lv_iconst (v := 0) hx hb dX11_law_147 (by decide) ?_
                  refine y_put (ref := "NoteHouseModel") F hP hD hS k44 rfl (fun _ h => List.mem_cons_of_mem _ (List.mem_append_right _ (h))) tyX11_ok nmX11 25 (Nat.le_of_ble_eq_true rfl) (List.mem_cons_of_mem _ (List.mem_append_left _ (List.mem_append_left _ (List.mem_of_getElem? (i := 4) rfl)))) rfl rfl rfl rfl (Nat.le_of_ble_eq_true rfl) dX11_law_148 (fun w78 ew79 H locs hP hD hS => ?_)
                  have k80 : wd_at w78 y (.inr (11, [.int v0, .int td, .ref m2, .ref m3, .ref m4, .ref m5, .ref m6, .int (nI pc), .ref m8, .ref m9, .ref m10, .ref m11, .ref m12, .ref m13, .ref m14, .int (nI ac), .int (nI sc), .ref m17, .ref m18, .ref m19, .ref m20, .ref m21, .ref m22, .ref m23, .ref m24, .int 0, .int (nI a), .int (nI b), .int (nI fq), .ref m29, .ref m30, .ref m31, .ref m32, .ref m33, .ref m34, .ref m35, .ref m36, .ref m37, .int (nI sh), .ref m39, .ref m40, .ref m41, .ref m42, .ref m43, .ref m44, .ref m45, .ref m46, .ref m47, .ref m48, .ref m49, .int v50, .ref m51, .ref m52, .ref m53, .ref m54, .int (nI gf), .ref m56, .ref m57, .ref m58, .ref m59])) := wd_at.ps ew79 k44
                  have k81 := wd_at.pt ew79 k45 (tg_ne tm24 ty (by decide))
                  have k82 := wd_at.pt ew79 k46 (tg_ne tm35 ty (by decide))
                  have k83 := wd_at.pt ew79 k47 (tg_ne tm36 ty (by decide))
                  have k84 := wd_at.pt ew79 k48 (tg_ne tm37 ty (by decide))
                  have kp85 := kp49.put ew79 s90
                  refine lv_aload_n hx hb dX11_law_151 rfl (lv_at hl 0 rfl) ?_
                  refine x_get (ref := "NoteHouseModel") F hP k80 rfl (fun _ h => List.mem_cons_of_mem _ (List.mem_append_right _ (h))) 28 (Nat.le_of_ble_eq_true rfl) (List.mem_cons_of_mem _ (List.mem_append_left _ (List.mem_append_left _ (List.mem_of_getElem? (i := 3) rfl)))) rfl rfl dX11_law_152 ?_
                  refine lv_if_ne (tgt := 183) hx hb dX11_law_155 (by decide) (fun c_86 => ?_) (fun c_86 => ?_)
                  · have hfp : 0 < fq := nI_nz (by omega) c_86
                    refine lv_aload_n hx hb dX11_law_183 rfl (lv_at hl 0 rfl) ?_
                    refine x_get (ref := "NoteHouseModel") F hP k80 rfl (fun _ h => List.mem_cons_of_mem _ (List.mem_append_right _ (h))) 28 (Nat.le_of_ble_eq_true rfl) (List.mem_cons_of_mem _ (List.mem_append_left _ (List.mem_append_left _ (List.mem_of_getElem? (i := 3) rfl)))) rfl rfl dX11_law_184 ?_
                    exact y_ir K hP hD hS (Nat.le_of_ble_eq_true rfl) (Nat.le_of_ble_eq_true rfl) (ty := .int) rfl rfl dX11_law_187 (⟨nI a, nI b, nI fq, f35, h36, h37, nI fq, rfl, kp85, k80, k82, k83, k84⟩)
                  · have hf0 : fq = 0 := nI_z0 (by omega) c_86
                    refine lv_iconst (v := 0) hx hb dX11_law_158 (by decide) ?_
                    refine lv_istore_n (lv' := [(2, .int 0), (0, .ref y), (1, .int (nI on))]) hx hb dX11_law_159 rfl hl (by decide) rfl (fun ls hl => ?_)
                    have lp160 : ∀ (N : Nat) (k2 : Nat) (gd : Nat → Int32) (w87 : Wd), (k2 + N = 5) → (wd_at w87 y (.inr (11, [.int v0, .int td, .ref m2, .ref m3, .ref m4, .ref m5, .ref m6, .int (nI pc), .ref m8, .ref m9, .ref m10, .ref m11, .ref m12, .ref m13, .ref m14, .int (nI ac), .int (nI sc), .ref m17, .ref m18, .ref m19, .ref m20, .ref m21, .ref m22, .ref m23, .ref m24, .int 0, .int (nI a), .int (nI b), .int (nI fq), .ref m29, .ref m30, .ref m31, .ref m32, .ref m33, .ref m34, .ref m35, .ref m36, .ref m37, .int (nI sh), .ref m39, .ref m40, .ref m41, .ref m42, .ref m43, .ref m44, .ref m45, .ref m46, .ref m47, .ref m48, .ref m49, .int v50, .ref m51, .ref m52, .ref m53, .ref m54, .int (nI gf), .ref m56, .ref m57, .ref m58, .ref m59]))) → (wd_at w87 m24 (.inl (cy 0, 300, .inl f24))) → (wd_at w87 m35 (.inl (cy 2, 5, .inl gd))) → (wd_at w87 m36 (.inl (cy 4, 5, .inl h36))) → (wd_at w87 m37 (.inl (cy 2, 5, .inl h37))) → (wd_kp S w w87) → ∀ (ls : Array Slot), lv_has ls 3 [(0, .ref y), (2, .int (nI k2))] → Wv p l e ({ frames := 6, cells := 0, slots := 0, locals := 130 }) s m args below meth c D A (0) (0) Q w87 (F0 m 160 ls []) := by
                      intro N
                      induction N with
                      | zero =>
                        intro k2 gd w87 hN160 k88 k89 k90 k91 k92 kp93 ls hl H locs hP hD hS
                        refine lv_iload_n hx hb dX11_law_160 rfl (lv_at hl 1 rfl) ?_
                        refine lv_iconst (v := 5) hx hb dX11_law_161 (by decide) ?_
                        refine lv_icmp_ge (tgt := 183) hx hb dX11_law_162 (by decide) (fun c_94 => ?_) (fun c_94 => absurd (nI_le (a := 5) (b := k2) (by omega) (by omega)) c_94)
                        refine lv_aload_n hx hb dX11_law_183 rfl (lv_at hl 0 rfl) ?_
                        refine x_get (ref := "NoteHouseModel") F hP k88 rfl (fun _ h => List.mem_cons_of_mem _ (List.mem_append_right _ (h))) 28 (Nat.le_of_ble_eq_true rfl) (List.mem_cons_of_mem _ (List.mem_append_left _ (List.mem_append_left _ (List.mem_of_getElem? (i := 3) rfl)))) rfl rfl dX11_law_184 ?_
                        exact y_ir K hP hD hS (Nat.le_of_ble_eq_true rfl) (Nat.le_of_ble_eq_true rfl) (ty := .int) rfl rfl dX11_law_187 (⟨nI a, nI b, nI fq, gd, h36, h37, nI fq, rfl, kp93, k88, k90, k91, k92⟩)
                      | succ N ih160 =>
                        intro k2 gd w87 hN160 k88 k89 k90 k91 k92 kp93 ls hl H locs hP hD hS
                        refine lv_iload_n hx hb dX11_law_160 rfl (lv_at hl 1 rfl) ?_
                        refine lv_iconst (v := 5) hx hb dX11_law_161 (by decide) ?_
                        refine lv_icmp_ge (tgt := 183) hx hb dX11_law_162 (by decide) (fun c_95 => absurd c_95 (nI_ge (a := k2) (b := 5) (by omega) (by omega))) (fun c_95 => ?_)
                        refine lv_aload_n hx hb dX11_law_165 rfl (lv_at hl 0 rfl) ?_
                        refine x_get (ref := "NoteHouseModel") F hP k88 rfl (fun _ h => List.mem_cons_of_mem _ (List.mem_append_right _ (h))) 35 (Nat.le_of_ble_eq_true rfl) (List.mem_cons_of_mem _ (List.mem_append_left _ (List.mem_append_left _ (List.mem_of_getElem? (i := 6) rfl)))) rfl rfl dX11_law_166 ?_
                        refine lv_iload_n hx hb dX11_law_169 rfl (lv_at hl 1 rfl) ?_
                        refine lv_aload_n hx hb dX11_law_170 rfl (lv_at hl 0 rfl) ?_
                        refine x_get (ref := "NoteHouseModel") F hP k88 rfl (fun _ h => List.mem_cons_of_mem _ (List.mem_append_right _ (h))) 37 (Nat.le_of_ble_eq_true rfl) (List.mem_cons_of_mem _ (List.mem_append_left _ (List.mem_append_left _ (List.mem_of_getElem? (i := 1) rfl)))) rfl rfl dX11_law_171 ?_
                        refine lv_iload_n hx hb dX11_law_174 rfl (lv_at hl 1 rfl) ?_
                        refine x_iald F hP k92 (vp_in_nI (n := k2) (N := 5) (by omega) (by decide)) dX11_law_175 ?_
                        refine y_iast F hP hD hS k90 (vp_in_nI (n := k2) (N := 5) (by omega) (by decide)) dX11_law_176 (fun w96 ew97 H locs hP hD hS => ?_)
                        have k98 := wd_at.pt ew97 k88 (tg_ne ty tm35 (by decide))
                        have k99 := wd_at.pt ew97 k89 (tg_ne tm24 tm35 (by decide))
                        have k100 : wd_at w96 m35 (.inl (cy 2, 5, .inl (upd gd (nI k2).toNatClampNeg (h37 (nI k2).toNatClampNeg)))) := wd_at.ps ew97 k90
                        have k101 := wd_at.pt ew97 k91 (tg_ne tm36 tm35 (by decide))
                        have k102 := wd_at.pt ew97 k92 (tg_ne tm37 tm35 (by decide))
                        have kp103 := kp93.put ew97 s91
                        refine lv_iinc (v := nI (k2 + 1)) (lv' := [(2, .int (nI (k2 + 1))), (0, .ref y)]) hx hb dX11_law_177 hl (k := 1) rfl (nI_1 k2) (by decide) rfl (fun ls hl => ?_)
                        refine lv_goto (tgt := 160) hx hb dX11_law_180 (by decide) ?_
                        exact ih160 (k2 + 1) (upd gd (nI k2).toNatClampNeg (h37 (nI k2).toNatClampNeg)) w96 (by omega)  k98 k99 k100 k101 k102 kp103 ls (lv_sub hl [1, 0] rfl) H locs hP hD hS
                    exact lp160 _ 0 f35 w78 (Nat.zero_add 5)  k80 k81 k82 k83 k84 kp85 ls (lv_sub hl [1, 0] rfl) H locs hP hD hS
                · have hf0 : fq = 0 := nI_z0 (by omega) c_77
                  refine lv_aload_n hx hb dX11_law_82 rfl (lv_at hl 0 rfl) ?_
                  refine x_callV (n := 0) (As := []) (rest := []) F hP hD hS (m_clause l D cy sk sv w43 tg y m2 m3 m4 m5 m6 m8 m9 m10 m11 m12 m13 m14 m17 m18 m19 m20 m21 m22 m23 m24 m29 m30 m31 m32 m33 m34 m35 m36 m37 m39 m40 m41 m42 m43 m44 m45 m46 m47 m48 m49 m51 m52 m53 m54 m56 m57 m58 m59 pc ac sc ln sh gf v0 td (nI b) v50 f24 h36 h37 a fq k44 k45 k47 k48 (fun b => b = y ∨ b = m36 ∨ b = m37) (Or.inl rfl) (Or.inr (Or.inl rfl)) (Or.inr (Or.inr rfl)) ty tm24 tm36 tm37 (by omega) (by omega) (by omega)) gX11_law_X11_clause rfl rfl (by decide +kernel) ⟨(Nat.le_of_ble_eq_true rfl), (Nat.le_of_ble_eq_true rfl)⟩ rfl hl.1 (Nat.le_of_ble_eq_true rfl) k44 rfl dX11_law_83 rfl ⟨(Nat.le_of_ble_eq_true rfl), (Nat.le_of_ble_eq_true rfl)⟩ (fun v105 w106 hp104 H locs hP hD hS => ?_)
                  obtain ⟨ax107, bx108, fvx109, gx110, gx111, rfl, hz112, hz113, hz114, kq118, k115, k116, k117⟩ := hp104
                  have k119 := kq118.2 _ _ k45 (orN (tg_ne tm24 ty (by decide)) (orN (tg_ne tm24 tm36 (by decide)) (tg_ne tm24 tm37 (by decide))))
                  have k120 := kq118.2 _ _ k46 (orN (tg_ne tm35 ty (by decide)) (orN (tg_ne tm35 tm36 (by decide)) (tg_ne tm35 tm37 (by decide))))
                  have kp121 := kp49.tr kq118 (fun b9 hm q9 => (fun q9 => Or.elim q9 (fun q9 => q9 ▸ s90) (fun q9 => Or.elim q9 (fun q9 => q9 ▸ s92) (fun q9 => q9 ▸ s93))) q9)
                  refine W.eq (g2 := F0 m 86 ls []) rfl (W.widen (k := 0) (n := 0) (Nat.le_of_ble_eq_true rfl) (Nat.le_of_ble_eq_true rfl) ?_)
                  refine lv_aload_n hx hb dX11_law_86 rfl (lv_at hl 0 rfl) ?_
                  refine x_get (ref := "NoteHouseModel") F hP k115 rfl (fun _ h => List.mem_cons_of_mem _ (List.mem_append_right _ (h))) 28 (Nat.le_of_ble_eq_true rfl) (List.mem_cons_of_mem _ (List.mem_append_left _ (List.mem_append_left _ (List.mem_of_getElem? (i := 3) rfl)))) rfl rfl dX11_law_87 ?_
                  refine lv_if_ne (tgt := 104) hx hb dX11_law_90 (by decide) (fun c_122 => ?_) (fun c_122 => ?_)
                  · have hfp : 0 < fvx109 := nI_nz (by omega) c_122
                    refine lv_iconst (v := 0) hx hb dX11_law_104 (by decide) ?_
                    refine lv_istore_n (lv' := [(1, .int 0), (0, .ref y)]) hx hb dX11_law_105 rfl hl (by decide) rfl (fun ls hl => ?_)
                    refine lv_iload_n hx hb dX11_law_106 rfl (lv_at hl 0 rfl) ?_
                    refine lv_if_eq (tgt := 71) hx hb dX11_law_107 (by decide) (fun c_123 => ?_) (fun c_123 => absurd (show (0 : Int32) = (0 : Int32) by decide) c_123)
                    exact ih71 0 ax107 bx108 fvx109 gx110 gx111 w106 (by omega) (by omega) (by omega) (by omega) k115 k119 k120 k116 k117 kp121 ls (lv_sub hl [1, 0] rfl) H locs hP hD hS
                  · have hf0 : fvx109 = 0 := nI_z0 (by omega) c_122
                    refine lv_aload_n hx hb dX11_law_93 rfl (lv_at hl 0 rfl) ?_
                    refine x_callV (n := 0) (As := []) (rest := []) F hP hD hS (m_isEnd l D cy sk sv w106 tg y m2 m3 m4 m5 m6 m8 m9 m10 m11 m12 m13 m14 m17 m18 m19 m20 m21 m22 m23 m24 m29 m30 m31 m32 m33 m34 m35 m36 m37 m39 m40 m41 m42 m43 m44 m45 m46 m47 m48 m49 m51 m52 m53 m54 m56 m57 m58 m59 pc ac sc ln sh gf v0 td (nI bx108) (nI fvx109) v50 f24 ax107 k115 k119 (fun b => b = y) rfl ty tm24 (by omega) (by omega)) gX11_law_X11_isEnd rfl rfl (by decide +kernel) ⟨(Nat.le_of_ble_eq_true rfl), (Nat.le_of_ble_eq_true rfl)⟩ rfl hl.1 (Nat.le_of_ble_eq_true rfl) k115 rfl dX11_law_94 rfl ⟨(Nat.le_of_ble_eq_true rfl), (Nat.le_of_ble_eq_true rfl)⟩ (fun v125 w126 hp124 H locs hP hD hS => ?_)
                    obtain ⟨ax127, rx128, rfl, hz129, hz130, hz131, hz132, kq134, k133⟩ := hp124
                    have k135 := kq134.2 _ _ k119 (tg_ne tm24 ty (by decide))
                    have k136 := kq134.2 _ _ k120 (tg_ne tm35 ty (by decide))
                    have k137 := kq134.2 _ _ k116 (tg_ne tm36 ty (by decide))
                    have k138 := kq134.2 _ _ k117 (tg_ne tm37 ty (by decide))
                    have kp139 := kp121.tr kq134 (fun b9 hm q9 => (fun q9 => q9 ▸ s90) q9)
                    refine W.eq (g2 := F0 m 97 ls [.int rx128]) rfl (W.widen (k := 0) (n := 0) (Nat.le_of_ble_eq_true rfl) (Nat.le_of_ble_eq_true rfl) ?_)
                    refine lv_if_ne (tgt := 104) hx hb dX11_law_97 (by decide) (fun c_140 => ?_) (fun c_140 => ?_)
                    · refine lv_iconst (v := 0) hx hb dX11_law_104 (by decide) ?_
                      refine lv_istore_n (lv' := [(1, .int 0), (0, .ref y)]) hx hb dX11_law_105 rfl hl (by decide) rfl (fun ls hl => ?_)
                      refine lv_iload_n hx hb dX11_law_106 rfl (lv_at hl 0 rfl) ?_
                      refine lv_if_eq (tgt := 71) hx hb dX11_law_107 (by decide) (fun c_141 => ?_) (fun c_141 => absurd (show (0 : Int32) = (0 : Int32) by decide) c_141)
                      exact ih71 0 ax127 ax127 fvx109 gx110 gx111 w126 (by omega) (by omega) (by omega) (by omega) k133 k135 k136 k137 k138 kp139 ls (lv_sub hl [1, 0] rfl) H locs hP hD hS
                    · have hne := hz132 c_140
                      refine lv_iconst (v := 1) hx hb dX11_law_100 (by decide) ?_
                      refine lv_goto (tgt := 105) hx hb dX11_law_101 (by decide) ?_
                      refine lv_istore_n (lv' := [(1, .int 1), (0, .ref y)]) hx hb dX11_law_105 rfl hl (by decide) rfl (fun ls hl => ?_)
                      refine lv_iload_n hx hb dX11_law_106 rfl (lv_at hl 0 rfl) ?_
                      refine lv_if_eq (tgt := 71) hx hb dX11_law_107 (by decide) (fun c_142 => absurd c_142 (show ¬ (1 : Int32) = (0 : Int32) by decide)) (fun c_142 => ?_)
                      refine lv_aload_n hx hb dX11_law_110 rfl (lv_at hl 1 rfl) ?_
                      refine x_get (ref := "NoteHouseModel") F hP k133 rfl (fun _ h => List.mem_cons_of_mem _ (List.mem_append_right _ (h))) 24 (Nat.le_of_ble_eq_true rfl) (List.mem_cons_of_mem _ (List.mem_append_left _ (List.mem_append_left _ (List.mem_of_getElem? (i := 5) rfl)))) rfl rfl dX11_law_111 ?_
                      refine lv_aload_n hx hb dX11_law_114 rfl (lv_at hl 1 rfl) ?_
                      refine x_get (ref := "NoteHouseModel") F hP k133 rfl (fun _ h => List.mem_cons_of_mem _ (List.mem_append_right _ (h))) 26 (Nat.le_of_ble_eq_true rfl) (List.mem_cons_of_mem _ (List.mem_append_left _ (List.mem_append_left _ (List.mem_of_getElem? (i := 2) rfl)))) rfl rfl dX11_law_115 ?_
                      refine x_bald F hP k135 (vp_in_nI (n := ax127) (N := 300) (by omega) (by decide)) dX11_law_118 ?_
                      refine lv_bipush (v := 59) hx hb dX11_law_119 (by decide) ?_
                      refine lv_icmp_eq (tgt := 133) hx hb dX11_law_121 (by decide) (fun c_143 => ?_) (fun c_143 => ?_)
                      · refine lv_aload_n hx hb dX11_law_133 rfl (lv_at hl 1 rfl) ?_
                        refine lv_dup hx hb dX11_law_134 rfl ?_
                        refine x_get (ref := "NoteHouseModel") F hP k133 rfl (fun _ h => List.mem_cons_of_mem _ (List.mem_append_right _ (h))) 26 (Nat.le_of_ble_eq_true rfl) (List.mem_cons_of_mem _ (List.mem_append_left _ (List.mem_append_left _ (List.mem_of_getElem? (i := 2) rfl)))) rfl rfl dX11_law_135 ?_
                        refine lv_iconst (v := 1) hx hb dX11_law_138 (by decide) ?_
                        refine lv_iadd hx hb dX11_law_139 ?_
                        rw [show ((nI ax127) + 1 : Int32) = nI (ax127 + 1) from nI_add ax127 1]
                        refine y_put (ref := "NoteHouseModel") F hP hD hS k133 rfl (fun _ h => List.mem_cons_of_mem _ (List.mem_append_right _ (h))) tyX11_ok nmX11 26 (Nat.le_of_ble_eq_true rfl) (List.mem_cons_of_mem _ (List.mem_append_left _ (List.mem_append_left _ (List.mem_of_getElem? (i := 2) rfl)))) rfl rfl rfl rfl (Nat.le_of_ble_eq_true rfl) dX11_law_140 (fun w144 ew145 H locs hP hD hS => ?_)
                        have k146 : wd_at w144 y (.inr (11, [.int v0, .int td, .ref m2, .ref m3, .ref m4, .ref m5, .ref m6, .int (nI pc), .ref m8, .ref m9, .ref m10, .ref m11, .ref m12, .ref m13, .ref m14, .int (nI ac), .int (nI sc), .ref m17, .ref m18, .ref m19, .ref m20, .ref m21, .ref m22, .ref m23, .ref m24, .int (nI ln), .int (nI (ax127 + 1)), .int (nI ax127), .int (nI fvx109), .ref m29, .ref m30, .ref m31, .ref m32, .ref m33, .ref m34, .ref m35, .ref m36, .ref m37, .int (nI sh), .ref m39, .ref m40, .ref m41, .ref m42, .ref m43, .ref m44, .ref m45, .ref m46, .ref m47, .ref m48, .ref m49, .int v50, .ref m51, .ref m52, .ref m53, .ref m54, .int (nI gf), .ref m56, .ref m57, .ref m58, .ref m59])) := wd_at.ps ew145 k133
                        have k147 := wd_at.pt ew145 k135 (tg_ne tm24 ty (by decide))
                        have k148 := wd_at.pt ew145 k136 (tg_ne tm35 ty (by decide))
                        have k149 := wd_at.pt ew145 k137 (tg_ne tm36 ty (by decide))
                        have k150 := wd_at.pt ew145 k138 (tg_ne tm37 ty (by decide))
                        have kp151 := kp139.put ew145 s90
                        refine lv_goto (tgt := 71) hx hb dX11_law_143 (by decide) ?_
                        exact ih71 1 (ax127 + 1) ax127 fvx109 gx110 gx111 w144 (by omega) (by omega) (by omega) (by omega) k146 k147 k148 k149 k150 kp151 ls (lv_sub hl [1, 0] rfl) H locs hP hD hS
                      · refine lv_aload_n hx hb dX11_law_124 rfl (lv_at hl 1 rfl) ?_
                        refine lv_iconst (v := 0) hx hb dX11_law_125 (by decide) ?_
                        refine lv_aload_n hx hb dX11_law_126 rfl (lv_at hl 1 rfl) ?_
                        refine x_get (ref := "NoteHouseModel") F hP k133 rfl (fun _ h => List.mem_cons_of_mem _ (List.mem_append_right _ (h))) 26 (Nat.le_of_ble_eq_true rfl) (List.mem_cons_of_mem _ (List.mem_append_left _ (List.mem_append_left _ (List.mem_of_getElem? (i := 2) rfl)))) rfl rfl dX11_law_127 ?_
                        refine x_callV (n := 2) (As := [.int 0, .int (nI ax127)]) (rest := []) F hP hD hS (m_fails l D cy sk sv w126 tg y m2 m3 m4 m5 m6 m8 m9 m10 m11 m12 m13 m14 m17 m18 m19 m20 m21 m22 m23 m24 m29 m30 m31 m32 m33 m34 m35 m36 m37 m39 m40 m41 m42 m43 m44 m45 m46 m47 m48 m49 m51 m52 m53 m54 m56 m57 m58 m59 pc ac sc ln sh gf v0 td (nI ax127) (nI ax127) v50 fvx109 0 ax127 k133 (fun b => b = y) rfl ty (by omega) (by omega) (by omega)) gX11_law_X11_fails rfl rfl (by decide +kernel) ⟨(Nat.le_of_ble_eq_true rfl), (Nat.le_of_ble_eq_true rfl)⟩ rfl hl.1 (Nat.le_of_ble_eq_true rfl) k133 rfl dX11_law_130 rfl ⟨(Nat.le_of_ble_eq_true rfl), (Nat.le_of_ble_eq_true rfl)⟩ (fun v153 w154 hp152 H locs hP hD hS => ?_)
                        obtain ⟨fwx155, rfl, hz156, hz157, kq159, k158⟩ := hp152
                        have k160 := kq159.2 _ _ k135 (tg_ne tm24 ty (by decide))
                        have k161 := kq159.2 _ _ k136 (tg_ne tm35 ty (by decide))
                        have k162 := kq159.2 _ _ k137 (tg_ne tm36 ty (by decide))
                        have k163 := kq159.2 _ _ k138 (tg_ne tm37 ty (by decide))
                        have kp164 := kp139.tr kq159 (fun b9 hm q9 => (fun q9 => q9 ▸ s90) q9)
                        refine W.eq (g2 := F0 m 133 ls []) rfl (W.widen (k := 0) (n := 0) (Nat.le_of_ble_eq_true rfl) (Nat.le_of_ble_eq_true rfl) ?_)
                        refine lv_aload_n hx hb dX11_law_133 rfl (lv_at hl 1 rfl) ?_
                        refine lv_dup hx hb dX11_law_134 rfl ?_
                        refine x_get (ref := "NoteHouseModel") F hP k158 rfl (fun _ h => List.mem_cons_of_mem _ (List.mem_append_right _ (h))) 26 (Nat.le_of_ble_eq_true rfl) (List.mem_cons_of_mem _ (List.mem_append_left _ (List.mem_append_left _ (List.mem_of_getElem? (i := 2) rfl)))) rfl rfl dX11_law_135 ?_
                        refine lv_iconst (v := 1) hx hb dX11_law_138 (by decide) ?_
                        refine lv_iadd hx hb dX11_law_139 ?_
                        rw [show ((nI ax127) + 1 : Int32) = nI (ax127 + 1) from nI_add ax127 1]
                        refine y_put (ref := "NoteHouseModel") F hP hD hS k158 rfl (fun _ h => List.mem_cons_of_mem _ (List.mem_append_right _ (h))) tyX11_ok nmX11 26 (Nat.le_of_ble_eq_true rfl) (List.mem_cons_of_mem _ (List.mem_append_left _ (List.mem_append_left _ (List.mem_of_getElem? (i := 2) rfl)))) rfl rfl rfl rfl (Nat.le_of_ble_eq_true rfl) dX11_law_140 (fun w165 ew166 H locs hP hD hS => ?_)
                        have k167 : wd_at w165 y (.inr (11, [.int v0, .int td, .ref m2, .ref m3, .ref m4, .ref m5, .ref m6, .int (nI pc), .ref m8, .ref m9, .ref m10, .ref m11, .ref m12, .ref m13, .ref m14, .int (nI ac), .int (nI sc), .ref m17, .ref m18, .ref m19, .ref m20, .ref m21, .ref m22, .ref m23, .ref m24, .int (nI ln), .int (nI (ax127 + 1)), .int (nI ax127), .int (nI fwx155), .ref m29, .ref m30, .ref m31, .ref m32, .ref m33, .ref m34, .ref m35, .ref m36, .ref m37, .int (nI sh), .ref m39, .ref m40, .ref m41, .ref m42, .ref m43, .ref m44, .ref m45, .ref m46, .ref m47, .ref m48, .ref m49, .int v50, .ref m51, .ref m52, .ref m53, .ref m54, .int (nI gf), .ref m56, .ref m57, .ref m58, .ref m59])) := wd_at.ps ew166 k158
                        have k168 := wd_at.pt ew166 k160 (tg_ne tm24 ty (by decide))
                        have k169 := wd_at.pt ew166 k161 (tg_ne tm35 ty (by decide))
                        have k170 := wd_at.pt ew166 k162 (tg_ne tm36 ty (by decide))
                        have k171 := wd_at.pt ew166 k163 (tg_ne tm37 ty (by decide))
                        have kp172 := kp164.put ew166 s90
                        refine lv_goto (tgt := 71) hx hb dX11_law_143 (by decide) ?_
                        exact ih71 1 (ax127 + 1) ax127 fwx155 gx110 gx111 w165 (by omega) (by omega) (by omega) (by omega) k167 k168 k169 k170 k171 kp172 ls (lv_sub hl [1, 0] rfl) H locs hP hD hS
          exact lp71 (2 * ln + 2) 0 ax29 ax29 0 ga gb w28 (by omega) (by omega) (by omega) (by omega) k35 k37 k38 k39 k40 kp41 ls (lv_sub hl [1, 0] rfl) H locs hP hD hS
        · refine lv_iconst (v := 1) hx hb dX11_law_65 (by decide) ?_
          refine lv_goto (tgt := 70) hx hb dX11_law_66 (by decide) ?_
          refine lv_istore_n (lv' := [(1, .int 1), (0, .ref y)]) hx hb dX11_law_70 rfl hl (by decide) rfl (fun ls hl => ?_)
          have lp71 : ∀ (N : Nat) (on : Nat) (a : Nat) (b : Nat) (fq : Nat) (h36 : Nat → Int32) (h37 : Nat → Int32) (w173 : Wd), (2 * ln + on + 1 ≤ 2 * a + N) → (a ≤ ln) → (fq < 2000) → (on ≤ 1) → (wd_at w173 y (.inr (11, [.int v0, .int td, .ref m2, .ref m3, .ref m4, .ref m5, .ref m6, .int (nI pc), .ref m8, .ref m9, .ref m10, .ref m11, .ref m12, .ref m13, .ref m14, .int (nI ac), .int (nI sc), .ref m17, .ref m18, .ref m19, .ref m20, .ref m21, .ref m22, .ref m23, .ref m24, .int (nI ln), .int (nI a), .int (nI b), .int (nI fq), .ref m29, .ref m30, .ref m31, .ref m32, .ref m33, .ref m34, .ref m35, .ref m36, .ref m37, .int (nI sh), .ref m39, .ref m40, .ref m41, .ref m42, .ref m43, .ref m44, .ref m45, .ref m46, .ref m47, .ref m48, .ref m49, .int v50, .ref m51, .ref m52, .ref m53, .ref m54, .int (nI gf), .ref m56, .ref m57, .ref m58, .ref m59]))) → (wd_at w173 m24 (.inl (cy 0, 300, .inl f24))) → (wd_at w173 m35 (.inl (cy 2, 5, .inl f35))) → (wd_at w173 m36 (.inl (cy 4, 5, .inl h36))) → (wd_at w173 m37 (.inl (cy 2, 5, .inl h37))) → (wd_kp S w w173) → ∀ (ls : Array Slot), lv_has ls 3 [(0, .ref y), (1, .int (nI on))] → Wv p l e ({ frames := 6, cells := 0, slots := 0, locals := 130 }) s m args below meth c D A (0) (0) Q w173 (F0 m 71 ls []) := by
            intro N
            induction N with
            | zero =>
              intro on a b fq h36 h37 w173 hN71 ha2 hfq hon k174 k175 k176 k177 k178 kp179 ls hl H locs hP hD hS
              exact absurd hN71 (by omega)
            | succ N ih71 =>
              intro on a b fq h36 h37 w173 hN71 ha2 hfq hon k174 k175 k176 k177 k178 kp179 ls hl H locs hP hD hS
              refine lv_iload_n hx hb dX11_law_71 rfl (lv_at hl 1 rfl) ?_
              refine lv_if_eq (tgt := 146) hx hb dX11_law_72 (by decide) (fun c_180 => ?_) (fun c_180 => ?_)
              · refine lv_aload_n hx hb dX11_law_146 rfl (lv_at hl 0 rfl) ?_
                refine lv_iconst (v := 0) hx hb dX11_law_147 (by decide) ?_
                refine y_put (ref := "NoteHouseModel") F hP hD hS k174 rfl (fun _ h => List.mem_cons_of_mem _ (List.mem_append_right _ (h))) tyX11_ok nmX11 25 (Nat.le_of_ble_eq_true rfl) (List.mem_cons_of_mem _ (List.mem_append_left _ (List.mem_append_left _ (List.mem_of_getElem? (i := 4) rfl)))) rfl rfl rfl rfl (Nat.le_of_ble_eq_true rfl) dX11_law_148 (fun w181 ew182 H locs hP hD hS => ?_)
                have k183 : wd_at w181 y (.inr (11, [.int v0, .int td, .ref m2, .ref m3, .ref m4, .ref m5, .ref m6, .int (nI pc), .ref m8, .ref m9, .ref m10, .ref m11, .ref m12, .ref m13, .ref m14, .int (nI ac), .int (nI sc), .ref m17, .ref m18, .ref m19, .ref m20, .ref m21, .ref m22, .ref m23, .ref m24, .int 0, .int (nI a), .int (nI b), .int (nI fq), .ref m29, .ref m30, .ref m31, .ref m32, .ref m33, .ref m34, .ref m35, .ref m36, .ref m37, .int (nI sh), .ref m39, .ref m40, .ref m41, .ref m42, .ref m43, .ref m44, .ref m45, .ref m46, .ref m47, .ref m48, .ref m49, .int v50, .ref m51, .ref m52, .ref m53, .ref m54, .int (nI gf), .ref m56, .ref m57, .ref m58, .ref m59])) := wd_at.ps ew182 k174
                have k184 := wd_at.pt ew182 k175 (tg_ne tm24 ty (by decide))
                have k185 := wd_at.pt ew182 k176 (tg_ne tm35 ty (by decide))
                have k186 := wd_at.pt ew182 k177 (tg_ne tm36 ty (by decide))
                have k187 := wd_at.pt ew182 k178 (tg_ne tm37 ty (by decide))
                have kp188 := kp179.put ew182 s90
                refine lv_aload_n hx hb dX11_law_151 rfl (lv_at hl 0 rfl) ?_
                refine x_get (ref := "NoteHouseModel") F hP k183 rfl (fun _ h => List.mem_cons_of_mem _ (List.mem_append_right _ (h))) 28 (Nat.le_of_ble_eq_true rfl) (List.mem_cons_of_mem _ (List.mem_append_left _ (List.mem_append_left _ (List.mem_of_getElem? (i := 3) rfl)))) rfl rfl dX11_law_152 ?_
                refine lv_if_ne (tgt := 183) hx hb dX11_law_155 (by decide) (fun c_189 => ?_) (fun c_189 => ?_)
                · have hfp : 0 < fq := nI_nz (by omega) c_189
                  refine lv_aload_n hx hb dX11_law_183 rfl (lv_at hl 0 rfl) ?_
                  refine x_get (ref := "NoteHouseModel") F hP k183 rfl (fun _ h => List.mem_cons_of_mem _ (List.mem_append_right _ (h))) 28 (Nat.le_of_ble_eq_true rfl) (List.mem_cons_of_mem _ (List.mem_append_left _ (List.mem_append_left _ (List.mem_of_getElem? (i := 3) rfl)))) rfl rfl dX11_law_184 ?_
                  exact y_ir K hP hD hS (Nat.le_of_ble_eq_true rfl) (Nat.le_of_ble_eq_true rfl) (ty := .int) rfl rfl dX11_law_187 (⟨nI a, nI b, nI fq, f35, h36, h37, nI fq, rfl, kp188, k183, k185, k186, k187⟩)
                · have hf0 : fq = 0 := nI_z0 (by omega) c_189
                  refine lv_iconst (v := 0) hx hb dX11_law_158 (by decide) ?_
                  refine lv_istore_n (lv' := [(2, .int 0), (0, .ref y), (1, .int (nI on))]) hx hb dX11_law_159 rfl hl (by decide) rfl (fun ls hl => ?_)
                  have lp160 : ∀ (N : Nat) (k2 : Nat) (gd : Nat → Int32) (w190 : Wd), (k2 + N = 5) → (wd_at w190 y (.inr (11, [.int v0, .int td, .ref m2, .ref m3, .ref m4, .ref m5, .ref m6, .int (nI pc), .ref m8, .ref m9, .ref m10, .ref m11, .ref m12, .ref m13, .ref m14, .int (nI ac), .int (nI sc), .ref m17, .ref m18, .ref m19, .ref m20, .ref m21, .ref m22, .ref m23, .ref m24, .int 0, .int (nI a), .int (nI b), .int (nI fq), .ref m29, .ref m30, .ref m31, .ref m32, .ref m33, .ref m34, .ref m35, .ref m36, .ref m37, .int (nI sh), .ref m39, .ref m40, .ref m41, .ref m42, .ref m43, .ref m44, .ref m45, .ref m46, .ref m47, .ref m48, .ref m49, .int v50, .ref m51, .ref m52, .ref m53, .ref m54, .int (nI gf), .ref m56, .ref m57, .ref m58, .ref m59]))) → (wd_at w190 m24 (.inl (cy 0, 300, .inl f24))) → (wd_at w190 m35 (.inl (cy 2, 5, .inl gd))) → (wd_at w190 m36 (.inl (cy 4, 5, .inl h36))) → (wd_at w190 m37 (.inl (cy 2, 5, .inl h37))) → (wd_kp S w w190) → ∀ (ls : Array Slot), lv_has ls 3 [(0, .ref y), (2, .int (nI k2))] → Wv p l e ({ frames := 6, cells := 0, slots := 0, locals := 130 }) s m args below meth c D A (0) (0) Q w190 (F0 m 160 ls []) := by
                    intro N
                    induction N with
                    | zero =>
                      intro k2 gd w190 hN160 k191 k192 k193 k194 k195 kp196 ls hl H locs hP hD hS
                      refine lv_iload_n hx hb dX11_law_160 rfl (lv_at hl 1 rfl) ?_
                      refine lv_iconst (v := 5) hx hb dX11_law_161 (by decide) ?_
                      refine lv_icmp_ge (tgt := 183) hx hb dX11_law_162 (by decide) (fun c_197 => ?_) (fun c_197 => absurd (nI_le (a := 5) (b := k2) (by omega) (by omega)) c_197)
                      refine lv_aload_n hx hb dX11_law_183 rfl (lv_at hl 0 rfl) ?_
                      refine x_get (ref := "NoteHouseModel") F hP k191 rfl (fun _ h => List.mem_cons_of_mem _ (List.mem_append_right _ (h))) 28 (Nat.le_of_ble_eq_true rfl) (List.mem_cons_of_mem _ (List.mem_append_left _ (List.mem_append_left _ (List.mem_of_getElem? (i := 3) rfl)))) rfl rfl dX11_law_184 ?_
                      exact y_ir K hP hD hS (Nat.le_of_ble_eq_true rfl) (Nat.le_of_ble_eq_true rfl) (ty := .int) rfl rfl dX11_law_187 (⟨nI a, nI b, nI fq, gd, h36, h37, nI fq, rfl, kp196, k191, k193, k194, k195⟩)
                    | succ N ih160 =>
                      intro k2 gd w190 hN160 k191 k192 k193 k194 k195 kp196 ls hl H locs hP hD hS
                      refine lv_iload_n hx hb dX11_law_160 rfl (lv_at hl 1 rfl) ?_
                      refine lv_iconst (v := 5) hx hb dX11_law_161 (by decide) ?_
                      refine lv_icmp_ge (tgt := 183) hx hb dX11_law_162 (by decide) (fun c_198 => absurd c_198 (nI_ge (a := k2) (b := 5) (by omega) (by omega))) (fun c_198 => ?_)
                      refine lv_aload_n hx hb dX11_law_165 rfl (lv_at hl 0 rfl) ?_
                      refine x_get (ref := "NoteHouseModel") F hP k191 rfl (fun _ h => List.mem_cons_of_mem _ (List.mem_append_right _ (h))) 35 (Nat.le_of_ble_eq_true rfl) (List.mem_cons_of_mem _ (List.mem_append_left _ (List.mem_append_left _ (List.mem_of_getElem? (i := 6) rfl)))) rfl rfl dX11_law_166 ?_
                      refine lv_iload_n hx hb dX11_law_169 rfl (lv_at hl 1 rfl) ?_
                      refine lv_aload_n hx hb dX11_law_170 rfl (lv_at hl 0 rfl) ?_
                      refine x_get (ref := "NoteHouseModel") F hP k191 rfl (fun _ h => List.mem_cons_of_mem _ (List.mem_append_right _ (h))) 37 (Nat.le_of_ble_eq_true rfl) (List.mem_cons_of_mem _ (List.mem_append_left _ (List.mem_append_left _ (List.mem_of_getElem? (i := 1) rfl)))) rfl rfl dX11_law_171 ?_
                      refine lv_iload_n hx hb dX11_law_174 rfl (lv_at hl 1 rfl) ?_
                      refine x_iald F hP k195 (vp_in_nI (n := k2) (N := 5) (by omega) (by decide)) dX11_law_175 ?_
                      refine y_iast F hP hD hS k193 (vp_in_nI (n := k2) (N := 5) (by omega) (by decide)) dX11_law_176 (fun w199 ew200 H locs hP hD hS => ?_)
                      have k201 := wd_at.pt ew200 k191 (tg_ne ty tm35 (by decide))
                      have k202 := wd_at.pt ew200 k192 (tg_ne tm24 tm35 (by decide))
                      have k203 : wd_at w199 m35 (.inl (cy 2, 5, .inl (upd gd (nI k2).toNatClampNeg (h37 (nI k2).toNatClampNeg)))) := wd_at.ps ew200 k193
                      have k204 := wd_at.pt ew200 k194 (tg_ne tm36 tm35 (by decide))
                      have k205 := wd_at.pt ew200 k195 (tg_ne tm37 tm35 (by decide))
                      have kp206 := kp196.put ew200 s91
                      refine lv_iinc (v := nI (k2 + 1)) (lv' := [(2, .int (nI (k2 + 1))), (0, .ref y)]) hx hb dX11_law_177 hl (k := 1) rfl (nI_1 k2) (by decide) rfl (fun ls hl => ?_)
                      refine lv_goto (tgt := 160) hx hb dX11_law_180 (by decide) ?_
                      exact ih160 (k2 + 1) (upd gd (nI k2).toNatClampNeg (h37 (nI k2).toNatClampNeg)) w199 (by omega)  k201 k202 k203 k204 k205 kp206 ls (lv_sub hl [1, 0] rfl) H locs hP hD hS
                  exact lp160 _ 0 f35 w181 (Nat.zero_add 5)  k183 k184 k185 k186 k187 kp188 ls (lv_sub hl [1, 0] rfl) H locs hP hD hS
              · have hon1 : 0 < on := nI_nz (by omega) c_180
                refine lv_aload_n hx hb dX11_law_75 rfl (lv_at hl 0 rfl) ?_
                refine x_get (ref := "NoteHouseModel") F hP k174 rfl (fun _ h => List.mem_cons_of_mem _ (List.mem_append_right _ (h))) 28 (Nat.le_of_ble_eq_true rfl) (List.mem_cons_of_mem _ (List.mem_append_left _ (List.mem_append_left _ (List.mem_of_getElem? (i := 3) rfl)))) rfl rfl dX11_law_76 ?_
                refine lv_if_ne (tgt := 146) hx hb dX11_law_79 (by decide) (fun c_207 => ?_) (fun c_207 => ?_)
                · have hfp : 0 < fq := nI_nz (by omega) c_207
                  refine lv_aload_n hx hb dX11_law_146 rfl (lv_at hl 0 rfl) ?_
                  refine lv_iconst (v := 0) hx hb dX11_law_147 (by decide) ?_
                  refine y_put (ref := "NoteHouseModel") F hP hD hS k174 rfl (fun _ h => List.mem_cons_of_mem _ (List.mem_append_right _ (h))) tyX11_ok nmX11 25 (Nat.le_of_ble_eq_true rfl) (List.mem_cons_of_mem _ (List.mem_append_left _ (List.mem_append_left _ (List.mem_of_getElem? (i := 4) rfl)))) rfl rfl rfl rfl (Nat.le_of_ble_eq_true rfl) dX11_law_148 (fun w208 ew209 H locs hP hD hS => ?_)
                  have k210 : wd_at w208 y (.inr (11, [.int v0, .int td, .ref m2, .ref m3, .ref m4, .ref m5, .ref m6, .int (nI pc), .ref m8, .ref m9, .ref m10, .ref m11, .ref m12, .ref m13, .ref m14, .int (nI ac), .int (nI sc), .ref m17, .ref m18, .ref m19, .ref m20, .ref m21, .ref m22, .ref m23, .ref m24, .int 0, .int (nI a), .int (nI b), .int (nI fq), .ref m29, .ref m30, .ref m31, .ref m32, .ref m33, .ref m34, .ref m35, .ref m36, .ref m37, .int (nI sh), .ref m39, .ref m40, .ref m41, .ref m42, .ref m43, .ref m44, .ref m45, .ref m46, .ref m47, .ref m48, .ref m49, .int v50, .ref m51, .ref m52, .ref m53, .ref m54, .int (nI gf), .ref m56, .ref m57, .ref m58, .ref m59])) := wd_at.ps ew209 k174
                  have k211 := wd_at.pt ew209 k175 (tg_ne tm24 ty (by decide))
                  have k212 := wd_at.pt ew209 k176 (tg_ne tm35 ty (by decide))
                  have k213 := wd_at.pt ew209 k177 (tg_ne tm36 ty (by decide))
                  have k214 := wd_at.pt ew209 k178 (tg_ne tm37 ty (by decide))
                  have kp215 := kp179.put ew209 s90
                  refine lv_aload_n hx hb dX11_law_151 rfl (lv_at hl 0 rfl) ?_
                  refine x_get (ref := "NoteHouseModel") F hP k210 rfl (fun _ h => List.mem_cons_of_mem _ (List.mem_append_right _ (h))) 28 (Nat.le_of_ble_eq_true rfl) (List.mem_cons_of_mem _ (List.mem_append_left _ (List.mem_append_left _ (List.mem_of_getElem? (i := 3) rfl)))) rfl rfl dX11_law_152 ?_
                  refine lv_if_ne (tgt := 183) hx hb dX11_law_155 (by decide) (fun c_216 => ?_) (fun c_216 => ?_)
                  · have hfp : 0 < fq := nI_nz (by omega) c_216
                    refine lv_aload_n hx hb dX11_law_183 rfl (lv_at hl 0 rfl) ?_
                    refine x_get (ref := "NoteHouseModel") F hP k210 rfl (fun _ h => List.mem_cons_of_mem _ (List.mem_append_right _ (h))) 28 (Nat.le_of_ble_eq_true rfl) (List.mem_cons_of_mem _ (List.mem_append_left _ (List.mem_append_left _ (List.mem_of_getElem? (i := 3) rfl)))) rfl rfl dX11_law_184 ?_
                    exact y_ir K hP hD hS (Nat.le_of_ble_eq_true rfl) (Nat.le_of_ble_eq_true rfl) (ty := .int) rfl rfl dX11_law_187 (⟨nI a, nI b, nI fq, f35, h36, h37, nI fq, rfl, kp215, k210, k212, k213, k214⟩)
                  · have hf0 : fq = 0 := nI_z0 (by omega) c_216
                    refine lv_iconst (v := 0) hx hb dX11_law_158 (by decide) ?_
                    refine lv_istore_n (lv' := [(2, .int 0), (0, .ref y), (1, .int (nI on))]) hx hb dX11_law_159 rfl hl (by decide) rfl (fun ls hl => ?_)
                    have lp160 : ∀ (N : Nat) (k2 : Nat) (gd : Nat → Int32) (w217 : Wd), (k2 + N = 5) → (wd_at w217 y (.inr (11, [.int v0, .int td, .ref m2, .ref m3, .ref m4, .ref m5, .ref m6, .int (nI pc), .ref m8, .ref m9, .ref m10, .ref m11, .ref m12, .ref m13, .ref m14, .int (nI ac), .int (nI sc), .ref m17, .ref m18, .ref m19, .ref m20, .ref m21, .ref m22, .ref m23, .ref m24, .int 0, .int (nI a), .int (nI b), .int (nI fq), .ref m29, .ref m30, .ref m31, .ref m32, .ref m33, .ref m34, .ref m35, .ref m36, .ref m37, .int (nI sh), .ref m39, .ref m40, .ref m41, .ref m42, .ref m43, .ref m44, .ref m45, .ref m46, .ref m47, .ref m48, .ref m49, .int v50, .ref m51, .ref m52, .ref m53, .ref m54, .int (nI gf), .ref m56, .ref m57, .ref m58, .ref m59]))) → (wd_at w217 m24 (.inl (cy 0, 300, .inl f24))) → (wd_at w217 m35 (.inl (cy 2, 5, .inl gd))) → (wd_at w217 m36 (.inl (cy 4, 5, .inl h36))) → (wd_at w217 m37 (.inl (cy 2, 5, .inl h37))) → (wd_kp S w w217) → ∀ (ls : Array Slot), lv_has ls 3 [(0, .ref y), (2, .int (nI k2))] → Wv p l e ({ frames := 6, cells := 0, slots := 0, locals := 130 }) s m args below meth c D A (0) (0) Q w217 (F0 m 160 ls []) := by
                      intro N
                      induction N with
                      | zero =>
                        intro k2 gd w217 hN160 k218 k219 k220 k221 k222 kp223 ls hl H locs hP hD hS
                        refine lv_iload_n hx hb dX11_law_160 rfl (lv_at hl 1 rfl) ?_
                        refine lv_iconst (v := 5) hx hb dX11_law_161 (by decide) ?_
                        refine lv_icmp_ge (tgt := 183) hx hb dX11_law_162 (by decide) (fun c_224 => ?_) (fun c_224 => absurd (nI_le (a := 5) (b := k2) (by omega) (by omega)) c_224)
                        refine lv_aload_n hx hb dX11_law_183 rfl (lv_at hl 0 rfl) ?_
                        refine x_get (ref := "NoteHouseModel") F hP k218 rfl (fun _ h => List.mem_cons_of_mem _ (List.mem_append_right _ (h))) 28 (Nat.le_of_ble_eq_true rfl) (List.mem_cons_of_mem _ (List.mem_append_left _ (List.mem_append_left _ (List.mem_of_getElem? (i := 3) rfl)))) rfl rfl dX11_law_184 ?_
                        exact y_ir K hP hD hS (Nat.le_of_ble_eq_true rfl) (Nat.le_of_ble_eq_true rfl) (ty := .int) rfl rfl dX11_law_187 (⟨nI a, nI b, nI fq, gd, h36, h37, nI fq, rfl, kp223, k218, k220, k221, k222⟩)
                      | succ N ih160 =>
                        intro k2 gd w217 hN160 k218 k219 k220 k221 k222 kp223 ls hl H locs hP hD hS
                        refine lv_iload_n hx hb dX11_law_160 rfl (lv_at hl 1 rfl) ?_
                        refine lv_iconst (v := 5) hx hb dX11_law_161 (by decide) ?_
                        refine lv_icmp_ge (tgt := 183) hx hb dX11_law_162 (by decide) (fun c_225 => absurd c_225 (nI_ge (a := k2) (b := 5) (by omega) (by omega))) (fun c_225 => ?_)
                        refine lv_aload_n hx hb dX11_law_165 rfl (lv_at hl 0 rfl) ?_
                        refine x_get (ref := "NoteHouseModel") F hP k218 rfl (fun _ h => List.mem_cons_of_mem _ (List.mem_append_right _ (h))) 35 (Nat.le_of_ble_eq_true rfl) (List.mem_cons_of_mem _ (List.mem_append_left _ (List.mem_append_left _ (List.mem_of_getElem? (i := 6) rfl)))) rfl rfl dX11_law_166 ?_
                        refine lv_iload_n hx hb dX11_law_169 rfl (lv_at hl 1 rfl) ?_
                        refine lv_aload_n hx hb dX11_law_170 rfl (lv_at hl 0 rfl) ?_
                        refine x_get (ref := "NoteHouseModel") F hP k218 rfl (fun _ h => List.mem_cons_of_mem _ (List.mem_append_right _ (h))) 37 (Nat.le_of_ble_eq_true rfl) (List.mem_cons_of_mem _ (List.mem_append_left _ (List.mem_append_left _ (List.mem_of_getElem? (i := 1) rfl)))) rfl rfl dX11_law_171 ?_
                        refine lv_iload_n hx hb dX11_law_174 rfl (lv_at hl 1 rfl) ?_
                        refine x_iald F hP k222 (vp_in_nI (n := k2) (N := 5) (by omega) (by decide)) dX11_law_175 ?_
                        refine y_iast F hP hD hS k220 (vp_in_nI (n := k2) (N := 5) (by omega) (by decide)) dX11_law_176 (fun w226 ew227 H locs hP hD hS => ?_)
                        have k228 := wd_at.pt ew227 k218 (tg_ne ty tm35 (by decide))
                        have k229 := wd_at.pt ew227 k219 (tg_ne tm24 tm35 (by decide))
                        have k230 : wd_at w226 m35 (.inl (cy 2, 5, .inl (upd gd (nI k2).toNatClampNeg (h37 (nI k2).toNatClampNeg)))) := wd_at.ps ew227 k220
                        have k231 := wd_at.pt ew227 k221 (tg_ne tm36 tm35 (by decide))
                        have k232 := wd_at.pt ew227 k222 (tg_ne tm37 tm35 (by decide))
                        have kp233 := kp223.put ew227 s91
                        refine lv_iinc (v := nI (k2 + 1)) (lv' := [(2, .int (nI (k2 + 1))), (0, .ref y)]) hx hb dX11_law_177 hl (k := 1) rfl (nI_1 k2) (by decide) rfl (fun ls hl => ?_)
                        refine lv_goto (tgt := 160) hx hb dX11_law_180 (by decide) ?_
                        exact ih160 (k2 + 1) (upd gd (nI k2).toNatClampNeg (h37 (nI k2).toNatClampNeg)) w226 (by omega)  k228 k229 k230 k231 k232 kp233 ls (lv_sub hl [1, 0] rfl) H locs hP hD hS
                    exact lp160 _ 0 f35 w208 (Nat.zero_add 5)  k210 k211 k212 k213 k214 kp215 ls (lv_sub hl [1, 0] rfl) H locs hP hD hS
                · have hf0 : fq = 0 := nI_z0 (by omega) c_207
                  refine lv_aload_n hx hb dX11_law_82 rfl (lv_at hl 0 rfl) ?_
                  refine x_callV (n := 0) (As := []) (rest := []) F hP hD hS (m_clause l D cy sk sv w173 tg y m2 m3 m4 m5 m6 m8 m9 m10 m11 m12 m13 m14 m17 m18 m19 m20 m21 m22 m23 m24 m29 m30 m31 m32 m33 m34 m35 m36 m37 m39 m40 m41 m42 m43 m44 m45 m46 m47 m48 m49 m51 m52 m53 m54 m56 m57 m58 m59 pc ac sc ln sh gf v0 td (nI b) v50 f24 h36 h37 a fq k174 k175 k177 k178 (fun b => b = y ∨ b = m36 ∨ b = m37) (Or.inl rfl) (Or.inr (Or.inl rfl)) (Or.inr (Or.inr rfl)) ty tm24 tm36 tm37 (by omega) (by omega) (by omega)) gX11_law_X11_clause rfl rfl (by decide +kernel) ⟨(Nat.le_of_ble_eq_true rfl), (Nat.le_of_ble_eq_true rfl)⟩ rfl hl.1 (Nat.le_of_ble_eq_true rfl) k174 rfl dX11_law_83 rfl ⟨(Nat.le_of_ble_eq_true rfl), (Nat.le_of_ble_eq_true rfl)⟩ (fun v235 w236 hp234 H locs hP hD hS => ?_)
                  obtain ⟨ax237, bx238, fvx239, gx240, gx241, rfl, hz242, hz243, hz244, kq248, k245, k246, k247⟩ := hp234
                  have k249 := kq248.2 _ _ k175 (orN (tg_ne tm24 ty (by decide)) (orN (tg_ne tm24 tm36 (by decide)) (tg_ne tm24 tm37 (by decide))))
                  have k250 := kq248.2 _ _ k176 (orN (tg_ne tm35 ty (by decide)) (orN (tg_ne tm35 tm36 (by decide)) (tg_ne tm35 tm37 (by decide))))
                  have kp251 := kp179.tr kq248 (fun b9 hm q9 => (fun q9 => Or.elim q9 (fun q9 => q9 ▸ s90) (fun q9 => Or.elim q9 (fun q9 => q9 ▸ s92) (fun q9 => q9 ▸ s93))) q9)
                  refine W.eq (g2 := F0 m 86 ls []) rfl (W.widen (k := 0) (n := 0) (Nat.le_of_ble_eq_true rfl) (Nat.le_of_ble_eq_true rfl) ?_)
                  refine lv_aload_n hx hb dX11_law_86 rfl (lv_at hl 0 rfl) ?_
                  refine x_get (ref := "NoteHouseModel") F hP k245 rfl (fun _ h => List.mem_cons_of_mem _ (List.mem_append_right _ (h))) 28 (Nat.le_of_ble_eq_true rfl) (List.mem_cons_of_mem _ (List.mem_append_left _ (List.mem_append_left _ (List.mem_of_getElem? (i := 3) rfl)))) rfl rfl dX11_law_87 ?_
                  refine lv_if_ne (tgt := 104) hx hb dX11_law_90 (by decide) (fun c_252 => ?_) (fun c_252 => ?_)
                  · have hfp : 0 < fvx239 := nI_nz (by omega) c_252
                    refine lv_iconst (v := 0) hx hb dX11_law_104 (by decide) ?_
                    refine lv_istore_n (lv' := [(1, .int 0), (0, .ref y)]) hx hb dX11_law_105 rfl hl (by decide) rfl (fun ls hl => ?_)
                    refine lv_iload_n hx hb dX11_law_106 rfl (lv_at hl 0 rfl) ?_
                    refine lv_if_eq (tgt := 71) hx hb dX11_law_107 (by decide) (fun c_253 => ?_) (fun c_253 => absurd (show (0 : Int32) = (0 : Int32) by decide) c_253)
                    exact ih71 0 ax237 bx238 fvx239 gx240 gx241 w236 (by omega) (by omega) (by omega) (by omega) k245 k249 k250 k246 k247 kp251 ls (lv_sub hl [1, 0] rfl) H locs hP hD hS
                  · have hf0 : fvx239 = 0 := nI_z0 (by omega) c_252
                    refine lv_aload_n hx hb dX11_law_93 rfl (lv_at hl 0 rfl) ?_
                    refine x_callV (n := 0) (As := []) (rest := []) F hP hD hS (m_isEnd l D cy sk sv w236 tg y m2 m3 m4 m5 m6 m8 m9 m10 m11 m12 m13 m14 m17 m18 m19 m20 m21 m22 m23 m24 m29 m30 m31 m32 m33 m34 m35 m36 m37 m39 m40 m41 m42 m43 m44 m45 m46 m47 m48 m49 m51 m52 m53 m54 m56 m57 m58 m59 pc ac sc ln sh gf v0 td (nI bx238) (nI fvx239) v50 f24 ax237 k245 k249 (fun b => b = y) rfl ty tm24 (by omega) (by omega)) gX11_law_X11_isEnd rfl rfl (by decide +kernel) ⟨(Nat.le_of_ble_eq_true rfl), (Nat.le_of_ble_eq_true rfl)⟩ rfl hl.1 (Nat.le_of_ble_eq_true rfl) k245 rfl dX11_law_94 rfl ⟨(Nat.le_of_ble_eq_true rfl), (Nat.le_of_ble_eq_true rfl)⟩ (fun v255 w256 hp254 H locs hP hD hS => ?_)
                    obtain ⟨ax257, rx258, rfl, hz259, hz260, hz261, hz262, kq264, k263⟩ := hp254
                    have k265 := kq264.2 _ _ k249 (tg_ne tm24 ty (by decide))
                    have k266 := kq264.2 _ _ k250 (tg_ne tm35 ty (by decide))
                    have k267 := kq264.2 _ _ k246 (tg_ne tm36 ty (by decide))
                    have k268 := kq264.2 _ _ k247 (tg_ne tm37 ty (by decide))
                    have kp269 := kp251.tr kq264 (fun b9 hm q9 => (fun q9 => q9 ▸ s90) q9)
                    refine W.eq (g2 := F0 m 97 ls [.int rx258]) rfl (W.widen (k := 0) (n := 0) (Nat.le_of_ble_eq_true rfl) (Nat.le_of_ble_eq_true rfl) ?_)
                    refine lv_if_ne (tgt := 104) hx hb dX11_law_97 (by decide) (fun c_270 => ?_) (fun c_270 => ?_)
                    · refine lv_iconst (v := 0) hx hb dX11_law_104 (by decide) ?_
                      refine lv_istore_n (lv' := [(1, .int 0), (0, .ref y)]) hx hb dX11_law_105 rfl hl (by decide) rfl (fun ls hl => ?_)
                      refine lv_iload_n hx hb dX11_law_106 rfl (lv_at hl 0 rfl) ?_
                      refine lv_if_eq (tgt := 71) hx hb dX11_law_107 (by decide) (fun c_271 => ?_) (fun c_271 => absurd (show (0 : Int32) = (0 : Int32) by decide) c_271)
                      exact ih71 0 ax257 ax257 fvx239 gx240 gx241 w256 (by omega) (by omega) (by omega) (by omega) k263 k265 k266 k267 k268 kp269 ls (lv_sub hl [1, 0] rfl) H locs hP hD hS
                    · have hne := hz262 c_270
                      refine lv_iconst (v := 1) hx hb dX11_law_100 (by decide) ?_
                      refine lv_goto (tgt := 105) hx hb dX11_law_101 (by decide) ?_
                      refine lv_istore_n (lv' := [(1, .int 1), (0, .ref y)]) hx hb dX11_law_105 rfl hl (by decide) rfl (fun ls hl => ?_)
                      refine lv_iload_n hx hb dX11_law_106 rfl (lv_at hl 0 rfl) ?_
                      refine lv_if_eq (tgt := 71) hx hb dX11_law_107 (by decide) (fun c_272 => absurd c_272 (show ¬ (1 : Int32) = (0 : Int32) by decide)) (fun c_272 => ?_)
                      refine lv_aload_n hx hb dX11_law_110 rfl (lv_at hl 1 rfl) ?_
                      refine x_get (ref := "NoteHouseModel") F hP k263 rfl (fun _ h => List.mem_cons_of_mem _ (List.mem_append_right _ (h))) 24 (Nat.le_of_ble_eq_true rfl) (List.mem_cons_of_mem _ (List.mem_append_left _ (List.mem_append_left _ (List.mem_of_getElem? (i := 5) rfl)))) rfl rfl dX11_law_111 ?_
                      refine lv_aload_n hx hb dX11_law_114 rfl (lv_at hl 1 rfl) ?_
                      refine x_get (ref := "NoteHouseModel") F hP k263 rfl (fun _ h => List.mem_cons_of_mem _ (List.mem_append_right _ (h))) 26 (Nat.le_of_ble_eq_true rfl) (List.mem_cons_of_mem _ (List.mem_append_left _ (List.mem_append_left _ (List.mem_of_getElem? (i := 2) rfl)))) rfl rfl dX11_law_115 ?_
                      refine x_bald F hP k265 (vp_in_nI (n := ax257) (N := 300) (by omega) (by decide)) dX11_law_118 ?_
                      refine lv_bipush (v := 59) hx hb dX11_law_119 (by decide) ?_
                      refine lv_icmp_eq (tgt := 133) hx hb dX11_law_121 (by decide) (fun c_273 => ?_) (fun c_273 => ?_)
                      · refine lv_aload_n hx hb dX11_law_133 rfl (lv_at hl 1 rfl) ?_
                        refine lv_dup hx hb dX11_law_134 rfl ?_
                        refine x_get (ref := "NoteHouseModel") F hP k263 rfl (fun _ h => List.mem_cons_of_mem _ (List.mem_append_right _ (h))) 26 (Nat.le_of_ble_eq_true rfl) (List.mem_cons_of_mem _ (List.mem_append_left _ (List.mem_append_left _ (List.mem_of_getElem? (i := 2) rfl)))) rfl rfl dX11_law_135 ?_
                        refine lv_iconst (v := 1) hx hb dX11_law_138 (by decide) ?_
                        refine lv_iadd hx hb dX11_law_139 ?_
                        rw [show ((nI ax257) + 1 : Int32) = nI (ax257 + 1) from nI_add ax257 1]
                        refine y_put (ref := "NoteHouseModel") F hP hD hS k263 rfl (fun _ h => List.mem_cons_of_mem _ (List.mem_append_right _ (h))) tyX11_ok nmX11 26 (Nat.le_of_ble_eq_true rfl) (List.mem_cons_of_mem _ (List.mem_append_left _ (List.mem_append_left _ (List.mem_of_getElem? (i := 2) rfl)))) rfl rfl rfl rfl (Nat.le_of_ble_eq_true rfl) dX11_law_140 (fun w274 ew275 H locs hP hD hS => ?_)
                        have k276 : wd_at w274 y (.inr (11, [.int v0, .int td, .ref m2, .ref m3, .ref m4, .ref m5, .ref m6, .int (nI pc), .ref m8, .ref m9, .ref m10, .ref m11, .ref m12, .ref m13, .ref m14, .int (nI ac), .int (nI sc), .ref m17, .ref m18, .ref m19, .ref m20, .ref m21, .ref m22, .ref m23, .ref m24, .int (nI ln), .int (nI (ax257 + 1)), .int (nI ax257), .int (nI fvx239), .ref m29, .ref m30, .ref m31, .ref m32, .ref m33, .ref m34, .ref m35, .ref m36, .ref m37, .int (nI sh), .ref m39, .ref m40, .ref m41, .ref m42, .ref m43, .ref m44, .ref m45, .ref m46, .ref m47, .ref m48, .ref m49, .int v50, .ref m51, .ref m52, .ref m53, .ref m54, .int (nI gf), .ref m56, .ref m57, .ref m58, .ref m59])) := wd_at.ps ew275 k263
                        have k277 := wd_at.pt ew275 k265 (tg_ne tm24 ty (by decide))
                        have k278 := wd_at.pt ew275 k266 (tg_ne tm35 ty (by decide))
                        have k279 := wd_at.pt ew275 k267 (tg_ne tm36 ty (by decide))
                        have k280 := wd_at.pt ew275 k268 (tg_ne tm37 ty (by decide))
                        have kp281 := kp269.put ew275 s90
                        refine lv_goto (tgt := 71) hx hb dX11_law_143 (by decide) ?_
                        exact ih71 1 (ax257 + 1) ax257 fvx239 gx240 gx241 w274 (by omega) (by omega) (by omega) (by omega) k276 k277 k278 k279 k280 kp281 ls (lv_sub hl [1, 0] rfl) H locs hP hD hS
                      · refine lv_aload_n hx hb dX11_law_124 rfl (lv_at hl 1 rfl) ?_
                        refine lv_iconst (v := 0) hx hb dX11_law_125 (by decide) ?_
                        refine lv_aload_n hx hb dX11_law_126 rfl (lv_at hl 1 rfl) ?_
                        refine x_get (ref := "NoteHouseModel") F hP k263 rfl (fun _ h => List.mem_cons_of_mem _ (List.mem_append_right _ (h))) 26 (Nat.le_of_ble_eq_true rfl) (List.mem_cons_of_mem _ (List.mem_append_left _ (List.mem_append_left _ (List.mem_of_getElem? (i := 2) rfl)))) rfl rfl dX11_law_127 ?_
                        refine x_callV (n := 2) (As := [.int 0, .int (nI ax257)]) (rest := []) F hP hD hS (m_fails l D cy sk sv w256 tg y m2 m3 m4 m5 m6 m8 m9 m10 m11 m12 m13 m14 m17 m18 m19 m20 m21 m22 m23 m24 m29 m30 m31 m32 m33 m34 m35 m36 m37 m39 m40 m41 m42 m43 m44 m45 m46 m47 m48 m49 m51 m52 m53 m54 m56 m57 m58 m59 pc ac sc ln sh gf v0 td (nI ax257) (nI ax257) v50 fvx239 0 ax257 k263 (fun b => b = y) rfl ty (by omega) (by omega) (by omega)) gX11_law_X11_fails rfl rfl (by decide +kernel) ⟨(Nat.le_of_ble_eq_true rfl), (Nat.le_of_ble_eq_true rfl)⟩ rfl hl.1 (Nat.le_of_ble_eq_true rfl) k263 rfl dX11_law_130 rfl ⟨(Nat.le_of_ble_eq_true rfl), (Nat.le_of_ble_eq_true rfl)⟩ (fun v283 w284 hp282 H locs hP hD hS => ?_)
                        obtain ⟨fwx285, rfl, hz286, hz287, kq289, k288⟩ := hp282
                        have k290 := kq289.2 _ _ k265 (tg_ne tm24 ty (by decide))
                        have k291 := kq289.2 _ _ k266 (tg_ne tm35 ty (by decide))
                        have k292 := kq289.2 _ _ k267 (tg_ne tm36 ty (by decide))
                        have k293 := kq289.2 _ _ k268 (tg_ne tm37 ty (by decide))
                        have kp294 := kp269.tr kq289 (fun b9 hm q9 => (fun q9 => q9 ▸ s90) q9)
                        refine W.eq (g2 := F0 m 133 ls []) rfl (W.widen (k := 0) (n := 0) (Nat.le_of_ble_eq_true rfl) (Nat.le_of_ble_eq_true rfl) ?_)
                        refine lv_aload_n hx hb dX11_law_133 rfl (lv_at hl 1 rfl) ?_
                        refine lv_dup hx hb dX11_law_134 rfl ?_
                        refine x_get (ref := "NoteHouseModel") F hP k288 rfl (fun _ h => List.mem_cons_of_mem _ (List.mem_append_right _ (h))) 26 (Nat.le_of_ble_eq_true rfl) (List.mem_cons_of_mem _ (List.mem_append_left _ (List.mem_append_left _ (List.mem_of_getElem? (i := 2) rfl)))) rfl rfl dX11_law_135 ?_
                        refine lv_iconst (v := 1) hx hb dX11_law_138 (by decide) ?_
                        refine lv_iadd hx hb dX11_law_139 ?_
                        rw [show ((nI ax257) + 1 : Int32) = nI (ax257 + 1) from nI_add ax257 1]
                        refine y_put (ref := "NoteHouseModel") F hP hD hS k288 rfl (fun _ h => List.mem_cons_of_mem _ (List.mem_append_right _ (h))) tyX11_ok nmX11 26 (Nat.le_of_ble_eq_true rfl) (List.mem_cons_of_mem _ (List.mem_append_left _ (List.mem_append_left _ (List.mem_of_getElem? (i := 2) rfl)))) rfl rfl rfl rfl (Nat.le_of_ble_eq_true rfl) dX11_law_140 (fun w295 ew296 H locs hP hD hS => ?_)
                        have k297 : wd_at w295 y (.inr (11, [.int v0, .int td, .ref m2, .ref m3, .ref m4, .ref m5, .ref m6, .int (nI pc), .ref m8, .ref m9, .ref m10, .ref m11, .ref m12, .ref m13, .ref m14, .int (nI ac), .int (nI sc), .ref m17, .ref m18, .ref m19, .ref m20, .ref m21, .ref m22, .ref m23, .ref m24, .int (nI ln), .int (nI (ax257 + 1)), .int (nI ax257), .int (nI fwx285), .ref m29, .ref m30, .ref m31, .ref m32, .ref m33, .ref m34, .ref m35, .ref m36, .ref m37, .int (nI sh), .ref m39, .ref m40, .ref m41, .ref m42, .ref m43, .ref m44, .ref m45, .ref m46, .ref m47, .ref m48, .ref m49, .int v50, .ref m51, .ref m52, .ref m53, .ref m54, .int (nI gf), .ref m56, .ref m57, .ref m58, .ref m59])) := wd_at.ps ew296 k288
                        have k298 := wd_at.pt ew296 k290 (tg_ne tm24 ty (by decide))
                        have k299 := wd_at.pt ew296 k291 (tg_ne tm35 ty (by decide))
                        have k300 := wd_at.pt ew296 k292 (tg_ne tm36 ty (by decide))
                        have k301 := wd_at.pt ew296 k293 (tg_ne tm37 ty (by decide))
                        have kp302 := kp294.put ew296 s90
                        refine lv_goto (tgt := 71) hx hb dX11_law_143 (by decide) ?_
                        exact ih71 1 (ax257 + 1) ax257 fwx285 gx240 gx241 w295 (by omega) (by omega) (by omega) (by omega) k297 k298 k299 k300 k301 kp302 ls (lv_sub hl [1, 0] rfl) H locs hP hD hS
          exact lp71 (2 * ln + 2) 1 ax29 ax29 0 ga gb w28 (by omega) (by omega) (by omega) (by omega) k35 k37 k38 k39 k40 kp41 ls (lv_sub hl [1, 0] rfl) H locs hP hD hS
      · refine lv_aload_n hx hb dX11_law_50 rfl (lv_at hl 0 rfl) ?_
        refine lv_iconst (v := 0) hx hb dX11_law_51 (by decide) ?_
        refine lv_sipush (v := 200) hx hb dX11_law_52 (by decide) ?_
        refine x_callV (n := 2) (As := [.int 0, .int 200]) (rest := []) F hP hD hS (m_fails l D cy sk sv w17 tg y m2 m3 m4 m5 m6 m8 m9 m10 m11 m12 m13 m14 m17 m18 m19 m20 m21 m22 m23 m24 m29 m30 m31 m32 m33 m34 m35 m36 m37 m39 m40 m41 m42 m43 m44 m45 m46 m47 m48 m49 m51 m52 m53 m54 m56 m57 m58 m59 pc ac sc ln sh gf v0 td 0 v27 v50 0 0 200 k19 (fun b => b = y) rfl ty (by omega) (by omega) (by omega)) gX11_law_X11_fails rfl rfl (by decide +kernel) ⟨(Nat.le_of_ble_eq_true rfl), (Nat.le_of_ble_eq_true rfl)⟩ rfl hl.1 (Nat.le_of_ble_eq_true rfl) k19 rfl dX11_law_55 rfl ⟨(Nat.le_of_ble_eq_true rfl), (Nat.le_of_ble_eq_true rfl)⟩ (fun v304 w305 hp303 H locs hP hD hS => ?_)
        obtain ⟨fwx306, rfl, hz307, hz308, kq310, k309⟩ := hp303
        have k311 := kq310.2 _ _ k20 (tg_ne tm24 ty (by decide))
        have k312 := kq310.2 _ _ k21 (tg_ne tm35 ty (by decide))
        have k313 := kq310.2 _ _ k22 (tg_ne tm36 ty (by decide))
        have k314 := kq310.2 _ _ k23 (tg_ne tm37 ty (by decide))
        have kp315 := kp24.tr kq310 (fun b9 hm q9 => (fun q9 => q9 ▸ s90) q9)
        refine W.eq (g2 := F0 m 58 ls []) rfl (W.widen (k := 0) (n := 0) (Nat.le_of_ble_eq_true rfl) (Nat.le_of_ble_eq_true rfl) ?_)
        refine lv_aload_n hx hb dX11_law_58 rfl (lv_at hl 0 rfl) ?_
        refine x_callV (n := 0) (As := []) (rest := []) F hP hD hS (m_isEnd l D cy sk sv w305 tg y m2 m3 m4 m5 m6 m8 m9 m10 m11 m12 m13 m14 m17 m18 m19 m20 m21 m22 m23 m24 m29 m30 m31 m32 m33 m34 m35 m36 m37 m39 m40 m41 m42 m43 m44 m45 m46 m47 m48 m49 m51 m52 m53 m54 m56 m57 m58 m59 pc ac sc ln sh gf v0 td v27 (nI fwx306) v50 f24 0 k309 k311 (fun b => b = y) rfl ty tm24 (by omega) (by omega)) gX11_law_X11_isEnd rfl rfl (by decide +kernel) ⟨(Nat.le_of_ble_eq_true rfl), (Nat.le_of_ble_eq_true rfl)⟩ rfl hl.1 (Nat.le_of_ble_eq_true rfl) k309 rfl dX11_law_59 rfl ⟨(Nat.le_of_ble_eq_true rfl), (Nat.le_of_ble_eq_true rfl)⟩ (fun v317 w318 hp316 H locs hP hD hS => ?_)
        obtain ⟨ax319, rx320, rfl, hz321, hz322, hz323, hz324, kq326, k325⟩ := hp316
        have k327 := kq326.2 _ _ k311 (tg_ne tm24 ty (by decide))
        have k328 := kq326.2 _ _ k312 (tg_ne tm35 ty (by decide))
        have k329 := kq326.2 _ _ k313 (tg_ne tm36 ty (by decide))
        have k330 := kq326.2 _ _ k314 (tg_ne tm37 ty (by decide))
        have kp331 := kp315.tr kq326 (fun b9 hm q9 => (fun q9 => q9 ▸ s90) q9)
        refine W.eq (g2 := F0 m 62 ls [.int rx320]) rfl (W.widen (k := 0) (n := 0) (Nat.le_of_ble_eq_true rfl) (Nat.le_of_ble_eq_true rfl) ?_)
        refine lv_if_ne (tgt := 69) hx hb dX11_law_62 (by decide) (fun c_332 => ?_) (fun c_332 => ?_)
        · refine lv_iconst (v := 0) hx hb dX11_law_69 (by decide) ?_
          refine lv_istore_n (lv' := [(1, .int 0), (0, .ref y)]) hx hb dX11_law_70 rfl hl (by decide) rfl (fun ls hl => ?_)
          have lp71 : ∀ (N : Nat) (on : Nat) (a : Nat) (b : Nat) (fq : Nat) (h36 : Nat → Int32) (h37 : Nat → Int32) (w333 : Wd), (2 * ln + on + 1 ≤ 2 * a + N) → (a ≤ ln) → (fq < 2000) → (on ≤ 1) → (wd_at w333 y (.inr (11, [.int v0, .int td, .ref m2, .ref m3, .ref m4, .ref m5, .ref m6, .int (nI pc), .ref m8, .ref m9, .ref m10, .ref m11, .ref m12, .ref m13, .ref m14, .int (nI ac), .int (nI sc), .ref m17, .ref m18, .ref m19, .ref m20, .ref m21, .ref m22, .ref m23, .ref m24, .int (nI ln), .int (nI a), .int (nI b), .int (nI fq), .ref m29, .ref m30, .ref m31, .ref m32, .ref m33, .ref m34, .ref m35, .ref m36, .ref m37, .int (nI sh), .ref m39, .ref m40, .ref m41, .ref m42, .ref m43, .ref m44, .ref m45, .ref m46, .ref m47, .ref m48, .ref m49, .int v50, .ref m51, .ref m52, .ref m53, .ref m54, .int (nI gf), .ref m56, .ref m57, .ref m58, .ref m59]))) → (wd_at w333 m24 (.inl (cy 0, 300, .inl f24))) → (wd_at w333 m35 (.inl (cy 2, 5, .inl f35))) → (wd_at w333 m36 (.inl (cy 4, 5, .inl h36))) → (wd_at w333 m37 (.inl (cy 2, 5, .inl h37))) → (wd_kp S w w333) → ∀ (ls : Array Slot), lv_has ls 3 [(0, .ref y), (1, .int (nI on))] → Wv p l e ({ frames := 6, cells := 0, slots := 0, locals := 130 }) s m args below meth c D A (0) (0) Q w333 (F0 m 71 ls []) := by
            intro N
            induction N with
            | zero =>
              intro on a b fq h36 h37 w333 hN71 ha2 hfq hon k334 k335 k336 k337 k338 kp339 ls hl H locs hP hD hS
              exact absurd hN71 (by omega)
            | succ N ih71 =>
              intro on a b fq h36 h37 w333 hN71 ha2 hfq hon k334 k335 k336 k337 k338 kp339 ls hl H locs hP hD hS
              refine lv_iload_n hx hb dX11_law_71 rfl (lv_at hl 1 rfl) ?_
              refine lv_if_eq (tgt := 146) hx hb dX11_law_72 (by decide) (fun c_340 => ?_) (fun c_340 => ?_)
              · refine lv_aload_n hx hb dX11_law_146 rfl (lv_at hl 0 rfl) ?_
                refine lv_iconst (v := 0) hx hb dX11_law_147 (by decide) ?_
                refine y_put (ref := "NoteHouseModel") F hP hD hS k334 rfl (fun _ h => List.mem_cons_of_mem _ (List.mem_append_right _ (h))) tyX11_ok nmX11 25 (Nat.le_of_ble_eq_true rfl) (List.mem_cons_of_mem _ (List.mem_append_left _ (List.mem_append_left _ (List.mem_of_getElem? (i := 4) rfl)))) rfl rfl rfl rfl (Nat.le_of_ble_eq_true rfl) dX11_law_148 (fun w341 ew342 H locs hP hD hS => ?_)
                have k343 : wd_at w341 y (.inr (11, [.int v0, .int td, .ref m2, .ref m3, .ref m4, .ref m5, .ref m6, .int (nI pc), .ref m8, .ref m9, .ref m10, .ref m11, .ref m12, .ref m13, .ref m14, .int (nI ac), .int (nI sc), .ref m17, .ref m18, .ref m19, .ref m20, .ref m21, .ref m22, .ref m23, .ref m24, .int 0, .int (nI a), .int (nI b), .int (nI fq), .ref m29, .ref m30, .ref m31, .ref m32, .ref m33, .ref m34, .ref m35, .ref m36, .ref m37, .int (nI sh), .ref m39, .ref m40, .ref m41, .ref m42, .ref m43, .ref m44, .ref m45, .ref m46, .ref m47, .ref m48, .ref m49, .int v50, .ref m51, .ref m52, .ref m53, .ref m54, .int (nI gf), .ref m56, .ref m57, .ref m58, .ref m59])) := wd_at.ps ew342 k334
                have k344 := wd_at.pt ew342 k335 (tg_ne tm24 ty (by decide))
                have k345 := wd_at.pt ew342 k336 (tg_ne tm35 ty (by decide))
                have k346 := wd_at.pt ew342 k337 (tg_ne tm36 ty (by decide))
                have k347 := wd_at.pt ew342 k338 (tg_ne tm37 ty (by decide))
                have kp348 := kp339.put ew342 s90
                refine lv_aload_n hx hb dX11_law_151 rfl (lv_at hl 0 rfl) ?_
                refine x_get (ref := "NoteHouseModel") F hP k343 rfl (fun _ h => List.mem_cons_of_mem _ (List.mem_append_right _ (h))) 28 (Nat.le_of_ble_eq_true rfl) (List.mem_cons_of_mem _ (List.mem_append_left _ (List.mem_append_left _ (List.mem_of_getElem? (i := 3) rfl)))) rfl rfl dX11_law_152 ?_
                refine lv_if_ne (tgt := 183) hx hb dX11_law_155 (by decide) (fun c_349 => ?_) (fun c_349 => ?_)
                · have hfp : 0 < fq := nI_nz (by omega) c_349
                  refine lv_aload_n hx hb dX11_law_183 rfl (lv_at hl 0 rfl) ?_
                  refine x_get (ref := "NoteHouseModel") F hP k343 rfl (fun _ h => List.mem_cons_of_mem _ (List.mem_append_right _ (h))) 28 (Nat.le_of_ble_eq_true rfl) (List.mem_cons_of_mem _ (List.mem_append_left _ (List.mem_append_left _ (List.mem_of_getElem? (i := 3) rfl)))) rfl rfl dX11_law_184 ?_
                  exact y_ir K hP hD hS (Nat.le_of_ble_eq_true rfl) (Nat.le_of_ble_eq_true rfl) (ty := .int) rfl rfl dX11_law_187 (⟨nI a, nI b, nI fq, f35, h36, h37, nI fq, rfl, kp348, k343, k345, k346, k347⟩)
                · have hf0 : fq = 0 := nI_z0 (by omega) c_349
                  refine lv_iconst (v := 0) hx hb dX11_law_158 (by decide) ?_
                  refine lv_istore_n (lv' := [(2, .int 0), (0, .ref y), (1, .int (nI on))]) hx hb dX11_law_159 rfl hl (by decide) rfl (fun ls hl => ?_)
                  have lp160 : ∀ (N : Nat) (k2 : Nat) (gd : Nat → Int32) (w350 : Wd), (k2 + N = 5) → (wd_at w350 y (.inr (11, [.int v0, .int td, .ref m2, .ref m3, .ref m4, .ref m5, .ref m6, .int (nI pc), .ref m8, .ref m9, .ref m10, .ref m11, .ref m12, .ref m13, .ref m14, .int (nI ac), .int (nI sc), .ref m17, .ref m18, .ref m19, .ref m20, .ref m21, .ref m22, .ref m23, .ref m24, .int 0, .int (nI a), .int (nI b), .int (nI fq), .ref m29, .ref m30, .ref m31, .ref m32, .ref m33, .ref m34, .ref m35, .ref m36, .ref m37, .int (nI sh), .ref m39, .ref m40, .ref m41, .ref m42, .ref m43, .ref m44, .ref m45, .ref m46, .ref m47, .ref m48, .ref m49, .int v50, .ref m51, .ref m52, .ref m53, .ref m54, .int (nI gf), .ref m56, .ref m57, .ref m58, .ref m59]))) → (wd_at w350 m24 (.inl (cy 0, 300, .inl f24))) → (wd_at w350 m35 (.inl (cy 2, 5, .inl gd))) → (wd_at w350 m36 (.inl (cy 4, 5, .inl h36))) → (wd_at w350 m37 (.inl (cy 2, 5, .inl h37))) → (wd_kp S w w350) → ∀ (ls : Array Slot), lv_has ls 3 [(0, .ref y), (2, .int (nI k2))] → Wv p l e ({ frames := 6, cells := 0, slots := 0, locals := 130 }) s m args below meth c D A (0) (0) Q w350 (F0 m 160 ls []) := by
                    intro N
                    induction N with
                    | zero =>
                      intro k2 gd w350 hN160 k351 k352 k353 k354 k355 kp356 ls hl H locs hP hD hS
                      refine lv_iload_n hx hb dX11_law_160 rfl (lv_at hl 1 rfl) ?_
                      refine lv_iconst (v := 5) hx hb dX11_law_161 (by decide) ?_
                      refine lv_icmp_ge (tgt := 183) hx hb dX11_law_162 (by decide) (fun c_357 => ?_) (fun c_357 => absurd (nI_le (a := 5) (b := k2) (by omega) (by omega)) c_357)
                      refine lv_aload_n hx hb dX11_law_183 rfl (lv_at hl 0 rfl) ?_
                      refine x_get (ref := "NoteHouseModel") F hP k351 rfl (fun _ h => List.mem_cons_of_mem _ (List.mem_append_right _ (h))) 28 (Nat.le_of_ble_eq_true rfl) (List.mem_cons_of_mem _ (List.mem_append_left _ (List.mem_append_left _ (List.mem_of_getElem? (i := 3) rfl)))) rfl rfl dX11_law_184 ?_
                      exact y_ir K hP hD hS (Nat.le_of_ble_eq_true rfl) (Nat.le_of_ble_eq_true rfl) (ty := .int) rfl rfl dX11_law_187 (⟨nI a, nI b, nI fq, gd, h36, h37, nI fq, rfl, kp356, k351, k353, k354, k355⟩)
                    | succ N ih160 =>
                      intro k2 gd w350 hN160 k351 k352 k353 k354 k355 kp356 ls hl H locs hP hD hS
                      refine lv_iload_n hx hb dX11_law_160 rfl (lv_at hl 1 rfl) ?_
                      refine lv_iconst (v := 5) hx hb dX11_law_161 (by decide) ?_
                      refine lv_icmp_ge (tgt := 183) hx hb dX11_law_162 (by decide) (fun c_358 => absurd c_358 (nI_ge (a := k2) (b := 5) (by omega) (by omega))) (fun c_358 => ?_)
                      refine lv_aload_n hx hb dX11_law_165 rfl (lv_at hl 0 rfl) ?_
                      refine x_get (ref := "NoteHouseModel") F hP k351 rfl (fun _ h => List.mem_cons_of_mem _ (List.mem_append_right _ (h))) 35 (Nat.le_of_ble_eq_true rfl) (List.mem_cons_of_mem _ (List.mem_append_left _ (List.mem_append_left _ (List.mem_of_getElem? (i := 6) rfl)))) rfl rfl dX11_law_166 ?_
                      refine lv_iload_n hx hb dX11_law_169 rfl (lv_at hl 1 rfl) ?_
                      refine lv_aload_n hx hb dX11_law_170 rfl (lv_at hl 0 rfl) ?_
                      refine x_get (ref := "NoteHouseModel") F hP k351 rfl (fun _ h => List.mem_cons_of_mem _ (List.mem_append_right _ (h))) 37 (Nat.le_of_ble_eq_true rfl) (List.mem_cons_of_mem _ (List.mem_append_left _ (List.mem_append_left _ (List.mem_of_getElem? (i := 1) rfl)))) rfl rfl dX11_law_171 ?_
                      refine lv_iload_n hx hb dX11_law_174 rfl (lv_at hl 1 rfl) ?_
                      refine x_iald F hP k355 (vp_in_nI (n := k2) (N := 5) (by omega) (by decide)) dX11_law_175 ?_
                      refine y_iast F hP hD hS k353 (vp_in_nI (n := k2) (N := 5) (by omega) (by decide)) dX11_law_176 (fun w359 ew360 H locs hP hD hS => ?_)
                      have k361 := wd_at.pt ew360 k351 (tg_ne ty tm35 (by decide))
                      have k362 := wd_at.pt ew360 k352 (tg_ne tm24 tm35 (by decide))
                      have k363 : wd_at w359 m35 (.inl (cy 2, 5, .inl (upd gd (nI k2).toNatClampNeg (h37 (nI k2).toNatClampNeg)))) := wd_at.ps ew360 k353
                      have k364 := wd_at.pt ew360 k354 (tg_ne tm36 tm35 (by decide))
                      have k365 := wd_at.pt ew360 k355 (tg_ne tm37 tm35 (by decide))
                      have kp366 := kp356.put ew360 s91
                      refine lv_iinc (v := nI (k2 + 1)) (lv' := [(2, .int (nI (k2 + 1))), (0, .ref y)]) hx hb dX11_law_177 hl (k := 1) rfl (nI_1 k2) (by decide) rfl (fun ls hl => ?_)
                      refine lv_goto (tgt := 160) hx hb dX11_law_180 (by decide) ?_
                      exact ih160 (k2 + 1) (upd gd (nI k2).toNatClampNeg (h37 (nI k2).toNatClampNeg)) w359 (by omega)  k361 k362 k363 k364 k365 kp366 ls (lv_sub hl [1, 0] rfl) H locs hP hD hS
                  exact lp160 _ 0 f35 w341 (Nat.zero_add 5)  k343 k344 k345 k346 k347 kp348 ls (lv_sub hl [1, 0] rfl) H locs hP hD hS
              · have hon1 : 0 < on := nI_nz (by omega) c_340
                refine lv_aload_n hx hb dX11_law_75 rfl (lv_at hl 0 rfl) ?_
                refine x_get (ref := "NoteHouseModel") F hP k334 rfl (fun _ h => List.mem_cons_of_mem _ (List.mem_append_right _ (h))) 28 (Nat.le_of_ble_eq_true rfl) (List.mem_cons_of_mem _ (List.mem_append_left _ (List.mem_append_left _ (List.mem_of_getElem? (i := 3) rfl)))) rfl rfl dX11_law_76 ?_
                refine lv_if_ne (tgt := 146) hx hb dX11_law_79 (by decide) (fun c_367 => ?_) (fun c_367 => ?_)
                · have hfp : 0 < fq := nI_nz (by omega) c_367
                  refine lv_aload_n hx hb dX11_law_146 rfl (lv_at hl 0 rfl) ?_
                  refine lv_iconst (v := 0) hx hb dX11_law_147 (by decide) ?_
                  refine y_put (ref := "NoteHouseModel") F hP hD hS k334 rfl (fun _ h => List.mem_cons_of_mem _ (List.mem_append_right _ (h))) tyX11_ok nmX11 25 (Nat.le_of_ble_eq_true rfl) (List.mem_cons_of_mem _ (List.mem_append_left _ (List.mem_append_left _ (List.mem_of_getElem? (i := 4) rfl)))) rfl rfl rfl rfl (Nat.le_of_ble_eq_true rfl) dX11_law_148 (fun w368 ew369 H locs hP hD hS => ?_)
                  have k370 : wd_at w368 y (.inr (11, [.int v0, .int td, .ref m2, .ref m3, .ref m4, .ref m5, .ref m6, .int (nI pc), .ref m8, .ref m9, .ref m10, .ref m11, .ref m12, .ref m13, .ref m14, .int (nI ac), .int (nI sc), .ref m17, .ref m18, .ref m19, .ref m20, .ref m21, .ref m22, .ref m23, .ref m24, .int 0, .int (nI a), .int (nI b), .int (nI fq), .ref m29, .ref m30, .ref m31, .ref m32, .ref m33, .ref m34, .ref m35, .ref m36, .ref m37, .int (nI sh), .ref m39, .ref m40, .ref m41, .ref m42, .ref m43, .ref m44, .ref m45, .ref m46, .ref m47, .ref m48, .ref m49, .int v50, .ref m51, .ref m52, .ref m53, .ref m54, .int (nI gf), .ref m56, .ref m57, .ref m58, .ref m59])) := wd_at.ps ew369 k334
                  have k371 := wd_at.pt ew369 k335 (tg_ne tm24 ty (by decide))
                  have k372 := wd_at.pt ew369 k336 (tg_ne tm35 ty (by decide))
                  have k373 := wd_at.pt ew369 k337 (tg_ne tm36 ty (by decide))
                  have k374 := wd_at.pt ew369 k338 (tg_ne tm37 ty (by decide))
                  have kp375 := kp339.put ew369 s90
                  refine lv_aload_n hx hb dX11_law_151 rfl (lv_at hl 0 rfl) ?_
                  refine x_get (ref := "NoteHouseModel") F hP k370 rfl (fun _ h => List.mem_cons_of_mem _ (List.mem_append_right _ (h))) 28 (Nat.le_of_ble_eq_true rfl) (List.mem_cons_of_mem _ (List.mem_append_left _ (List.mem_append_left _ (List.mem_of_getElem? (i := 3) rfl)))) rfl rfl dX11_law_152 ?_
                  refine lv_if_ne (tgt := 183) hx hb dX11_law_155 (by decide) (fun c_376 => ?_) (fun c_376 => ?_)
                  · have hfp : 0 < fq := nI_nz (by omega) c_376
                    refine lv_aload_n hx hb dX11_law_183 rfl (lv_at hl 0 rfl) ?_
                    refine x_get (ref := "NoteHouseModel") F hP k370 rfl (fun _ h => List.mem_cons_of_mem _ (List.mem_append_right _ (h))) 28 (Nat.le_of_ble_eq_true rfl) (List.mem_cons_of_mem _ (List.mem_append_left _ (List.mem_append_left _ (List.mem_of_getElem? (i := 3) rfl)))) rfl rfl dX11_law_184 ?_
                    exact y_ir K hP hD hS (Nat.le_of_ble_eq_true rfl) (Nat.le_of_ble_eq_true rfl) (ty := .int) rfl rfl dX11_law_187 (⟨nI a, nI b, nI fq, f35, h36, h37, nI fq, rfl, kp375, k370, k372, k373, k374⟩)
                  · have hf0 : fq = 0 := nI_z0 (by omega) c_376
                    refine lv_iconst (v := 0) hx hb dX11_law_158 (by decide) ?_
                    refine lv_istore_n (lv' := [(2, .int 0), (0, .ref y), (1, .int (nI on))]) hx hb dX11_law_159 rfl hl (by decide) rfl (fun ls hl => ?_)
                    have lp160 : ∀ (N : Nat) (k2 : Nat) (gd : Nat → Int32) (w377 : Wd), (k2 + N = 5) → (wd_at w377 y (.inr (11, [.int v0, .int td, .ref m2, .ref m3, .ref m4, .ref m5, .ref m6, .int (nI pc), .ref m8, .ref m9, .ref m10, .ref m11, .ref m12, .ref m13, .ref m14, .int (nI ac), .int (nI sc), .ref m17, .ref m18, .ref m19, .ref m20, .ref m21, .ref m22, .ref m23, .ref m24, .int 0, .int (nI a), .int (nI b), .int (nI fq), .ref m29, .ref m30, .ref m31, .ref m32, .ref m33, .ref m34, .ref m35, .ref m36, .ref m37, .int (nI sh), .ref m39, .ref m40, .ref m41, .ref m42, .ref m43, .ref m44, .ref m45, .ref m46, .ref m47, .ref m48, .ref m49, .int v50, .ref m51, .ref m52, .ref m53, .ref m54, .int (nI gf), .ref m56, .ref m57, .ref m58, .ref m59]))) → (wd_at w377 m24 (.inl (cy 0, 300, .inl f24))) → (wd_at w377 m35 (.inl (cy 2, 5, .inl gd))) → (wd_at w377 m36 (.inl (cy 4, 5, .inl h36))) → (wd_at w377 m37 (.inl (cy 2, 5, .inl h37))) → (wd_kp S w w377) → ∀ (ls : Array Slot), lv_has ls 3 [(0, .ref y), (2, .int (nI k2))] → Wv p l e ({ frames := 6, cells := 0, slots := 0, locals := 130 }) s m args below meth c D A (0) (0) Q w377 (F0 m 160 ls []) := by
                      intro N
                      induction N with
                      | zero =>
                        intro k2 gd w377 hN160 k378 k379 k380 k381 k382 kp383 ls hl H locs hP hD hS
                        refine lv_iload_n hx hb dX11_law_160 rfl (lv_at hl 1 rfl) ?_
                        refine lv_iconst (v := 5) hx hb dX11_law_161 (by decide) ?_
                        refine lv_icmp_ge (tgt := 183) hx hb dX11_law_162 (by decide) (fun c_384 => ?_) (fun c_384 => absurd (nI_le (a := 5) (b := k2) (by omega) (by omega)) c_384)
                        refine lv_aload_n hx hb dX11_law_183 rfl (lv_at hl 0 rfl) ?_
                        refine x_get (ref := "NoteHouseModel") F hP k378 rfl (fun _ h => List.mem_cons_of_mem _ (List.mem_append_right _ (h))) 28 (Nat.le_of_ble_eq_true rfl) (List.mem_cons_of_mem _ (List.mem_append_left _ (List.mem_append_left _ (List.mem_of_getElem? (i := 3) rfl)))) rfl rfl dX11_law_184 ?_
                        exact y_ir K hP hD hS (Nat.le_of_ble_eq_true rfl) (Nat.le_of_ble_eq_true rfl) (ty := .int) rfl rfl dX11_law_187 (⟨nI a, nI b, nI fq, gd, h36, h37, nI fq, rfl, kp383, k378, k380, k381, k382⟩)
                      | succ N ih160 =>
                        intro k2 gd w377 hN160 k378 k379 k380 k381 k382 kp383 ls hl H locs hP hD hS
                        refine lv_iload_n hx hb dX11_law_160 rfl (lv_at hl 1 rfl) ?_
                        refine lv_iconst (v := 5) hx hb dX11_law_161 (by decide) ?_
                        refine lv_icmp_ge (tgt := 183) hx hb dX11_law_162 (by decide) (fun c_385 => absurd c_385 (nI_ge (a := k2) (b := 5) (by omega) (by omega))) (fun c_385 => ?_)
                        refine lv_aload_n hx hb dX11_law_165 rfl (lv_at hl 0 rfl) ?_
                        refine x_get (ref := "NoteHouseModel") F hP k378 rfl (fun _ h => List.mem_cons_of_mem _ (List.mem_append_right _ (h))) 35 (Nat.le_of_ble_eq_true rfl) (List.mem_cons_of_mem _ (List.mem_append_left _ (List.mem_append_left _ (List.mem_of_getElem? (i := 6) rfl)))) rfl rfl dX11_law_166 ?_
                        refine lv_iload_n hx hb dX11_law_169 rfl (lv_at hl 1 rfl) ?_
                        refine lv_aload_n hx hb dX11_law_170 rfl (lv_at hl 0 rfl) ?_
                        refine x_get (ref := "NoteHouseModel") F hP k378 rfl (fun _ h => List.mem_cons_of_mem _ (List.mem_append_right _ (h))) 37 (Nat.le_of_ble_eq_true rfl) (List.mem_cons_of_mem _ (List.mem_append_left _ (List.mem_append_left _ (List.mem_of_getElem? (i := 1) rfl)))) rfl rfl dX11_law_171 ?_
                        refine lv_iload_n hx hb dX11_law_174 rfl (lv_at hl 1 rfl) ?_
                        refine x_iald F hP k382 (vp_in_nI (n := k2) (N := 5) (by omega) (by decide)) dX11_law_175 ?_
                        refine y_iast F hP hD hS k380 (vp_in_nI (n := k2) (N := 5) (by omega) (by decide)) dX11_law_176 (fun w386 ew387 H locs hP hD hS => ?_)
                        have k388 := wd_at.pt ew387 k378 (tg_ne ty tm35 (by decide))
                        have k389 := wd_at.pt ew387 k379 (tg_ne tm24 tm35 (by decide))
                        have k390 : wd_at w386 m35 (.inl (cy 2, 5, .inl (upd gd (nI k2).toNatClampNeg (h37 (nI k2).toNatClampNeg)))) := wd_at.ps ew387 k380
                        have k391 := wd_at.pt ew387 k381 (tg_ne tm36 tm35 (by decide))
                        have k392 := wd_at.pt ew387 k382 (tg_ne tm37 tm35 (by decide))
                        have kp393 := kp383.put ew387 s91
                        refine lv_iinc (v := nI (k2 + 1)) (lv' := [(2, .int (nI (k2 + 1))), (0, .ref y)]) hx hb dX11_law_177 hl (k := 1) rfl (nI_1 k2) (by decide) rfl (fun ls hl => ?_)
                        refine lv_goto (tgt := 160) hx hb dX11_law_180 (by decide) ?_
                        exact ih160 (k2 + 1) (upd gd (nI k2).toNatClampNeg (h37 (nI k2).toNatClampNeg)) w386 (by omega)  k388 k389 k390 k391 k392 kp393 ls (lv_sub hl [1, 0] rfl) H locs hP hD hS
                    exact lp160 _ 0 f35 w368 (Nat.zero_add 5)  k370 k371 k372 k373 k374 kp375 ls (lv_sub hl [1, 0] rfl) H locs hP hD hS
                · have hf0 : fq = 0 := nI_z0 (by omega) c_367
                  refine lv_aload_n hx hb dX11_law_82 rfl (lv_at hl 0 rfl) ?_
                  refine x_callV (n := 0) (As := []) (rest := []) F hP hD hS (m_clause l D cy sk sv w333 tg y m2 m3 m4 m5 m6 m8 m9 m10 m11 m12 m13 m14 m17 m18 m19 m20 m21 m22 m23 m24 m29 m30 m31 m32 m33 m34 m35 m36 m37 m39 m40 m41 m42 m43 m44 m45 m46 m47 m48 m49 m51 m52 m53 m54 m56 m57 m58 m59 pc ac sc ln sh gf v0 td (nI b) v50 f24 h36 h37 a fq k334 k335 k337 k338 (fun b => b = y ∨ b = m36 ∨ b = m37) (Or.inl rfl) (Or.inr (Or.inl rfl)) (Or.inr (Or.inr rfl)) ty tm24 tm36 tm37 (by omega) (by omega) (by omega)) gX11_law_X11_clause rfl rfl (by decide +kernel) ⟨(Nat.le_of_ble_eq_true rfl), (Nat.le_of_ble_eq_true rfl)⟩ rfl hl.1 (Nat.le_of_ble_eq_true rfl) k334 rfl dX11_law_83 rfl ⟨(Nat.le_of_ble_eq_true rfl), (Nat.le_of_ble_eq_true rfl)⟩ (fun v395 w396 hp394 H locs hP hD hS => ?_)
                  obtain ⟨ax397, bx398, fvx399, gx400, gx401, rfl, hz402, hz403, hz404, kq408, k405, k406, k407⟩ := hp394
                  have k409 := kq408.2 _ _ k335 (orN (tg_ne tm24 ty (by decide)) (orN (tg_ne tm24 tm36 (by decide)) (tg_ne tm24 tm37 (by decide))))
                  have k410 := kq408.2 _ _ k336 (orN (tg_ne tm35 ty (by decide)) (orN (tg_ne tm35 tm36 (by decide)) (tg_ne tm35 tm37 (by decide))))
                  have kp411 := kp339.tr kq408 (fun b9 hm q9 => (fun q9 => Or.elim q9 (fun q9 => q9 ▸ s90) (fun q9 => Or.elim q9 (fun q9 => q9 ▸ s92) (fun q9 => q9 ▸ s93))) q9)
                  refine W.eq (g2 := F0 m 86 ls []) rfl (W.widen (k := 0) (n := 0) (Nat.le_of_ble_eq_true rfl) (Nat.le_of_ble_eq_true rfl) ?_)
                  refine lv_aload_n hx hb dX11_law_86 rfl (lv_at hl 0 rfl) ?_
                  refine x_get (ref := "NoteHouseModel") F hP k405 rfl (fun _ h => List.mem_cons_of_mem _ (List.mem_append_right _ (h))) 28 (Nat.le_of_ble_eq_true rfl) (List.mem_cons_of_mem _ (List.mem_append_left _ (List.mem_append_left _ (List.mem_of_getElem? (i := 3) rfl)))) rfl rfl dX11_law_87 ?_
                  refine lv_if_ne (tgt := 104) hx hb dX11_law_90 (by decide) (fun c_412 => ?_) (fun c_412 => ?_)
                  · have hfp : 0 < fvx399 := nI_nz (by omega) c_412
                    refine lv_iconst (v := 0) hx hb dX11_law_104 (by decide) ?_
                    refine lv_istore_n (lv' := [(1, .int 0), (0, .ref y)]) hx hb dX11_law_105 rfl hl (by decide) rfl (fun ls hl => ?_)
                    refine lv_iload_n hx hb dX11_law_106 rfl (lv_at hl 0 rfl) ?_
                    refine lv_if_eq (tgt := 71) hx hb dX11_law_107 (by decide) (fun c_413 => ?_) (fun c_413 => absurd (show (0 : Int32) = (0 : Int32) by decide) c_413)
                    exact ih71 0 ax397 bx398 fvx399 gx400 gx401 w396 (by omega) (by omega) (by omega) (by omega) k405 k409 k410 k406 k407 kp411 ls (lv_sub hl [1, 0] rfl) H locs hP hD hS
                  · have hf0 : fvx399 = 0 := nI_z0 (by omega) c_412
                    refine lv_aload_n hx hb dX11_law_93 rfl (lv_at hl 0 rfl) ?_
                    refine x_callV (n := 0) (As := []) (rest := []) F hP hD hS (m_isEnd l D cy sk sv w396 tg y m2 m3 m4 m5 m6 m8 m9 m10 m11 m12 m13 m14 m17 m18 m19 m20 m21 m22 m23 m24 m29 m30 m31 m32 m33 m34 m35 m36 m37 m39 m40 m41 m42 m43 m44 m45 m46 m47 m48 m49 m51 m52 m53 m54 m56 m57 m58 m59 pc ac sc ln sh gf v0 td (nI bx398) (nI fvx399) v50 f24 ax397 k405 k409 (fun b => b = y) rfl ty tm24 (by omega) (by omega)) gX11_law_X11_isEnd rfl rfl (by decide +kernel) ⟨(Nat.le_of_ble_eq_true rfl), (Nat.le_of_ble_eq_true rfl)⟩ rfl hl.1 (Nat.le_of_ble_eq_true rfl) k405 rfl dX11_law_94 rfl ⟨(Nat.le_of_ble_eq_true rfl), (Nat.le_of_ble_eq_true rfl)⟩ (fun v415 w416 hp414 H locs hP hD hS => ?_)
                    obtain ⟨ax417, rx418, rfl, hz419, hz420, hz421, hz422, kq424, k423⟩ := hp414
                    have k425 := kq424.2 _ _ k409 (tg_ne tm24 ty (by decide))
                    have k426 := kq424.2 _ _ k410 (tg_ne tm35 ty (by decide))
                    have k427 := kq424.2 _ _ k406 (tg_ne tm36 ty (by decide))
                    have k428 := kq424.2 _ _ k407 (tg_ne tm37 ty (by decide))
                    have kp429 := kp411.tr kq424 (fun b9 hm q9 => (fun q9 => q9 ▸ s90) q9)
                    refine W.eq (g2 := F0 m 97 ls [.int rx418]) rfl (W.widen (k := 0) (n := 0) (Nat.le_of_ble_eq_true rfl) (Nat.le_of_ble_eq_true rfl) ?_)
                    refine lv_if_ne (tgt := 104) hx hb dX11_law_97 (by decide) (fun c_430 => ?_) (fun c_430 => ?_)
                    · refine lv_iconst (v := 0) hx hb dX11_law_104 (by decide) ?_
                      refine lv_istore_n (lv' := [(1, .int 0), (0, .ref y)]) hx hb dX11_law_105 rfl hl (by decide) rfl (fun ls hl => ?_)
                      refine lv_iload_n hx hb dX11_law_106 rfl (lv_at hl 0 rfl) ?_
                      refine lv_if_eq (tgt := 71) hx hb dX11_law_107 (by decide) (fun c_431 => ?_) (fun c_431 => absurd (show (0 : Int32) = (0 : Int32) by decide) c_431)
                      exact ih71 0 ax417 ax417 fvx399 gx400 gx401 w416 (by omega) (by omega) (by omega) (by omega) k423 k425 k426 k427 k428 kp429 ls (lv_sub hl [1, 0] rfl) H locs hP hD hS
                    · have hne := hz422 c_430
                      refine lv_iconst (v := 1) hx hb dX11_law_100 (by decide) ?_
                      refine lv_goto (tgt := 105) hx hb dX11_law_101 (by decide) ?_
                      refine lv_istore_n (lv' := [(1, .int 1), (0, .ref y)]) hx hb dX11_law_105 rfl hl (by decide) rfl (fun ls hl => ?_)
                      refine lv_iload_n hx hb dX11_law_106 rfl (lv_at hl 0 rfl) ?_
                      refine lv_if_eq (tgt := 71) hx hb dX11_law_107 (by decide) (fun c_432 => absurd c_432 (show ¬ (1 : Int32) = (0 : Int32) by decide)) (fun c_432 => ?_)
                      refine lv_aload_n hx hb dX11_law_110 rfl (lv_at hl 1 rfl) ?_
                      refine x_get (ref := "NoteHouseModel") F hP k423 rfl (fun _ h => List.mem_cons_of_mem _ (List.mem_append_right _ (h))) 24 (Nat.le_of_ble_eq_true rfl) (List.mem_cons_of_mem _ (List.mem_append_left _ (List.mem_append_left _ (List.mem_of_getElem? (i := 5) rfl)))) rfl rfl dX11_law_111 ?_
                      refine lv_aload_n hx hb dX11_law_114 rfl (lv_at hl 1 rfl) ?_
                      refine x_get (ref := "NoteHouseModel") F hP k423 rfl (fun _ h => List.mem_cons_of_mem _ (List.mem_append_right _ (h))) 26 (Nat.le_of_ble_eq_true rfl) (List.mem_cons_of_mem _ (List.mem_append_left _ (List.mem_append_left _ (List.mem_of_getElem? (i := 2) rfl)))) rfl rfl dX11_law_115 ?_
                      refine x_bald F hP k425 (vp_in_nI (n := ax417) (N := 300) (by omega) (by decide)) dX11_law_118 ?_
                      refine lv_bipush (v := 59) hx hb dX11_law_119 (by decide) ?_
                      refine lv_icmp_eq (tgt := 133) hx hb dX11_law_121 (by decide) (fun c_433 => ?_) (fun c_433 => ?_)
                      · refine lv_aload_n hx hb dX11_law_133 rfl (lv_at hl 1 rfl) ?_
                        refine lv_dup hx hb dX11_law_134 rfl ?_
                        refine x_get (ref := "NoteHouseModel") F hP k423 rfl (fun _ h => List.mem_cons_of_mem _ (List.mem_append_right _ (h))) 26 (Nat.le_of_ble_eq_true rfl) (List.mem_cons_of_mem _ (List.mem_append_left _ (List.mem_append_left _ (List.mem_of_getElem? (i := 2) rfl)))) rfl rfl dX11_law_135 ?_
                        refine lv_iconst (v := 1) hx hb dX11_law_138 (by decide) ?_
                        refine lv_iadd hx hb dX11_law_139 ?_
                        rw [show ((nI ax417) + 1 : Int32) = nI (ax417 + 1) from nI_add ax417 1]
                        refine y_put (ref := "NoteHouseModel") F hP hD hS k423 rfl (fun _ h => List.mem_cons_of_mem _ (List.mem_append_right _ (h))) tyX11_ok nmX11 26 (Nat.le_of_ble_eq_true rfl) (List.mem_cons_of_mem _ (List.mem_append_left _ (List.mem_append_left _ (List.mem_of_getElem? (i := 2) rfl)))) rfl rfl rfl rfl (Nat.le_of_ble_eq_true rfl) dX11_law_140 (fun w434 ew435 H locs hP hD hS => ?_)
                        have k436 : wd_at w434 y (.inr (11, [.int v0, .int td, .ref m2, .ref m3, .ref m4, .ref m5, .ref m6, .int (nI pc), .ref m8, .ref m9, .ref m10, .ref m11, .ref m12, .ref m13, .ref m14, .int (nI ac), .int (nI sc), .ref m17, .ref m18, .ref m19, .ref m20, .ref m21, .ref m22, .ref m23, .ref m24, .int (nI ln), .int (nI (ax417 + 1)), .int (nI ax417), .int (nI fvx399), .ref m29, .ref m30, .ref m31, .ref m32, .ref m33, .ref m34, .ref m35, .ref m36, .ref m37, .int (nI sh), .ref m39, .ref m40, .ref m41, .ref m42, .ref m43, .ref m44, .ref m45, .ref m46, .ref m47, .ref m48, .ref m49, .int v50, .ref m51, .ref m52, .ref m53, .ref m54, .int (nI gf), .ref m56, .ref m57, .ref m58, .ref m59])) := wd_at.ps ew435 k423
                        have k437 := wd_at.pt ew435 k425 (tg_ne tm24 ty (by decide))
                        have k438 := wd_at.pt ew435 k426 (tg_ne tm35 ty (by decide))
                        have k439 := wd_at.pt ew435 k427 (tg_ne tm36 ty (by decide))
                        have k440 := wd_at.pt ew435 k428 (tg_ne tm37 ty (by decide))
                        have kp441 := kp429.put ew435 s90
                        refine lv_goto (tgt := 71) hx hb dX11_law_143 (by decide) ?_
                        exact ih71 1 (ax417 + 1) ax417 fvx399 gx400 gx401 w434 (by omega) (by omega) (by omega) (by omega) k436 k437 k438 k439 k440 kp441 ls (lv_sub hl [1, 0] rfl) H locs hP hD hS
                      · refine lv_aload_n hx hb dX11_law_124 rfl (lv_at hl 1 rfl) ?_
                        refine lv_iconst (v := 0) hx hb dX11_law_125 (by decide) ?_
                        refine lv_aload_n hx hb dX11_law_126 rfl (lv_at hl 1 rfl) ?_
                        refine x_get (ref := "NoteHouseModel") F hP k423 rfl (fun _ h => List.mem_cons_of_mem _ (List.mem_append_right _ (h))) 26 (Nat.le_of_ble_eq_true rfl) (List.mem_cons_of_mem _ (List.mem_append_left _ (List.mem_append_left _ (List.mem_of_getElem? (i := 2) rfl)))) rfl rfl dX11_law_127 ?_
                        refine x_callV (n := 2) (As := [.int 0, .int (nI ax417)]) (rest := []) F hP hD hS (m_fails l D cy sk sv w416 tg y m2 m3 m4 m5 m6 m8 m9 m10 m11 m12 m13 m14 m17 m18 m19 m20 m21 m22 m23 m24 m29 m30 m31 m32 m33 m34 m35 m36 m37 m39 m40 m41 m42 m43 m44 m45 m46 m47 m48 m49 m51 m52 m53 m54 m56 m57 m58 m59 pc ac sc ln sh gf v0 td (nI ax417) (nI ax417) v50 fvx399 0 ax417 k423 (fun b => b = y) rfl ty (by omega) (by omega) (by omega)) gX11_law_X11_fails rfl rfl (by decide +kernel) ⟨(Nat.le_of_ble_eq_true rfl), (Nat.le_of_ble_eq_true rfl)⟩ rfl hl.1 (Nat.le_of_ble_eq_true rfl) k423 rfl dX11_law_130 rfl ⟨(Nat.le_of_ble_eq_true rfl), (Nat.le_of_ble_eq_true rfl)⟩ (fun v443 w444 hp442 H locs hP hD hS => ?_)
                        obtain ⟨fwx445, rfl, hz446, hz447, kq449, k448⟩ := hp442
                        have k450 := kq449.2 _ _ k425 (tg_ne tm24 ty (by decide))
                        have k451 := kq449.2 _ _ k426 (tg_ne tm35 ty (by decide))
                        have k452 := kq449.2 _ _ k427 (tg_ne tm36 ty (by decide))
                        have k453 := kq449.2 _ _ k428 (tg_ne tm37 ty (by decide))
                        have kp454 := kp429.tr kq449 (fun b9 hm q9 => (fun q9 => q9 ▸ s90) q9)
                        refine W.eq (g2 := F0 m 133 ls []) rfl (W.widen (k := 0) (n := 0) (Nat.le_of_ble_eq_true rfl) (Nat.le_of_ble_eq_true rfl) ?_)
                        refine lv_aload_n hx hb dX11_law_133 rfl (lv_at hl 1 rfl) ?_
                        refine lv_dup hx hb dX11_law_134 rfl ?_
                        refine x_get (ref := "NoteHouseModel") F hP k448 rfl (fun _ h => List.mem_cons_of_mem _ (List.mem_append_right _ (h))) 26 (Nat.le_of_ble_eq_true rfl) (List.mem_cons_of_mem _ (List.mem_append_left _ (List.mem_append_left _ (List.mem_of_getElem? (i := 2) rfl)))) rfl rfl dX11_law_135 ?_
                        refine lv_iconst (v := 1) hx hb dX11_law_138 (by decide) ?_
                        refine lv_iadd hx hb dX11_law_139 ?_
                        rw [show ((nI ax417) + 1 : Int32) = nI (ax417 + 1) from nI_add ax417 1]
                        refine y_put (ref := "NoteHouseModel") F hP hD hS k448 rfl (fun _ h => List.mem_cons_of_mem _ (List.mem_append_right _ (h))) tyX11_ok nmX11 26 (Nat.le_of_ble_eq_true rfl) (List.mem_cons_of_mem _ (List.mem_append_left _ (List.mem_append_left _ (List.mem_of_getElem? (i := 2) rfl)))) rfl rfl rfl rfl (Nat.le_of_ble_eq_true rfl) dX11_law_140 (fun w455 ew456 H locs hP hD hS => ?_)
                        have k457 : wd_at w455 y (.inr (11, [.int v0, .int td, .ref m2, .ref m3, .ref m4, .ref m5, .ref m6, .int (nI pc), .ref m8, .ref m9, .ref m10, .ref m11, .ref m12, .ref m13, .ref m14, .int (nI ac), .int (nI sc), .ref m17, .ref m18, .ref m19, .ref m20, .ref m21, .ref m22, .ref m23, .ref m24, .int (nI ln), .int (nI (ax417 + 1)), .int (nI ax417), .int (nI fwx445), .ref m29, .ref m30, .ref m31, .ref m32, .ref m33, .ref m34, .ref m35, .ref m36, .ref m37, .int (nI sh), .ref m39, .ref m40, .ref m41, .ref m42, .ref m43, .ref m44, .ref m45, .ref m46, .ref m47, .ref m48, .ref m49, .int v50, .ref m51, .ref m52, .ref m53, .ref m54, .int (nI gf), .ref m56, .ref m57, .ref m58, .ref m59])) := wd_at.ps ew456 k448
                        have k458 := wd_at.pt ew456 k450 (tg_ne tm24 ty (by decide))
                        have k459 := wd_at.pt ew456 k451 (tg_ne tm35 ty (by decide))
                        have k460 := wd_at.pt ew456 k452 (tg_ne tm36 ty (by decide))
                        have k461 := wd_at.pt ew456 k453 (tg_ne tm37 ty (by decide))
                        have kp462 := kp454.put ew456 s90
                        refine lv_goto (tgt := 71) hx hb dX11_law_143 (by decide) ?_
                        exact ih71 1 (ax417 + 1) ax417 fwx445 gx400 gx401 w455 (by omega) (by omega) (by omega) (by omega) k457 k458 k459 k460 k461 kp462 ls (lv_sub hl [1, 0] rfl) H locs hP hD hS
          exact lp71 (2 * ln + 2) 0 ax319 ax319 fwx306 ga gb w318 (by omega) (by omega) (by omega) (by omega) k325 k327 k328 k329 k330 kp331 ls (lv_sub hl [1, 0] rfl) H locs hP hD hS
        · refine lv_iconst (v := 1) hx hb dX11_law_65 (by decide) ?_
          refine lv_goto (tgt := 70) hx hb dX11_law_66 (by decide) ?_
          refine lv_istore_n (lv' := [(1, .int 1), (0, .ref y)]) hx hb dX11_law_70 rfl hl (by decide) rfl (fun ls hl => ?_)
          have lp71 : ∀ (N : Nat) (on : Nat) (a : Nat) (b : Nat) (fq : Nat) (h36 : Nat → Int32) (h37 : Nat → Int32) (w463 : Wd), (2 * ln + on + 1 ≤ 2 * a + N) → (a ≤ ln) → (fq < 2000) → (on ≤ 1) → (wd_at w463 y (.inr (11, [.int v0, .int td, .ref m2, .ref m3, .ref m4, .ref m5, .ref m6, .int (nI pc), .ref m8, .ref m9, .ref m10, .ref m11, .ref m12, .ref m13, .ref m14, .int (nI ac), .int (nI sc), .ref m17, .ref m18, .ref m19, .ref m20, .ref m21, .ref m22, .ref m23, .ref m24, .int (nI ln), .int (nI a), .int (nI b), .int (nI fq), .ref m29, .ref m30, .ref m31, .ref m32, .ref m33, .ref m34, .ref m35, .ref m36, .ref m37, .int (nI sh), .ref m39, .ref m40, .ref m41, .ref m42, .ref m43, .ref m44, .ref m45, .ref m46, .ref m47, .ref m48, .ref m49, .int v50, .ref m51, .ref m52, .ref m53, .ref m54, .int (nI gf), .ref m56, .ref m57, .ref m58, .ref m59]))) → (wd_at w463 m24 (.inl (cy 0, 300, .inl f24))) → (wd_at w463 m35 (.inl (cy 2, 5, .inl f35))) → (wd_at w463 m36 (.inl (cy 4, 5, .inl h36))) → (wd_at w463 m37 (.inl (cy 2, 5, .inl h37))) → (wd_kp S w w463) → ∀ (ls : Array Slot), lv_has ls 3 [(0, .ref y), (1, .int (nI on))] → Wv p l e ({ frames := 6, cells := 0, slots := 0, locals := 130 }) s m args below meth c D A (0) (0) Q w463 (F0 m 71 ls []) := by
            intro N
            induction N with
            | zero =>
              intro on a b fq h36 h37 w463 hN71 ha2 hfq hon k464 k465 k466 k467 k468 kp469 ls hl H locs hP hD hS
              exact absurd hN71 (by omega)
            | succ N ih71 =>
              intro on a b fq h36 h37 w463 hN71 ha2 hfq hon k464 k465 k466 k467 k468 kp469 ls hl H locs hP hD hS
              refine lv_iload_n hx hb dX11_law_71 rfl (lv_at hl 1 rfl) ?_
              refine lv_if_eq (tgt := 146) hx hb dX11_law_72 (by decide) (fun c_470 => ?_) (fun c_470 => ?_)
              · refine lv_aload_n hx hb dX11_law_146 rfl (lv_at hl 0 rfl) ?_
                refine lv_iconst (v := 0) hx hb dX11_law_147 (by decide) ?_
                refine y_put (ref := "NoteHouseModel") F hP hD hS k464 rfl (fun _ h => List.mem_cons_of_mem _ (List.mem_append_right _ (h))) tyX11_ok nmX11 25 (Nat.le_of_ble_eq_true rfl) (List.mem_cons_of_mem _ (List.mem_append_left _ (List.mem_append_left _ (List.mem_of_getElem? (i := 4) rfl)))) rfl rfl rfl rfl (Nat.le_of_ble_eq_true rfl) dX11_law_148 (fun w471 ew472 H locs hP hD hS => ?_)
                have k473 : wd_at w471 y (.inr (11, [.int v0, .int td, .ref m2, .ref m3, .ref m4, .ref m5, .ref m6, .int (nI pc), .ref m8, .ref m9, .ref m10, .ref m11, .ref m12, .ref m13, .ref m14, .int (nI ac), .int (nI sc), .ref m17, .ref m18, .ref m19, .ref m20, .ref m21, .ref m22, .ref m23, .ref m24, .int 0, .int (nI a), .int (nI b), .int (nI fq), .ref m29, .ref m30, .ref m31, .ref m32, .ref m33, .ref m34, .ref m35, .ref m36, .ref m37, .int (nI sh), .ref m39, .ref m40, .ref m41, .ref m42, .ref m43, .ref m44, .ref m45, .ref m46, .ref m47, .ref m48, .ref m49, .int v50, .ref m51, .ref m52, .ref m53, .ref m54, .int (nI gf), .ref m56, .ref m57, .ref m58, .ref m59])) := wd_at.ps ew472 k464
                have k474 := wd_at.pt ew472 k465 (tg_ne tm24 ty (by decide))
                have k475 := wd_at.pt ew472 k466 (tg_ne tm35 ty (by decide))
                have k476 := wd_at.pt ew472 k467 (tg_ne tm36 ty (by decide))
                have k477 := wd_at.pt ew472 k468 (tg_ne tm37 ty (by decide))
                have kp478 := kp469.put ew472 s90
                refine lv_aload_n hx hb dX11_law_151 rfl (lv_at hl 0 rfl) ?_
                refine x_get (ref := "NoteHouseModel") F hP k473 rfl (fun _ h => List.mem_cons_of_mem _ (List.mem_append_right _ (h))) 28 (Nat.le_of_ble_eq_true rfl) (List.mem_cons_of_mem _ (List.mem_append_left _ (List.mem_append_left _ (List.mem_of_getElem? (i := 3) rfl)))) rfl rfl dX11_law_152 ?_
                refine lv_if_ne (tgt := 183) hx hb dX11_law_155 (by decide) (fun c_479 => ?_) (fun c_479 => ?_)
                · have hfp : 0 < fq := nI_nz (by omega) c_479
                  refine lv_aload_n hx hb dX11_law_183 rfl (lv_at hl 0 rfl) ?_
                  refine x_get (ref := "NoteHouseModel") F hP k473 rfl (fun _ h => List.mem_cons_of_mem _ (List.mem_append_right _ (h))) 28 (Nat.le_of_ble_eq_true rfl) (List.mem_cons_of_mem _ (List.mem_append_left _ (List.mem_append_left _ (List.mem_of_getElem? (i := 3) rfl)))) rfl rfl dX11_law_184 ?_
                  exact y_ir K hP hD hS (Nat.le_of_ble_eq_true rfl) (Nat.le_of_ble_eq_true rfl) (ty := .int) rfl rfl dX11_law_187 (⟨nI a, nI b, nI fq, f35, h36, h37, nI fq, rfl, kp478, k473, k475, k476, k477⟩)
                · have hf0 : fq = 0 := nI_z0 (by omega) c_479
                  refine lv_iconst (v := 0) hx hb dX11_law_158 (by decide) ?_
                  refine lv_istore_n (lv' := [(2, .int 0), (0, .ref y), (1, .int (nI on))]) hx hb dX11_law_159 rfl hl (by decide) rfl (fun ls hl => ?_)
                  have lp160 : ∀ (N : Nat) (k2 : Nat) (gd : Nat → Int32) (w480 : Wd), (k2 + N = 5) → (wd_at w480 y (.inr (11, [.int v0, .int td, .ref m2, .ref m3, .ref m4, .ref m5, .ref m6, .int (nI pc), .ref m8, .ref m9, .ref m10, .ref m11, .ref m12, .ref m13, .ref m14, .int (nI ac), .int (nI sc), .ref m17, .ref m18, .ref m19, .ref m20, .ref m21, .ref m22, .ref m23, .ref m24, .int 0, .int (nI a), .int (nI b), .int (nI fq), .ref m29, .ref m30, .ref m31, .ref m32, .ref m33, .ref m34, .ref m35, .ref m36, .ref m37, .int (nI sh), .ref m39, .ref m40, .ref m41, .ref m42, .ref m43, .ref m44, .ref m45, .ref m46, .ref m47, .ref m48, .ref m49, .int v50, .ref m51, .ref m52, .ref m53, .ref m54, .int (nI gf), .ref m56, .ref m57, .ref m58, .ref m59]))) → (wd_at w480 m24 (.inl (cy 0, 300, .inl f24))) → (wd_at w480 m35 (.inl (cy 2, 5, .inl gd))) → (wd_at w480 m36 (.inl (cy 4, 5, .inl h36))) → (wd_at w480 m37 (.inl (cy 2, 5, .inl h37))) → (wd_kp S w w480) → ∀ (ls : Array Slot), lv_has ls 3 [(0, .ref y), (2, .int (nI k2))] → Wv p l e ({ frames := 6, cells := 0, slots := 0, locals := 130 }) s m args below meth c D A (0) (0) Q w480 (F0 m 160 ls []) := by
                    intro N
                    induction N with
                    | zero =>
                      intro k2 gd w480 hN160 k481 k482 k483 k484 k485 kp486 ls hl H locs hP hD hS
                      refine lv_iload_n hx hb dX11_law_160 rfl (lv_at hl 1 rfl) ?_
                      refine lv_iconst (v := 5) hx hb dX11_law_161 (by decide) ?_
                      refine lv_icmp_ge (tgt := 183) hx hb dX11_law_162 (by decide) (fun c_487 => ?_) (fun c_487 => absurd (nI_le (a := 5) (b := k2) (by omega) (by omega)) c_487)
                      refine lv_aload_n hx hb dX11_law_183 rfl (lv_at hl 0 rfl) ?_
                      refine x_get (ref := "NoteHouseModel") F hP k481 rfl (fun _ h => List.mem_cons_of_mem _ (List.mem_append_right _ (h))) 28 (Nat.le_of_ble_eq_true rfl) (List.mem_cons_of_mem _ (List.mem_append_left _ (List.mem_append_left _ (List.mem_of_getElem? (i := 3) rfl)))) rfl rfl dX11_law_184 ?_
                      exact y_ir K hP hD hS (Nat.le_of_ble_eq_true rfl) (Nat.le_of_ble_eq_true rfl) (ty := .int) rfl rfl dX11_law_187 (⟨nI a, nI b, nI fq, gd, h36, h37, nI fq, rfl, kp486, k481, k483, k484, k485⟩)
                    | succ N ih160 =>
                      intro k2 gd w480 hN160 k481 k482 k483 k484 k485 kp486 ls hl H locs hP hD hS
                      refine lv_iload_n hx hb dX11_law_160 rfl (lv_at hl 1 rfl) ?_
                      refine lv_iconst (v := 5) hx hb dX11_law_161 (by decide) ?_
                      refine lv_icmp_ge (tgt := 183) hx hb dX11_law_162 (by decide) (fun c_488 => absurd c_488 (nI_ge (a := k2) (b := 5) (by omega) (by omega))) (fun c_488 => ?_)
                      refine lv_aload_n hx hb dX11_law_165 rfl (lv_at hl 0 rfl) ?_
                      refine x_get (ref := "NoteHouseModel") F hP k481 rfl (fun _ h => List.mem_cons_of_mem _ (List.mem_append_right _ (h))) 35 (Nat.le_of_ble_eq_true rfl) (List.mem_cons_of_mem _ (List.mem_append_left _ (List.mem_append_left _ (List.mem_of_getElem? (i := 6) rfl)))) rfl rfl dX11_law_166 ?_
                      refine lv_iload_n hx hb dX11_law_169 rfl (lv_at hl 1 rfl) ?_
                      refine lv_aload_n hx hb dX11_law_170 rfl (lv_at hl 0 rfl) ?_
                      refine x_get (ref := "NoteHouseModel") F hP k481 rfl (fun _ h => List.mem_cons_of_mem _ (List.mem_append_right _ (h))) 37 (Nat.le_of_ble_eq_true rfl) (List.mem_cons_of_mem _ (List.mem_append_left _ (List.mem_append_left _ (List.mem_of_getElem? (i := 1) rfl)))) rfl rfl dX11_law_171 ?_
                      refine lv_iload_n hx hb dX11_law_174 rfl (lv_at hl 1 rfl) ?_
                      refine x_iald F hP k485 (vp_in_nI (n := k2) (N := 5) (by omega) (by decide)) dX11_law_175 ?_
                      refine y_iast F hP hD hS k483 (vp_in_nI (n := k2) (N := 5) (by omega) (by decide)) dX11_law_176 (fun w489 ew490 H locs hP hD hS => ?_)
                      have k491 := wd_at.pt ew490 k481 (tg_ne ty tm35 (by decide))
                      have k492 := wd_at.pt ew490 k482 (tg_ne tm24 tm35 (by decide))
                      have k493 : wd_at w489 m35 (.inl (cy 2, 5, .inl (upd gd (nI k2).toNatClampNeg (h37 (nI k2).toNatClampNeg)))) := wd_at.ps ew490 k483
                      have k494 := wd_at.pt ew490 k484 (tg_ne tm36 tm35 (by decide))
                      have k495 := wd_at.pt ew490 k485 (tg_ne tm37 tm35 (by decide))
                      have kp496 := kp486.put ew490 s91
                      refine lv_iinc (v := nI (k2 + 1)) (lv' := [(2, .int (nI (k2 + 1))), (0, .ref y)]) hx hb dX11_law_177 hl (k := 1) rfl (nI_1 k2) (by decide) rfl (fun ls hl => ?_)
                      refine lv_goto (tgt := 160) hx hb dX11_law_180 (by decide) ?_
                      exact ih160 (k2 + 1) (upd gd (nI k2).toNatClampNeg (h37 (nI k2).toNatClampNeg)) w489 (by omega)  k491 k492 k493 k494 k495 kp496 ls (lv_sub hl [1, 0] rfl) H locs hP hD hS
                  exact lp160 _ 0 f35 w471 (Nat.zero_add 5)  k473 k474 k475 k476 k477 kp478 ls (lv_sub hl [1, 0] rfl) H locs hP hD hS
              · have hon1 : 0 < on := nI_nz (by omega) c_470
                refine lv_aload_n hx hb dX11_law_75 rfl (lv_at hl 0 rfl) ?_
                refine x_get (ref := "NoteHouseModel") F hP k464 rfl (fun _ h => List.mem_cons_of_mem _ (List.mem_append_right _ (h))) 28 (Nat.le_of_ble_eq_true rfl) (List.mem_cons_of_mem _ (List.mem_append_left _ (List.mem_append_left _ (List.mem_of_getElem? (i := 3) rfl)))) rfl rfl dX11_law_76 ?_
                refine lv_if_ne (tgt := 146) hx hb dX11_law_79 (by decide) (fun c_497 => ?_) (fun c_497 => ?_)
                · have hfp : 0 < fq := nI_nz (by omega) c_497
                  refine lv_aload_n hx hb dX11_law_146 rfl (lv_at hl 0 rfl) ?_
                  refine lv_iconst (v := 0) hx hb dX11_law_147 (by decide) ?_
                  refine y_put (ref := "NoteHouseModel") F hP hD hS k464 rfl (fun _ h => List.mem_cons_of_mem _ (List.mem_append_right _ (h))) tyX11_ok nmX11 25 (Nat.le_of_ble_eq_true rfl) (List.mem_cons_of_mem _ (List.mem_append_left _ (List.mem_append_left _ (List.mem_of_getElem? (i := 4) rfl)))) rfl rfl rfl rfl (Nat.le_of_ble_eq_true rfl) dX11_law_148 (fun w498 ew499 H locs hP hD hS => ?_)
                  have k500 : wd_at w498 y (.inr (11, [.int v0, .int td, .ref m2, .ref m3, .ref m4, .ref m5, .ref m6, .int (nI pc), .ref m8, .ref m9, .ref m10, .ref m11, .ref m12, .ref m13, .ref m14, .int (nI ac), .int (nI sc), .ref m17, .ref m18, .ref m19, .ref m20, .ref m21, .ref m22, .ref m23, .ref m24, .int 0, .int (nI a), .int (nI b), .int (nI fq), .ref m29, .ref m30, .ref m31, .ref m32, .ref m33, .ref m34, .ref m35, .ref m36, .ref m37, .int (nI sh), .ref m39, .ref m40, .ref m41, .ref m42, .ref m43, .ref m44, .ref m45, .ref m46, .ref m47, .ref m48, .ref m49, .int v50, .ref m51, .ref m52, .ref m53, .ref m54, .int (nI gf), .ref m56, .ref m57, .ref m58, .ref m59])) := wd_at.ps ew499 k464
                  have k501 := wd_at.pt ew499 k465 (tg_ne tm24 ty (by decide))
                  have k502 := wd_at.pt ew499 k466 (tg_ne tm35 ty (by decide))
                  have k503 := wd_at.pt ew499 k467 (tg_ne tm36 ty (by decide))
                  have k504 := wd_at.pt ew499 k468 (tg_ne tm37 ty (by decide))
                  have kp505 := kp469.put ew499 s90
                  refine lv_aload_n hx hb dX11_law_151 rfl (lv_at hl 0 rfl) ?_
                  refine x_get (ref := "NoteHouseModel") F hP k500 rfl (fun _ h => List.mem_cons_of_mem _ (List.mem_append_right _ (h))) 28 (Nat.le_of_ble_eq_true rfl) (List.mem_cons_of_mem _ (List.mem_append_left _ (List.mem_append_left _ (List.mem_of_getElem? (i := 3) rfl)))) rfl rfl dX11_law_152 ?_
                  refine lv_if_ne (tgt := 183) hx hb dX11_law_155 (by decide) (fun c_506 => ?_) (fun c_506 => ?_)
                  · have hfp : 0 < fq := nI_nz (by omega) c_506
                    refine lv_aload_n hx hb dX11_law_183 rfl (lv_at hl 0 rfl) ?_
                    refine x_get (ref := "NoteHouseModel") F hP k500 rfl (fun _ h => List.mem_cons_of_mem _ (List.mem_append_right _ (h))) 28 (Nat.le_of_ble_eq_true rfl) (List.mem_cons_of_mem _ (List.mem_append_left _ (List.mem_append_left _ (List.mem_of_getElem? (i := 3) rfl)))) rfl rfl dX11_law_184 ?_
                    exact y_ir K hP hD hS (Nat.le_of_ble_eq_true rfl) (Nat.le_of_ble_eq_true rfl) (ty := .int) rfl rfl dX11_law_187 (⟨nI a, nI b, nI fq, f35, h36, h37, nI fq, rfl, kp505, k500, k502, k503, k504⟩)
                  · have hf0 : fq = 0 := nI_z0 (by omega) c_506
                    refine lv_iconst (v := 0) hx hb dX11_law_158 (by decide) ?_
                    refine lv_istore_n (lv' := [(2, .int 0), (0, .ref y), (1, .int (nI on))]) hx hb dX11_law_159 rfl hl (by decide) rfl (fun ls hl => ?_)
                    have lp160 : ∀ (N : Nat) (k2 : Nat) (gd : Nat → Int32) (w507 : Wd), (k2 + N = 5) → (wd_at w507 y (.inr (11, [.int v0, .int td, .ref m2, .ref m3, .ref m4, .ref m5, .ref m6, .int (nI pc), .ref m8, .ref m9, .ref m10, .ref m11, .ref m12, .ref m13, .ref m14, .int (nI ac), .int (nI sc), .ref m17, .ref m18, .ref m19, .ref m20, .ref m21, .ref m22, .ref m23, .ref m24, .int 0, .int (nI a), .int (nI b), .int (nI fq), .ref m29, .ref m30, .ref m31, .ref m32, .ref m33, .ref m34, .ref m35, .ref m36, .ref m37, .int (nI sh), .ref m39, .ref m40, .ref m41, .ref m42, .ref m43, .ref m44, .ref m45, .ref m46, .ref m47, .ref m48, .ref m49, .int v50, .ref m51, .ref m52, .ref m53, .ref m54, .int (nI gf), .ref m56, .ref m57, .ref m58, .ref m59]))) → (wd_at w507 m24 (.inl (cy 0, 300, .inl f24))) → (wd_at w507 m35 (.inl (cy 2, 5, .inl gd))) → (wd_at w507 m36 (.inl (cy 4, 5, .inl h36))) → (wd_at w507 m37 (.inl (cy 2, 5, .inl h37))) → (wd_kp S w w507) → ∀ (ls : Array Slot), lv_has ls 3 [(0, .ref y), (2, .int (nI k2))] → Wv p l e ({ frames := 6, cells := 0, slots := 0, locals := 130 }) s m args below meth c D A (0) (0) Q w507 (F0 m 160 ls []) := by
                      intro N
                      induction N with
                      | zero =>
                        intro k2 gd w507 hN160 k508 k509 k510 k511 k512 kp513 ls hl H locs hP hD hS
                        refine lv_iload_n hx hb dX11_law_160 rfl (lv_at hl 1 rfl) ?_
                        refine lv_iconst (v := 5) hx hb dX11_law_161 (by decide) ?_
                        refine lv_icmp_ge (tgt := 183) hx hb dX11_law_162 (by decide) (fun c_514 => ?_) (fun c_514 => absurd (nI_le (a := 5) (b := k2) (by omega) (by omega)) c_514)
                        refine lv_aload_n hx hb dX11_law_183 rfl (lv_at hl 0 rfl) ?_
                        refine x_get (ref := "NoteHouseModel") F hP k508 rfl (fun _ h => List.mem_cons_of_mem _ (List.mem_append_right _ (h))) 28 (Nat.le_of_ble_eq_true rfl) (List.mem_cons_of_mem _ (List.mem_append_left _ (List.mem_append_left _ (List.mem_of_getElem? (i := 3) rfl)))) rfl rfl dX11_law_184 ?_
                        exact y_ir K hP hD hS (Nat.le_of_ble_eq_true rfl) (Nat.le_of_ble_eq_true rfl) (ty := .int) rfl rfl dX11_law_187 (⟨nI a, nI b, nI fq, gd, h36, h37, nI fq, rfl, kp513, k508, k510, k511, k512⟩)
                      | succ N ih160 =>
                        intro k2 gd w507 hN160 k508 k509 k510 k511 k512 kp513 ls hl H locs hP hD hS
                        refine lv_iload_n hx hb dX11_law_160 rfl (lv_at hl 1 rfl) ?_
                        refine lv_iconst (v := 5) hx hb dX11_law_161 (by decide) ?_
                        refine lv_icmp_ge (tgt := 183) hx hb dX11_law_162 (by decide) (fun c_515 => absurd c_515 (nI_ge (a := k2) (b := 5) (by omega) (by omega))) (fun c_515 => ?_)
                        refine lv_aload_n hx hb dX11_law_165 rfl (lv_at hl 0 rfl) ?_
                        refine x_get (ref := "NoteHouseModel") F hP k508 rfl (fun _ h => List.mem_cons_of_mem _ (List.mem_append_right _ (h))) 35 (Nat.le_of_ble_eq_true rfl) (List.mem_cons_of_mem _ (List.mem_append_left _ (List.mem_append_left _ (List.mem_of_getElem? (i := 6) rfl)))) rfl rfl dX11_law_166 ?_
                        refine lv_iload_n hx hb dX11_law_169 rfl (lv_at hl 1 rfl) ?_
                        refine lv_aload_n hx hb dX11_law_170 rfl (lv_at hl 0 rfl) ?_
                        refine x_get (ref := "NoteHouseModel") F hP k508 rfl (fun _ h => List.mem_cons_of_mem _ (List.mem_append_right _ (h))) 37 (Nat.le_of_ble_eq_true rfl) (List.mem_cons_of_mem _ (List.mem_append_left _ (List.mem_append_left _ (List.mem_of_getElem? (i := 1) rfl)))) rfl rfl dX11_law_171 ?_
                        refine lv_iload_n hx hb dX11_law_174 rfl (lv_at hl 1 rfl) ?_
                        refine x_iald F hP k512 (vp_in_nI (n := k2) (N := 5) (by omega) (by decide)) dX11_law_175 ?_
                        refine y_iast F hP hD hS k510 (vp_in_nI (n := k2) (N := 5) (by omega) (by decide)) dX11_law_176 (fun w516 ew517 H locs hP hD hS => ?_)
                        have k518 := wd_at.pt ew517 k508 (tg_ne ty tm35 (by decide))
                        have k519 := wd_at.pt ew517 k509 (tg_ne tm24 tm35 (by decide))
                        have k520 : wd_at w516 m35 (.inl (cy 2, 5, .inl (upd gd (nI k2).toNatClampNeg (h37 (nI k2).toNatClampNeg)))) := wd_at.ps ew517 k510
                        have k521 := wd_at.pt ew517 k511 (tg_ne tm36 tm35 (by decide))
                        have k522 := wd_at.pt ew517 k512 (tg_ne tm37 tm35 (by decide))
                        have kp523 := kp513.put ew517 s91
                        refine lv_iinc (v := nI (k2 + 1)) (lv' := [(2, .int (nI (k2 + 1))), (0, .ref y)]) hx hb dX11_law_177 hl (k := 1) rfl (nI_1 k2) (by decide) rfl (fun ls hl => ?_)
                        refine lv_goto (tgt := 160) hx hb dX11_law_180 (by decide) ?_
                        exact ih160 (k2 + 1) (upd gd (nI k2).toNatClampNeg (h37 (nI k2).toNatClampNeg)) w516 (by omega)  k518 k519 k520 k521 k522 kp523 ls (lv_sub hl [1, 0] rfl) H locs hP hD hS
                    exact lp160 _ 0 f35 w498 (Nat.zero_add 5)  k500 k501 k502 k503 k504 kp505 ls (lv_sub hl [1, 0] rfl) H locs hP hD hS
                · have hf0 : fq = 0 := nI_z0 (by omega) c_497
                  refine lv_aload_n hx hb dX11_law_82 rfl (lv_at hl 0 rfl) ?_
                  refine x_callV (n := 0) (As := []) (rest := []) F hP hD hS (m_clause l D cy sk sv w463 tg y m2 m3 m4 m5 m6 m8 m9 m10 m11 m12 m13 m14 m17 m18 m19 m20 m21 m22 m23 m24 m29 m30 m31 m32 m33 m34 m35 m36 m37 m39 m40 m41 m42 m43 m44 m45 m46 m47 m48 m49 m51 m52 m53 m54 m56 m57 m58 m59 pc ac sc ln sh gf v0 td (nI b) v50 f24 h36 h37 a fq k464 k465 k467 k468 (fun b => b = y ∨ b = m36 ∨ b = m37) (Or.inl rfl) (Or.inr (Or.inl rfl)) (Or.inr (Or.inr rfl)) ty tm24 tm36 tm37 (by omega) (by omega) (by omega)) gX11_law_X11_clause rfl rfl (by decide +kernel) ⟨(Nat.le_of_ble_eq_true rfl), (Nat.le_of_ble_eq_true rfl)⟩ rfl hl.1 (Nat.le_of_ble_eq_true rfl) k464 rfl dX11_law_83 rfl ⟨(Nat.le_of_ble_eq_true rfl), (Nat.le_of_ble_eq_true rfl)⟩ (fun v525 w526 hp524 H locs hP hD hS => ?_)
                  obtain ⟨ax527, bx528, fvx529, gx530, gx531, rfl, hz532, hz533, hz534, kq538, k535, k536, k537⟩ := hp524
                  have k539 := kq538.2 _ _ k465 (orN (tg_ne tm24 ty (by decide)) (orN (tg_ne tm24 tm36 (by decide)) (tg_ne tm24 tm37 (by decide))))
                  have k540 := kq538.2 _ _ k466 (orN (tg_ne tm35 ty (by decide)) (orN (tg_ne tm35 tm36 (by decide)) (tg_ne tm35 tm37 (by decide))))
                  have kp541 := kp469.tr kq538 (fun b9 hm q9 => (fun q9 => Or.elim q9 (fun q9 => q9 ▸ s90) (fun q9 => Or.elim q9 (fun q9 => q9 ▸ s92) (fun q9 => q9 ▸ s93))) q9)
                  refine W.eq (g2 := F0 m 86 ls []) rfl (W.widen (k := 0) (n := 0) (Nat.le_of_ble_eq_true rfl) (Nat.le_of_ble_eq_true rfl) ?_)
                  refine lv_aload_n hx hb dX11_law_86 rfl (lv_at hl 0 rfl) ?_
                  refine x_get (ref := "NoteHouseModel") F hP k535 rfl (fun _ h => List.mem_cons_of_mem _ (List.mem_append_right _ (h))) 28 (Nat.le_of_ble_eq_true rfl) (List.mem_cons_of_mem _ (List.mem_append_left _ (List.mem_append_left _ (List.mem_of_getElem? (i := 3) rfl)))) rfl rfl dX11_law_87 ?_
                  refine lv_if_ne (tgt := 104) hx hb dX11_law_90 (by decide) (fun c_542 => ?_) (fun c_542 => ?_)
                  · have hfp : 0 < fvx529 := nI_nz (by omega) c_542
                    refine lv_iconst (v := 0) hx hb dX11_law_104 (by decide) ?_
                    refine lv_istore_n (lv' := [(1, .int 0), (0, .ref y)]) hx hb dX11_law_105 rfl hl (by decide) rfl (fun ls hl => ?_)
                    refine lv_iload_n hx hb dX11_law_106 rfl (lv_at hl 0 rfl) ?_
                    refine lv_if_eq (tgt := 71) hx hb dX11_law_107 (by decide) (fun c_543 => ?_) (fun c_543 => absurd (show (0 : Int32) = (0 : Int32) by decide) c_543)
                    exact ih71 0 ax527 bx528 fvx529 gx530 gx531 w526 (by omega) (by omega) (by omega) (by omega) k535 k539 k540 k536 k537 kp541 ls (lv_sub hl [1, 0] rfl) H locs hP hD hS
                  · have hf0 : fvx529 = 0 := nI_z0 (by omega) c_542
                    refine lv_aload_n hx hb dX11_law_93 rfl (lv_at hl 0 rfl) ?_
                    refine x_callV (n := 0) (As := []) (rest := []) F hP hD hS (m_isEnd l D cy sk sv w526 tg y m2 m3 m4 m5 m6 m8 m9 m10 m11 m12 m13 m14 m17 m18 m19 m20 m21 m22 m23 m24 m29 m30 m31 m32 m33 m34 m35 m36 m37 m39 m40 m41 m42 m43 m44 m45 m46 m47 m48 m49 m51 m52 m53 m54 m56 m57 m58 m59 pc ac sc ln sh gf v0 td (nI bx528) (nI fvx529) v50 f24 ax527 k535 k539 (fun b => b = y) rfl ty tm24 (by omega) (by omega)) gX11_law_X11_isEnd rfl rfl (by decide +kernel) ⟨(Nat.le_of_ble_eq_true rfl), (Nat.le_of_ble_eq_true rfl)⟩ rfl hl.1 (Nat.le_of_ble_eq_true rfl) k535 rfl dX11_law_94 rfl ⟨(Nat.le_of_ble_eq_true rfl), (Nat.le_of_ble_eq_true rfl)⟩ (fun v545 w546 hp544 H locs hP hD hS => ?_)
                    obtain ⟨ax547, rx548, rfl, hz549, hz550, hz551, hz552, kq554, k553⟩ := hp544
                    have k555 := kq554.2 _ _ k539 (tg_ne tm24 ty (by decide))
                    have k556 := kq554.2 _ _ k540 (tg_ne tm35 ty (by decide))
                    have k557 := kq554.2 _ _ k536 (tg_ne tm36 ty (by decide))
                    have k558 := kq554.2 _ _ k537 (tg_ne tm37 ty (by decide))
                    have kp559 := kp541.tr kq554 (fun b9 hm q9 => (fun q9 => q9 ▸ s90) q9)
                    refine W.eq (g2 := F0 m 97 ls [.int rx548]) rfl (W.widen (k := 0) (n := 0) (Nat.le_of_ble_eq_true rfl) (Nat.le_of_ble_eq_true rfl) ?_)
                    refine lv_if_ne (tgt := 104) hx hb dX11_law_97 (by decide) (fun c_560 => ?_) (fun c_560 => ?_)
                    · refine lv_iconst (v := 0) hx hb dX11_law_104 (by decide) ?_
                      refine lv_istore_n (lv' := [(1, .int 0), (0, .ref y)]) hx hb dX11_law_105 rfl hl (by decide) rfl (fun ls hl => ?_)
                      refine lv_iload_n hx hb dX11_law_106 rfl (lv_at hl 0 rfl) ?_
                      refine lv_if_eq (tgt := 71) hx hb dX11_law_107 (by decide) (fun c_561 => ?_) (fun c_561 => absurd (show (0 : Int32) = (0 : Int32) by decide) c_561)
                      exact ih71 0 ax547 ax547 fvx529 gx530 gx531 w546 (by omega) (by omega) (by omega) (by omega) k553 k555 k556 k557 k558 kp559 ls (lv_sub hl [1, 0] rfl) H locs hP hD hS
                    · have hne := hz552 c_560
                      refine lv_iconst (v := 1) hx hb dX11_law_100 (by decide) ?_
                      refine lv_goto (tgt := 105) hx hb dX11_law_101 (by decide) ?_
                      refine lv_istore_n (lv' := [(1, .int 1), (0, .ref y)]) hx hb dX11_law_105 rfl hl (by decide) rfl (fun ls hl => ?_)
                      refine lv_iload_n hx hb dX11_law_106 rfl (lv_at hl 0 rfl) ?_
                      refine lv_if_eq (tgt := 71) hx hb dX11_law_107 (by decide) (fun c_562 => absurd c_562 (show ¬ (1 : Int32) = (0 : Int32) by decide)) (fun c_562 => ?_)
                      refine lv_aload_n hx hb dX11_law_110 rfl (lv_at hl 1 rfl) ?_
                      refine x_get (ref := "NoteHouseModel") F hP k553 rfl (fun _ h => List.mem_cons_of_mem _ (List.mem_append_right _ (h))) 24 (Nat.le_of_ble_eq_true rfl) (List.mem_cons_of_mem _ (List.mem_append_left _ (List.mem_append_left _ (List.mem_of_getElem? (i := 5) rfl)))) rfl rfl dX11_law_111 ?_
                      refine lv_aload_n hx hb dX11_law_114 rfl (lv_at hl 1 rfl) ?_
                      refine x_get (ref := "NoteHouseModel") F hP k553 rfl (fun _ h => List.mem_cons_of_mem _ (List.mem_append_right _ (h))) 26 (Nat.le_of_ble_eq_true rfl) (List.mem_cons_of_mem _ (List.mem_append_left _ (List.mem_append_left _ (List.mem_of_getElem? (i := 2) rfl)))) rfl rfl dX11_law_115 ?_
                      refine x_bald F hP k555 (vp_in_nI (n := ax547) (N := 300) (by omega) (by decide)) dX11_law_118 ?_
                      refine lv_bipush (v := 59) hx hb dX11_law_119 (by decide) ?_
                      refine lv_icmp_eq (tgt := 133) hx hb dX11_law_121 (by decide) (fun c_563 => ?_) (fun c_563 => ?_)
                      · refine lv_aload_n hx hb dX11_law_133 rfl (lv_at hl 1 rfl) ?_
                        refine lv_dup hx hb dX11_law_134 rfl ?_
                        refine x_get (ref := "NoteHouseModel") F hP k553 rfl (fun _ h => List.mem_cons_of_mem _ (List.mem_append_right _ (h))) 26 (Nat.le_of_ble_eq_true rfl) (List.mem_cons_of_mem _ (List.mem_append_left _ (List.mem_append_left _ (List.mem_of_getElem? (i := 2) rfl)))) rfl rfl dX11_law_135 ?_
                        refine lv_iconst (v := 1) hx hb dX11_law_138 (by decide) ?_
                        refine lv_iadd hx hb dX11_law_139 ?_
                        rw [show ((nI ax547) + 1 : Int32) = nI (ax547 + 1) from nI_add ax547 1]
                        refine y_put (ref := "NoteHouseModel") F hP hD hS k553 rfl (fun _ h => List.mem_cons_of_mem _ (List.mem_append_right _ (h))) tyX11_ok nmX11 26 (Nat.le_of_ble_eq_true rfl) (List.mem_cons_of_mem _ (List.mem_append_left _ (List.mem_append_left _ (List.mem_of_getElem? (i := 2) rfl)))) rfl rfl rfl rfl (Nat.le_of_ble_eq_true rfl) dX11_law_140 (fun w564 ew565 H locs hP hD hS => ?_)
                        have k566 : wd_at w564 y (.inr (11, [.int v0, .int td, .ref m2, .ref m3, .ref m4, .ref m5, .ref m6, .int (nI pc), .ref m8, .ref m9, .ref m10, .ref m11, .ref m12, .ref m13, .ref m14, .int (nI ac), .int (nI sc), .ref m17, .ref m18, .ref m19, .ref m20, .ref m21, .ref m22, .ref m23, .ref m24, .int (nI ln), .int (nI (ax547 + 1)), .int (nI ax547), .int (nI fvx529), .ref m29, .ref m30, .ref m31, .ref m32, .ref m33, .ref m34, .ref m35, .ref m36, .ref m37, .int (nI sh), .ref m39, .ref m40, .ref m41, .ref m42, .ref m43, .ref m44, .ref m45, .ref m46, .ref m47, .ref m48, .ref m49, .int v50, .ref m51, .ref m52, .ref m53, .ref m54, .int (nI gf), .ref m56, .ref m57, .ref m58, .ref m59])) := wd_at.ps ew565 k553
                        have k567 := wd_at.pt ew565 k555 (tg_ne tm24 ty (by decide))
                        have k568 := wd_at.pt ew565 k556 (tg_ne tm35 ty (by decide))
                        have k569 := wd_at.pt ew565 k557 (tg_ne tm36 ty (by decide))
                        have k570 := wd_at.pt ew565 k558 (tg_ne tm37 ty (by decide))
                        have kp571 := kp559.put ew565 s90
                        refine lv_goto (tgt := 71) hx hb dX11_law_143 (by decide) ?_
                        exact ih71 1 (ax547 + 1) ax547 fvx529 gx530 gx531 w564 (by omega) (by omega) (by omega) (by omega) k566 k567 k568 k569 k570 kp571 ls (lv_sub hl [1, 0] rfl) H locs hP hD hS
                      · refine lv_aload_n hx hb dX11_law_124 rfl (lv_at hl 1 rfl) ?_
                        refine lv_iconst (v := 0) hx hb dX11_law_125 (by decide) ?_
                        refine lv_aload_n hx hb dX11_law_126 rfl (lv_at hl 1 rfl) ?_
                        refine x_get (ref := "NoteHouseModel") F hP k553 rfl (fun _ h => List.mem_cons_of_mem _ (List.mem_append_right _ (h))) 26 (Nat.le_of_ble_eq_true rfl) (List.mem_cons_of_mem _ (List.mem_append_left _ (List.mem_append_left _ (List.mem_of_getElem? (i := 2) rfl)))) rfl rfl dX11_law_127 ?_
                        refine x_callV (n := 2) (As := [.int 0, .int (nI ax547)]) (rest := []) F hP hD hS (m_fails l D cy sk sv w546 tg y m2 m3 m4 m5 m6 m8 m9 m10 m11 m12 m13 m14 m17 m18 m19 m20 m21 m22 m23 m24 m29 m30 m31 m32 m33 m34 m35 m36 m37 m39 m40 m41 m42 m43 m44 m45 m46 m47 m48 m49 m51 m52 m53 m54 m56 m57 m58 m59 pc ac sc ln sh gf v0 td (nI ax547) (nI ax547) v50 fvx529 0 ax547 k553 (fun b => b = y) rfl ty (by omega) (by omega) (by omega)) gX11_law_X11_fails rfl rfl (by decide +kernel) ⟨(Nat.le_of_ble_eq_true rfl), (Nat.le_of_ble_eq_true rfl)⟩ rfl hl.1 (Nat.le_of_ble_eq_true rfl) k553 rfl dX11_law_130 rfl ⟨(Nat.le_of_ble_eq_true rfl), (Nat.le_of_ble_eq_true rfl)⟩ (fun v573 w574 hp572 H locs hP hD hS => ?_)
                        obtain ⟨fwx575, rfl, hz576, hz577, kq579, k578⟩ := hp572
                        have k580 := kq579.2 _ _ k555 (tg_ne tm24 ty (by decide))
                        have k581 := kq579.2 _ _ k556 (tg_ne tm35 ty (by decide))
                        have k582 := kq579.2 _ _ k557 (tg_ne tm36 ty (by decide))
                        have k583 := kq579.2 _ _ k558 (tg_ne tm37 ty (by decide))
                        have kp584 := kp559.tr kq579 (fun b9 hm q9 => (fun q9 => q9 ▸ s90) q9)
                        refine W.eq (g2 := F0 m 133 ls []) rfl (W.widen (k := 0) (n := 0) (Nat.le_of_ble_eq_true rfl) (Nat.le_of_ble_eq_true rfl) ?_)
                        refine lv_aload_n hx hb dX11_law_133 rfl (lv_at hl 1 rfl) ?_
                        refine lv_dup hx hb dX11_law_134 rfl ?_
                        refine x_get (ref := "NoteHouseModel") F hP k578 rfl (fun _ h => List.mem_cons_of_mem _ (List.mem_append_right _ (h))) 26 (Nat.le_of_ble_eq_true rfl) (List.mem_cons_of_mem _ (List.mem_append_left _ (List.mem_append_left _ (List.mem_of_getElem? (i := 2) rfl)))) rfl rfl dX11_law_135 ?_
                        refine lv_iconst (v := 1) hx hb dX11_law_138 (by decide) ?_
                        refine lv_iadd hx hb dX11_law_139 ?_
                        rw [show ((nI ax547) + 1 : Int32) = nI (ax547 + 1) from nI_add ax547 1]
                        refine y_put (ref := "NoteHouseModel") F hP hD hS k578 rfl (fun _ h => List.mem_cons_of_mem _ (List.mem_append_right _ (h))) tyX11_ok nmX11 26 (Nat.le_of_ble_eq_true rfl) (List.mem_cons_of_mem _ (List.mem_append_left _ (List.mem_append_left _ (List.mem_of_getElem? (i := 2) rfl)))) rfl rfl rfl rfl (Nat.le_of_ble_eq_true rfl) dX11_law_140 (fun w585 ew586 H locs hP hD hS => ?_)
                        have k587 : wd_at w585 y (.inr (11, [.int v0, .int td, .ref m2, .ref m3, .ref m4, .ref m5, .ref m6, .int (nI pc), .ref m8, .ref m9, .ref m10, .ref m11, .ref m12, .ref m13, .ref m14, .int (nI ac), .int (nI sc), .ref m17, .ref m18, .ref m19, .ref m20, .ref m21, .ref m22, .ref m23, .ref m24, .int (nI ln), .int (nI (ax547 + 1)), .int (nI ax547), .int (nI fwx575), .ref m29, .ref m30, .ref m31, .ref m32, .ref m33, .ref m34, .ref m35, .ref m36, .ref m37, .int (nI sh), .ref m39, .ref m40, .ref m41, .ref m42, .ref m43, .ref m44, .ref m45, .ref m46, .ref m47, .ref m48, .ref m49, .int v50, .ref m51, .ref m52, .ref m53, .ref m54, .int (nI gf), .ref m56, .ref m57, .ref m58, .ref m59])) := wd_at.ps ew586 k578
                        have k588 := wd_at.pt ew586 k580 (tg_ne tm24 ty (by decide))
                        have k589 := wd_at.pt ew586 k581 (tg_ne tm35 ty (by decide))
                        have k590 := wd_at.pt ew586 k582 (tg_ne tm36 ty (by decide))
                        have k591 := wd_at.pt ew586 k583 (tg_ne tm37 ty (by decide))
                        have kp592 := kp584.put ew586 s90
                        refine lv_goto (tgt := 71) hx hb dX11_law_143 (by decide) ?_
                        exact ih71 1 (ax547 + 1) ax547 fwx575 gx530 gx531 w585 (by omega) (by omega) (by omega) (by omega) k587 k588 k589 k590 k591 kp592 ls (lv_sub hl [1, 0] rfl) H locs hP hD hS
          exact lp71 (2 * ln + 2) 1 ax319 ax319 fwx306 ga gb w318 (by omega) (by omega) (by omega) (by omega) k325 k327 k328 k329 k330 kp331 ls (lv_sub hl [1, 0] rfl) H locs hP hD hS
    | succ N ih2 =>
      intro k ga gb w1 hN2 k2 k3 k4 k5 k6 kp7 ls hl H locs hP hD hS
      refine lv_iload_n hx hb dX11_law_2 rfl (lv_at hl 1 rfl) ?_
      refine lv_iconst (v := 5) hx hb dX11_law_3 (by decide) ?_
      refine lv_icmp_ge (tgt := 30) hx hb dX11_law_4 (by decide) (fun c_593 => absurd c_593 (nI_ge (a := k) (b := 5) (by omega) (by omega))) (fun c_593 => ?_)
      refine lv_aload_n hx hb dX11_law_7 rfl (lv_at hl 0 rfl) ?_
      refine x_get (ref := "NoteHouseModel") F hP k2 rfl (fun _ h => List.mem_cons_of_mem _ (List.mem_append_right _ (h))) 36 (Nat.le_of_ble_eq_true rfl) (List.mem_cons_of_mem _ (List.mem_append_left _ (List.mem_append_left _ (List.mem_of_getElem? (i := 0) rfl)))) rfl rfl dX11_law_8 ?_
      refine lv_iload_n hx hb dX11_law_11 rfl (lv_at hl 1 rfl) ?_
      refine lv_iconst (v := 0) hx hb dX11_law_12 (by decide) ?_
      refine y_zast F hP hD hS k5 (vp_in_nI (n := k) (N := 5) (by omega) (by decide)) dX11_law_13 (fun w594 ew595 H locs hP hD hS => ?_)
      have k596 := wd_at.pt ew595 k2 (tg_ne ty tm36 (by decide))
      have k597 := wd_at.pt ew595 k3 (tg_ne tm24 tm36 (by decide))
      have k598 := wd_at.pt ew595 k4 (tg_ne tm35 tm36 (by decide))
      have k599 : wd_at w594 m36 (.inl (cy 4, 5, .inl (upd ga (nI k).toNatClampNeg (vp_nar .boolean 0)))) := wd_at.ps ew595 k5
      have k600 := wd_at.pt ew595 k6 (tg_ne tm37 tm36 (by decide))
      have kp601 := kp7.put ew595 s92
      refine lv_aload_n hx hb dX11_law_14 rfl (lv_at hl 0 rfl) ?_
      refine x_get (ref := "NoteHouseModel") F hP k596 rfl (fun _ h => List.mem_cons_of_mem _ (List.mem_append_right _ (h))) 37 (Nat.le_of_ble_eq_true rfl) (List.mem_cons_of_mem _ (List.mem_append_left _ (List.mem_append_left _ (List.mem_of_getElem? (i := 1) rfl)))) rfl rfl dX11_law_15 ?_
      refine lv_iload_n hx hb dX11_law_18 rfl (lv_at hl 1 rfl) ?_
      refine lv_iload_n hx hb dX11_law_19 rfl (lv_at hl 1 rfl) ?_
      refine x_callS (n := 1) (As := [.int (nI k)]) (rest := [.int (nI k), .ref m37]) F hP hD hS (m_without l D cy sk sv w594 (nI k)) gX11_law_X11_without rfl (by decide +kernel) ⟨(Nat.le_of_ble_eq_true rfl), (Nat.le_of_ble_eq_true rfl)⟩ rfl hl.1 (Nat.le_of_ble_eq_true rfl) dX11_law_20 rfl ⟨(Nat.le_of_ble_eq_true rfl), (Nat.le_of_ble_eq_true rfl)⟩ (fun v603 w604 hp602 H locs hP hD hS => ?_)
      obtain ⟨rx605, rfl, rfl⟩ := hp602
      refine W.eq (g2 := F0 m 23 ls [.int rx605, .int (nI k), .ref m37]) rfl (W.widen (k := 0) (n := 0) (Nat.le_of_ble_eq_true rfl) (Nat.le_of_ble_eq_true rfl) ?_)
      refine y_iast F hP hD hS k600 (vp_in_nI (n := k) (N := 5) (by omega) (by decide)) dX11_law_23 (fun w606 ew607 H locs hP hD hS => ?_)
      have k608 := wd_at.pt ew607 k596 (tg_ne ty tm37 (by decide))
      have k609 := wd_at.pt ew607 k597 (tg_ne tm24 tm37 (by decide))
      have k610 := wd_at.pt ew607 k598 (tg_ne tm35 tm37 (by decide))
      have k611 := wd_at.pt ew607 k599 (tg_ne tm36 tm37 (by decide))
      have k612 : wd_at w606 m37 (.inl (cy 2, 5, .inl (upd gb (nI k).toNatClampNeg rx605))) := wd_at.ps ew607 k600
      have kp613 := kp601.put ew607 s93
      refine lv_iinc (v := nI (k + 1)) (lv' := [(1, .int (nI (k + 1))), (0, .ref y)]) hx hb dX11_law_24 hl (k := 1) rfl (nI_1 k) (by decide) rfl (fun ls hl => ?_)
      refine lv_goto (tgt := 2) hx hb dX11_law_27 (by decide) ?_
      exact ih2 (k + 1) (upd ga (nI k).toNatClampNeg (vp_nar .boolean 0)) (upd gb (nI k).toNatClampNeg rx605) w606 (by omega)  k608 k609 k610 k611 k612 kp613 ls (lv_sub hl [1, 0] rfl) H locs hP hD hS
  exact lp2 _ 0 f36 f37 w (Nat.zero_add 5)  c90 c91 c92 c93 c94 kp0 ls (lv_sub hl [1, 0] rfl) H locs hP hD hS
