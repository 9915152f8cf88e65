set_option maxHeartbeats 4000000 in
set_option maxRecDepth 100000 in
theorem m_cond (l : Launch) (D : va_G) (cy : Nat → ClassId) (sk sv : Nat → Nat) (w : Wd) (tg : Nat → Nat) (y m2 m3 m4 m5 m6 m8 m9 m10 m11 m12 m13 m14 m17 m18 m19 m20 m21 m22 m23 m24 m29 m30 m31 m32 m33 m34 m35 m36 m37 m39 m40 m41 m42 m43 m44 m45 m46 m47 m48 m49 m51 m52 m53 m54 m56 m57 m58 m59 pc ac sc ln sh gf : Nat) (v0 td v27 v50 : Int32) (f24 : Nat → Int32) (f31 : Nat → Int32) (f32 : Nat → Int32) (f33 : Nat → Int32) (f34 : Nat → Int32) (a0 fv r u : Nat) (c90 : wd_at w y (.inr (11, [.int v0, .int td, .ref m2, .ref m3, .ref m4, .ref m5, .ref m6, .int (nI pc), .ref m8, .ref m9, .ref m10, .ref m11, .ref m12, .ref m13, .ref m14, .int (nI ac), .int (nI sc), .ref m17, .ref m18, .ref m19, .ref m20, .ref m21, .ref m22, .ref m23, .ref m24, .int (nI ln), .int (nI a0), .int v27, .int (nI fv), .ref m29, .ref m30, .ref m31, .ref m32, .ref m33, .ref m34, .ref m35, .ref m36, .ref m37, .int (nI sh), .ref m39, .ref m40, .ref m41, .ref m42, .ref m43, .ref m44, .ref m45, .ref m46, .ref m47, .ref m48, .ref m49, .int v50, .ref m51, .ref m52, .ref m53, .ref m54, .int (nI gf), .ref m56, .ref m57, .ref m58, .ref m59]))) (c91 : wd_at w m24 (.inl (cy 0, 300, .inl f24))) (c92 : wd_at w m31 (.inl (cy 2, 156, .inl f31))) (c93 : wd_at w m32 (.inl (cy 2, 936, .inl f32))) (c94 : wd_at w m33 (.inl (cy 2, 936, .inl f33))) (c95 : wd_at w m34 (.inl (cy 2, 936, .inl f34)))  (S : Nat → Prop) (s90 : S y) (s91 : S m31) (s92 : S m32) (s93 : S m33) (s94 : S m34) (ty : tg y = 10000) (tm24 : tg m24 = 10124) (tm31 : tg m31 = 10131) (tm32 : tg m32 = 10132) (tm33 : tg m33 = 10133) (tm34 : tg m34 = 10134) (hln : ln ≤ 300) (ha0 : a0 ≤ ln) (hfv : fv < 2000) (hr : r < 156) (hc : cOK f31) (hu : f31 r = nI u) (hu6 : u ≤ 6) : Ct l D cy sk sv yX11_cond wsX11_cond ({ frames := 5, cells := 0, slots := 0, locals := 108 }) [.ref y, .int (nI r)] w (fun v w1 => ∃ (a1 : Nat) (b1 : Nat) (fv1 : Nat) (u1 : Nat) (g31 : Nat → Int32) (g32 : Nat → Int32) (g33 : Nat → Int32) (g34 : Nat → Int32), v = none ∧ (a0 ≤ a1) ∧ (a1 ≤ ln) ∧ (fv1 < 2000) ∧ (cOK g31) ∧ (g31 r = nI u1) ∧ (u1 ≤ 6) ∧ (fv1 = 0 → u1 = u + 1) ∧ wd_kp S w w1 ∧ wd_at w1 y (.inr (11, [.int v0, .int td, .ref m2, .ref m3, .ref m4, .ref m5, .ref m6, .int (nI pc), .ref m8, .ref m9, .ref m10, .ref m11, .ref m12, .ref m13, .ref m14, .int (nI ac), .int (nI sc), .ref m17, .ref m18, .ref m19, .ref m20, .ref m21, .ref m22, .ref m23, .ref m24, .int (nI ln), .int (nI a1), .int (nI b1), .int (nI fv1), .ref m29, .ref m30, .ref m31, .ref m32, .ref m33, .ref m34, .ref m35, .ref m36, .ref m37, .int (nI sh), .ref m39, .ref m40, .ref m41, .ref m42, .ref m43, .ref m44, .ref m45, .ref m46, .ref m47, .ref m48, .ref m49, .int v50, .ref m51, .ref m52, .ref m53, .ref m54, .int (nI gf), .ref m56, .ref m57, .ref m58, .ref m59])) ∧ wd_at w1 m31 (.inl (cy 2, 156, .inl g31)) ∧ wd_at w1 m32 (.inl (cy 2, 936, .inl g32)) ∧ wd_at w1 m33 (.inl (cy 2, 936, .inl g33)) ∧ wd_at w1 m34 (.inl (cy 2, 936, .inl g34))) := by
  refine Ct.by (cc := cX11_cond) (maxL := 4) (ret := none) (by decide +kernel) rfl (Nat.le_of_ble_eq_true rfl) ?_
  intro p e s m args below meth c A Q F hnm K ls hl
  have F : wd_Fx p s m args meth c cX11_cond 4 wsX11_cond RX11 D cy sk sv A := F
  have hl : lv_has ls 4 [(0, .ref y), (1, .int (nI r))] := hl
  have hx := F.1.1
  have hb := F.1.2.1
  have hown := F.1.2.2.2.1
  have hts := F.1.2.2.2.2
  intro H locs hP hD hS
  have kp0 : wd_kp S w w := wd_kp.rf
  refine lv_aload_n hx hb dX11_cond_0 rfl (lv_at hl 0 rfl) ?_
  refine x_callV (n := 0) (As := []) (rest := []) F hP hD hS (m_word l D cy sk sv w tg y m2 m3 m4 m5 m6 m8 m9 m10 m11 m12 m13 m14 m17 m18 m19 m20 m21 m22 m23 m24 m29 m30 m31 m32 m33 m34 m35 m36 m37 m39 m40 m41 m42 m43 m44 m45 m46 m47 m48 m49 m51 m52 m53 m54 m56 m57 m58 m59 pc ac sc ln sh gf v0 td v27 v50 f24 a0 fv c90 c91 (fun b => b = y) rfl ty tm24 (by omega) (by omega) (by omega)) gX11_cond_X11_word rfl rfl (by decide +kernel) ⟨(Nat.le_of_ble_eq_true rfl), (Nat.le_of_ble_eq_true rfl)⟩ rfl hl.1 (Nat.le_of_ble_eq_true rfl) c90 rfl dX11_cond_1 rfl ⟨(Nat.le_of_ble_eq_true rfl), (Nat.le_of_ble_eq_true rfl)⟩ (fun v2 w3 hp1 H locs hP hD hS => ?_)
  obtain ⟨ax4, bx5, fvx6, rfl, hz7, hz8, hz9, hz10, kq12, k11⟩ := hp1
  have k13 := kq12.2 _ _ c91 (tg_ne tm24 ty (by decide))
  have k14 := kq12.2 _ _ c92 (tg_ne tm31 ty (by decide))
  have k15 := kq12.2 _ _ c93 (tg_ne tm32 ty (by decide))
  have k16 := kq12.2 _ _ c94 (tg_ne tm33 ty (by decide))
  have k17 := kq12.2 _ _ c95 (tg_ne tm34 ty (by decide))
  have kp18 := kp0.tr kq12 (fun b9 hm q9 => (fun q9 => q9 ▸ s90) q9)
  refine W.eq (g2 := F0 m 4 ls []) rfl (W.widen (k := 0) (n := 0) (Nat.le_of_ble_eq_true rfl) (Nat.le_of_ble_eq_true rfl) ?_)
  refine lv_aload_n hx hb dX11_cond_4 rfl (lv_at hl 0 rfl) ?_
  refine x_get (ref := "NoteHouseModel") F hP k11 rfl (fun _ h => List.mem_cons_of_mem _ (List.mem_append_right _ (h))) 31 (Nat.le_of_ble_eq_true rfl) (List.mem_cons_of_mem _ (List.mem_append_left _ (List.mem_append_left _ (List.mem_of_getElem? (i := 0) rfl)))) rfl rfl dX11_cond_5 ?_
  refine lv_iload_n hx hb dX11_cond_8 rfl (lv_at hl 1 rfl) ?_
  refine x_iald F hP k14 (vp_in_nI (n := r) (N := 156) (by omega) (by decide)) dX11_cond_9 ?_
  rw [nI_clamp (n := r) (by omega), hu]
  refine lv_bipush (v := 6) hx hb dX11_cond_10 (by decide) ?_
  refine lv_icmp_ne (tgt := 24) hx hb dX11_cond_12 (by decide) (fun c_19 => ?_) (fun c_19 => ?_)
  · have hu6 : u < 6 := by have h9 : ¬ u = 6 := fun q => c_19 (by rw [q]; rfl); omega
    refine lv_aload_n hx hb dX11_cond_24 rfl (lv_at hl 0 rfl) ?_
    refine x_get (ref := "NoteHouseModel") F hP k11 rfl (fun _ h => List.mem_cons_of_mem _ (List.mem_append_right _ (h))) 28 (Nat.le_of_ble_eq_true rfl) (List.mem_cons_of_mem _ (List.mem_append_left _ (List.mem_append_left _ (List.mem_of_getElem? (i := 2) rfl)))) rfl rfl dX11_cond_25 ?_
    refine lv_if_le (tgt := 32) hx hb dX11_cond_28 (by decide) (fun c_20 => ?_) (fun c_20 => ?_)
    · have hf0 : fvx6 = 0 := nI_z (by omega) c_20
      refine lv_iconst (v := 0) hx hb dX11_cond_32 (by decide) ?_
      refine lv_istore_n (lv' := [(2, .int 0), (0, .ref y), (1, .int (nI r))]) hx hb dX11_cond_33 rfl hl (by decide) rfl (fun ls hl => ?_)
      have lp34 : ∀ (N : Nat) (n : Nat), (n + N = 8) → ∀ (ls : Array Slot), lv_has ls 4 [(0, .ref y), (1, .int (nI r)), (2, .int (nI n))] → Wv p l e ({ frames := 5, cells := 0, slots := 0, locals := 108 }) s m args below meth c D A (0) (0) Q w3 (F0 m 34 ls []) := by
        intro N
        induction N with
        | zero =>
          intro n hN34 ls hl H locs hP hD hS
          refine lv_iload_n hx hb dX11_cond_34 rfl (lv_at hl 2 rfl) ?_
          refine lv_bipush (v := 8) hx hb dX11_cond_35 (by decide) ?_
          refine lv_icmp_ge (tgt := 58) hx hb dX11_cond_37 (by decide) (fun c_22 => ?_) (fun c_22 => absurd (nI_le (a := 8) (b := n) (by omega) (by omega)) c_22)
          refine lv_iload_n hx hb dX11_cond_58 rfl (lv_at hl 2 rfl) ?_
          refine lv_bipush (v := 8) hx hb dX11_cond_59 (by decide) ?_
          refine lv_icmp_ne (tgt := 74) hx hb dX11_cond_61 (by decide) (fun c_23 => absurd (show nI n = 8 from congrArg nI (show n = 8 by omega)) c_23) (fun c_23 => ?_)
          refine lv_aload_n hx hb dX11_cond_64 rfl (lv_at hl 0 rfl) ?_
          refine lv_iconst (v := 0) hx hb dX11_cond_65 (by decide) ?_
          refine lv_aload_n hx hb dX11_cond_66 rfl (lv_at hl 0 rfl) ?_
          refine x_get (ref := "NoteHouseModel") F hP k11 rfl (fun _ h => List.mem_cons_of_mem _ (List.mem_append_right _ (h))) 27 (Nat.le_of_ble_eq_true rfl) (List.mem_cons_of_mem _ (List.mem_append_left _ (List.mem_append_left _ (List.mem_of_getElem? (i := 1) rfl)))) rfl rfl dX11_cond_67 ?_
          refine x_callV (n := 2) (As := [.int 0, .int (nI bx5)]) (rest := []) F hP hD hS (m_fails l D cy sk sv w3 tg y m2 m3 m4 m5 m6 m8 m9 m10 m11 m12 m13 m14 m17 m18 m19 m20 m21 m22 m23 m24 m29 m30 m31 m32 m33 m34 m35 m36 m37 m39 m40 m41 m42 m43 m44 m45 m46 m47 m48 m49 m51 m52 m53 m54 m56 m57 m58 m59 pc ac sc ln sh gf v0 td (nI ax4) (nI bx5) v50 fvx6 0 bx5 k11 (fun b => b = y) rfl ty (by omega) (by omega) (by omega)) gX11_cond_X11_fails rfl rfl (by decide +kernel) ⟨(Nat.le_of_ble_eq_true rfl), (Nat.le_of_ble_eq_true rfl)⟩ rfl hl.1 (Nat.le_of_ble_eq_true rfl) k11 rfl dX11_cond_70 rfl ⟨(Nat.le_of_ble_eq_true rfl), (Nat.le_of_ble_eq_true rfl)⟩ (fun v25 w26 hp24 H locs hP hD hS => ?_)
          obtain ⟨fwx27, rfl, hz28, hz29, kq31, k30⟩ := hp24
          have k32 := kq31.2 _ _ k13 (tg_ne tm24 ty (by decide))
          have k33 := kq31.2 _ _ k14 (tg_ne tm31 ty (by decide))
          have k34 := kq31.2 _ _ k15 (tg_ne tm32 ty (by decide))
          have k35 := kq31.2 _ _ k16 (tg_ne tm33 ty (by decide))
          have k36 := kq31.2 _ _ k17 (tg_ne tm34 ty (by decide))
          have kp37 := kp18.tr kq31 (fun b9 hm q9 => (fun q9 => q9 ▸ s90) q9)
          refine W.eq (g2 := F0 m 73 ls []) rfl (W.widen (k := 0) (n := 0) (Nat.le_of_ble_eq_true rfl) (Nat.le_of_ble_eq_true rfl) ?_)
          exact y_vr K hP hD hS (Nat.le_of_ble_eq_true rfl) (Nat.le_of_ble_eq_true rfl) rfl dX11_cond_73 (⟨ax4, bx5, fwx27, u, f31, f32, f33, f34, rfl, by omega, by omega, by omega, hc, hu, by omega, by omega, kp37, k30, k33, k34, k35, k36⟩)
        | succ N ih34 =>
          intro n hN34 ls hl H locs hP hD hS
          refine lv_iload_n hx hb dX11_cond_34 rfl (lv_at hl 2 rfl) ?_
          refine lv_bipush (v := 8) hx hb dX11_cond_35 (by decide) ?_
          refine lv_icmp_ge (tgt := 58) hx hb dX11_cond_37 (by decide) (fun c_38 => absurd c_38 (nI_ge (a := n) (b := 8) (by omega) (by omega))) (fun c_38 => ?_)
          refine lv_aload_n hx hb dX11_cond_40 rfl (lv_at hl 0 rfl) ?_
          refine lv_aload_n hx hb dX11_cond_41 rfl (lv_at hl 0 rfl) ?_
          refine lv_iload_n hx hb dX11_cond_42 rfl (lv_at hl 2 rfl) ?_
          refine x_callV (n := 1) (As := [.int (nI n)]) (rest := [.ref y]) F hP hD hS (m_nameOf l D cy sk sv w3 y (nI n)) gX11_cond_X11_nameOf rfl rfl (by decide +kernel) ⟨(Nat.le_of_ble_eq_true rfl), (Nat.le_of_ble_eq_true rfl)⟩ rfl hl.1 (Nat.le_of_ble_eq_true rfl) k11 rfl dX11_cond_43 rfl ⟨(Nat.le_of_ble_eq_true rfl), (Nat.le_of_ble_eq_true rfl)⟩ (fun v40 w41 hp39 H locs hP hD hS => ?_)
          obtain ⟨ix42, rfl, hz43, rfl⟩ := hp39
          refine W.eq (g2 := F0 m 46 ls [.ref (sk ix42), .ref y]) rfl (W.widen (k := 0) (n := 0) (Nat.le_of_ble_eq_true rfl) (Nat.le_of_ble_eq_true rfl) ?_)
          refine x_callV (n := 1) (As := [.ref (sk ix42)]) (rest := []) F hP hD hS (m_is l D cy sk sv w3 tg y m2 m3 m4 m5 m6 m8 m9 m10 m11 m12 m13 m14 m17 m18 m19 m20 m21 m22 m23 m24 m29 m30 m31 m32 m33 m34 m35 m36 m37 m39 m40 m41 m42 m43 m44 m45 m46 m47 m48 m49 m51 m52 m53 m54 m56 m57 m58 m59 pc ac sc ln sh gf v0 td (nI fvx6) v50 f24 ax4 bx5 ix42 k11 k13 ty tm24 (by omega) (by omega) (by omega)) gX11_cond_X11_is rfl rfl (by decide +kernel) ⟨(Nat.le_of_ble_eq_true rfl), (Nat.le_of_ble_eq_true rfl)⟩ rfl hl.1 (Nat.le_of_ble_eq_true rfl) k11 rfl dX11_cond_46 rfl ⟨(Nat.le_of_ble_eq_true rfl), (Nat.le_of_ble_eq_true rfl)⟩ (fun v45 w46 hp44 H locs hP hD hS => ?_)
          obtain ⟨rx47, rfl, hz48, rfl⟩ := hp44
          refine W.eq (g2 := F0 m 49 ls [.int rx47]) rfl (W.widen (k := 0) (n := 0) (Nat.le_of_ble_eq_true rfl) (Nat.le_of_ble_eq_true rfl) ?_)
          refine lv_if_ne (tgt := 58) hx hb dX11_cond_49 (by decide) (fun c_49 => ?_) (fun c_49 => ?_)
          · refine lv_iload_n hx hb dX11_cond_58 rfl (lv_at hl 2 rfl) ?_
            refine lv_bipush (v := 8) hx hb dX11_cond_59 (by decide) ?_
            refine lv_icmp_ne (tgt := 74) hx hb dX11_cond_61 (by decide) (fun c_50 => ?_) (fun c_50 => absurd c_50 (nI_nel (a := n) (b := 8) (by omega) (by omega) (by omega)))
            refine lv_bipush (v := 6) hx hb dX11_cond_74 (by decide) ?_
            refine lv_iload_n hx hb dX11_cond_76 rfl (lv_at hl 1 rfl) ?_
            refine lv_imul hx hb dX11_cond_77 ?_
            rw [show (6 * (nI r) : Int32) = nI (6 * r) from pk_mul 6 r]
            refine lv_aload_n hx hb dX11_cond_78 rfl (lv_at hl 0 rfl) ?_
            refine x_get (ref := "NoteHouseModel") F hP k11 rfl (fun _ h => List.mem_cons_of_mem _ (List.mem_append_right _ (h))) 31 (Nat.le_of_ble_eq_true rfl) (List.mem_cons_of_mem _ (List.mem_append_left _ (List.mem_append_left _ (List.mem_of_getElem? (i := 0) rfl)))) rfl rfl dX11_cond_79 ?_
            refine lv_iload_n hx hb dX11_cond_82 rfl (lv_at hl 1 rfl) ?_
            refine x_iald F hP k14 (vp_in_nI (n := r) (N := 156) (by omega) (by decide)) dX11_cond_83 ?_
            rw [nI_clamp (n := r) (by omega), hu]
            refine lv_iadd hx hb dX11_cond_84 ?_
            rw [show ((nI (6 * r)) + (nI u) : Int32) = nI ((6 * r) + u) from nI_add (6 * r) u]
            refine lv_istore_n (lv' := [(3, .int (nI ((6 * r) + u))), (0, .ref y), (1, .int (nI r)), (2, .int (nI n))]) hx hb dX11_cond_85 rfl hl (by decide) rfl (fun ls hl => ?_)
            refine lv_aload_n hx hb dX11_cond_86 rfl (lv_at hl 1 rfl) ?_
            refine x_get (ref := "NoteHouseModel") F hP k11 rfl (fun _ h => List.mem_cons_of_mem _ (List.mem_append_right _ (h))) 32 (Nat.le_of_ble_eq_true rfl) (List.mem_cons_of_mem _ (List.mem_append_left _ (List.mem_append_left _ (List.mem_of_getElem? (i := 3) rfl)))) rfl rfl dX11_cond_87 ?_
            refine lv_iload_n hx hb dX11_cond_90 rfl (lv_at hl 0 rfl) ?_
            refine lv_iload_n hx hb dX11_cond_91 rfl (lv_at hl 3 rfl) ?_
            refine y_iast F hP hD hS k15 (vp_in_nI (n := ((6 * r) + u)) (N := 936) (by omega) (by decide)) dX11_cond_92 (fun w51 ew52 H locs hP hD hS => ?_)
            have k53 := wd_at.pt ew52 k11 (tg_ne ty tm32 (by decide))
            have k54 := wd_at.pt ew52 k13 (tg_ne tm24 tm32 (by decide))
            have k55 := wd_at.pt ew52 k14 (tg_ne tm31 tm32 (by decide))
            have k56 : wd_at w51 m32 (.inl (cy 2, 936, .inl (upd f32 (nI ((6 * r) + u)).toNatClampNeg (nI n)))) := wd_at.ps ew52 k15
            have k57 := wd_at.pt ew52 k16 (tg_ne tm33 tm32 (by decide))
            have k58 := wd_at.pt ew52 k17 (tg_ne tm34 tm32 (by decide))
            have kp59 := kp18.put ew52 s92
            refine lv_aload_n hx hb dX11_cond_93 rfl (lv_at hl 1 rfl) ?_
            refine x_get (ref := "NoteHouseModel") F hP k53 rfl (fun _ h => List.mem_cons_of_mem _ (List.mem_append_right _ (h))) 33 (Nat.le_of_ble_eq_true rfl) (List.mem_cons_of_mem _ (List.mem_append_left _ (List.mem_append_left _ (List.mem_of_getElem? (i := 4) rfl)))) rfl rfl dX11_cond_94 ?_
            refine lv_iload_n hx hb dX11_cond_97 rfl (lv_at hl 0 rfl) ?_
            refine lv_aload_n hx hb dX11_cond_98 rfl (lv_at hl 1 rfl) ?_
            refine x_callV (n := 0) (As := []) (rest := [.int (nI ((6 * r) + u)), .ref m33]) F hP hD hS (m_isEnd l D cy sk sv w51 tg y m2 m3 m4 m5 m6 m8 m9 m10 m11 m12 m13 m14 m17 m18 m19 m20 m21 m22 m23 m24 m29 m30 m31 m32 m33 m34 m35 m36 m37 m39 m40 m41 m42 m43 m44 m45 m46 m47 m48 m49 m51 m52 m53 m54 m56 m57 m58 m59 pc ac sc ln sh gf v0 td (nI bx5) (nI fvx6) v50 f24 ax4 k53 k54 (fun b => b = y) rfl ty tm24 (by omega) (by omega)) gX11_cond_X11_isEnd rfl rfl (by decide +kernel) ⟨(Nat.le_of_ble_eq_true rfl), (Nat.le_of_ble_eq_true rfl)⟩ rfl hl.1 (Nat.le_of_ble_eq_true rfl) k53 rfl dX11_cond_99 rfl ⟨(Nat.le_of_ble_eq_true rfl), (Nat.le_of_ble_eq_true rfl)⟩ (fun v61 w62 hp60 H locs hP hD hS => ?_)
            obtain ⟨ax63, rx64, rfl, hz65, hz66, hz67, hz68, kq70, k69⟩ := hp60
            have k71 := kq70.2 _ _ k54 (tg_ne tm24 ty (by decide))
            have k72 := kq70.2 _ _ k55 (tg_ne tm31 ty (by decide))
            have k73 := kq70.2 _ _ k56 (tg_ne tm32 ty (by decide))
            have k74 := kq70.2 _ _ k57 (tg_ne tm33 ty (by decide))
            have k75 := kq70.2 _ _ k58 (tg_ne tm34 ty (by decide))
            have kp76 := kp59.tr kq70 (fun b9 hm q9 => (fun q9 => q9 ▸ s90) q9)
            refine W.eq (g2 := F0 m 102 ls [.int rx64, .int (nI ((6 * r) + u)), .ref m33]) rfl (W.widen (k := 0) (n := 0) (Nat.le_of_ble_eq_true rfl) (Nat.le_of_ble_eq_true rfl) ?_)
            refine lv_if_eq (tgt := 109) hx hb dX11_cond_102 (by decide) (fun c_77 => ?_) (fun c_77 => ?_)
            · have hne := hz68 c_77
              refine lv_aload_n hx hb dX11_cond_109 rfl (lv_at hl 1 rfl) ?_
              refine x_get (ref := "NoteHouseModel") F hP k69 rfl (fun _ h => List.mem_cons_of_mem _ (List.mem_append_right _ (h))) 24 (Nat.le_of_ble_eq_true rfl) (List.mem_cons_of_mem _ (List.mem_append_left _ (List.mem_append_left _ (List.mem_of_getElem? (i := 5) rfl)))) rfl rfl dX11_cond_110 ?_
              refine lv_aload_n hx hb dX11_cond_113 rfl (lv_at hl 1 rfl) ?_
              refine x_get (ref := "NoteHouseModel") F hP k69 rfl (fun _ h => List.mem_cons_of_mem _ (List.mem_append_right _ (h))) 26 (Nat.le_of_ble_eq_true rfl) (List.mem_cons_of_mem _ (List.mem_append_left _ (List.mem_append_left _ (List.mem_of_getElem? (i := 6) rfl)))) rfl rfl dX11_cond_114 ?_
              refine x_bald F hP k71 (vp_in_nI (n := ax63) (N := 300) (by omega) (by decide)) dX11_cond_117 ?_
              refine y_iast F hP hD hS k74 (vp_in_nI (n := ((6 * r) + u)) (N := 936) (by omega) (by decide)) dX11_cond_118 (fun w78 ew79 H locs hP hD hS => ?_)
              have k80 := wd_at.pt ew79 k69 (tg_ne ty tm33 (by decide))
              have k81 := wd_at.pt ew79 k71 (tg_ne tm24 tm33 (by decide))
              have k82 := wd_at.pt ew79 k72 (tg_ne tm31 tm33 (by decide))
              have k83 := wd_at.pt ew79 k73 (tg_ne tm32 tm33 (by decide))
              have k84 : wd_at w78 m33 (.inl (cy 2, 936, .inl (upd f33 (nI ((6 * r) + u)).toNatClampNeg (f24 (nI ax63).toNatClampNeg)))) := wd_at.ps ew79 k74
              have k85 := wd_at.pt ew79 k75 (tg_ne tm34 tm33 (by decide))
              have kp86 := kp76.put ew79 s93
              refine lv_aload_n hx hb dX11_cond_119 rfl (lv_at hl 1 rfl) ?_
              refine x_get (ref := "NoteHouseModel") F hP k80 rfl (fun _ h => List.mem_cons_of_mem _ (List.mem_append_right _ (h))) 33 (Nat.le_of_ble_eq_true rfl) (List.mem_cons_of_mem _ (List.mem_append_left _ (List.mem_append_left _ (List.mem_of_getElem? (i := 4) rfl)))) rfl rfl dX11_cond_120 ?_
              refine lv_iload_n hx hb dX11_cond_123 rfl (lv_at hl 0 rfl) ?_
              refine x_iald F hP k84 (vp_in_nI (n := ((6 * r) + u)) (N := 936) (by omega) (by decide)) dX11_cond_124 ?_
              rw [pk_us]
              refine lv_bipush (v := 60) hx hb dX11_cond_125 (by decide) ?_
              refine lv_icmp_eq (tgt := 162) hx hb dX11_cond_127 (by decide) (fun c_87 => ?_) (fun c_87 => ?_)
              · refine lv_aload_n hx hb dX11_cond_162 rfl (lv_at hl 1 rfl) ?_
                refine lv_dup hx hb dX11_cond_163 rfl ?_
                refine x_get (ref := "NoteHouseModel") F hP k80 rfl (fun _ h => List.mem_cons_of_mem _ (List.mem_append_right _ (h))) 26 (Nat.le_of_ble_eq_true rfl) (List.mem_cons_of_mem _ (List.mem_append_left _ (List.mem_append_left _ (List.mem_of_getElem? (i := 6) rfl)))) rfl rfl dX11_cond_164 ?_
                refine lv_iconst (v := 1) hx hb dX11_cond_167 (by decide) ?_
                refine lv_iadd hx hb dX11_cond_168 ?_
                rw [show ((nI ax63) + 1 : Int32) = nI (ax63 + 1) from nI_add ax63 1]
                refine y_put (ref := "NoteHouseModel") F hP hD hS k80 rfl (fun _ h => List.mem_cons_of_mem _ (List.mem_append_right _ (h))) tyX11_ok nmX11 26 (Nat.le_of_ble_eq_true rfl) (List.mem_cons_of_mem _ (List.mem_append_left _ (List.mem_append_left _ (List.mem_of_getElem? (i := 6) rfl)))) rfl rfl rfl rfl (Nat.le_of_ble_eq_true rfl) dX11_cond_169 (fun w88 ew89 H locs hP hD hS => ?_)
                have k90 : wd_at w88 y (.inr (11, [.int v0, .int td, .ref m2, .ref m3, .ref m4, .ref m5, .ref m6, .int (nI pc), .ref m8, .ref m9, .ref m10, .ref m11, .ref m12, .ref m13, .ref m14, .int (nI ac), .int (nI sc), .ref m17, .ref m18, .ref m19, .ref m20, .ref m21, .ref m22, .ref m23, .ref m24, .int (nI ln), .int (nI (ax63 + 1)), .int (nI ax63), .int (nI fvx6), .ref m29, .ref m30, .ref m31, .ref m32, .ref m33, .ref m34, .ref m35, .ref m36, .ref m37, .int (nI sh), .ref m39, .ref m40, .ref m41, .ref m42, .ref m43, .ref m44, .ref m45, .ref m46, .ref m47, .ref m48, .ref m49, .int v50, .ref m51, .ref m52, .ref m53, .ref m54, .int (nI gf), .ref m56, .ref m57, .ref m58, .ref m59])) := wd_at.ps ew89 k80
                have k91 := wd_at.pt ew89 k81 (tg_ne tm24 ty (by decide))
                have k92 := wd_at.pt ew89 k82 (tg_ne tm31 ty (by decide))
                have k93 := wd_at.pt ew89 k83 (tg_ne tm32 ty (by decide))
                have k94 := wd_at.pt ew89 k84 (tg_ne tm33 ty (by decide))
                have k95 := wd_at.pt ew89 k85 (tg_ne tm34 ty (by decide))
                have kp96 := kp86.put ew89 s90
                refine lv_aload_n hx hb dX11_cond_172 rfl (lv_at hl 1 rfl) ?_
                refine x_get (ref := "NoteHouseModel") F hP k90 rfl (fun _ h => List.mem_cons_of_mem _ (List.mem_append_right _ (h))) 34 (Nat.le_of_ble_eq_true rfl) (List.mem_cons_of_mem _ (List.mem_append_left _ (List.mem_append_left _ (List.mem_of_getElem? (i := 7) rfl)))) rfl rfl dX11_cond_173 ?_
                refine lv_iload_n hx hb dX11_cond_176 rfl (lv_at hl 0 rfl) ?_
                refine lv_aload_n hx hb dX11_cond_177 rfl (lv_at hl 1 rfl) ?_
                refine lv_bipush (v := 6) hx hb dX11_cond_178 (by decide) ?_
                refine x_callV (n := 1) (As := [.int 6]) (rest := [.int (nI ((6 * r) + u)), .ref m34]) F hP hD hS (m_number l D cy sk sv w88 tg y m2 m3 m4 m5 m6 m8 m9 m10 m11 m12 m13 m14 m17 m18 m19 m20 m21 m22 m23 m24 m29 m30 m31 m32 m33 m34 m35 m36 m37 m39 m40 m41 m42 m43 m44 m45 m46 m47 m48 m49 m51 m52 m53 m54 m56 m57 m58 m59 pc ac sc ln sh gf v0 td (nI ax63) v50 f24 (ax63 + 1) fvx6 6 k90 k91 (fun b => b = y) rfl ty tm24 (by omega) (by omega) (by omega)) gX11_cond_X11_number rfl rfl (by decide +kernel) ⟨(Nat.le_of_ble_eq_true rfl), (Nat.le_of_ble_eq_true rfl)⟩ rfl hl.1 (Nat.le_of_ble_eq_true rfl) k90 rfl dX11_cond_180 rfl ⟨(Nat.le_of_ble_eq_true rfl), (Nat.le_of_ble_eq_true rfl)⟩ (fun v98 w99 hp97 H locs hP hD hS => ?_)
                obtain ⟨ax100, bx101, fvx102, rx103, rfl, hz104, hz105, hz106, hz107, kq109, k108⟩ := hp97
                have k110 := kq109.2 _ _ k91 (tg_ne tm24 ty (by decide))
                have k111 := kq109.2 _ _ k92 (tg_ne tm31 ty (by decide))
                have k112 := kq109.2 _ _ k93 (tg_ne tm32 ty (by decide))
                have k113 := kq109.2 _ _ k94 (tg_ne tm33 ty (by decide))
                have k114 := kq109.2 _ _ k95 (tg_ne tm34 ty (by decide))
                have kp115 := kp96.tr kq109 (fun b9 hm q9 => (fun q9 => q9 ▸ s90) q9)
                refine W.eq (g2 := F0 m 183 ls [.int rx103, .int (nI ((6 * r) + u)), .ref m34]) rfl (W.widen (k := 0) (n := 0) (Nat.le_of_ble_eq_true rfl) (Nat.le_of_ble_eq_true rfl) ?_)
                refine y_iast F hP hD hS k114 (vp_in_nI (n := ((6 * r) + u)) (N := 936) (by omega) (by decide)) dX11_cond_183 (fun w116 ew117 H locs hP hD hS => ?_)
                have k118 := wd_at.pt ew117 k108 (tg_ne ty tm34 (by decide))
                have k119 := wd_at.pt ew117 k110 (tg_ne tm24 tm34 (by decide))
                have k120 := wd_at.pt ew117 k111 (tg_ne tm31 tm34 (by decide))
                have k121 := wd_at.pt ew117 k112 (tg_ne tm32 tm34 (by decide))
                have k122 := wd_at.pt ew117 k113 (tg_ne tm33 tm34 (by decide))
                have k123 : wd_at w116 m34 (.inl (cy 2, 936, .inl (upd f34 (nI ((6 * r) + u)).toNatClampNeg rx103))) := wd_at.ps ew117 k114
                have kp124 := kp115.put ew117 s94
                refine lv_aload_n hx hb dX11_cond_184 rfl (lv_at hl 1 rfl) ?_
                refine x_get (ref := "NoteHouseModel") F hP k118 rfl (fun _ h => List.mem_cons_of_mem _ (List.mem_append_right _ (h))) 31 (Nat.le_of_ble_eq_true rfl) (List.mem_cons_of_mem _ (List.mem_append_left _ (List.mem_append_left _ (List.mem_of_getElem? (i := 0) rfl)))) rfl rfl dX11_cond_185 ?_
                refine lv_iload_n hx hb dX11_cond_188 rfl (lv_at hl 2 rfl) ?_
                refine lv_dup2_11 hx hb dX11_cond_189 rfl rfl ?_
                refine x_iald F hP k120 (vp_in_nI (n := r) (N := 156) (by omega) (by decide)) dX11_cond_190 ?_
                rw [nI_clamp (n := r) (by omega), hu]
                refine lv_iconst (v := 1) hx hb dX11_cond_191 (by decide) ?_
                refine lv_iadd hx hb dX11_cond_192 ?_
                rw [show ((nI u) + 1 : Int32) = nI (u + 1) from nI_add u 1]
                refine y_iast F hP hD hS k120 (vp_in_nI (n := r) (N := 156) (by omega) (by decide)) dX11_cond_193 (fun w125 ew126 H locs hP hD hS => ?_)
                have k127 := wd_at.pt ew126 k118 (tg_ne ty tm31 (by decide))
                have k128 := wd_at.pt ew126 k119 (tg_ne tm24 tm31 (by decide))
                have k129 : wd_at w125 m31 (.inl (cy 2, 156, .inl (upd f31 (nI r).toNatClampNeg (nI (u + 1))))) := wd_at.ps ew126 k120
                have k130 := wd_at.pt ew126 k121 (tg_ne tm32 tm31 (by decide))
                have k131 := wd_at.pt ew126 k122 (tg_ne tm33 tm31 (by decide))
                have k132 := wd_at.pt ew126 k123 (tg_ne tm34 tm31 (by decide))
                have kp133 := kp124.put ew126 s91
                exact y_vr K hP hD hS (Nat.le_of_ble_eq_true rfl) (Nat.le_of_ble_eq_true rfl) rfl dX11_cond_194 (⟨ax100, bx101, fvx102, (u + 1), upd f31 (nI r).toNatClampNeg (nI (u + 1)), upd f32 (nI ((6 * r) + u)).toNatClampNeg (nI n), upd f33 (nI ((6 * r) + u)).toNatClampNeg (f24 (nI ax63).toNatClampNeg), upd f34 (nI ((6 * r) + u)).toNatClampNeg rx103, rfl, by omega, by omega, by omega, hc.c (r := r) (u := u + 1) (by omega) (by omega), by rw [nI_clamp (by omega), pk_us], by omega, by omega, kp133, k127, k129, k130, k131, k132⟩)
              · refine lv_aload_n hx hb dX11_cond_130 rfl (lv_at hl 1 rfl) ?_
                refine x_get (ref := "NoteHouseModel") F hP k80 rfl (fun _ h => List.mem_cons_of_mem _ (List.mem_append_right _ (h))) 33 (Nat.le_of_ble_eq_true rfl) (List.mem_cons_of_mem _ (List.mem_append_left _ (List.mem_append_left _ (List.mem_of_getElem? (i := 4) rfl)))) rfl rfl dX11_cond_131 ?_
                refine lv_iload_n hx hb dX11_cond_134 rfl (lv_at hl 0 rfl) ?_
                refine x_iald F hP k84 (vp_in_nI (n := ((6 * r) + u)) (N := 936) (by omega) (by decide)) dX11_cond_135 ?_
                rw [pk_us]
                refine lv_bipush (v := 62) hx hb dX11_cond_136 (by decide) ?_
                refine lv_icmp_eq (tgt := 162) hx hb dX11_cond_138 (by decide) (fun c_134 => ?_) (fun c_134 => ?_)
                · refine lv_aload_n hx hb dX11_cond_162 rfl (lv_at hl 1 rfl) ?_
                  refine lv_dup hx hb dX11_cond_163 rfl ?_
                  refine x_get (ref := "NoteHouseModel") F hP k80 rfl (fun _ h => List.mem_cons_of_mem _ (List.mem_append_right _ (h))) 26 (Nat.le_of_ble_eq_true rfl) (List.mem_cons_of_mem _ (List.mem_append_left _ (List.mem_append_left _ (List.mem_of_getElem? (i := 6) rfl)))) rfl rfl dX11_cond_164 ?_
                  refine lv_iconst (v := 1) hx hb dX11_cond_167 (by decide) ?_
                  refine lv_iadd hx hb dX11_cond_168 ?_
                  rw [show ((nI ax63) + 1 : Int32) = nI (ax63 + 1) from nI_add ax63 1]
                  refine y_put (ref := "NoteHouseModel") F hP hD hS k80 rfl (fun _ h => List.mem_cons_of_mem _ (List.mem_append_right _ (h))) tyX11_ok nmX11 26 (Nat.le_of_ble_eq_true rfl) (List.mem_cons_of_mem _ (List.mem_append_left _ (List.mem_append_left _ (List.mem_of_getElem? (i := 6) rfl)))) rfl rfl rfl rfl (Nat.le_of_ble_eq_true rfl) dX11_cond_169 (fun w135 ew136 H locs hP hD hS => ?_)
                  have k137 : wd_at w135 y (.inr (11, [.int v0, .int td, .ref m2, .ref m3, .ref m4, .ref m5, .ref m6, .int (nI pc), .ref m8, .ref m9, .ref m10, .ref m11, .ref m12, .ref m13, .ref m14, .int (nI ac), .int (nI sc), .ref m17, .ref m18, .ref m19, .ref m20, .ref m21, .ref m22, .ref m23, .ref m24, .int (nI ln), .int (nI (ax63 + 1)), .int (nI ax63), .int (nI fvx6), .ref m29, .ref m30, .ref m31, .ref m32, .ref m33, .ref m34, .ref m35, .ref m36, .ref m37, .int (nI sh), .ref m39, .ref m40, .ref m41, .ref m42, .ref m43, .ref m44, .ref m45, .ref m46, .ref m47, .ref m48, .ref m49, .int v50, .ref m51, .ref m52, .ref m53, .ref m54, .int (nI gf), .ref m56, .ref m57, .ref m58, .ref m59])) := wd_at.ps ew136 k80
                  have k138 := wd_at.pt ew136 k81 (tg_ne tm24 ty (by decide))
                  have k139 := wd_at.pt ew136 k82 (tg_ne tm31 ty (by decide))
                  have k140 := wd_at.pt ew136 k83 (tg_ne tm32 ty (by decide))
                  have k141 := wd_at.pt ew136 k84 (tg_ne tm33 ty (by decide))
                  have k142 := wd_at.pt ew136 k85 (tg_ne tm34 ty (by decide))
                  have kp143 := kp86.put ew136 s90
                  refine lv_aload_n hx hb dX11_cond_172 rfl (lv_at hl 1 rfl) ?_
                  refine x_get (ref := "NoteHouseModel") F hP k137 rfl (fun _ h => List.mem_cons_of_mem _ (List.mem_append_right _ (h))) 34 (Nat.le_of_ble_eq_true rfl) (List.mem_cons_of_mem _ (List.mem_append_left _ (List.mem_append_left _ (List.mem_of_getElem? (i := 7) rfl)))) rfl rfl dX11_cond_173 ?_
                  refine lv_iload_n hx hb dX11_cond_176 rfl (lv_at hl 0 rfl) ?_
                  refine lv_aload_n hx hb dX11_cond_177 rfl (lv_at hl 1 rfl) ?_
                  refine lv_bipush (v := 6) hx hb dX11_cond_178 (by decide) ?_
                  refine x_callV (n := 1) (As := [.int 6]) (rest := [.int (nI ((6 * r) + u)), .ref m34]) F hP hD hS (m_number l D cy sk sv w135 tg y m2 m3 m4 m5 m6 m8 m9 m10 m11 m12 m13 m14 m17 m18 m19 m20 m21 m22 m23 m24 m29 m30 m31 m32 m33 m34 m35 m36 m37 m39 m40 m41 m42 m43 m44 m45 m46 m47 m48 m49 m51 m52 m53 m54 m56 m57 m58 m59 pc ac sc ln sh gf v0 td (nI ax63) v50 f24 (ax63 + 1) fvx6 6 k137 k138 (fun b => b = y) rfl ty tm24 (by omega) (by omega) (by omega)) gX11_cond_X11_number rfl rfl (by decide +kernel) ⟨(Nat.le_of_ble_eq_true rfl), (Nat.le_of_ble_eq_true rfl)⟩ rfl hl.1 (Nat.le_of_ble_eq_true rfl) k137 rfl dX11_cond_180 rfl ⟨(Nat.le_of_ble_eq_true rfl), (Nat.le_of_ble_eq_true rfl)⟩ (fun v145 w146 hp144 H locs hP hD hS => ?_)
                  obtain ⟨ax147, bx148, fvx149, rx150, rfl, hz151, hz152, hz153, hz154, kq156, k155⟩ := hp144
                  have k157 := kq156.2 _ _ k138 (tg_ne tm24 ty (by decide))
                  have k158 := kq156.2 _ _ k139 (tg_ne tm31 ty (by decide))
                  have k159 := kq156.2 _ _ k140 (tg_ne tm32 ty (by decide))
                  have k160 := kq156.2 _ _ k141 (tg_ne tm33 ty (by decide))
                  have k161 := kq156.2 _ _ k142 (tg_ne tm34 ty (by decide))
                  have kp162 := kp143.tr kq156 (fun b9 hm q9 => (fun q9 => q9 ▸ s90) q9)
                  refine W.eq (g2 := F0 m 183 ls [.int rx150, .int (nI ((6 * r) + u)), .ref m34]) rfl (W.widen (k := 0) (n := 0) (Nat.le_of_ble_eq_true rfl) (Nat.le_of_ble_eq_true rfl) ?_)
                  refine y_iast F hP hD hS k161 (vp_in_nI (n := ((6 * r) + u)) (N := 936) (by omega) (by decide)) dX11_cond_183 (fun w163 ew164 H locs hP hD hS => ?_)
                  have k165 := wd_at.pt ew164 k155 (tg_ne ty tm34 (by decide))
                  have k166 := wd_at.pt ew164 k157 (tg_ne tm24 tm34 (by decide))
                  have k167 := wd_at.pt ew164 k158 (tg_ne tm31 tm34 (by decide))
                  have k168 := wd_at.pt ew164 k159 (tg_ne tm32 tm34 (by decide))
                  have k169 := wd_at.pt ew164 k160 (tg_ne tm33 tm34 (by decide))
                  have k170 : wd_at w163 m34 (.inl (cy 2, 936, .inl (upd f34 (nI ((6 * r) + u)).toNatClampNeg rx150))) := wd_at.ps ew164 k161
                  have kp171 := kp162.put ew164 s94
                  refine lv_aload_n hx hb dX11_cond_184 rfl (lv_at hl 1 rfl) ?_
                  refine x_get (ref := "NoteHouseModel") F hP k165 rfl (fun _ h => List.mem_cons_of_mem _ (List.mem_append_right _ (h))) 31 (Nat.le_of_ble_eq_true rfl) (List.mem_cons_of_mem _ (List.mem_append_left _ (List.mem_append_left _ (List.mem_of_getElem? (i := 0) rfl)))) rfl rfl dX11_cond_185 ?_
                  refine lv_iload_n hx hb dX11_cond_188 rfl (lv_at hl 2 rfl) ?_
                  refine lv_dup2_11 hx hb dX11_cond_189 rfl rfl ?_
                  refine x_iald F hP k167 (vp_in_nI (n := r) (N := 156) (by omega) (by decide)) dX11_cond_190 ?_
                  rw [nI_clamp (n := r) (by omega), hu]
                  refine lv_iconst (v := 1) hx hb dX11_cond_191 (by decide) ?_
                  refine lv_iadd hx hb dX11_cond_192 ?_
                  rw [show ((nI u) + 1 : Int32) = nI (u + 1) from nI_add u 1]
                  refine y_iast F hP hD hS k167 (vp_in_nI (n := r) (N := 156) (by omega) (by decide)) dX11_cond_193 (fun w172 ew173 H locs hP hD hS => ?_)
                  have k174 := wd_at.pt ew173 k165 (tg_ne ty tm31 (by decide))
                  have k175 := wd_at.pt ew173 k166 (tg_ne tm24 tm31 (by decide))
                  have k176 : wd_at w172 m31 (.inl (cy 2, 156, .inl (upd f31 (nI r).toNatClampNeg (nI (u + 1))))) := wd_at.ps ew173 k167
                  have k177 := wd_at.pt ew173 k168 (tg_ne tm32 tm31 (by decide))
                  have k178 := wd_at.pt ew173 k169 (tg_ne tm33 tm31 (by decide))
                  have k179 := wd_at.pt ew173 k170 (tg_ne tm34 tm31 (by decide))
                  have kp180 := kp171.put ew173 s91
                  exact y_vr K hP hD hS (Nat.le_of_ble_eq_true rfl) (Nat.le_of_ble_eq_true rfl) rfl dX11_cond_194 (⟨ax147, bx148, fvx149, (u + 1), upd f31 (nI r).toNatClampNeg (nI (u + 1)), upd f32 (nI ((6 * r) + u)).toNatClampNeg (nI n), upd f33 (nI ((6 * r) + u)).toNatClampNeg (f24 (nI ax63).toNatClampNeg), upd f34 (nI ((6 * r) + u)).toNatClampNeg rx150, rfl, by omega, by omega, by omega, hc.c (r := r) (u := u + 1) (by omega) (by omega), by rw [nI_clamp (by omega), pk_us], by omega, by omega, kp180, k174, k176, k177, k178, k179⟩)
                · refine lv_aload_n hx hb dX11_cond_141 rfl (lv_at hl 1 rfl) ?_
                  refine x_get (ref := "NoteHouseModel") F hP k80 rfl (fun _ h => List.mem_cons_of_mem _ (List.mem_append_right _ (h))) 33 (Nat.le_of_ble_eq_true rfl) (List.mem_cons_of_mem _ (List.mem_append_left _ (List.mem_append_left _ (List.mem_of_getElem? (i := 4) rfl)))) rfl rfl dX11_cond_142 ?_
                  refine lv_iload_n hx hb dX11_cond_145 rfl (lv_at hl 0 rfl) ?_
                  refine x_iald F hP k84 (vp_in_nI (n := ((6 * r) + u)) (N := 936) (by omega) (by decide)) dX11_cond_146 ?_
                  rw [pk_us]
                  refine lv_bipush (v := 61) hx hb dX11_cond_147 (by decide) ?_
                  refine lv_icmp_eq (tgt := 162) hx hb dX11_cond_149 (by decide) (fun c_181 => ?_) (fun c_181 => ?_)
                  · refine lv_aload_n hx hb dX11_cond_162 rfl (lv_at hl 1 rfl) ?_
                    refine lv_dup hx hb dX11_cond_163 rfl ?_
                    refine x_get (ref := "NoteHouseModel") F hP k80 rfl (fun _ h => List.mem_cons_of_mem _ (List.mem_append_right _ (h))) 26 (Nat.le_of_ble_eq_true rfl) (List.mem_cons_of_mem _ (List.mem_append_left _ (List.mem_append_left _ (List.mem_of_getElem? (i := 6) rfl)))) rfl rfl dX11_cond_164 ?_
                    refine lv_iconst (v := 1) hx hb dX11_cond_167 (by decide) ?_
                    refine lv_iadd hx hb dX11_cond_168 ?_
                    rw [show ((nI ax63) + 1 : Int32) = nI (ax63 + 1) from nI_add ax63 1]
                    refine y_put (ref := "NoteHouseModel") F hP hD hS k80 rfl (fun _ h => List.mem_cons_of_mem _ (List.mem_append_right _ (h))) tyX11_ok nmX11 26 (Nat.le_of_ble_eq_true rfl) (List.mem_cons_of_mem _ (List.mem_append_left _ (List.mem_append_left _ (List.mem_of_getElem? (i := 6) rfl)))) rfl rfl rfl rfl (Nat.le_of_ble_eq_true rfl) dX11_cond_169 (fun w182 ew183 H locs hP hD hS => ?_)
                    have k184 : wd_at w182 y (.inr (11, [.int v0, .int td, .ref m2, .ref m3, .ref m4, .ref m5, .ref m6, .int (nI pc), .ref m8, .ref m9, .ref m10, .ref m11, .ref m12, .ref m13, .ref m14, .int (nI ac), .int (nI sc), .ref m17, .ref m18, .ref m19, .ref m20, .ref m21, .ref m22, .ref m23, .ref m24, .int (nI ln), .int (nI (ax63 + 1)), .int (nI ax63), .int (nI fvx6), .ref m29, .ref m30, .ref m31, .ref m32, .ref m33, .ref m34, .ref m35, .ref m36, .ref m37, .int (nI sh), .ref m39, .ref m40, .ref m41, .ref m42, .ref m43, .ref m44, .ref m45, .ref m46, .ref m47, .ref m48, .ref m49, .int v50, .ref m51, .ref m52, .ref m53, .ref m54, .int (nI gf), .ref m56, .ref m57, .ref m58, .ref m59])) := wd_at.ps ew183 k80
                    have k185 := wd_at.pt ew183 k81 (tg_ne tm24 ty (by decide))
                    have k186 := wd_at.pt ew183 k82 (tg_ne tm31 ty (by decide))
                    have k187 := wd_at.pt ew183 k83 (tg_ne tm32 ty (by decide))
                    have k188 := wd_at.pt ew183 k84 (tg_ne tm33 ty (by decide))
                    have k189 := wd_at.pt ew183 k85 (tg_ne tm34 ty (by decide))
                    have kp190 := kp86.put ew183 s90
                    refine lv_aload_n hx hb dX11_cond_172 rfl (lv_at hl 1 rfl) ?_
                    refine x_get (ref := "NoteHouseModel") F hP k184 rfl (fun _ h => List.mem_cons_of_mem _ (List.mem_append_right _ (h))) 34 (Nat.le_of_ble_eq_true rfl) (List.mem_cons_of_mem _ (List.mem_append_left _ (List.mem_append_left _ (List.mem_of_getElem? (i := 7) rfl)))) rfl rfl dX11_cond_173 ?_
                    refine lv_iload_n hx hb dX11_cond_176 rfl (lv_at hl 0 rfl) ?_
                    refine lv_aload_n hx hb dX11_cond_177 rfl (lv_at hl 1 rfl) ?_
                    refine lv_bipush (v := 6) hx hb dX11_cond_178 (by decide) ?_
                    refine x_callV (n := 1) (As := [.int 6]) (rest := [.int (nI ((6 * r) + u)), .ref m34]) F hP hD hS (m_number l D cy sk sv w182 tg y m2 m3 m4 m5 m6 m8 m9 m10 m11 m12 m13 m14 m17 m18 m19 m20 m21 m22 m23 m24 m29 m30 m31 m32 m33 m34 m35 m36 m37 m39 m40 m41 m42 m43 m44 m45 m46 m47 m48 m49 m51 m52 m53 m54 m56 m57 m58 m59 pc ac sc ln sh gf v0 td (nI ax63) v50 f24 (ax63 + 1) fvx6 6 k184 k185 (fun b => b = y) rfl ty tm24 (by omega) (by omega) (by omega)) gX11_cond_X11_number rfl rfl (by decide +kernel) ⟨(Nat.le_of_ble_eq_true rfl), (Nat.le_of_ble_eq_true rfl)⟩ rfl hl.1 (Nat.le_of_ble_eq_true rfl) k184 rfl dX11_cond_180 rfl ⟨(Nat.le_of_ble_eq_true rfl), (Nat.le_of_ble_eq_true rfl)⟩ (fun v192 w193 hp191 H locs hP hD hS => ?_)
                    obtain ⟨ax194, bx195, fvx196, rx197, rfl, hz198, hz199, hz200, hz201, kq203, k202⟩ := hp191
                    have k204 := kq203.2 _ _ k185 (tg_ne tm24 ty (by decide))
                    have k205 := kq203.2 _ _ k186 (tg_ne tm31 ty (by decide))
                    have k206 := kq203.2 _ _ k187 (tg_ne tm32 ty (by decide))
                    have k207 := kq203.2 _ _ k188 (tg_ne tm33 ty (by decide))
                    have k208 := kq203.2 _ _ k189 (tg_ne tm34 ty (by decide))
                    have kp209 := kp190.tr kq203 (fun b9 hm q9 => (fun q9 => q9 ▸ s90) q9)
                    refine W.eq (g2 := F0 m 183 ls [.int rx197, .int (nI ((6 * r) + u)), .ref m34]) rfl (W.widen (k := 0) (n := 0) (Nat.le_of_ble_eq_true rfl) (Nat.le_of_ble_eq_true rfl) ?_)
                    refine y_iast F hP hD hS k208 (vp_in_nI (n := ((6 * r) + u)) (N := 936) (by omega) (by decide)) dX11_cond_183 (fun w210 ew211 H locs hP hD hS => ?_)
                    have k212 := wd_at.pt ew211 k202 (tg_ne ty tm34 (by decide))
                    have k213 := wd_at.pt ew211 k204 (tg_ne tm24 tm34 (by decide))
                    have k214 := wd_at.pt ew211 k205 (tg_ne tm31 tm34 (by decide))
                    have k215 := wd_at.pt ew211 k206 (tg_ne tm32 tm34 (by decide))
                    have k216 := wd_at.pt ew211 k207 (tg_ne tm33 tm34 (by decide))
                    have k217 : wd_at w210 m34 (.inl (cy 2, 936, .inl (upd f34 (nI ((6 * r) + u)).toNatClampNeg rx197))) := wd_at.ps ew211 k208
                    have kp218 := kp209.put ew211 s94
                    refine lv_aload_n hx hb dX11_cond_184 rfl (lv_at hl 1 rfl) ?_
                    refine x_get (ref := "NoteHouseModel") F hP k212 rfl (fun _ h => List.mem_cons_of_mem _ (List.mem_append_right _ (h))) 31 (Nat.le_of_ble_eq_true rfl) (List.mem_cons_of_mem _ (List.mem_append_left _ (List.mem_append_left _ (List.mem_of_getElem? (i := 0) rfl)))) rfl rfl dX11_cond_185 ?_
                    refine lv_iload_n hx hb dX11_cond_188 rfl (lv_at hl 2 rfl) ?_
                    refine lv_dup2_11 hx hb dX11_cond_189 rfl rfl ?_
                    refine x_iald F hP k214 (vp_in_nI (n := r) (N := 156) (by omega) (by decide)) dX11_cond_190 ?_
                    rw [nI_clamp (n := r) (by omega), hu]
                    refine lv_iconst (v := 1) hx hb dX11_cond_191 (by decide) ?_
                    refine lv_iadd hx hb dX11_cond_192 ?_
                    rw [show ((nI u) + 1 : Int32) = nI (u + 1) from nI_add u 1]
                    refine y_iast F hP hD hS k214 (vp_in_nI (n := r) (N := 156) (by omega) (by decide)) dX11_cond_193 (fun w219 ew220 H locs hP hD hS => ?_)
                    have k221 := wd_at.pt ew220 k212 (tg_ne ty tm31 (by decide))
                    have k222 := wd_at.pt ew220 k213 (tg_ne tm24 tm31 (by decide))
                    have k223 : wd_at w219 m31 (.inl (cy 2, 156, .inl (upd f31 (nI r).toNatClampNeg (nI (u + 1))))) := wd_at.ps ew220 k214
                    have k224 := wd_at.pt ew220 k215 (tg_ne tm32 tm31 (by decide))
                    have k225 := wd_at.pt ew220 k216 (tg_ne tm33 tm31 (by decide))
                    have k226 := wd_at.pt ew220 k217 (tg_ne tm34 tm31 (by decide))
                    have kp227 := kp218.put ew220 s91
                    exact y_vr K hP hD hS (Nat.le_of_ble_eq_true rfl) (Nat.le_of_ble_eq_true rfl) rfl dX11_cond_194 (⟨ax194, bx195, fvx196, (u + 1), upd f31 (nI r).toNatClampNeg (nI (u + 1)), upd f32 (nI ((6 * r) + u)).toNatClampNeg (nI n), upd f33 (nI ((6 * r) + u)).toNatClampNeg (f24 (nI ax63).toNatClampNeg), upd f34 (nI ((6 * r) + u)).toNatClampNeg rx197, rfl, by omega, by omega, by omega, hc.c (r := r) (u := u + 1) (by omega) (by omega), by rw [nI_clamp (by omega), pk_us], by omega, by omega, kp227, k221, k223, k224, k225, k226⟩)
                  · refine lv_aload_n hx hb dX11_cond_152 rfl (lv_at hl 1 rfl) ?_
                    refine lv_iconst (v := 0) hx hb dX11_cond_153 (by decide) ?_
                    refine lv_aload_n hx hb dX11_cond_154 rfl (lv_at hl 1 rfl) ?_
                    refine x_get (ref := "NoteHouseModel") F hP k80 rfl (fun _ h => List.mem_cons_of_mem _ (List.mem_append_right _ (h))) 26 (Nat.le_of_ble_eq_true rfl) (List.mem_cons_of_mem _ (List.mem_append_left _ (List.mem_append_left _ (List.mem_of_getElem? (i := 6) rfl)))) rfl rfl dX11_cond_155 ?_
                    refine x_callV (n := 2) (As := [.int 0, .int (nI ax63)]) (rest := []) F hP hD hS (m_fails l D cy sk sv w78 tg y m2 m3 m4 m5 m6 m8 m9 m10 m11 m12 m13 m14 m17 m18 m19 m20 m21 m22 m23 m24 m29 m30 m31 m32 m33 m34 m35 m36 m37 m39 m40 m41 m42 m43 m44 m45 m46 m47 m48 m49 m51 m52 m53 m54 m56 m57 m58 m59 pc ac sc ln sh gf v0 td (nI ax63) (nI ax63) v50 fvx6 0 ax63 k80 (fun b => b = y) rfl ty (by omega) (by omega) (by omega)) gX11_cond_X11_fails rfl rfl (by decide +kernel) ⟨(Nat.le_of_ble_eq_true rfl), (Nat.le_of_ble_eq_true rfl)⟩ rfl hl.1 (Nat.le_of_ble_eq_true rfl) k80 rfl dX11_cond_158 rfl ⟨(Nat.le_of_ble_eq_true rfl), (Nat.le_of_ble_eq_true rfl)⟩ (fun v229 w230 hp228 H locs hP hD hS => ?_)
                    obtain ⟨fwx231, rfl, hz232, hz233, kq235, k234⟩ := hp228
                    have k236 := kq235.2 _ _ k81 (tg_ne tm24 ty (by decide))
                    have k237 := kq235.2 _ _ k82 (tg_ne tm31 ty (by decide))
                    have k238 := kq235.2 _ _ k83 (tg_ne tm32 ty (by decide))
                    have k239 := kq235.2 _ _ k84 (tg_ne tm33 ty (by decide))
                    have k240 := kq235.2 _ _ k85 (tg_ne tm34 ty (by decide))
                    have kp241 := kp86.tr kq235 (fun b9 hm q9 => (fun q9 => q9 ▸ s90) q9)
                    refine W.eq (g2 := F0 m 161 ls []) rfl (W.widen (k := 0) (n := 0) (Nat.le_of_ble_eq_true rfl) (Nat.le_of_ble_eq_true rfl) ?_)
                    exact y_vr K hP hD hS (Nat.le_of_ble_eq_true rfl) (Nat.le_of_ble_eq_true rfl) rfl dX11_cond_161 (⟨ax63, ax63, fwx231, u, f31, upd f32 (nI ((6 * r) + u)).toNatClampNeg (nI n), upd f33 (nI ((6 * r) + u)).toNatClampNeg (f24 (nI ax63).toNatClampNeg), f34, rfl, by omega, by omega, by omega, hc, hu, by omega, by omega, kp241, k234, k237, k238, k239, k240⟩)
            · refine lv_iconst (v := 0) hx hb dX11_cond_105 (by decide) ?_
              refine lv_goto (tgt := 118) hx hb dX11_cond_106 (by decide) ?_
              refine y_iast F hP hD hS k74 (vp_in_nI (n := ((6 * r) + u)) (N := 936) (by omega) (by decide)) dX11_cond_118 (fun w242 ew243 H locs hP hD hS => ?_)
              have k244 := wd_at.pt ew243 k69 (tg_ne ty tm33 (by decide))
              have k245 := wd_at.pt ew243 k71 (tg_ne tm24 tm33 (by decide))
              have k246 := wd_at.pt ew243 k72 (tg_ne tm31 tm33 (by decide))
              have k247 := wd_at.pt ew243 k73 (tg_ne tm32 tm33 (by decide))
              have k248 : wd_at w242 m33 (.inl (cy 2, 936, .inl (upd f33 (nI ((6 * r) + u)).toNatClampNeg 0))) := wd_at.ps ew243 k74
              have k249 := wd_at.pt ew243 k75 (tg_ne tm34 tm33 (by decide))
              have kp250 := kp76.put ew243 s93
              refine lv_aload_n hx hb dX11_cond_119 rfl (lv_at hl 1 rfl) ?_
              refine x_get (ref := "NoteHouseModel") F hP k244 rfl (fun _ h => List.mem_cons_of_mem _ (List.mem_append_right _ (h))) 33 (Nat.le_of_ble_eq_true rfl) (List.mem_cons_of_mem _ (List.mem_append_left _ (List.mem_append_left _ (List.mem_of_getElem? (i := 4) rfl)))) rfl rfl dX11_cond_120 ?_
              refine lv_iload_n hx hb dX11_cond_123 rfl (lv_at hl 0 rfl) ?_
              refine x_iald F hP k248 (vp_in_nI (n := ((6 * r) + u)) (N := 936) (by omega) (by decide)) dX11_cond_124 ?_
              rw [pk_us]
              refine lv_bipush (v := 60) hx hb dX11_cond_125 (by decide) ?_
              refine lv_icmp_eq (tgt := 162) hx hb dX11_cond_127 (by decide) (fun c_251 => absurd c_251 (show ¬ (0 : Int32) = (60 : Int32) by decide)) (fun c_251 => ?_)
              refine lv_aload_n hx hb dX11_cond_130 rfl (lv_at hl 1 rfl) ?_
              refine x_get (ref := "NoteHouseModel") F hP k244 rfl (fun _ h => List.mem_cons_of_mem _ (List.mem_append_right _ (h))) 33 (Nat.le_of_ble_eq_true rfl) (List.mem_cons_of_mem _ (List.mem_append_left _ (List.mem_append_left _ (List.mem_of_getElem? (i := 4) rfl)))) rfl rfl dX11_cond_131 ?_
              refine lv_iload_n hx hb dX11_cond_134 rfl (lv_at hl 0 rfl) ?_
              refine x_iald F hP k248 (vp_in_nI (n := ((6 * r) + u)) (N := 936) (by omega) (by decide)) dX11_cond_135 ?_
              rw [pk_us]
              refine lv_bipush (v := 62) hx hb dX11_cond_136 (by decide) ?_
              refine lv_icmp_eq (tgt := 162) hx hb dX11_cond_138 (by decide) (fun c_252 => absurd c_252 (show ¬ (0 : Int32) = (62 : Int32) by decide)) (fun c_252 => ?_)
              refine lv_aload_n hx hb dX11_cond_141 rfl (lv_at hl 1 rfl) ?_
              refine x_get (ref := "NoteHouseModel") F hP k244 rfl (fun _ h => List.mem_cons_of_mem _ (List.mem_append_right _ (h))) 33 (Nat.le_of_ble_eq_true rfl) (List.mem_cons_of_mem _ (List.mem_append_left _ (List.mem_append_left _ (List.mem_of_getElem? (i := 4) rfl)))) rfl rfl dX11_cond_142 ?_
              refine lv_iload_n hx hb dX11_cond_145 rfl (lv_at hl 0 rfl) ?_
              refine x_iald F hP k248 (vp_in_nI (n := ((6 * r) + u)) (N := 936) (by omega) (by decide)) dX11_cond_146 ?_
              rw [pk_us]
              refine lv_bipush (v := 61) hx hb dX11_cond_147 (by decide) ?_
              refine lv_icmp_eq (tgt := 162) hx hb dX11_cond_149 (by decide) (fun c_253 => absurd c_253 (show ¬ (0 : Int32) = (61 : Int32) by decide)) (fun c_253 => ?_)
              refine lv_aload_n hx hb dX11_cond_152 rfl (lv_at hl 1 rfl) ?_
              refine lv_iconst (v := 0) hx hb dX11_cond_153 (by decide) ?_
              refine lv_aload_n hx hb dX11_cond_154 rfl (lv_at hl 1 rfl) ?_
              refine x_get (ref := "NoteHouseModel") F hP k244 rfl (fun _ h => List.mem_cons_of_mem _ (List.mem_append_right _ (h))) 26 (Nat.le_of_ble_eq_true rfl) (List.mem_cons_of_mem _ (List.mem_append_left _ (List.mem_append_left _ (List.mem_of_getElem? (i := 6) rfl)))) rfl rfl dX11_cond_155 ?_
              refine x_callV (n := 2) (As := [.int 0, .int (nI ax63)]) (rest := []) F hP hD hS (m_fails l D cy sk sv w242 tg y m2 m3 m4 m5 m6 m8 m9 m10 m11 m12 m13 m14 m17 m18 m19 m20 m21 m22 m23 m24 m29 m30 m31 m32 m33 m34 m35 m36 m37 m39 m40 m41 m42 m43 m44 m45 m46 m47 m48 m49 m51 m52 m53 m54 m56 m57 m58 m59 pc ac sc ln sh gf v0 td (nI ax63) (nI ax63) v50 fvx6 0 ax63 k244 (fun b => b = y) rfl ty (by omega) (by omega) (by omega)) gX11_cond_X11_fails rfl rfl (by decide +kernel) ⟨(Nat.le_of_ble_eq_true rfl), (Nat.le_of_ble_eq_true rfl)⟩ rfl hl.1 (Nat.le_of_ble_eq_true rfl) k244 rfl dX11_cond_158 rfl ⟨(Nat.le_of_ble_eq_true rfl), (Nat.le_of_ble_eq_true rfl)⟩ (fun v255 w256 hp254 H locs hP hD hS => ?_)
              obtain ⟨fwx257, rfl, hz258, hz259, kq261, k260⟩ := hp254
              have k262 := kq261.2 _ _ k245 (tg_ne tm24 ty (by decide))
              have k263 := kq261.2 _ _ k246 (tg_ne tm31 ty (by decide))
              have k264 := kq261.2 _ _ k247 (tg_ne tm32 ty (by decide))
              have k265 := kq261.2 _ _ k248 (tg_ne tm33 ty (by decide))
              have k266 := kq261.2 _ _ k249 (tg_ne tm34 ty (by decide))
              have kp267 := kp250.tr kq261 (fun b9 hm q9 => (fun q9 => q9 ▸ s90) q9)
              refine W.eq (g2 := F0 m 161 ls []) rfl (W.widen (k := 0) (n := 0) (Nat.le_of_ble_eq_true rfl) (Nat.le_of_ble_eq_true rfl) ?_)
              exact y_vr K hP hD hS (Nat.le_of_ble_eq_true rfl) (Nat.le_of_ble_eq_true rfl) rfl dX11_cond_161 (⟨ax63, ax63, fwx257, u, f31, upd f32 (nI ((6 * r) + u)).toNatClampNeg (nI n), upd f33 (nI ((6 * r) + u)).toNatClampNeg 0, f34, rfl, by omega, by omega, by omega, hc, hu, by omega, by omega, kp267, k260, k263, k264, k265, k266⟩)
          · refine lv_iinc (v := nI (n + 1)) (lv' := [(2, .int (nI (n + 1))), (0, .ref y), (1, .int (nI r))]) hx hb dX11_cond_52 hl (k := 2) rfl (nI_1 n) (by decide) rfl (fun ls hl => ?_)
            refine lv_goto (tgt := 34) hx hb dX11_cond_55 (by decide) ?_
            exact ih34 (n + 1)  (by omega)    ls (lv_sub hl [1, 2, 0] rfl) H locs hP hD hS
      exact lp34 _ 0  (Nat.zero_add 8)    ls (lv_sub hl [1, 2, 0] rfl) H locs hP hD hS
    · have hfp : 0 < fvx6 := Nat.pos_of_ne_zero (fun q => c_20 (by rw [q]; decide))
      exact y_vr K hP hD hS (Nat.le_of_ble_eq_true rfl) (Nat.le_of_ble_eq_true rfl) rfl dX11_cond_31 (⟨ax4, bx5, fvx6, u, f31, f32, f33, f34, rfl, by omega, by omega, by omega, hc, hu, by omega, by omega, kp18, k11, k14, k15, k16, k17⟩)
  · refine lv_aload_n hx hb dX11_cond_15 rfl (lv_at hl 0 rfl) ?_
    refine lv_iconst (v := 2) hx hb dX11_cond_16 (by decide) ?_
    refine lv_aload_n hx hb dX11_cond_17 rfl (lv_at hl 0 rfl) ?_
    refine x_get (ref := "NoteHouseModel") F hP k11 rfl (fun _ h => List.mem_cons_of_mem _ (List.mem_append_right _ (h))) 27 (Nat.le_of_ble_eq_true rfl) (List.mem_cons_of_mem _ (List.mem_append_left _ (List.mem_append_left _ (List.mem_of_getElem? (i := 1) rfl)))) rfl rfl dX11_cond_18 ?_
    refine x_callV (n := 2) (As := [.int 2, .int (nI bx5)]) (rest := []) F hP hD hS (m_fails l D cy sk sv w3 tg y m2 m3 m4 m5 m6 m8 m9 m10 m11 m12 m13 m14 m17 m18 m19 m20 m21 m22 m23 m24 m29 m30 m31 m32 m33 m34 m35 m36 m37 m39 m40 m41 m42 m43 m44 m45 m46 m47 m48 m49 m51 m52 m53 m54 m56 m57 m58 m59 pc ac sc ln sh gf v0 td (nI ax4) (nI bx5) v50 fvx6 2 bx5 k11 (fun b => b = y) rfl ty (by omega) (by omega) (by omega)) gX11_cond_X11_fails rfl rfl (by decide +kernel) ⟨(Nat.le_of_ble_eq_true rfl), (Nat.le_of_ble_eq_true rfl)⟩ rfl hl.1 (Nat.le_of_ble_eq_true rfl) k11 rfl dX11_cond_21 rfl ⟨(Nat.le_of_ble_eq_true rfl), (Nat.le_of_ble_eq_true rfl)⟩ (fun v269 w270 hp268 H locs hP hD hS => ?_)
    obtain ⟨fwx271, rfl, hz272, hz273, kq275, k274⟩ := hp268
    have k276 := kq275.2 _ _ k13 (tg_ne tm24 ty (by decide))
    have k277 := kq275.2 _ _ k14 (tg_ne tm31 ty (by decide))
    have k278 := kq275.2 _ _ k15 (tg_ne tm32 ty (by decide))
    have k279 := kq275.2 _ _ k16 (tg_ne tm33 ty (by decide))
    have k280 := kq275.2 _ _ k17 (tg_ne tm34 ty (by decide))
    have kp281 := kp18.tr kq275 (fun b9 hm q9 => (fun q9 => q9 ▸ s90) q9)
    refine W.eq (g2 := F0 m 24 ls []) rfl (W.widen (k := 0) (n := 0) (Nat.le_of_ble_eq_true rfl) (Nat.le_of_ble_eq_true rfl) ?_)
    refine lv_aload_n hx hb dX11_cond_24 rfl (lv_at hl 0 rfl) ?_
    refine x_get (ref := "NoteHouseModel") F hP k274 rfl (fun _ h => List.mem_cons_of_mem _ (List.mem_append_right _ (h))) 28 (Nat.le_of_ble_eq_true rfl) (List.mem_cons_of_mem _ (List.mem_append_left _ (List.mem_append_left _ (List.mem_of_getElem? (i := 2) rfl)))) rfl rfl dX11_cond_25 ?_
    refine lv_if_le (tgt := 32) hx hb dX11_cond_28 (by decide) (fun c_282 => absurd c_282 (nI_np (by omega) (by omega))) (fun c_282 => ?_)
    exact y_vr K hP hD hS (Nat.le_of_ble_eq_true rfl) (Nat.le_of_ble_eq_true rfl) rfl dX11_cond_31 (⟨ax4, bx5, fwx271, u, f31, f32, f33, f34, rfl, by omega, by omega, by omega, hc, hu, by omega, by omega, kp281, k274, k277, k278, k279, k280⟩)
set_option maxHeartbeats 4000000 in
set_option maxRecDepth 100000 in
theorem m_rule (l : Launch) (D : va_G) (cy : Nat → ClassId) (sk sv : Nat → Nat) (w : Wd) (tg : Nat → Nat) (y m2 m3 m4 m5 m6 m8 m9 m10 m11 m12 m13 m14 m17 m18 m19 m20 m21 m22 m23 m24 m29 m30 m31 m32 m33 m34 m35 m36 m37 m39 m40 m41 m42 m43 m44 m45 m46 m47 m48 m49 m51 m52 m53 m54 m56 m57 m58 m59 pc ac sc ln sh gf : Nat) (v0 td v27 v50 : Int32) (f24 : Nat → Int32) (f30 : Nat → Int32) (f31 : Nat → Int32) (f32 : Nat → Int32) (f33 : Nat → Int32) (f34 : Nat → Int32) (a0 fv r nn : Nat) (c90 : wd_at w y (.inr (11, [.int v0, .int td, .ref m2, .ref m3, .ref m4, .ref m5, .ref m6, .int (nI pc), .ref m8, .ref m9, .ref m10, .ref m11, .ref m12, .ref m13, .ref m14, .int (nI ac), .int (nI sc), .ref m17, .ref m18, .ref m19, .ref m20, .ref m21, .ref m22, .ref m23, .ref m24, .int (nI ln), .int (nI a0), .int v27, .int (nI fv), .ref m29, .ref m30, .ref m31, .ref m32, .ref m33, .ref m34, .ref m35, .ref m36, .ref m37, .int (nI sh), .ref m39, .ref m40, .ref m41, .ref m42, .ref m43, .ref m44, .ref m45, .ref m46, .ref m47, .ref m48, .ref m49, .int v50, .ref m51, .ref m52, .ref m53, .ref m54, .int (nI gf), .ref m56, .ref m57, .ref m58, .ref m59]))) (c91 : wd_at w m24 (.inl (cy 0, 300, .inl f24))) (c92 : wd_at w m30 (.inl (cy 2, 156, .inl f30))) (c93 : wd_at w m31 (.inl (cy 2, 156, .inl f31))) (c94 : wd_at w m32 (.inl (cy 2, 936, .inl f32))) (c95 : wd_at w m33 (.inl (cy 2, 936, .inl f33))) (c96 : wd_at w m34 (.inl (cy 2, 936, .inl f34)))  (S : Nat → Prop) (s90 : S y) (s91 : S m30) (s92 : S m31) (s93 : S m32) (s94 : S m33) (s95 : S m34) (ty : tg y = 10000) (tm24 : tg m24 = 10124) (tm30 : tg m30 = 10130) (tm31 : tg m31 = 10131) (tm32 : tg m32 = 10132) (tm33 : tg m33 = 10133) (tm34 : tg m34 = 10134) (hln : ln ≤ 300) (ha0 : a0 ≤ ln) (hfv : fv < 2000) (hr : r < 156) (hn : nn ≤ 12) (hc : cOK f31) : Ct l D cy sk sv yX11_rule wsX11_rule ({ frames := 6, cells := 0, slots := 0, locals := 131 }) [.ref y, .int (nI r), .int (nI nn)] w (fun v w1 => ∃ (a1 : Nat) (b1 : Nat) (fv1 : Nat) (g30 : Nat → Int32) (g31 : Nat → Int32) (g32 : Nat → Int32) (g33 : Nat → Int32) (g34 : Nat → Int32), v = none ∧ (a0 ≤ a1) ∧ (a1 ≤ ln) ∧ (fv1 < 2000) ∧ (cOK g31) ∧ (nn = 12 → fv1 ≠ 0) ∧ wd_kp S w w1 ∧ wd_at w1 y (.inr (11, [.int v0, .int td, .ref m2, .ref m3, .ref m4, .ref m5, .ref m6, .int (nI pc), .ref m8, .ref m9, .ref m10, .ref m11, .ref m12, .ref m13, .ref m14, .int (nI ac), .int (nI sc), .ref m17, .ref m18, .ref m19, .ref m20, .ref m21, .ref m22, .ref m23, .ref m24, .int (nI ln), .int (nI a1), .int (nI b1), .int (nI fv1), .ref m29, .ref m30, .ref m31, .ref m32, .ref m33, .ref m34, .ref m35, .ref m36, .ref m37, .int (nI sh), .ref m39, .ref m40, .ref m41, .ref m42, .ref m43, .ref m44, .ref m45, .ref m46, .ref m47, .ref m48, .ref m49, .int v50, .ref m51, .ref m52, .ref m53, .ref m54, .int (nI gf), .ref m56, .ref m57, .ref m58, .ref m59])) ∧ wd_at w1 m30 (.inl (cy 2, 156, .inl g30)) ∧ wd_at w1 m31 (.inl (cy 2, 156, .inl g31)) ∧ wd_at w1 m32 (.inl (cy 2, 936, .inl g32)) ∧ wd_at w1 m33 (.inl (cy 2, 936, .inl g33)) ∧ wd_at w1 m34 (.inl (cy 2, 936, .inl g34))) := by
  refine Ct.by (cc := cX11_rule) (maxL := 5) (ret := none) (by decide +kernel) rfl (Nat.le_of_ble_eq_true rfl) ?_
  intro p e s m args below meth c A Q F hnm K ls hl
  have F : wd_Fx p s m args meth c cX11_rule 5 wsX11_rule RX11 D cy sk sv A := F
  have hl : lv_has ls 5 [(0, .ref y), (1, .int (nI r)), (2, .int (nI nn))] := hl
  have hx := F.1.1
  have hb := F.1.2.1
  have hown := F.1.2.2.2.1
  have hts := F.1.2.2.2.2
  intro H locs hP hD hS
  have kp0 : wd_kp S w w := wd_kp.rf
  refine lv_aload_n hx hb dX11_rule_0 rfl (lv_at hl 0 rfl) ?_
  refine x_callV (n := 0) (As := []) (rest := []) F hP hD hS (m_word l D cy sk sv w tg y m2 m3 m4 m5 m6 m8 m9 m10 m11 m12 m13 m14 m17 m18 m19 m20 m21 m22 m23 m24 m29 m30 m31 m32 m33 m34 m35 m36 m37 m39 m40 m41 m42 m43 m44 m45 m46 m47 m48 m49 m51 m52 m53 m54 m56 m57 m58 m59 pc ac sc ln sh gf v0 td v27 v50 f24 a0 fv c90 c91 (fun b => b = y) rfl ty tm24 (by omega) (by omega) (by omega)) gX11_rule_X11_word rfl rfl (by decide +kernel) ⟨(Nat.le_of_ble_eq_true rfl), (Nat.le_of_ble_eq_true rfl)⟩ rfl hl.1 (Nat.le_of_ble_eq_true rfl) c90 rfl dX11_rule_1 rfl ⟨(Nat.le_of_ble_eq_true rfl), (Nat.le_of_ble_eq_true rfl)⟩ (fun v2 w3 hp1 H locs hP hD hS => ?_)
  obtain ⟨ax4, bx5, fvx6, rfl, hz7, hz8, hz9, hz10, kq12, k11⟩ := hp1
  have k13 := kq12.2 _ _ c91 (tg_ne tm24 ty (by decide))
  have k14 := kq12.2 _ _ c92 (tg_ne tm30 ty (by decide))
  have k15 := kq12.2 _ _ c93 (tg_ne tm31 ty (by decide))
  have k16 := kq12.2 _ _ c94 (tg_ne tm32 ty (by decide))
  have k17 := kq12.2 _ _ c95 (tg_ne tm33 ty (by decide))
  have k18 := kq12.2 _ _ c96 (tg_ne tm34 ty (by decide))
  have kp19 := kp0.tr kq12 (fun b9 hm q9 => (fun q9 => q9 ▸ s90) q9)
  refine W.eq (g2 := F0 m 4 ls []) rfl (W.widen (k := 0) (n := 0) (Nat.le_of_ble_eq_true rfl) (Nat.le_of_ble_eq_true rfl) ?_)
  refine lv_iload_n hx hb dX11_rule_4 rfl (lv_at hl 2 rfl) ?_
  refine lv_bipush (v := 12) hx hb dX11_rule_5 (by decide) ?_
  refine lv_icmp_ne (tgt := 19) hx hb dX11_rule_7 (by decide) (fun c_20 => ?_) (fun c_20 => ?_)
  · have hn12 : nn ≠ 12 := fun q => c_20 (by rw [q]; rfl)
    refine lv_aload_n hx hb dX11_rule_19 rfl (lv_at hl 0 rfl) ?_
    refine x_get (ref := "NoteHouseModel") F hP k11 rfl (fun _ h => List.mem_cons_of_mem _ (List.mem_append_right _ (h))) 28 (Nat.le_of_ble_eq_true rfl) (List.mem_cons_of_mem _ (List.mem_append_left _ (List.mem_append_left _ (List.mem_of_getElem? (i := 1) rfl)))) rfl rfl dX11_rule_20 ?_
    refine lv_if_le (tgt := 27) hx hb dX11_rule_23 (by decide) (fun c_21 => ?_) (fun c_21 => ?_)
    · have hf0 : fvx6 = 0 := nI_z (by omega) c_21
      refine lv_iconst (v := 0) hx hb dX11_rule_27 (by decide) ?_
      refine lv_istore_n (lv' := [(3, .int 0), (0, .ref y), (1, .int (nI r)), (2, .int (nI nn))]) hx hb dX11_rule_28 rfl hl (by decide) rfl (fun ls hl => ?_)
      have lp29 : ∀ (N : Nat) (d : Nat), (d + N = 3) → ∀ (ls : Array Slot), lv_has ls 5 [(0, .ref y), (1, .int (nI r)), (2, .int (nI nn)), (3, .int (nI d))] → Wv p l e ({ frames := 6, cells := 0, slots := 0, locals := 131 }) s m args below meth c D A (0) (0) Q w3 (F0 m 29 ls []) := by
        intro N
        induction N with
        | zero =>
          intro d hN29 ls hl H locs hP hD hS
          refine lv_iload_n hx hb dX11_rule_29 rfl (lv_at hl 3 rfl) ?_
          refine lv_iconst (v := 3) hx hb dX11_rule_30 (by decide) ?_
          refine lv_icmp_ge (tgt := 52) hx hb dX11_rule_31 (by decide) (fun c_23 => ?_) (fun c_23 => absurd (nI_le (a := 3) (b := d) (by omega) (by omega)) c_23)
          refine lv_iload_n hx hb dX11_rule_52 rfl (lv_at hl 3 rfl) ?_
          refine lv_iconst (v := 3) hx hb dX11_rule_53 (by decide) ?_
          refine lv_icmp_ne (tgt := 67) hx hb dX11_rule_54 (by decide) (fun c_24 => absurd (show nI d = 3 from congrArg nI (show d = 3 by omega)) c_24) (fun c_24 => ?_)
          refine lv_aload_n hx hb dX11_rule_57 rfl (lv_at hl 0 rfl) ?_
          refine lv_iconst (v := 0) hx hb dX11_rule_58 (by decide) ?_
          refine lv_aload_n hx hb dX11_rule_59 rfl (lv_at hl 0 rfl) ?_
          refine x_get (ref := "NoteHouseModel") F hP k11 rfl (fun _ h => List.mem_cons_of_mem _ (List.mem_append_right _ (h))) 27 (Nat.le_of_ble_eq_true rfl) (List.mem_cons_of_mem _ (List.mem_append_left _ (List.mem_append_left _ (List.mem_of_getElem? (i := 0) rfl)))) rfl rfl dX11_rule_60 ?_
          refine x_callV (n := 2) (As := [.int 0, .int (nI bx5)]) (rest := []) F hP hD hS (m_fails l D cy sk sv w3 tg y m2 m3 m4 m5 m6 m8 m9 m10 m11 m12 m13 m14 m17 m18 m19 m20 m21 m22 m23 m24 m29 m30 m31 m32 m33 m34 m35 m36 m37 m39 m40 m41 m42 m43 m44 m45 m46 m47 m48 m49 m51 m52 m53 m54 m56 m57 m58 m59 pc ac sc ln sh gf v0 td (nI ax4) (nI bx5) v50 fvx6 0 bx5 k11 (fun b => b = y) rfl ty (by omega) (by omega) (by omega)) gX11_rule_X11_fails rfl rfl (by decide +kernel) ⟨(Nat.le_of_ble_eq_true rfl), (Nat.le_of_ble_eq_true rfl)⟩ rfl hl.1 (Nat.le_of_ble_eq_true rfl) k11 rfl dX11_rule_63 rfl ⟨(Nat.le_of_ble_eq_true rfl), (Nat.le_of_ble_eq_true rfl)⟩ (fun v26 w27 hp25 H locs hP hD hS => ?_)
          obtain ⟨fwx28, rfl, hz29, hz30, kq32, k31⟩ := hp25
          have k33 := kq32.2 _ _ k13 (tg_ne tm24 ty (by decide))
          have k34 := kq32.2 _ _ k14 (tg_ne tm30 ty (by decide))
          have k35 := kq32.2 _ _ k15 (tg_ne tm31 ty (by decide))
          have k36 := kq32.2 _ _ k16 (tg_ne tm32 ty (by decide))
          have k37 := kq32.2 _ _ k17 (tg_ne tm33 ty (by decide))
          have k38 := kq32.2 _ _ k18 (tg_ne tm34 ty (by decide))
          have kp39 := kp19.tr kq32 (fun b9 hm q9 => (fun q9 => q9 ▸ s90) q9)
          refine W.eq (g2 := F0 m 66 ls []) rfl (W.widen (k := 0) (n := 0) (Nat.le_of_ble_eq_true rfl) (Nat.le_of_ble_eq_true rfl) ?_)
          exact y_vr K hP hD hS (Nat.le_of_ble_eq_true rfl) (Nat.le_of_ble_eq_true rfl) rfl dX11_rule_66 (⟨ax4, bx5, fwx28, f30, f31, f32, f33, f34, rfl, by omega, by omega, by omega, (by first | assumption | exact hc.c (u := 0) (by omega) (by omega)), by omega, kp39, k31, k34, k35, k36, k37, k38⟩)
        | succ N ih29 =>
          intro d hN29 ls hl H locs hP hD hS
          refine lv_iload_n hx hb dX11_rule_29 rfl (lv_at hl 3 rfl) ?_
          refine lv_iconst (v := 3) hx hb dX11_rule_30 (by decide) ?_
          refine lv_icmp_ge (tgt := 52) hx hb dX11_rule_31 (by decide) (fun c_40 => absurd c_40 (nI_ge (a := d) (b := 3) (by omega) (by omega))) (fun c_40 => ?_)
          refine lv_aload_n hx hb dX11_rule_34 rfl (lv_at hl 0 rfl) ?_
          refine lv_aload_n hx hb dX11_rule_35 rfl (lv_at hl 0 rfl) ?_
          refine lv_iload_n hx hb dX11_rule_36 rfl (lv_at hl 3 rfl) ?_
          refine x_callV (n := 1) (As := [.int (nI d)]) (rest := [.ref y]) F hP hD hS (m_doingOf l D cy sk sv w3 y (nI d)) gX11_rule_X11_doingOf rfl rfl (by decide +kernel) ⟨(Nat.le_of_ble_eq_true rfl), (Nat.le_of_ble_eq_true rfl)⟩ rfl hl.1 (Nat.le_of_ble_eq_true rfl) k11 rfl dX11_rule_37 rfl ⟨(Nat.le_of_ble_eq_true rfl), (Nat.le_of_ble_eq_true rfl)⟩ (fun v42 w43 hp41 H locs hP hD hS => ?_)
          obtain ⟨ix44, rfl, hz45, rfl⟩ := hp41
          refine W.eq (g2 := F0 m 40 ls [.ref (sk ix44), .ref y]) rfl (W.widen (k := 0) (n := 0) (Nat.le_of_ble_eq_true rfl) (Nat.le_of_ble_eq_true rfl) ?_)
          refine x_callV (n := 1) (As := [.ref (sk ix44)]) (rest := []) F hP hD hS (m_is l D cy sk sv w3 tg y m2 m3 m4 m5 m6 m8 m9 m10 m11 m12 m13 m14 m17 m18 m19 m20 m21 m22 m23 m24 m29 m30 m31 m32 m33 m34 m35 m36 m37 m39 m40 m41 m42 m43 m44 m45 m46 m47 m48 m49 m51 m52 m53 m54 m56 m57 m58 m59 pc ac sc ln sh gf v0 td (nI fvx6) v50 f24 ax4 bx5 ix44 k11 k13 ty tm24 (by omega) (by omega) (by omega)) gX11_rule_X11_is rfl rfl (by decide +kernel) ⟨(Nat.le_of_ble_eq_true rfl), (Nat.le_of_ble_eq_true rfl)⟩ rfl hl.1 (Nat.le_of_ble_eq_true rfl) k11 rfl dX11_rule_40 rfl ⟨(Nat.le_of_ble_eq_true rfl), (Nat.le_of_ble_eq_true rfl)⟩ (fun v47 w48 hp46 H locs hP hD hS => ?_)
          obtain ⟨rx49, rfl, hz50, rfl⟩ := hp46
          refine W.eq (g2 := F0 m 43 ls [.int rx49]) rfl (W.widen (k := 0) (n := 0) (Nat.le_of_ble_eq_true rfl) (Nat.le_of_ble_eq_true rfl) ?_)
          refine lv_if_ne (tgt := 52) hx hb dX11_rule_43 (by decide) (fun c_51 => ?_) (fun c_51 => ?_)
          · refine lv_iload_n hx hb dX11_rule_52 rfl (lv_at hl 3 rfl) ?_
            refine lv_iconst (v := 3) hx hb dX11_rule_53 (by decide) ?_
            refine lv_icmp_ne (tgt := 67) hx hb dX11_rule_54 (by decide) (fun c_52 => ?_) (fun c_52 => absurd c_52 (nI_nel (a := d) (b := 3) (by omega) (by omega) (by omega)))
            refine lv_aload_n hx hb dX11_rule_67 rfl (lv_at hl 0 rfl) ?_
            refine x_get (ref := "NoteHouseModel") F hP k11 rfl (fun _ h => List.mem_cons_of_mem _ (List.mem_append_right _ (h))) 30 (Nat.le_of_ble_eq_true rfl) (List.mem_cons_of_mem _ (List.mem_append_left _ (List.mem_append_left _ (List.mem_of_getElem? (i := 2) rfl)))) rfl rfl dX11_rule_68 ?_
            refine lv_iload_n hx hb dX11_rule_71 rfl (lv_at hl 1 rfl) ?_
            refine lv_iload_n hx hb dX11_rule_72 rfl (lv_at hl 3 rfl) ?_
            refine y_iast F hP hD hS k14 (vp_in_nI (n := r) (N := 156) (by omega) (by decide)) dX11_rule_73 (fun w53 ew54 H locs hP hD hS => ?_)
            have k55 := wd_at.pt ew54 k11 (tg_ne ty tm30 (by decide))
            have k56 := wd_at.pt ew54 k13 (tg_ne tm24 tm30 (by decide))
            have k57 : wd_at w53 m30 (.inl (cy 2, 156, .inl (upd f30 (nI r).toNatClampNeg (nI d)))) := wd_at.ps ew54 k14
            have k58 := wd_at.pt ew54 k15 (tg_ne tm31 tm30 (by decide))
            have k59 := wd_at.pt ew54 k16 (tg_ne tm32 tm30 (by decide))
            have k60 := wd_at.pt ew54 k17 (tg_ne tm33 tm30 (by decide))
            have k61 := wd_at.pt ew54 k18 (tg_ne tm34 tm30 (by decide))
            have kp62 := kp19.put ew54 s91
            refine lv_aload_n hx hb dX11_rule_74 rfl (lv_at hl 0 rfl) ?_
            refine x_get (ref := "NoteHouseModel") F hP k55 rfl (fun _ h => List.mem_cons_of_mem _ (List.mem_append_right _ (h))) 31 (Nat.le_of_ble_eq_true rfl) (List.mem_cons_of_mem _ (List.mem_append_left _ (List.mem_append_left _ (List.mem_of_getElem? (i := 3) rfl)))) rfl rfl dX11_rule_75 ?_
            refine lv_iload_n hx hb dX11_rule_78 rfl (lv_at hl 1 rfl) ?_
            refine lv_iconst (v := 0) hx hb dX11_rule_79 (by decide) ?_
            refine y_iast F hP hD hS k58 (vp_in_nI (n := r) (N := 156) (by omega) (by decide)) dX11_rule_80 (fun w63 ew64 H locs hP hD hS => ?_)
            have k65 := wd_at.pt ew64 k55 (tg_ne ty tm31 (by decide))
            have k66 := wd_at.pt ew64 k56 (tg_ne tm24 tm31 (by decide))
            have k67 := wd_at.pt ew64 k57 (tg_ne tm30 tm31 (by decide))
            have k68 : wd_at w63 m31 (.inl (cy 2, 156, .inl (upd f31 (nI r).toNatClampNeg 0))) := wd_at.ps ew64 k58
            have k69 := wd_at.pt ew64 k59 (tg_ne tm32 tm31 (by decide))
            have k70 := wd_at.pt ew64 k60 (tg_ne tm33 tm31 (by decide))
            have k71 := wd_at.pt ew64 k61 (tg_ne tm34 tm31 (by decide))
            have kp72 := kp62.put ew64 s92
            refine lv_aload_n hx hb dX11_rule_81 rfl (lv_at hl 0 rfl) ?_
            refine x_callV (n := 0) (As := []) (rest := []) F hP hD hS (m_isEnd l D cy sk sv w63 tg y m2 m3 m4 m5 m6 m8 m9 m10 m11 m12 m13 m14 m17 m18 m19 m20 m21 m22 m23 m24 m29 m30 m31 m32 m33 m34 m35 m36 m37 m39 m40 m41 m42 m43 m44 m45 m46 m47 m48 m49 m51 m52 m53 m54 m56 m57 m58 m59 pc ac sc ln sh gf v0 td (nI bx5) (nI fvx6) v50 f24 ax4 k65 k66 (fun b => b = y) rfl ty tm24 (by omega) (by omega)) gX11_rule_X11_isEnd rfl rfl (by decide +kernel) ⟨(Nat.le_of_ble_eq_true rfl), (Nat.le_of_ble_eq_true rfl)⟩ rfl hl.1 (Nat.le_of_ble_eq_true rfl) k65 rfl dX11_rule_82 rfl ⟨(Nat.le_of_ble_eq_true rfl), (Nat.le_of_ble_eq_true rfl)⟩ (fun v74 w75 hp73 H locs hP hD hS => ?_)
            obtain ⟨ax76, rx77, rfl, hz78, hz79, hz80, hz81, kq83, k82⟩ := hp73
            have k84 := kq83.2 _ _ k66 (tg_ne tm24 ty (by decide))
            have k85 := kq83.2 _ _ k67 (tg_ne tm30 ty (by decide))
            have k86 := kq83.2 _ _ k68 (tg_ne tm31 ty (by decide))
            have k87 := kq83.2 _ _ k69 (tg_ne tm32 ty (by decide))
            have k88 := kq83.2 _ _ k70 (tg_ne tm33 ty (by decide))
            have k89 := kq83.2 _ _ k71 (tg_ne tm34 ty (by decide))
            have kp90 := kp72.tr kq83 (fun b9 hm q9 => (fun q9 => q9 ▸ s90) q9)
            refine W.eq (g2 := F0 m 85 ls [.int rx77]) rfl (W.widen (k := 0) (n := 0) (Nat.le_of_ble_eq_true rfl) (Nat.le_of_ble_eq_true rfl) ?_)
            refine lv_if_ne (tgt := 95) hx hb dX11_rule_85 (by decide) (fun c_91 => ?_) (fun c_91 => ?_)
            · exact y_vr K hP hD hS (Nat.le_of_ble_eq_true rfl) (Nat.le_of_ble_eq_true rfl) rfl dX11_rule_95 (⟨ax76, ax76, fvx6, upd f30 (nI r).toNatClampNeg (nI d), upd f31 (nI r).toNatClampNeg 0, f32, f33, f34, rfl, by omega, by omega, by omega, (by first | assumption | exact hc.c (u := 0) (by omega) (by omega)), by omega, kp90, k82, k85, k86, k87, k88, k89⟩)
            · refine lv_aload_n hx hb dX11_rule_88 rfl (lv_at hl 0 rfl) ?_
              refine x_callV (n := 0) (As := []) (rest := []) F hP hD hS (m_isLetter l D cy sk sv w75 tg y m2 m3 m4 m5 m6 m8 m9 m10 m11 m12 m13 m14 m17 m18 m19 m20 m21 m22 m23 m24 m29 m30 m31 m32 m33 m34 m35 m36 m37 m39 m40 m41 m42 m43 m44 m45 m46 m47 m48 m49 m51 m52 m53 m54 m56 m57 m58 m59 pc ac sc ln sh gf v0 td (nI ax76) (nI fvx6) v50 f24 ax76 k82 k84 ty tm24 (by omega) (by omega)) gX11_rule_X11_isLetter rfl rfl (by decide +kernel) ⟨(Nat.le_of_ble_eq_true rfl), (Nat.le_of_ble_eq_true rfl)⟩ rfl hl.1 (Nat.le_of_ble_eq_true rfl) k82 rfl dX11_rule_89 rfl ⟨(Nat.le_of_ble_eq_true rfl), (Nat.le_of_ble_eq_true rfl)⟩ (fun v93 w94 hp92 H locs hP hD hS => ?_)
              obtain ⟨rx95, rfl, hz96, hz97, rfl⟩ := hp92
              refine W.eq (g2 := F0 m 92 ls [.int rx95]) rfl (W.widen (k := 0) (n := 0) (Nat.le_of_ble_eq_true rfl) (Nat.le_of_ble_eq_true rfl) ?_)
              refine lv_if_ne (tgt := 96) hx hb dX11_rule_92 (by decide) (fun c_98 => ?_) (fun c_98 => ?_)
              · refine lv_aload_n hx hb dX11_rule_96 rfl (lv_at hl 0 rfl) ?_
                refine x_callV (n := 0) (As := []) (rest := []) F hP hD hS (m_word l D cy sk sv w75 tg y m2 m3 m4 m5 m6 m8 m9 m10 m11 m12 m13 m14 m17 m18 m19 m20 m21 m22 m23 m24 m29 m30 m31 m32 m33 m34 m35 m36 m37 m39 m40 m41 m42 m43 m44 m45 m46 m47 m48 m49 m51 m52 m53 m54 m56 m57 m58 m59 pc ac sc ln sh gf v0 td (nI ax76) v50 f24 ax76 fvx6 k82 k84 (fun b => b = y) rfl ty tm24 (by omega) (by omega) (by omega)) gX11_rule_X11_word rfl rfl (by decide +kernel) ⟨(Nat.le_of_ble_eq_true rfl), (Nat.le_of_ble_eq_true rfl)⟩ rfl hl.1 (Nat.le_of_ble_eq_true rfl) k82 rfl dX11_rule_97 rfl ⟨(Nat.le_of_ble_eq_true rfl), (Nat.le_of_ble_eq_true rfl)⟩ (fun v100 w101 hp99 H locs hP hD hS => ?_)
                obtain ⟨ax102, bx103, fvx104, rfl, hz105, hz106, hz107, hz108, kq110, k109⟩ := hp99
                have k111 := kq110.2 _ _ k84 (tg_ne tm24 ty (by decide))
                have k112 := kq110.2 _ _ k85 (tg_ne tm30 ty (by decide))
                have k113 := kq110.2 _ _ k86 (tg_ne tm31 ty (by decide))
                have k114 := kq110.2 _ _ k87 (tg_ne tm32 ty (by decide))
                have k115 := kq110.2 _ _ k88 (tg_ne tm33 ty (by decide))
                have k116 := kq110.2 _ _ k89 (tg_ne tm34 ty (by decide))
                have kp117 := kp90.tr kq110 (fun b9 hm q9 => (fun q9 => q9 ▸ s90) q9)
                refine W.eq (g2 := F0 m 100 ls []) rfl (W.widen (k := 0) (n := 0) (Nat.le_of_ble_eq_true rfl) (Nat.le_of_ble_eq_true rfl) ?_)
                refine lv_aload_n hx hb dX11_rule_100 rfl (lv_at hl 0 rfl) ?_
                refine x_ldcwS F (i := 1) (tx := "if") (by decide +kernel) dX11_rule_101 ?_
                refine x_callV (n := 1) (As := [.ref (sk 1)]) (rest := []) F hP hD hS (m_is l D cy sk sv w101 tg y m2 m3 m4 m5 m6 m8 m9 m10 m11 m12 m13 m14 m17 m18 m19 m20 m21 m22 m23 m24 m29 m30 m31 m32 m33 m34 m35 m36 m37 m39 m40 m41 m42 m43 m44 m45 m46 m47 m48 m49 m51 m52 m53 m54 m56 m57 m58 m59 pc ac sc ln sh gf v0 td (nI fvx104) v50 f24 ax102 bx103 1 k109 k111 ty tm24 (by omega) (by omega) (by omega)) gX11_rule_X11_is rfl rfl (by decide +kernel) ⟨(Nat.le_of_ble_eq_true rfl), (Nat.le_of_ble_eq_true rfl)⟩ rfl hl.1 (Nat.le_of_ble_eq_true rfl) k109 rfl dX11_rule_104 rfl ⟨(Nat.le_of_ble_eq_true rfl), (Nat.le_of_ble_eq_true rfl)⟩ (fun v119 w120 hp118 H locs hP hD hS => ?_)
                obtain ⟨rx121, rfl, hz122, rfl⟩ := hp118
                refine W.eq (g2 := F0 m 107 ls [.int rx121]) rfl (W.widen (k := 0) (n := 0) (Nat.le_of_ble_eq_true rfl) (Nat.le_of_ble_eq_true rfl) ?_)
                refine lv_if_ne (tgt := 119) hx hb dX11_rule_107 (by decide) (fun c_123 => ?_) (fun c_123 => ?_)
                · refine lv_aload_n hx hb dX11_rule_119 rfl (lv_at hl 0 rfl) ?_
                  refine x_get (ref := "NoteHouseModel") F hP k109 rfl (fun _ h => List.mem_cons_of_mem _ (List.mem_append_right _ (h))) 28 (Nat.le_of_ble_eq_true rfl) (List.mem_cons_of_mem _ (List.mem_append_left _ (List.mem_append_left _ (List.mem_of_getElem? (i := 1) rfl)))) rfl rfl dX11_rule_120 ?_
                  refine lv_if_ne (tgt := 130) hx hb dX11_rule_123 (by decide) (fun c_124 => ?_) (fun c_124 => ?_)
                  · have hfp : 0 < fvx104 := nI_nz (by omega) c_124
                    refine lv_iconst (v := 0) hx hb dX11_rule_130 (by decide) ?_
                    refine lv_istore (lv' := [(4, .int 0), (0, .ref y), (1, .int (nI r)), (2, .int (nI nn)), (3, .int (nI d))]) hx hb dX11_rule_131 hl (by decide) rfl (fun ls hl => ?_)
                    have lp133 : ∀ (N : Nat) (u : Nat) (on : Int32) (a : Nat) (b : Nat) (fq : Nat) (h31 : Nat → Int32) (h32 : Nat → Int32) (h33 : Nat → Int32) (h34 : Nat → Int32) (w125 : Wd), (u + N = 7) → (u ≤ 6) → (h31 r = nI u) → (cOK h31) → (a0 ≤ a) → (a ≤ ln) → (fq < 2000) → (wd_at w125 y (.inr (11, [.int v0, .int td, .ref m2, .ref m3, .ref m4, .ref m5, .ref m6, .int (nI pc), .ref m8, .ref m9, .ref m10, .ref m11, .ref m12, .ref m13, .ref m14, .int (nI ac), .int (nI sc), .ref m17, .ref m18, .ref m19, .ref m20, .ref m21, .ref m22, .ref m23, .ref m24, .int (nI ln), .int (nI a), .int (nI b), .int (nI fq), .ref m29, .ref m30, .ref m31, .ref m32, .ref m33, .ref m34, .ref m35, .ref m36, .ref m37, .int (nI sh), .ref m39, .ref m40, .ref m41, .ref m42, .ref m43, .ref m44, .ref m45, .ref m46, .ref m47, .ref m48, .ref m49, .int v50, .ref m51, .ref m52, .ref m53, .ref m54, .int (nI gf), .ref m56, .ref m57, .ref m58, .ref m59]))) → (wd_at w125 m24 (.inl (cy 0, 300, .inl f24))) → (wd_at w125 m30 (.inl (cy 2, 156, .inl (upd f30 (nI r).toNatClampNeg (nI d))))) → (wd_at w125 m31 (.inl (cy 2, 156, .inl h31))) → (wd_at w125 m32 (.inl (cy 2, 936, .inl h32))) → (wd_at w125 m33 (.inl (cy 2, 936, .inl h33))) → (wd_at w125 m34 (.inl (cy 2, 936, .inl h34))) → (wd_kp S w w125) → ∀ (ls : Array Slot), lv_has ls 5 [(0, .ref y), (1, .int (nI r)), (2, .int (nI nn)), (3, .int (nI d)), (4, .int on)] → Wv p l e ({ frames := 6, cells := 0, slots := 0, locals := 131 }) s m args below meth c D A (0) (0) Q w125 (F0 m 133 ls []) := by
                      intro N
                      induction N with
                      | zero =>
                        intro u on a b fq h31 h32 h33 h34 w125 hN133 hu6 hu hc2 ha1 ha2 hfq k126 k127 k128 k129 k130 k131 k132 kp133 ls hl H locs hP hD hS
                        exact absurd hN133 (by omega)
                      | succ N ih133 =>
                        intro u on a b fq h31 h32 h33 h34 w125 hN133 hu6 hu hc2 ha1 ha2 hfq k126 k127 k128 k129 k130 k131 k132 kp133 ls hl H locs hP hD hS
                        refine lv_iload hx hb dX11_rule_133 (lv_at hl 4 rfl) ?_
                        refine lv_if_eq (tgt := 201) hx hb dX11_rule_135 (by decide) (fun c_134 => ?_) (fun c_134 => ?_)
                        · exact y_vr K hP hD hS (Nat.le_of_ble_eq_true rfl) (Nat.le_of_ble_eq_true rfl) rfl dX11_rule_201 (⟨a, b, fq, upd f30 (nI r).toNatClampNeg (nI d), h31, h32, h33, h34, rfl, by omega, by omega, by omega, (by first | assumption | exact hc.c (u := 0) (by omega) (by omega)), by omega, kp133, k126, k128, k129, k130, k131, k132⟩)
                        · refine lv_aload_n hx hb dX11_rule_138 rfl (lv_at hl 0 rfl) ?_
                          refine lv_iload_n hx hb dX11_rule_139 rfl (lv_at hl 1 rfl) ?_
                          refine x_callV (n := 1) (As := [.int (nI r)]) (rest := []) F hP hD hS (m_cond l D cy sk sv w125 tg y m2 m3 m4 m5 m6 m8 m9 m10 m11 m12 m13 m14 m17 m18 m19 m20 m21 m22 m23 m24 m29 m30 m31 m32 m33 m34 m35 m36 m37 m39 m40 m41 m42 m43 m44 m45 m46 m47 m48 m49 m51 m52 m53 m54 m56 m57 m58 m59 pc ac sc ln sh gf v0 td (nI b) v50 f24 h31 h32 h33 h34 a fq r u k126 k127 k129 k130 k131 k132 (fun b => b = y ∨ b = m31 ∨ b = m32 ∨ b = m33 ∨ b = m34) (Or.inl rfl) (Or.inr (Or.inl rfl)) (Or.inr (Or.inr (Or.inl rfl))) (Or.inr (Or.inr (Or.inr (Or.inl rfl)))) (Or.inr (Or.inr (Or.inr (Or.inr rfl)))) ty tm24 tm31 tm32 tm33 tm34 (by omega) (by omega) (by omega) (by omega) (by assumption) (by assumption) (by omega)) gX11_rule_X11_cond rfl rfl (by decide +kernel) ⟨(Nat.le_of_ble_eq_true rfl), (Nat.le_of_ble_eq_true rfl)⟩ rfl hl.1 (Nat.le_of_ble_eq_true rfl) k126 rfl dX11_rule_140 rfl ⟨(Nat.le_of_ble_eq_true rfl), (Nat.le_of_ble_eq_true rfl)⟩ (fun v136 w137 hp135 H locs hP hD hS => ?_)
                          obtain ⟨ax138, bx139, fvx140, ux141, gx142, gx143, gx144, gx145, rfl, hz146, hz147, hz148, hz149, hz150, hz151, hz152, kq158, k153, k154, k155, k156, k157⟩ := hp135
                          have k159 := kq158.2 _ _ k127 (orN (tg_ne tm24 ty (by decide)) (orN (tg_ne tm24 tm31 (by decide)) (orN (tg_ne tm24 tm32 (by decide)) (orN (tg_ne tm24 tm33 (by decide)) (tg_ne tm24 tm34 (by decide))))))
                          have k160 := kq158.2 _ _ k128 (orN (tg_ne tm30 ty (by decide)) (orN (tg_ne tm30 tm31 (by decide)) (orN (tg_ne tm30 tm32 (by decide)) (orN (tg_ne tm30 tm33 (by decide)) (tg_ne tm30 tm34 (by decide))))))
                          have kp161 := kp133.tr kq158 (fun b9 hm q9 => (fun q9 => Or.elim q9 (fun q9 => q9 ▸ s90) (fun q9 => Or.elim q9 (fun q9 => q9 ▸ s92) (fun q9 => Or.elim q9 (fun q9 => q9 ▸ s93) (fun q9 => Or.elim q9 (fun q9 => q9 ▸ s94) (fun q9 => q9 ▸ s95))))) q9)
                          refine W.eq (g2 := F0 m 143 ls []) rfl (W.widen (k := 0) (n := 0) (Nat.le_of_ble_eq_true rfl) (Nat.le_of_ble_eq_true rfl) ?_)
                          refine lv_aload_n hx hb dX11_rule_143 rfl (lv_at hl 0 rfl) ?_
                          refine x_get (ref := "NoteHouseModel") F hP k153 rfl (fun _ h => List.mem_cons_of_mem _ (List.mem_append_right _ (h))) 28 (Nat.le_of_ble_eq_true rfl) (List.mem_cons_of_mem _ (List.mem_append_left _ (List.mem_append_left _ (List.mem_of_getElem? (i := 1) rfl)))) rfl rfl dX11_rule_144 ?_
                          refine lv_if_le (tgt := 151) hx hb dX11_rule_147 (by decide) (fun c_162 => ?_) (fun c_162 => ?_)
                          · have hf0 : fvx140 = 0 := nI_z (by omega) c_162
                            have hux := hz152 hf0
                            refine lv_aload_n hx hb dX11_rule_151 rfl (lv_at hl 0 rfl) ?_
                            refine x_callV (n := 0) (As := []) (rest := []) F hP hD hS (m_isEnd l D cy sk sv w137 tg y m2 m3 m4 m5 m6 m8 m9 m10 m11 m12 m13 m14 m17 m18 m19 m20 m21 m22 m23 m24 m29 m30 m31 m32 m33 m34 m35 m36 m37 m39 m40 m41 m42 m43 m44 m45 m46 m47 m48 m49 m51 m52 m53 m54 m56 m57 m58 m59 pc ac sc ln sh gf v0 td (nI bx139) (nI fvx140) v50 f24 ax138 k153 k159 (fun b => b = y) rfl ty tm24 (by omega) (by omega)) gX11_rule_X11_isEnd rfl rfl (by decide +kernel) ⟨(Nat.le_of_ble_eq_true rfl), (Nat.le_of_ble_eq_true rfl)⟩ rfl hl.1 (Nat.le_of_ble_eq_true rfl) k153 rfl dX11_rule_152 rfl ⟨(Nat.le_of_ble_eq_true rfl), (Nat.le_of_ble_eq_true rfl)⟩ (fun v164 w165 hp163 H locs hP hD hS => ?_)
                            obtain ⟨ax166, rx167, rfl, hz168, hz169, hz170, hz171, kq173, k172⟩ := hp163
                            have k174 := kq173.2 _ _ k159 (tg_ne tm24 ty (by decide))
                            have k175 := kq173.2 _ _ k160 (tg_ne tm30 ty (by decide))
                            have k176 := kq173.2 _ _ k154 (tg_ne tm31 ty (by decide))
                            have k177 := kq173.2 _ _ k155 (tg_ne tm32 ty (by decide))
                            have k178 := kq173.2 _ _ k156 (tg_ne tm33 ty (by decide))
                            have k179 := kq173.2 _ _ k157 (tg_ne tm34 ty (by decide))
                            have kp180 := kp161.tr kq173 (fun b9 hm q9 => (fun q9 => q9 ▸ s90) q9)
                            refine W.eq (g2 := F0 m 155 ls [.int rx167]) rfl (W.widen (k := 0) (n := 0) (Nat.le_of_ble_eq_true rfl) (Nat.le_of_ble_eq_true rfl) ?_)
                            refine lv_if_ne (tgt := 169) hx hb dX11_rule_155 (by decide) (fun c_181 => ?_) (fun c_181 => ?_)
                            · refine lv_iconst (v := 0) hx hb dX11_rule_169 (by decide) ?_
                              refine lv_istore (lv' := [(4, .int 0), (0, .ref y), (1, .int (nI r)), (2, .int (nI nn)), (3, .int (nI d))]) hx hb dX11_rule_170 hl (by decide) rfl (fun ls hl => ?_)
                              refine lv_iload hx hb dX11_rule_172 (lv_at hl 0 rfl) ?_
                              refine lv_if_eq (tgt := 133) hx hb dX11_rule_174 (by decide) (fun c_182 => ?_) (fun c_182 => absurd (show (0 : Int32) = (0 : Int32) by decide) c_182)
                              exact ih133 (u + 1) 0 ax166 ax166 fvx140 gx142 gx143 gx144 gx145 w165 (by omega) (by omega) (by rw [← hux]; assumption) (by assumption) (by omega) (by omega) (by omega) k172 k174 k175 k176 k177 k178 k179 kp180 ls (lv_sub hl [1, 2, 3, 4, 0] rfl) H locs hP hD hS
                            · refine lv_aload_n hx hb dX11_rule_158 rfl (lv_at hl 0 rfl) ?_
                              refine x_callV (n := 0) (As := []) (rest := []) F hP hD hS (m_isLetter l D cy sk sv w165 tg y m2 m3 m4 m5 m6 m8 m9 m10 m11 m12 m13 m14 m17 m18 m19 m20 m21 m22 m23 m24 m29 m30 m31 m32 m33 m34 m35 m36 m37 m39 m40 m41 m42 m43 m44 m45 m46 m47 m48 m49 m51 m52 m53 m54 m56 m57 m58 m59 pc ac sc ln sh gf v0 td (nI ax166) (nI fvx140) v50 f24 ax166 k172 k174 ty tm24 (by omega) (by omega)) gX11_rule_X11_isLetter rfl rfl (by decide +kernel) ⟨(Nat.le_of_ble_eq_true rfl), (Nat.le_of_ble_eq_true rfl)⟩ rfl hl.1 (Nat.le_of_ble_eq_true rfl) k172 rfl dX11_rule_159 rfl ⟨(Nat.le_of_ble_eq_true rfl), (Nat.le_of_ble_eq_true rfl)⟩ (fun v184 w185 hp183 H locs hP hD hS => ?_)
                              obtain ⟨rx186, rfl, hz187, hz188, rfl⟩ := hp183
                              refine W.eq (g2 := F0 m 162 ls [.int rx186]) rfl (W.widen (k := 0) (n := 0) (Nat.le_of_ble_eq_true rfl) (Nat.le_of_ble_eq_true rfl) ?_)
                              refine lv_if_eq (tgt := 169) hx hb dX11_rule_162 (by decide) (fun c_189 => ?_) (fun c_189 => ?_)
                              · refine lv_iconst (v := 0) hx hb dX11_rule_169 (by decide) ?_
                                refine lv_istore (lv' := [(4, .int 0), (0, .ref y), (1, .int (nI r)), (2, .int (nI nn)), (3, .int (nI d))]) hx hb dX11_rule_170 hl (by decide) rfl (fun ls hl => ?_)
                                refine lv_iload hx hb dX11_rule_172 (lv_at hl 0 rfl) ?_
                                refine lv_if_eq (tgt := 133) hx hb dX11_rule_174 (by decide) (fun c_190 => ?_) (fun c_190 => absurd (show (0 : Int32) = (0 : Int32) by decide) c_190)
                                exact ih133 (u + 1) 0 ax166 ax166 fvx140 gx142 gx143 gx144 gx145 w165 (by omega) (by omega) (by rw [← hux]; assumption) (by assumption) (by omega) (by omega) (by omega) k172 k174 k175 k176 k177 k178 k179 kp180 ls (lv_sub hl [1, 2, 3, 4, 0] rfl) H locs hP hD hS
                              · refine lv_iconst (v := 1) hx hb dX11_rule_165 (by decide) ?_
                                refine lv_goto (tgt := 170) hx hb dX11_rule_166 (by decide) ?_
                                refine lv_istore (lv' := [(4, .int 1), (0, .ref y), (1, .int (nI r)), (2, .int (nI nn)), (3, .int (nI d))]) hx hb dX11_rule_170 hl (by decide) rfl (fun ls hl => ?_)
                                refine lv_iload hx hb dX11_rule_172 (lv_at hl 0 rfl) ?_
                                refine lv_if_eq (tgt := 133) hx hb dX11_rule_174 (by decide) (fun c_191 => absurd c_191 (show ¬ (1 : Int32) = (0 : Int32) by decide)) (fun c_191 => ?_)
                                refine lv_aload_n hx hb dX11_rule_177 rfl (lv_at hl 1 rfl) ?_
                                refine x_callV (n := 0) (As := []) (rest := []) F hP hD hS (m_word l D cy sk sv w165 tg y m2 m3 m4 m5 m6 m8 m9 m10 m11 m12 m13 m14 m17 m18 m19 m20 m21 m22 m23 m24 m29 m30 m31 m32 m33 m34 m35 m36 m37 m39 m40 m41 m42 m43 m44 m45 m46 m47 m48 m49 m51 m52 m53 m54 m56 m57 m58 m59 pc ac sc ln sh gf v0 td (nI ax166) v50 f24 ax166 fvx140 k172 k174 (fun b => b = y) rfl ty tm24 (by omega) (by omega) (by omega)) gX11_rule_X11_word rfl rfl (by decide +kernel) ⟨(Nat.le_of_ble_eq_true rfl), (Nat.le_of_ble_eq_true rfl)⟩ rfl hl.1 (Nat.le_of_ble_eq_true rfl) k172 rfl dX11_rule_178 rfl ⟨(Nat.le_of_ble_eq_true rfl), (Nat.le_of_ble_eq_true rfl)⟩ (fun v193 w194 hp192 H locs hP hD hS => ?_)
                                obtain ⟨ax195, bx196, fvx197, rfl, hz198, hz199, hz200, hz201, kq203, k202⟩ := hp192
                                have k204 := kq203.2 _ _ k174 (tg_ne tm24 ty (by decide))
                                have k205 := kq203.2 _ _ k175 (tg_ne tm30 ty (by decide))
                                have k206 := kq203.2 _ _ k176 (tg_ne tm31 ty (by decide))
                                have k207 := kq203.2 _ _ k177 (tg_ne tm32 ty (by decide))
                                have k208 := kq203.2 _ _ k178 (tg_ne tm33 ty (by decide))
                                have k209 := kq203.2 _ _ k179 (tg_ne tm34 ty (by decide))
                                have kp210 := kp180.tr kq203 (fun b9 hm q9 => (fun q9 => q9 ▸ s90) q9)
                                refine W.eq (g2 := F0 m 181 ls []) rfl (W.widen (k := 0) (n := 0) (Nat.le_of_ble_eq_true rfl) (Nat.le_of_ble_eq_true rfl) ?_)
                                refine lv_aload_n hx hb dX11_rule_181 rfl (lv_at hl 1 rfl) ?_
                                refine x_ldcwS F (i := 3) (tx := "and") (by decide +kernel) dX11_rule_182 ?_
                                refine x_callV (n := 1) (As := [.ref (sk 3)]) (rest := []) F hP hD hS (m_is l D cy sk sv w194 tg y m2 m3 m4 m5 m6 m8 m9 m10 m11 m12 m13 m14 m17 m18 m19 m20 m21 m22 m23 m24 m29 m30 m31 m32 m33 m34 m35 m36 m37 m39 m40 m41 m42 m43 m44 m45 m46 m47 m48 m49 m51 m52 m53 m54 m56 m57 m58 m59 pc ac sc ln sh gf v0 td (nI fvx197) v50 f24 ax195 bx196 3 k202 k204 ty tm24 (by omega) (by omega) (by omega)) gX11_rule_X11_is rfl rfl (by decide +kernel) ⟨(Nat.le_of_ble_eq_true rfl), (Nat.le_of_ble_eq_true rfl)⟩ rfl hl.1 (Nat.le_of_ble_eq_true rfl) k202 rfl dX11_rule_185 rfl ⟨(Nat.le_of_ble_eq_true rfl), (Nat.le_of_ble_eq_true rfl)⟩ (fun v212 w213 hp211 H locs hP hD hS => ?_)
                                obtain ⟨rx214, rfl, hz215, rfl⟩ := hp211
                                refine W.eq (g2 := F0 m 188 ls [.int rx214]) rfl (W.widen (k := 0) (n := 0) (Nat.le_of_ble_eq_true rfl) (Nat.le_of_ble_eq_true rfl) ?_)
                                refine lv_if_ne (tgt := 133) hx hb dX11_rule_188 (by decide) (fun c_216 => ?_) (fun c_216 => ?_)
                                · exact ih133 (u + 1) 1 ax195 bx196 fvx197 gx142 gx143 gx144 gx145 w194 (by omega) (by omega) (by rw [← hux]; assumption) (by assumption) (by omega) (by omega) (by omega) k202 k204 k205 k206 k207 k208 k209 kp210 ls (lv_sub hl [1, 2, 3, 4, 0] rfl) H locs hP hD hS
                                · refine lv_aload_n hx hb dX11_rule_191 rfl (lv_at hl 1 rfl) ?_
                                  refine lv_iconst (v := 0) hx hb dX11_rule_192 (by decide) ?_
                                  refine lv_aload_n hx hb dX11_rule_193 rfl (lv_at hl 1 rfl) ?_
                                  refine x_get (ref := "NoteHouseModel") F hP k202 rfl (fun _ h => List.mem_cons_of_mem _ (List.mem_append_right _ (h))) 27 (Nat.le_of_ble_eq_true rfl) (List.mem_cons_of_mem _ (List.mem_append_left _ (List.mem_append_left _ (List.mem_of_getElem? (i := 0) rfl)))) rfl rfl dX11_rule_194 ?_
                                  refine x_callV (n := 2) (As := [.int 0, .int (nI bx196)]) (rest := []) F hP hD hS (m_fails l D cy sk sv w194 tg y m2 m3 m4 m5 m6 m8 m9 m10 m11 m12 m13 m14 m17 m18 m19 m20 m21 m22 m23 m24 m29 m30 m31 m32 m33 m34 m35 m36 m37 m39 m40 m41 m42 m43 m44 m45 m46 m47 m48 m49 m51 m52 m53 m54 m56 m57 m58 m59 pc ac sc ln sh gf v0 td (nI ax195) (nI bx196) v50 fvx197 0 bx196 k202 (fun b => b = y) rfl ty (by omega) (by omega) (by omega)) gX11_rule_X11_fails rfl rfl (by decide +kernel) ⟨(Nat.le_of_ble_eq_true rfl), (Nat.le_of_ble_eq_true rfl)⟩ rfl hl.1 (Nat.le_of_ble_eq_true rfl) k202 rfl dX11_rule_197 rfl ⟨(Nat.le_of_ble_eq_true rfl), (Nat.le_of_ble_eq_true rfl)⟩ (fun v218 w219 hp217 H locs hP hD hS => ?_)
                                  obtain ⟨fwx220, rfl, hz221, hz222, kq224, k223⟩ := hp217
                                  have k225 := kq224.2 _ _ k204 (tg_ne tm24 ty (by decide))
                                  have k226 := kq224.2 _ _ k205 (tg_ne tm30 ty (by decide))
                                  have k227 := kq224.2 _ _ k206 (tg_ne tm31 ty (by decide))
                                  have k228 := kq224.2 _ _ k207 (tg_ne tm32 ty (by decide))
                                  have k229 := kq224.2 _ _ k208 (tg_ne tm33 ty (by decide))
                                  have k230 := kq224.2 _ _ k209 (tg_ne tm34 ty (by decide))
                                  have kp231 := kp210.tr kq224 (fun b9 hm q9 => (fun q9 => q9 ▸ s90) q9)
                                  refine W.eq (g2 := F0 m 200 ls []) rfl (W.widen (k := 0) (n := 0) (Nat.le_of_ble_eq_true rfl) (Nat.le_of_ble_eq_true rfl) ?_)
                                  exact y_vr K hP hD hS (Nat.le_of_ble_eq_true rfl) (Nat.le_of_ble_eq_true rfl) rfl dX11_rule_200 (⟨ax195, bx196, fwx220, upd f30 (nI r).toNatClampNeg (nI d), gx142, gx143, gx144, gx145, rfl, by omega, by omega, by omega, (by first | assumption | exact hc.c (u := 0) (by omega) (by omega)), by omega, kp231, k223, k226, k227, k228, k229, k230⟩)
                          · have hfp : 0 < fvx140 := Nat.pos_of_ne_zero (fun q => c_162 (by rw [q]; decide))
                            exact y_vr K hP hD hS (Nat.le_of_ble_eq_true rfl) (Nat.le_of_ble_eq_true rfl) rfl dX11_rule_150 (⟨ax138, bx139, fvx140, upd f30 (nI r).toNatClampNeg (nI d), gx142, gx143, gx144, gx145, rfl, by omega, by omega, by omega, (by first | assumption | exact hc.c (u := 0) (by omega) (by omega)), by omega, kp161, k153, k160, k154, k155, k156, k157⟩)
                    exact lp133 _ 0 0 ax102 bx103 fvx104 (upd f31 (nI r).toNatClampNeg 0) f32 f33 f34 w101 (Nat.zero_add 7) (by omega) (by rw [nI_clamp (by omega), pk_us]; rfl) (hc.c (u := 0) (by omega) (by omega)) (by omega) (by omega) (by omega) k109 k111 k112 k113 k114 k115 k116 kp117 ls (lv_sub hl [1, 2, 3, 4, 0] rfl) H locs hP hD hS
                  · have hf0 : fvx104 = 0 := nI_z0 (by omega) c_124
                    refine lv_iconst (v := 1) hx hb dX11_rule_126 (by decide) ?_
                    refine lv_goto (tgt := 131) hx hb dX11_rule_127 (by decide) ?_
                    refine lv_istore (lv' := [(4, .int 1), (0, .ref y), (1, .int (nI r)), (2, .int (nI nn)), (3, .int (nI d))]) hx hb dX11_rule_131 hl (by decide) rfl (fun ls hl => ?_)
                    have lp133 : ∀ (N : Nat) (u : Nat) (on : Int32) (a : Nat) (b : Nat) (fq : Nat) (h31 : Nat → Int32) (h32 : Nat → Int32) (h33 : Nat → Int32) (h34 : Nat → Int32) (w232 : Wd), (u + N = 7) → (u ≤ 6) → (h31 r = nI u) → (cOK h31) → (a0 ≤ a) → (a ≤ ln) → (fq < 2000) → (wd_at w232 y (.inr (11, [.int v0, .int td, .ref m2, .ref m3, .ref m4, .ref m5, .ref m6, .int (nI pc), .ref m8, .ref m9, .ref m10, .ref m11, .ref m12, .ref m13, .ref m14, .int (nI ac), .int (nI sc), .ref m17, .ref m18, .ref m19, .ref m20, .ref m21, .ref m22, .ref m23, .ref m24, .int (nI ln), .int (nI a), .int (nI b), .int (nI fq), .ref m29, .ref m30, .ref m31, .ref m32, .ref m33, .ref m34, .ref m35, .ref m36, .ref m37, .int (nI sh), .ref m39, .ref m40, .ref m41, .ref m42, .ref m43, .ref m44, .ref m45, .ref m46, .ref m47, .ref m48, .ref m49, .int v50, .ref m51, .ref m52, .ref m53, .ref m54, .int (nI gf), .ref m56, .ref m57, .ref m58, .ref m59]))) → (wd_at w232 m24 (.inl (cy 0, 300, .inl f24))) → (wd_at w232 m30 (.inl (cy 2, 156, .inl (upd f30 (nI r).toNatClampNeg (nI d))))) → (wd_at w232 m31 (.inl (cy 2, 156, .inl h31))) → (wd_at w232 m32 (.inl (cy 2, 936, .inl h32))) → (wd_at w232 m33 (.inl (cy 2, 936, .inl h33))) → (wd_at w232 m34 (.inl (cy 2, 936, .inl h34))) → (wd_kp S w w232) → ∀ (ls : Array Slot), lv_has ls 5 [(0, .ref y), (1, .int (nI r)), (2, .int (nI nn)), (3, .int (nI d)), (4, .int on)] → Wv p l e ({ frames := 6, cells := 0, slots := 0, locals := 131 }) s m args below meth c D A (0) (0) Q w232 (F0 m 133 ls []) := by
                      intro N
                      induction N with
                      | zero =>
                        intro u on a b fq h31 h32 h33 h34 w232 hN133 hu6 hu hc2 ha1 ha2 hfq k233 k234 k235 k236 k237 k238 k239 kp240 ls hl H locs hP hD hS
                        exact absurd hN133 (by omega)
                      | succ N ih133 =>
                        intro u on a b fq h31 h32 h33 h34 w232 hN133 hu6 hu hc2 ha1 ha2 hfq k233 k234 k235 k236 k237 k238 k239 kp240 ls hl H locs hP hD hS
                        refine lv_iload hx hb dX11_rule_133 (lv_at hl 4 rfl) ?_
                        refine lv_if_eq (tgt := 201) hx hb dX11_rule_135 (by decide) (fun c_241 => ?_) (fun c_241 => ?_)
                        · exact y_vr K hP hD hS (Nat.le_of_ble_eq_true rfl) (Nat.le_of_ble_eq_true rfl) rfl dX11_rule_201 (⟨a, b, fq, upd f30 (nI r).toNatClampNeg (nI d), h31, h32, h33, h34, rfl, by omega, by omega, by omega, (by first | assumption | exact hc.c (u := 0) (by omega) (by omega)), by omega, kp240, k233, k235, k236, k237, k238, k239⟩)
                        · refine lv_aload_n hx hb dX11_rule_138 rfl (lv_at hl 0 rfl) ?_
                          refine lv_iload_n hx hb dX11_rule_139 rfl (lv_at hl 1 rfl) ?_
                          refine x_callV (n := 1) (As := [.int (nI r)]) (rest := []) F hP hD hS (m_cond l D cy sk sv w232 tg y m2 m3 m4 m5 m6 m8 m9 m10 m11 m12 m13 m14 m17 m18 m19 m20 m21 m22 m23 m24 m29 m30 m31 m32 m33 m34 m35 m36 m37 m39 m40 m41 m42 m43 m44 m45 m46 m47 m48 m49 m51 m52 m53 m54 m56 m57 m58 m59 pc ac sc ln sh gf v0 td (nI b) v50 f24 h31 h32 h33 h34 a fq r u k233 k234 k236 k237 k238 k239 (fun b => b = y ∨ b = m31 ∨ b = m32 ∨ b = m33 ∨ b = m34) (Or.inl rfl) (Or.inr (Or.inl rfl)) (Or.inr (Or.inr (Or.inl rfl))) (Or.inr (Or.inr (Or.inr (Or.inl rfl)))) (Or.inr (Or.inr (Or.inr (Or.inr rfl)))) ty tm24 tm31 tm32 tm33 tm34 (by omega) (by omega) (by omega) (by omega) (by assumption) (by assumption) (by omega)) gX11_rule_X11_cond rfl rfl (by decide +kernel) ⟨(Nat.le_of_ble_eq_true rfl), (Nat.le_of_ble_eq_true rfl)⟩ rfl hl.1 (Nat.le_of_ble_eq_true rfl) k233 rfl dX11_rule_140 rfl ⟨(Nat.le_of_ble_eq_true rfl), (Nat.le_of_ble_eq_true rfl)⟩ (fun v243 w244 hp242 H locs hP hD hS => ?_)
                          obtain ⟨ax245, bx246, fvx247, ux248, gx249, gx250, gx251, gx252, rfl, hz253, hz254, hz255, hz256, hz257, hz258, hz259, kq265, k260, k261, k262, k263, k264⟩ := hp242
                          have k266 := kq265.2 _ _ k234 (orN (tg_ne tm24 ty (by decide)) (orN (tg_ne tm24 tm31 (by decide)) (orN (tg_ne tm24 tm32 (by decide)) (orN (tg_ne tm24 tm33 (by decide)) (tg_ne tm24 tm34 (by decide))))))
                          have k267 := kq265.2 _ _ k235 (orN (tg_ne tm30 ty (by decide)) (orN (tg_ne tm30 tm31 (by decide)) (orN (tg_ne tm30 tm32 (by decide)) (orN (tg_ne tm30 tm33 (by decide)) (tg_ne tm30 tm34 (by decide))))))
                          have kp268 := kp240.tr kq265 (fun b9 hm q9 => (fun q9 => Or.elim q9 (fun q9 => q9 ▸ s90) (fun q9 => Or.elim q9 (fun q9 => q9 ▸ s92) (fun q9 => Or.elim q9 (fun q9 => q9 ▸ s93) (fun q9 => Or.elim q9 (fun q9 => q9 ▸ s94) (fun q9 => q9 ▸ s95))))) q9)
                          refine W.eq (g2 := F0 m 143 ls []) rfl (W.widen (k := 0) (n := 0) (Nat.le_of_ble_eq_true rfl) (Nat.le_of_ble_eq_true rfl) ?_)
                          refine lv_aload_n hx hb dX11_rule_143 rfl (lv_at hl 0 rfl) ?_
                          refine x_get (ref := "NoteHouseModel") F hP k260 rfl (fun _ h => List.mem_cons_of_mem _ (List.mem_append_right _ (h))) 28 (Nat.le_of_ble_eq_true rfl) (List.mem_cons_of_mem _ (List.mem_append_left _ (List.mem_append_left _ (List.mem_of_getElem? (i := 1) rfl)))) rfl rfl dX11_rule_144 ?_
                          refine lv_if_le (tgt := 151) hx hb dX11_rule_147 (by decide) (fun c_269 => ?_) (fun c_269 => ?_)
                          · have hf0 : fvx247 = 0 := nI_z (by omega) c_269
                            have hux := hz259 hf0
                            refine lv_aload_n hx hb dX11_rule_151 rfl (lv_at hl 0 rfl) ?_
                            refine x_callV (n := 0) (As := []) (rest := []) F hP hD hS (m_isEnd l D cy sk sv w244 tg y m2 m3 m4 m5 m6 m8 m9 m10 m11 m12 m13 m14 m17 m18 m19 m20 m21 m22 m23 m24 m29 m30 m31 m32 m33 m34 m35 m36 m37 m39 m40 m41 m42 m43 m44 m45 m46 m47 m48 m49 m51 m52 m53 m54 m56 m57 m58 m59 pc ac sc ln sh gf v0 td (nI bx246) (nI fvx247) v50 f24 ax245 k260 k266 (fun b => b = y) rfl ty tm24 (by omega) (by omega)) gX11_rule_X11_isEnd rfl rfl (by decide +kernel) ⟨(Nat.le_of_ble_eq_true rfl), (Nat.le_of_ble_eq_true rfl)⟩ rfl hl.1 (Nat.le_of_ble_eq_true rfl) k260 rfl dX11_rule_152 rfl ⟨(Nat.le_of_ble_eq_true rfl), (Nat.le_of_ble_eq_true rfl)⟩ (fun v271 w272 hp270 H locs hP hD hS => ?_)
                            obtain ⟨ax273, rx274, rfl, hz275, hz276, hz277, hz278, kq280, k279⟩ := hp270
                            have k281 := kq280.2 _ _ k266 (tg_ne tm24 ty (by decide))
                            have k282 := kq280.2 _ _ k267 (tg_ne tm30 ty (by decide))
                            have k283 := kq280.2 _ _ k261 (tg_ne tm31 ty (by decide))
                            have k284 := kq280.2 _ _ k262 (tg_ne tm32 ty (by decide))
                            have k285 := kq280.2 _ _ k263 (tg_ne tm33 ty (by decide))
                            have k286 := kq280.2 _ _ k264 (tg_ne tm34 ty (by decide))
                            have kp287 := kp268.tr kq280 (fun b9 hm q9 => (fun q9 => q9 ▸ s90) q9)
                            refine W.eq (g2 := F0 m 155 ls [.int rx274]) rfl (W.widen (k := 0) (n := 0) (Nat.le_of_ble_eq_true rfl) (Nat.le_of_ble_eq_true rfl) ?_)
                            refine lv_if_ne (tgt := 169) hx hb dX11_rule_155 (by decide) (fun c_288 => ?_) (fun c_288 => ?_)
                            · refine lv_iconst (v := 0) hx hb dX11_rule_169 (by decide) ?_
                              refine lv_istore (lv' := [(4, .int 0), (0, .ref y), (1, .int (nI r)), (2, .int (nI nn)), (3, .int (nI d))]) hx hb dX11_rule_170 hl (by decide) rfl (fun ls hl => ?_)
                              refine lv_iload hx hb dX11_rule_172 (lv_at hl 0 rfl) ?_
                              refine lv_if_eq (tgt := 133) hx hb dX11_rule_174 (by decide) (fun c_289 => ?_) (fun c_289 => absurd (show (0 : Int32) = (0 : Int32) by decide) c_289)
                              exact ih133 (u + 1) 0 ax273 ax273 fvx247 gx249 gx250 gx251 gx252 w272 (by omega) (by omega) (by rw [← hux]; assumption) (by assumption) (by omega) (by omega) (by omega) k279 k281 k282 k283 k284 k285 k286 kp287 ls (lv_sub hl [1, 2, 3, 4, 0] rfl) H locs hP hD hS
                            · refine lv_aload_n hx hb dX11_rule_158 rfl (lv_at hl 0 rfl) ?_
                              refine x_callV (n := 0) (As := []) (rest := []) F hP hD hS (m_isLetter l D cy sk sv w272 tg y m2 m3 m4 m5 m6 m8 m9 m10 m11 m12 m13 m14 m17 m18 m19 m20 m21 m22 m23 m24 m29 m30 m31 m32 m33 m34 m35 m36 m37 m39 m40 m41 m42 m43 m44 m45 m46 m47 m48 m49 m51 m52 m53 m54 m56 m57 m58 m59 pc ac sc ln sh gf v0 td (nI ax273) (nI fvx247) v50 f24 ax273 k279 k281 ty tm24 (by omega) (by omega)) gX11_rule_X11_isLetter rfl rfl (by decide +kernel) ⟨(Nat.le_of_ble_eq_true rfl), (Nat.le_of_ble_eq_true rfl)⟩ rfl hl.1 (Nat.le_of_ble_eq_true rfl) k279 rfl dX11_rule_159 rfl ⟨(Nat.le_of_ble_eq_true rfl), (Nat.le_of_ble_eq_true rfl)⟩ (fun v291 w292 hp290 H locs hP hD hS => ?_)
                              obtain ⟨rx293, rfl, hz294, hz295, rfl⟩ := hp290
                              refine W.eq (g2 := F0 m 162 ls [.int rx293]) rfl (W.widen (k := 0) (n := 0) (Nat.le_of_ble_eq_true rfl) (Nat.le_of_ble_eq_true rfl) ?_)
                              refine lv_if_eq (tgt := 169) hx hb dX11_rule_162 (by decide) (fun c_296 => ?_) (fun c_296 => ?_)
                              · refine lv_iconst (v := 0) hx hb dX11_rule_169 (by decide) ?_
                                refine lv_istore (lv' := [(4, .int 0), (0, .ref y), (1, .int (nI r)), (2, .int (nI nn)), (3, .int (nI d))]) hx hb dX11_rule_170 hl (by decide) rfl (fun ls hl => ?_)
                                refine lv_iload hx hb dX11_rule_172 (lv_at hl 0 rfl) ?_
                                refine lv_if_eq (tgt := 133) hx hb dX11_rule_174 (by decide) (fun c_297 => ?_) (fun c_297 => absurd (show (0 : Int32) = (0 : Int32) by decide) c_297)
                                exact ih133 (u + 1) 0 ax273 ax273 fvx247 gx249 gx250 gx251 gx252 w272 (by omega) (by omega) (by rw [← hux]; assumption) (by assumption) (by omega) (by omega) (by omega) k279 k281 k282 k283 k284 k285 k286 kp287 ls (lv_sub hl [1, 2, 3, 4, 0] rfl) H locs hP hD hS
                              · refine lv_iconst (v := 1) hx hb dX11_rule_165 (by decide) ?_
                                refine lv_goto (tgt := 170) hx hb dX11_rule_166 (by decide) ?_
                                refine lv_istore (lv' := [(4, .int 1), (0, .ref y), (1, .int (nI r)), (2, .int (nI nn)), (3, .int (nI d))]) hx hb dX11_rule_170 hl (by decide) rfl (fun ls hl => ?_)
                                refine lv_iload hx hb dX11_rule_172 (lv_at hl 0 rfl) ?_
                                refine lv_if_eq (tgt := 133) hx hb dX11_rule_174 (by decide) (fun c_298 => absurd c_298 (show ¬ (1 : Int32) = (0 : Int32) by decide)) (fun c_298 => ?_)
                                refine lv_aload_n hx hb dX11_rule_177 rfl (lv_at hl 1 rfl) ?_
                                refine x_callV (n := 0) (As := []) (rest := []) F hP hD hS (m_word l D cy sk sv w272 tg y m2 m3 m4 m5 m6 m8 m9 m10 m11 m12 m13 m14 m17 m18 m19 m20 m21 m22 m23 m24 m29 m30 m31 m32 m33 m34 m35 m36 m37 m39 m40 m41 m42 m43 m44 m45 m46 m47 m48 m49 m51 m52 m53 m54 m56 m57 m58 m59 pc ac sc ln sh gf v0 td (nI ax273) v50 f24 ax273 fvx247 k279 k281 (fun b => b = y) rfl ty tm24 (by omega) (by omega) (by omega)) gX11_rule_X11_word rfl rfl (by decide +kernel) ⟨(Nat.le_of_ble_eq_true rfl), (Nat.le_of_ble_eq_true rfl)⟩ rfl hl.1 (Nat.le_of_ble_eq_true rfl) k279 rfl dX11_rule_178 rfl ⟨(Nat.le_of_ble_eq_true rfl), (Nat.le_of_ble_eq_true rfl)⟩ (fun v300 w301 hp299 H locs hP hD hS => ?_)
                                obtain ⟨ax302, bx303, fvx304, rfl, hz305, hz306, hz307, hz308, kq310, k309⟩ := hp299
                                have k311 := kq310.2 _ _ k281 (tg_ne tm24 ty (by decide))
                                have k312 := kq310.2 _ _ k282 (tg_ne tm30 ty (by decide))
                                have k313 := kq310.2 _ _ k283 (tg_ne tm31 ty (by decide))
                                have k314 := kq310.2 _ _ k284 (tg_ne tm32 ty (by decide))
                                have k315 := kq310.2 _ _ k285 (tg_ne tm33 ty (by decide))
                                have k316 := kq310.2 _ _ k286 (tg_ne tm34 ty (by decide))
                                have kp317 := kp287.tr kq310 (fun b9 hm q9 => (fun q9 => q9 ▸ s90) q9)
                                refine W.eq (g2 := F0 m 181 ls []) rfl (W.widen (k := 0) (n := 0) (Nat.le_of_ble_eq_true rfl) (Nat.le_of_ble_eq_true rfl) ?_)
                                refine lv_aload_n hx hb dX11_rule_181 rfl (lv_at hl 1 rfl) ?_
                                refine x_ldcwS F (i := 3) (tx := "and") (by decide +kernel) dX11_rule_182 ?_
                                refine x_callV (n := 1) (As := [.ref (sk 3)]) (rest := []) F hP hD hS (m_is l D cy sk sv w301 tg y m2 m3 m4 m5 m6 m8 m9 m10 m11 m12 m13 m14 m17 m18 m19 m20 m21 m22 m23 m24 m29 m30 m31 m32 m33 m34 m35 m36 m37 m39 m40 m41 m42 m43 m44 m45 m46 m47 m48 m49 m51 m52 m53 m54 m56 m57 m58 m59 pc ac sc ln sh gf v0 td (nI fvx304) v50 f24 ax302 bx303 3 k309 k311 ty tm24 (by omega) (by omega) (by omega)) gX11_rule_X11_is rfl rfl (by decide +kernel) ⟨(Nat.le_of_ble_eq_true rfl), (Nat.le_of_ble_eq_true rfl)⟩ rfl hl.1 (Nat.le_of_ble_eq_true rfl) k309 rfl dX11_rule_185 rfl ⟨(Nat.le_of_ble_eq_true rfl), (Nat.le_of_ble_eq_true rfl)⟩ (fun v319 w320 hp318 H locs hP hD hS => ?_)
                                obtain ⟨rx321, rfl, hz322, rfl⟩ := hp318
                                refine W.eq (g2 := F0 m 188 ls [.int rx321]) rfl (W.widen (k := 0) (n := 0) (Nat.le_of_ble_eq_true rfl) (Nat.le_of_ble_eq_true rfl) ?_)
                                refine lv_if_ne (tgt := 133) hx hb dX11_rule_188 (by decide) (fun c_323 => ?_) (fun c_323 => ?_)
                                · exact ih133 (u + 1) 1 ax302 bx303 fvx304 gx249 gx250 gx251 gx252 w301 (by omega) (by omega) (by rw [← hux]; assumption) (by assumption) (by omega) (by omega) (by omega) k309 k311 k312 k313 k314 k315 k316 kp317 ls (lv_sub hl [1, 2, 3, 4, 0] rfl) H locs hP hD hS
                                · refine lv_aload_n hx hb dX11_rule_191 rfl (lv_at hl 1 rfl) ?_
                                  refine lv_iconst (v := 0) hx hb dX11_rule_192 (by decide) ?_
                                  refine lv_aload_n hx hb dX11_rule_193 rfl (lv_at hl 1 rfl) ?_
                                  refine x_get (ref := "NoteHouseModel") F hP k309 rfl (fun _ h => List.mem_cons_of_mem _ (List.mem_append_right _ (h))) 27 (Nat.le_of_ble_eq_true rfl) (List.mem_cons_of_mem _ (List.mem_append_left _ (List.mem_append_left _ (List.mem_of_getElem? (i := 0) rfl)))) rfl rfl dX11_rule_194 ?_
                                  refine x_callV (n := 2) (As := [.int 0, .int (nI bx303)]) (rest := []) F hP hD hS (m_fails l D cy sk sv w301 tg y m2 m3 m4 m5 m6 m8 m9 m10 m11 m12 m13 m14 m17 m18 m19 m20 m21 m22 m23 m24 m29 m30 m31 m32 m33 m34 m35 m36 m37 m39 m40 m41 m42 m43 m44 m45 m46 m47 m48 m49 m51 m52 m53 m54 m56 m57 m58 m59 pc ac sc ln sh gf v0 td (nI ax302) (nI bx303) v50 fvx304 0 bx303 k309 (fun b => b = y) rfl ty (by omega) (by omega) (by omega)) gX11_rule_X11_fails rfl rfl (by decide +kernel) ⟨(Nat.le_of_ble_eq_true rfl), (Nat.le_of_ble_eq_true rfl)⟩ rfl hl.1 (Nat.le_of_ble_eq_true rfl) k309 rfl dX11_rule_197 rfl ⟨(Nat.le_of_ble_eq_true rfl), (Nat.le_of_ble_eq_true rfl)⟩ (fun v325 w326 hp324 H locs hP hD hS => ?_)
                                  obtain ⟨fwx327, rfl, hz328, hz329, kq331, k330⟩ := hp324
                                  have k332 := kq331.2 _ _ k311 (tg_ne tm24 ty (by decide))
                                  have k333 := kq331.2 _ _ k312 (tg_ne tm30 ty (by decide))
                                  have k334 := kq331.2 _ _ k313 (tg_ne tm31 ty (by decide))
                                  have k335 := kq331.2 _ _ k314 (tg_ne tm32 ty (by decide))
                                  have k336 := kq331.2 _ _ k315 (tg_ne tm33 ty (by decide))
                                  have k337 := kq331.2 _ _ k316 (tg_ne tm34 ty (by decide))
                                  have kp338 := kp317.tr kq331 (fun b9 hm q9 => (fun q9 => q9 ▸ s90) q9)
                                  refine W.eq (g2 := F0 m 200 ls []) rfl (W.widen (k := 0) (n := 0) (Nat.le_of_ble_eq_true rfl) (Nat.le_of_ble_eq_true rfl) ?_)
                                  exact y_vr K hP hD hS (Nat.le_of_ble_eq_true rfl) (Nat.le_of_ble_eq_true rfl) rfl dX11_rule_200 (⟨ax302, bx303, fwx327, upd f30 (nI r).toNatClampNeg (nI d), gx249, gx250, gx251, gx252, rfl, by omega, by omega, by omega, (by first | assumption | exact hc.c (u := 0) (by omega) (by omega)), by omega, kp338, k330, k333, k334, k335, k336, k337⟩)
                          · have hfp : 0 < fvx247 := Nat.pos_of_ne_zero (fun q => c_269 (by rw [q]; decide))
                            exact y_vr K hP hD hS (Nat.le_of_ble_eq_true rfl) (Nat.le_of_ble_eq_true rfl) rfl dX11_rule_150 (⟨ax245, bx246, fvx247, upd f30 (nI r).toNatClampNeg (nI d), gx249, gx250, gx251, gx252, rfl, by omega, by omega, by omega, (by first | assumption | exact hc.c (u := 0) (by omega) (by omega)), by omega, kp268, k260, k267, k261, k262, k263, k264⟩)
                    exact lp133 _ 0 1 ax102 bx103 fvx104 (upd f31 (nI r).toNatClampNeg 0) f32 f33 f34 w101 (Nat.zero_add 7) (by omega) (by rw [nI_clamp (by omega), pk_us]; rfl) (hc.c (u := 0) (by omega) (by omega)) (by omega) (by omega) (by omega) k109 k111 k112 k113 k114 k115 k116 kp117 ls (lv_sub hl [1, 2, 3, 4, 0] rfl) H locs hP hD hS
                · refine lv_aload_n hx hb dX11_rule_110 rfl (lv_at hl 0 rfl) ?_
                  refine lv_iconst (v := 0) hx hb dX11_rule_111 (by decide) ?_
                  refine lv_aload_n hx hb dX11_rule_112 rfl (lv_at hl 0 rfl) ?_
                  refine x_get (ref := "NoteHouseModel") F hP k109 rfl (fun _ h => List.mem_cons_of_mem _ (List.mem_append_right _ (h))) 27 (Nat.le_of_ble_eq_true rfl) (List.mem_cons_of_mem _ (List.mem_append_left _ (List.mem_append_left _ (List.mem_of_getElem? (i := 0) rfl)))) rfl rfl dX11_rule_113 ?_
                  refine x_callV (n := 2) (As := [.int 0, .int (nI bx103)]) (rest := []) F hP hD hS (m_fails l D cy sk sv w101 tg y m2 m3 m4 m5 m6 m8 m9 m10 m11 m12 m13 m14 m17 m18 m19 m20 m21 m22 m23 m24 m29 m30 m31 m32 m33 m34 m35 m36 m37 m39 m40 m41 m42 m43 m44 m45 m46 m47 m48 m49 m51 m52 m53 m54 m56 m57 m58 m59 pc ac sc ln sh gf v0 td (nI ax102) (nI bx103) v50 fvx104 0 bx103 k109 (fun b => b = y) rfl ty (by omega) (by omega) (by omega)) gX11_rule_X11_fails rfl rfl (by decide +kernel) ⟨(Nat.le_of_ble_eq_true rfl), (Nat.le_of_ble_eq_true rfl)⟩ rfl hl.1 (Nat.le_of_ble_eq_true rfl) k109 rfl dX11_rule_116 rfl ⟨(Nat.le_of_ble_eq_true rfl), (Nat.le_of_ble_eq_true rfl)⟩ (fun v340 w341 hp339 H locs hP hD hS => ?_)
                  obtain ⟨fwx342, rfl, hz343, hz344, kq346, k345⟩ := hp339
                  have k347 := kq346.2 _ _ k111 (tg_ne tm24 ty (by decide))
                  have k348 := kq346.2 _ _ k112 (tg_ne tm30 ty (by decide))
                  have k349 := kq346.2 _ _ k113 (tg_ne tm31 ty (by decide))
                  have k350 := kq346.2 _ _ k114 (tg_ne tm32 ty (by decide))
                  have k351 := kq346.2 _ _ k115 (tg_ne tm33 ty (by decide))
                  have k352 := kq346.2 _ _ k116 (tg_ne tm34 ty (by decide))
                  have kp353 := kp117.tr kq346 (fun b9 hm q9 => (fun q9 => q9 ▸ s90) q9)
                  refine W.eq (g2 := F0 m 119 ls []) rfl (W.widen (k := 0) (n := 0) (Nat.le_of_ble_eq_true rfl) (Nat.le_of_ble_eq_true rfl) ?_)
                  refine lv_aload_n hx hb dX11_rule_119 rfl (lv_at hl 0 rfl) ?_
                  refine x_get (ref := "NoteHouseModel") F hP k345 rfl (fun _ h => List.mem_cons_of_mem _ (List.mem_append_right _ (h))) 28 (Nat.le_of_ble_eq_true rfl) (List.mem_cons_of_mem _ (List.mem_append_left _ (List.mem_append_left _ (List.mem_of_getElem? (i := 1) rfl)))) rfl rfl dX11_rule_120 ?_
                  refine lv_if_ne (tgt := 130) hx hb dX11_rule_123 (by decide) (fun c_354 => ?_) (fun c_354 => absurd c_354 (nI_ne0 (by omega) (by omega)))
                  refine lv_iconst (v := 0) hx hb dX11_rule_130 (by decide) ?_
                  refine lv_istore (lv' := [(4, .int 0), (0, .ref y), (1, .int (nI r)), (2, .int (nI nn)), (3, .int (nI d))]) hx hb dX11_rule_131 hl (by decide) rfl (fun ls hl => ?_)
                  have lp133 : ∀ (N : Nat) (u : Nat) (on : Int32) (a : Nat) (b : Nat) (fq : Nat) (h31 : Nat → Int32) (h32 : Nat → Int32) (h33 : Nat → Int32) (h34 : Nat → Int32) (w355 : Wd), (u + N = 7) → (u ≤ 6) → (h31 r = nI u) → (cOK h31) → (a0 ≤ a) → (a ≤ ln) → (fq < 2000) → (wd_at w355 y (.inr (11, [.int v0, .int td, .ref m2, .ref m3, .ref m4, .ref m5, .ref m6, .int (nI pc), .ref m8, .ref m9, .ref m10, .ref m11, .ref m12, .ref m13, .ref m14, .int (nI ac), .int (nI sc), .ref m17, .ref m18, .ref m19, .ref m20, .ref m21, .ref m22, .ref m23, .ref m24, .int (nI ln), .int (nI a), .int (nI b), .int (nI fq), .ref m29, .ref m30, .ref m31, .ref m32, .ref m33, .ref m34, .ref m35, .ref m36, .ref m37, .int (nI sh), .ref m39, .ref m40, .ref m41, .ref m42, .ref m43, .ref m44, .ref m45, .ref m46, .ref m47, .ref m48, .ref m49, .int v50, .ref m51, .ref m52, .ref m53, .ref m54, .int (nI gf), .ref m56, .ref m57, .ref m58, .ref m59]))) → (wd_at w355 m24 (.inl (cy 0, 300, .inl f24))) → (wd_at w355 m30 (.inl (cy 2, 156, .inl (upd f30 (nI r).toNatClampNeg (nI d))))) → (wd_at w355 m31 (.inl (cy 2, 156, .inl h31))) → (wd_at w355 m32 (.inl (cy 2, 936, .inl h32))) → (wd_at w355 m33 (.inl (cy 2, 936, .inl h33))) → (wd_at w355 m34 (.inl (cy 2, 936, .inl h34))) → (wd_kp S w w355) → ∀ (ls : Array Slot), lv_has ls 5 [(0, .ref y), (1, .int (nI r)), (2, .int (nI nn)), (3, .int (nI d)), (4, .int on)] → Wv p l e ({ frames := 6, cells := 0, slots := 0, locals := 131 }) s m args below meth c D A (0) (0) Q w355 (F0 m 133 ls []) := by
                    intro N
                    induction N with
                    | zero =>
                      intro u on a b fq h31 h32 h33 h34 w355 hN133 hu6 hu hc2 ha1 ha2 hfq k356 k357 k358 k359 k360 k361 k362 kp363 ls hl H locs hP hD hS
                      exact absurd hN133 (by omega)
                    | succ N ih133 =>
                      intro u on a b fq h31 h32 h33 h34 w355 hN133 hu6 hu hc2 ha1 ha2 hfq k356 k357 k358 k359 k360 k361 k362 kp363 ls hl H locs hP hD hS
                      refine lv_iload hx hb dX11_rule_133 (lv_at hl 4 rfl) ?_
                      refine lv_if_eq (tgt := 201) hx hb dX11_rule_135 (by decide) (fun c_364 => ?_) (fun c_364 => ?_)
                      · exact y_vr K hP hD hS (Nat.le_of_ble_eq_true rfl) (Nat.le_of_ble_eq_true rfl) rfl dX11_rule_201 (⟨a, b, fq, upd f30 (nI r).toNatClampNeg (nI d), h31, h32, h33, h34, rfl, by omega, by omega, by omega, (by first | assumption | exact hc.c (u := 0) (by omega) (by omega)), by omega, kp363, k356, k358, k359, k360, k361, k362⟩)
                      · refine lv_aload_n hx hb dX11_rule_138 rfl (lv_at hl 0 rfl) ?_
                        refine lv_iload_n hx hb dX11_rule_139 rfl (lv_at hl 1 rfl) ?_
                        refine x_callV (n := 1) (As := [.int (nI r)]) (rest := []) F hP hD hS (m_cond l D cy sk sv w355 tg y m2 m3 m4 m5 m6 m8 m9 m10 m11 m12 m13 m14 m17 m18 m19 m20 m21 m22 m23 m24 m29 m30 m31 m32 m33 m34 m35 m36 m37 m39 m40 m41 m42 m43 m44 m45 m46 m47 m48 m49 m51 m52 m53 m54 m56 m57 m58 m59 pc ac sc ln sh gf v0 td (nI b) v50 f24 h31 h32 h33 h34 a fq r u k356 k357 k359 k360 k361 k362 (fun b => b = y ∨ b = m31 ∨ b = m32 ∨ b = m33 ∨ b = m34) (Or.inl rfl) (Or.inr (Or.inl rfl)) (Or.inr (Or.inr (Or.inl rfl))) (Or.inr (Or.inr (Or.inr (Or.inl rfl)))) (Or.inr (Or.inr (Or.inr (Or.inr rfl)))) ty tm24 tm31 tm32 tm33 tm34 (by omega) (by omega) (by omega) (by omega) (by assumption) (by assumption) (by omega)) gX11_rule_X11_cond rfl rfl (by decide +kernel) ⟨(Nat.le_of_ble_eq_true rfl), (Nat.le_of_ble_eq_true rfl)⟩ rfl hl.1 (Nat.le_of_ble_eq_true rfl) k356 rfl dX11_rule_140 rfl ⟨(Nat.le_of_ble_eq_true rfl), (Nat.le_of_ble_eq_true rfl)⟩ (fun v366 w367 hp365 H locs hP hD hS => ?_)
                        obtain ⟨ax368, bx369, fvx370, ux371, gx372, gx373, gx374, gx375, rfl, hz376, hz377, hz378, hz379, hz380, hz381, hz382, kq388, k383, k384, k385, k386, k387⟩ := hp365
                        have k389 := kq388.2 _ _ k357 (orN (tg_ne tm24 ty (by decide)) (orN (tg_ne tm24 tm31 (by decide)) (orN (tg_ne tm24 tm32 (by decide)) (orN (tg_ne tm24 tm33 (by decide)) (tg_ne tm24 tm34 (by decide))))))
                        have k390 := kq388.2 _ _ k358 (orN (tg_ne tm30 ty (by decide)) (orN (tg_ne tm30 tm31 (by decide)) (orN (tg_ne tm30 tm32 (by decide)) (orN (tg_ne tm30 tm33 (by decide)) (tg_ne tm30 tm34 (by decide))))))
                        have kp391 := kp363.tr kq388 (fun b9 hm q9 => (fun q9 => Or.elim q9 (fun q9 => q9 ▸ s90) (fun q9 => Or.elim q9 (fun q9 => q9 ▸ s92) (fun q9 => Or.elim q9 (fun q9 => q9 ▸ s93) (fun q9 => Or.elim q9 (fun q9 => q9 ▸ s94) (fun q9 => q9 ▸ s95))))) q9)
                        refine W.eq (g2 := F0 m 143 ls []) rfl (W.widen (k := 0) (n := 0) (Nat.le_of_ble_eq_true rfl) (Nat.le_of_ble_eq_true rfl) ?_)
                        refine lv_aload_n hx hb dX11_rule_143 rfl (lv_at hl 0 rfl) ?_
                        refine x_get (ref := "NoteHouseModel") F hP k383 rfl (fun _ h => List.mem_cons_of_mem _ (List.mem_append_right _ (h))) 28 (Nat.le_of_ble_eq_true rfl) (List.mem_cons_of_mem _ (List.mem_append_left _ (List.mem_append_left _ (List.mem_of_getElem? (i := 1) rfl)))) rfl rfl dX11_rule_144 ?_
                        refine lv_if_le (tgt := 151) hx hb dX11_rule_147 (by decide) (fun c_392 => ?_) (fun c_392 => ?_)
                        · have hf0 : fvx370 = 0 := nI_z (by omega) c_392
                          have hux := hz382 hf0
                          refine lv_aload_n hx hb dX11_rule_151 rfl (lv_at hl 0 rfl) ?_
                          refine x_callV (n := 0) (As := []) (rest := []) F hP hD hS (m_isEnd l D cy sk sv w367 tg y m2 m3 m4 m5 m6 m8 m9 m10 m11 m12 m13 m14 m17 m18 m19 m20 m21 m22 m23 m24 m29 m30 m31 m32 m33 m34 m35 m36 m37 m39 m40 m41 m42 m43 m44 m45 m46 m47 m48 m49 m51 m52 m53 m54 m56 m57 m58 m59 pc ac sc ln sh gf v0 td (nI bx369) (nI fvx370) v50 f24 ax368 k383 k389 (fun b => b = y) rfl ty tm24 (by omega) (by omega)) gX11_rule_X11_isEnd rfl rfl (by decide +kernel) ⟨(Nat.le_of_ble_eq_true rfl), (Nat.le_of_ble_eq_true rfl)⟩ rfl hl.1 (Nat.le_of_ble_eq_true rfl) k383 rfl dX11_rule_152 rfl ⟨(Nat.le_of_ble_eq_true rfl), (Nat.le_of_ble_eq_true rfl)⟩ (fun v394 w395 hp393 H locs hP hD hS => ?_)
                          obtain ⟨ax396, rx397, rfl, hz398, hz399, hz400, hz401, kq403, k402⟩ := hp393
                          have k404 := kq403.2 _ _ k389 (tg_ne tm24 ty (by decide))
                          have k405 := kq403.2 _ _ k390 (tg_ne tm30 ty (by decide))
                          have k406 := kq403.2 _ _ k384 (tg_ne tm31 ty (by decide))
                          have k407 := kq403.2 _ _ k385 (tg_ne tm32 ty (by decide))
                          have k408 := kq403.2 _ _ k386 (tg_ne tm33 ty (by decide))
                          have k409 := kq403.2 _ _ k387 (tg_ne tm34 ty (by decide))
                          have kp410 := kp391.tr kq403 (fun b9 hm q9 => (fun q9 => q9 ▸ s90) q9)
                          refine W.eq (g2 := F0 m 155 ls [.int rx397]) rfl (W.widen (k := 0) (n := 0) (Nat.le_of_ble_eq_true rfl) (Nat.le_of_ble_eq_true rfl) ?_)
                          refine lv_if_ne (tgt := 169) hx hb dX11_rule_155 (by decide) (fun c_411 => ?_) (fun c_411 => ?_)
                          · refine lv_iconst (v := 0) hx hb dX11_rule_169 (by decide) ?_
                            refine lv_istore (lv' := [(4, .int 0), (0, .ref y), (1, .int (nI r)), (2, .int (nI nn)), (3, .int (nI d))]) hx hb dX11_rule_170 hl (by decide) rfl (fun ls hl => ?_)
                            refine lv_iload hx hb dX11_rule_172 (lv_at hl 0 rfl) ?_
                            refine lv_if_eq (tgt := 133) hx hb dX11_rule_174 (by decide) (fun c_412 => ?_) (fun c_412 => absurd (show (0 : Int32) = (0 : Int32) by decide) c_412)
                            exact ih133 (u + 1) 0 ax396 ax396 fvx370 gx372 gx373 gx374 gx375 w395 (by omega) (by omega) (by rw [← hux]; assumption) (by assumption) (by omega) (by omega) (by omega) k402 k404 k405 k406 k407 k408 k409 kp410 ls (lv_sub hl [1, 2, 3, 4, 0] rfl) H locs hP hD hS
                          · refine lv_aload_n hx hb dX11_rule_158 rfl (lv_at hl 0 rfl) ?_
                            refine x_callV (n := 0) (As := []) (rest := []) F hP hD hS (m_isLetter l D cy sk sv w395 tg y m2 m3 m4 m5 m6 m8 m9 m10 m11 m12 m13 m14 m17 m18 m19 m20 m21 m22 m23 m24 m29 m30 m31 m32 m33 m34 m35 m36 m37 m39 m40 m41 m42 m43 m44 m45 m46 m47 m48 m49 m51 m52 m53 m54 m56 m57 m58 m59 pc ac sc ln sh gf v0 td (nI ax396) (nI fvx370) v50 f24 ax396 k402 k404 ty tm24 (by omega) (by omega)) gX11_rule_X11_isLetter rfl rfl (by decide +kernel) ⟨(Nat.le_of_ble_eq_true rfl), (Nat.le_of_ble_eq_true rfl)⟩ rfl hl.1 (Nat.le_of_ble_eq_true rfl) k402 rfl dX11_rule_159 rfl ⟨(Nat.le_of_ble_eq_true rfl), (Nat.le_of_ble_eq_true rfl)⟩ (fun v414 w415 hp413 H locs hP hD hS => ?_)
                            obtain ⟨rx416, rfl, hz417, hz418, rfl⟩ := hp413
                            refine W.eq (g2 := F0 m 162 ls [.int rx416]) rfl (W.widen (k := 0) (n := 0) (Nat.le_of_ble_eq_true rfl) (Nat.le_of_ble_eq_true rfl) ?_)
                            refine lv_if_eq (tgt := 169) hx hb dX11_rule_162 (by decide) (fun c_419 => ?_) (fun c_419 => ?_)
                            · refine lv_iconst (v := 0) hx hb dX11_rule_169 (by decide) ?_
                              refine lv_istore (lv' := [(4, .int 0), (0, .ref y), (1, .int (nI r)), (2, .int (nI nn)), (3, .int (nI d))]) hx hb dX11_rule_170 hl (by decide) rfl (fun ls hl => ?_)
                              refine lv_iload hx hb dX11_rule_172 (lv_at hl 0 rfl) ?_
                              refine lv_if_eq (tgt := 133) hx hb dX11_rule_174 (by decide) (fun c_420 => ?_) (fun c_420 => absurd (show (0 : Int32) = (0 : Int32) by decide) c_420)
                              exact ih133 (u + 1) 0 ax396 ax396 fvx370 gx372 gx373 gx374 gx375 w395 (by omega) (by omega) (by rw [← hux]; assumption) (by assumption) (by omega) (by omega) (by omega) k402 k404 k405 k406 k407 k408 k409 kp410 ls (lv_sub hl [1, 2, 3, 4, 0] rfl) H locs hP hD hS
                            · refine lv_iconst (v := 1) hx hb dX11_rule_165 (by decide) ?_
                              refine lv_goto (tgt := 170) hx hb dX11_rule_166 (by decide) ?_
                              refine lv_istore (lv' := [(4, .int 1), (0, .ref y), (1, .int (nI r)), (2, .int (nI nn)), (3, .int (nI d))]) hx hb dX11_rule_170 hl (by decide) rfl (fun ls hl => ?_)
                              refine lv_iload hx hb dX11_rule_172 (lv_at hl 0 rfl) ?_
                              refine lv_if_eq (tgt := 133) hx hb dX11_rule_174 (by decide) (fun c_421 => absurd c_421 (show ¬ (1 : Int32) = (0 : Int32) by decide)) (fun c_421 => ?_)
                              refine lv_aload_n hx hb dX11_rule_177 rfl (lv_at hl 1 rfl) ?_
                              refine x_callV (n := 0) (As := []) (rest := []) F hP hD hS (m_word l D cy sk sv w395 tg y m2 m3 m4 m5 m6 m8 m9 m10 m11 m12 m13 m14 m17 m18 m19 m20 m21 m22 m23 m24 m29 m30 m31 m32 m33 m34 m35 m36 m37 m39 m40 m41 m42 m43 m44 m45 m46 m47 m48 m49 m51 m52 m53 m54 m56 m57 m58 m59 pc ac sc ln sh gf v0 td (nI ax396) v50 f24 ax396 fvx370 k402 k404 (fun b => b = y) rfl ty tm24 (by omega) (by omega) (by omega)) gX11_rule_X11_word rfl rfl (by decide +kernel) ⟨(Nat.le_of_ble_eq_true rfl), (Nat.le_of_ble_eq_true rfl)⟩ rfl hl.1 (Nat.le_of_ble_eq_true rfl) k402 rfl dX11_rule_178 rfl ⟨(Nat.le_of_ble_eq_true rfl), (Nat.le_of_ble_eq_true rfl)⟩ (fun v423 w424 hp422 H locs hP hD hS => ?_)
                              obtain ⟨ax425, bx426, fvx427, rfl, hz428, hz429, hz430, hz431, kq433, k432⟩ := hp422
                              have k434 := kq433.2 _ _ k404 (tg_ne tm24 ty (by decide))
                              have k435 := kq433.2 _ _ k405 (tg_ne tm30 ty (by decide))
                              have k436 := kq433.2 _ _ k406 (tg_ne tm31 ty (by decide))
                              have k437 := kq433.2 _ _ k407 (tg_ne tm32 ty (by decide))
                              have k438 := kq433.2 _ _ k408 (tg_ne tm33 ty (by decide))
                              have k439 := kq433.2 _ _ k409 (tg_ne tm34 ty (by decide))
                              have kp440 := kp410.tr kq433 (fun b9 hm q9 => (fun q9 => q9 ▸ s90) q9)
                              refine W.eq (g2 := F0 m 181 ls []) rfl (W.widen (k := 0) (n := 0) (Nat.le_of_ble_eq_true rfl) (Nat.le_of_ble_eq_true rfl) ?_)
                              refine lv_aload_n hx hb dX11_rule_181 rfl (lv_at hl 1 rfl) ?_
                              refine x_ldcwS F (i := 3) (tx := "and") (by decide +kernel) dX11_rule_182 ?_
                              refine x_callV (n := 1) (As := [.ref (sk 3)]) (rest := []) F hP hD hS (m_is l D cy sk sv w424 tg y m2 m3 m4 m5 m6 m8 m9 m10 m11 m12 m13 m14 m17 m18 m19 m20 m21 m22 m23 m24 m29 m30 m31 m32 m33 m34 m35 m36 m37 m39 m40 m41 m42 m43 m44 m45 m46 m47 m48 m49 m51 m52 m53 m54 m56 m57 m58 m59 pc ac sc ln sh gf v0 td (nI fvx427) v50 f24 ax425 bx426 3 k432 k434 ty tm24 (by omega) (by omega) (by omega)) gX11_rule_X11_is rfl rfl (by decide +kernel) ⟨(Nat.le_of_ble_eq_true rfl), (Nat.le_of_ble_eq_true rfl)⟩ rfl hl.1 (Nat.le_of_ble_eq_true rfl) k432 rfl dX11_rule_185 rfl ⟨(Nat.le_of_ble_eq_true rfl), (Nat.le_of_ble_eq_true rfl)⟩ (fun v442 w443 hp441 H locs hP hD hS => ?_)
                              obtain ⟨rx444, rfl, hz445, rfl⟩ := hp441
                              refine W.eq (g2 := F0 m 188 ls [.int rx444]) rfl (W.widen (k := 0) (n := 0) (Nat.le_of_ble_eq_true rfl) (Nat.le_of_ble_eq_true rfl) ?_)
                              refine lv_if_ne (tgt := 133) hx hb dX11_rule_188 (by decide) (fun c_446 => ?_) (fun c_446 => ?_)
                              · exact ih133 (u + 1) 1 ax425 bx426 fvx427 gx372 gx373 gx374 gx375 w424 (by omega) (by omega) (by rw [← hux]; assumption) (by assumption) (by omega) (by omega) (by omega) k432 k434 k435 k436 k437 k438 k439 kp440 ls (lv_sub hl [1, 2, 3, 4, 0] rfl) H locs hP hD hS
                              · refine lv_aload_n hx hb dX11_rule_191 rfl (lv_at hl 1 rfl) ?_
                                refine lv_iconst (v := 0) hx hb dX11_rule_192 (by decide) ?_
                                refine lv_aload_n hx hb dX11_rule_193 rfl (lv_at hl 1 rfl) ?_
                                refine x_get (ref := "NoteHouseModel") F hP k432 rfl (fun _ h => List.mem_cons_of_mem _ (List.mem_append_right _ (h))) 27 (Nat.le_of_ble_eq_true rfl) (List.mem_cons_of_mem _ (List.mem_append_left _ (List.mem_append_left _ (List.mem_of_getElem? (i := 0) rfl)))) rfl rfl dX11_rule_194 ?_
                                refine x_callV (n := 2) (As := [.int 0, .int (nI bx426)]) (rest := []) F hP hD hS (m_fails l D cy sk sv w424 tg y m2 m3 m4 m5 m6 m8 m9 m10 m11 m12 m13 m14 m17 m18 m19 m20 m21 m22 m23 m24 m29 m30 m31 m32 m33 m34 m35 m36 m37 m39 m40 m41 m42 m43 m44 m45 m46 m47 m48 m49 m51 m52 m53 m54 m56 m57 m58 m59 pc ac sc ln sh gf v0 td (nI ax425) (nI bx426) v50 fvx427 0 bx426 k432 (fun b => b = y) rfl ty (by omega) (by omega) (by omega)) gX11_rule_X11_fails rfl rfl (by decide +kernel) ⟨(Nat.le_of_ble_eq_true rfl), (Nat.le_of_ble_eq_true rfl)⟩ rfl hl.1 (Nat.le_of_ble_eq_true rfl) k432 rfl dX11_rule_197 rfl ⟨(Nat.le_of_ble_eq_true rfl), (Nat.le_of_ble_eq_true rfl)⟩ (fun v448 w449 hp447 H locs hP hD hS => ?_)
                                obtain ⟨fwx450, rfl, hz451, hz452, kq454, k453⟩ := hp447
                                have k455 := kq454.2 _ _ k434 (tg_ne tm24 ty (by decide))
                                have k456 := kq454.2 _ _ k435 (tg_ne tm30 ty (by decide))
                                have k457 := kq454.2 _ _ k436 (tg_ne tm31 ty (by decide))
                                have k458 := kq454.2 _ _ k437 (tg_ne tm32 ty (by decide))
                                have k459 := kq454.2 _ _ k438 (tg_ne tm33 ty (by decide))
                                have k460 := kq454.2 _ _ k439 (tg_ne tm34 ty (by decide))
                                have kp461 := kp440.tr kq454 (fun b9 hm q9 => (fun q9 => q9 ▸ s90) q9)
                                refine W.eq (g2 := F0 m 200 ls []) rfl (W.widen (k := 0) (n := 0) (Nat.le_of_ble_eq_true rfl) (Nat.le_of_ble_eq_true rfl) ?_)
                                exact y_vr K hP hD hS (Nat.le_of_ble_eq_true rfl) (Nat.le_of_ble_eq_true rfl) rfl dX11_rule_200 (⟨ax425, bx426, fwx450, upd f30 (nI r).toNatClampNeg (nI d), gx372, gx373, gx374, gx375, rfl, by omega, by omega, by omega, (by first | assumption | exact hc.c (u := 0) (by omega) (by omega)), by omega, kp461, k453, k456, k457, k458, k459, k460⟩)
                        · have hfp : 0 < fvx370 := Nat.pos_of_ne_zero (fun q => c_392 (by rw [q]; decide))
                          exact y_vr K hP hD hS (Nat.le_of_ble_eq_true rfl) (Nat.le_of_ble_eq_true rfl) rfl dX11_rule_150 (⟨ax368, bx369, fvx370, upd f30 (nI r).toNatClampNeg (nI d), gx372, gx373, gx374, gx375, rfl, by omega, by omega, by omega, (by first | assumption | exact hc.c (u := 0) (by omega) (by omega)), by omega, kp391, k383, k390, k384, k385, k386, k387⟩)
                  exact lp133 _ 0 0 ax102 bx103 fwx342 (upd f31 (nI r).toNatClampNeg 0) f32 f33 f34 w341 (Nat.zero_add 7) (by omega) (by rw [nI_clamp (by omega), pk_us]; rfl) (hc.c (u := 0) (by omega) (by omega)) (by omega) (by omega) (by omega) k345 k347 k348 k349 k350 k351 k352 kp353 ls (lv_sub hl [1, 2, 3, 4, 0] rfl) H locs hP hD hS
              · exact y_vr K hP hD hS (Nat.le_of_ble_eq_true rfl) (Nat.le_of_ble_eq_true rfl) rfl dX11_rule_95 (⟨ax76, ax76, fvx6, upd f30 (nI r).toNatClampNeg (nI d), upd f31 (nI r).toNatClampNeg 0, f32, f33, f34, rfl, by omega, by omega, by omega, (by first | assumption | exact hc.c (u := 0) (by omega) (by omega)), by omega, kp90, k82, k85, k86, k87, k88, k89⟩)
          · refine lv_iinc (v := nI (d + 1)) (lv' := [(3, .int (nI (d + 1))), (0, .ref y), (1, .int (nI r)), (2, .int (nI nn))]) hx hb dX11_rule_46 hl (k := 3) rfl (nI_1 d) (by decide) rfl (fun ls hl => ?_)
            refine lv_goto (tgt := 29) hx hb dX11_rule_49 (by decide) ?_
            exact ih29 (d + 1)  (by omega)    ls (lv_sub hl [1, 2, 3, 0] rfl) H locs hP hD hS
      exact lp29 _ 0  (Nat.zero_add 3)    ls (lv_sub hl [1, 2, 3, 0] rfl) H locs hP hD hS
    · have hfp : 0 < fvx6 := Nat.pos_of_ne_zero (fun q => c_21 (by rw [q]; decide))
      exact y_vr K hP hD hS (Nat.le_of_ble_eq_true rfl) (Nat.le_of_ble_eq_true rfl) rfl dX11_rule_26 (⟨ax4, bx5, fvx6, f30, f31, f32, f33, f34, rfl, by omega, by omega, by omega, (by first | assumption | exact hc.c (u := 0) (by omega) (by omega)), by omega, kp19, k11, k14, k15, k16, k17, k18⟩)
  · refine lv_aload_n hx hb dX11_rule_10 rfl (lv_at hl 0 rfl) ?_
    refine lv_iconst (v := 2) hx hb dX11_rule_11 (by decide) ?_
    refine lv_aload_n hx hb dX11_rule_12 rfl (lv_at hl 0 rfl) ?_
    refine x_get (ref := "NoteHouseModel") F hP k11 rfl (fun _ h => List.mem_cons_of_mem _ (List.mem_append_right _ (h))) 27 (Nat.le_of_ble_eq_true rfl) (List.mem_cons_of_mem _ (List.mem_append_left _ (List.mem_append_left _ (List.mem_of_getElem? (i := 0) rfl)))) rfl rfl dX11_rule_13 ?_
    refine x_callV (n := 2) (As := [.int 2, .int (nI bx5)]) (rest := []) F hP hD hS (m_fails l D cy sk sv w3 tg y m2 m3 m4 m5 m6 m8 m9 m10 m11 m12 m13 m14 m17 m18 m19 m20 m21 m22 m23 m24 m29 m30 m31 m32 m33 m34 m35 m36 m37 m39 m40 m41 m42 m43 m44 m45 m46 m47 m48 m49 m51 m52 m53 m54 m56 m57 m58 m59 pc ac sc ln sh gf v0 td (nI ax4) (nI bx5) v50 fvx6 2 bx5 k11 (fun b => b = y) rfl ty (by omega) (by omega) (by omega)) gX11_rule_X11_fails rfl rfl (by decide +kernel) ⟨(Nat.le_of_ble_eq_true rfl), (Nat.le_of_ble_eq_true rfl)⟩ rfl hl.1 (Nat.le_of_ble_eq_true rfl) k11 rfl dX11_rule_16 rfl ⟨(Nat.le_of_ble_eq_true rfl), (Nat.le_of_ble_eq_true rfl)⟩ (fun v463 w464 hp462 H locs hP hD hS => ?_)
    obtain ⟨fwx465, rfl, hz466, hz467, kq469, k468⟩ := hp462
    have k470 := kq469.2 _ _ k13 (tg_ne tm24 ty (by decide))
    have k471 := kq469.2 _ _ k14 (tg_ne tm30 ty (by decide))
    have k472 := kq469.2 _ _ k15 (tg_ne tm31 ty (by decide))
    have k473 := kq469.2 _ _ k16 (tg_ne tm32 ty (by decide))
    have k474 := kq469.2 _ _ k17 (tg_ne tm33 ty (by decide))
    have k475 := kq469.2 _ _ k18 (tg_ne tm34 ty (by decide))
    have kp476 := kp19.tr kq469 (fun b9 hm q9 => (fun q9 => q9 ▸ s90) q9)
    refine W.eq (g2 := F0 m 19 ls []) rfl (W.widen (k := 0) (n := 0) (Nat.le_of_ble_eq_true rfl) (Nat.le_of_ble_eq_true rfl) ?_)
    refine lv_aload_n hx hb dX11_rule_19 rfl (lv_at hl 0 rfl) ?_
    refine x_get (ref := "NoteHouseModel") F hP k468 rfl (fun _ h => List.mem_cons_of_mem _ (List.mem_append_right _ (h))) 28 (Nat.le_of_ble_eq_true rfl) (List.mem_cons_of_mem _ (List.mem_append_left _ (List.mem_append_left _ (List.mem_of_getElem? (i := 1) rfl)))) rfl rfl dX11_rule_20 ?_
    refine lv_if_le (tgt := 27) hx hb dX11_rule_23 (by decide) (fun c_477 => absurd c_477 (nI_np (by omega) (by omega))) (fun c_477 => ?_)
    exact y_vr K hP hD hS (Nat.le_of_ble_eq_true rfl) (Nat.le_of_ble_eq_true rfl) rfl dX11_rule_26 (⟨ax4, bx5, fwx465, f30, f31, f32, f33, f34, rfl, by omega, by omega, by omega, (by first | assumption | exact hc.c (u := 0) (by omega) (by omega)), by omega, kp476, k468, k471, k472, k473, k474, k475⟩)
