set_option maxHeartbeats 4000000 in
set_option maxRecDepth 100000 in
theorem m_without (l : Launch) (D : va_G) (cy : Nat → ClassId) (sk sv : Nat → Nat) (w : Wd) (k : Nat)   (hk : k < 5) : Ct l D cy sk sv yX11_without wsX11_without ({ frames := 0, cells := 0, slots := 0, locals := 0 }) [.int (nI k)] w (fun v w1 => ∃ (r1 : Int32), v = some (.int r1) ∧ (r1 = law0 k) ∧ w = w1) := by
  refine Ct.by (cc := cX11_without) (maxL := 1) (ret := (some .int)) (by decide +kernel) rfl (Nat.le_of_ble_eq_true rfl) ?_
  intro p e s m args below meth c A Q F hnm K ls hl
  have F : wd_Fx p s m args meth c cX11_without 1 wsX11_without RX11 D cy sk sv A := F
  have hl : lv_has ls 1 [(0, .int (nI k))] := hl
  have hx := F.1.1
  have hb := F.1.2.1
  have hown := F.1.2.2.2.1
  have hts := F.1.2.2.2.2
  intro H locs hP hD hS
  refine lv_iload_n hx hb dX11_without_0 rfl (lv_at hl 0 rfl) ?_
  refine lv_iconst (v := 2) hx hb dX11_without_1 (by decide) ?_
  refine lv_icmp_ge (tgt := 9) hx hb dX11_without_2 (by decide) (fun c_1 => ?_) (fun c_1 => ?_)
  · refine lv_iload_n hx hb dX11_without_9 rfl (lv_at hl 0 rfl) ?_
    refine lv_iconst (v := 2) hx hb dX11_without_10 (by decide) ?_
    refine lv_icmp_ne (tgt := 18) hx hb dX11_without_11 (by decide) (fun c_2 => ?_) (fun c_2 => ?_)
    · refine lv_iload_n hx hb dX11_without_18 rfl (lv_at hl 0 rfl) ?_
      refine lv_iconst (v := 3) hx hb dX11_without_19 (by decide) ?_
      refine lv_icmp_ne (tgt := 27) hx hb dX11_without_20 (by decide) (fun c_3 => ?_) (fun c_3 => ?_)
      · refine lv_bipush (v := 10) hx hb dX11_without_27 (by decide) ?_
        exact y_ir K hP hD hS (Nat.le_of_ble_eq_true rfl) (Nat.le_of_ble_eq_true rfl) (ty := .int) rfl rfl dX11_without_29 (⟨10, rfl, by have h9 : k = 0 ∨ k = 1 ∨ k = 2 ∨ k = 3 ∨ k = 4 := (by omega); rcases h9 with rfl | rfl | rfl | rfl | rfl <;> first | rfl | exact absurd rfl c_1 | exact absurd c_1 (by decide) | exact absurd (by decide) c_1 | exact absurd rfl c_2 | exact absurd c_2 (by decide) | exact absurd (by decide) c_2 | exact absurd rfl c_3 | exact absurd c_3 (by decide) | exact absurd (by decide) c_3, rfl⟩)
      · refine lv_iconst (v := 2) hx hb dX11_without_23 (by decide) ?_
        refine lv_goto (tgt := 29) hx hb dX11_without_24 (by decide) ?_
        exact y_ir K hP hD hS (Nat.le_of_ble_eq_true rfl) (Nat.le_of_ble_eq_true rfl) (ty := .int) rfl rfl dX11_without_29 (⟨2, rfl, by have h9 : k = 0 ∨ k = 1 ∨ k = 2 ∨ k = 3 ∨ k = 4 := (by omega); rcases h9 with rfl | rfl | rfl | rfl | rfl <;> first | rfl | exact absurd rfl c_1 | exact absurd c_1 (by decide) | exact absurd (by decide) c_1 | exact absurd rfl c_2 | exact absurd c_2 (by decide) | exact absurd (by decide) c_2 | exact absurd rfl c_3 | exact absurd c_3 (by decide) | exact absurd (by decide) c_3, rfl⟩)
    · refine lv_iconst (v := 0) hx hb dX11_without_14 (by decide) ?_
      refine lv_goto (tgt := 29) hx hb dX11_without_15 (by decide) ?_
      exact y_ir K hP hD hS (Nat.le_of_ble_eq_true rfl) (Nat.le_of_ble_eq_true rfl) (ty := .int) rfl rfl dX11_without_29 (⟨0, rfl, by have h9 : k = 0 ∨ k = 1 ∨ k = 2 ∨ k = 3 ∨ k = 4 := (by omega); rcases h9 with rfl | rfl | rfl | rfl | rfl <;> first | rfl | exact absurd rfl c_1 | exact absurd c_1 (by decide) | exact absurd (by decide) c_1 | exact absurd rfl c_2 | exact absurd c_2 (by decide) | exact absurd (by decide) c_2, rfl⟩)
  · refine lv_iconst (v := 1) hx hb dX11_without_5 (by decide) ?_
    refine lv_goto (tgt := 29) hx hb dX11_without_6 (by decide) ?_
    exact y_ir K hP hD hS (Nat.le_of_ble_eq_true rfl) (Nat.le_of_ble_eq_true rfl) (ty := .int) rfl rfl dX11_without_29 (⟨1, rfl, by have h9 : k = 0 ∨ k = 1 ∨ k = 2 ∨ k = 3 ∨ k = 4 := (by omega); rcases h9 with rfl | rfl | rfl | rfl | rfl <;> first | rfl | exact absurd rfl c_1 | exact absurd c_1 (by decide) | exact absurd (by decide) c_1, rfl⟩)
set_option maxHeartbeats 4000000 in
set_option maxRecDepth 100000 in
theorem m_clause (l : Launch) (D : va_G) (cy : Nat → ClassId) (sk sv : Nat → Nat) (w : Wd) (tg : Nat → Nat) (y m2 m3 m4 m5 m6 m8 m9 m10 m11 m12 m13 m14 m17 m18 m19 m20 m21 m22 m23 m24 m29 m30 m31 m32 m33 m34 m35 m36 m37 m39 m40 m41 m42 m43 m44 m45 m46 m47 m48 m49 m51 m52 m53 m54 m56 m57 m58 m59 pc ac sc ln sh gf : Nat) (v0 td v27 v50 : Int32) (f24 : Nat → Int32) (f36 : Nat → Int32) (f37 : Nat → Int32) (a0 mt : Nat) (bb : Nat → Int32) (c90 : wd_at w y (.inr (11, [.int v0, .int td, .ref m2, .ref m3, .ref m4, .ref m5, .ref m6, .int (nI pc), .ref m8, .ref m9, .ref m10, .ref m11, .ref m12, .ref m13, .ref m14, .int (nI ac), .int (nI sc), .ref m17, .ref m18, .ref m19, .ref m20, .ref m21, .ref m22, .ref m23, .ref m24, .int (nI ln), .int (nI a0), .int v27, .int (nI 0), .ref m29, .ref m30, .ref m31, .ref m32, .ref m33, .ref m34, .ref m35, .ref m36, .ref m37, .int (nI sh), .ref m39, .ref m40, .ref m41, .ref m42, .ref m43, .ref m44, .ref m45, .ref m46, .ref m47, .ref m48, .ref m49, .int v50, .ref m51, .ref m52, .ref m53, .ref m54, .int (nI gf), .ref m56, .ref m57, .ref m58, .ref m59]))) (c91 : wd_at w m24 (.inl (cy 0, 300, .inl f24))) (c92 : wd_at w m36 (.inl (cy 4, 5, .inl f36))) (c93 : wd_at w m37 (.inl (cy 2, 5, .inl f37)))  (S : Nat → Prop) (s90 : S y) (s91 : S m36) (s92 : S m37) (ty : tg y = 10000) (tm24 : tg m24 = 10124) (tm36 : tg m36 = 10136) (tm37 : tg m37 = 10137) (hln : ln ≤ 300) (ha0 : a0 ≤ ln) (hmt : mt < 32) (htR : tR f36 mt) (hlR : lR f37 bb) : Ct l D cy sk sv yX11_clause wsX11_clause ({ frames := 5, cells := 0, slots := 0, locals := 108 }) [.ref y] w (fun v w1 => ∃ (a1 : Nat) (b1 : Nat) (fv1 : Nat) (g36 : Nat → Int32) (g37 : Nat → Int32), v = none ∧ (fv1 = clF f24 ln a0 mt) ∧ (a0 ≤ a1) ∧ (a1 ≤ ln) ∧ (fv1 < 2000) ∧ (clF f24 ln a0 mt = 0 → a1 = clA f24 ln a0 ∧ tR g36 (clM f24 ln a0 mt) ∧ lR g37 (clB f24 ln a0 bb)) ∧ wd_kp S w w1 ∧ wd_at w1 y (.inr (11, [.int v0, .int td, .ref m2, .ref m3, .ref m4, .ref m5, .ref m6, .int (nI pc), .ref m8, .ref m9, .ref m10, .ref m11, .ref m12, .ref m13, .ref m14, .int (nI ac), .int (nI sc), .ref m17, .ref m18, .ref m19, .ref m20, .ref m21, .ref m22, .ref m23, .ref m24, .int (nI ln), .int (nI a1), .int (nI b1), .int (nI fv1), .ref m29, .ref m30, .ref m31, .ref m32, .ref m33, .ref m34, .ref m35, .ref m36, .ref m37, .int (nI sh), .ref m39, .ref m40, .ref m41, .ref m42, .ref m43, .ref m44, .ref m45, .ref m46, .ref m47, .ref m48, .ref m49, .int v50, .ref m51, .ref m52, .ref m53, .ref m54, .int (nI gf), .ref m56, .ref m57, .ref m58, .ref m59])) ∧ wd_at w1 m36 (.inl (cy 4, 5, .inl g36)) ∧ wd_at w1 m37 (.inl (cy 2, 5, .inl g37))) := by
  refine Ct.by (cc := cX11_clause) (maxL := 3) (ret := none) (by decide +kernel) rfl (Nat.le_of_ble_eq_true rfl) ?_
  intro p e s m args below meth c A Q F hnm K ls hl
  have F : wd_Fx p s m args meth c cX11_clause 3 wsX11_clause RX11 D cy sk sv A := F
  have hl : lv_has ls 3 [(0, .ref y)] := hl
  have hx := F.1.1
  have hb := F.1.2.1
  have hown := F.1.2.2.2.1
  have hts := F.1.2.2.2.2
  intro H locs hP hD hS
  have kp0 : wd_kp S w w := wd_kp.rf
  refine lv_aload_n hx hb dX11_clause_0 rfl (lv_at hl 0 rfl) ?_
  refine x_callV (n := 0) (As := []) (rest := []) F hP hD hS (m_word l D cy sk sv w tg y m2 m3 m4 m5 m6 m8 m9 m10 m11 m12 m13 m14 m17 m18 m19 m20 m21 m22 m23 m24 m29 m30 m31 m32 m33 m34 m35 m36 m37 m39 m40 m41 m42 m43 m44 m45 m46 m47 m48 m49 m51 m52 m53 m54 m56 m57 m58 m59 pc ac sc ln sh gf v0 td v27 v50 f24 a0 0 c90 c91 (fun b => b = y) rfl ty tm24 (by omega) (by omega) (by omega)) gX11_clause_X11_word rfl rfl (by decide +kernel) ⟨(Nat.le_of_ble_eq_true rfl), (Nat.le_of_ble_eq_true rfl)⟩ rfl hl.1 (Nat.le_of_ble_eq_true rfl) c90 rfl dX11_clause_1 rfl ⟨(Nat.le_of_ble_eq_true rfl), (Nat.le_of_ble_eq_true rfl)⟩ (fun v2 w3 hp1 H locs hP hD hS => ?_)
  obtain ⟨ax4, bx5, fvx6, rfl, rfl, rfl, rfl, hz7, hz8, hz9, hz10, kq12, k11⟩ := hp1
  have k13 := kq12.2 _ _ c91 (tg_ne tm24 ty (by decide))
  have k14 := kq12.2 _ _ c92 (tg_ne tm36 ty (by decide))
  have k15 := kq12.2 _ _ c93 (tg_ne tm37 ty (by decide))
  have kp16 := kp0.tr kq12 (fun b9 hm q9 => (fun q9 => q9 ▸ s90) q9)
  refine W.eq (g2 := F0 m 4 ls []) rfl (W.widen (k := 0) (n := 0) (Nat.le_of_ble_eq_true rfl) (Nat.le_of_ble_eq_true rfl) ?_)
  refine lv_iconst (v := 0) hx hb dX11_clause_4 (by decide) ?_
  refine lv_istore_n (lv' := [(1, .int 0), (0, .ref y)]) hx hb dX11_clause_5 rfl hl (by decide) rfl (fun ls hl => ?_)
  have lp6 : ∀ (N : Nat) (k : Nat), (k + N = 5) → (∀ j, j < k → wB f24 (nx f24 ln a0) (wE f24 ln (nx f24 ln a0) - nx f24 ln a0) ((WL 4).getD j 0) = false) → ∀ (ls : Array Slot), lv_has ls 3 [(0, .ref y), (1, .int (nI k))] → Wv p l e ({ frames := 5, cells := 0, slots := 0, locals := 108 }) s m args below meth c D A (0) (0) Q w3 (F0 m 6 ls []) := by
    intro N
    induction N with
    | zero =>
      intro k hN6 hnm6 ls hl H locs hP hD hS
      refine lv_iload_n hx hb dX11_clause_6 rfl (lv_at hl 1 rfl) ?_
      refine lv_iconst (v := 5) hx hb dX11_clause_7 (by decide) ?_
      refine lv_icmp_ge (tgt := 29) hx hb dX11_clause_8 (by decide) (fun c_18 => ?_) (fun c_18 => absurd (nI_le (a := 5) (b := k) (by omega) (by omega)) c_18)
      have hck : (clK f24 ln a0) = k := clK_e ha0 (by omega) hnm6 (Or.inl (by omega))
      refine lv_aload_n hx hb dX11_clause_29 rfl (lv_at hl 0 rfl) ?_
      refine x_get (ref := "NoteHouseModel") F hP k11 rfl (fun _ h => List.mem_cons_of_mem _ (List.mem_append_right _ (h))) 28 (Nat.le_of_ble_eq_true rfl) (List.mem_cons_of_mem _ (List.mem_append_left _ (List.mem_append_left _ (List.mem_of_getElem? (i := 0) rfl)))) rfl rfl dX11_clause_30 ?_
      refine lv_if_le (tgt := 37) hx hb dX11_clause_33 (by decide) (fun c_19 => ?_) (fun c_19 => ?_)
      · have hw0 : ¬ (wE f24 ln (nx f24 ln a0)) = (nx f24 ln a0) := wdF_0.mp (nI_z (by omega) c_19)
        have hwz : wdF f24 ln a0 0 = 0 := wdF_0.mpr hw0
        refine lv_iload_n hx hb dX11_clause_37 rfl (lv_at hl 1 rfl) ?_
        refine lv_iconst (v := 5) hx hb dX11_clause_38 (by decide) ?_
        refine lv_icmp_ne (tgt := 52) hx hb dX11_clause_39 (by decide) (fun c_20 => ?_) (fun c_20 => ?_)
        · have hk5 : k < 5 := by have h9 : ¬ k = 5 := fun q => c_20 (by rw [q]; rfl); omega
          refine lv_aload_n hx hb dX11_clause_52 rfl (lv_at hl 0 rfl) ?_
          refine x_get (ref := "NoteHouseModel") F hP k11 rfl (fun _ h => List.mem_cons_of_mem _ (List.mem_append_right _ (h))) 36 (Nat.le_of_ble_eq_true rfl) (List.mem_cons_of_mem _ (List.mem_append_left _ (List.mem_append_left _ (List.mem_of_getElem? (i := 2) rfl)))) rfl rfl dX11_clause_53 ?_
          refine lv_iload_n hx hb dX11_clause_56 rfl (lv_at hl 1 rfl) ?_
          refine x_zald F hP k14 (vp_in_nI (n := k) (N := 5) (by omega) (by decide)) dX11_clause_57 ?_
          rw [nI_clamp (n := k) (by omega), htR k hk5]
          refine lv_if_eq (tgt := 71) hx hb dX11_clause_58 (by decide) (fun c_21 => ?_) (fun c_21 => ?_)
          · have ht : mt.testBit k = false := by cases h9 : mt.testBit k with | false => rfl | true => rw [h9] at c_21; exact absurd c_21 (by decide)
            refine lv_aload_n hx hb dX11_clause_71 rfl (lv_at hl 0 rfl) ?_
            refine x_get (ref := "NoteHouseModel") F hP k11 rfl (fun _ h => List.mem_cons_of_mem _ (List.mem_append_right _ (h))) 36 (Nat.le_of_ble_eq_true rfl) (List.mem_cons_of_mem _ (List.mem_append_left _ (List.mem_append_left _ (List.mem_of_getElem? (i := 2) rfl)))) rfl rfl dX11_clause_72 ?_
            refine lv_iload_n hx hb dX11_clause_75 rfl (lv_at hl 1 rfl) ?_
            refine lv_iconst (v := 1) hx hb dX11_clause_76 (by decide) ?_
            refine y_zast F hP hD hS k14 (vp_in_nI (n := k) (N := 5) (by omega) (by decide)) dX11_clause_77 (fun w22 ew23 H locs hP hD hS => ?_)
            have k24 := wd_at.pt ew23 k11 (tg_ne ty tm36 (by decide))
            have k25 := wd_at.pt ew23 k13 (tg_ne tm24 tm36 (by decide))
            have k26 : wd_at w22 m36 (.inl (cy 4, 5, .inl (upd f36 (nI k).toNatClampNeg (vp_nar .boolean 1)))) := wd_at.ps ew23 k14
            have k27 := wd_at.pt ew23 k15 (tg_ne tm37 tm36 (by decide))
            have kp28 := kp16.put ew23 s91
            refine lv_iload_n hx hb dX11_clause_78 rfl (lv_at hl 1 rfl) ?_
            refine lv_iconst (v := 4) hx hb dX11_clause_79 (by decide) ?_
            refine lv_icmp_ne (tgt := 95) hx hb dX11_clause_80 (by decide) (fun c_29 => ?_) (fun c_29 => ?_)
            · have h4 : ¬ k = 4 := fun q => c_29 (by rw [q]; rfl)
              have hcq : clQ f24 ln a0 = (wE f24 ln (nx f24 ln a0)) := clQ_e ha0 (by omega)
              refine lv_aload_n hx hb dX11_clause_95 rfl (lv_at hl 0 rfl) ?_
              refine x_callV (n := 0) (As := []) (rest := []) F hP hD hS (m_word l D cy sk sv w22 tg y m2 m3 m4 m5 m6 m8 m9 m10 m11 m12 m13 m14 m17 m18 m19 m20 m21 m22 m23 m24 m29 m30 m31 m32 m33 m34 m35 m36 m37 m39 m40 m41 m42 m43 m44 m45 m46 m47 m48 m49 m51 m52 m53 m54 m56 m57 m58 m59 pc ac sc ln sh gf v0 td (nI (nx f24 ln a0)) v50 f24 (wE f24 ln (nx f24 ln a0)) (wdF f24 ln a0 0) k24 k25 (fun b => b = y) rfl ty tm24 (by omega) (by omega) (by omega)) gX11_clause_X11_word rfl rfl (by decide +kernel) ⟨(Nat.le_of_ble_eq_true rfl), (Nat.le_of_ble_eq_true rfl)⟩ rfl hl.1 (Nat.le_of_ble_eq_true rfl) k24 rfl dX11_clause_96 rfl ⟨(Nat.le_of_ble_eq_true rfl), (Nat.le_of_ble_eq_true rfl)⟩ (fun v31 w32 hp30 H locs hP hD hS => ?_)
              obtain ⟨ax33, bx34, fvx35, rfl, rfl, rfl, rfl, hz36, hz37, hz38, hz39, kq41, k40⟩ := hp30
              have k42 := kq41.2 _ _ k25 (tg_ne tm24 ty (by decide))
              have k43 := kq41.2 _ _ k26 (tg_ne tm36 ty (by decide))
              have k44 := kq41.2 _ _ k27 (tg_ne tm37 ty (by decide))
              have kp45 := kp28.tr kq41 (fun b9 hm q9 => (fun q9 => q9 ▸ s90) q9)
              refine W.eq (g2 := F0 m 99 ls []) rfl (W.widen (k := 0) (n := 0) (Nat.le_of_ble_eq_true rfl) (Nat.le_of_ble_eq_true rfl) ?_)
              refine lv_iconst (v := 0) hx hb dX11_clause_99 (by decide) ?_
              refine lv_istore_n (lv' := [(2, .int 0), (0, .ref y), (1, .int (nI k))]) hx hb dX11_clause_100 rfl hl (by decide) rfl (fun ls hl => ?_)
              have lp101 : ∀ (N : Nat) (b : Nat), (b + N = 3) → (∀ j, j < b → wB f24 (nx f24 ln (wE f24 ln (nx f24 ln a0))) (wE f24 ln (nx f24 ln (wE f24 ln (nx f24 ln a0))) - nx f24 ln (wE f24 ln (nx f24 ln a0))) ((WL 5).getD j 0) = false) → ∀ (ls : Array Slot), lv_has ls 3 [(0, .ref y), (1, .int (nI k)), (2, .int (nI b))] → Wv p l e ({ frames := 5, cells := 0, slots := 0, locals := 108 }) s m args below meth c D A (0) (0) Q w32 (F0 m 101 ls []) := by
                intro N
                induction N with
                | zero =>
                  intro b hN101 hnm101 ls hl H locs hP hD hS
                  refine lv_iload_n hx hb dX11_clause_101 rfl (lv_at hl 2 rfl) ?_
                  refine lv_iconst (v := 3) hx hb dX11_clause_102 (by decide) ?_
                  refine lv_icmp_ge (tgt := 124) hx hb dX11_clause_103 (by decide) (fun c_47 => ?_) (fun c_47 => absurd (nI_le (a := 3) (b := b) (by omega) (by omega)) c_47)
                  have hbk : twK f24 ln (wE f24 ln (nx f24 ln a0)) 5 = b := brK_e (by omega) hnm101 (Or.inl (by omega))
                  refine lv_aload_n hx hb dX11_clause_124 rfl (lv_at hl 0 rfl) ?_
                  refine x_get (ref := "NoteHouseModel") F hP k40 rfl (fun _ h => List.mem_cons_of_mem _ (List.mem_append_right _ (h))) 28 (Nat.le_of_ble_eq_true rfl) (List.mem_cons_of_mem _ (List.mem_append_left _ (List.mem_append_left _ (List.mem_of_getElem? (i := 0) rfl)))) rfl rfl dX11_clause_125 ?_
                  refine lv_if_ne (tgt := 145) hx hb dX11_clause_128 (by decide) (fun cz128 => ?_) (fun cz128 => ?_)
                  · refine lv_aload_n hx hb dX11_clause_145 rfl (lv_at hl 0 rfl) ?_
                    refine x_get (ref := "NoteHouseModel") F hP k40 rfl (fun _ h => List.mem_cons_of_mem _ (List.mem_append_right _ (h))) 37 (Nat.le_of_ble_eq_true rfl) (List.mem_cons_of_mem _ (List.mem_append_left _ (List.mem_append_left _ (List.mem_of_getElem? (i := 3) rfl)))) rfl rfl dX11_clause_146 ?_
                    refine lv_iload_n hx hb dX11_clause_149 rfl (lv_at hl 1 rfl) ?_
                    refine lv_iload_n hx hb dX11_clause_150 rfl (lv_at hl 2 rfl) ?_
                    refine y_iast F hP hD hS k44 (vp_in_nI (n := k) (N := 5) (by omega) (by decide)) dX11_clause_151 (fun w48 ew49 H locs hP hD hS => ?_)
                    have k50 := wd_at.pt ew49 k40 (tg_ne ty tm37 (by decide))
                    have k51 := wd_at.pt ew49 k42 (tg_ne tm24 tm37 (by decide))
                    have k52 := wd_at.pt ew49 k43 (tg_ne tm36 tm37 (by decide))
                    have k53 : wd_at w48 m37 (.inl (cy 2, 5, .inl (upd f37 (nI k).toNatClampNeg (nI b)))) := wd_at.ps ew49 k44
                    have kp54 := kp45.put ew49 s92
                    have hcl : clF f24 ln a0 mt = brF f24 ln (wE f24 ln (nx f24 ln a0)) := by unfold clF; rw [hck, if_neg (by omega), ht, if_neg Bool.false_ne_true, if_neg h4, hcq]
                    have hres : (wdF f24 ln (wE f24 ln (nx f24 ln a0)) (wdF f24 ln a0 0)) = brF f24 ln (wE f24 ln (nx f24 ln a0)) := by have hw2 : wE f24 ln (nx f24 ln (wE f24 ln (nx f24 ln a0))) = nx f24 ln (wE f24 ln (nx f24 ln a0)) := Classical.byContradiction (fun q => cz128 (by rw [hwz, wdF_0.mpr q]; rfl)); rw [hwz, wdF_p hw2, brF_z hw2]
                    exact y_vr K hP hD hS (Nat.le_of_ble_eq_true rfl) (Nat.le_of_ble_eq_true rfl) rfl dX11_clause_152 (⟨(wE f24 ln (nx f24 ln (wE f24 ln (nx f24 ln a0)))), (nx f24 ln (wE f24 ln (nx f24 ln a0))), (wdF f24 ln (wE f24 ln (nx f24 ln a0)) (wdF f24 ln a0 0)), upd f36 (nI k).toNatClampNeg (vp_nar .boolean 1), upd f37 (nI k).toNatClampNeg (nI b), rfl, hres.trans hcl.symm, by omega, by omega, by omega, fun q => by have hb3 : ¬ twK f24 ln (wE f24 ln (nx f24 ln a0)) 5 = 3 := (fun z => by have q2 := hcl.symm.trans q; unfold brF at q2; rw [if_pos z] at q2; omega); refine ⟨?_, ?_, ?_⟩; unfold clA; rw [hck, if_neg h4, hcq, twA_yes (show ¬ twK f24 ln (wE f24 ln (nx f24 ln a0)) 5 = (WL 5).length from hb3)]; unfold clM; rw [hck]; exact htR.u hmt hk5; unfold clB; rw [hck, if_neg h4, hcq, twR_yes (show ¬ twK f24 ln (wE f24 ln (nx f24 ln a0)) 5 = (WL 5).length from hb3), hbk]; exact hlR.u hk5, kp54, k50, k52, k53⟩)
                  · refine lv_iload_n hx hb dX11_clause_131 rfl (lv_at hl 2 rfl) ?_
                    refine lv_iconst (v := 3) hx hb dX11_clause_132 (by decide) ?_
                    refine lv_icmp_ne (tgt := 145) hx hb dX11_clause_133 (by decide) (fun cb133 => ?_) (fun cb133 => ?_)
                    · refine lv_aload_n hx hb dX11_clause_145 rfl (lv_at hl 0 rfl) ?_
                      refine x_get (ref := "NoteHouseModel") F hP k40 rfl (fun _ h => List.mem_cons_of_mem _ (List.mem_append_right _ (h))) 37 (Nat.le_of_ble_eq_true rfl) (List.mem_cons_of_mem _ (List.mem_append_left _ (List.mem_append_left _ (List.mem_of_getElem? (i := 3) rfl)))) rfl rfl dX11_clause_146 ?_
                      refine lv_iload_n hx hb dX11_clause_149 rfl (lv_at hl 1 rfl) ?_
                      refine lv_iload_n hx hb dX11_clause_150 rfl (lv_at hl 2 rfl) ?_
                      refine y_iast F hP hD hS k44 (vp_in_nI (n := k) (N := 5) (by omega) (by decide)) dX11_clause_151 (fun w55 ew56 H locs hP hD hS => ?_)
                      have k57 := wd_at.pt ew56 k40 (tg_ne ty tm37 (by decide))
                      have k58 := wd_at.pt ew56 k42 (tg_ne tm24 tm37 (by decide))
                      have k59 := wd_at.pt ew56 k43 (tg_ne tm36 tm37 (by decide))
                      have k60 : wd_at w55 m37 (.inl (cy 2, 5, .inl (upd f37 (nI k).toNatClampNeg (nI b)))) := wd_at.ps ew56 k44
                      have kp61 := kp45.put ew56 s92
                      have hcl : clF f24 ln a0 mt = brF f24 ln (wE f24 ln (nx f24 ln a0)) := by unfold clF; rw [hck, if_neg (by omega), ht, if_neg Bool.false_ne_true, if_neg h4, hcq]
                      have hres : (wdF f24 ln (wE f24 ln (nx f24 ln a0)) (wdF f24 ln a0 0)) = brF f24 ln (wE f24 ln (nx f24 ln a0)) := by have h8 := (nI_z0 (by omega) cz128); rw [hwz] at h8; rw [hwz, h8]; unfold brF; rw [if_neg (fun q => cb133 (by rw [← hbk, q]; rfl))]
                      exact y_vr K hP hD hS (Nat.le_of_ble_eq_true rfl) (Nat.le_of_ble_eq_true rfl) rfl dX11_clause_152 (⟨(wE f24 ln (nx f24 ln (wE f24 ln (nx f24 ln a0)))), (nx f24 ln (wE f24 ln (nx f24 ln a0))), (wdF f24 ln (wE f24 ln (nx f24 ln a0)) (wdF f24 ln a0 0)), upd f36 (nI k).toNatClampNeg (vp_nar .boolean 1), upd f37 (nI k).toNatClampNeg (nI b), rfl, hres.trans hcl.symm, by omega, by omega, by omega, fun q => by have hb3 : ¬ twK f24 ln (wE f24 ln (nx f24 ln a0)) 5 = 3 := (fun z => by have q2 := hcl.symm.trans q; unfold brF at q2; rw [if_pos z] at q2; omega); refine ⟨?_, ?_, ?_⟩; unfold clA; rw [hck, if_neg h4, hcq, twA_yes (show ¬ twK f24 ln (wE f24 ln (nx f24 ln a0)) 5 = (WL 5).length from hb3)]; unfold clM; rw [hck]; exact htR.u hmt hk5; unfold clB; rw [hck, if_neg h4, hcq, twR_yes (show ¬ twK f24 ln (wE f24 ln (nx f24 ln a0)) 5 = (WL 5).length from hb3), hbk]; exact hlR.u hk5, kp61, k57, k59, k60⟩)
                    · refine lv_aload_n hx hb dX11_clause_136 rfl (lv_at hl 0 rfl) ?_
                      refine lv_iconst (v := 0) hx hb dX11_clause_137 (by decide) ?_
                      refine lv_aload_n hx hb dX11_clause_138 rfl (lv_at hl 0 rfl) ?_
                      refine x_get (ref := "NoteHouseModel") F hP k40 rfl (fun _ h => List.mem_cons_of_mem _ (List.mem_append_right _ (h))) 27 (Nat.le_of_ble_eq_true rfl) (List.mem_cons_of_mem _ (List.mem_append_left _ (List.mem_append_left _ (List.mem_of_getElem? (i := 1) rfl)))) rfl rfl dX11_clause_139 ?_
                      refine x_callV (n := 2) (As := [.int 0, .int (nI (nx f24 ln (wE f24 ln (nx f24 ln a0))))]) (rest := []) F hP hD hS (m_fails l D cy sk sv w32 tg y m2 m3 m4 m5 m6 m8 m9 m10 m11 m12 m13 m14 m17 m18 m19 m20 m21 m22 m23 m24 m29 m30 m31 m32 m33 m34 m35 m36 m37 m39 m40 m41 m42 m43 m44 m45 m46 m47 m48 m49 m51 m52 m53 m54 m56 m57 m58 m59 pc ac sc ln sh gf v0 td (nI (wE f24 ln (nx f24 ln (wE f24 ln (nx f24 ln a0))))) (nI (nx f24 ln (wE f24 ln (nx f24 ln a0)))) v50 (wdF f24 ln (wE f24 ln (nx f24 ln a0)) (wdF f24 ln a0 0)) 0 (nx f24 ln (wE f24 ln (nx f24 ln a0))) k40 (fun b => b = y) rfl ty (by omega) (by omega) (by omega)) gX11_clause_X11_fails rfl rfl (by decide +kernel) ⟨(Nat.le_of_ble_eq_true rfl), (Nat.le_of_ble_eq_true rfl)⟩ rfl hl.1 (Nat.le_of_ble_eq_true rfl) k40 rfl dX11_clause_142 rfl ⟨(Nat.le_of_ble_eq_true rfl), (Nat.le_of_ble_eq_true rfl)⟩ (fun v63 w64 hp62 H locs hP hD hS => ?_)
                      obtain ⟨fwx65, rfl, rfl, hz66, hz67, kq69, k68⟩ := hp62
                      have k70 := kq69.2 _ _ k42 (tg_ne tm24 ty (by decide))
                      have k71 := kq69.2 _ _ k43 (tg_ne tm36 ty (by decide))
                      have k72 := kq69.2 _ _ k44 (tg_ne tm37 ty (by decide))
                      have kp73 := kp45.tr kq69 (fun b9 hm q9 => (fun q9 => q9 ▸ s90) q9)
                      refine W.eq (g2 := F0 m 145 ls []) rfl (W.widen (k := 0) (n := 0) (Nat.le_of_ble_eq_true rfl) (Nat.le_of_ble_eq_true rfl) ?_)
                      refine lv_aload_n hx hb dX11_clause_145 rfl (lv_at hl 0 rfl) ?_
                      refine x_get (ref := "NoteHouseModel") F hP k68 rfl (fun _ h => List.mem_cons_of_mem _ (List.mem_append_right _ (h))) 37 (Nat.le_of_ble_eq_true rfl) (List.mem_cons_of_mem _ (List.mem_append_left _ (List.mem_append_left _ (List.mem_of_getElem? (i := 3) rfl)))) rfl rfl dX11_clause_146 ?_
                      refine lv_iload_n hx hb dX11_clause_149 rfl (lv_at hl 1 rfl) ?_
                      refine lv_iload_n hx hb dX11_clause_150 rfl (lv_at hl 2 rfl) ?_
                      refine y_iast F hP hD hS k72 (vp_in_nI (n := k) (N := 5) (by omega) (by decide)) dX11_clause_151 (fun w74 ew75 H locs hP hD hS => ?_)
                      have k76 := wd_at.pt ew75 k68 (tg_ne ty tm37 (by decide))
                      have k77 := wd_at.pt ew75 k70 (tg_ne tm24 tm37 (by decide))
                      have k78 := wd_at.pt ew75 k71 (tg_ne tm36 tm37 (by decide))
                      have k79 : wd_at w74 m37 (.inl (cy 2, 5, .inl (upd f37 (nI k).toNatClampNeg (nI b)))) := wd_at.ps ew75 k72
                      have kp80 := kp73.put ew75 s92
                      have hcl : clF f24 ln a0 mt = brF f24 ln (wE f24 ln (nx f24 ln a0)) := by unfold clF; rw [hck, if_neg (by omega), ht, if_neg Bool.false_ne_true, if_neg h4, hcq]
                      have hres : (flF (wdF f24 ln (wE f24 ln (nx f24 ln a0)) (wdF f24 ln a0 0)) 0 (nx f24 ln (wE f24 ln (nx f24 ln a0)))) = brF f24 ln (wE f24 ln (nx f24 ln a0)) := by have h8 := (nI_z0 (by omega) cz128); rw [hwz] at h8; rw [hwz, h8, flF_0]; unfold brF; rw [if_pos (hbk.trans ((nI_eq (a := b) (b := 3) (by omega) (by omega)).mp cb133))]
                      exact y_vr K hP hD hS (Nat.le_of_ble_eq_true rfl) (Nat.le_of_ble_eq_true rfl) rfl dX11_clause_152 (⟨(wE f24 ln (nx f24 ln (wE f24 ln (nx f24 ln a0)))), (nx f24 ln (wE f24 ln (nx f24 ln a0))), (flF (wdF f24 ln (wE f24 ln (nx f24 ln a0)) (wdF f24 ln a0 0)) 0 (nx f24 ln (wE f24 ln (nx f24 ln a0)))), upd f36 (nI k).toNatClampNeg (vp_nar .boolean 1), upd f37 (nI k).toNatClampNeg (nI b), rfl, hres.trans hcl.symm, by omega, by omega, by omega, fun q => by have hb3 : ¬ twK f24 ln (wE f24 ln (nx f24 ln a0)) 5 = 3 := (fun z => by have q2 := hcl.symm.trans q; unfold brF at q2; rw [if_pos z] at q2; omega); refine ⟨?_, ?_, ?_⟩; unfold clA; rw [hck, if_neg h4, hcq, twA_yes (show ¬ twK f24 ln (wE f24 ln (nx f24 ln a0)) 5 = (WL 5).length from hb3)]; unfold clM; rw [hck]; exact htR.u hmt hk5; unfold clB; rw [hck, if_neg h4, hcq, twR_yes (show ¬ twK f24 ln (wE f24 ln (nx f24 ln a0)) 5 = (WL 5).length from hb3), hbk]; exact hlR.u hk5, kp80, k76, k78, k79⟩)
                | succ N ih101 =>
                  intro b hN101 hnm101 ls hl H locs hP hD hS
                  refine lv_iload_n hx hb dX11_clause_101 rfl (lv_at hl 2 rfl) ?_
                  refine lv_iconst (v := 3) hx hb dX11_clause_102 (by decide) ?_
                  refine lv_icmp_ge (tgt := 124) hx hb dX11_clause_103 (by decide) (fun c_81 => absurd c_81 (nI_ge (a := b) (b := 3) (by omega) (by omega))) (fun c_81 => ?_)
                  refine lv_aload_n hx hb dX11_clause_106 rfl (lv_at hl 0 rfl) ?_
                  refine lv_aload_n hx hb dX11_clause_107 rfl (lv_at hl 0 rfl) ?_
                  refine lv_iload_n hx hb dX11_clause_108 rfl (lv_at hl 2 rfl) ?_
                  refine x_callV (n := 1) (As := [.int (nI b)]) (rest := [.ref y]) F hP hD hS (m_bearerOf l D cy sk sv w32 y b (by omega)) gX11_clause_X11_bearerOf rfl rfl (by decide +kernel) ⟨(Nat.le_of_ble_eq_true rfl), (Nat.le_of_ble_eq_true rfl)⟩ rfl hl.1 (Nat.le_of_ble_eq_true rfl) k40 rfl dX11_clause_109 rfl ⟨(Nat.le_of_ble_eq_true rfl), (Nat.le_of_ble_eq_true rfl)⟩ (fun v83 w84 hp82 H locs hP hD hS => ?_)
                  obtain ⟨ix85, rfl, rfl, hz86, rfl⟩ := hp82
                  refine W.eq (g2 := F0 m 112 ls [.ref (sk ((WL 5).getD b 0)), .ref y]) rfl (W.widen (k := 0) (n := 0) (Nat.le_of_ble_eq_true rfl) (Nat.le_of_ble_eq_true rfl) ?_)
                  refine x_callV (n := 1) (As := [.ref (sk ((WL 5).getD b 0))]) (rest := []) F hP hD hS (m_is l D cy sk sv w32 tg y m2 m3 m4 m5 m6 m8 m9 m10 m11 m12 m13 m14 m17 m18 m19 m20 m21 m22 m23 m24 m29 m30 m31 m32 m33 m34 m35 m36 m37 m39 m40 m41 m42 m43 m44 m45 m46 m47 m48 m49 m51 m52 m53 m54 m56 m57 m58 m59 pc ac sc ln sh gf v0 td (nI (wdF f24 ln (wE f24 ln (nx f24 ln a0)) (wdF f24 ln a0 0))) v50 f24 (wE f24 ln (nx f24 ln (wE f24 ln (nx f24 ln a0)))) (nx f24 ln (wE f24 ln (nx f24 ln a0))) ((WL 5).getD b 0) k40 k42 ty tm24 (by omega) (by omega) (by omega)) gX11_clause_X11_is rfl rfl (by decide +kernel) ⟨(Nat.le_of_ble_eq_true rfl), (Nat.le_of_ble_eq_true rfl)⟩ rfl hl.1 (Nat.le_of_ble_eq_true rfl) k40 rfl dX11_clause_112 rfl ⟨(Nat.le_of_ble_eq_true rfl), (Nat.le_of_ble_eq_true rfl)⟩ (fun v88 w89 hp87 H locs hP hD hS => ?_)
                  obtain ⟨rx90, rfl, rfl, hz91, rfl⟩ := hp87
                  refine W.eq (g2 := F0 m 115 ls [.int (if wB f24 (nx f24 ln (wE f24 ln (nx f24 ln a0))) ((wE f24 ln (nx f24 ln (wE f24 ln (nx f24 ln a0)))) - (nx f24 ln (wE f24 ln (nx f24 ln a0)))) ((WL 5).getD b 0) then (1 : Int32) else 0)]) rfl (W.widen (k := 0) (n := 0) (Nat.le_of_ble_eq_true rfl) (Nat.le_of_ble_eq_true rfl) ?_)
                  refine lv_if_ne (tgt := 124) hx hb dX11_clause_115 (by decide) (fun cis101 => ?_) (fun cis101 => ?_)
                  · have hbk : twK f24 ln (wE f24 ln (nx f24 ln a0)) 5 = b := brK_e (by omega) hnm101 (Or.inr (wB1 cis101))
                    refine lv_aload_n hx hb dX11_clause_124 rfl (lv_at hl 0 rfl) ?_
                    refine x_get (ref := "NoteHouseModel") F hP k40 rfl (fun _ h => List.mem_cons_of_mem _ (List.mem_append_right _ (h))) 28 (Nat.le_of_ble_eq_true rfl) (List.mem_cons_of_mem _ (List.mem_append_left _ (List.mem_append_left _ (List.mem_of_getElem? (i := 0) rfl)))) rfl rfl dX11_clause_125 ?_
                    refine lv_if_ne (tgt := 145) hx hb dX11_clause_128 (by decide) (fun cz128 => ?_) (fun cz128 => ?_)
                    · refine lv_aload_n hx hb dX11_clause_145 rfl (lv_at hl 0 rfl) ?_
                      refine x_get (ref := "NoteHouseModel") F hP k40 rfl (fun _ h => List.mem_cons_of_mem _ (List.mem_append_right _ (h))) 37 (Nat.le_of_ble_eq_true rfl) (List.mem_cons_of_mem _ (List.mem_append_left _ (List.mem_append_left _ (List.mem_of_getElem? (i := 3) rfl)))) rfl rfl dX11_clause_146 ?_
                      refine lv_iload_n hx hb dX11_clause_149 rfl (lv_at hl 1 rfl) ?_
                      refine lv_iload_n hx hb dX11_clause_150 rfl (lv_at hl 2 rfl) ?_
                      refine y_iast F hP hD hS k44 (vp_in_nI (n := k) (N := 5) (by omega) (by decide)) dX11_clause_151 (fun w92 ew93 H locs hP hD hS => ?_)
                      have k94 := wd_at.pt ew93 k40 (tg_ne ty tm37 (by decide))
                      have k95 := wd_at.pt ew93 k42 (tg_ne tm24 tm37 (by decide))
                      have k96 := wd_at.pt ew93 k43 (tg_ne tm36 tm37 (by decide))
                      have k97 : wd_at w92 m37 (.inl (cy 2, 5, .inl (upd f37 (nI k).toNatClampNeg (nI b)))) := wd_at.ps ew93 k44
                      have kp98 := kp45.put ew93 s92
                      have hcl : clF f24 ln a0 mt = brF f24 ln (wE f24 ln (nx f24 ln a0)) := by unfold clF; rw [hck, if_neg (by omega), ht, if_neg Bool.false_ne_true, if_neg h4, hcq]
                      have hres : (wdF f24 ln (wE f24 ln (nx f24 ln a0)) (wdF f24 ln a0 0)) = brF f24 ln (wE f24 ln (nx f24 ln a0)) := by have hw2 : wE f24 ln (nx f24 ln (wE f24 ln (nx f24 ln a0))) = nx f24 ln (wE f24 ln (nx f24 ln a0)) := Classical.byContradiction (fun q => cz128 (by rw [hwz, wdF_0.mpr q]; rfl)); rw [hwz, wdF_p hw2, brF_z hw2]
                      exact y_vr K hP hD hS (Nat.le_of_ble_eq_true rfl) (Nat.le_of_ble_eq_true rfl) rfl dX11_clause_152 (⟨(wE f24 ln (nx f24 ln (wE f24 ln (nx f24 ln a0)))), (nx f24 ln (wE f24 ln (nx f24 ln a0))), (wdF f24 ln (wE f24 ln (nx f24 ln a0)) (wdF f24 ln a0 0)), upd f36 (nI k).toNatClampNeg (vp_nar .boolean 1), upd f37 (nI k).toNatClampNeg (nI b), rfl, hres.trans hcl.symm, by omega, by omega, by omega, fun q => by have hb3 : ¬ twK f24 ln (wE f24 ln (nx f24 ln a0)) 5 = 3 := (fun z => by have q2 := hcl.symm.trans q; unfold brF at q2; rw [if_pos z] at q2; omega); refine ⟨?_, ?_, ?_⟩; unfold clA; rw [hck, if_neg h4, hcq, twA_yes (show ¬ twK f24 ln (wE f24 ln (nx f24 ln a0)) 5 = (WL 5).length from hb3)]; unfold clM; rw [hck]; exact htR.u hmt hk5; unfold clB; rw [hck, if_neg h4, hcq, twR_yes (show ¬ twK f24 ln (wE f24 ln (nx f24 ln a0)) 5 = (WL 5).length from hb3), hbk]; exact hlR.u hk5, kp98, k94, k96, k97⟩)
                    · refine lv_iload_n hx hb dX11_clause_131 rfl (lv_at hl 2 rfl) ?_
                      refine lv_iconst (v := 3) hx hb dX11_clause_132 (by decide) ?_
                      refine lv_icmp_ne (tgt := 145) hx hb dX11_clause_133 (by decide) (fun cb133 => ?_) (fun cb133 => ?_)
                      · refine lv_aload_n hx hb dX11_clause_145 rfl (lv_at hl 0 rfl) ?_
                        refine x_get (ref := "NoteHouseModel") F hP k40 rfl (fun _ h => List.mem_cons_of_mem _ (List.mem_append_right _ (h))) 37 (Nat.le_of_ble_eq_true rfl) (List.mem_cons_of_mem _ (List.mem_append_left _ (List.mem_append_left _ (List.mem_of_getElem? (i := 3) rfl)))) rfl rfl dX11_clause_146 ?_
                        refine lv_iload_n hx hb dX11_clause_149 rfl (lv_at hl 1 rfl) ?_
                        refine lv_iload_n hx hb dX11_clause_150 rfl (lv_at hl 2 rfl) ?_
                        refine y_iast F hP hD hS k44 (vp_in_nI (n := k) (N := 5) (by omega) (by decide)) dX11_clause_151 (fun w99 ew100 H locs hP hD hS => ?_)
                        have k101 := wd_at.pt ew100 k40 (tg_ne ty tm37 (by decide))
                        have k102 := wd_at.pt ew100 k42 (tg_ne tm24 tm37 (by decide))
                        have k103 := wd_at.pt ew100 k43 (tg_ne tm36 tm37 (by decide))
                        have k104 : wd_at w99 m37 (.inl (cy 2, 5, .inl (upd f37 (nI k).toNatClampNeg (nI b)))) := wd_at.ps ew100 k44
                        have kp105 := kp45.put ew100 s92
                        have hcl : clF f24 ln a0 mt = brF f24 ln (wE f24 ln (nx f24 ln a0)) := by unfold clF; rw [hck, if_neg (by omega), ht, if_neg Bool.false_ne_true, if_neg h4, hcq]
                        have hres : (wdF f24 ln (wE f24 ln (nx f24 ln a0)) (wdF f24 ln a0 0)) = brF f24 ln (wE f24 ln (nx f24 ln a0)) := by have h8 := (nI_z0 (by omega) cz128); rw [hwz] at h8; rw [hwz, h8]; unfold brF; rw [if_neg (fun q => cb133 (by rw [← hbk, q]; rfl))]
                        exact y_vr K hP hD hS (Nat.le_of_ble_eq_true rfl) (Nat.le_of_ble_eq_true rfl) rfl dX11_clause_152 (⟨(wE f24 ln (nx f24 ln (wE f24 ln (nx f24 ln a0)))), (nx f24 ln (wE f24 ln (nx f24 ln a0))), (wdF f24 ln (wE f24 ln (nx f24 ln a0)) (wdF f24 ln a0 0)), upd f36 (nI k).toNatClampNeg (vp_nar .boolean 1), upd f37 (nI k).toNatClampNeg (nI b), rfl, hres.trans hcl.symm, by omega, by omega, by omega, fun q => by have hb3 : ¬ twK f24 ln (wE f24 ln (nx f24 ln a0)) 5 = 3 := (fun z => by have q2 := hcl.symm.trans q; unfold brF at q2; rw [if_pos z] at q2; omega); refine ⟨?_, ?_, ?_⟩; unfold clA; rw [hck, if_neg h4, hcq, twA_yes (show ¬ twK f24 ln (wE f24 ln (nx f24 ln a0)) 5 = (WL 5).length from hb3)]; unfold clM; rw [hck]; exact htR.u hmt hk5; unfold clB; rw [hck, if_neg h4, hcq, twR_yes (show ¬ twK f24 ln (wE f24 ln (nx f24 ln a0)) 5 = (WL 5).length from hb3), hbk]; exact hlR.u hk5, kp105, k101, k103, k104⟩)
                      · refine lv_aload_n hx hb dX11_clause_136 rfl (lv_at hl 0 rfl) ?_
                        refine lv_iconst (v := 0) hx hb dX11_clause_137 (by decide) ?_
                        refine lv_aload_n hx hb dX11_clause_138 rfl (lv_at hl 0 rfl) ?_
                        refine x_get (ref := "NoteHouseModel") F hP k40 rfl (fun _ h => List.mem_cons_of_mem _ (List.mem_append_right _ (h))) 27 (Nat.le_of_ble_eq_true rfl) (List.mem_cons_of_mem _ (List.mem_append_left _ (List.mem_append_left _ (List.mem_of_getElem? (i := 1) rfl)))) rfl rfl dX11_clause_139 ?_
                        refine x_callV (n := 2) (As := [.int 0, .int (nI (nx f24 ln (wE f24 ln (nx f24 ln a0))))]) (rest := []) F hP hD hS (m_fails l D cy sk sv w32 tg y m2 m3 m4 m5 m6 m8 m9 m10 m11 m12 m13 m14 m17 m18 m19 m20 m21 m22 m23 m24 m29 m30 m31 m32 m33 m34 m35 m36 m37 m39 m40 m41 m42 m43 m44 m45 m46 m47 m48 m49 m51 m52 m53 m54 m56 m57 m58 m59 pc ac sc ln sh gf v0 td (nI (wE f24 ln (nx f24 ln (wE f24 ln (nx f24 ln a0))))) (nI (nx f24 ln (wE f24 ln (nx f24 ln a0)))) v50 (wdF f24 ln (wE f24 ln (nx f24 ln a0)) (wdF f24 ln a0 0)) 0 (nx f24 ln (wE f24 ln (nx f24 ln a0))) k40 (fun b => b = y) rfl ty (by omega) (by omega) (by omega)) gX11_clause_X11_fails rfl rfl (by decide +kernel) ⟨(Nat.le_of_ble_eq_true rfl), (Nat.le_of_ble_eq_true rfl)⟩ rfl hl.1 (Nat.le_of_ble_eq_true rfl) k40 rfl dX11_clause_142 rfl ⟨(Nat.le_of_ble_eq_true rfl), (Nat.le_of_ble_eq_true rfl)⟩ (fun v107 w108 hp106 H locs hP hD hS => ?_)
                        obtain ⟨fwx109, rfl, rfl, hz110, hz111, kq113, k112⟩ := hp106
                        have k114 := kq113.2 _ _ k42 (tg_ne tm24 ty (by decide))
                        have k115 := kq113.2 _ _ k43 (tg_ne tm36 ty (by decide))
                        have k116 := kq113.2 _ _ k44 (tg_ne tm37 ty (by decide))
                        have kp117 := kp45.tr kq113 (fun b9 hm q9 => (fun q9 => q9 ▸ s90) q9)
                        refine W.eq (g2 := F0 m 145 ls []) rfl (W.widen (k := 0) (n := 0) (Nat.le_of_ble_eq_true rfl) (Nat.le_of_ble_eq_true rfl) ?_)
                        refine lv_aload_n hx hb dX11_clause_145 rfl (lv_at hl 0 rfl) ?_
                        refine x_get (ref := "NoteHouseModel") F hP k112 rfl (fun _ h => List.mem_cons_of_mem _ (List.mem_append_right _ (h))) 37 (Nat.le_of_ble_eq_true rfl) (List.mem_cons_of_mem _ (List.mem_append_left _ (List.mem_append_left _ (List.mem_of_getElem? (i := 3) rfl)))) rfl rfl dX11_clause_146 ?_
                        refine lv_iload_n hx hb dX11_clause_149 rfl (lv_at hl 1 rfl) ?_
                        refine lv_iload_n hx hb dX11_clause_150 rfl (lv_at hl 2 rfl) ?_
                        refine y_iast F hP hD hS k116 (vp_in_nI (n := k) (N := 5) (by omega) (by decide)) dX11_clause_151 (fun w118 ew119 H locs hP hD hS => ?_)
                        have k120 := wd_at.pt ew119 k112 (tg_ne ty tm37 (by decide))
                        have k121 := wd_at.pt ew119 k114 (tg_ne tm24 tm37 (by decide))
                        have k122 := wd_at.pt ew119 k115 (tg_ne tm36 tm37 (by decide))
                        have k123 : wd_at w118 m37 (.inl (cy 2, 5, .inl (upd f37 (nI k).toNatClampNeg (nI b)))) := wd_at.ps ew119 k116
                        have kp124 := kp117.put ew119 s92
                        have hcl : clF f24 ln a0 mt = brF f24 ln (wE f24 ln (nx f24 ln a0)) := by unfold clF; rw [hck, if_neg (by omega), ht, if_neg Bool.false_ne_true, if_neg h4, hcq]
                        have hres : (flF (wdF f24 ln (wE f24 ln (nx f24 ln a0)) (wdF f24 ln a0 0)) 0 (nx f24 ln (wE f24 ln (nx f24 ln a0)))) = brF f24 ln (wE f24 ln (nx f24 ln a0)) := by have h8 := (nI_z0 (by omega) cz128); rw [hwz] at h8; rw [hwz, h8, flF_0]; unfold brF; rw [if_pos (hbk.trans ((nI_eq (a := b) (b := 3) (by omega) (by omega)).mp cb133))]
                        exact y_vr K hP hD hS (Nat.le_of_ble_eq_true rfl) (Nat.le_of_ble_eq_true rfl) rfl dX11_clause_152 (⟨(wE f24 ln (nx f24 ln (wE f24 ln (nx f24 ln a0)))), (nx f24 ln (wE f24 ln (nx f24 ln a0))), (flF (wdF f24 ln (wE f24 ln (nx f24 ln a0)) (wdF f24 ln a0 0)) 0 (nx f24 ln (wE f24 ln (nx f24 ln a0)))), upd f36 (nI k).toNatClampNeg (vp_nar .boolean 1), upd f37 (nI k).toNatClampNeg (nI b), rfl, hres.trans hcl.symm, by omega, by omega, by omega, fun q => by have hb3 : ¬ twK f24 ln (wE f24 ln (nx f24 ln a0)) 5 = 3 := (fun z => by have q2 := hcl.symm.trans q; unfold brF at q2; rw [if_pos z] at q2; omega); refine ⟨?_, ?_, ?_⟩; unfold clA; rw [hck, if_neg h4, hcq, twA_yes (show ¬ twK f24 ln (wE f24 ln (nx f24 ln a0)) 5 = (WL 5).length from hb3)]; unfold clM; rw [hck]; exact htR.u hmt hk5; unfold clB; rw [hck, if_neg h4, hcq, twR_yes (show ¬ twK f24 ln (wE f24 ln (nx f24 ln a0)) 5 = (WL 5).length from hb3), hbk]; exact hlR.u hk5, kp124, k120, k122, k123⟩)
                  · refine lv_iinc (v := nI (b + 1)) (lv' := [(2, .int (nI (b + 1))), (0, .ref y), (1, .int (nI k))]) hx hb dX11_clause_118 hl (k := 2) rfl (nI_1 b) (by decide) rfl (fun ls hl => ?_)
                    refine lv_goto (tgt := 101) hx hb dX11_clause_121 (by decide) ?_
                    exact ih101 (b + 1)  (by omega) (lt_s (p := fun j => wB f24 (nx f24 ln (wE f24 ln (nx f24 ln a0))) (wE f24 ln (nx f24 ln (wE f24 ln (nx f24 ln a0))) - nx f24 ln (wE f24 ln (nx f24 ln a0))) ((WL 5).getD j 0) = false) hnm101 (wB0 cis101))   ls (lv_sub hl [1, 2, 0] rfl) H locs hP hD hS
              exact lp101 _ 0  (Nat.zero_add 3) (fun j hj => absurd hj (Nat.not_lt_zero j))   ls (lv_sub hl [1, 2, 0] rfl) H locs hP hD hS
            · have h4 : k = 4 := (nI_eq (a := k) (b := 4) (by omega) (by omega)).mp c_29
              have hcq : clQ f24 ln a0 = (wE f24 ln (nx f24 ln a0)) := clQ_e ha0 (by omega)
              refine lv_aload_n hx hb dX11_clause_83 rfl (lv_at hl 0 rfl) ?_
              refine x_get (ref := "NoteHouseModel") F hP k24 rfl (fun _ h => List.mem_cons_of_mem _ (List.mem_append_right _ (h))) 37 (Nat.le_of_ble_eq_true rfl) (List.mem_cons_of_mem _ (List.mem_append_left _ (List.mem_append_left _ (List.mem_of_getElem? (i := 3) rfl)))) rfl rfl dX11_clause_84 ?_
              refine lv_iconst (v := 4) hx hb dX11_clause_87 (by decide) ?_
              refine lv_aload_n hx hb dX11_clause_88 rfl (lv_at hl 0 rfl) ?_
              refine lv_iconst (v := 2) hx hb dX11_clause_89 (by decide) ?_
              refine x_callV (n := 1) (As := [.int 2]) (rest := [.int 4, .ref m37]) F hP hD hS (m_number l D cy sk sv w22 tg y m2 m3 m4 m5 m6 m8 m9 m10 m11 m12 m13 m14 m17 m18 m19 m20 m21 m22 m23 m24 m29 m30 m31 m32 m33 m34 m35 m36 m37 m39 m40 m41 m42 m43 m44 m45 m46 m47 m48 m49 m51 m52 m53 m54 m56 m57 m58 m59 pc ac sc ln sh gf v0 td (nI (nx f24 ln a0)) v50 f24 (wE f24 ln (nx f24 ln a0)) (wdF f24 ln a0 0) 2 k24 k25 (fun b => b = y) rfl ty tm24 (by omega) (by omega) (by omega) (by omega)) gX11_clause_X11_number rfl rfl (by decide +kernel) ⟨(Nat.le_of_ble_eq_true rfl), (Nat.le_of_ble_eq_true rfl)⟩ rfl hl.1 (Nat.le_of_ble_eq_true rfl) k24 rfl dX11_clause_90 rfl ⟨(Nat.le_of_ble_eq_true rfl), (Nat.le_of_ble_eq_true rfl)⟩ (fun v126 w127 hp125 H locs hP hD hS => ?_)
              obtain ⟨ax128, bx129, fvx130, rx131, rfl, rfl, rfl, rfl, rfl, hz132, hz133, hz134, hz135, kq137, k136⟩ := hp125
              have k138 := kq137.2 _ _ k25 (tg_ne tm24 ty (by decide))
              have k139 := kq137.2 _ _ k26 (tg_ne tm36 ty (by decide))
              have k140 := kq137.2 _ _ k27 (tg_ne tm37 ty (by decide))
              have kp141 := kp28.tr kq137 (fun b9 hm q9 => (fun q9 => q9 ▸ s90) q9)
              refine W.eq (g2 := F0 m 93 ls [.int (nI (numN f24 (nx f24 ln (wE f24 ln (nx f24 ln a0))) (min ((dE f24 ln (nx f24 ln (wE f24 ln (nx f24 ln a0)))) - (nx f24 ln (wE f24 ln (nx f24 ln a0)))) 2))), .int 4, .ref m37]) rfl (W.widen (k := 0) (n := 0) (Nat.le_of_ble_eq_true rfl) (Nat.le_of_ble_eq_true rfl) ?_)
              refine y_iast F hP hD hS k140 (vp_in_iff.mpr ⟨by decide, by decide⟩) dX11_clause_93 (fun w142 ew143 H locs hP hD hS => ?_)
              have k144 := wd_at.pt ew143 k136 (tg_ne ty tm37 (by decide))
              have k145 := wd_at.pt ew143 k138 (tg_ne tm24 tm37 (by decide))
              have k146 := wd_at.pt ew143 k139 (tg_ne tm36 tm37 (by decide))
              have k147 : wd_at w142 m37 (.inl (cy 2, 5, .inl (upd f37 (4 : Int32).toNatClampNeg (nI (numN f24 (nx f24 ln (wE f24 ln (nx f24 ln a0))) (min ((dE f24 ln (nx f24 ln (wE f24 ln (nx f24 ln a0)))) - (nx f24 ln (wE f24 ln (nx f24 ln a0)))) 2)))))) := wd_at.ps ew143 k140
              have kp148 := kp141.put ew143 s92
              have hcl : clF f24 ln a0 mt = hdF f24 ln (wE f24 ln (nx f24 ln a0)) := by unfold clF; rw [hck, if_neg (by omega), ht, if_neg Bool.false_ne_true, if_pos h4, hcq]
              obtain ⟨en1, en2⟩ := nuF_e (B := f24) (n := ln) (q := (wE f24 ln (nx f24 ln a0))) (by omega)
              exact y_vr K hP hD hS (Nat.le_of_ble_eq_true rfl) (Nat.le_of_ble_eq_true rfl) rfl dX11_clause_94 (⟨(dE f24 ln (nx f24 ln (wE f24 ln (nx f24 ln a0)))), (nx f24 ln (wE f24 ln (nx f24 ln a0))), (nuF f24 ln (wE f24 ln (nx f24 ln a0)) 2 (wdF f24 ln a0 0)), upd f36 (nI k).toNatClampNeg (vp_nar .boolean 1), upd f37 (4 : Int32).toNatClampNeg (nI (numN f24 (nx f24 ln (wE f24 ln (nx f24 ln a0))) (min ((dE f24 ln (nx f24 ln (wE f24 ln (nx f24 ln a0)))) - (nx f24 ln (wE f24 ln (nx f24 ln a0)))) 2))), rfl, by rw [hwz, en1, hcl], by omega, by omega, by omega, fun q => by obtain ⟨e1, e2⟩ := en2 (hcl.symm.trans q); refine ⟨?_, ?_, ?_⟩; unfold clA; rw [hck, if_pos h4, hcq, e1]; unfold clM; rw [hck]; exact htR.u hmt hk5; unfold clB; rw [hck, if_pos h4, hcq, e2]; exact hlR.u (k := 4) (by decide), kp148, k144, k146, k147⟩)
          · have ht : mt.testBit k = true := by cases h9 : mt.testBit k with | true => rfl | false => rw [h9] at c_21; exact absurd rfl c_21
            refine lv_aload_n hx hb dX11_clause_61 rfl (lv_at hl 0 rfl) ?_
            refine lv_iconst (v := 2) hx hb dX11_clause_62 (by decide) ?_
            refine lv_aload_n hx hb dX11_clause_63 rfl (lv_at hl 0 rfl) ?_
            refine x_get (ref := "NoteHouseModel") F hP k11 rfl (fun _ h => List.mem_cons_of_mem _ (List.mem_append_right _ (h))) 27 (Nat.le_of_ble_eq_true rfl) (List.mem_cons_of_mem _ (List.mem_append_left _ (List.mem_append_left _ (List.mem_of_getElem? (i := 1) rfl)))) rfl rfl dX11_clause_64 ?_
            refine x_callV (n := 2) (As := [.int 2, .int (nI (nx f24 ln a0))]) (rest := []) F hP hD hS (m_fails l D cy sk sv w3 tg y m2 m3 m4 m5 m6 m8 m9 m10 m11 m12 m13 m14 m17 m18 m19 m20 m21 m22 m23 m24 m29 m30 m31 m32 m33 m34 m35 m36 m37 m39 m40 m41 m42 m43 m44 m45 m46 m47 m48 m49 m51 m52 m53 m54 m56 m57 m58 m59 pc ac sc ln sh gf v0 td (nI (wE f24 ln (nx f24 ln a0))) (nI (nx f24 ln a0)) v50 (wdF f24 ln a0 0) 2 (nx f24 ln a0) k11 (fun b => b = y) rfl ty (by omega) (by omega) (by omega)) gX11_clause_X11_fails rfl rfl (by decide +kernel) ⟨(Nat.le_of_ble_eq_true rfl), (Nat.le_of_ble_eq_true rfl)⟩ rfl hl.1 (Nat.le_of_ble_eq_true rfl) k11 rfl dX11_clause_67 rfl ⟨(Nat.le_of_ble_eq_true rfl), (Nat.le_of_ble_eq_true rfl)⟩ (fun v150 w151 hp149 H locs hP hD hS => ?_)
            obtain ⟨fwx152, rfl, rfl, hz153, hz154, kq156, k155⟩ := hp149
            have k157 := kq156.2 _ _ k13 (tg_ne tm24 ty (by decide))
            have k158 := kq156.2 _ _ k14 (tg_ne tm36 ty (by decide))
            have k159 := kq156.2 _ _ k15 (tg_ne tm37 ty (by decide))
            have kp160 := kp16.tr kq156 (fun b9 hm q9 => (fun q9 => q9 ▸ s90) q9)
            refine W.eq (g2 := F0 m 70 ls []) rfl (W.widen (k := 0) (n := 0) (Nat.le_of_ble_eq_true rfl) (Nat.le_of_ble_eq_true rfl) ?_)
            exact y_vr K hP hD hS (Nat.le_of_ble_eq_true rfl) (Nat.le_of_ble_eq_true rfl) rfl dX11_clause_70 (⟨(wE f24 ln (nx f24 ln a0)), (nx f24 ln a0), (flF (wdF f24 ln a0 0) 2 (nx f24 ln a0)), f36, f37, rfl, by rw [hwz, flF_0]; unfold clF; rw [hck, if_neg (by omega), ht, if_pos rfl], by omega, by omega, by omega, fun q => absurd q (by unfold clF; rw [hck, if_neg (by omega), ht, if_pos rfl]; omega), kp160, k155, k158, k159⟩)
        · have hk5 : k = 5 := (nI_eq (a := k) (b := 5) (by omega) (by omega)).mp c_20
          refine lv_aload_n hx hb dX11_clause_42 rfl (lv_at hl 0 rfl) ?_
          refine lv_iconst (v := 0) hx hb dX11_clause_43 (by decide) ?_
          refine lv_aload_n hx hb dX11_clause_44 rfl (lv_at hl 0 rfl) ?_
          refine x_get (ref := "NoteHouseModel") F hP k11 rfl (fun _ h => List.mem_cons_of_mem _ (List.mem_append_right _ (h))) 27 (Nat.le_of_ble_eq_true rfl) (List.mem_cons_of_mem _ (List.mem_append_left _ (List.mem_append_left _ (List.mem_of_getElem? (i := 1) rfl)))) rfl rfl dX11_clause_45 ?_
          refine x_callV (n := 2) (As := [.int 0, .int (nI (nx f24 ln a0))]) (rest := []) F hP hD hS (m_fails l D cy sk sv w3 tg y m2 m3 m4 m5 m6 m8 m9 m10 m11 m12 m13 m14 m17 m18 m19 m20 m21 m22 m23 m24 m29 m30 m31 m32 m33 m34 m35 m36 m37 m39 m40 m41 m42 m43 m44 m45 m46 m47 m48 m49 m51 m52 m53 m54 m56 m57 m58 m59 pc ac sc ln sh gf v0 td (nI (wE f24 ln (nx f24 ln a0))) (nI (nx f24 ln a0)) v50 (wdF f24 ln a0 0) 0 (nx f24 ln a0) k11 (fun b => b = y) rfl ty (by omega) (by omega) (by omega)) gX11_clause_X11_fails rfl rfl (by decide +kernel) ⟨(Nat.le_of_ble_eq_true rfl), (Nat.le_of_ble_eq_true rfl)⟩ rfl hl.1 (Nat.le_of_ble_eq_true rfl) k11 rfl dX11_clause_48 rfl ⟨(Nat.le_of_ble_eq_true rfl), (Nat.le_of_ble_eq_true rfl)⟩ (fun v162 w163 hp161 H locs hP hD hS => ?_)
          obtain ⟨fwx164, rfl, rfl, hz165, hz166, kq168, k167⟩ := hp161
          have k169 := kq168.2 _ _ k13 (tg_ne tm24 ty (by decide))
          have k170 := kq168.2 _ _ k14 (tg_ne tm36 ty (by decide))
          have k171 := kq168.2 _ _ k15 (tg_ne tm37 ty (by decide))
          have kp172 := kp16.tr kq168 (fun b9 hm q9 => (fun q9 => q9 ▸ s90) q9)
          refine W.eq (g2 := F0 m 51 ls []) rfl (W.widen (k := 0) (n := 0) (Nat.le_of_ble_eq_true rfl) (Nat.le_of_ble_eq_true rfl) ?_)
          exact y_vr K hP hD hS (Nat.le_of_ble_eq_true rfl) (Nat.le_of_ble_eq_true rfl) rfl dX11_clause_51 (⟨(wE f24 ln (nx f24 ln a0)), (nx f24 ln a0), (flF (wdF f24 ln a0 0) 0 (nx f24 ln a0)), f36, f37, rfl, by rw [hwz, flF_0]; unfold clF; rw [if_pos (hck.trans hk5)], by omega, by omega, by omega, fun q => absurd q (by unfold clF; rw [if_pos (hck.trans hk5)]; omega), kp172, k167, k170, k171⟩)
      · have hw0 : (wE f24 ln (nx f24 ln a0)) = (nx f24 ln a0) := Classical.byContradiction (fun q => c_19 (by rw [wdF_0.mpr q]; decide))
        exact y_vr K hP hD hS (Nat.le_of_ble_eq_true rfl) (Nat.le_of_ble_eq_true rfl) rfl dX11_clause_36 (⟨(wE f24 ln (nx f24 ln a0)), (nx f24 ln a0), (wdF f24 ln a0 0), f36, f37, rfl, by rw [wdF_p hw0]; unfold clF; rw [if_pos (clK_z ha0 hw0)], by omega, by omega, by omega, fun q => absurd q (by unfold clF; rw [if_pos (clK_z ha0 hw0)]; omega), kp16, k11, k14, k15⟩)
    | succ N ih6 =>
      intro k hN6 hnm6 ls hl H locs hP hD hS
      refine lv_iload_n hx hb dX11_clause_6 rfl (lv_at hl 1 rfl) ?_
      refine lv_iconst (v := 5) hx hb dX11_clause_7 (by decide) ?_
      refine lv_icmp_ge (tgt := 29) hx hb dX11_clause_8 (by decide) (fun c_173 => absurd c_173 (nI_ge (a := k) (b := 5) (by omega) (by omega))) (fun c_173 => ?_)
      refine lv_aload_n hx hb dX11_clause_11 rfl (lv_at hl 0 rfl) ?_
      refine lv_aload_n hx hb dX11_clause_12 rfl (lv_at hl 0 rfl) ?_
      refine lv_iload_n hx hb dX11_clause_13 rfl (lv_at hl 1 rfl) ?_
      refine x_callV (n := 1) (As := [.int (nI k)]) (rest := [.ref y]) F hP hD hS (m_kindOfS l D cy sk sv w3 y k (by omega)) gX11_clause_X11_kindOf rfl rfl (by decide +kernel) ⟨(Nat.le_of_ble_eq_true rfl), (Nat.le_of_ble_eq_true rfl)⟩ rfl hl.1 (Nat.le_of_ble_eq_true rfl) k11 rfl dX11_clause_14 rfl ⟨(Nat.le_of_ble_eq_true rfl), (Nat.le_of_ble_eq_true rfl)⟩ (fun v175 w176 hp174 H locs hP hD hS => ?_)
      obtain ⟨ix177, rfl, rfl, hz178, rfl⟩ := hp174
      refine W.eq (g2 := F0 m 17 ls [.ref (sk ((WL 4).getD k 0)), .ref y]) rfl (W.widen (k := 0) (n := 0) (Nat.le_of_ble_eq_true rfl) (Nat.le_of_ble_eq_true rfl) ?_)
      refine x_callV (n := 1) (As := [.ref (sk ((WL 4).getD k 0))]) (rest := []) F hP hD hS (m_is l D cy sk sv w3 tg y m2 m3 m4 m5 m6 m8 m9 m10 m11 m12 m13 m14 m17 m18 m19 m20 m21 m22 m23 m24 m29 m30 m31 m32 m33 m34 m35 m36 m37 m39 m40 m41 m42 m43 m44 m45 m46 m47 m48 m49 m51 m52 m53 m54 m56 m57 m58 m59 pc ac sc ln sh gf v0 td (nI (wdF f24 ln a0 0)) v50 f24 (wE f24 ln (nx f24 ln a0)) (nx f24 ln a0) ((WL 4).getD k 0) k11 k13 ty tm24 (by omega) (by omega) (by omega)) gX11_clause_X11_is rfl rfl (by decide +kernel) ⟨(Nat.le_of_ble_eq_true rfl), (Nat.le_of_ble_eq_true rfl)⟩ rfl hl.1 (Nat.le_of_ble_eq_true rfl) k11 rfl dX11_clause_17 rfl ⟨(Nat.le_of_ble_eq_true rfl), (Nat.le_of_ble_eq_true rfl)⟩ (fun v180 w181 hp179 H locs hP hD hS => ?_)
      obtain ⟨rx182, rfl, rfl, hz183, rfl⟩ := hp179
      refine W.eq (g2 := F0 m 20 ls [.int (if wB f24 (nx f24 ln a0) ((wE f24 ln (nx f24 ln a0)) - (nx f24 ln a0)) ((WL 4).getD k 0) then (1 : Int32) else 0)]) rfl (W.widen (k := 0) (n := 0) (Nat.le_of_ble_eq_true rfl) (Nat.le_of_ble_eq_true rfl) ?_)
      refine lv_if_ne (tgt := 29) hx hb dX11_clause_20 (by decide) (fun cis6 => ?_) (fun cis6 => ?_)
      · have hck : (clK f24 ln a0) = k := clK_e ha0 (by omega) hnm6 (Or.inr (wB1 cis6))
        refine lv_aload_n hx hb dX11_clause_29 rfl (lv_at hl 0 rfl) ?_
        refine x_get (ref := "NoteHouseModel") F hP k11 rfl (fun _ h => List.mem_cons_of_mem _ (List.mem_append_right _ (h))) 28 (Nat.le_of_ble_eq_true rfl) (List.mem_cons_of_mem _ (List.mem_append_left _ (List.mem_append_left _ (List.mem_of_getElem? (i := 0) rfl)))) rfl rfl dX11_clause_30 ?_
        refine lv_if_le (tgt := 37) hx hb dX11_clause_33 (by decide) (fun c_184 => ?_) (fun c_184 => ?_)
        · have hw0 : ¬ (wE f24 ln (nx f24 ln a0)) = (nx f24 ln a0) := wdF_0.mp (nI_z (by omega) c_184)
          have hwz : wdF f24 ln a0 0 = 0 := wdF_0.mpr hw0
          refine lv_iload_n hx hb dX11_clause_37 rfl (lv_at hl 1 rfl) ?_
          refine lv_iconst (v := 5) hx hb dX11_clause_38 (by decide) ?_
          refine lv_icmp_ne (tgt := 52) hx hb dX11_clause_39 (by decide) (fun c_185 => ?_) (fun c_185 => ?_)
          · have hk5 : k < 5 := by have h9 : ¬ k = 5 := fun q => c_185 (by rw [q]; rfl); omega
            refine lv_aload_n hx hb dX11_clause_52 rfl (lv_at hl 0 rfl) ?_
            refine x_get (ref := "NoteHouseModel") F hP k11 rfl (fun _ h => List.mem_cons_of_mem _ (List.mem_append_right _ (h))) 36 (Nat.le_of_ble_eq_true rfl) (List.mem_cons_of_mem _ (List.mem_append_left _ (List.mem_append_left _ (List.mem_of_getElem? (i := 2) rfl)))) rfl rfl dX11_clause_53 ?_
            refine lv_iload_n hx hb dX11_clause_56 rfl (lv_at hl 1 rfl) ?_
            refine x_zald F hP k14 (vp_in_nI (n := k) (N := 5) (by omega) (by decide)) dX11_clause_57 ?_
            rw [nI_clamp (n := k) (by omega), htR k hk5]
            refine lv_if_eq (tgt := 71) hx hb dX11_clause_58 (by decide) (fun c_186 => ?_) (fun c_186 => ?_)
            · have ht : mt.testBit k = false := by cases h9 : mt.testBit k with | false => rfl | true => rw [h9] at c_186; exact absurd c_186 (by decide)
              refine lv_aload_n hx hb dX11_clause_71 rfl (lv_at hl 0 rfl) ?_
              refine x_get (ref := "NoteHouseModel") F hP k11 rfl (fun _ h => List.mem_cons_of_mem _ (List.mem_append_right _ (h))) 36 (Nat.le_of_ble_eq_true rfl) (List.mem_cons_of_mem _ (List.mem_append_left _ (List.mem_append_left _ (List.mem_of_getElem? (i := 2) rfl)))) rfl rfl dX11_clause_72 ?_
              refine lv_iload_n hx hb dX11_clause_75 rfl (lv_at hl 1 rfl) ?_
              refine lv_iconst (v := 1) hx hb dX11_clause_76 (by decide) ?_
              refine y_zast F hP hD hS k14 (vp_in_nI (n := k) (N := 5) (by omega) (by decide)) dX11_clause_77 (fun w187 ew188 H locs hP hD hS => ?_)
              have k189 := wd_at.pt ew188 k11 (tg_ne ty tm36 (by decide))
              have k190 := wd_at.pt ew188 k13 (tg_ne tm24 tm36 (by decide))
              have k191 : wd_at w187 m36 (.inl (cy 4, 5, .inl (upd f36 (nI k).toNatClampNeg (vp_nar .boolean 1)))) := wd_at.ps ew188 k14
              have k192 := wd_at.pt ew188 k15 (tg_ne tm37 tm36 (by decide))
              have kp193 := kp16.put ew188 s91
              refine lv_iload_n hx hb dX11_clause_78 rfl (lv_at hl 1 rfl) ?_
              refine lv_iconst (v := 4) hx hb dX11_clause_79 (by decide) ?_
              refine lv_icmp_ne (tgt := 95) hx hb dX11_clause_80 (by decide) (fun c_194 => ?_) (fun c_194 => ?_)
              · have h4 : ¬ k = 4 := fun q => c_194 (by rw [q]; rfl)
                have hcq : clQ f24 ln a0 = (wE f24 ln (nx f24 ln a0)) := clQ_e ha0 (by omega)
                refine lv_aload_n hx hb dX11_clause_95 rfl (lv_at hl 0 rfl) ?_
                refine x_callV (n := 0) (As := []) (rest := []) F hP hD hS (m_word l D cy sk sv w187 tg y m2 m3 m4 m5 m6 m8 m9 m10 m11 m12 m13 m14 m17 m18 m19 m20 m21 m22 m23 m24 m29 m30 m31 m32 m33 m34 m35 m36 m37 m39 m40 m41 m42 m43 m44 m45 m46 m47 m48 m49 m51 m52 m53 m54 m56 m57 m58 m59 pc ac sc ln sh gf v0 td (nI (nx f24 ln a0)) v50 f24 (wE f24 ln (nx f24 ln a0)) (wdF f24 ln a0 0) k189 k190 (fun b => b = y) rfl ty tm24 (by omega) (by omega) (by omega)) gX11_clause_X11_word rfl rfl (by decide +kernel) ⟨(Nat.le_of_ble_eq_true rfl), (Nat.le_of_ble_eq_true rfl)⟩ rfl hl.1 (Nat.le_of_ble_eq_true rfl) k189 rfl dX11_clause_96 rfl ⟨(Nat.le_of_ble_eq_true rfl), (Nat.le_of_ble_eq_true rfl)⟩ (fun v196 w197 hp195 H locs hP hD hS => ?_)
                obtain ⟨ax198, bx199, fvx200, rfl, rfl, rfl, rfl, hz201, hz202, hz203, hz204, kq206, k205⟩ := hp195
                have k207 := kq206.2 _ _ k190 (tg_ne tm24 ty (by decide))
                have k208 := kq206.2 _ _ k191 (tg_ne tm36 ty (by decide))
                have k209 := kq206.2 _ _ k192 (tg_ne tm37 ty (by decide))
                have kp210 := kp193.tr kq206 (fun b9 hm q9 => (fun q9 => q9 ▸ s90) q9)
                refine W.eq (g2 := F0 m 99 ls []) rfl (W.widen (k := 0) (n := 0) (Nat.le_of_ble_eq_true rfl) (Nat.le_of_ble_eq_true rfl) ?_)
                refine lv_iconst (v := 0) hx hb dX11_clause_99 (by decide) ?_
                refine lv_istore_n (lv' := [(2, .int 0), (0, .ref y), (1, .int (nI k))]) hx hb dX11_clause_100 rfl hl (by decide) rfl (fun ls hl => ?_)
                have lp101 : ∀ (N : Nat) (b : Nat), (b + N = 3) → (∀ j, j < b → wB f24 (nx f24 ln (wE f24 ln (nx f24 ln a0))) (wE f24 ln (nx f24 ln (wE f24 ln (nx f24 ln a0))) - nx f24 ln (wE f24 ln (nx f24 ln a0))) ((WL 5).getD j 0) = false) → ∀ (ls : Array Slot), lv_has ls 3 [(0, .ref y), (1, .int (nI k)), (2, .int (nI b))] → Wv p l e ({ frames := 5, cells := 0, slots := 0, locals := 108 }) s m args below meth c D A (0) (0) Q w197 (F0 m 101 ls []) := by
                  intro N
                  induction N with
                  | zero =>
                    intro b hN101 hnm101 ls hl H locs hP hD hS
                    refine lv_iload_n hx hb dX11_clause_101 rfl (lv_at hl 2 rfl) ?_
                    refine lv_iconst (v := 3) hx hb dX11_clause_102 (by decide) ?_
                    refine lv_icmp_ge (tgt := 124) hx hb dX11_clause_103 (by decide) (fun c_212 => ?_) (fun c_212 => absurd (nI_le (a := 3) (b := b) (by omega) (by omega)) c_212)
                    have hbk : twK f24 ln (wE f24 ln (nx f24 ln a0)) 5 = b := brK_e (by omega) hnm101 (Or.inl (by omega))
                    refine lv_aload_n hx hb dX11_clause_124 rfl (lv_at hl 0 rfl) ?_
                    refine x_get (ref := "NoteHouseModel") F hP k205 rfl (fun _ h => List.mem_cons_of_mem _ (List.mem_append_right _ (h))) 28 (Nat.le_of_ble_eq_true rfl) (List.mem_cons_of_mem _ (List.mem_append_left _ (List.mem_append_left _ (List.mem_of_getElem? (i := 0) rfl)))) rfl rfl dX11_clause_125 ?_
                    refine lv_if_ne (tgt := 145) hx hb dX11_clause_128 (by decide) (fun cz128 => ?_) (fun cz128 => ?_)
                    · refine lv_aload_n hx hb dX11_clause_145 rfl (lv_at hl 0 rfl) ?_
                      refine x_get (ref := "NoteHouseModel") F hP k205 rfl (fun _ h => List.mem_cons_of_mem _ (List.mem_append_right _ (h))) 37 (Nat.le_of_ble_eq_true rfl) (List.mem_cons_of_mem _ (List.mem_append_left _ (List.mem_append_left _ (List.mem_of_getElem? (i := 3) rfl)))) rfl rfl dX11_clause_146 ?_
                      refine lv_iload_n hx hb dX11_clause_149 rfl (lv_at hl 1 rfl) ?_
                      refine lv_iload_n hx hb dX11_clause_150 rfl (lv_at hl 2 rfl) ?_
                      refine y_iast F hP hD hS k209 (vp_in_nI (n := k) (N := 5) (by omega) (by decide)) dX11_clause_151 (fun w213 ew214 H locs hP hD hS => ?_)
                      have k215 := wd_at.pt ew214 k205 (tg_ne ty tm37 (by decide))
                      have k216 := wd_at.pt ew214 k207 (tg_ne tm24 tm37 (by decide))
                      have k217 := wd_at.pt ew214 k208 (tg_ne tm36 tm37 (by decide))
                      have k218 : wd_at w213 m37 (.inl (cy 2, 5, .inl (upd f37 (nI k).toNatClampNeg (nI b)))) := wd_at.ps ew214 k209
                      have kp219 := kp210.put ew214 s92
                      have hcl : clF f24 ln a0 mt = brF f24 ln (wE f24 ln (nx f24 ln a0)) := by unfold clF; rw [hck, if_neg (by omega), ht, if_neg Bool.false_ne_true, if_neg h4, hcq]
                      have hres : (wdF f24 ln (wE f24 ln (nx f24 ln a0)) (wdF f24 ln a0 0)) = brF f24 ln (wE f24 ln (nx f24 ln a0)) := by have hw2 : wE f24 ln (nx f24 ln (wE f24 ln (nx f24 ln a0))) = nx f24 ln (wE f24 ln (nx f24 ln a0)) := Classical.byContradiction (fun q => cz128 (by rw [hwz, wdF_0.mpr q]; rfl)); rw [hwz, wdF_p hw2, brF_z hw2]
                      exact y_vr K hP hD hS (Nat.le_of_ble_eq_true rfl) (Nat.le_of_ble_eq_true rfl) rfl dX11_clause_152 (⟨(wE f24 ln (nx f24 ln (wE f24 ln (nx f24 ln a0)))), (nx f24 ln (wE f24 ln (nx f24 ln a0))), (wdF f24 ln (wE f24 ln (nx f24 ln a0)) (wdF f24 ln a0 0)), upd f36 (nI k).toNatClampNeg (vp_nar .boolean 1), upd f37 (nI k).toNatClampNeg (nI b), rfl, hres.trans hcl.symm, by omega, by omega, by omega, fun q => by have hb3 : ¬ twK f24 ln (wE f24 ln (nx f24 ln a0)) 5 = 3 := (fun z => by have q2 := hcl.symm.trans q; unfold brF at q2; rw [if_pos z] at q2; omega); refine ⟨?_, ?_, ?_⟩; unfold clA; rw [hck, if_neg h4, hcq, twA_yes (show ¬ twK f24 ln (wE f24 ln (nx f24 ln a0)) 5 = (WL 5).length from hb3)]; unfold clM; rw [hck]; exact htR.u hmt hk5; unfold clB; rw [hck, if_neg h4, hcq, twR_yes (show ¬ twK f24 ln (wE f24 ln (nx f24 ln a0)) 5 = (WL 5).length from hb3), hbk]; exact hlR.u hk5, kp219, k215, k217, k218⟩)
                    · refine lv_iload_n hx hb dX11_clause_131 rfl (lv_at hl 2 rfl) ?_
                      refine lv_iconst (v := 3) hx hb dX11_clause_132 (by decide) ?_
                      refine lv_icmp_ne (tgt := 145) hx hb dX11_clause_133 (by decide) (fun cb133 => ?_) (fun cb133 => ?_)
                      · refine lv_aload_n hx hb dX11_clause_145 rfl (lv_at hl 0 rfl) ?_
                        refine x_get (ref := "NoteHouseModel") F hP k205 rfl (fun _ h => List.mem_cons_of_mem _ (List.mem_append_right _ (h))) 37 (Nat.le_of_ble_eq_true rfl) (List.mem_cons_of_mem _ (List.mem_append_left _ (List.mem_append_left _ (List.mem_of_getElem? (i := 3) rfl)))) rfl rfl dX11_clause_146 ?_
                        refine lv_iload_n hx hb dX11_clause_149 rfl (lv_at hl 1 rfl) ?_
                        refine lv_iload_n hx hb dX11_clause_150 rfl (lv_at hl 2 rfl) ?_
                        refine y_iast F hP hD hS k209 (vp_in_nI (n := k) (N := 5) (by omega) (by decide)) dX11_clause_151 (fun w220 ew221 H locs hP hD hS => ?_)
                        have k222 := wd_at.pt ew221 k205 (tg_ne ty tm37 (by decide))
                        have k223 := wd_at.pt ew221 k207 (tg_ne tm24 tm37 (by decide))
                        have k224 := wd_at.pt ew221 k208 (tg_ne tm36 tm37 (by decide))
                        have k225 : wd_at w220 m37 (.inl (cy 2, 5, .inl (upd f37 (nI k).toNatClampNeg (nI b)))) := wd_at.ps ew221 k209
                        have kp226 := kp210.put ew221 s92
                        have hcl : clF f24 ln a0 mt = brF f24 ln (wE f24 ln (nx f24 ln a0)) := by unfold clF; rw [hck, if_neg (by omega), ht, if_neg Bool.false_ne_true, if_neg h4, hcq]
                        have hres : (wdF f24 ln (wE f24 ln (nx f24 ln a0)) (wdF f24 ln a0 0)) = brF f24 ln (wE f24 ln (nx f24 ln a0)) := by have h8 := (nI_z0 (by omega) cz128); rw [hwz] at h8; rw [hwz, h8]; unfold brF; rw [if_neg (fun q => cb133 (by rw [← hbk, q]; rfl))]
                        exact y_vr K hP hD hS (Nat.le_of_ble_eq_true rfl) (Nat.le_of_ble_eq_true rfl) rfl dX11_clause_152 (⟨(wE f24 ln (nx f24 ln (wE f24 ln (nx f24 ln a0)))), (nx f24 ln (wE f24 ln (nx f24 ln a0))), (wdF f24 ln (wE f24 ln (nx f24 ln a0)) (wdF f24 ln a0 0)), upd f36 (nI k).toNatClampNeg (vp_nar .boolean 1), upd f37 (nI k).toNatClampNeg (nI b), rfl, hres.trans hcl.symm, by omega, by omega, by omega, fun q => by have hb3 : ¬ twK f24 ln (wE f24 ln (nx f24 ln a0)) 5 = 3 := (fun z => by have q2 := hcl.symm.trans q; unfold brF at q2; rw [if_pos z] at q2; omega); refine ⟨?_, ?_, ?_⟩; unfold clA; rw [hck, if_neg h4, hcq, twA_yes (show ¬ twK f24 ln (wE f24 ln (nx f24 ln a0)) 5 = (WL 5).length from hb3)]; unfold clM; rw [hck]; exact htR.u hmt hk5; unfold clB; rw [hck, if_neg h4, hcq, twR_yes (show ¬ twK f24 ln (wE f24 ln (nx f24 ln a0)) 5 = (WL 5).length from hb3), hbk]; exact hlR.u hk5, kp226, k222, k224, k225⟩)
                      · refine lv_aload_n hx hb dX11_clause_136 rfl (lv_at hl 0 rfl) ?_
                        refine lv_iconst (v := 0) hx hb dX11_clause_137 (by decide) ?_
                        refine lv_aload_n hx hb dX11_clause_138 rfl (lv_at hl 0 rfl) ?_
                        refine x_get (ref := "NoteHouseModel") F hP k205 rfl (fun _ h => List.mem_cons_of_mem _ (List.mem_append_right _ (h))) 27 (Nat.le_of_ble_eq_true rfl) (List.mem_cons_of_mem _ (List.mem_append_left _ (List.mem_append_left _ (List.mem_of_getElem? (i := 1) rfl)))) rfl rfl dX11_clause_139 ?_
                        refine x_callV (n := 2) (As := [.int 0, .int (nI (nx f24 ln (wE f24 ln (nx f24 ln a0))))]) (rest := []) F hP hD hS (m_fails l D cy sk sv w197 tg y m2 m3 m4 m5 m6 m8 m9 m10 m11 m12 m13 m14 m17 m18 m19 m20 m21 m22 m23 m24 m29 m30 m31 m32 m33 m34 m35 m36 m37 m39 m40 m41 m42 m43 m44 m45 m46 m47 m48 m49 m51 m52 m53 m54 m56 m57 m58 m59 pc ac sc ln sh gf v0 td (nI (wE f24 ln (nx f24 ln (wE f24 ln (nx f24 ln a0))))) (nI (nx f24 ln (wE f24 ln (nx f24 ln a0)))) v50 (wdF f24 ln (wE f24 ln (nx f24 ln a0)) (wdF f24 ln a0 0)) 0 (nx f24 ln (wE f24 ln (nx f24 ln a0))) k205 (fun b => b = y) rfl ty (by omega) (by omega) (by omega)) gX11_clause_X11_fails rfl rfl (by decide +kernel) ⟨(Nat.le_of_ble_eq_true rfl), (Nat.le_of_ble_eq_true rfl)⟩ rfl hl.1 (Nat.le_of_ble_eq_true rfl) k205 rfl dX11_clause_142 rfl ⟨(Nat.le_of_ble_eq_true rfl), (Nat.le_of_ble_eq_true rfl)⟩ (fun v228 w229 hp227 H locs hP hD hS => ?_)
                        obtain ⟨fwx230, rfl, rfl, hz231, hz232, kq234, k233⟩ := hp227
                        have k235 := kq234.2 _ _ k207 (tg_ne tm24 ty (by decide))
                        have k236 := kq234.2 _ _ k208 (tg_ne tm36 ty (by decide))
                        have k237 := kq234.2 _ _ k209 (tg_ne tm37 ty (by decide))
                        have kp238 := kp210.tr kq234 (fun b9 hm q9 => (fun q9 => q9 ▸ s90) q9)
                        refine W.eq (g2 := F0 m 145 ls []) rfl (W.widen (k := 0) (n := 0) (Nat.le_of_ble_eq_true rfl) (Nat.le_of_ble_eq_true rfl) ?_)
                        refine lv_aload_n hx hb dX11_clause_145 rfl (lv_at hl 0 rfl) ?_
                        refine x_get (ref := "NoteHouseModel") F hP k233 rfl (fun _ h => List.mem_cons_of_mem _ (List.mem_append_right _ (h))) 37 (Nat.le_of_ble_eq_true rfl) (List.mem_cons_of_mem _ (List.mem_append_left _ (List.mem_append_left _ (List.mem_of_getElem? (i := 3) rfl)))) rfl rfl dX11_clause_146 ?_
                        refine lv_iload_n hx hb dX11_clause_149 rfl (lv_at hl 1 rfl) ?_
                        refine lv_iload_n hx hb dX11_clause_150 rfl (lv_at hl 2 rfl) ?_
                        refine y_iast F hP hD hS k237 (vp_in_nI (n := k) (N := 5) (by omega) (by decide)) dX11_clause_151 (fun w239 ew240 H locs hP hD hS => ?_)
                        have k241 := wd_at.pt ew240 k233 (tg_ne ty tm37 (by decide))
                        have k242 := wd_at.pt ew240 k235 (tg_ne tm24 tm37 (by decide))
                        have k243 := wd_at.pt ew240 k236 (tg_ne tm36 tm37 (by decide))
                        have k244 : wd_at w239 m37 (.inl (cy 2, 5, .inl (upd f37 (nI k).toNatClampNeg (nI b)))) := wd_at.ps ew240 k237
                        have kp245 := kp238.put ew240 s92
                        have hcl : clF f24 ln a0 mt = brF f24 ln (wE f24 ln (nx f24 ln a0)) := by unfold clF; rw [hck, if_neg (by omega), ht, if_neg Bool.false_ne_true, if_neg h4, hcq]
                        have hres : (flF (wdF f24 ln (wE f24 ln (nx f24 ln a0)) (wdF f24 ln a0 0)) 0 (nx f24 ln (wE f24 ln (nx f24 ln a0)))) = brF f24 ln (wE f24 ln (nx f24 ln a0)) := by have h8 := (nI_z0 (by omega) cz128); rw [hwz] at h8; rw [hwz, h8, flF_0]; unfold brF; rw [if_pos (hbk.trans ((nI_eq (a := b) (b := 3) (by omega) (by omega)).mp cb133))]
                        exact y_vr K hP hD hS (Nat.le_of_ble_eq_true rfl) (Nat.le_of_ble_eq_true rfl) rfl dX11_clause_152 (⟨(wE f24 ln (nx f24 ln (wE f24 ln (nx f24 ln a0)))), (nx f24 ln (wE f24 ln (nx f24 ln a0))), (flF (wdF f24 ln (wE f24 ln (nx f24 ln a0)) (wdF f24 ln a0 0)) 0 (nx f24 ln (wE f24 ln (nx f24 ln a0)))), upd f36 (nI k).toNatClampNeg (vp_nar .boolean 1), upd f37 (nI k).toNatClampNeg (nI b), rfl, hres.trans hcl.symm, by omega, by omega, by omega, fun q => by have hb3 : ¬ twK f24 ln (wE f24 ln (nx f24 ln a0)) 5 = 3 := (fun z => by have q2 := hcl.symm.trans q; unfold brF at q2; rw [if_pos z] at q2; omega); refine ⟨?_, ?_, ?_⟩; unfold clA; rw [hck, if_neg h4, hcq, twA_yes (show ¬ twK f24 ln (wE f24 ln (nx f24 ln a0)) 5 = (WL 5).length from hb3)]; unfold clM; rw [hck]; exact htR.u hmt hk5; unfold clB; rw [hck, if_neg h4, hcq, twR_yes (show ¬ twK f24 ln (wE f24 ln (nx f24 ln a0)) 5 = (WL 5).length from hb3), hbk]; exact hlR.u hk5, kp245, k241, k243, k244⟩)
                  | succ N ih101 =>
                    intro b hN101 hnm101 ls hl H locs hP hD hS
                    refine lv_iload_n hx hb dX11_clause_101 rfl (lv_at hl 2 rfl) ?_
                    refine lv_iconst (v := 3) hx hb dX11_clause_102 (by decide) ?_
                    refine lv_icmp_ge (tgt := 124) hx hb dX11_clause_103 (by decide) (fun c_246 => absurd c_246 (nI_ge (a := b) (b := 3) (by omega) (by omega))) (fun c_246 => ?_)
                    refine lv_aload_n hx hb dX11_clause_106 rfl (lv_at hl 0 rfl) ?_
                    refine lv_aload_n hx hb dX11_clause_107 rfl (lv_at hl 0 rfl) ?_
                    refine lv_iload_n hx hb dX11_clause_108 rfl (lv_at hl 2 rfl) ?_
                    refine x_callV (n := 1) (As := [.int (nI b)]) (rest := [.ref y]) F hP hD hS (m_bearerOf l D cy sk sv w197 y b (by omega)) gX11_clause_X11_bearerOf rfl rfl (by decide +kernel) ⟨(Nat.le_of_ble_eq_true rfl), (Nat.le_of_ble_eq_true rfl)⟩ rfl hl.1 (Nat.le_of_ble_eq_true rfl) k205 rfl dX11_clause_109 rfl ⟨(Nat.le_of_ble_eq_true rfl), (Nat.le_of_ble_eq_true rfl)⟩ (fun v248 w249 hp247 H locs hP hD hS => ?_)
                    obtain ⟨ix250, rfl, rfl, hz251, rfl⟩ := hp247
                    refine W.eq (g2 := F0 m 112 ls [.ref (sk ((WL 5).getD b 0)), .ref y]) rfl (W.widen (k := 0) (n := 0) (Nat.le_of_ble_eq_true rfl) (Nat.le_of_ble_eq_true rfl) ?_)
                    refine x_callV (n := 1) (As := [.ref (sk ((WL 5).getD b 0))]) (rest := []) F hP hD hS (m_is l D cy sk sv w197 tg y m2 m3 m4 m5 m6 m8 m9 m10 m11 m12 m13 m14 m17 m18 m19 m20 m21 m22 m23 m24 m29 m30 m31 m32 m33 m34 m35 m36 m37 m39 m40 m41 m42 m43 m44 m45 m46 m47 m48 m49 m51 m52 m53 m54 m56 m57 m58 m59 pc ac sc ln sh gf v0 td (nI (wdF f24 ln (wE f24 ln (nx f24 ln a0)) (wdF f24 ln a0 0))) v50 f24 (wE f24 ln (nx f24 ln (wE f24 ln (nx f24 ln a0)))) (nx f24 ln (wE f24 ln (nx f24 ln a0))) ((WL 5).getD b 0) k205 k207 ty tm24 (by omega) (by omega) (by omega)) gX11_clause_X11_is rfl rfl (by decide +kernel) ⟨(Nat.le_of_ble_eq_true rfl), (Nat.le_of_ble_eq_true rfl)⟩ rfl hl.1 (Nat.le_of_ble_eq_true rfl) k205 rfl dX11_clause_112 rfl ⟨(Nat.le_of_ble_eq_true rfl), (Nat.le_of_ble_eq_true rfl)⟩ (fun v253 w254 hp252 H locs hP hD hS => ?_)
                    obtain ⟨rx255, rfl, rfl, hz256, rfl⟩ := hp252
                    refine W.eq (g2 := F0 m 115 ls [.int (if wB f24 (nx f24 ln (wE f24 ln (nx f24 ln a0))) ((wE f24 ln (nx f24 ln (wE f24 ln (nx f24 ln a0)))) - (nx f24 ln (wE f24 ln (nx f24 ln a0)))) ((WL 5).getD b 0) then (1 : Int32) else 0)]) rfl (W.widen (k := 0) (n := 0) (Nat.le_of_ble_eq_true rfl) (Nat.le_of_ble_eq_true rfl) ?_)
                    refine lv_if_ne (tgt := 124) hx hb dX11_clause_115 (by decide) (fun cis101 => ?_) (fun cis101 => ?_)
                    · have hbk : twK f24 ln (wE f24 ln (nx f24 ln a0)) 5 = b := brK_e (by omega) hnm101 (Or.inr (wB1 cis101))
                      refine lv_aload_n hx hb dX11_clause_124 rfl (lv_at hl 0 rfl) ?_
                      refine x_get (ref := "NoteHouseModel") F hP k205 rfl (fun _ h => List.mem_cons_of_mem _ (List.mem_append_right _ (h))) 28 (Nat.le_of_ble_eq_true rfl) (List.mem_cons_of_mem _ (List.mem_append_left _ (List.mem_append_left _ (List.mem_of_getElem? (i := 0) rfl)))) rfl rfl dX11_clause_125 ?_
                      refine lv_if_ne (tgt := 145) hx hb dX11_clause_128 (by decide) (fun cz128 => ?_) (fun cz128 => ?_)
                      · refine lv_aload_n hx hb dX11_clause_145 rfl (lv_at hl 0 rfl) ?_
                        refine x_get (ref := "NoteHouseModel") F hP k205 rfl (fun _ h => List.mem_cons_of_mem _ (List.mem_append_right _ (h))) 37 (Nat.le_of_ble_eq_true rfl) (List.mem_cons_of_mem _ (List.mem_append_left _ (List.mem_append_left _ (List.mem_of_getElem? (i := 3) rfl)))) rfl rfl dX11_clause_146 ?_
                        refine lv_iload_n hx hb dX11_clause_149 rfl (lv_at hl 1 rfl) ?_
                        refine lv_iload_n hx hb dX11_clause_150 rfl (lv_at hl 2 rfl) ?_
                        refine y_iast F hP hD hS k209 (vp_in_nI (n := k) (N := 5) (by omega) (by decide)) dX11_clause_151 (fun w257 ew258 H locs hP hD hS => ?_)
                        have k259 := wd_at.pt ew258 k205 (tg_ne ty tm37 (by decide))
                        have k260 := wd_at.pt ew258 k207 (tg_ne tm24 tm37 (by decide))
                        have k261 := wd_at.pt ew258 k208 (tg_ne tm36 tm37 (by decide))
                        have k262 : wd_at w257 m37 (.inl (cy 2, 5, .inl (upd f37 (nI k).toNatClampNeg (nI b)))) := wd_at.ps ew258 k209
                        have kp263 := kp210.put ew258 s92
                        have hcl : clF f24 ln a0 mt = brF f24 ln (wE f24 ln (nx f24 ln a0)) := by unfold clF; rw [hck, if_neg (by omega), ht, if_neg Bool.false_ne_true, if_neg h4, hcq]
                        have hres : (wdF f24 ln (wE f24 ln (nx f24 ln a0)) (wdF f24 ln a0 0)) = brF f24 ln (wE f24 ln (nx f24 ln a0)) := by have hw2 : wE f24 ln (nx f24 ln (wE f24 ln (nx f24 ln a0))) = nx f24 ln (wE f24 ln (nx f24 ln a0)) := Classical.byContradiction (fun q => cz128 (by rw [hwz, wdF_0.mpr q]; rfl)); rw [hwz, wdF_p hw2, brF_z hw2]
                        exact y_vr K hP hD hS (Nat.le_of_ble_eq_true rfl) (Nat.le_of_ble_eq_true rfl) rfl dX11_clause_152 (⟨(wE f24 ln (nx f24 ln (wE f24 ln (nx f24 ln a0)))), (nx f24 ln (wE f24 ln (nx f24 ln a0))), (wdF f24 ln (wE f24 ln (nx f24 ln a0)) (wdF f24 ln a0 0)), upd f36 (nI k).toNatClampNeg (vp_nar .boolean 1), upd f37 (nI k).toNatClampNeg (nI b), rfl, hres.trans hcl.symm, by omega, by omega, by omega, fun q => by have hb3 : ¬ twK f24 ln (wE f24 ln (nx f24 ln a0)) 5 = 3 := (fun z => by have q2 := hcl.symm.trans q; unfold brF at q2; rw [if_pos z] at q2; omega); refine ⟨?_, ?_, ?_⟩; unfold clA; rw [hck, if_neg h4, hcq, twA_yes (show ¬ twK f24 ln (wE f24 ln (nx f24 ln a0)) 5 = (WL 5).length from hb3)]; unfold clM; rw [hck]; exact htR.u hmt hk5; unfold clB; rw [hck, if_neg h4, hcq, twR_yes (show ¬ twK f24 ln (wE f24 ln (nx f24 ln a0)) 5 = (WL 5).length from hb3), hbk]; exact hlR.u hk5, kp263, k259, k261, k262⟩)
                      · refine lv_iload_n hx hb dX11_clause_131 rfl (lv_at hl 2 rfl) ?_
                        refine lv_iconst (v := 3) hx hb dX11_clause_132 (by decide) ?_
                        refine lv_icmp_ne (tgt := 145) hx hb dX11_clause_133 (by decide) (fun cb133 => ?_) (fun cb133 => ?_)
                        · refine lv_aload_n hx hb dX11_clause_145 rfl (lv_at hl 0 rfl) ?_
                          refine x_get (ref := "NoteHouseModel") F hP k205 rfl (fun _ h => List.mem_cons_of_mem _ (List.mem_append_right _ (h))) 37 (Nat.le_of_ble_eq_true rfl) (List.mem_cons_of_mem _ (List.mem_append_left _ (List.mem_append_left _ (List.mem_of_getElem? (i := 3) rfl)))) rfl rfl dX11_clause_146 ?_
                          refine lv_iload_n hx hb dX11_clause_149 rfl (lv_at hl 1 rfl) ?_
                          refine lv_iload_n hx hb dX11_clause_150 rfl (lv_at hl 2 rfl) ?_
                          refine y_iast F hP hD hS k209 (vp_in_nI (n := k) (N := 5) (by omega) (by decide)) dX11_clause_151 (fun w264 ew265 H locs hP hD hS => ?_)
                          have k266 := wd_at.pt ew265 k205 (tg_ne ty tm37 (by decide))
                          have k267 := wd_at.pt ew265 k207 (tg_ne tm24 tm37 (by decide))
                          have k268 := wd_at.pt ew265 k208 (tg_ne tm36 tm37 (by decide))
                          have k269 : wd_at w264 m37 (.inl (cy 2, 5, .inl (upd f37 (nI k).toNatClampNeg (nI b)))) := wd_at.ps ew265 k209
                          have kp270 := kp210.put ew265 s92
                          have hcl : clF f24 ln a0 mt = brF f24 ln (wE f24 ln (nx f24 ln a0)) := by unfold clF; rw [hck, if_neg (by omega), ht, if_neg Bool.false_ne_true, if_neg h4, hcq]
                          have hres : (wdF f24 ln (wE f24 ln (nx f24 ln a0)) (wdF f24 ln a0 0)) = brF f24 ln (wE f24 ln (nx f24 ln a0)) := by have h8 := (nI_z0 (by omega) cz128); rw [hwz] at h8; rw [hwz, h8]; unfold brF; rw [if_neg (fun q => cb133 (by rw [← hbk, q]; rfl))]
                          exact y_vr K hP hD hS (Nat.le_of_ble_eq_true rfl) (Nat.le_of_ble_eq_true rfl) rfl dX11_clause_152 (⟨(wE f24 ln (nx f24 ln (wE f24 ln (nx f24 ln a0)))), (nx f24 ln (wE f24 ln (nx f24 ln a0))), (wdF f24 ln (wE f24 ln (nx f24 ln a0)) (wdF f24 ln a0 0)), upd f36 (nI k).toNatClampNeg (vp_nar .boolean 1), upd f37 (nI k).toNatClampNeg (nI b), rfl, hres.trans hcl.symm, by omega, by omega, by omega, fun q => by have hb3 : ¬ twK f24 ln (wE f24 ln (nx f24 ln a0)) 5 = 3 := (fun z => by have q2 := hcl.symm.trans q; unfold brF at q2; rw [if_pos z] at q2; omega); refine ⟨?_, ?_, ?_⟩; unfold clA; rw [hck, if_neg h4, hcq, twA_yes (show ¬ twK f24 ln (wE f24 ln (nx f24 ln a0)) 5 = (WL 5).length from hb3)]; unfold clM; rw [hck]; exact htR.u hmt hk5; unfold clB; rw [hck, if_neg h4, hcq, twR_yes (show ¬ twK f24 ln (wE f24 ln (nx f24 ln a0)) 5 = (WL 5).length from hb3), hbk]; exact hlR.u hk5, kp270, k266, k268, k269⟩)
                        · refine lv_aload_n hx hb dX11_clause_136 rfl (lv_at hl 0 rfl) ?_
                          refine lv_iconst (v := 0) hx hb dX11_clause_137 (by decide) ?_
                          refine lv_aload_n hx hb dX11_clause_138 rfl (lv_at hl 0 rfl) ?_
                          refine x_get (ref := "NoteHouseModel") F hP k205 rfl (fun _ h => List.mem_cons_of_mem _ (List.mem_append_right _ (h))) 27 (Nat.le_of_ble_eq_true rfl) (List.mem_cons_of_mem _ (List.mem_append_left _ (List.mem_append_left _ (List.mem_of_getElem? (i := 1) rfl)))) rfl rfl dX11_clause_139 ?_
                          refine x_callV (n := 2) (As := [.int 0, .int (nI (nx f24 ln (wE f24 ln (nx f24 ln a0))))]) (rest := []) F hP hD hS (m_fails l D cy sk sv w197 tg y m2 m3 m4 m5 m6 m8 m9 m10 m11 m12 m13 m14 m17 m18 m19 m20 m21 m22 m23 m24 m29 m30 m31 m32 m33 m34 m35 m36 m37 m39 m40 m41 m42 m43 m44 m45 m46 m47 m48 m49 m51 m52 m53 m54 m56 m57 m58 m59 pc ac sc ln sh gf v0 td (nI (wE f24 ln (nx f24 ln (wE f24 ln (nx f24 ln a0))))) (nI (nx f24 ln (wE f24 ln (nx f24 ln a0)))) v50 (wdF f24 ln (wE f24 ln (nx f24 ln a0)) (wdF f24 ln a0 0)) 0 (nx f24 ln (wE f24 ln (nx f24 ln a0))) k205 (fun b => b = y) rfl ty (by omega) (by omega) (by omega)) gX11_clause_X11_fails rfl rfl (by decide +kernel) ⟨(Nat.le_of_ble_eq_true rfl), (Nat.le_of_ble_eq_true rfl)⟩ rfl hl.1 (Nat.le_of_ble_eq_true rfl) k205 rfl dX11_clause_142 rfl ⟨(Nat.le_of_ble_eq_true rfl), (Nat.le_of_ble_eq_true rfl)⟩ (fun v272 w273 hp271 H locs hP hD hS => ?_)
                          obtain ⟨fwx274, rfl, rfl, hz275, hz276, kq278, k277⟩ := hp271
                          have k279 := kq278.2 _ _ k207 (tg_ne tm24 ty (by decide))
                          have k280 := kq278.2 _ _ k208 (tg_ne tm36 ty (by decide))
                          have k281 := kq278.2 _ _ k209 (tg_ne tm37 ty (by decide))
                          have kp282 := kp210.tr kq278 (fun b9 hm q9 => (fun q9 => q9 ▸ s90) q9)
                          refine W.eq (g2 := F0 m 145 ls []) rfl (W.widen (k := 0) (n := 0) (Nat.le_of_ble_eq_true rfl) (Nat.le_of_ble_eq_true rfl) ?_)
                          refine lv_aload_n hx hb dX11_clause_145 rfl (lv_at hl 0 rfl) ?_
                          refine x_get (ref := "NoteHouseModel") F hP k277 rfl (fun _ h => List.mem_cons_of_mem _ (List.mem_append_right _ (h))) 37 (Nat.le_of_ble_eq_true rfl) (List.mem_cons_of_mem _ (List.mem_append_left _ (List.mem_append_left _ (List.mem_of_getElem? (i := 3) rfl)))) rfl rfl dX11_clause_146 ?_
                          refine lv_iload_n hx hb dX11_clause_149 rfl (lv_at hl 1 rfl) ?_
                          refine lv_iload_n hx hb dX11_clause_150 rfl (lv_at hl 2 rfl) ?_
                          refine y_iast F hP hD hS k281 (vp_in_nI (n := k) (N := 5) (by omega) (by decide)) dX11_clause_151 (fun w283 ew284 H locs hP hD hS => ?_)
                          have k285 := wd_at.pt ew284 k277 (tg_ne ty tm37 (by decide))
                          have k286 := wd_at.pt ew284 k279 (tg_ne tm24 tm37 (by decide))
                          have k287 := wd_at.pt ew284 k280 (tg_ne tm36 tm37 (by decide))
                          have k288 : wd_at w283 m37 (.inl (cy 2, 5, .inl (upd f37 (nI k).toNatClampNeg (nI b)))) := wd_at.ps ew284 k281
                          have kp289 := kp282.put ew284 s92
                          have hcl : clF f24 ln a0 mt = brF f24 ln (wE f24 ln (nx f24 ln a0)) := by unfold clF; rw [hck, if_neg (by omega), ht, if_neg Bool.false_ne_true, if_neg h4, hcq]
                          have hres : (flF (wdF f24 ln (wE f24 ln (nx f24 ln a0)) (wdF f24 ln a0 0)) 0 (nx f24 ln (wE f24 ln (nx f24 ln a0)))) = brF f24 ln (wE f24 ln (nx f24 ln a0)) := by have h8 := (nI_z0 (by omega) cz128); rw [hwz] at h8; rw [hwz, h8, flF_0]; unfold brF; rw [if_pos (hbk.trans ((nI_eq (a := b) (b := 3) (by omega) (by omega)).mp cb133))]
                          exact y_vr K hP hD hS (Nat.le_of_ble_eq_true rfl) (Nat.le_of_ble_eq_true rfl) rfl dX11_clause_152 (⟨(wE f24 ln (nx f24 ln (wE f24 ln (nx f24 ln a0)))), (nx f24 ln (wE f24 ln (nx f24 ln a0))), (flF (wdF f24 ln (wE f24 ln (nx f24 ln a0)) (wdF f24 ln a0 0)) 0 (nx f24 ln (wE f24 ln (nx f24 ln a0)))), upd f36 (nI k).toNatClampNeg (vp_nar .boolean 1), upd f37 (nI k).toNatClampNeg (nI b), rfl, hres.trans hcl.symm, by omega, by omega, by omega, fun q => by have hb3 : ¬ twK f24 ln (wE f24 ln (nx f24 ln a0)) 5 = 3 := (fun z => by have q2 := hcl.symm.trans q; unfold brF at q2; rw [if_pos z] at q2; omega); refine ⟨?_, ?_, ?_⟩; unfold clA; rw [hck, if_neg h4, hcq, twA_yes (show ¬ twK f24 ln (wE f24 ln (nx f24 ln a0)) 5 = (WL 5).length from hb3)]; unfold clM; rw [hck]; exact htR.u hmt hk5; unfold clB; rw [hck, if_neg h4, hcq, twR_yes (show ¬ twK f24 ln (wE f24 ln (nx f24 ln a0)) 5 = (WL 5).length from hb3), hbk]; exact hlR.u hk5, kp289, k285, k287, k288⟩)
                    · refine lv_iinc (v := nI (b + 1)) (lv' := [(2, .int (nI (b + 1))), (0, .ref y), (1, .int (nI k))]) hx hb dX11_clause_118 hl (k := 2) rfl (nI_1 b) (by decide) rfl (fun ls hl => ?_)
                      refine lv_goto (tgt := 101) hx hb dX11_clause_121 (by decide) ?_
                      exact ih101 (b + 1)  (by omega) (lt_s (p := fun j => wB f24 (nx f24 ln (wE f24 ln (nx f24 ln a0))) (wE f24 ln (nx f24 ln (wE f24 ln (nx f24 ln a0))) - nx f24 ln (wE f24 ln (nx f24 ln a0))) ((WL 5).getD j 0) = false) hnm101 (wB0 cis101))   ls (lv_sub hl [1, 2, 0] rfl) H locs hP hD hS
                exact lp101 _ 0  (Nat.zero_add 3) (fun j hj => absurd hj (Nat.not_lt_zero j))   ls (lv_sub hl [1, 2, 0] rfl) H locs hP hD hS
              · have h4 : k = 4 := (nI_eq (a := k) (b := 4) (by omega) (by omega)).mp c_194
                have hcq : clQ f24 ln a0 = (wE f24 ln (nx f24 ln a0)) := clQ_e ha0 (by omega)
                refine lv_aload_n hx hb dX11_clause_83 rfl (lv_at hl 0 rfl) ?_
                refine x_get (ref := "NoteHouseModel") F hP k189 rfl (fun _ h => List.mem_cons_of_mem _ (List.mem_append_right _ (h))) 37 (Nat.le_of_ble_eq_true rfl) (List.mem_cons_of_mem _ (List.mem_append_left _ (List.mem_append_left _ (List.mem_of_getElem? (i := 3) rfl)))) rfl rfl dX11_clause_84 ?_
                refine lv_iconst (v := 4) hx hb dX11_clause_87 (by decide) ?_
                refine lv_aload_n hx hb dX11_clause_88 rfl (lv_at hl 0 rfl) ?_
                refine lv_iconst (v := 2) hx hb dX11_clause_89 (by decide) ?_
                refine x_callV (n := 1) (As := [.int 2]) (rest := [.int 4, .ref m37]) F hP hD hS (m_number l D cy sk sv w187 tg y m2 m3 m4 m5 m6 m8 m9 m10 m11 m12 m13 m14 m17 m18 m19 m20 m21 m22 m23 m24 m29 m30 m31 m32 m33 m34 m35 m36 m37 m39 m40 m41 m42 m43 m44 m45 m46 m47 m48 m49 m51 m52 m53 m54 m56 m57 m58 m59 pc ac sc ln sh gf v0 td (nI (nx f24 ln a0)) v50 f24 (wE f24 ln (nx f24 ln a0)) (wdF f24 ln a0 0) 2 k189 k190 (fun b => b = y) rfl ty tm24 (by omega) (by omega) (by omega) (by omega)) gX11_clause_X11_number rfl rfl (by decide +kernel) ⟨(Nat.le_of_ble_eq_true rfl), (Nat.le_of_ble_eq_true rfl)⟩ rfl hl.1 (Nat.le_of_ble_eq_true rfl) k189 rfl dX11_clause_90 rfl ⟨(Nat.le_of_ble_eq_true rfl), (Nat.le_of_ble_eq_true rfl)⟩ (fun v291 w292 hp290 H locs hP hD hS => ?_)
                obtain ⟨ax293, bx294, fvx295, rx296, rfl, rfl, rfl, rfl, rfl, hz297, hz298, hz299, hz300, kq302, k301⟩ := hp290
                have k303 := kq302.2 _ _ k190 (tg_ne tm24 ty (by decide))
                have k304 := kq302.2 _ _ k191 (tg_ne tm36 ty (by decide))
                have k305 := kq302.2 _ _ k192 (tg_ne tm37 ty (by decide))
                have kp306 := kp193.tr kq302 (fun b9 hm q9 => (fun q9 => q9 ▸ s90) q9)
                refine W.eq (g2 := F0 m 93 ls [.int (nI (numN f24 (nx f24 ln (wE f24 ln (nx f24 ln a0))) (min ((dE f24 ln (nx f24 ln (wE f24 ln (nx f24 ln a0)))) - (nx f24 ln (wE f24 ln (nx f24 ln a0)))) 2))), .int 4, .ref m37]) rfl (W.widen (k := 0) (n := 0) (Nat.le_of_ble_eq_true rfl) (Nat.le_of_ble_eq_true rfl) ?_)
                refine y_iast F hP hD hS k305 (vp_in_iff.mpr ⟨by decide, by decide⟩) dX11_clause_93 (fun w307 ew308 H locs hP hD hS => ?_)
                have k309 := wd_at.pt ew308 k301 (tg_ne ty tm37 (by decide))
                have k310 := wd_at.pt ew308 k303 (tg_ne tm24 tm37 (by decide))
                have k311 := wd_at.pt ew308 k304 (tg_ne tm36 tm37 (by decide))
                have k312 : wd_at w307 m37 (.inl (cy 2, 5, .inl (upd f37 (4 : Int32).toNatClampNeg (nI (numN f24 (nx f24 ln (wE f24 ln (nx f24 ln a0))) (min ((dE f24 ln (nx f24 ln (wE f24 ln (nx f24 ln a0)))) - (nx f24 ln (wE f24 ln (nx f24 ln a0)))) 2)))))) := wd_at.ps ew308 k305
                have kp313 := kp306.put ew308 s92
                have hcl : clF f24 ln a0 mt = hdF f24 ln (wE f24 ln (nx f24 ln a0)) := by unfold clF; rw [hck, if_neg (by omega), ht, if_neg Bool.false_ne_true, if_pos h4, hcq]
                obtain ⟨en1, en2⟩ := nuF_e (B := f24) (n := ln) (q := (wE f24 ln (nx f24 ln a0))) (by omega)
                exact y_vr K hP hD hS (Nat.le_of_ble_eq_true rfl) (Nat.le_of_ble_eq_true rfl) rfl dX11_clause_94 (⟨(dE f24 ln (nx f24 ln (wE f24 ln (nx f24 ln a0)))), (nx f24 ln (wE f24 ln (nx f24 ln a0))), (nuF f24 ln (wE f24 ln (nx f24 ln a0)) 2 (wdF f24 ln a0 0)), upd f36 (nI k).toNatClampNeg (vp_nar .boolean 1), upd f37 (4 : Int32).toNatClampNeg (nI (numN f24 (nx f24 ln (wE f24 ln (nx f24 ln a0))) (min ((dE f24 ln (nx f24 ln (wE f24 ln (nx f24 ln a0)))) - (nx f24 ln (wE f24 ln (nx f24 ln a0)))) 2))), rfl, by rw [hwz, en1, hcl], by omega, by omega, by omega, fun q => by obtain ⟨e1, e2⟩ := en2 (hcl.symm.trans q); refine ⟨?_, ?_, ?_⟩; unfold clA; rw [hck, if_pos h4, hcq, e1]; unfold clM; rw [hck]; exact htR.u hmt hk5; unfold clB; rw [hck, if_pos h4, hcq, e2]; exact hlR.u (k := 4) (by decide), kp313, k309, k311, k312⟩)
            · have ht : mt.testBit k = true := by cases h9 : mt.testBit k with | true => rfl | false => rw [h9] at c_186; exact absurd rfl c_186
              refine lv_aload_n hx hb dX11_clause_61 rfl (lv_at hl 0 rfl) ?_
              refine lv_iconst (v := 2) hx hb dX11_clause_62 (by decide) ?_
              refine lv_aload_n hx hb dX11_clause_63 rfl (lv_at hl 0 rfl) ?_
              refine x_get (ref := "NoteHouseModel") F hP k11 rfl (fun _ h => List.mem_cons_of_mem _ (List.mem_append_right _ (h))) 27 (Nat.le_of_ble_eq_true rfl) (List.mem_cons_of_mem _ (List.mem_append_left _ (List.mem_append_left _ (List.mem_of_getElem? (i := 1) rfl)))) rfl rfl dX11_clause_64 ?_
              refine x_callV (n := 2) (As := [.int 2, .int (nI (nx f24 ln a0))]) (rest := []) F hP hD hS (m_fails l D cy sk sv w3 tg y m2 m3 m4 m5 m6 m8 m9 m10 m11 m12 m13 m14 m17 m18 m19 m20 m21 m22 m23 m24 m29 m30 m31 m32 m33 m34 m35 m36 m37 m39 m40 m41 m42 m43 m44 m45 m46 m47 m48 m49 m51 m52 m53 m54 m56 m57 m58 m59 pc ac sc ln sh gf v0 td (nI (wE f24 ln (nx f24 ln a0))) (nI (nx f24 ln a0)) v50 (wdF f24 ln a0 0) 2 (nx f24 ln a0) k11 (fun b => b = y) rfl ty (by omega) (by omega) (by omega)) gX11_clause_X11_fails rfl rfl (by decide +kernel) ⟨(Nat.le_of_ble_eq_true rfl), (Nat.le_of_ble_eq_true rfl)⟩ rfl hl.1 (Nat.le_of_ble_eq_true rfl) k11 rfl dX11_clause_67 rfl ⟨(Nat.le_of_ble_eq_true rfl), (Nat.le_of_ble_eq_true rfl)⟩ (fun v315 w316 hp314 H locs hP hD hS => ?_)
              obtain ⟨fwx317, rfl, rfl, hz318, hz319, kq321, k320⟩ := hp314
              have k322 := kq321.2 _ _ k13 (tg_ne tm24 ty (by decide))
              have k323 := kq321.2 _ _ k14 (tg_ne tm36 ty (by decide))
              have k324 := kq321.2 _ _ k15 (tg_ne tm37 ty (by decide))
              have kp325 := kp16.tr kq321 (fun b9 hm q9 => (fun q9 => q9 ▸ s90) q9)
              refine W.eq (g2 := F0 m 70 ls []) rfl (W.widen (k := 0) (n := 0) (Nat.le_of_ble_eq_true rfl) (Nat.le_of_ble_eq_true rfl) ?_)
              exact y_vr K hP hD hS (Nat.le_of_ble_eq_true rfl) (Nat.le_of_ble_eq_true rfl) rfl dX11_clause_70 (⟨(wE f24 ln (nx f24 ln a0)), (nx f24 ln a0), (flF (wdF f24 ln a0 0) 2 (nx f24 ln a0)), f36, f37, rfl, by rw [hwz, flF_0]; unfold clF; rw [hck, if_neg (by omega), ht, if_pos rfl], by omega, by omega, by omega, fun q => absurd q (by unfold clF; rw [hck, if_neg (by omega), ht, if_pos rfl]; omega), kp325, k320, k323, k324⟩)
          · have hk5 : k = 5 := (nI_eq (a := k) (b := 5) (by omega) (by omega)).mp c_185
            refine lv_aload_n hx hb dX11_clause_42 rfl (lv_at hl 0 rfl) ?_
            refine lv_iconst (v := 0) hx hb dX11_clause_43 (by decide) ?_
            refine lv_aload_n hx hb dX11_clause_44 rfl (lv_at hl 0 rfl) ?_
            refine x_get (ref := "NoteHouseModel") F hP k11 rfl (fun _ h => List.mem_cons_of_mem _ (List.mem_append_right _ (h))) 27 (Nat.le_of_ble_eq_true rfl) (List.mem_cons_of_mem _ (List.mem_append_left _ (List.mem_append_left _ (List.mem_of_getElem? (i := 1) rfl)))) rfl rfl dX11_clause_45 ?_
            refine x_callV (n := 2) (As := [.int 0, .int (nI (nx f24 ln a0))]) (rest := []) F hP hD hS (m_fails l D cy sk sv w3 tg y m2 m3 m4 m5 m6 m8 m9 m10 m11 m12 m13 m14 m17 m18 m19 m20 m21 m22 m23 m24 m29 m30 m31 m32 m33 m34 m35 m36 m37 m39 m40 m41 m42 m43 m44 m45 m46 m47 m48 m49 m51 m52 m53 m54 m56 m57 m58 m59 pc ac sc ln sh gf v0 td (nI (wE f24 ln (nx f24 ln a0))) (nI (nx f24 ln a0)) v50 (wdF f24 ln a0 0) 0 (nx f24 ln a0) k11 (fun b => b = y) rfl ty (by omega) (by omega) (by omega)) gX11_clause_X11_fails rfl rfl (by decide +kernel) ⟨(Nat.le_of_ble_eq_true rfl), (Nat.le_of_ble_eq_true rfl)⟩ rfl hl.1 (Nat.le_of_ble_eq_true rfl) k11 rfl dX11_clause_48 rfl ⟨(Nat.le_of_ble_eq_true rfl), (Nat.le_of_ble_eq_true rfl)⟩ (fun v327 w328 hp326 H locs hP hD hS => ?_)
            obtain ⟨fwx329, rfl, rfl, hz330, hz331, kq333, k332⟩ := hp326
            have k334 := kq333.2 _ _ k13 (tg_ne tm24 ty (by decide))
            have k335 := kq333.2 _ _ k14 (tg_ne tm36 ty (by decide))
            have k336 := kq333.2 _ _ k15 (tg_ne tm37 ty (by decide))
            have kp337 := kp16.tr kq333 (fun b9 hm q9 => (fun q9 => q9 ▸ s90) q9)
            refine W.eq (g2 := F0 m 51 ls []) rfl (W.widen (k := 0) (n := 0) (Nat.le_of_ble_eq_true rfl) (Nat.le_of_ble_eq_true rfl) ?_)
            exact y_vr K hP hD hS (Nat.le_of_ble_eq_true rfl) (Nat.le_of_ble_eq_true rfl) rfl dX11_clause_51 (⟨(wE f24 ln (nx f24 ln a0)), (nx f24 ln a0), (flF (wdF f24 ln a0 0) 0 (nx f24 ln a0)), f36, f37, rfl, by rw [hwz, flF_0]; unfold clF; rw [if_pos (hck.trans hk5)], by omega, by omega, by omega, fun q => absurd q (by unfold clF; rw [if_pos (hck.trans hk5)]; omega), kp337, k332, k335, k336⟩)
        · have hw0 : (wE f24 ln (nx f24 ln a0)) = (nx f24 ln a0) := Classical.byContradiction (fun q => c_184 (by rw [wdF_0.mpr q]; decide))
          exact y_vr K hP hD hS (Nat.le_of_ble_eq_true rfl) (Nat.le_of_ble_eq_true rfl) rfl dX11_clause_36 (⟨(wE f24 ln (nx f24 ln a0)), (nx f24 ln a0), (wdF f24 ln a0 0), f36, f37, rfl, by rw [wdF_p hw0]; unfold clF; rw [if_pos (clK_z ha0 hw0)], by omega, by omega, by omega, fun q => absurd q (by unfold clF; rw [if_pos (clK_z ha0 hw0)]; omega), kp16, k11, k14, k15⟩)
      · refine lv_iinc (v := nI (k + 1)) (lv' := [(1, .int (nI (k + 1))), (0, .ref y)]) hx hb dX11_clause_23 hl (k := 1) rfl (nI_1 k) (by decide) rfl (fun ls hl => ?_)
        refine lv_goto (tgt := 6) hx hb dX11_clause_26 (by decide) ?_
        exact ih6 (k + 1)  (by omega) (lt_s (p := fun j => wB f24 (nx f24 ln a0) (wE f24 ln (nx f24 ln a0) - nx f24 ln a0) ((WL 4).getD j 0) = false) hnm6 (wB0 cis6))   ls (lv_sub hl [1, 0] rfl) H locs hP hD hS
  exact lp6 _ 0  (Nat.zero_add 5) (fun j hj => absurd hj (Nat.not_lt_zero j))   ls (lv_sub hl [1, 0] rfl) H locs hP hD hS
