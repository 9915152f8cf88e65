section STW
variable {p : Program} {l : Launch} {e : Env} {R : Room} {s : State} {m : MethodId} {args : Array Value} {below : List Frame} {meth : Method} {c : Code} {H : Heap} {locs : List Loc} {cells slots : Nat} {Q : State → Prop}
variable {cc : ByteArray} {pc nL : Nat} {ls : Array Slot} {rest : List Value} {D : va_G} {cy : Nat → ClassId} {sk sv : Nat → Nat} {A : Nat → Prop} {a : Nat} {w : Wd} {Ts : List Cond} {own : String}
theorem x_ldcwStr {T : State} (X : Stand p l e R s m args below meth c T locs cells slots) (hexec : p.tables.exec = Jvm.exec) {own9 text : String} {index : Nat} {q : Addr} (hown : s.vm.findClass own9 = some m.cls) (hconst : (Cond.stringRef own9 index text).before args s = true) (hev : (Term.string own9 index).eval args s none [] s = some (.ref q)) {g : JFrame} (hg : g.method = m) (hdg : decode c.code g.pc = .ok (.ldc_w index, 3)) : ∀ target, Steps p.tables e below (T.setTop { g with pc := g.pc + 3, stack := .ref q :: g.stack }) target → Steps p.tables e below (T.setTop g) target := by
  obtain ⟨k, cf, i, q1, hk, hcf, hcp, -, hr, he1⟩ := Cond.stringRef_spec hown hconst
  cases hev.symm.trans he1
  obtain ⟨k1, hk1, he⟩ := X.warmed.alike.2.2 _ _ hk
  have hr1 : k1.resolved[index]? = some (some (.string q)) := by
    rcases X.warmed.entry hk hk1 index with h | ⟨h, -⟩
    · rw [h]; exact hr
    · rw [hr] at h; cases h
  intro target hrest
  subst hg
  jvm_step X.here [hexec, hdg, ldc_w.wp_string (e := e) (s := T) (f := g) X.here.top hk1 (by rw [he]; exact hcf) hcp hr1]
  exact hrest
theorem x_ldcwS (F : wd_Fx p s m args meth c cc nL Ts own D cy sk sv A) {i index : Nat} {tx : String} (hr : (own, index, tx, i) ∈ st_ref) (hdg : decode cc pc = .ok (.ldc_w index, 3)) (kk : W p l e R s m args below meth c H locs cells slots Q (F0 m (pc + 3) ls (.ref (sk i) :: rest))) : W p l e R s m args below meth c H locs cells slots Q (F0 m pc ls rest) := by
  obtain ⟨⟨hx, hb, hml, hown, hts⟩, hG, hA, hlk, hEv⟩ := F
  have hZ := hEv.2.1 _ hr
  intro T hT X
  obtain ⟨t, a1, b1⟩ := kk T hT X
  exact ⟨t, x_ldcwStr X hx hown (text := tx) (q := sk i) hZ.1 hZ.2 (g := F0 m pc ls rest) rfl (by rw [hb]; exact hdg) t a1, b1⟩
end STW
set_option maxHeartbeats 4000000 in
set_option maxRecDepth 100000 in
theorem m_fails (l : Launch) (D : va_G) (cy : Nat → ClassId) (sk sv : Nat → Nat) (w : Wd) (tg : Nat → Nat) (y m2 m3 m4 m5 m6 m8 m9 m10 m11 m12 m13 m14 m17 m18 m19 m20 m21 m22 m23 m24 m29 m30 m31 m32 m33 m34 m35 m36 m37 m39 m40 m41 m42 m43 m44 m45 m46 m47 m48 m49 m51 m52 m53 m54 m56 m57 m58 m59 pc ac sc ln sh gf : Nat) (v0 td v26 v27 v50 : Int32) (fv kd pl : Nat) (c90 : wd_at w y (.inr (11, [.int v0, .int td, .ref m2, .ref m3, .ref m4, .ref m5, .ref m6, .int (nI pc), .ref m8, .ref m9, .ref m10, .ref m11, .ref m12, .ref m13, .ref m14, .int (nI ac), .int (nI sc), .ref m17, .ref m18, .ref m19, .ref m20, .ref m21, .ref m22, .ref m23, .ref m24, .int (nI ln), .int v26, .int v27, .int (nI fv), .ref m29, .ref m30, .ref m31, .ref m32, .ref m33, .ref m34, .ref m35, .ref m36, .ref m37, .int (nI sh), .ref m39, .ref m40, .ref m41, .ref m42, .ref m43, .ref m44, .ref m45, .ref m46, .ref m47, .ref m48, .ref m49, .int v50, .ref m51, .ref m52, .ref m53, .ref m54, .int (nI gf), .ref m56, .ref m57, .ref m58, .ref m59])))  (S : Nat → Prop) (s90 : S y) (ty : tg y = 10000) (hfv : fv < 2000) (hkd : kd ≤ 2) (hpl : pl ≤ 300) : Ct l D cy sk sv yX11_fails wsX11_fails ({ frames := 0, cells := 0, slots := 0, locals := 0 }) [.ref y, .int (nI kd), .int (nI pl)] w (fun v w1 => ∃ (fw1 : Nat), v = none ∧ (0 < fw1) ∧ (fw1 < 2000) ∧ wd_kp S w w1 ∧ wd_at w1 y (.inr (11, [.int v0, .int td, .ref m2, .ref m3, .ref m4, .ref m5, .ref m6, .int (nI pc), .ref m8, .ref m9, .ref m10, .ref m11, .ref m12, .ref m13, .ref m14, .int (nI ac), .int (nI sc), .ref m17, .ref m18, .ref m19, .ref m20, .ref m21, .ref m22, .ref m23, .ref m24, .int (nI ln), .int v26, .int v27, .int (nI fw1), .ref m29, .ref m30, .ref m31, .ref m32, .ref m33, .ref m34, .ref m35, .ref m36, .ref m37, .int (nI sh), .ref m39, .ref m40, .ref m41, .ref m42, .ref m43, .ref m44, .ref m45, .ref m46, .ref m47, .ref m48, .ref m49, .int v50, .ref m51, .ref m52, .ref m53, .ref m54, .int (nI gf), .ref m56, .ref m57, .ref m58, .ref m59]))) := by
  refine Ct.by (cc := cX11_fails) (maxL := 3) (ret := none) (by decide +kernel) rfl (Nat.le_of_ble_eq_true rfl) ?_
  intro p e s m args below meth c A Q F hnm K ls hl
  have F : wd_Fx p s m args meth c cX11_fails 3 wsX11_fails RX11 D cy sk sv A := F
  have hl : lv_has ls 3 [(0, .ref y), (1, .int (nI kd)), (2, .int (nI pl))] := hl
  have hx := F.1.1
  have hb := F.1.2.1
  have hown := F.1.2.2.2.1
  have hts := F.1.2.2.2.2
  intro H locs hP hD hS
  have kp0 : wd_kp S w w := wd_kp.rf
  refine lv_aload_n hx hb dX11_fails_0 rfl (lv_at hl 0 rfl) ?_
  refine x_get (ref := "NoteHouseModel") F hP c90 rfl (fun _ h => List.mem_cons_of_mem _ (List.mem_append_right _ (h))) 28 (Nat.le_of_ble_eq_true rfl) (List.mem_cons_of_mem _ (List.mem_append_left _ (List.mem_of_getElem? (i := 0) rfl))) rfl rfl dX11_fails_1 ?_
  refine lv_if_ne (tgt := 18) hx hb dX11_fails_4 (by decide) (fun c_1 => ?_) (fun c_1 => ?_)
  · exact y_vr K hP hD hS (Nat.le_of_ble_eq_true rfl) (Nat.le_of_ble_eq_true rfl) rfl dX11_fails_18 (⟨fv, rfl, nI_nz (by omega) c_1, by omega, kp0, c90⟩)
  · refine lv_aload_n hx hb dX11_fails_7 rfl (lv_at hl 0 rfl) ?_
    refine lv_iconst (v := 1) hx hb dX11_fails_8 (by decide) ?_
    refine lv_iconst (v := 4) hx hb dX11_fails_9 (by decide) ?_
    refine lv_iload_n hx hb dX11_fails_10 rfl (lv_at hl 2 rfl) ?_
    refine lv_imul hx hb dX11_fails_11 ?_
    rw [show (4 * (nI pl) : Int32) = nI (4 * pl) from pk_mul 4 pl]
    refine lv_iadd hx hb dX11_fails_12 ?_
    rw [show (1 + (nI (4 * pl)) : Int32) = nI (1 + (4 * pl)) from nI_add 1 (4 * pl)]
    refine lv_iload_n hx hb dX11_fails_13 rfl (lv_at hl 1 rfl) ?_
    refine lv_iadd hx hb dX11_fails_14 ?_
    rw [show ((nI (1 + (4 * pl))) + (nI kd) : Int32) = nI ((1 + (4 * pl)) + kd) from nI_add (1 + (4 * pl)) kd]
    refine y_put (ref := "NoteHouseModel") F hP hD hS c90 rfl (fun _ h => List.mem_cons_of_mem _ (List.mem_append_right _ (h))) tyX11_ok nmX11 28 (Nat.le_of_ble_eq_true rfl) (List.mem_cons_of_mem _ (List.mem_append_left _ (List.mem_of_getElem? (i := 0) rfl))) rfl rfl rfl rfl (Nat.le_of_ble_eq_true rfl) dX11_fails_15 (fun w1 ew2 H locs hP hD hS => ?_)
    have k3 : wd_at w1 y (.inr (11, [.int v0, .int td, .ref m2, .ref m3, .ref m4, .ref m5, .ref m6, .int (nI pc), .ref m8, .ref m9, .ref m10, .ref m11, .ref m12, .ref m13, .ref m14, .int (nI ac), .int (nI sc), .ref m17, .ref m18, .ref m19, .ref m20, .ref m21, .ref m22, .ref m23, .ref m24, .int (nI ln), .int v26, .int v27, .int (nI ((1 + (4 * pl)) + kd)), .ref m29, .ref m30, .ref m31, .ref m32, .ref m33, .ref m34, .ref m35, .ref m36, .ref m37, .int (nI sh), .ref m39, .ref m40, .ref m41, .ref m42, .ref m43, .ref m44, .ref m45, .ref m46, .ref m47, .ref m48, .ref m49, .int v50, .ref m51, .ref m52, .ref m53, .ref m54, .int (nI gf), .ref m56, .ref m57, .ref m58, .ref m59])) := wd_at.ps ew2 c90
    have kp4 := kp0.put ew2 s90
    exact y_vr K hP hD hS (Nat.le_of_ble_eq_true rfl) (Nat.le_of_ble_eq_true rfl) rfl dX11_fails_18 (⟨((1 + (4 * pl)) + kd), rfl, by omega, by omega, kp4, k3⟩)
set_option maxHeartbeats 4000000 in
set_option maxRecDepth 100000 in
theorem m_isEnd (l : Launch) (D : va_G) (cy : Nat → ClassId) (sk sv : Nat → Nat) (w : Wd) (tg : Nat → Nat) (y m2 m3 m4 m5 m6 m8 m9 m10 m11 m12 m13 m14 m17 m18 m19 m20 m21 m22 m23 m24 m29 m30 m31 m32 m33 m34 m35 m36 m37 m39 m40 m41 m42 m43 m44 m45 m46 m47 m48 m49 m51 m52 m53 m54 m56 m57 m58 m59 pc ac sc ln sh gf : Nat) (v0 td v27 v28 v50 : Int32) (f24 : Nat → Int32) (a0 : Nat) (c90 : wd_at w y (.inr (11, [.int v0, .int td, .ref m2, .ref m3, .ref m4, .ref m5, .ref m6, .int (nI pc), .ref m8, .ref m9, .ref m10, .ref m11, .ref m12, .ref m13, .ref m14, .int (nI ac), .int (nI sc), .ref m17, .ref m18, .ref m19, .ref m20, .ref m21, .ref m22, .ref m23, .ref m24, .int (nI ln), .int (nI a0), .int v27, .int v28, .ref m29, .ref m30, .ref m31, .ref m32, .ref m33, .ref m34, .ref m35, .ref m36, .ref m37, .int (nI sh), .ref m39, .ref m40, .ref m41, .ref m42, .ref m43, .ref m44, .ref m45, .ref m46, .ref m47, .ref m48, .ref m49, .int v50, .ref m51, .ref m52, .ref m53, .ref m54, .int (nI gf), .ref m56, .ref m57, .ref m58, .ref m59]))) (c91 : wd_at w m24 (.inl (cy 0, 300, .inl f24)))  (S : Nat → Prop) (s90 : S y) (ty : tg y = 10000) (tm24 : tg m24 = 10124) (hln : ln ≤ 300) (ha0 : a0 ≤ ln) : Ct l D cy sk sv yX11_isEnd wsX11_isEnd ({ frames := 0, cells := 0, slots := 0, locals := 0 }) [.ref y] w (fun v w1 => ∃ (a1 : Nat) (r1 : Int32), v = some (.int r1) ∧ (a0 ≤ a1) ∧ (a1 ≤ ln) ∧ (r1 = 0 ∨ r1 = 1) ∧ (r1 = 0 → a1 < ln) ∧ wd_kp S w w1 ∧ wd_at w1 y (.inr (11, [.int v0, .int td, .ref m2, .ref m3, .ref m4, .ref m5, .ref m6, .int (nI pc), .ref m8, .ref m9, .ref m10, .ref m11, .ref m12, .ref m13, .ref m14, .int (nI ac), .int (nI sc), .ref m17, .ref m18, .ref m19, .ref m20, .ref m21, .ref m22, .ref m23, .ref m24, .int (nI ln), .int (nI a1), .int (nI a1), .int v28, .ref m29, .ref m30, .ref m31, .ref m32, .ref m33, .ref m34, .ref m35, .ref m36, .ref m37, .int (nI sh), .ref m39, .ref m40, .ref m41, .ref m42, .ref m43, .ref m44, .ref m45, .ref m46, .ref m47, .ref m48, .ref m49, .int v50, .ref m51, .ref m52, .ref m53, .ref m54, .int (nI gf), .ref m56, .ref m57, .ref m58, .ref m59]))) := by
  refine Ct.by (cc := cX11_isEnd) (maxL := 1) (ret := (some .boolean)) (by decide +kernel) rfl (Nat.le_of_ble_eq_true rfl) ?_
  intro p e s m args below meth c A Q F hnm K ls hl
  have F : wd_Fx p s m args meth c cX11_isEnd 1 wsX11_isEnd RX11 D cy sk sv A := F
  have hl : lv_has ls 1 [(0, .ref y)] := hl
  have hx := F.1.1
  have hb := F.1.2.1
  have hown := F.1.2.2.2.1
  have hts := F.1.2.2.2.2
  intro H locs hP hD hS
  have kp0 : wd_kp S w w := wd_kp.rf
  have lp0 : ∀ (N : Nat) (a : Nat) (w1 : Wd), (a + N = ln) → (a0 ≤ a) → (wd_at w1 y (.inr (11, [.int v0, .int td, .ref m2, .ref m3, .ref m4, .ref m5, .ref m6, .int (nI pc), .ref m8, .ref m9, .ref m10, .ref m11, .ref m12, .ref m13, .ref m14, .int (nI ac), .int (nI sc), .ref m17, .ref m18, .ref m19, .ref m20, .ref m21, .ref m22, .ref m23, .ref m24, .int (nI ln), .int (nI a), .int v27, .int v28, .ref m29, .ref m30, .ref m31, .ref m32, .ref m33, .ref m34, .ref m35, .ref m36, .ref m37, .int (nI sh), .ref m39, .ref m40, .ref m41, .ref m42, .ref m43, .ref m44, .ref m45, .ref m46, .ref m47, .ref m48, .ref m49, .int v50, .ref m51, .ref m52, .ref m53, .ref m54, .int (nI gf), .ref m56, .ref m57, .ref m58, .ref m59]))) → (wd_at w1 m24 (.inl (cy 0, 300, .inl f24))) → (wd_kp S w w1) → ∀ (ls : Array Slot), lv_has ls 1 [(0, .ref y)] → Wv p l e ({ frames := 0, cells := 0, slots := 0, locals := 0 }) s m args below meth c D A (0) (0) Q w1 (F0 m 0 ls []) := by
    intro N
    induction N with
    | zero =>
      intro a w1 hN0 h0 k2 k3 kp4 ls hl H locs hP hD hS
      refine lv_aload_n hx hb dX11_isEnd_0 rfl (lv_at hl 0 rfl) ?_
      refine x_get (ref := "NoteHouseModel") F hP k2 rfl (fun _ h => List.mem_cons_of_mem _ (List.mem_append_right _ (h))) 26 (Nat.le_of_ble_eq_true rfl) (List.mem_cons_of_mem _ (List.mem_append_left _ (List.mem_of_getElem? (i := 0) rfl))) rfl rfl dX11_isEnd_1 ?_
      refine lv_aload_n hx hb dX11_isEnd_4 rfl (lv_at hl 0 rfl) ?_
      refine x_get (ref := "NoteHouseModel") F hP k2 rfl (fun _ h => List.mem_cons_of_mem _ (List.mem_append_right _ (h))) 25 (Nat.le_of_ble_eq_true rfl) (List.mem_cons_of_mem _ (List.mem_append_left _ (List.mem_of_getElem? (i := 1) rfl))) rfl rfl dX11_isEnd_5 ?_
      refine lv_icmp_ge (tgt := 38) hx hb dX11_isEnd_8 (by decide) (fun c_5 => ?_) (fun c_5 => absurd (nI_le (a := ln) (b := a) (by omega) (by omega)) c_5)
      refine lv_aload_n hx hb dX11_isEnd_38 rfl (lv_at hl 0 rfl) ?_
      refine lv_aload_n hx hb dX11_isEnd_39 rfl (lv_at hl 0 rfl) ?_
      refine x_get (ref := "NoteHouseModel") F hP k2 rfl (fun _ h => List.mem_cons_of_mem _ (List.mem_append_right _ (h))) 26 (Nat.le_of_ble_eq_true rfl) (List.mem_cons_of_mem _ (List.mem_append_left _ (List.mem_of_getElem? (i := 0) rfl))) rfl rfl dX11_isEnd_40 ?_
      refine y_put (ref := "NoteHouseModel") F hP hD hS k2 rfl (fun _ h => List.mem_cons_of_mem _ (List.mem_append_right _ (h))) tyX11_ok nmX11 27 (Nat.le_of_ble_eq_true rfl) (List.mem_cons_of_mem _ (List.mem_append_left _ (List.mem_of_getElem? (i := 3) rfl))) rfl rfl rfl rfl (Nat.le_of_ble_eq_true rfl) dX11_isEnd_43 (fun w6 ew7 H locs hP hD hS => ?_)
      have k8 : wd_at w6 y (.inr (11, [.int v0, .int td, .ref m2, .ref m3, .ref m4, .ref m5, .ref m6, .int (nI pc), .ref m8, .ref m9, .ref m10, .ref m11, .ref m12, .ref m13, .ref m14, .int (nI ac), .int (nI sc), .ref m17, .ref m18, .ref m19, .ref m20, .ref m21, .ref m22, .ref m23, .ref m24, .int (nI ln), .int (nI a), .int (nI a), .int v28, .ref m29, .ref m30, .ref m31, .ref m32, .ref m33, .ref m34, .ref m35, .ref m36, .ref m37, .int (nI sh), .ref m39, .ref m40, .ref m41, .ref m42, .ref m43, .ref m44, .ref m45, .ref m46, .ref m47, .ref m48, .ref m49, .int v50, .ref m51, .ref m52, .ref m53, .ref m54, .int (nI gf), .ref m56, .ref m57, .ref m58, .ref m59])) := wd_at.ps ew7 k2
      have k9 := wd_at.pt ew7 k3 (tg_ne tm24 ty (by decide))
      have kp10 := kp4.put ew7 s90
      refine lv_aload_n hx hb dX11_isEnd_46 rfl (lv_at hl 0 rfl) ?_
      refine x_get (ref := "NoteHouseModel") F hP k8 rfl (fun _ h => List.mem_cons_of_mem _ (List.mem_append_right _ (h))) 26 (Nat.le_of_ble_eq_true rfl) (List.mem_cons_of_mem _ (List.mem_append_left _ (List.mem_of_getElem? (i := 0) rfl))) rfl rfl dX11_isEnd_47 ?_
      refine lv_aload_n hx hb dX11_isEnd_50 rfl (lv_at hl 0 rfl) ?_
      refine x_get (ref := "NoteHouseModel") F hP k8 rfl (fun _ h => List.mem_cons_of_mem _ (List.mem_append_right _ (h))) 25 (Nat.le_of_ble_eq_true rfl) (List.mem_cons_of_mem _ (List.mem_append_left _ (List.mem_of_getElem? (i := 1) rfl))) rfl rfl dX11_isEnd_51 ?_
      refine lv_icmp_ne (tgt := 61) hx hb dX11_isEnd_54 (by decide) (fun c_11 => ?_) (fun c_11 => ?_)
      · refine lv_iconst (v := 0) hx hb dX11_isEnd_61 (by decide) ?_
        exact y_ir K hP hD hS (Nat.le_of_ble_eq_true rfl) (Nat.le_of_ble_eq_true rfl) (ty := .boolean) rfl rfl dX11_isEnd_62 (⟨a, 0, rfl, by omega, by omega, Or.inl rfl, fun _ => Nat.lt_of_le_of_ne (by omega) (fun q => c_11 (by rw [q])), kp10, k8⟩)
      · refine lv_iconst (v := 1) hx hb dX11_isEnd_57 (by decide) ?_
        refine lv_goto (tgt := 62) hx hb dX11_isEnd_58 (by decide) ?_
        exact y_ir K hP hD hS (Nat.le_of_ble_eq_true rfl) (Nat.le_of_ble_eq_true rfl) (ty := .boolean) rfl rfl dX11_isEnd_62 (⟨a, 1, rfl, by omega, by omega, Or.inr rfl, fun h => absurd h (by decide), kp10, k8⟩)
    | succ N ih0 =>
      intro a w1 hN0 h0 k2 k3 kp4 ls hl H locs hP hD hS
      refine lv_aload_n hx hb dX11_isEnd_0 rfl (lv_at hl 0 rfl) ?_
      refine x_get (ref := "NoteHouseModel") F hP k2 rfl (fun _ h => List.mem_cons_of_mem _ (List.mem_append_right _ (h))) 26 (Nat.le_of_ble_eq_true rfl) (List.mem_cons_of_mem _ (List.mem_append_left _ (List.mem_of_getElem? (i := 0) rfl))) rfl rfl dX11_isEnd_1 ?_
      refine lv_aload_n hx hb dX11_isEnd_4 rfl (lv_at hl 0 rfl) ?_
      refine x_get (ref := "NoteHouseModel") F hP k2 rfl (fun _ h => List.mem_cons_of_mem _ (List.mem_append_right _ (h))) 25 (Nat.le_of_ble_eq_true rfl) (List.mem_cons_of_mem _ (List.mem_append_left _ (List.mem_of_getElem? (i := 1) rfl))) rfl rfl dX11_isEnd_5 ?_
      refine lv_icmp_ge (tgt := 38) hx hb dX11_isEnd_8 (by decide) (fun c_12 => absurd c_12 (nI_ge (a := a) (b := ln) (by omega) (by omega))) (fun c_12 => ?_)
      refine lv_aload_n hx hb dX11_isEnd_11 rfl (lv_at hl 0 rfl) ?_
      refine x_get (ref := "NoteHouseModel") F hP k2 rfl (fun _ h => List.mem_cons_of_mem _ (List.mem_append_right _ (h))) 24 (Nat.le_of_ble_eq_true rfl) (List.mem_cons_of_mem _ (List.mem_append_left _ (List.mem_of_getElem? (i := 2) rfl))) rfl rfl dX11_isEnd_12 ?_
      refine lv_aload_n hx hb dX11_isEnd_15 rfl (lv_at hl 0 rfl) ?_
      refine x_get (ref := "NoteHouseModel") F hP k2 rfl (fun _ h => List.mem_cons_of_mem _ (List.mem_append_right _ (h))) 26 (Nat.le_of_ble_eq_true rfl) (List.mem_cons_of_mem _ (List.mem_append_left _ (List.mem_of_getElem? (i := 0) rfl))) rfl rfl dX11_isEnd_16 ?_
      refine x_bald F hP k3 (vp_in_nI (n := a) (N := 300) (by omega) (by decide)) dX11_isEnd_19 ?_
      refine lv_bipush (v := 32) hx hb dX11_isEnd_20 (by decide) ?_
      refine lv_icmp_ne (tgt := 38) hx hb dX11_isEnd_22 (by decide) (fun c_13 => ?_) (fun c_13 => ?_)
      · refine lv_aload_n hx hb dX11_isEnd_38 rfl (lv_at hl 0 rfl) ?_
        refine lv_aload_n hx hb dX11_isEnd_39 rfl (lv_at hl 0 rfl) ?_
        refine x_get (ref := "NoteHouseModel") F hP k2 rfl (fun _ h => List.mem_cons_of_mem _ (List.mem_append_right _ (h))) 26 (Nat.le_of_ble_eq_true rfl) (List.mem_cons_of_mem _ (List.mem_append_left _ (List.mem_of_getElem? (i := 0) rfl))) rfl rfl dX11_isEnd_40 ?_
        refine y_put (ref := "NoteHouseModel") F hP hD hS k2 rfl (fun _ h => List.mem_cons_of_mem _ (List.mem_append_right _ (h))) tyX11_ok nmX11 27 (Nat.le_of_ble_eq_true rfl) (List.mem_cons_of_mem _ (List.mem_append_left _ (List.mem_of_getElem? (i := 3) rfl))) rfl rfl rfl rfl (Nat.le_of_ble_eq_true rfl) dX11_isEnd_43 (fun w14 ew15 H locs hP hD hS => ?_)
        have k16 : wd_at w14 y (.inr (11, [.int v0, .int td, .ref m2, .ref m3, .ref m4, .ref m5, .ref m6, .int (nI pc), .ref m8, .ref m9, .ref m10, .ref m11, .ref m12, .ref m13, .ref m14, .int (nI ac), .int (nI sc), .ref m17, .ref m18, .ref m19, .ref m20, .ref m21, .ref m22, .ref m23, .ref m24, .int (nI ln), .int (nI a), .int (nI a), .int v28, .ref m29, .ref m30, .ref m31, .ref m32, .ref m33, .ref m34, .ref m35, .ref m36, .ref m37, .int (nI sh), .ref m39, .ref m40, .ref m41, .ref m42, .ref m43, .ref m44, .ref m45, .ref m46, .ref m47, .ref m48, .ref m49, .int v50, .ref m51, .ref m52, .ref m53, .ref m54, .int (nI gf), .ref m56, .ref m57, .ref m58, .ref m59])) := wd_at.ps ew15 k2
        have k17 := wd_at.pt ew15 k3 (tg_ne tm24 ty (by decide))
        have kp18 := kp4.put ew15 s90
        refine lv_aload_n hx hb dX11_isEnd_46 rfl (lv_at hl 0 rfl) ?_
        refine x_get (ref := "NoteHouseModel") F hP k16 rfl (fun _ h => List.mem_cons_of_mem _ (List.mem_append_right _ (h))) 26 (Nat.le_of_ble_eq_true rfl) (List.mem_cons_of_mem _ (List.mem_append_left _ (List.mem_of_getElem? (i := 0) rfl))) rfl rfl dX11_isEnd_47 ?_
        refine lv_aload_n hx hb dX11_isEnd_50 rfl (lv_at hl 0 rfl) ?_
        refine x_get (ref := "NoteHouseModel") F hP k16 rfl (fun _ h => List.mem_cons_of_mem _ (List.mem_append_right _ (h))) 25 (Nat.le_of_ble_eq_true rfl) (List.mem_cons_of_mem _ (List.mem_append_left _ (List.mem_of_getElem? (i := 1) rfl))) rfl rfl dX11_isEnd_51 ?_
        refine lv_icmp_ne (tgt := 61) hx hb dX11_isEnd_54 (by decide) (fun c_19 => ?_) (fun c_19 => ?_)
        · refine lv_iconst (v := 0) hx hb dX11_isEnd_61 (by decide) ?_
          exact y_ir K hP hD hS (Nat.le_of_ble_eq_true rfl) (Nat.le_of_ble_eq_true rfl) (ty := .boolean) rfl rfl dX11_isEnd_62 (⟨a, 0, rfl, by omega, by omega, Or.inl rfl, fun _ => Nat.lt_of_le_of_ne (by omega) (fun q => c_19 (by rw [q])), kp18, k16⟩)
        · refine lv_iconst (v := 1) hx hb dX11_isEnd_57 (by decide) ?_
          refine lv_goto (tgt := 62) hx hb dX11_isEnd_58 (by decide) ?_
          exact y_ir K hP hD hS (Nat.le_of_ble_eq_true rfl) (Nat.le_of_ble_eq_true rfl) (ty := .boolean) rfl rfl dX11_isEnd_62 (⟨a, 1, rfl, by omega, by omega, Or.inr rfl, fun h => absurd h (by decide), kp18, k16⟩)
      · refine lv_aload_n hx hb dX11_isEnd_25 rfl (lv_at hl 0 rfl) ?_
        refine lv_dup hx hb dX11_isEnd_26 rfl ?_
        refine x_get (ref := "NoteHouseModel") F hP k2 rfl (fun _ h => List.mem_cons_of_mem _ (List.mem_append_right _ (h))) 26 (Nat.le_of_ble_eq_true rfl) (List.mem_cons_of_mem _ (List.mem_append_left _ (List.mem_of_getElem? (i := 0) rfl))) rfl rfl dX11_isEnd_27 ?_
        refine lv_iconst (v := 1) hx hb dX11_isEnd_30 (by decide) ?_
        refine lv_iadd hx hb dX11_isEnd_31 ?_
        rw [show ((nI a) + 1 : Int32) = nI (a + 1) from nI_add a 1]
        refine y_put (ref := "NoteHouseModel") F hP hD hS k2 rfl (fun _ h => List.mem_cons_of_mem _ (List.mem_append_right _ (h))) tyX11_ok nmX11 26 (Nat.le_of_ble_eq_true rfl) (List.mem_cons_of_mem _ (List.mem_append_left _ (List.mem_of_getElem? (i := 0) rfl))) rfl rfl rfl rfl (Nat.le_of_ble_eq_true rfl) dX11_isEnd_32 (fun w20 ew21 H locs hP hD hS => ?_)
        have k22 : wd_at w20 y (.inr (11, [.int v0, .int td, .ref m2, .ref m3, .ref m4, .ref m5, .ref m6, .int (nI pc), .ref m8, .ref m9, .ref m10, .ref m11, .ref m12, .ref m13, .ref m14, .int (nI ac), .int (nI sc), .ref m17, .ref m18, .ref m19, .ref m20, .ref m21, .ref m22, .ref m23, .ref m24, .int (nI ln), .int (nI (a + 1)), .int v27, .int v28, .ref m29, .ref m30, .ref m31, .ref m32, .ref m33, .ref m34, .ref m35, .ref m36, .ref m37, .int (nI sh), .ref m39, .ref m40, .ref m41, .ref m42, .ref m43, .ref m44, .ref m45, .ref m46, .ref m47, .ref m48, .ref m49, .int v50, .ref m51, .ref m52, .ref m53, .ref m54, .int (nI gf), .ref m56, .ref m57, .ref m58, .ref m59])) := wd_at.ps ew21 k2
        have k23 := wd_at.pt ew21 k3 (tg_ne tm24 ty (by decide))
        have kp24 := kp4.put ew21 s90
        refine lv_goto (tgt := 0) hx hb dX11_isEnd_35 (by decide) ?_
        exact ih0 (a + 1) w20 (by omega) (by omega) k22 k23 kp24 ls (lv_sub hl [0] rfl) H locs hP hD hS
  exact lp0 (ln - a0) a0 w (by omega) (Nat.le_refl a0) c90 c91 kp0 ls (lv_sub hl [0] rfl) H locs hP hD hS
set_option maxHeartbeats 4000000 in
set_option maxRecDepth 100000 in
theorem m_isLetter (l : Launch) (D : va_G) (cy : Nat → ClassId) (sk sv : Nat → Nat) (w : Wd) (tg : Nat → Nat) (y m2 m3 m4 m5 m6 m8 m9 m10 m11 m12 m13 m14 m17 m18 m19 m20 m21 m22 m23 m24 m29 m30 m31 m32 m33 m34 m35 m36 m37 m39 m40 m41 m42 m43 m44 m45 m46 m47 m48 m49 m51 m52 m53 m54 m56 m57 m58 m59 pc ac sc ln sh gf : Nat) (v0 td v27 v28 v50 : Int32) (f24 : Nat → Int32) (a0 : Nat) (c90 : wd_at w y (.inr (11, [.int v0, .int td, .ref m2, .ref m3, .ref m4, .ref m5, .ref m6, .int (nI pc), .ref m8, .ref m9, .ref m10, .ref m11, .ref m12, .ref m13, .ref m14, .int (nI ac), .int (nI sc), .ref m17, .ref m18, .ref m19, .ref m20, .ref m21, .ref m22, .ref m23, .ref m24, .int (nI ln), .int (nI a0), .int v27, .int v28, .ref m29, .ref m30, .ref m31, .ref m32, .ref m33, .ref m34, .ref m35, .ref m36, .ref m37, .int (nI sh), .ref m39, .ref m40, .ref m41, .ref m42, .ref m43, .ref m44, .ref m45, .ref m46, .ref m47, .ref m48, .ref m49, .int v50, .ref m51, .ref m52, .ref m53, .ref m54, .int (nI gf), .ref m56, .ref m57, .ref m58, .ref m59]))) (c91 : wd_at w m24 (.inl (cy 0, 300, .inl f24)))  (ty : tg y = 10000) (tm24 : tg m24 = 10124) (hln : ln ≤ 300) (ha0 : a0 ≤ ln) : Ct l D cy sk sv yX11_isLetter wsX11_isLetter ({ frames := 0, cells := 0, slots := 0, locals := 0 }) [.ref y] w (fun v w1 => ∃ (r1 : Int32), v = some (.int r1) ∧ (r1 = 0 ∨ r1 = 1) ∧ (¬ r1 = 0 → a0 < ln) ∧ w = w1) := by
  refine Ct.by (cc := cX11_isLetter) (maxL := 1) (ret := (some .boolean)) (by decide +kernel) rfl (Nat.le_of_ble_eq_true rfl) ?_
  intro p e s m args below meth c A Q F hnm K ls hl
  have F : wd_Fx p s m args meth c cX11_isLetter 1 wsX11_isLetter RX11 D cy sk sv A := F
  have hl : lv_has ls 1 [(0, .ref y)] := hl
  have hx := F.1.1
  have hb := F.1.2.1
  have hown := F.1.2.2.2.1
  have hts := F.1.2.2.2.2
  intro H locs hP hD hS
  refine lv_aload_n hx hb dX11_isLetter_0 rfl (lv_at hl 0 rfl) ?_
  refine x_get (ref := "NoteHouseModel") F hP c90 rfl (fun _ h => List.mem_cons_of_mem _ (List.mem_append_right _ (h))) 26 (Nat.le_of_ble_eq_true rfl) (List.mem_cons_of_mem _ (List.mem_append_left _ (List.mem_of_getElem? (i := 0) rfl))) rfl rfl dX11_isLetter_1 ?_
  refine lv_aload_n hx hb dX11_isLetter_4 rfl (lv_at hl 0 rfl) ?_
  refine x_get (ref := "NoteHouseModel") F hP c90 rfl (fun _ h => List.mem_cons_of_mem _ (List.mem_append_right _ (h))) 25 (Nat.le_of_ble_eq_true rfl) (List.mem_cons_of_mem _ (List.mem_append_left _ (List.mem_of_getElem? (i := 1) rfl))) rfl rfl dX11_isLetter_5 ?_
  refine lv_icmp_ge (tgt := 43) hx hb dX11_isLetter_8 (by decide) (fun c_1 => ?_) (fun c_1 => ?_)
  · refine lv_iconst (v := 0) hx hb dX11_isLetter_43 (by decide) ?_
    exact y_ir K hP hD hS (Nat.le_of_ble_eq_true rfl) (Nat.le_of_ble_eq_true rfl) (ty := .boolean) rfl rfl dX11_isLetter_44 (⟨0, rfl, Or.inl rfl, fun h => absurd rfl h, rfl⟩)
  · have hlt9 := nI_lt_of c_1 (by omega)
    refine lv_aload_n hx hb dX11_isLetter_11 rfl (lv_at hl 0 rfl) ?_
    refine x_get (ref := "NoteHouseModel") F hP c90 rfl (fun _ h => List.mem_cons_of_mem _ (List.mem_append_right _ (h))) 24 (Nat.le_of_ble_eq_true rfl) (List.mem_cons_of_mem _ (List.mem_append_left _ (List.mem_of_getElem? (i := 2) rfl))) rfl rfl dX11_isLetter_12 ?_
    refine lv_aload_n hx hb dX11_isLetter_15 rfl (lv_at hl 0 rfl) ?_
    refine x_get (ref := "NoteHouseModel") F hP c90 rfl (fun _ h => List.mem_cons_of_mem _ (List.mem_append_right _ (h))) 26 (Nat.le_of_ble_eq_true rfl) (List.mem_cons_of_mem _ (List.mem_append_left _ (List.mem_of_getElem? (i := 0) rfl))) rfl rfl dX11_isLetter_16 ?_
    refine x_bald F hP c91 (vp_in_nI (n := a0) (N := 300) (by omega) (by decide)) dX11_isLetter_19 ?_
    refine lv_bipush (v := 97) hx hb dX11_isLetter_20 (by decide) ?_
    refine lv_icmp_lt (tgt := 43) hx hb dX11_isLetter_22 (by decide) (fun c_2 => ?_) (fun c_2 => ?_)
    · refine lv_iconst (v := 0) hx hb dX11_isLetter_43 (by decide) ?_
      exact y_ir K hP hD hS (Nat.le_of_ble_eq_true rfl) (Nat.le_of_ble_eq_true rfl) (ty := .boolean) rfl rfl dX11_isLetter_44 (⟨0, rfl, Or.inl rfl, fun h => absurd rfl h, rfl⟩)
    · refine lv_aload_n hx hb dX11_isLetter_25 rfl (lv_at hl 0 rfl) ?_
      refine x_get (ref := "NoteHouseModel") F hP c90 rfl (fun _ h => List.mem_cons_of_mem _ (List.mem_append_right _ (h))) 24 (Nat.le_of_ble_eq_true rfl) (List.mem_cons_of_mem _ (List.mem_append_left _ (List.mem_of_getElem? (i := 2) rfl))) rfl rfl dX11_isLetter_26 ?_
      refine lv_aload_n hx hb dX11_isLetter_29 rfl (lv_at hl 0 rfl) ?_
      refine x_get (ref := "NoteHouseModel") F hP c90 rfl (fun _ h => List.mem_cons_of_mem _ (List.mem_append_right _ (h))) 26 (Nat.le_of_ble_eq_true rfl) (List.mem_cons_of_mem _ (List.mem_append_left _ (List.mem_of_getElem? (i := 0) rfl))) rfl rfl dX11_isLetter_30 ?_
      refine x_bald F hP c91 (vp_in_nI (n := a0) (N := 300) (by omega) (by decide)) dX11_isLetter_33 ?_
      refine lv_bipush (v := 122) hx hb dX11_isLetter_34 (by decide) ?_
      refine lv_icmp_gt (tgt := 43) hx hb dX11_isLetter_36 (by decide) (fun c_3 => ?_) (fun c_3 => ?_)
      · refine lv_iconst (v := 0) hx hb dX11_isLetter_43 (by decide) ?_
        exact y_ir K hP hD hS (Nat.le_of_ble_eq_true rfl) (Nat.le_of_ble_eq_true rfl) (ty := .boolean) rfl rfl dX11_isLetter_44 (⟨0, rfl, Or.inl rfl, fun h => absurd rfl h, rfl⟩)
      · refine lv_iconst (v := 1) hx hb dX11_isLetter_39 (by decide) ?_
        refine lv_goto (tgt := 44) hx hb dX11_isLetter_40 (by decide) ?_
        exact y_ir K hP hD hS (Nat.le_of_ble_eq_true rfl) (Nat.le_of_ble_eq_true rfl) (ty := .boolean) rfl rfl dX11_isLetter_44 (⟨1, rfl, Or.inr rfl, fun _ => hlt9, rfl⟩)
set_option maxHeartbeats 4000000 in
set_option maxRecDepth 100000 in
theorem m_word (l : Launch) (D : va_G) (cy : Nat → ClassId) (sk sv : Nat → Nat) (w : Wd) (tg : Nat → Nat) (y m2 m3 m4 m5 m6 m8 m9 m10 m11 m12 m13 m14 m17 m18 m19 m20 m21 m22 m23 m24 m29 m30 m31 m32 m33 m34 m35 m36 m37 m39 m40 m41 m42 m43 m44 m45 m46 m47 m48 m49 m51 m52 m53 m54 m56 m57 m58 m59 pc ac sc ln sh gf : Nat) (v0 td v27 v50 : Int32) (f24 : Nat → Int32) (a0 fv : Nat) (c90 : wd_at w y (.inr (11, [.int v0, .int td, .ref m2, .ref m3, .ref m4, .ref m5, .ref m6, .int (nI pc), .ref m8, .ref m9, .ref m10, .ref m11, .ref m12, .ref m13, .ref m14, .int (nI ac), .int (nI sc), .ref m17, .ref m18, .ref m19, .ref m20, .ref m21, .ref m22, .ref m23, .ref m24, .int (nI ln), .int (nI a0), .int v27, .int (nI fv), .ref m29, .ref m30, .ref m31, .ref m32, .ref m33, .ref m34, .ref m35, .ref m36, .ref m37, .int (nI sh), .ref m39, .ref m40, .ref m41, .ref m42, .ref m43, .ref m44, .ref m45, .ref m46, .ref m47, .ref m48, .ref m49, .int v50, .ref m51, .ref m52, .ref m53, .ref m54, .int (nI gf), .ref m56, .ref m57, .ref m58, .ref m59]))) (c91 : wd_at w m24 (.inl (cy 0, 300, .inl f24)))  (S : Nat → Prop) (s90 : S y) (ty : tg y = 10000) (tm24 : tg m24 = 10124) (hln : ln ≤ 300) (ha0 : a0 ≤ ln) (hfv : fv < 2000) : Ct l D cy sk sv yX11_word wsX11_word ({ frames := 1, cells := 0, slots := 0, locals := 22 }) [.ref y] w (fun v w1 => ∃ (a1 : Nat) (b1 : Nat) (fv1 : Nat), v = none ∧ (a0 ≤ b1) ∧ (b1 ≤ a1) ∧ (a1 ≤ ln) ∧ (fv1 < 2000) ∧ wd_kp S w w1 ∧ wd_at w1 y (.inr (11, [.int v0, .int td, .ref m2, .ref m3, .ref m4, .ref m5, .ref m6, .int (nI pc), .ref m8, .ref m9, .ref m10, .ref m11, .ref m12, .ref m13, .ref m14, .int (nI ac), .int (nI sc), .ref m17, .ref m18, .ref m19, .ref m20, .ref m21, .ref m22, .ref m23, .ref m24, .int (nI ln), .int (nI a1), .int (nI b1), .int (nI fv1), .ref m29, .ref m30, .ref m31, .ref m32, .ref m33, .ref m34, .ref m35, .ref m36, .ref m37, .int (nI sh), .ref m39, .ref m40, .ref m41, .ref m42, .ref m43, .ref m44, .ref m45, .ref m46, .ref m47, .ref m48, .ref m49, .int v50, .ref m51, .ref m52, .ref m53, .ref m54, .int (nI gf), .ref m56, .ref m57, .ref m58, .ref m59]))) := by
  refine Ct.by (cc := cX11_word) (maxL := 1) (ret := none) (by decide +kernel) rfl (Nat.le_of_ble_eq_true rfl) ?_
  intro p e s m args below meth c A Q F hnm K ls hl
  have F : wd_Fx p s m args meth c cX11_word 1 wsX11_word RX11 D cy sk sv A := F
  have hl : lv_has ls 1 [(0, .ref y)] := hl
  have hx := F.1.1
  have hb := F.1.2.1
  have hown := F.1.2.2.2.1
  have hts := F.1.2.2.2.2
  intro H locs hP hD hS
  have kp0 : wd_kp S w w := wd_kp.rf
  refine lv_aload_n hx hb dX11_word_0 rfl (lv_at hl 0 rfl) ?_
  refine x_callV (n := 0) (As := []) (rest := []) F hP hD hS (m_isEnd l D cy sk sv w tg y m2 m3 m4 m5 m6 m8 m9 m10 m11 m12 m13 m14 m17 m18 m19 m20 m21 m22 m23 m24 m29 m30 m31 m32 m33 m34 m35 m36 m37 m39 m40 m41 m42 m43 m44 m45 m46 m47 m48 m49 m51 m52 m53 m54 m56 m57 m58 m59 pc ac sc ln sh gf v0 td v27 (nI fv) v50 f24 a0 c90 c91 (fun b => b = y) rfl ty tm24 (by omega) (by omega)) gX11_word_X11_isEnd rfl rfl (by decide +kernel) ⟨(Nat.le_of_ble_eq_true rfl), (Nat.le_of_ble_eq_true rfl)⟩ rfl hl.1 (Nat.le_of_ble_eq_true rfl) c90 rfl dX11_word_1 rfl ⟨(Nat.le_of_ble_eq_true rfl), (Nat.le_of_ble_eq_true rfl)⟩ (fun v2 w3 hp1 H locs hP hD hS => ?_)
  obtain ⟨ax4, rx5, rfl, hz6, hz7, hz8, hz9, kq11, k10⟩ := hp1
  have k12 := kq11.2 _ _ c91 (tg_ne tm24 ty (by decide))
  have kp13 := kp0.tr kq11 (fun b9 hm q9 => (fun q9 => q9 ▸ s90) q9)
  refine W.eq (g2 := F0 m 4 ls [.int rx5]) rfl (W.widen (k := 0) (n := 0) (Nat.le_of_ble_eq_true rfl) (Nat.le_of_ble_eq_true rfl) ?_)
  refine lv_pop hx hb dX11_word_4 rfl ?_
  have lp5 : ∀ (N : Nat) (a : Nat) (w14 : Wd), (a + N = ln) → (ax4 ≤ a) → (a ≤ ln) → (wd_at w14 y (.inr (11, [.int v0, .int td, .ref m2, .ref m3, .ref m4, .ref m5, .ref m6, .int (nI pc), .ref m8, .ref m9, .ref m10, .ref m11, .ref m12, .ref m13, .ref m14, .int (nI ac), .int (nI sc), .ref m17, .ref m18, .ref m19, .ref m20, .ref m21, .ref m22, .ref m23, .ref m24, .int (nI ln), .int (nI a), .int (nI ax4), .int (nI fv), .ref m29, .ref m30, .ref m31, .ref m32, .ref m33, .ref m34, .ref m35, .ref m36, .ref m37, .int (nI sh), .ref m39, .ref m40, .ref m41, .ref m42, .ref m43, .ref m44, .ref m45, .ref m46, .ref m47, .ref m48, .ref m49, .int v50, .ref m51, .ref m52, .ref m53, .ref m54, .int (nI gf), .ref m56, .ref m57, .ref m58, .ref m59]))) → (wd_at w14 m24 (.inl (cy 0, 300, .inl f24))) → (wd_kp S w w14) → ∀ (ls : Array Slot), lv_has ls 1 [(0, .ref y)] → Wv p l e ({ frames := 1, cells := 0, slots := 0, locals := 22 }) s m args below meth c D A (0) (0) Q w14 (F0 m 5 ls []) := by
    intro N
    induction N with
    | zero =>
      intro a w14 hN5 hbf hal k15 k16 kp17 ls hl H locs hP hD hS
      refine lv_aload_n hx hb dX11_word_5 rfl (lv_at hl 0 rfl) ?_
      refine x_callV (n := 0) (As := []) (rest := []) F hP hD hS (m_isLetter l D cy sk sv w14 tg y m2 m3 m4 m5 m6 m8 m9 m10 m11 m12 m13 m14 m17 m18 m19 m20 m21 m22 m23 m24 m29 m30 m31 m32 m33 m34 m35 m36 m37 m39 m40 m41 m42 m43 m44 m45 m46 m47 m48 m49 m51 m52 m53 m54 m56 m57 m58 m59 pc ac sc ln sh gf v0 td (nI ax4) (nI fv) v50 f24 a k15 k16 ty tm24 (by omega) (by omega)) gX11_word_X11_isLetter rfl rfl (by decide +kernel) ⟨(Nat.le_of_ble_eq_true rfl), (Nat.le_of_ble_eq_true rfl)⟩ rfl hl.1 (Nat.le_of_ble_eq_true rfl) k15 rfl dX11_word_6 rfl ⟨(Nat.le_of_ble_eq_true rfl), (Nat.le_of_ble_eq_true rfl)⟩ (fun v19 w20 hp18 H locs hP hD hS => ?_)
      obtain ⟨rx21, rfl, hz22, hz23, rfl⟩ := hp18
      refine W.eq (g2 := F0 m 9 ls [.int rx21]) rfl (W.widen (k := 0) (n := 0) (Nat.le_of_ble_eq_true rfl) (Nat.le_of_ble_eq_true rfl) ?_)
      refine lv_if_eq (tgt := 25) hx hb dX11_word_9 (by decide) (fun c_24 => ?_) (fun c_24 => absurd (Classical.byContradiction (fun h9 => absurd (hz23 h9) (by omega))) c_24)
      refine lv_aload_n hx hb dX11_word_25 rfl (lv_at hl 0 rfl) ?_
      refine x_get (ref := "NoteHouseModel") F hP k15 rfl (fun _ h => List.mem_cons_of_mem _ (List.mem_append_right _ (h))) 26 (Nat.le_of_ble_eq_true rfl) (List.mem_cons_of_mem _ (List.mem_append_left _ (List.mem_of_getElem? (i := 0) rfl))) rfl rfl dX11_word_26 ?_
      refine lv_aload_n hx hb dX11_word_29 rfl (lv_at hl 0 rfl) ?_
      refine x_get (ref := "NoteHouseModel") F hP k15 rfl (fun _ h => List.mem_cons_of_mem _ (List.mem_append_right _ (h))) 27 (Nat.le_of_ble_eq_true rfl) (List.mem_cons_of_mem _ (List.mem_append_left _ (List.mem_of_getElem? (i := 1) rfl))) rfl rfl dX11_word_30 ?_
      refine lv_icmp_ne (tgt := 45) hx hb dX11_word_33 (by decide) (fun c_25 => ?_) (fun c_25 => ?_)
      · exact y_vr K hP hD hS (Nat.le_of_ble_eq_true rfl) (Nat.le_of_ble_eq_true rfl) rfl dX11_word_45 (⟨a, ax4, fv, rfl, by omega, by omega, by omega, by omega, kp17, k15⟩)
      · refine lv_aload_n hx hb dX11_word_36 rfl (lv_at hl 0 rfl) ?_
        refine lv_iconst (v := 0) hx hb dX11_word_37 (by decide) ?_
        refine lv_aload_n hx hb dX11_word_38 rfl (lv_at hl 0 rfl) ?_
        refine x_get (ref := "NoteHouseModel") F hP k15 rfl (fun _ h => List.mem_cons_of_mem _ (List.mem_append_right _ (h))) 27 (Nat.le_of_ble_eq_true rfl) (List.mem_cons_of_mem _ (List.mem_append_left _ (List.mem_of_getElem? (i := 1) rfl))) rfl rfl dX11_word_39 ?_
        refine x_callV (n := 2) (As := [.int 0, .int (nI ax4)]) (rest := []) F hP hD hS (m_fails l D cy sk sv w14 tg y m2 m3 m4 m5 m6 m8 m9 m10 m11 m12 m13 m14 m17 m18 m19 m20 m21 m22 m23 m24 m29 m30 m31 m32 m33 m34 m35 m36 m37 m39 m40 m41 m42 m43 m44 m45 m46 m47 m48 m49 m51 m52 m53 m54 m56 m57 m58 m59 pc ac sc ln sh gf v0 td (nI a) (nI ax4) v50 fv 0 ax4 k15 (fun b => b = y) rfl ty (by omega) (by omega) (by omega)) gX11_word_X11_fails rfl rfl (by decide +kernel) ⟨(Nat.le_of_ble_eq_true rfl), (Nat.le_of_ble_eq_true rfl)⟩ rfl hl.1 (Nat.le_of_ble_eq_true rfl) k15 rfl dX11_word_42 rfl ⟨(Nat.le_of_ble_eq_true rfl), (Nat.le_of_ble_eq_true rfl)⟩ (fun v27 w28 hp26 H locs hP hD hS => ?_)
        obtain ⟨fwx29, rfl, hz30, hz31, kq33, k32⟩ := hp26
        have k34 := kq33.2 _ _ k16 (tg_ne tm24 ty (by decide))
        have kp35 := kp17.tr kq33 (fun b9 hm q9 => (fun q9 => q9 ▸ s90) q9)
        refine W.eq (g2 := F0 m 45 ls []) rfl (W.widen (k := 0) (n := 0) (Nat.le_of_ble_eq_true rfl) (Nat.le_of_ble_eq_true rfl) ?_)
        exact y_vr K hP hD hS (Nat.le_of_ble_eq_true rfl) (Nat.le_of_ble_eq_true rfl) rfl dX11_word_45 (⟨a, ax4, fwx29, rfl, by omega, by omega, by omega, by omega, kp35, k32⟩)
    | succ N ih5 =>
      intro a w14 hN5 hbf hal k15 k16 kp17 ls hl H locs hP hD hS
      refine lv_aload_n hx hb dX11_word_5 rfl (lv_at hl 0 rfl) ?_
      refine x_callV (n := 0) (As := []) (rest := []) F hP hD hS (m_isLetter l D cy sk sv w14 tg y m2 m3 m4 m5 m6 m8 m9 m10 m11 m12 m13 m14 m17 m18 m19 m20 m21 m22 m23 m24 m29 m30 m31 m32 m33 m34 m35 m36 m37 m39 m40 m41 m42 m43 m44 m45 m46 m47 m48 m49 m51 m52 m53 m54 m56 m57 m58 m59 pc ac sc ln sh gf v0 td (nI ax4) (nI fv) v50 f24 a k15 k16 ty tm24 (by omega) (by omega)) gX11_word_X11_isLetter rfl rfl (by decide +kernel) ⟨(Nat.le_of_ble_eq_true rfl), (Nat.le_of_ble_eq_true rfl)⟩ rfl hl.1 (Nat.le_of_ble_eq_true rfl) k15 rfl dX11_word_6 rfl ⟨(Nat.le_of_ble_eq_true rfl), (Nat.le_of_ble_eq_true rfl)⟩ (fun v37 w38 hp36 H locs hP hD hS => ?_)
      obtain ⟨rx39, rfl, hz40, hz41, rfl⟩ := hp36
      refine W.eq (g2 := F0 m 9 ls [.int rx39]) rfl (W.widen (k := 0) (n := 0) (Nat.le_of_ble_eq_true rfl) (Nat.le_of_ble_eq_true rfl) ?_)
      refine lv_if_eq (tgt := 25) hx hb dX11_word_9 (by decide) (fun c_42 => ?_) (fun c_42 => ?_)
      · refine lv_aload_n hx hb dX11_word_25 rfl (lv_at hl 0 rfl) ?_
        refine x_get (ref := "NoteHouseModel") F hP k15 rfl (fun _ h => List.mem_cons_of_mem _ (List.mem_append_right _ (h))) 26 (Nat.le_of_ble_eq_true rfl) (List.mem_cons_of_mem _ (List.mem_append_left _ (List.mem_of_getElem? (i := 0) rfl))) rfl rfl dX11_word_26 ?_
        refine lv_aload_n hx hb dX11_word_29 rfl (lv_at hl 0 rfl) ?_
        refine x_get (ref := "NoteHouseModel") F hP k15 rfl (fun _ h => List.mem_cons_of_mem _ (List.mem_append_right _ (h))) 27 (Nat.le_of_ble_eq_true rfl) (List.mem_cons_of_mem _ (List.mem_append_left _ (List.mem_of_getElem? (i := 1) rfl))) rfl rfl dX11_word_30 ?_
        refine lv_icmp_ne (tgt := 45) hx hb dX11_word_33 (by decide) (fun c_43 => ?_) (fun c_43 => ?_)
        · exact y_vr K hP hD hS (Nat.le_of_ble_eq_true rfl) (Nat.le_of_ble_eq_true rfl) rfl dX11_word_45 (⟨a, ax4, fv, rfl, by omega, by omega, by omega, by omega, kp17, k15⟩)
        · refine lv_aload_n hx hb dX11_word_36 rfl (lv_at hl 0 rfl) ?_
          refine lv_iconst (v := 0) hx hb dX11_word_37 (by decide) ?_
          refine lv_aload_n hx hb dX11_word_38 rfl (lv_at hl 0 rfl) ?_
          refine x_get (ref := "NoteHouseModel") F hP k15 rfl (fun _ h => List.mem_cons_of_mem _ (List.mem_append_right _ (h))) 27 (Nat.le_of_ble_eq_true rfl) (List.mem_cons_of_mem _ (List.mem_append_left _ (List.mem_of_getElem? (i := 1) rfl))) rfl rfl dX11_word_39 ?_
          refine x_callV (n := 2) (As := [.int 0, .int (nI ax4)]) (rest := []) F hP hD hS (m_fails l D cy sk sv w14 tg y m2 m3 m4 m5 m6 m8 m9 m10 m11 m12 m13 m14 m17 m18 m19 m20 m21 m22 m23 m24 m29 m30 m31 m32 m33 m34 m35 m36 m37 m39 m40 m41 m42 m43 m44 m45 m46 m47 m48 m49 m51 m52 m53 m54 m56 m57 m58 m59 pc ac sc ln sh gf v0 td (nI a) (nI ax4) v50 fv 0 ax4 k15 (fun b => b = y) rfl ty (by omega) (by omega) (by omega)) gX11_word_X11_fails rfl rfl (by decide +kernel) ⟨(Nat.le_of_ble_eq_true rfl), (Nat.le_of_ble_eq_true rfl)⟩ rfl hl.1 (Nat.le_of_ble_eq_true rfl) k15 rfl dX11_word_42 rfl ⟨(Nat.le_of_ble_eq_true rfl), (Nat.le_of_ble_eq_true rfl)⟩ (fun v45 w46 hp44 H locs hP hD hS => ?_)
          obtain ⟨fwx47, rfl, hz48, hz49, kq51, k50⟩ := hp44
          have k52 := kq51.2 _ _ k16 (tg_ne tm24 ty (by decide))
          have kp53 := kp17.tr kq51 (fun b9 hm q9 => (fun q9 => q9 ▸ s90) q9)
          refine W.eq (g2 := F0 m 45 ls []) rfl (W.widen (k := 0) (n := 0) (Nat.le_of_ble_eq_true rfl) (Nat.le_of_ble_eq_true rfl) ?_)
          exact y_vr K hP hD hS (Nat.le_of_ble_eq_true rfl) (Nat.le_of_ble_eq_true rfl) rfl dX11_word_45 (⟨a, ax4, fwx47, rfl, by omega, by omega, by omega, by omega, kp53, k50⟩)
      · have hlg := hz41 c_42
        refine lv_aload_n hx hb dX11_word_12 rfl (lv_at hl 0 rfl) ?_
        refine lv_dup hx hb dX11_word_13 rfl ?_
        refine x_get (ref := "NoteHouseModel") F hP k15 rfl (fun _ h => List.mem_cons_of_mem _ (List.mem_append_right _ (h))) 26 (Nat.le_of_ble_eq_true rfl) (List.mem_cons_of_mem _ (List.mem_append_left _ (List.mem_of_getElem? (i := 0) rfl))) rfl rfl dX11_word_14 ?_
        refine lv_iconst (v := 1) hx hb dX11_word_17 (by decide) ?_
        refine lv_iadd hx hb dX11_word_18 ?_
        rw [show ((nI a) + 1 : Int32) = nI (a + 1) from nI_add a 1]
        refine y_put (ref := "NoteHouseModel") F hP hD hS k15 rfl (fun _ h => List.mem_cons_of_mem _ (List.mem_append_right _ (h))) tyX11_ok nmX11 26 (Nat.le_of_ble_eq_true rfl) (List.mem_cons_of_mem _ (List.mem_append_left _ (List.mem_of_getElem? (i := 0) rfl))) rfl rfl rfl rfl (Nat.le_of_ble_eq_true rfl) dX11_word_19 (fun w54 ew55 H locs hP hD hS => ?_)
        have k56 : wd_at w54 y (.inr (11, [.int v0, .int td, .ref m2, .ref m3, .ref m4, .ref m5, .ref m6, .int (nI pc), .ref m8, .ref m9, .ref m10, .ref m11, .ref m12, .ref m13, .ref m14, .int (nI ac), .int (nI sc), .ref m17, .ref m18, .ref m19, .ref m20, .ref m21, .ref m22, .ref m23, .ref m24, .int (nI ln), .int (nI (a + 1)), .int (nI ax4), .int (nI fv), .ref m29, .ref m30, .ref m31, .ref m32, .ref m33, .ref m34, .ref m35, .ref m36, .ref m37, .int (nI sh), .ref m39, .ref m40, .ref m41, .ref m42, .ref m43, .ref m44, .ref m45, .ref m46, .ref m47, .ref m48, .ref m49, .int v50, .ref m51, .ref m52, .ref m53, .ref m54, .int (nI gf), .ref m56, .ref m57, .ref m58, .ref m59])) := wd_at.ps ew55 k15
        have k57 := wd_at.pt ew55 k16 (tg_ne tm24 ty (by decide))
        have kp58 := kp17.put ew55 s90
        refine lv_goto (tgt := 5) hx hb dX11_word_22 (by decide) ?_
        exact ih5 (a + 1) w54 (by omega) (by omega) (by omega) k56 k57 kp58 ls (lv_sub hl [0] rfl) H locs hP hD hS
  exact lp5 (ln - ax4) ax4 w3 (by omega) (by omega) (by omega) k10 k12 kp13 ls (lv_sub hl [0] rfl) H locs hP hD hS
set_option maxHeartbeats 4000000 in
set_option maxRecDepth 100000 in
theorem m_is (l : Launch) (D : va_G) (cy : Nat → ClassId) (sk sv : Nat → Nat) (w : Wd) (tg : Nat → Nat) (y m2 m3 m4 m5 m6 m8 m9 m10 m11 m12 m13 m14 m17 m18 m19 m20 m21 m22 m23 m24 m29 m30 m31 m32 m33 m34 m35 m36 m37 m39 m40 m41 m42 m43 m44 m45 m46 m47 m48 m49 m51 m52 m53 m54 m56 m57 m58 m59 pc ac sc ln sh gf : Nat) (v0 td v28 v50 : Int32) (f24 : Nat → Int32) (a0 b0 i : Nat) (c90 : wd_at w y (.inr (11, [.int v0, .int td, .ref m2, .ref m3, .ref m4, .ref m5, .ref m6, .int (nI pc), .ref m8, .ref m9, .ref m10, .ref m11, .ref m12, .ref m13, .ref m14, .int (nI ac), .int (nI sc), .ref m17, .ref m18, .ref m19, .ref m20, .ref m21, .ref m22, .ref m23, .ref m24, .int (nI ln), .int (nI a0), .int (nI b0), .int v28, .ref m29, .ref m30, .ref m31, .ref m32, .ref m33, .ref m34, .ref m35, .ref m36, .ref m37, .int (nI sh), .ref m39, .ref m40, .ref m41, .ref m42, .ref m43, .ref m44, .ref m45, .ref m46, .ref m47, .ref m48, .ref m49, .int v50, .ref m51, .ref m52, .ref m53, .ref m54, .int (nI gf), .ref m56, .ref m57, .ref m58, .ref m59]))) (c91 : wd_at w m24 (.inl (cy 0, 300, .inl f24)))  (ty : tg y = 10000) (tm24 : tg m24 = 10124) (hi : i < 23) (hba : b0 ≤ a0) (ha3 : a0 ≤ 300) : Ct l D cy sk sv yX11_is wsX11_is ({ frames := 4, cells := 0, slots := 0, locals := 85 }) [.ref y, .ref (sk i)] w (fun v w1 => ∃ (r1 : Int32), v = some (.int r1) ∧ (r1 = 0 ∨ r1 = 1) ∧ w = w1) := by
  refine Ct.by (cc := cX11_is) (maxL := 4) (ret := (some .boolean)) (by decide +kernel) rfl (Nat.le_of_ble_eq_true rfl) ?_
  intro p e s m args below meth c A Q F hnm K ls hl
  have F : wd_Fx p s m args meth c cX11_is 4 wsX11_is RX11 D cy sk sv A := F
  have hl : lv_has ls 4 [(0, .ref y), (1, .ref (sk i))] := hl
  have hx := F.1.1
  have hb := F.1.2.1
  have hown := F.1.2.2.2.1
  have hts := F.1.2.2.2.2
  intro H locs hP hD hS
  have h46 := st_46 i hi
  refine lv_aload_n hx hb dX11_is_0 rfl (lv_at hl 0 rfl) ?_
  refine x_get (ref := "NoteHouseModel") F hP c90 rfl (fun _ h => List.mem_cons_of_mem _ (List.mem_append_right _ (h))) 26 (Nat.le_of_ble_eq_true rfl) (List.mem_cons_of_mem _ (List.mem_append_left _ (List.mem_append_left _ (List.mem_of_getElem? (i := 0) rfl)))) rfl rfl dX11_is_1 ?_
  refine lv_aload_n hx hb dX11_is_4 rfl (lv_at hl 0 rfl) ?_
  refine x_get (ref := "NoteHouseModel") F hP c90 rfl (fun _ h => List.mem_cons_of_mem _ (List.mem_append_right _ (h))) 27 (Nat.le_of_ble_eq_true rfl) (List.mem_cons_of_mem _ (List.mem_append_left _ (List.mem_append_left _ (List.mem_of_getElem? (i := 1) rfl)))) rfl rfl dX11_is_5 ?_
  refine lv_isub hx hb dX11_is_8 ?_
  rw [show ((nI a0) - (nI b0) : Int32) = nI (a0 - b0) from pk_sub (a := a0) (b := b0) (by omega)]
  refine lv_aload_n hx hb dX11_is_9 rfl (lv_at hl 1 rfl) ?_
  refine x_callVs (n := 0) (As := []) (rest := [.int (nI (a0 - b0))]) F hP hD hS (by omega) (g_length l D cy sk sv w i (by omega)) gX11_is_J0_length_8abf5 rfl rfl (by decide +kernel) ⟨(Nat.le_of_ble_eq_true rfl), (Nat.le_of_ble_eq_true rfl)⟩ rfl hl.1 (Nat.le_of_ble_eq_true rfl) dX11_is_10 rfl ⟨(Nat.le_of_ble_eq_true rfl), (Nat.le_of_ble_eq_true rfl)⟩ (fun v2 w3 hp1 H locs hP hD hS => ?_)
  obtain ⟨rfl, rfl⟩ := hp1
  refine W.eq (g2 := F0 m 13 ls [.int (nI (st_len.getD i 0)), .int (nI (a0 - b0))]) rfl (W.widen (k := 0) (n := 0) (Nat.le_of_ble_eq_true rfl) (Nat.le_of_ble_eq_true rfl) ?_)
  refine lv_icmp_ne (tgt := 20) hx hb dX11_is_13 (by decide) (fun c_4 => ?_) (fun c_4 => ?_)
  · refine lv_iconst (v := 0) hx hb dX11_is_20 (by decide) ?_
    refine lv_istore_n (lv' := [(2, .int 0), (0, .ref y), (1, .ref (sk i))]) hx hb dX11_is_21 rfl hl (by decide) rfl (fun ls hl => ?_)
    refine lv_iconst (v := 0) hx hb dX11_is_22 (by decide) ?_
    refine lv_istore_n (lv' := [(3, .int 0), (2, .int 0), (0, .ref y), (1, .ref (sk i))]) hx hb dX11_is_23 rfl hl (by decide) rfl (fun ls hl => ?_)
    have lp24 : ∀ (N : Nat) (k : Nat) (r0 : Int32), (k + N = st_len.getD i 0) → (r0 = 0 ∨ r0 = 1) → (¬ r0 = 0 → a0 - b0 = st_len.getD i 0) → ∀ (ls : Array Slot), lv_has ls 4 [(0, .ref y), (1, .ref (sk i)), (2, .int r0), (3, .int (nI k))] → Wv p l e ({ frames := 4, cells := 0, slots := 0, locals := 85 }) s m args below meth c D A (0) (0) Q w (F0 m 24 ls []) := by
      intro N
      induction N with
      | zero =>
        intro k r0 hN24 hr hq ls hl H locs hP hD hS
        refine lv_iload_n hx hb dX11_is_24 rfl (lv_at hl 3 rfl) ?_
        refine lv_aload_n hx hb dX11_is_25 rfl (lv_at hl 1 rfl) ?_
        refine x_callVs (n := 0) (As := []) (rest := [.int (nI k)]) F hP hD hS (by omega) (g_length l D cy sk sv w i (by omega)) gX11_is_J0_length_8abf5 rfl rfl (by decide +kernel) ⟨(Nat.le_of_ble_eq_true rfl), (Nat.le_of_ble_eq_true rfl)⟩ rfl hl.1 (Nat.le_of_ble_eq_true rfl) dX11_is_26 rfl ⟨(Nat.le_of_ble_eq_true rfl), (Nat.le_of_ble_eq_true rfl)⟩ (fun v7 w8 hp6 H locs hP hD hS => ?_)
        obtain ⟨rfl, rfl⟩ := hp6
        refine W.eq (g2 := F0 m 29 ls [.int (nI (st_len.getD i 0)), .int (nI k)]) rfl (W.widen (k := 0) (n := 0) (Nat.le_of_ble_eq_true rfl) (Nat.le_of_ble_eq_true rfl) ?_)
        refine lv_icmp_ge (tgt := 67) hx hb dX11_is_29 (by decide) (fun c_9 => ?_) (fun c_9 => absurd (nI_le (a := st_len.getD i 0) (b := k) (by omega) (by omega)) c_9)
        refine lv_iload_n hx hb dX11_is_67 rfl (lv_at hl 2 rfl) ?_
        exact y_ir K hP hD hS (Nat.le_of_ble_eq_true rfl) (Nat.le_of_ble_eq_true rfl) (ty := .boolean) rfl (nb01 hr) dX11_is_68 (⟨r0, rfl, hr, rfl⟩)
      | succ N ih24 =>
        intro k r0 hN24 hr hq ls hl H locs hP hD hS
        refine lv_iload_n hx hb dX11_is_24 rfl (lv_at hl 3 rfl) ?_
        refine lv_aload_n hx hb dX11_is_25 rfl (lv_at hl 1 rfl) ?_
        refine x_callVs (n := 0) (As := []) (rest := [.int (nI k)]) F hP hD hS (by omega) (g_length l D cy sk sv w i (by omega)) gX11_is_J0_length_8abf5 rfl rfl (by decide +kernel) ⟨(Nat.le_of_ble_eq_true rfl), (Nat.le_of_ble_eq_true rfl)⟩ rfl hl.1 (Nat.le_of_ble_eq_true rfl) dX11_is_26 rfl ⟨(Nat.le_of_ble_eq_true rfl), (Nat.le_of_ble_eq_true rfl)⟩ (fun v11 w12 hp10 H locs hP hD hS => ?_)
        obtain ⟨rfl, rfl⟩ := hp10
        refine W.eq (g2 := F0 m 29 ls [.int (nI (st_len.getD i 0)), .int (nI k)]) rfl (W.widen (k := 0) (n := 0) (Nat.le_of_ble_eq_true rfl) (Nat.le_of_ble_eq_true rfl) ?_)
        refine lv_icmp_ge (tgt := 67) hx hb dX11_is_29 (by decide) (fun c_13 => absurd c_13 (nI_ge (a := k) (b := st_len.getD i 0) (by omega) (by omega))) (fun c_13 => ?_)
        refine lv_iload_n hx hb dX11_is_32 rfl (lv_at hl 2 rfl) ?_
        refine lv_if_eq (tgt := 67) hx hb dX11_is_33 (by decide) (fun c_14 => ?_) (fun c_14 => ?_)
        · refine lv_iload_n hx hb dX11_is_67 rfl (lv_at hl 2 rfl) ?_
          exact y_ir K hP hD hS (Nat.le_of_ble_eq_true rfl) (Nat.le_of_ble_eq_true rfl) (ty := .boolean) rfl (nb01 hr) dX11_is_68 (⟨r0, rfl, hr, rfl⟩)
        · have hz := hq c_14
          refine lv_aload_n hx hb dX11_is_36 rfl (lv_at hl 0 rfl) ?_
          refine x_get (ref := "NoteHouseModel") F hP c90 rfl (fun _ h => List.mem_cons_of_mem _ (List.mem_append_right _ (h))) 24 (Nat.le_of_ble_eq_true rfl) (List.mem_cons_of_mem _ (List.mem_append_left _ (List.mem_append_left _ (List.mem_of_getElem? (i := 2) rfl)))) rfl rfl dX11_is_37 ?_
          refine lv_aload_n hx hb dX11_is_40 rfl (lv_at hl 0 rfl) ?_
          refine x_get (ref := "NoteHouseModel") F hP c90 rfl (fun _ h => List.mem_cons_of_mem _ (List.mem_append_right _ (h))) 27 (Nat.le_of_ble_eq_true rfl) (List.mem_cons_of_mem _ (List.mem_append_left _ (List.mem_append_left _ (List.mem_of_getElem? (i := 1) rfl)))) rfl rfl dX11_is_41 ?_
          refine lv_iload_n hx hb dX11_is_44 rfl (lv_at hl 3 rfl) ?_
          refine lv_iadd hx hb dX11_is_45 ?_
          rw [show ((nI b0) + (nI k) : Int32) = nI (b0 + k) from nI_add b0 k]
          refine x_bald F hP c91 (vp_in_nI (n := (b0 + k)) (N := 300) (by omega) (by decide)) dX11_is_46 ?_
          refine lv_aload_n hx hb dX11_is_47 rfl (lv_at hl 1 rfl) ?_
          refine lv_iload_n hx hb dX11_is_48 rfl (lv_at hl 3 rfl) ?_
          refine x_callVs (n := 1) (As := [.int (nI k)]) (rest := [.int (f24 (nI (b0 + k)).toNatClampNeg)]) F hP hD hS (by omega) (g_charAt l D cy sk sv w i k (by omega) (by omega)) gX11_is_J0_charAt_5068e rfl rfl (by decide +kernel) ⟨(Nat.le_of_ble_eq_true rfl), (Nat.le_of_ble_eq_true rfl)⟩ rfl hl.1 (Nat.le_of_ble_eq_true rfl) dX11_is_49 rfl ⟨(Nat.le_of_ble_eq_true rfl), (Nat.le_of_ble_eq_true rfl)⟩ (fun v16 w17 hp15 H locs hP hD hS => ?_)
          obtain ⟨rfl, rfl⟩ := hp15
          refine W.eq (g2 := F0 m 52 ls [.int ((st_byt.getD i []).getD k 0), .int (f24 (nI (b0 + k)).toNatClampNeg)]) rfl (W.widen (k := 0) (n := 0) (Nat.le_of_ble_eq_true rfl) (Nat.le_of_ble_eq_true rfl) ?_)
          refine lv_icmp_ne (tgt := 59) hx hb dX11_is_52 (by decide) (fun c_18 => ?_) (fun c_18 => ?_)
          · refine lv_iconst (v := 0) hx hb dX11_is_59 (by decide) ?_
            refine lv_istore_n (lv' := [(2, .int 0), (0, .ref y), (1, .ref (sk i)), (3, .int (nI k))]) hx hb dX11_is_60 rfl hl (by decide) rfl (fun ls hl => ?_)
            refine lv_iinc (v := nI (k + 1)) (lv' := [(3, .int (nI (k + 1))), (2, .int 0), (0, .ref y), (1, .ref (sk i))]) hx hb dX11_is_61 hl (k := 3) rfl (nI_1 k) (by decide) rfl (fun ls hl => ?_)
            refine lv_goto (tgt := 24) hx hb dX11_is_64 (by decide) ?_
            exact ih24 (k + 1) 0  (by omega) (Or.inl rfl) (fun h => absurd rfl h)   ls (lv_sub hl [2, 3, 1, 0] rfl) H locs hP hD hS
          · refine lv_iconst (v := 1) hx hb dX11_is_55 (by decide) ?_
            refine lv_goto (tgt := 60) hx hb dX11_is_56 (by decide) ?_
            refine lv_istore_n (lv' := [(2, .int 1), (0, .ref y), (1, .ref (sk i)), (3, .int (nI k))]) hx hb dX11_is_60 rfl hl (by decide) rfl (fun ls hl => ?_)
            refine lv_iinc (v := nI (k + 1)) (lv' := [(3, .int (nI (k + 1))), (2, .int 1), (0, .ref y), (1, .ref (sk i))]) hx hb dX11_is_61 hl (k := 3) rfl (nI_1 k) (by decide) rfl (fun ls hl => ?_)
            refine lv_goto (tgt := 24) hx hb dX11_is_64 (by decide) ?_
            exact ih24 (k + 1) 1  (by omega) (Or.inr rfl) (fun _ => hz)   ls (lv_sub hl [2, 3, 1, 0] rfl) H locs hP hD hS
    exact lp24 _ 0 0  (Nat.zero_add (st_len.getD i 0)) (Or.inl rfl) (fun h => absurd rfl h)   ls (lv_sub hl [2, 3, 1, 0] rfl) H locs hP hD hS
  · have hsl : a0 - b0 = st_len.getD i 0 := (nI_eq (by omega) (by omega)).mp c_4
    refine lv_iconst (v := 1) hx hb dX11_is_16 (by decide) ?_
    refine lv_goto (tgt := 21) hx hb dX11_is_17 (by decide) ?_
    refine lv_istore_n (lv' := [(2, .int 1), (0, .ref y), (1, .ref (sk i))]) hx hb dX11_is_21 rfl hl (by decide) rfl (fun ls hl => ?_)
    refine lv_iconst (v := 0) hx hb dX11_is_22 (by decide) ?_
    refine lv_istore_n (lv' := [(3, .int 0), (2, .int 1), (0, .ref y), (1, .ref (sk i))]) hx hb dX11_is_23 rfl hl (by decide) rfl (fun ls hl => ?_)
    have lp24 : ∀ (N : Nat) (k : Nat) (r0 : Int32), (k + N = st_len.getD i 0) → (r0 = 0 ∨ r0 = 1) → (¬ r0 = 0 → a0 - b0 = st_len.getD i 0) → ∀ (ls : Array Slot), lv_has ls 4 [(0, .ref y), (1, .ref (sk i)), (2, .int r0), (3, .int (nI k))] → Wv p l e ({ frames := 4, cells := 0, slots := 0, locals := 85 }) s m args below meth c D A (0) (0) Q w (F0 m 24 ls []) := by
      intro N
      induction N with
      | zero =>
        intro k r0 hN24 hr hq ls hl H locs hP hD hS
        refine lv_iload_n hx hb dX11_is_24 rfl (lv_at hl 3 rfl) ?_
        refine lv_aload_n hx hb dX11_is_25 rfl (lv_at hl 1 rfl) ?_
        refine x_callVs (n := 0) (As := []) (rest := [.int (nI k)]) F hP hD hS (by omega) (g_length l D cy sk sv w i (by omega)) gX11_is_J0_length_8abf5 rfl rfl (by decide +kernel) ⟨(Nat.le_of_ble_eq_true rfl), (Nat.le_of_ble_eq_true rfl)⟩ rfl hl.1 (Nat.le_of_ble_eq_true rfl) dX11_is_26 rfl ⟨(Nat.le_of_ble_eq_true rfl), (Nat.le_of_ble_eq_true rfl)⟩ (fun v21 w22 hp20 H locs hP hD hS => ?_)
        obtain ⟨rfl, rfl⟩ := hp20
        refine W.eq (g2 := F0 m 29 ls [.int (nI (st_len.getD i 0)), .int (nI k)]) rfl (W.widen (k := 0) (n := 0) (Nat.le_of_ble_eq_true rfl) (Nat.le_of_ble_eq_true rfl) ?_)
        refine lv_icmp_ge (tgt := 67) hx hb dX11_is_29 (by decide) (fun c_23 => ?_) (fun c_23 => absurd (nI_le (a := st_len.getD i 0) (b := k) (by omega) (by omega)) c_23)
        refine lv_iload_n hx hb dX11_is_67 rfl (lv_at hl 2 rfl) ?_
        exact y_ir K hP hD hS (Nat.le_of_ble_eq_true rfl) (Nat.le_of_ble_eq_true rfl) (ty := .boolean) rfl (nb01 hr) dX11_is_68 (⟨r0, rfl, hr, rfl⟩)
      | succ N ih24 =>
        intro k r0 hN24 hr hq ls hl H locs hP hD hS
        refine lv_iload_n hx hb dX11_is_24 rfl (lv_at hl 3 rfl) ?_
        refine lv_aload_n hx hb dX11_is_25 rfl (lv_at hl 1 rfl) ?_
        refine x_callVs (n := 0) (As := []) (rest := [.int (nI k)]) F hP hD hS (by omega) (g_length l D cy sk sv w i (by omega)) gX11_is_J0_length_8abf5 rfl rfl (by decide +kernel) ⟨(Nat.le_of_ble_eq_true rfl), (Nat.le_of_ble_eq_true rfl)⟩ rfl hl.1 (Nat.le_of_ble_eq_true rfl) dX11_is_26 rfl ⟨(Nat.le_of_ble_eq_true rfl), (Nat.le_of_ble_eq_true rfl)⟩ (fun v25 w26 hp24 H locs hP hD hS => ?_)
        obtain ⟨rfl, rfl⟩ := hp24
        refine W.eq (g2 := F0 m 29 ls [.int (nI (st_len.getD i 0)), .int (nI k)]) rfl (W.widen (k := 0) (n := 0) (Nat.le_of_ble_eq_true rfl) (Nat.le_of_ble_eq_true rfl) ?_)
        refine lv_icmp_ge (tgt := 67) hx hb dX11_is_29 (by decide) (fun c_27 => absurd c_27 (nI_ge (a := k) (b := st_len.getD i 0) (by omega) (by omega))) (fun c_27 => ?_)
        refine lv_iload_n hx hb dX11_is_32 rfl (lv_at hl 2 rfl) ?_
        refine lv_if_eq (tgt := 67) hx hb dX11_is_33 (by decide) (fun c_28 => ?_) (fun c_28 => ?_)
        · refine lv_iload_n hx hb dX11_is_67 rfl (lv_at hl 2 rfl) ?_
          exact y_ir K hP hD hS (Nat.le_of_ble_eq_true rfl) (Nat.le_of_ble_eq_true rfl) (ty := .boolean) rfl (nb01 hr) dX11_is_68 (⟨r0, rfl, hr, rfl⟩)
        · have hz := hq c_28
          refine lv_aload_n hx hb dX11_is_36 rfl (lv_at hl 0 rfl) ?_
          refine x_get (ref := "NoteHouseModel") F hP c90 rfl (fun _ h => List.mem_cons_of_mem _ (List.mem_append_right _ (h))) 24 (Nat.le_of_ble_eq_true rfl) (List.mem_cons_of_mem _ (List.mem_append_left _ (List.mem_append_left _ (List.mem_of_getElem? (i := 2) rfl)))) rfl rfl dX11_is_37 ?_
          refine lv_aload_n hx hb dX11_is_40 rfl (lv_at hl 0 rfl) ?_
          refine x_get (ref := "NoteHouseModel") F hP c90 rfl (fun _ h => List.mem_cons_of_mem _ (List.mem_append_right _ (h))) 27 (Nat.le_of_ble_eq_true rfl) (List.mem_cons_of_mem _ (List.mem_append_left _ (List.mem_append_left _ (List.mem_of_getElem? (i := 1) rfl)))) rfl rfl dX11_is_41 ?_
          refine lv_iload_n hx hb dX11_is_44 rfl (lv_at hl 3 rfl) ?_
          refine lv_iadd hx hb dX11_is_45 ?_
          rw [show ((nI b0) + (nI k) : Int32) = nI (b0 + k) from nI_add b0 k]
          refine x_bald F hP c91 (vp_in_nI (n := (b0 + k)) (N := 300) (by omega) (by decide)) dX11_is_46 ?_
          refine lv_aload_n hx hb dX11_is_47 rfl (lv_at hl 1 rfl) ?_
          refine lv_iload_n hx hb dX11_is_48 rfl (lv_at hl 3 rfl) ?_
          refine x_callVs (n := 1) (As := [.int (nI k)]) (rest := [.int (f24 (nI (b0 + k)).toNatClampNeg)]) F hP hD hS (by omega) (g_charAt l D cy sk sv w i k (by omega) (by omega)) gX11_is_J0_charAt_5068e rfl rfl (by decide +kernel) ⟨(Nat.le_of_ble_eq_true rfl), (Nat.le_of_ble_eq_true rfl)⟩ rfl hl.1 (Nat.le_of_ble_eq_true rfl) dX11_is_49 rfl ⟨(Nat.le_of_ble_eq_true rfl), (Nat.le_of_ble_eq_true rfl)⟩ (fun v30 w31 hp29 H locs hP hD hS => ?_)
          obtain ⟨rfl, rfl⟩ := hp29
          refine W.eq (g2 := F0 m 52 ls [.int ((st_byt.getD i []).getD k 0), .int (f24 (nI (b0 + k)).toNatClampNeg)]) rfl (W.widen (k := 0) (n := 0) (Nat.le_of_ble_eq_true rfl) (Nat.le_of_ble_eq_true rfl) ?_)
          refine lv_icmp_ne (tgt := 59) hx hb dX11_is_52 (by decide) (fun c_32 => ?_) (fun c_32 => ?_)
          · refine lv_iconst (v := 0) hx hb dX11_is_59 (by decide) ?_
            refine lv_istore_n (lv' := [(2, .int 0), (0, .ref y), (1, .ref (sk i)), (3, .int (nI k))]) hx hb dX11_is_60 rfl hl (by decide) rfl (fun ls hl => ?_)
            refine lv_iinc (v := nI (k + 1)) (lv' := [(3, .int (nI (k + 1))), (2, .int 0), (0, .ref y), (1, .ref (sk i))]) hx hb dX11_is_61 hl (k := 3) rfl (nI_1 k) (by decide) rfl (fun ls hl => ?_)
            refine lv_goto (tgt := 24) hx hb dX11_is_64 (by decide) ?_
            exact ih24 (k + 1) 0  (by omega) (Or.inl rfl) (fun h => absurd rfl h)   ls (lv_sub hl [2, 3, 1, 0] rfl) H locs hP hD hS
          · refine lv_iconst (v := 1) hx hb dX11_is_55 (by decide) ?_
            refine lv_goto (tgt := 60) hx hb dX11_is_56 (by decide) ?_
            refine lv_istore_n (lv' := [(2, .int 1), (0, .ref y), (1, .ref (sk i)), (3, .int (nI k))]) hx hb dX11_is_60 rfl hl (by decide) rfl (fun ls hl => ?_)
            refine lv_iinc (v := nI (k + 1)) (lv' := [(3, .int (nI (k + 1))), (2, .int 1), (0, .ref y), (1, .ref (sk i))]) hx hb dX11_is_61 hl (k := 3) rfl (nI_1 k) (by decide) rfl (fun ls hl => ?_)
            refine lv_goto (tgt := 24) hx hb dX11_is_64 (by decide) ?_
            exact ih24 (k + 1) 1  (by omega) (Or.inr rfl) (fun _ => hz)   ls (lv_sub hl [2, 3, 1, 0] rfl) H locs hP hD hS
    exact lp24 _ 0 1  (Nat.zero_add (st_len.getD i 0)) (Or.inr rfl) (fun _ => hsl)   ls (lv_sub hl [2, 3, 1, 0] rfl) H locs hP hD hS
set_option maxHeartbeats 4000000 in
set_option maxRecDepth 100000 in
theorem m_number (l : Launch) (D : va_G) (cy : Nat → ClassId) (sk sv : Nat → Nat) (w : Wd) (tg : Nat → Nat) (y m2 m3 m4 m5 m6 m8 m9 m10 m11 m12 m13 m14 m17 m18 m19 m20 m21 m22 m23 m24 m29 m30 m31 m32 m33 m34 m35 m36 m37 m39 m40 m41 m42 m43 m44 m45 m46 m47 m48 m49 m51 m52 m53 m54 m56 m57 m58 m59 pc ac sc ln sh gf : Nat) (v0 td v27 v50 : Int32) (f24 : Nat → Int32) (a0 fv : Nat) (x : Int32) (c90 : wd_at w y (.inr (11, [.int v0, .int td, .ref m2, .ref m3, .ref m4, .ref m5, .ref m6, .int (nI pc), .ref m8, .ref m9, .ref m10, .ref m11, .ref m12, .ref m13, .ref m14, .int (nI ac), .int (nI sc), .ref m17, .ref m18, .ref m19, .ref m20, .ref m21, .ref m22, .ref m23, .ref m24, .int (nI ln), .int (nI a0), .int v27, .int (nI fv), .ref m29, .ref m30, .ref m31, .ref m32, .ref m33, .ref m34, .ref m35, .ref m36, .ref m37, .int (nI sh), .ref m39, .ref m40, .ref m41, .ref m42, .ref m43, .ref m44, .ref m45, .ref m46, .ref m47, .ref m48, .ref m49, .int v50, .ref m51, .ref m52, .ref m53, .ref m54, .int (nI gf), .ref m56, .ref m57, .ref m58, .ref m59]))) (c91 : wd_at w m24 (.inl (cy 0, 300, .inl f24)))  (S : Nat → Prop) (s90 : S y) (ty : tg y = 10000) (tm24 : tg m24 = 10124) (hln : ln ≤ 300) (ha0 : a0 ≤ ln) (hfv : fv < 2000) : Ct l D cy sk sv yX11_number wsX11_number ({ frames := 1, cells := 0, slots := 0, locals := 22 }) [.ref y, .int x] w (fun v w1 => ∃ (a1 : Nat) (b1 : Nat) (fv1 : Nat) (r1 : Int32), v = some (.int r1) ∧ (a0 ≤ b1) ∧ (b1 ≤ a1) ∧ (a1 ≤ ln) ∧ (fv1 < 2000) ∧ wd_kp S w w1 ∧ wd_at w1 y (.inr (11, [.int v0, .int td, .ref m2, .ref m3, .ref m4, .ref m5, .ref m6, .int (nI pc), .ref m8, .ref m9, .ref m10, .ref m11, .ref m12, .ref m13, .ref m14, .int (nI ac), .int (nI sc), .ref m17, .ref m18, .ref m19, .ref m20, .ref m21, .ref m22, .ref m23, .ref m24, .int (nI ln), .int (nI a1), .int (nI b1), .int (nI fv1), .ref m29, .ref m30, .ref m31, .ref m32, .ref m33, .ref m34, .ref m35, .ref m36, .ref m37, .int (nI sh), .ref m39, .ref m40, .ref m41, .ref m42, .ref m43, .ref m44, .ref m45, .ref m46, .ref m47, .ref m48, .ref m49, .int v50, .ref m51, .ref m52, .ref m53, .ref m54, .int (nI gf), .ref m56, .ref m57, .ref m58, .ref m59]))) := by
  refine Ct.by (cc := cX11_number) (maxL := 3) (ret := (some .int)) (by decide +kernel) rfl (Nat.le_of_ble_eq_true rfl) ?_
  intro p e s m args below meth c A Q F hnm K ls hl
  have F : wd_Fx p s m args meth c cX11_number 3 wsX11_number RX11 D cy sk sv A := F
  have hl : lv_has ls 3 [(0, .ref y), (1, .int x)] := hl
  have hx := F.1.1
  have hb := F.1.2.1
  have hown := F.1.2.2.2.1
  have hts := F.1.2.2.2.2
  intro H locs hP hD hS
  have kp0 : wd_kp S w w := wd_kp.rf
  refine lv_aload_n hx hb dX11_number_0 rfl (lv_at hl 0 rfl) ?_
  refine x_callV (n := 0) (As := []) (rest := []) F hP hD hS (m_isEnd l D cy sk sv w tg y m2 m3 m4 m5 m6 m8 m9 m10 m11 m12 m13 m14 m17 m18 m19 m20 m21 m22 m23 m24 m29 m30 m31 m32 m33 m34 m35 m36 m37 m39 m40 m41 m42 m43 m44 m45 m46 m47 m48 m49 m51 m52 m53 m54 m56 m57 m58 m59 pc ac sc ln sh gf v0 td v27 (nI fv) v50 f24 a0 c90 c91 (fun b => b = y) rfl ty tm24 (by omega) (by omega)) gX11_number_X11_isEnd rfl rfl (by decide +kernel) ⟨(Nat.le_of_ble_eq_true rfl), (Nat.le_of_ble_eq_true rfl)⟩ rfl hl.1 (Nat.le_of_ble_eq_true rfl) c90 rfl dX11_number_1 rfl ⟨(Nat.le_of_ble_eq_true rfl), (Nat.le_of_ble_eq_true rfl)⟩ (fun v2 w3 hp1 H locs hP hD hS => ?_)
  obtain ⟨ax4, rx5, rfl, hz6, hz7, hz8, hz9, kq11, k10⟩ := hp1
  have k12 := kq11.2 _ _ c91 (tg_ne tm24 ty (by decide))
  have kp13 := kp0.tr kq11 (fun b9 hm q9 => (fun q9 => q9 ▸ s90) q9)
  refine W.eq (g2 := F0 m 4 ls [.int rx5]) rfl (W.widen (k := 0) (n := 0) (Nat.le_of_ble_eq_true rfl) (Nat.le_of_ble_eq_true rfl) ?_)
  refine lv_pop hx hb dX11_number_4 rfl ?_
  refine lv_iconst (v := 0) hx hb dX11_number_5 (by decide) ?_
  refine lv_istore_n (lv' := [(2, .int 0), (0, .ref y), (1, .int x)]) hx hb dX11_number_6 rfl hl (by decide) rfl (fun ls hl => ?_)
  have lp7 : ∀ (N : Nat) (u : Int32) (a : Nat) (w14 : Wd), (a + N = ln) → (ax4 ≤ a) → (a ≤ ln) → (wd_at w14 y (.inr (11, [.int v0, .int td, .ref m2, .ref m3, .ref m4, .ref m5, .ref m6, .int (nI pc), .ref m8, .ref m9, .ref m10, .ref m11, .ref m12, .ref m13, .ref m14, .int (nI ac), .int (nI sc), .ref m17, .ref m18, .ref m19, .ref m20, .ref m21, .ref m22, .ref m23, .ref m24, .int (nI ln), .int (nI a), .int (nI ax4), .int (nI fv), .ref m29, .ref m30, .ref m31, .ref m32, .ref m33, .ref m34, .ref m35, .ref m36, .ref m37, .int (nI sh), .ref m39, .ref m40, .ref m41, .ref m42, .ref m43, .ref m44, .ref m45, .ref m46, .ref m47, .ref m48, .ref m49, .int v50, .ref m51, .ref m52, .ref m53, .ref m54, .int (nI gf), .ref m56, .ref m57, .ref m58, .ref m59]))) → (wd_at w14 m24 (.inl (cy 0, 300, .inl f24))) → (wd_kp S w w14) → ∀ (ls : Array Slot), lv_has ls 3 [(0, .ref y), (1, .int x), (2, .int u)] → Wv p l e ({ frames := 1, cells := 0, slots := 0, locals := 22 }) s m args below meth c D A (0) (0) Q w14 (F0 m 7 ls []) := by
    intro N
    induction N with
    | zero =>
      intro u a w14 hN7 hbf hal k15 k16 kp17 ls hl H locs hP hD hS
      refine lv_aload_n hx hb dX11_number_7 rfl (lv_at hl 0 rfl) ?_
      refine x_get (ref := "NoteHouseModel") F hP k15 rfl (fun _ h => List.mem_cons_of_mem _ (List.mem_append_right _ (h))) 26 (Nat.le_of_ble_eq_true rfl) (List.mem_cons_of_mem _ (List.mem_append_left _ (List.mem_of_getElem? (i := 0) rfl))) rfl rfl dX11_number_8 ?_
      refine lv_aload_n hx hb dX11_number_11 rfl (lv_at hl 0 rfl) ?_
      refine x_get (ref := "NoteHouseModel") F hP k15 rfl (fun _ h => List.mem_cons_of_mem _ (List.mem_append_right _ (h))) 25 (Nat.le_of_ble_eq_true rfl) (List.mem_cons_of_mem _ (List.mem_append_left _ (List.mem_of_getElem? (i := 1) rfl))) rfl rfl dX11_number_12 ?_
      refine lv_icmp_ge (tgt := 94) hx hb dX11_number_15 (by decide) (fun c_18 => ?_) (fun c_18 => absurd (nI_le (a := ln) (b := a) (by omega) (by omega)) c_18)
      refine lv_aload_n hx hb dX11_number_94 rfl (lv_at hl 0 rfl) ?_
      refine x_get (ref := "NoteHouseModel") F hP k15 rfl (fun _ h => List.mem_cons_of_mem _ (List.mem_append_right _ (h))) 26 (Nat.le_of_ble_eq_true rfl) (List.mem_cons_of_mem _ (List.mem_append_left _ (List.mem_of_getElem? (i := 0) rfl))) rfl rfl dX11_number_95 ?_
      refine lv_aload_n hx hb dX11_number_98 rfl (lv_at hl 0 rfl) ?_
      refine x_get (ref := "NoteHouseModel") F hP k15 rfl (fun _ h => List.mem_cons_of_mem _ (List.mem_append_right _ (h))) 27 (Nat.le_of_ble_eq_true rfl) (List.mem_cons_of_mem _ (List.mem_append_left _ (List.mem_of_getElem? (i := 3) rfl))) rfl rfl dX11_number_99 ?_
      refine lv_icmp_ne (tgt := 117) hx hb dX11_number_102 (by decide) (fun c_19 => ?_) (fun c_19 => ?_)
      · refine lv_aload_n hx hb dX11_number_117 rfl (lv_at hl 0 rfl) ?_
        refine x_get (ref := "NoteHouseModel") F hP k15 rfl (fun _ h => List.mem_cons_of_mem _ (List.mem_append_right _ (h))) 26 (Nat.le_of_ble_eq_true rfl) (List.mem_cons_of_mem _ (List.mem_append_left _ (List.mem_of_getElem? (i := 0) rfl))) rfl rfl dX11_number_118 ?_
        refine lv_aload_n hx hb dX11_number_121 rfl (lv_at hl 0 rfl) ?_
        refine x_get (ref := "NoteHouseModel") F hP k15 rfl (fun _ h => List.mem_cons_of_mem _ (List.mem_append_right _ (h))) 27 (Nat.le_of_ble_eq_true rfl) (List.mem_cons_of_mem _ (List.mem_append_left _ (List.mem_of_getElem? (i := 3) rfl))) rfl rfl dX11_number_122 ?_
        refine lv_isub hx hb dX11_number_125 ?_
        refine lv_iload_n hx hb dX11_number_126 rfl (lv_at hl 1 rfl) ?_
        refine lv_icmp_le (tgt := 139) hx hb dX11_number_127 (by decide) (fun c_20 => ?_) (fun c_20 => ?_)
        · refine lv_iload_n hx hb dX11_number_139 rfl (lv_at hl 2 rfl) ?_
          exact y_ir K hP hD hS (Nat.le_of_ble_eq_true rfl) (Nat.le_of_ble_eq_true rfl) (ty := .int) rfl rfl dX11_number_140 (⟨a, ax4, fv, u, rfl, by omega, by omega, by omega, by omega, kp17, k15⟩)
        · refine lv_aload_n hx hb dX11_number_130 rfl (lv_at hl 0 rfl) ?_
          refine lv_iconst (v := 1) hx hb dX11_number_131 (by decide) ?_
          refine lv_aload_n hx hb dX11_number_132 rfl (lv_at hl 0 rfl) ?_
          refine x_get (ref := "NoteHouseModel") F hP k15 rfl (fun _ h => List.mem_cons_of_mem _ (List.mem_append_right _ (h))) 27 (Nat.le_of_ble_eq_true rfl) (List.mem_cons_of_mem _ (List.mem_append_left _ (List.mem_of_getElem? (i := 3) rfl))) rfl rfl dX11_number_133 ?_
          refine x_callV (n := 2) (As := [.int 1, .int (nI ax4)]) (rest := []) F hP hD hS (m_fails l D cy sk sv w14 tg y m2 m3 m4 m5 m6 m8 m9 m10 m11 m12 m13 m14 m17 m18 m19 m20 m21 m22 m23 m24 m29 m30 m31 m32 m33 m34 m35 m36 m37 m39 m40 m41 m42 m43 m44 m45 m46 m47 m48 m49 m51 m52 m53 m54 m56 m57 m58 m59 pc ac sc ln sh gf v0 td (nI a) (nI ax4) v50 fv 1 ax4 k15 (fun b => b = y) rfl ty (by omega) (by omega) (by omega)) gX11_number_X11_fails rfl rfl (by decide +kernel) ⟨(Nat.le_of_ble_eq_true rfl), (Nat.le_of_ble_eq_true rfl)⟩ rfl hl.1 (Nat.le_of_ble_eq_true rfl) k15 rfl dX11_number_136 rfl ⟨(Nat.le_of_ble_eq_true rfl), (Nat.le_of_ble_eq_true rfl)⟩ (fun v22 w23 hp21 H locs hP hD hS => ?_)
          obtain ⟨fwx24, rfl, hz25, hz26, kq28, k27⟩ := hp21
          have k29 := kq28.2 _ _ k16 (tg_ne tm24 ty (by decide))
          have kp30 := kp17.tr kq28 (fun b9 hm q9 => (fun q9 => q9 ▸ s90) q9)
          refine W.eq (g2 := F0 m 139 ls []) rfl (W.widen (k := 0) (n := 0) (Nat.le_of_ble_eq_true rfl) (Nat.le_of_ble_eq_true rfl) ?_)
          refine lv_iload_n hx hb dX11_number_139 rfl (lv_at hl 2 rfl) ?_
          exact y_ir K hP hD hS (Nat.le_of_ble_eq_true rfl) (Nat.le_of_ble_eq_true rfl) (ty := .int) rfl rfl dX11_number_140 (⟨a, ax4, fwx24, u, rfl, by omega, by omega, by omega, by omega, kp30, k27⟩)
      · refine lv_aload_n hx hb dX11_number_105 rfl (lv_at hl 0 rfl) ?_
        refine lv_iconst (v := 0) hx hb dX11_number_106 (by decide) ?_
        refine lv_aload_n hx hb dX11_number_107 rfl (lv_at hl 0 rfl) ?_
        refine x_get (ref := "NoteHouseModel") F hP k15 rfl (fun _ h => List.mem_cons_of_mem _ (List.mem_append_right _ (h))) 27 (Nat.le_of_ble_eq_true rfl) (List.mem_cons_of_mem _ (List.mem_append_left _ (List.mem_of_getElem? (i := 3) rfl))) rfl rfl dX11_number_108 ?_
        refine x_callV (n := 2) (As := [.int 0, .int (nI ax4)]) (rest := []) F hP hD hS (m_fails l D cy sk sv w14 tg y m2 m3 m4 m5 m6 m8 m9 m10 m11 m12 m13 m14 m17 m18 m19 m20 m21 m22 m23 m24 m29 m30 m31 m32 m33 m34 m35 m36 m37 m39 m40 m41 m42 m43 m44 m45 m46 m47 m48 m49 m51 m52 m53 m54 m56 m57 m58 m59 pc ac sc ln sh gf v0 td (nI a) (nI ax4) v50 fv 0 ax4 k15 (fun b => b = y) rfl ty (by omega) (by omega) (by omega)) gX11_number_X11_fails rfl rfl (by decide +kernel) ⟨(Nat.le_of_ble_eq_true rfl), (Nat.le_of_ble_eq_true rfl)⟩ rfl hl.1 (Nat.le_of_ble_eq_true rfl) k15 rfl dX11_number_111 rfl ⟨(Nat.le_of_ble_eq_true rfl), (Nat.le_of_ble_eq_true rfl)⟩ (fun v32 w33 hp31 H locs hP hD hS => ?_)
        obtain ⟨fwx34, rfl, hz35, hz36, kq38, k37⟩ := hp31
        have k39 := kq38.2 _ _ k16 (tg_ne tm24 ty (by decide))
        have kp40 := kp17.tr kq38 (fun b9 hm q9 => (fun q9 => q9 ▸ s90) q9)
        refine W.eq (g2 := F0 m 114 ls []) rfl (W.widen (k := 0) (n := 0) (Nat.le_of_ble_eq_true rfl) (Nat.le_of_ble_eq_true rfl) ?_)
        refine lv_goto (tgt := 139) hx hb dX11_number_114 (by decide) ?_
        refine lv_iload_n hx hb dX11_number_139 rfl (lv_at hl 2 rfl) ?_
        exact y_ir K hP hD hS (Nat.le_of_ble_eq_true rfl) (Nat.le_of_ble_eq_true rfl) (ty := .int) rfl rfl dX11_number_140 (⟨a, ax4, fwx34, u, rfl, by omega, by omega, by omega, by omega, kp40, k37⟩)
    | succ N ih7 =>
      intro u a w14 hN7 hbf hal k15 k16 kp17 ls hl H locs hP hD hS
      refine lv_aload_n hx hb dX11_number_7 rfl (lv_at hl 0 rfl) ?_
      refine x_get (ref := "NoteHouseModel") F hP k15 rfl (fun _ h => List.mem_cons_of_mem _ (List.mem_append_right _ (h))) 26 (Nat.le_of_ble_eq_true rfl) (List.mem_cons_of_mem _ (List.mem_append_left _ (List.mem_of_getElem? (i := 0) rfl))) rfl rfl dX11_number_8 ?_
      refine lv_aload_n hx hb dX11_number_11 rfl (lv_at hl 0 rfl) ?_
      refine x_get (ref := "NoteHouseModel") F hP k15 rfl (fun _ h => List.mem_cons_of_mem _ (List.mem_append_right _ (h))) 25 (Nat.le_of_ble_eq_true rfl) (List.mem_cons_of_mem _ (List.mem_append_left _ (List.mem_of_getElem? (i := 1) rfl))) rfl rfl dX11_number_12 ?_
      refine lv_icmp_ge (tgt := 94) hx hb dX11_number_15 (by decide) (fun c_41 => absurd c_41 (nI_ge (a := a) (b := ln) (by omega) (by omega))) (fun c_41 => ?_)
      refine lv_aload_n hx hb dX11_number_18 rfl (lv_at hl 0 rfl) ?_
      refine x_get (ref := "NoteHouseModel") F hP k15 rfl (fun _ h => List.mem_cons_of_mem _ (List.mem_append_right _ (h))) 24 (Nat.le_of_ble_eq_true rfl) (List.mem_cons_of_mem _ (List.mem_append_left _ (List.mem_of_getElem? (i := 2) rfl))) rfl rfl dX11_number_19 ?_
      refine lv_aload_n hx hb dX11_number_22 rfl (lv_at hl 0 rfl) ?_
      refine x_get (ref := "NoteHouseModel") F hP k15 rfl (fun _ h => List.mem_cons_of_mem _ (List.mem_append_right _ (h))) 26 (Nat.le_of_ble_eq_true rfl) (List.mem_cons_of_mem _ (List.mem_append_left _ (List.mem_of_getElem? (i := 0) rfl))) rfl rfl dX11_number_23 ?_
      refine x_bald F hP k16 (vp_in_nI (n := a) (N := 300) (by omega) (by decide)) dX11_number_26 ?_
      refine lv_bipush (v := 48) hx hb dX11_number_27 (by decide) ?_
      refine lv_icmp_lt (tgt := 94) hx hb dX11_number_29 (by decide) (fun c_42 => ?_) (fun c_42 => ?_)
      · refine lv_aload_n hx hb dX11_number_94 rfl (lv_at hl 0 rfl) ?_
        refine x_get (ref := "NoteHouseModel") F hP k15 rfl (fun _ h => List.mem_cons_of_mem _ (List.mem_append_right _ (h))) 26 (Nat.le_of_ble_eq_true rfl) (List.mem_cons_of_mem _ (List.mem_append_left _ (List.mem_of_getElem? (i := 0) rfl))) rfl rfl dX11_number_95 ?_
        refine lv_aload_n hx hb dX11_number_98 rfl (lv_at hl 0 rfl) ?_
        refine x_get (ref := "NoteHouseModel") F hP k15 rfl (fun _ h => List.mem_cons_of_mem _ (List.mem_append_right _ (h))) 27 (Nat.le_of_ble_eq_true rfl) (List.mem_cons_of_mem _ (List.mem_append_left _ (List.mem_of_getElem? (i := 3) rfl))) rfl rfl dX11_number_99 ?_
        refine lv_icmp_ne (tgt := 117) hx hb dX11_number_102 (by decide) (fun c_43 => ?_) (fun c_43 => ?_)
        · refine lv_aload_n hx hb dX11_number_117 rfl (lv_at hl 0 rfl) ?_
          refine x_get (ref := "NoteHouseModel") F hP k15 rfl (fun _ h => List.mem_cons_of_mem _ (List.mem_append_right _ (h))) 26 (Nat.le_of_ble_eq_true rfl) (List.mem_cons_of_mem _ (List.mem_append_left _ (List.mem_of_getElem? (i := 0) rfl))) rfl rfl dX11_number_118 ?_
          refine lv_aload_n hx hb dX11_number_121 rfl (lv_at hl 0 rfl) ?_
          refine x_get (ref := "NoteHouseModel") F hP k15 rfl (fun _ h => List.mem_cons_of_mem _ (List.mem_append_right _ (h))) 27 (Nat.le_of_ble_eq_true rfl) (List.mem_cons_of_mem _ (List.mem_append_left _ (List.mem_of_getElem? (i := 3) rfl))) rfl rfl dX11_number_122 ?_
          refine lv_isub hx hb dX11_number_125 ?_
          refine lv_iload_n hx hb dX11_number_126 rfl (lv_at hl 1 rfl) ?_
          refine lv_icmp_le (tgt := 139) hx hb dX11_number_127 (by decide) (fun c_44 => ?_) (fun c_44 => ?_)
          · refine lv_iload_n hx hb dX11_number_139 rfl (lv_at hl 2 rfl) ?_
            exact y_ir K hP hD hS (Nat.le_of_ble_eq_true rfl) (Nat.le_of_ble_eq_true rfl) (ty := .int) rfl rfl dX11_number_140 (⟨a, ax4, fv, u, rfl, by omega, by omega, by omega, by omega, kp17, k15⟩)
          · refine lv_aload_n hx hb dX11_number_130 rfl (lv_at hl 0 rfl) ?_
            refine lv_iconst (v := 1) hx hb dX11_number_131 (by decide) ?_
            refine lv_aload_n hx hb dX11_number_132 rfl (lv_at hl 0 rfl) ?_
            refine x_get (ref := "NoteHouseModel") F hP k15 rfl (fun _ h => List.mem_cons_of_mem _ (List.mem_append_right _ (h))) 27 (Nat.le_of_ble_eq_true rfl) (List.mem_cons_of_mem _ (List.mem_append_left _ (List.mem_of_getElem? (i := 3) rfl))) rfl rfl dX11_number_133 ?_
            refine x_callV (n := 2) (As := [.int 1, .int (nI ax4)]) (rest := []) F hP hD hS (m_fails l D cy sk sv w14 tg y m2 m3 m4 m5 m6 m8 m9 m10 m11 m12 m13 m14 m17 m18 m19 m20 m21 m22 m23 m24 m29 m30 m31 m32 m33 m34 m35 m36 m37 m39 m40 m41 m42 m43 m44 m45 m46 m47 m48 m49 m51 m52 m53 m54 m56 m57 m58 m59 pc ac sc ln sh gf v0 td (nI a) (nI ax4) v50 fv 1 ax4 k15 (fun b => b = y) rfl ty (by omega) (by omega) (by omega)) gX11_number_X11_fails rfl rfl (by decide +kernel) ⟨(Nat.le_of_ble_eq_true rfl), (Nat.le_of_ble_eq_true rfl)⟩ rfl hl.1 (Nat.le_of_ble_eq_true rfl) k15 rfl dX11_number_136 rfl ⟨(Nat.le_of_ble_eq_true rfl), (Nat.le_of_ble_eq_true rfl)⟩ (fun v46 w47 hp45 H locs hP hD hS => ?_)
            obtain ⟨fwx48, rfl, hz49, hz50, kq52, k51⟩ := hp45
            have k53 := kq52.2 _ _ k16 (tg_ne tm24 ty (by decide))
            have kp54 := kp17.tr kq52 (fun b9 hm q9 => (fun q9 => q9 ▸ s90) q9)
            refine W.eq (g2 := F0 m 139 ls []) rfl (W.widen (k := 0) (n := 0) (Nat.le_of_ble_eq_true rfl) (Nat.le_of_ble_eq_true rfl) ?_)
            refine lv_iload_n hx hb dX11_number_139 rfl (lv_at hl 2 rfl) ?_
            exact y_ir K hP hD hS (Nat.le_of_ble_eq_true rfl) (Nat.le_of_ble_eq_true rfl) (ty := .int) rfl rfl dX11_number_140 (⟨a, ax4, fwx48, u, rfl, by omega, by omega, by omega, by omega, kp54, k51⟩)
        · refine lv_aload_n hx hb dX11_number_105 rfl (lv_at hl 0 rfl) ?_
          refine lv_iconst (v := 0) hx hb dX11_number_106 (by decide) ?_
          refine lv_aload_n hx hb dX11_number_107 rfl (lv_at hl 0 rfl) ?_
          refine x_get (ref := "NoteHouseModel") F hP k15 rfl (fun _ h => List.mem_cons_of_mem _ (List.mem_append_right _ (h))) 27 (Nat.le_of_ble_eq_true rfl) (List.mem_cons_of_mem _ (List.mem_append_left _ (List.mem_of_getElem? (i := 3) rfl))) rfl rfl dX11_number_108 ?_
          refine x_callV (n := 2) (As := [.int 0, .int (nI ax4)]) (rest := []) F hP hD hS (m_fails l D cy sk sv w14 tg y m2 m3 m4 m5 m6 m8 m9 m10 m11 m12 m13 m14 m17 m18 m19 m20 m21 m22 m23 m24 m29 m30 m31 m32 m33 m34 m35 m36 m37 m39 m40 m41 m42 m43 m44 m45 m46 m47 m48 m49 m51 m52 m53 m54 m56 m57 m58 m59 pc ac sc ln sh gf v0 td (nI a) (nI ax4) v50 fv 0 ax4 k15 (fun b => b = y) rfl ty (by omega) (by omega) (by omega)) gX11_number_X11_fails rfl rfl (by decide +kernel) ⟨(Nat.le_of_ble_eq_true rfl), (Nat.le_of_ble_eq_true rfl)⟩ rfl hl.1 (Nat.le_of_ble_eq_true rfl) k15 rfl dX11_number_111 rfl ⟨(Nat.le_of_ble_eq_true rfl), (Nat.le_of_ble_eq_true rfl)⟩ (fun v56 w57 hp55 H locs hP hD hS => ?_)
          obtain ⟨fwx58, rfl, hz59, hz60, kq62, k61⟩ := hp55
          have k63 := kq62.2 _ _ k16 (tg_ne tm24 ty (by decide))
          have kp64 := kp17.tr kq62 (fun b9 hm q9 => (fun q9 => q9 ▸ s90) q9)
          refine W.eq (g2 := F0 m 114 ls []) rfl (W.widen (k := 0) (n := 0) (Nat.le_of_ble_eq_true rfl) (Nat.le_of_ble_eq_true rfl) ?_)
          refine lv_goto (tgt := 139) hx hb dX11_number_114 (by decide) ?_
          refine lv_iload_n hx hb dX11_number_139 rfl (lv_at hl 2 rfl) ?_
          exact y_ir K hP hD hS (Nat.le_of_ble_eq_true rfl) (Nat.le_of_ble_eq_true rfl) (ty := .int) rfl rfl dX11_number_140 (⟨a, ax4, fwx58, u, rfl, by omega, by omega, by omega, by omega, kp64, k61⟩)
      · refine lv_aload_n hx hb dX11_number_32 rfl (lv_at hl 0 rfl) ?_
        refine x_get (ref := "NoteHouseModel") F hP k15 rfl (fun _ h => List.mem_cons_of_mem _ (List.mem_append_right _ (h))) 24 (Nat.le_of_ble_eq_true rfl) (List.mem_cons_of_mem _ (List.mem_append_left _ (List.mem_of_getElem? (i := 2) rfl))) rfl rfl dX11_number_33 ?_
        refine lv_aload_n hx hb dX11_number_36 rfl (lv_at hl 0 rfl) ?_
        refine x_get (ref := "NoteHouseModel") F hP k15 rfl (fun _ h => List.mem_cons_of_mem _ (List.mem_append_right _ (h))) 26 (Nat.le_of_ble_eq_true rfl) (List.mem_cons_of_mem _ (List.mem_append_left _ (List.mem_of_getElem? (i := 0) rfl))) rfl rfl dX11_number_37 ?_
        refine x_bald F hP k16 (vp_in_nI (n := a) (N := 300) (by omega) (by decide)) dX11_number_40 ?_
        refine lv_bipush (v := 57) hx hb dX11_number_41 (by decide) ?_
        refine lv_icmp_gt (tgt := 94) hx hb dX11_number_43 (by decide) (fun c_65 => ?_) (fun c_65 => ?_)
        · refine lv_aload_n hx hb dX11_number_94 rfl (lv_at hl 0 rfl) ?_
          refine x_get (ref := "NoteHouseModel") F hP k15 rfl (fun _ h => List.mem_cons_of_mem _ (List.mem_append_right _ (h))) 26 (Nat.le_of_ble_eq_true rfl) (List.mem_cons_of_mem _ (List.mem_append_left _ (List.mem_of_getElem? (i := 0) rfl))) rfl rfl dX11_number_95 ?_
          refine lv_aload_n hx hb dX11_number_98 rfl (lv_at hl 0 rfl) ?_
          refine x_get (ref := "NoteHouseModel") F hP k15 rfl (fun _ h => List.mem_cons_of_mem _ (List.mem_append_right _ (h))) 27 (Nat.le_of_ble_eq_true rfl) (List.mem_cons_of_mem _ (List.mem_append_left _ (List.mem_of_getElem? (i := 3) rfl))) rfl rfl dX11_number_99 ?_
          refine lv_icmp_ne (tgt := 117) hx hb dX11_number_102 (by decide) (fun c_66 => ?_) (fun c_66 => ?_)
          · refine lv_aload_n hx hb dX11_number_117 rfl (lv_at hl 0 rfl) ?_
            refine x_get (ref := "NoteHouseModel") F hP k15 rfl (fun _ h => List.mem_cons_of_mem _ (List.mem_append_right _ (h))) 26 (Nat.le_of_ble_eq_true rfl) (List.mem_cons_of_mem _ (List.mem_append_left _ (List.mem_of_getElem? (i := 0) rfl))) rfl rfl dX11_number_118 ?_
            refine lv_aload_n hx hb dX11_number_121 rfl (lv_at hl 0 rfl) ?_
            refine x_get (ref := "NoteHouseModel") F hP k15 rfl (fun _ h => List.mem_cons_of_mem _ (List.mem_append_right _ (h))) 27 (Nat.le_of_ble_eq_true rfl) (List.mem_cons_of_mem _ (List.mem_append_left _ (List.mem_of_getElem? (i := 3) rfl))) rfl rfl dX11_number_122 ?_
            refine lv_isub hx hb dX11_number_125 ?_
            refine lv_iload_n hx hb dX11_number_126 rfl (lv_at hl 1 rfl) ?_
            refine lv_icmp_le (tgt := 139) hx hb dX11_number_127 (by decide) (fun c_67 => ?_) (fun c_67 => ?_)
            · refine lv_iload_n hx hb dX11_number_139 rfl (lv_at hl 2 rfl) ?_
              exact y_ir K hP hD hS (Nat.le_of_ble_eq_true rfl) (Nat.le_of_ble_eq_true rfl) (ty := .int) rfl rfl dX11_number_140 (⟨a, ax4, fv, u, rfl, by omega, by omega, by omega, by omega, kp17, k15⟩)
            · refine lv_aload_n hx hb dX11_number_130 rfl (lv_at hl 0 rfl) ?_
              refine lv_iconst (v := 1) hx hb dX11_number_131 (by decide) ?_
              refine lv_aload_n hx hb dX11_number_132 rfl (lv_at hl 0 rfl) ?_
              refine x_get (ref := "NoteHouseModel") F hP k15 rfl (fun _ h => List.mem_cons_of_mem _ (List.mem_append_right _ (h))) 27 (Nat.le_of_ble_eq_true rfl) (List.mem_cons_of_mem _ (List.mem_append_left _ (List.mem_of_getElem? (i := 3) rfl))) rfl rfl dX11_number_133 ?_
              refine x_callV (n := 2) (As := [.int 1, .int (nI ax4)]) (rest := []) F hP hD hS (m_fails l D cy sk sv w14 tg y m2 m3 m4 m5 m6 m8 m9 m10 m11 m12 m13 m14 m17 m18 m19 m20 m21 m22 m23 m24 m29 m30 m31 m32 m33 m34 m35 m36 m37 m39 m40 m41 m42 m43 m44 m45 m46 m47 m48 m49 m51 m52 m53 m54 m56 m57 m58 m59 pc ac sc ln sh gf v0 td (nI a) (nI ax4) v50 fv 1 ax4 k15 (fun b => b = y) rfl ty (by omega) (by omega) (by omega)) gX11_number_X11_fails rfl rfl (by decide +kernel) ⟨(Nat.le_of_ble_eq_true rfl), (Nat.le_of_ble_eq_true rfl)⟩ rfl hl.1 (Nat.le_of_ble_eq_true rfl) k15 rfl dX11_number_136 rfl ⟨(Nat.le_of_ble_eq_true rfl), (Nat.le_of_ble_eq_true rfl)⟩ (fun v69 w70 hp68 H locs hP hD hS => ?_)
              obtain ⟨fwx71, rfl, hz72, hz73, kq75, k74⟩ := hp68
              have k76 := kq75.2 _ _ k16 (tg_ne tm24 ty (by decide))
              have kp77 := kp17.tr kq75 (fun b9 hm q9 => (fun q9 => q9 ▸ s90) q9)
              refine W.eq (g2 := F0 m 139 ls []) rfl (W.widen (k := 0) (n := 0) (Nat.le_of_ble_eq_true rfl) (Nat.le_of_ble_eq_true rfl) ?_)
              refine lv_iload_n hx hb dX11_number_139 rfl (lv_at hl 2 rfl) ?_
              exact y_ir K hP hD hS (Nat.le_of_ble_eq_true rfl) (Nat.le_of_ble_eq_true rfl) (ty := .int) rfl rfl dX11_number_140 (⟨a, ax4, fwx71, u, rfl, by omega, by omega, by omega, by omega, kp77, k74⟩)
          · refine lv_aload_n hx hb dX11_number_105 rfl (lv_at hl 0 rfl) ?_
            refine lv_iconst (v := 0) hx hb dX11_number_106 (by decide) ?_
            refine lv_aload_n hx hb dX11_number_107 rfl (lv_at hl 0 rfl) ?_
            refine x_get (ref := "NoteHouseModel") F hP k15 rfl (fun _ h => List.mem_cons_of_mem _ (List.mem_append_right _ (h))) 27 (Nat.le_of_ble_eq_true rfl) (List.mem_cons_of_mem _ (List.mem_append_left _ (List.mem_of_getElem? (i := 3) rfl))) rfl rfl dX11_number_108 ?_
            refine x_callV (n := 2) (As := [.int 0, .int (nI ax4)]) (rest := []) F hP hD hS (m_fails l D cy sk sv w14 tg y m2 m3 m4 m5 m6 m8 m9 m10 m11 m12 m13 m14 m17 m18 m19 m20 m21 m22 m23 m24 m29 m30 m31 m32 m33 m34 m35 m36 m37 m39 m40 m41 m42 m43 m44 m45 m46 m47 m48 m49 m51 m52 m53 m54 m56 m57 m58 m59 pc ac sc ln sh gf v0 td (nI a) (nI ax4) v50 fv 0 ax4 k15 (fun b => b = y) rfl ty (by omega) (by omega) (by omega)) gX11_number_X11_fails rfl rfl (by decide +kernel) ⟨(Nat.le_of_ble_eq_true rfl), (Nat.le_of_ble_eq_true rfl)⟩ rfl hl.1 (Nat.le_of_ble_eq_true rfl) k15 rfl dX11_number_111 rfl ⟨(Nat.le_of_ble_eq_true rfl), (Nat.le_of_ble_eq_true rfl)⟩ (fun v79 w80 hp78 H locs hP hD hS => ?_)
            obtain ⟨fwx81, rfl, hz82, hz83, kq85, k84⟩ := hp78
            have k86 := kq85.2 _ _ k16 (tg_ne tm24 ty (by decide))
            have kp87 := kp17.tr kq85 (fun b9 hm q9 => (fun q9 => q9 ▸ s90) q9)
            refine W.eq (g2 := F0 m 114 ls []) rfl (W.widen (k := 0) (n := 0) (Nat.le_of_ble_eq_true rfl) (Nat.le_of_ble_eq_true rfl) ?_)
            refine lv_goto (tgt := 139) hx hb dX11_number_114 (by decide) ?_
            refine lv_iload_n hx hb dX11_number_139 rfl (lv_at hl 2 rfl) ?_
            exact y_ir K hP hD hS (Nat.le_of_ble_eq_true rfl) (Nat.le_of_ble_eq_true rfl) (ty := .int) rfl rfl dX11_number_140 (⟨a, ax4, fwx81, u, rfl, by omega, by omega, by omega, by omega, kp87, k84⟩)
        · refine lv_aload_n hx hb dX11_number_46 rfl (lv_at hl 0 rfl) ?_
          refine x_get (ref := "NoteHouseModel") F hP k15 rfl (fun _ h => List.mem_cons_of_mem _ (List.mem_append_right _ (h))) 26 (Nat.le_of_ble_eq_true rfl) (List.mem_cons_of_mem _ (List.mem_append_left _ (List.mem_of_getElem? (i := 0) rfl))) rfl rfl dX11_number_47 ?_
          refine lv_aload_n hx hb dX11_number_50 rfl (lv_at hl 0 rfl) ?_
          refine x_get (ref := "NoteHouseModel") F hP k15 rfl (fun _ h => List.mem_cons_of_mem _ (List.mem_append_right _ (h))) 27 (Nat.le_of_ble_eq_true rfl) (List.mem_cons_of_mem _ (List.mem_append_left _ (List.mem_of_getElem? (i := 3) rfl))) rfl rfl dX11_number_51 ?_
          refine lv_isub hx hb dX11_number_54 ?_
          refine lv_iload_n hx hb dX11_number_55 rfl (lv_at hl 1 rfl) ?_
          refine lv_icmp_ge (tgt := 79) hx hb dX11_number_56 (by decide) (fun c_88 => ?_) (fun c_88 => ?_)
          · refine lv_iload_n hx hb dX11_number_79 rfl (lv_at hl 2 rfl) ?_
            refine lv_istore_n (lv' := [(2, .int u), (0, .ref y), (1, .int x)]) hx hb dX11_number_80 rfl hl (by decide) rfl (fun ls hl => ?_)
            refine lv_aload_n hx hb dX11_number_81 rfl (lv_at hl 1 rfl) ?_
            refine lv_dup hx hb dX11_number_82 rfl ?_
            refine x_get (ref := "NoteHouseModel") F hP k15 rfl (fun _ h => List.mem_cons_of_mem _ (List.mem_append_right _ (h))) 26 (Nat.le_of_ble_eq_true rfl) (List.mem_cons_of_mem _ (List.mem_append_left _ (List.mem_of_getElem? (i := 0) rfl))) rfl rfl dX11_number_83 ?_
            refine lv_iconst (v := 1) hx hb dX11_number_86 (by decide) ?_
            refine lv_iadd hx hb dX11_number_87 ?_
            rw [show ((nI a) + 1 : Int32) = nI (a + 1) from nI_add a 1]
            refine y_put (ref := "NoteHouseModel") F hP hD hS k15 rfl (fun _ h => List.mem_cons_of_mem _ (List.mem_append_right _ (h))) tyX11_ok nmX11 26 (Nat.le_of_ble_eq_true rfl) (List.mem_cons_of_mem _ (List.mem_append_left _ (List.mem_of_getElem? (i := 0) rfl))) rfl rfl rfl rfl (Nat.le_of_ble_eq_true rfl) dX11_number_88 (fun w89 ew90 H locs hP hD hS => ?_)
            have k91 : wd_at w89 y (.inr (11, [.int v0, .int td, .ref m2, .ref m3, .ref m4, .ref m5, .ref m6, .int (nI pc), .ref m8, .ref m9, .ref m10, .ref m11, .ref m12, .ref m13, .ref m14, .int (nI ac), .int (nI sc), .ref m17, .ref m18, .ref m19, .ref m20, .ref m21, .ref m22, .ref m23, .ref m24, .int (nI ln), .int (nI (a + 1)), .int (nI ax4), .int (nI fv), .ref m29, .ref m30, .ref m31, .ref m32, .ref m33, .ref m34, .ref m35, .ref m36, .ref m37, .int (nI sh), .ref m39, .ref m40, .ref m41, .ref m42, .ref m43, .ref m44, .ref m45, .ref m46, .ref m47, .ref m48, .ref m49, .int v50, .ref m51, .ref m52, .ref m53, .ref m54, .int (nI gf), .ref m56, .ref m57, .ref m58, .ref m59])) := wd_at.ps ew90 k15
            have k92 := wd_at.pt ew90 k16 (tg_ne tm24 ty (by decide))
            have kp93 := kp17.put ew90 s90
            refine lv_goto (tgt := 7) hx hb dX11_number_91 (by decide) ?_
            exact ih7 u (a + 1) w89 (by omega) (by omega) (by omega) k91 k92 kp93 ls (lv_sub hl [1, 2, 0] rfl) H locs hP hD hS
          · refine lv_bipush (v := 10) hx hb dX11_number_59 (by decide) ?_
            refine lv_iload_n hx hb dX11_number_61 rfl (lv_at hl 2 rfl) ?_
            refine lv_imul hx hb dX11_number_62 ?_
            refine lv_aload_n hx hb dX11_number_63 rfl (lv_at hl 0 rfl) ?_
            refine x_get (ref := "NoteHouseModel") F hP k15 rfl (fun _ h => List.mem_cons_of_mem _ (List.mem_append_right _ (h))) 24 (Nat.le_of_ble_eq_true rfl) (List.mem_cons_of_mem _ (List.mem_append_left _ (List.mem_of_getElem? (i := 2) rfl))) rfl rfl dX11_number_64 ?_
            refine lv_aload_n hx hb dX11_number_67 rfl (lv_at hl 0 rfl) ?_
            refine x_get (ref := "NoteHouseModel") F hP k15 rfl (fun _ h => List.mem_cons_of_mem _ (List.mem_append_right _ (h))) 26 (Nat.le_of_ble_eq_true rfl) (List.mem_cons_of_mem _ (List.mem_append_left _ (List.mem_of_getElem? (i := 0) rfl))) rfl rfl dX11_number_68 ?_
            refine x_bald F hP k16 (vp_in_nI (n := a) (N := 300) (by omega) (by decide)) dX11_number_71 ?_
            refine lv_iadd hx hb dX11_number_72 ?_
            refine lv_bipush (v := 48) hx hb dX11_number_73 (by decide) ?_
            refine lv_isub hx hb dX11_number_75 ?_
            refine lv_goto (tgt := 80) hx hb dX11_number_76 (by decide) ?_
            refine lv_istore_n (lv' := [(2, .int (((10 * u) + (f24 (nI a).toNatClampNeg)) - 48)), (0, .ref y), (1, .int x)]) hx hb dX11_number_80 rfl hl (by decide) rfl (fun ls hl => ?_)
            refine lv_aload_n hx hb dX11_number_81 rfl (lv_at hl 1 rfl) ?_
            refine lv_dup hx hb dX11_number_82 rfl ?_
            refine x_get (ref := "NoteHouseModel") F hP k15 rfl (fun _ h => List.mem_cons_of_mem _ (List.mem_append_right _ (h))) 26 (Nat.le_of_ble_eq_true rfl) (List.mem_cons_of_mem _ (List.mem_append_left _ (List.mem_of_getElem? (i := 0) rfl))) rfl rfl dX11_number_83 ?_
            refine lv_iconst (v := 1) hx hb dX11_number_86 (by decide) ?_
            refine lv_iadd hx hb dX11_number_87 ?_
            rw [show ((nI a) + 1 : Int32) = nI (a + 1) from nI_add a 1]
            refine y_put (ref := "NoteHouseModel") F hP hD hS k15 rfl (fun _ h => List.mem_cons_of_mem _ (List.mem_append_right _ (h))) tyX11_ok nmX11 26 (Nat.le_of_ble_eq_true rfl) (List.mem_cons_of_mem _ (List.mem_append_left _ (List.mem_of_getElem? (i := 0) rfl))) rfl rfl rfl rfl (Nat.le_of_ble_eq_true rfl) dX11_number_88 (fun w94 ew95 H locs hP hD hS => ?_)
            have k96 : wd_at w94 y (.inr (11, [.int v0, .int td, .ref m2, .ref m3, .ref m4, .ref m5, .ref m6, .int (nI pc), .ref m8, .ref m9, .ref m10, .ref m11, .ref m12, .ref m13, .ref m14, .int (nI ac), .int (nI sc), .ref m17, .ref m18, .ref m19, .ref m20, .ref m21, .ref m22, .ref m23, .ref m24, .int (nI ln), .int (nI (a + 1)), .int (nI ax4), .int (nI fv), .ref m29, .ref m30, .ref m31, .ref m32, .ref m33, .ref m34, .ref m35, .ref m36, .ref m37, .int (nI sh), .ref m39, .ref m40, .ref m41, .ref m42, .ref m43, .ref m44, .ref m45, .ref m46, .ref m47, .ref m48, .ref m49, .int v50, .ref m51, .ref m52, .ref m53, .ref m54, .int (nI gf), .ref m56, .ref m57, .ref m58, .ref m59])) := wd_at.ps ew95 k15
            have k97 := wd_at.pt ew95 k16 (tg_ne tm24 ty (by decide))
            have kp98 := kp17.put ew95 s90
            refine lv_goto (tgt := 7) hx hb dX11_number_91 (by decide) ?_
            exact ih7 (((10 * u) + (f24 (nI a).toNatClampNeg)) - 48) (a + 1) w94 (by omega) (by omega) (by omega) k96 k97 kp98 ls (lv_sub hl [1, 2, 0] rfl) H locs hP hD hS
  exact lp7 (ln - ax4) 0 ax4 w3 (by omega) (by omega) (by omega) k10 k12 kp13 ls (lv_sub hl [1, 2, 0] rfl) H locs hP hD hS
set_option maxHeartbeats 4000000 in
set_option maxRecDepth 100000 in
theorem m_nameOf (l : Launch) (D : va_G) (cy : Nat → ClassId) (sk sv : Nat → Nat) (w : Wd) (y : Nat) (k : Int32)    : Ct l D cy sk sv yX11_nameOf wsX11_nameOf ({ frames := 0, cells := 0, slots := 0, locals := 0 }) [.ref y, .int k] w (fun v w1 => ∃ (i1 : Nat), v = some (.ref (sk i1)) ∧ (i1 < 23) ∧ w = w1) := by
  refine Ct.by (cc := cX11_nameOf) (maxL := 2) (ret := (some (.object "java/lang/String"))) (by decide +kernel) rfl (Nat.le_of_ble_eq_true rfl) ?_
  intro p e s m args below meth c A Q F hnm K ls hl
  have F : wd_Fx p s m args meth c cX11_nameOf 2 wsX11_nameOf RX11 D cy sk sv A := F
  have hl : lv_has ls 2 [(0, .ref y), (1, .int k)] := hl
  have hx := F.1.1
  have hb := F.1.2.1
  have hown := F.1.2.2.2.1
  have hts := F.1.2.2.2.2
  intro H locs hP hD hS
  refine lv_iload_n hx hb dX11_nameOf_0 rfl (lv_at hl 1 rfl) ?_
  by_cases c_1 : k = 0
  · refine lv_tableIn (off := 43) (tgt := 44) hx hb dX11_nameOf_1 (by rw [c_1]; decide) (by rw [c_1]; decide) (by rw [c_1]; decide) (by decide) ?_
    refine x_ldcS F (i := 9) (tx := "hand") (by decide +kernel) dX11_nameOf_44 ?_
    exact y_ar K hP hD hS (Nat.le_of_ble_eq_true rfl) (Nat.le_of_ble_eq_true rfl) rfl (Or.inl ⟨_, rfl⟩) (Or.inr ⟨_, rfl⟩) dX11_nameOf_46 (⟨9, rfl, by decide, rfl⟩)
  by_cases c_2 : k = 1
  · refine lv_tableIn (off := 46) (tgt := 47) hx hb dX11_nameOf_1 (by rw [c_2]; decide) (by rw [c_2]; decide) (by rw [c_2]; decide) (by decide) ?_
    refine x_ldcS F (i := 10) (tx := "advised") (by decide +kernel) dX11_nameOf_47 ?_
    exact y_ar K hP hD hS (Nat.le_of_ble_eq_true rfl) (Nat.le_of_ble_eq_true rfl) rfl (Or.inl ⟨_, rfl⟩) (Or.inr ⟨_, rfl⟩) dX11_nameOf_49 (⟨10, rfl, by decide, rfl⟩)
  by_cases c_3 : k = 2
  · refine lv_tableIn (off := 49) (tgt := 50) hx hb dX11_nameOf_1 (by rw [c_3]; decide) (by rw [c_3]; decide) (by rw [c_3]; decide) (by decide) ?_
    refine x_ldcS F (i := 11) (tx := "stopped") (by decide +kernel) dX11_nameOf_50 ?_
    exact y_ar K hP hD hS (Nat.le_of_ble_eq_true rfl) (Nat.le_of_ble_eq_true rfl) rfl (Or.inl ⟨_, rfl⟩) (Or.inr ⟨_, rfl⟩) dX11_nameOf_52 (⟨11, rfl, by decide, rfl⟩)
  by_cases c_4 : k = 3
  · refine lv_tableIn (off := 52) (tgt := 53) hx hb dX11_nameOf_1 (by rw [c_4]; decide) (by rw [c_4]; decide) (by rw [c_4]; decide) (by decide) ?_
    refine x_ldcS F (i := 12) (tx := "age") (by decide +kernel) dX11_nameOf_53 ?_
    exact y_ar K hP hD hS (Nat.le_of_ble_eq_true rfl) (Nat.le_of_ble_eq_true rfl) rfl (Or.inl ⟨_, rfl⟩) (Or.inr ⟨_, rfl⟩) dX11_nameOf_55 (⟨12, rfl, by decide, rfl⟩)
  by_cases c_5 : k = 4
  · refine lv_tableIn (off := 55) (tgt := 56) hx hb dX11_nameOf_1 (by rw [c_5]; decide) (by rw [c_5]; decide) (by rw [c_5]; decide) (by decide) ?_
    refine x_ldcS F (i := 13) (tx := "late") (by decide +kernel) dX11_nameOf_56 ?_
    exact y_ar K hP hD hS (Nat.le_of_ble_eq_true rfl) (Nat.le_of_ble_eq_true rfl) rfl (Or.inl ⟨_, rfl⟩) (Or.inr ⟨_, rfl⟩) dX11_nameOf_58 (⟨13, rfl, by decide, rfl⟩)
  by_cases c_6 : k = 5
  · refine lv_tableIn (off := 58) (tgt := 59) hx hb dX11_nameOf_1 (by rw [c_6]; decide) (by rw [c_6]; decide) (by rw [c_6]; decide) (by decide) ?_
    refine x_ldcS F (i := 14) (tx := "amount") (by decide +kernel) dX11_nameOf_59 ?_
    exact y_ar K hP hD hS (Nat.le_of_ble_eq_true rfl) (Nat.le_of_ble_eq_true rfl) rfl (Or.inl ⟨_, rfl⟩) (Or.inr ⟨_, rfl⟩) dX11_nameOf_61 (⟨14, rfl, by decide, rfl⟩)
  by_cases c_7 : k = 6
  · refine lv_tableIn (off := 61) (tgt := 62) hx hb dX11_nameOf_1 (by rw [c_7]; decide) (by rw [c_7]; decide) (by rw [c_7]; decide) (by decide) ?_
    refine x_ldcS F (i := 15) (tx := "left") (by decide +kernel) dX11_nameOf_62 ?_
    exact y_ar K hP hD hS (Nat.le_of_ble_eq_true rfl) (Nat.le_of_ble_eq_true rfl) rfl (Or.inl ⟨_, rfl⟩) (Or.inr ⟨_, rfl⟩) dX11_nameOf_64 (⟨15, rfl, by decide, rfl⟩)
  refine lv_tableOut (tgt := 65) hx hb dX11_nameOf_1 (by have z0 := lv_neT c_1 (show (0 : Int32).toInt = 0 by decide); have z1 := lv_neT c_2 (show (1 : Int32).toInt = 1 by decide); have z2 := lv_neT c_3 (show (2 : Int32).toInt = 2 by decide); have z3 := lv_neT c_4 (show (3 : Int32).toInt = 3 by decide); have z4 := lv_neT c_5 (show (4 : Int32).toInt = 4 by decide); have z5 := lv_neT c_6 (show (5 : Int32).toInt = 5 by decide); have z6 := lv_neT c_7 (show (6 : Int32).toInt = 6 by decide); omega) (by decide) ?_
  refine x_ldcS F (i := 16) (tx := "day") (by decide +kernel) dX11_nameOf_65 ?_
  exact y_ar K hP hD hS (Nat.le_of_ble_eq_true rfl) (Nat.le_of_ble_eq_true rfl) rfl (Or.inl ⟨_, rfl⟩) (Or.inr ⟨_, rfl⟩) dX11_nameOf_67 (⟨16, rfl, by decide, rfl⟩)
set_option maxHeartbeats 4000000 in
set_option maxRecDepth 100000 in
theorem m_doingOf (l : Launch) (D : va_G) (cy : Nat → ClassId) (sk sv : Nat → Nat) (w : Wd) (y : Nat) (k : Int32)    : Ct l D cy sk sv yX11_doingOf wsX11_doingOf ({ frames := 0, cells := 0, slots := 0, locals := 0 }) [.ref y, .int k] w (fun v w1 => ∃ (i1 : Nat), v = some (.ref (sk i1)) ∧ (i1 < 23) ∧ w = w1) := by
  refine Ct.by (cc := cX11_doingOf) (maxL := 2) (ret := (some (.object "java/lang/String"))) (by decide +kernel) rfl (Nat.le_of_ble_eq_true rfl) ?_
  intro p e s m args below meth c A Q F hnm K ls hl
  have F : wd_Fx p s m args meth c cX11_doingOf 2 wsX11_doingOf RX11 D cy sk sv A := F
  have hl : lv_has ls 2 [(0, .ref y), (1, .int k)] := hl
  have hx := F.1.1
  have hb := F.1.2.1
  have hown := F.1.2.2.2.1
  have hts := F.1.2.2.2.2
  intro H locs hP hD hS
  refine lv_iload_n hx hb dX11_doingOf_0 rfl (lv_at hl 1 rfl) ?_
  refine lv_if_ne (tgt := 9) hx hb dX11_doingOf_1 (by decide) (fun c_1 => ?_) (fun c_1 => ?_)
  · refine lv_iload_n hx hb dX11_doingOf_9 rfl (lv_at hl 1 rfl) ?_
    refine lv_iconst (v := 1) hx hb dX11_doingOf_10 (by decide) ?_
    refine lv_icmp_ne (tgt := 19) hx hb dX11_doingOf_11 (by decide) (fun c_2 => ?_) (fun c_2 => ?_)
    · refine x_ldcS F (i := 8) (tx := "ask") (by decide +kernel) dX11_doingOf_19 ?_
      exact y_ar K hP hD hS (Nat.le_of_ble_eq_true rfl) (Nat.le_of_ble_eq_true rfl) rfl (Or.inl ⟨_, rfl⟩) (Or.inr ⟨_, rfl⟩) dX11_doingOf_21 (⟨8, rfl, by decide, rfl⟩)
    · refine x_ldcS F (i := 7) (tx := "refuse") (by decide +kernel) dX11_doingOf_14 ?_
      refine lv_goto (tgt := 21) hx hb dX11_doingOf_16 (by decide) ?_
      exact y_ar K hP hD hS (Nat.le_of_ble_eq_true rfl) (Nat.le_of_ble_eq_true rfl) rfl (Or.inl ⟨_, rfl⟩) (Or.inr ⟨_, rfl⟩) dX11_doingOf_21 (⟨7, rfl, by decide, rfl⟩)
  · refine x_ldcS F (i := 6) (tx := "pay") (by decide +kernel) dX11_doingOf_4 ?_
    refine lv_goto (tgt := 21) hx hb dX11_doingOf_6 (by decide) ?_
    exact y_ar K hP hD hS (Nat.le_of_ble_eq_true rfl) (Nat.le_of_ble_eq_true rfl) rfl (Or.inl ⟨_, rfl⟩) (Or.inr ⟨_, rfl⟩) dX11_doingOf_21 (⟨6, rfl, by decide, rfl⟩)
set_option maxHeartbeats 4000000 in
set_option maxRecDepth 100000 in
theorem m_kindOfS (l : Launch) (D : va_G) (cy : Nat → ClassId) (sk sv : Nat → Nat) (w : Wd) (y : Nat) (k : Int32)    : Ct l D cy sk sv yX11_kindOf wsX11_kindOf ({ frames := 0, cells := 0, slots := 0, locals := 0 }) [.ref y, .int k] w (fun v w1 => ∃ (i1 : Nat), v = some (.ref (sk i1)) ∧ (i1 < 23) ∧ w = w1) := by
  refine Ct.by (cc := cX11_kindOf) (maxL := 2) (ret := (some (.object "java/lang/String"))) (by decide +kernel) rfl (Nat.le_of_ble_eq_true rfl) ?_
  intro p e s m args below meth c A Q F hnm K ls hl
  have F : wd_Fx p s m args meth c cX11_kindOf 2 wsX11_kindOf RX11 D cy sk sv A := F
  have hl : lv_has ls 2 [(0, .ref y), (1, .int k)] := hl
  have hx := F.1.1
  have hb := F.1.2.1
  have hown := F.1.2.2.2.1
  have hts := F.1.2.2.2.2
  intro H locs hP hD hS
  refine lv_iload_n hx hb dX11_kindOf_0 rfl (lv_at hl 1 rfl) ?_
  refine lv_if_ne (tgt := 9) hx hb dX11_kindOf_1 (by decide) (fun c_1 => ?_) (fun c_1 => ?_)
  · refine lv_iload_n hx hb dX11_kindOf_9 rfl (lv_at hl 1 rfl) ?_
    refine lv_iconst (v := 1) hx hb dX11_kindOf_10 (by decide) ?_
    refine lv_icmp_ne (tgt := 20) hx hb dX11_kindOf_11 (by decide) (fun c_2 => ?_) (fun c_2 => ?_)
    · refine lv_iload_n hx hb dX11_kindOf_20 rfl (lv_at hl 1 rfl) ?_
      refine lv_iconst (v := 2) hx hb dX11_kindOf_21 (by decide) ?_
      refine lv_icmp_ne (tgt := 31) hx hb dX11_kindOf_22 (by decide) (fun c_3 => ?_) (fun c_3 => ?_)
      · refine lv_iload_n hx hb dX11_kindOf_31 rfl (lv_at hl 1 rfl) ?_
        refine lv_iconst (v := 3) hx hb dX11_kindOf_32 (by decide) ?_
        refine lv_icmp_ne (tgt := 42) hx hb dX11_kindOf_33 (by decide) (fun c_4 => ?_) (fun c_4 => ?_)
        · refine x_ldcS F (i := 9) (tx := "hand") (by decide +kernel) dX11_kindOf_42 ?_
          exact y_ar K hP hD hS (Nat.le_of_ble_eq_true rfl) (Nat.le_of_ble_eq_true rfl) rfl (Or.inl ⟨_, rfl⟩) (Or.inr ⟨_, rfl⟩) dX11_kindOf_44 (⟨9, rfl, by decide, rfl⟩)
        · refine x_ldcwS F (i := 19) (tx := "over") (by decide +kernel) dX11_kindOf_36 ?_
          refine lv_goto (tgt := 44) hx hb dX11_kindOf_39 (by decide) ?_
          exact y_ar K hP hD hS (Nat.le_of_ble_eq_true rfl) (Nat.le_of_ble_eq_true rfl) rfl (Or.inl ⟨_, rfl⟩) (Or.inr ⟨_, rfl⟩) dX11_kindOf_44 (⟨19, rfl, by decide, rfl⟩)
      · refine x_ldcwS F (i := 18) (tx := "twice") (by decide +kernel) dX11_kindOf_25 ?_
        refine lv_goto (tgt := 44) hx hb dX11_kindOf_28 (by decide) ?_
        exact y_ar K hP hD hS (Nat.le_of_ble_eq_true rfl) (Nat.le_of_ble_eq_true rfl) rfl (Or.inl ⟨_, rfl⟩) (Or.inr ⟨_, rfl⟩) dX11_kindOf_44 (⟨18, rfl, by decide, rfl⟩)
    · refine x_ldcwS F (i := 17) (tx := "forged") (by decide +kernel) dX11_kindOf_14 ?_
      refine lv_goto (tgt := 44) hx hb dX11_kindOf_17 (by decide) ?_
      exact y_ar K hP hD hS (Nat.le_of_ble_eq_true rfl) (Nat.le_of_ble_eq_true rfl) rfl (Or.inl ⟨_, rfl⟩) (Or.inr ⟨_, rfl⟩) dX11_kindOf_44 (⟨17, rfl, by decide, rfl⟩)
  · refine x_ldcS F (i := 11) (tx := "stopped") (by decide +kernel) dX11_kindOf_4 ?_
    refine lv_goto (tgt := 44) hx hb dX11_kindOf_6 (by decide) ?_
    exact y_ar K hP hD hS (Nat.le_of_ble_eq_true rfl) (Nat.le_of_ble_eq_true rfl) rfl (Or.inl ⟨_, rfl⟩) (Or.inr ⟨_, rfl⟩) dX11_kindOf_44 (⟨11, rfl, by decide, rfl⟩)
set_option maxHeartbeats 4000000 in
set_option maxRecDepth 100000 in
theorem m_bearerOf (l : Launch) (D : va_G) (cy : Nat → ClassId) (sk sv : Nat → Nat) (w : Wd) (y : Nat) (k : Int32)    : Ct l D cy sk sv yX11_bearerOf wsX11_bearerOf ({ frames := 0, cells := 0, slots := 0, locals := 0 }) [.ref y, .int k] w (fun v w1 => ∃ (i1 : Nat), v = some (.ref (sk i1)) ∧ (i1 < 23) ∧ w = w1) := by
  refine Ct.by (cc := cX11_bearerOf) (maxL := 2) (ret := (some (.object "java/lang/String"))) (by decide +kernel) rfl (Nat.le_of_ble_eq_true rfl) ?_
  intro p e s m args below meth c A Q F hnm K ls hl
  have F : wd_Fx p s m args meth c cX11_bearerOf 2 wsX11_bearerOf RX11 D cy sk sv A := F
  have hl : lv_has ls 2 [(0, .ref y), (1, .int k)] := hl
  have hx := F.1.1
  have hb := F.1.2.1
  have hown := F.1.2.2.2.1
  have hts := F.1.2.2.2.2
  intro H locs hP hD hS
  refine lv_iload_n hx hb dX11_bearerOf_0 rfl (lv_at hl 1 rfl) ?_
  refine lv_if_ne (tgt := 10) hx hb dX11_bearerOf_1 (by decide) (fun c_1 => ?_) (fun c_1 => ?_)
  · refine lv_iload_n hx hb dX11_bearerOf_10 rfl (lv_at hl 1 rfl) ?_
    refine lv_iconst (v := 1) hx hb dX11_bearerOf_11 (by decide) ?_
    refine lv_icmp_ne (tgt := 21) hx hb dX11_bearerOf_12 (by decide) (fun c_2 => ?_) (fun c_2 => ?_)
    · refine x_ldcwS F (i := 22) (tx := "half") (by decide +kernel) dX11_bearerOf_21 ?_
      exact y_ar K hP hD hS (Nat.le_of_ble_eq_true rfl) (Nat.le_of_ble_eq_true rfl) rfl (Or.inl ⟨_, rfl⟩) (Or.inr ⟨_, rfl⟩) dX11_bearerOf_24 (⟨22, rfl, by decide, rfl⟩)
    · refine x_ldcwS F (i := 21) (tx := "town") (by decide +kernel) dX11_bearerOf_15 ?_
      refine lv_goto (tgt := 24) hx hb dX11_bearerOf_18 (by decide) ?_
      exact y_ar K hP hD hS (Nat.le_of_ble_eq_true rfl) (Nat.le_of_ble_eq_true rfl) rfl (Or.inl ⟨_, rfl⟩) (Or.inr ⟨_, rfl⟩) dX11_bearerOf_24 (⟨21, rfl, by decide, rfl⟩)
  · refine x_ldcwS F (i := 20) (tx := "house") (by decide +kernel) dX11_bearerOf_4 ?_
    refine lv_goto (tgt := 24) hx hb dX11_bearerOf_7 (by decide) ?_
    exact y_ar K hP hD hS (Nat.le_of_ble_eq_true rfl) (Nat.le_of_ble_eq_true rfl) rfl (Or.inl ⟨_, rfl⟩) (Or.inr ⟨_, rfl⟩) dX11_bearerOf_24 (⟨20, rfl, by decide, rfl⟩)
