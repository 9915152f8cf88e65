set_option maxHeartbeats 4000000 in
set_option maxRecDepth 100000 in
theorem m_begins (l : Launch) (D : va_G) (cy : Nat → ClassId) (sk sv : Nat → Nat) (w : Wd) (tg : Nat → Nat) (y m2 m3 m4 m5 m6 m8 m9 m10 m11 m12 m13 m14 m17 m18 m19 m20 m21 m22 m23 m24 m29 m30 m31 m32 m33 m34 m35 m36 m37 m39 m40 m41 m42 m43 m44 m45 m46 m47 m48 m49 m51 m52 m53 m54 m56 m57 m58 m59 pc ac sc ln sh gf : Nat) (v0 td v26 v27 v28 v50 : Int32) (f35 : Nat → Int32)  (c90 : wd_at w y (.inr (11, [.int v0, .int td, .ref m2, .ref m3, .ref m4, .ref m5, .ref m6, .int (nI pc), .ref m8, .ref m9, .ref m10, .ref m11, .ref m12, .ref m13, .ref m14, .int (nI ac), .int (nI sc), .ref m17, .ref m18, .ref m19, .ref m20, .ref m21, .ref m22, .ref m23, .ref m24, .int (nI ln), .int v26, .int v27, .int v28, .ref m29, .ref m30, .ref m31, .ref m32, .ref m33, .ref m34, .ref m35, .ref m36, .ref m37, .int (nI sh), .ref m39, .ref m40, .ref m41, .ref m42, .ref m43, .ref m44, .ref m45, .ref m46, .ref m47, .ref m48, .ref m49, .int v50, .ref m51, .ref m52, .ref m53, .ref m54, .int (nI gf), .ref m56, .ref m57, .ref m58, .ref m59]))) (c91 : wd_at w m35 (.inl (cy 2, 5, .inl f35)))  (S : Nat → Prop) (s90 : S m35) (ty : tg y = 10000) (tm35 : tg m35 = 10135) : Ct l D cy sk sv yX11_begins wsX11_begins ({ frames := 1, cells := 0, slots := 0, locals := 20 }) [.ref y] w (fun v w1 => ∃ (g35 : Nat → Int32), v = none ∧ wd_kp S w w1 ∧ wd_at w1 m35 (.inl (cy 2, 5, .inl g35))) := by
  refine Ct.by (cc := cX11_begins) (maxL := 2) (ret := none) (by decide +kernel) rfl (Nat.le_of_ble_eq_true rfl) ?_
  intro p e s m args below meth c A Q F hnm K ls hl
  have F : wd_Fx p s m args meth c cX11_begins 2 wsX11_begins RX11 D cy sk sv A := F
  have hl : lv_has ls 2 [(0, .ref y)] := hl
  have hx := F.1.1
  have hb := F.1.2.1
  have hown := F.1.2.2.2.1
  have hts := F.1.2.2.2.2
  intro H locs hP hD hS
  have kp0 : wd_kp S w w := wd_kp.rf
  refine lv_iconst (v := 0) hx hb dX11_begins_0 (by decide) ?_
  refine lv_istore_n (lv' := [(1, .int 0), (0, .ref y)]) hx hb dX11_begins_1 rfl hl (by decide) rfl (fun ls hl => ?_)
  have lp2 : ∀ (N : Nat) (k : Nat) (ga : Nat → Int32) (w1 : Wd), (k + N = 5) → (wd_at w1 y (.inr (11, [.int v0, .int td, .ref m2, .ref m3, .ref m4, .ref m5, .ref m6, .int (nI pc), .ref m8, .ref m9, .ref m10, .ref m11, .ref m12, .ref m13, .ref m14, .int (nI ac), .int (nI sc), .ref m17, .ref m18, .ref m19, .ref m20, .ref m21, .ref m22, .ref m23, .ref m24, .int (nI ln), .int v26, .int v27, .int v28, .ref m29, .ref m30, .ref m31, .ref m32, .ref m33, .ref m34, .ref m35, .ref m36, .ref m37, .int (nI sh), .ref m39, .ref m40, .ref m41, .ref m42, .ref m43, .ref m44, .ref m45, .ref m46, .ref m47, .ref m48, .ref m49, .int v50, .ref m51, .ref m52, .ref m53, .ref m54, .int (nI gf), .ref m56, .ref m57, .ref m58, .ref m59]))) → (wd_at w1 m35 (.inl (cy 2, 5, .inl ga))) → (wd_kp S w w1) → ∀ (ls : Array Slot), lv_has ls 2 [(0, .ref y), (1, .int (nI k))] → Wv p l e ({ frames := 1, cells := 0, slots := 0, locals := 20 }) s m args below meth c D A (0) (0) Q w1 (F0 m 2 ls []) := by
    intro N
    induction N with
    | zero =>
      intro k ga w1 hN2 k2 k3 kp4 ls hl H locs hP hD hS
      refine lv_iload_n hx hb dX11_begins_2 rfl (lv_at hl 1 rfl) ?_
      refine lv_iconst (v := 5) hx hb dX11_begins_3 (by decide) ?_
      refine lv_icmp_ge (tgt := 23) hx hb dX11_begins_4 (by decide) (fun c_5 => ?_) (fun c_5 => absurd (nI_le (a := 5) (b := k) (by omega) (by omega)) c_5)
      exact y_vr K hP hD hS (Nat.le_of_ble_eq_true rfl) (Nat.le_of_ble_eq_true rfl) rfl dX11_begins_23 (⟨ga, rfl, kp4, k3⟩)
    | succ N ih2 =>
      intro k ga w1 hN2 k2 k3 kp4 ls hl H locs hP hD hS
      refine lv_iload_n hx hb dX11_begins_2 rfl (lv_at hl 1 rfl) ?_
      refine lv_iconst (v := 5) hx hb dX11_begins_3 (by decide) ?_
      refine lv_icmp_ge (tgt := 23) hx hb dX11_begins_4 (by decide) (fun c_6 => absurd c_6 (nI_ge (a := k) (b := 5) (by omega) (by omega))) (fun c_6 => ?_)
      refine lv_aload_n hx hb dX11_begins_7 rfl (lv_at hl 0 rfl) ?_
      refine x_get (ref := "NoteHouseModel") F hP k2 rfl (fun _ h => List.mem_cons_of_mem _ (List.mem_append_right _ (h))) 35 (Nat.le_of_ble_eq_true rfl) (List.mem_cons_of_mem _ (List.mem_append_left _ (List.mem_of_getElem? (i := 0) rfl))) rfl rfl dX11_begins_8 ?_
      refine lv_iload_n hx hb dX11_begins_11 rfl (lv_at hl 1 rfl) ?_
      refine lv_iload_n hx hb dX11_begins_12 rfl (lv_at hl 1 rfl) ?_
      refine x_callS (n := 1) (As := [.int (nI k)]) (rest := [.int (nI k), .ref m35]) F hP hD hS (m_without l D cy sk sv w1 (nI k)) gX11_begins_X11_without rfl (by decide +kernel) ⟨(Nat.le_of_ble_eq_true rfl), (Nat.le_of_ble_eq_true rfl)⟩ rfl hl.1 (Nat.le_of_ble_eq_true rfl) dX11_begins_13 rfl ⟨(Nat.le_of_ble_eq_true rfl), (Nat.le_of_ble_eq_true rfl)⟩ (fun v8 w9 hp7 H locs hP hD hS => ?_)
      obtain ⟨rx10, rfl, rfl⟩ := hp7
      refine W.eq (g2 := F0 m 16 ls [.int rx10, .int (nI k), .ref m35]) rfl (W.widen (k := 0) (n := 0) (Nat.le_of_ble_eq_true rfl) (Nat.le_of_ble_eq_true rfl) ?_)
      refine y_iast F hP hD hS k3 (vp_in_nI (n := k) (N := 5) (by omega) (by decide)) dX11_begins_16 (fun w11 ew12 H locs hP hD hS => ?_)
      have k13 := wd_at.pt ew12 k2 (tg_ne ty tm35 (by decide))
      have k14 : wd_at w11 m35 (.inl (cy 2, 5, .inl (upd ga (nI k).toNatClampNeg rx10))) := wd_at.ps ew12 k3
      have kp15 := kp4.put ew12 s90
      refine lv_iinc (v := nI (k + 1)) (lv' := [(1, .int (nI (k + 1))), (0, .ref y)]) hx hb dX11_begins_17 hl (k := 1) rfl (nI_1 k) (by decide) rfl (fun ls hl => ?_)
      refine lv_goto (tgt := 2) hx hb dX11_begins_20 (by decide) ?_
      exact ih2 (k + 1) (upd ga (nI k).toNatClampNeg rx10) w11 (by omega)  k13 k14 kp15 ls (lv_sub hl [1, 0] rfl) H locs hP hD hS
  exact lp2 _ 0 f35 w (Nat.zero_add 5)  c90 c91 kp0 ls (lv_sub hl [1, 0] rfl) H locs hP hD hS
def bnd (w : Wd) (tg : Nat → Nat) (L : List (Nat × va_E × Nat)) : Prop := ∀ e ∈ L, wd_at w e.1 e.2.1 ∧ tg e.1 = e.2.2 ∧ 10000 < e.2.2
theorem bnd.nil {w : Wd} {tg : Nat → Nat} : bnd w tg [] := fun _ h => absurd h List.not_mem_nil
theorem bnd.cons {w : Wd} {tg : Nat → Nat} {L : List (Nat × va_E × Nat)} {a t : Nat} {c : va_E} (h : bnd w tg L) (k : wd_at w a c) (ht : tg a = t) (hb : 10000 < t) : bnd w tg ((a, c, t) :: L) := fun e he => by
  rcases List.mem_cons.mp he with rfl | he
  · exact ⟨k, ht, hb⟩
  · exact h e he
theorem bnd.ad {w w1 : Wd} {tg tg1 : Nat → Nat} {L : List (Nat × va_E × Nat)} {q t : Nat} {c : va_E} (ew : w1 = wd_add w q c) (hq : q ∉ w.1) (et : tg1 = va_up tg q t) (h : bnd w tg L) : bnd w1 tg1 L := fun e he => ⟨wd_at.ad ew hq (h e he).1, tgX et (wd_nL hq (h e he).1) (h e he).2.1, (h e he).2.2⟩
theorem bnd.pt {w w1 : Wd} {tg : Nat → Nat} {L : List (Nat × va_E × Nat)} {a : Nat} {c : va_E} (ew : w1 = wd_put w a c) (ha : tg a = 10000) (h : bnd w tg L) : bnd w1 tg L := fun e he => ⟨wd_at.pt ew (h e he).1 (tg_ne (h e he).2.1 ha (Nat.ne_of_gt (h e he).2.2)), (h e he).2⟩
theorem bnd.mo {w w1 : Wd} {tg ta tb r : Nat → Nat} {L : List (Nat × va_E × Nat)} {q t N B : Nat} {eo er : va_E} (ew : w1 = wd_mna w q ((List.range N).map r) eo er) (hq : q ∉ w.1) (hr : ∀ i, i < N → r i ∉ w.1) (ea : ta = tgR tg r N B) (eb : tb = va_up ta q t) (h : bnd w tg L) : bnd w1 tb L := fun e he => ⟨wd_at.mo ew hq hr (h e he).1, tgX eb (wd_nL hq (h e he).1) (tgR_n ea (fun i hi e9 => hr i hi (e9 ▸ (h e he).1.1)) (h e he).2.1), (h e he).2.2⟩
