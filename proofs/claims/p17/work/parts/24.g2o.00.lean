def lR (f b : Nat → Int32) : Prop := ∀ j, j < 5 → f j = b j
theorem lR.u {f b : Nat → Int32} {k : Nat} {x : Int32} (h : lR f b) (hk : k < 5) : lR (upd f (nI k).toNatClampNeg x) (va_up b k x) := fun j hj => by
  rw [nI_clamp (by omega)]
  by_cases e : j = k
  · rw [e, pk_us, va_up_self]
  · rw [pk_un e, va_up_ne _ _ e]; exact h j hj
theorem up5 {f g : Nat → Int32} {k : Nat} (hk : k < 5) (h : ∀ j, j < k → f j = g j) : ∀ j, j < k + 1 → upd f (nI k).toNatClampNeg (g k) j = g j := fun j hj => by
  rw [nI_clamp (by omega)]
  by_cases e : j = k
  · rw [e, pk_us]
  · rw [pk_un e]; exact h j (by omega)
theorem up50 {f : Nat → Int32} {k : Nat} (hk : k < 5) (h : ∀ j, j < k → f j = 0) : ∀ j, j < k + 1 → upd f (nI k).toNatClampNeg (vp_nar .boolean 0) j = 0 := fun j hj => by
  rw [nI_clamp (by omega)]
  by_cases e : j = k
  · rw [e, pk_us]; rfl
  · rw [pk_un e]; exact h j (by omega)
theorem twK_nx {B : Nat → Int32} {n a i : Nat} (h : a ≤ n) : twK B n (nx B n a) i = twK B n a i := by unfold twK; rw [nx_nx h]
theorem clK_e {B : Nat → Int32} {n a k : Nat} (h : a ≤ n) (hk : k ≤ 5) (h1 : ∀ j, j < k → wB B (nx B n a) (wE B n (nx B n a) - nx B n a) ((WL 4).getD j 0) = false) (h2 : k = 5 ∨ wB B (nx B n a) (wE B n (nx B n a) - nx B n a) ((WL 4).getD k 0) = true) : clK B n a = k := by
  unfold clK
  rw [twK_nx h]
  exact wx_at (WL 4) k hk h1 h2
theorem brK_e {B : Nat → Int32} {n a k : Nat} (hk : k ≤ 3) (h1 : ∀ j, j < k → wB B (nx B n a) (wE B n (nx B n a) - nx B n a) ((WL 5).getD j 0) = false) (h2 : k = 3 ∨ wB B (nx B n a) (wE B n (nx B n a) - nx B n a) ((WL 5).getD k 0) = true) : twK B n a 5 = k := wx_at (WL 5) k hk h1 h2
theorem clQ_e {B : Nat → Int32} {n a : Nat} (h : a ≤ n) (hk : ¬ clK B n a = 5) : clQ B n a = wE B n (nx B n a) := by
  unfold clQ
  rw [twA_yes (show ¬ twK B n (nx B n a) 4 = (WL 4).length from hk), nx_nx h]
theorem clK_z {B : Nat → Int32} {n a : Nat} (h : a ≤ n) (hz : wE B n (nx B n a) = nx B n a) : clK B n a = 5 := by
  unfold clK
  rw [twK_nx h]
  exact twK_z (i := 4) (by decide) hz
theorem wB1 {B : Nat → Int32} {a z i : Nat} (h : ¬ (if wB B a z i then (1 : Int32) else 0) = 0) : wB B a z i = true := by
  cases e : wB B a z i with
  | true => rfl
  | false => rw [e] at h; exact absurd rfl h
theorem wB0 {B : Nat → Int32} {a z i : Nat} (h : (if wB B a z i then (1 : Int32) else 0) = 0) : wB B a z i = false := by
  cases e : wB B a z i with
  | false => rfl
  | true => rw [e] at h; exact absurd h (by decide)
theorem nuF_e {B : Nat → Int32} {n q : Nat} (hq : q ≤ n) : nuF B n q 2 0 = hdF B n q ∧ (hdF B n q = 0 → tnA B n q 2 = dE B n (nx B n q) ∧ tnR B n q 2 = nI (numN B (nx B n q) (min (dE B n (nx B n q) - nx B n q) 2))) := by
  by_cases h1 : dE B n (nx B n q) = nx B n q
  · have e1 : tnR B n q 2 = -1 := by unfold tnR; rw [if_pos h1]
    have e2 : hdF B n q = 1 + 4 * nx B n q + 0 := by unfold hdF; rw [e1, if_pos (by decide), if_neg (by decide)]
    refine ⟨?_, fun q9 => by omega⟩
    unfold nuF flF
    rw [if_pos h1, if_pos rfl, e2]
  · by_cases h2 : 2 < dE B n (nx B n q) - nx B n q
    · have e1 : tnR B n q 2 = -2 := by unfold tnR; rw [if_neg h1, if_pos h2]
      have e2 : hdF B n q = 1 + 4 * nx B n q + 1 := by unfold hdF; rw [e1, if_pos (by decide), if_pos rfl]
      refine ⟨?_, fun q9 => by omega⟩
      unfold nuF flF
      rw [if_neg h1, if_pos h2, if_pos rfl, e2]
    · obtain ⟨v, hv, e1, e3⟩ := tnR_v hq (show 2 ≤ 6 by decide) h1 h2
      have e2 : hdF B n q = 0 := by unfold hdF; rw [e1, if_neg (nI_pos (by omega))]
      refine ⟨?_, fun _ => ⟨?_, ?_⟩⟩
      · unfold nuF; rw [if_neg h1, if_neg h2, e2]
      · unfold tnA; rw [if_neg (fun z => z.elim h1 h2)]
      · rw [e1, e3, show min (dE B n (nx B n q) - nx B n q) 2 = dE B n (nx B n q) - nx B n q by omega]
theorem wdF_0 {B : Nat → Int32} {n a : Nat} : wdF B n a 0 = 0 ↔ ¬ wE B n (nx B n a) = nx B n a := by
  unfold wdF flF
  by_cases h : wE B n (nx B n a) = nx B n a
  · rw [if_pos h, if_pos rfl]; exact ⟨fun q => absurd q (by omega), fun q => absurd h q⟩
  · rw [if_neg h]; exact ⟨fun _ => h, fun _ => rfl⟩
theorem wdF_p {B : Nat → Int32} {n a : Nat} (h : wE B n (nx B n a) = nx B n a) : wdF B n a 0 = 1 + 4 * nx B n a + 0 := by unfold wdF flF; rw [if_pos h, if_pos rfl]
theorem flF_0 {k p : Nat} : flF 0 k p = 1 + 4 * p + k := if_pos rfl
theorem brF_z {B : Nat → Int32} {n q : Nat} (h : wE B n (nx B n q) = nx B n q) : brF B n q = 1 + 4 * nx B n q + 0 := by
  unfold brF
  rw [if_pos (show twK B n q 5 = 3 from twK_z (i := 5) (by decide) h)]
theorem sh_u {f : Nat → Int32} {o r : Nat} {x : Int32} (h : o + r < 2 ^ 31) : (fun j => upd f (nI (o + r)).toNatClampNeg x (o + j)) = upd (fun j => f (o + j)) (nI r).toNatClampNeg x := by
  funext j
  rw [nI_clamp h, nI_clamp (n := r) (by omega)]
  by_cases e : j = r
  · rw [e, pk_us, pk_us]
  · rw [pk_un (show o + j ≠ o + r by omega), pk_un e]
def mgR (f30 f31 f32 f33 f34 : Nat → Int32) (o k : Nat) (T : Nat → Nat → Int32) : Prop := agR (fun j => f30 (o + j)) (fun j => f31 (o + j)) (fun j => f32 (6 * o + j)) (fun j => f33 (6 * o + j)) (fun j => f34 (6 * o + j)) k T
theorem mgR.rule {f30 f31 f32 f33 f34 : Nat → Int32} {r d : Nat} {T : Nat → Nat → Int32} (h : mgR f30 f31 f32 f33 f34 144 r T) (hr : r < 12) (hd : d < 3) : mgR (upd f30 (nI (144 + r)).toNatClampNeg (nI d)) (upd f31 (nI (144 + r)).toNatClampNeg 0) f32 f33 f34 144 (r + 1) (rlT T r (nI d)) := by
  unfold mgR
  rw [sh_u (by omega), sh_u (by omega)]
  exact agR.rule h (by omega) hd
theorem mgR.cond {f30 f31 f32 f33 f34 : Nat → Int32} {r c z : Nat} {y v : Int32} {T : Nat → Nat → Int32} (h : mgR f30 f31 f32 f33 f34 144 (r + 1) T) (hr : r < 12) (hc : f31 (144 + r) = nI c) (hc6 : c < 6) (hz : z < 8) : mgR f30 (upd f31 (nI (144 + r)).toNatClampNeg (nI (c + 1))) (upd f32 (nI (6 * (144 + r) + c)).toNatClampNeg (nI z)) (upd f33 (nI (6 * (144 + r) + c)).toNatClampNeg y) (upd f34 (nI (6 * (144 + r) + c)).toNatClampNeg v) 144 (r + 1) (rwT T (r * 6 + c) (nI z) y v r (nI (c + 1))) := by
  unfold mgR
  rw [show 6 * (144 + r) + c = 6 * 144 + (r * 6 + c) by omega, sh_u (by omega), sh_u (by omega), sh_u (by omega), sh_u (by omega)]
  exact agR.cond h (by omega) hc hc6 hz
theorem cdK_e {B : Nat → Int32} {n a k : Nat} (h : a ≤ n) (hk : k ≤ 8) (h1 : ∀ j, j < k → wB B (nx B n a) (wE B n (nx B n a) - nx B n a) ((WL 2).getD j 0) = false) (h2 : k = 8 ∨ wB B (nx B n a) (wE B n (nx B n a) - nx B n a) ((WL 2).getD k 0) = true) : cdK B n a = k := by
  unfold cdK
  rw [twK_nx h]
  exact wx_at (WL 2) k hk h1 h2
theorem cdK_z {B : Nat → Int32} {n a : Nat} (h : a ≤ n) (hz : wE B n (nx B n a) = nx B n a) : cdK B n a = 8 := by
  unfold cdK
  rw [twK_nx h]
  exact twK_z (i := 2) (by decide) hz
theorem cdQ_e {B : Nat → Int32} {n a : Nat} (h : a ≤ n) (hk : ¬ cdK B n a = 8) : cdQ B n a = wE B n (nx B n a) := by
  unfold cdQ
  rw [twA_yes (show ¬ twK B n (nx B n a) 2 = (WL 2).length from hk), nx_nx h]
theorem rlK_e {B : Nat → Int32} {n a k : Nat} (h : a ≤ n) (hk : k ≤ 3) (h1 : ∀ j, j < k → wB B (nx B n a) (wE B n (nx B n a) - nx B n a) ((WL 0).getD j 0) = false) (h2 : k = 3 ∨ wB B (nx B n a) (wE B n (nx B n a) - nx B n a) ((WL 0).getD k 0) = true) : rlK B n a = k := by
  unfold rlK
  rw [twK_nx h]
  exact wx_at (WL 0) k hk h1 h2
theorem rlK_z {B : Nat → Int32} {n a : Nat} (h : a ≤ n) (hz : wE B n (nx B n a) = nx B n a) : rlK B n a = 3 := by
  unfold rlK
  rw [twK_nx h]
  exact twK_z (i := 0) (by decide) hz
theorem rlQ_e {B : Nat → Int32} {n a : Nat} (h : a ≤ n) (hk : ¬ rlK B n a = 3) : rlQ B n a = wE B n (nx B n a) := by
  unfold rlQ
  rw [twA_yes (show ¬ twK B n (nx B n a) 0 = (WL 0).length from hk), nx_nx h]
theorem nuF6 {B : Nat → Int32} {n q : Nat} (hq : q ≤ n) : (nuF B n q 6 0 = 0 ↔ ¬ tnR B n q 6 < 0) ∧ (nuF B n q 6 0 = 0 → tnA B n q 6 = dE B n (nx B n q) ∧ tnR B n q 6 = nI (numN B (nx B n q) (min (dE B n (nx B n q) - nx B n q) 6))) := by
  rw [tnR_neg hq (by decide)]
  by_cases h1 : dE B n (nx B n q) = nx B n q
  · have e2 : nuF B n q 6 0 = 1 + 4 * nx B n q + 0 := by unfold nuF flF; rw [if_pos h1, if_pos rfl]
    exact ⟨⟨fun q9 => by omega, fun q9 => absurd (Or.inl h1) q9⟩, fun q9 => by omega⟩
  · by_cases h2 : 6 < dE B n (nx B n q) - nx B n q
    · have e2 : nuF B n q 6 0 = 1 + 4 * nx B n q + 1 := by unfold nuF flF; rw [if_neg h1, if_pos h2, if_pos rfl]
      exact ⟨⟨fun q9 => by omega, fun q9 => absurd (Or.inr h2) q9⟩, fun q9 => by omega⟩
    · have e2 : nuF B n q 6 0 = 0 := by unfold nuF; rw [if_neg h1, if_neg h2]
      refine ⟨⟨fun _ z => z.elim h1 h2, fun _ => e2⟩, fun _ => ⟨?_, ?_⟩⟩
      · unfold tnA; rw [if_neg (fun z => z.elim h1 h2)]
      · obtain ⟨v, hv, e1, e3⟩ := tnR_v hq (show 6 ≤ 6 by decide) h1 h2
        rw [e1, e3, show min (dE B n (nx B n q) - nx B n q) 6 = dE B n (nx B n q) - nx B n q by omega]
theorem wdF_q {B : Nat → Int32} {n a : Nat} (h : ¬ wdF B n a 0 = 0) : wE B n (nx B n a) = nx B n a := Classical.byContradiction (fun q => h (wdF_0.mpr q))
theorem flF_p {x k p : Nat} : ¬ flF x k p = 0 := by
  unfold flF
  split <;> omega
/-- one word of a list of one, where letters stand -/
theorem one_e {B : Nat → Int32} {n a i : Nat} (t : Nat) (hW : WL i = [t]) : (wB B (nx B n a) (wE B n (nx B n a) - nx B n a) t = true ↔ twK B n a i = 0) := by
  have e : twK B n a i = if wB B (nx B n a) (wE B n (nx B n a) - nx B n a) t then 0 else 0 + 1 := by unfold twK; rw [hW]; rfl
  cases h : wB B (nx B n a) (wE B n (nx B n a) - nx B n a) t with
  | true => rw [h] at e; exact ⟨fun _ => e, fun _ => rfl⟩
  | false => rw [h] at e; exact ⟨fun q => absurd q (by decide), fun q => by rw [e] at q; exact absurd q (by decide)⟩
theorem ltR_z {B : Nat → Int32} {n a : Nat} (h : ltR B n a = 0) (ha : a ≤ n) : wE B n a = a := by
  unfold wE
  by_cases e : a < n
  · exact run_no (ltR_n h e)
  · exact run_end (by omega)
theorem ltR_w {B : Nat → Int32} {n a : Nat} (h : ¬ ltR B n a = 0) : a < wE B n a := by
  obtain ⟨h1, h2⟩ := ltR_y h
  have h3 : wE B n a = wE B n (a + 1) := run_in (q := ql) h1 h2
  have h4 := wE_le (B := B) (n := n) (a := a + 1) (by omega)
  omega
theorem ltR_59 {B : Nat → Int32} {n a : Nat} (h : ¬ ltR B n a = 0) : a < n ∧ ¬ B a = 59 := ⟨(ltR_y h).1, fun q => by
  have h2 := (ltR_y h).2
  rw [q] at h2
  exact absurd h2 (by decide)⟩
set_option maxHeartbeats 4000000 in
set_option maxRecDepth 100000 in
theorem m_cond (l : Launch) (D : va_G) (cy : Nat → ClassId) (sk sv : Nat → Nat) (w : Wd) (tg : Nat → Nat) (y m2 m3 m4 m5 m6 m8 m9 m10 m11 m12 m13 m14 m17 m18 m19 m20 m21 m22 m23 m24 m29 m30 m31 m32 m33 m34 m35 m36 m37 m39 m40 m41 m42 m43 m44 m45 m46 m47 m48 m49 m51 m52 m53 m54 m56 m57 m58 m59 pc ac sc ln sh gf : Nat) (v0 td v27 v50 : Int32) (f24 : Nat → Int32) (f31 : Nat → Int32) (f32 : Nat → Int32) (f33 : Nat → Int32) (f34 : Nat → Int32) (a0 r u : Nat) (c90 : wd_at w y (.inr (11, [.int v0, .int td, .ref m2, .ref m3, .ref m4, .ref m5, .ref m6, .int (nI pc), .ref m8, .ref m9, .ref m10, .ref m11, .ref m12, .ref m13, .ref m14, .int (nI ac), .int (nI sc), .ref m17, .ref m18, .ref m19, .ref m20, .ref m21, .ref m22, .ref m23, .ref m24, .int (nI ln), .int (nI a0), .int v27, .int (nI 0), .ref m29, .ref m30, .ref m31, .ref m32, .ref m33, .ref m34, .ref m35, .ref m36, .ref m37, .int (nI sh), .ref m39, .ref m40, .ref m41, .ref m42, .ref m43, .ref m44, .ref m45, .ref m46, .ref m47, .ref m48, .ref m49, .int v50, .ref m51, .ref m52, .ref m53, .ref m54, .int (nI gf), .ref m56, .ref m57, .ref m58, .ref m59]))) (c91 : wd_at w m24 (.inl (cy 0, 300, .inl f24))) (c92 : wd_at w m31 (.inl (cy 2, 156, .inl f31))) (c93 : wd_at w m32 (.inl (cy 2, 936, .inl f32))) (c94 : wd_at w m33 (.inl (cy 2, 936, .inl f33))) (c95 : wd_at w m34 (.inl (cy 2, 936, .inl f34)))  (S : Nat → Prop) (s90 : S y) (s91 : S m31) (s92 : S m32) (s93 : S m33) (s94 : S m34) (ty : tg y = 10000) (tm24 : tg m24 = 10124) (tm31 : tg m31 = 10131) (tm32 : tg m32 = 10132) (tm33 : tg m33 = 10133) (tm34 : tg m34 = 10134) (hln : ln ≤ 300) (ha0 : a0 ≤ ln) (hr : r < 156) (hr4 : 144 ≤ r) (hc : cOK f31) (hu : f31 r = nI u) (hu6 : u ≤ 6) : Ct l D cy sk sv yX11_cond wsX11_cond ({ frames := 5, cells := 0, slots := 0, locals := 108 }) [.ref y, .int (nI r)] w (fun v w1 => ∃ (a1 : Nat) (b1 : Nat) (fv1 : Nat) (u1 : Nat) (g31 : Nat → Int32) (g32 : Nat → Int32) (g33 : Nat → Int32) (g34 : Nat → Int32), v = none ∧ (a0 ≤ a1) ∧ (a1 ≤ ln) ∧ (fv1 < 2000) ∧ (cOK g31) ∧ (g31 r = nI u1) ∧ (u1 ≤ 6) ∧ (fv1 = 0 → u1 = u + 1) ∧ (fv1 = 0 → cdO f24 ln a0 ∧ u < 6 ∧ a1 = cdE f24 ln a0 ∧ g31 = upd f31 (nI r).toNatClampNeg (nI (u + 1)) ∧ g32 = upd f32 (nI (6 * r + u)).toNatClampNeg (nI (cdK f24 ln a0)) ∧ g33 = upd f33 (nI (6 * r + u)).toNatClampNeg (sgR f24 ln (cdQ f24 ln a0)) ∧ g34 = upd f34 (nI (6 * r + u)).toNatClampNeg (tnR f24 ln (cdP f24 ln a0) 6)) ∧ (¬ fv1 = 0 → ¬ (cdO f24 ln a0 ∧ u < 6)) ∧ (∀ j, j < 144 → g31 j = f31 j) ∧ (∀ j, j < 864 → g32 j = f32 j ∧ g33 j = f33 j ∧ g34 j = f34 j) ∧ wd_kp S w w1 ∧ wd_at w1 y (.inr (11, [.int v0, .int td, .ref m2, .ref m3, .ref m4, .ref m5, .ref m6, .int (nI pc), .ref m8, .ref m9, .ref m10, .ref m11, .ref m12, .ref m13, .ref m14, .int (nI ac), .int (nI sc), .ref m17, .ref m18, .ref m19, .ref m20, .ref m21, .ref m22, .ref m23, .ref m24, .int (nI ln), .int (nI a1), .int (nI b1), .int (nI fv1), .ref m29, .ref m30, .ref m31, .ref m32, .ref m33, .ref m34, .ref m35, .ref m36, .ref m37, .int (nI sh), .ref m39, .ref m40, .ref m41, .ref m42, .ref m43, .ref m44, .ref m45, .ref m46, .ref m47, .ref m48, .ref m49, .int v50, .ref m51, .ref m52, .ref m53, .ref m54, .int (nI gf), .ref m56, .ref m57, .ref m58, .ref m59])) ∧ wd_at w1 m31 (.inl (cy 2, 156, .inl g31)) ∧ wd_at w1 m32 (.inl (cy 2, 936, .inl g32)) ∧ wd_at w1 m33 (.inl (cy 2, 936, .inl g33)) ∧ wd_at w1 m34 (.inl (cy 2, 936, .inl g34))) := by
  refine Ct.by (cc := cX11_cond) (maxL := 4) (ret := none) (by decide +kernel) rfl (Nat.le_of_ble_eq_true rfl) ?_
  intro p e s m args below meth c A Q F hnm K ls hl
  have F : wd_Fx p s m args meth c cX11_cond 4 wsX11_cond RX11 D cy sk sv A := F
  have hl : lv_has ls 4 [(0, .ref y), (1, .int (nI r))] := hl
  have hx := F.1.1
  have hb := F.1.2.1
  have hown := F.1.2.2.2.1
  have hts := F.1.2.2.2.2
  intro H locs hP hD hS
  have kp0 : wd_kp S w w := wd_kp.rf
  refine lv_aload_n hx hb dX11_cond_0 rfl (lv_at hl 0 rfl) ?_
  refine x_callV (n := 0) (As := []) (rest := []) F hP hD hS (m_word l D cy sk sv w tg y m2 m3 m4 m5 m6 m8 m9 m10 m11 m12 m13 m14 m17 m18 m19 m20 m21 m22 m23 m24 m29 m30 m31 m32 m33 m34 m35 m36 m37 m39 m40 m41 m42 m43 m44 m45 m46 m47 m48 m49 m51 m52 m53 m54 m56 m57 m58 m59 pc ac sc ln sh gf v0 td v27 v50 f24 a0 0 c90 c91 (fun b => b = y) rfl ty tm24 (by omega) (by omega) (by omega)) gX11_cond_X11_word rfl rfl (by decide +kernel) ⟨(Nat.le_of_ble_eq_true rfl), (Nat.le_of_ble_eq_true rfl)⟩ rfl hl.1 (Nat.le_of_ble_eq_true rfl) c90 rfl dX11_cond_1 rfl ⟨(Nat.le_of_ble_eq_true rfl), (Nat.le_of_ble_eq_true rfl)⟩ (fun v2 w3 hp1 H locs hP hD hS => ?_)
  obtain ⟨ax4, bx5, fvx6, rfl, rfl, rfl, rfl, hz7, hz8, hz9, hz10, kq12, k11⟩ := hp1
  have k13 := kq12.2 _ _ c91 (tg_ne tm24 ty (by decide))
  have k14 := kq12.2 _ _ c92 (tg_ne tm31 ty (by decide))
  have k15 := kq12.2 _ _ c93 (tg_ne tm32 ty (by decide))
  have k16 := kq12.2 _ _ c94 (tg_ne tm33 ty (by decide))
  have k17 := kq12.2 _ _ c95 (tg_ne tm34 ty (by decide))
  have kp18 := kp0.tr kq12 (fun b9 hm q9 => (fun q9 => q9 ▸ s90) q9)
  refine W.eq (g2 := F0 m 4 ls []) rfl (W.widen (k := 0) (n := 0) (Nat.le_of_ble_eq_true rfl) (Nat.le_of_ble_eq_true rfl) ?_)
  refine lv_aload_n hx hb dX11_cond_4 rfl (lv_at hl 0 rfl) ?_
  refine x_get (ref := "NoteHouseModel") F hP k11 rfl (fun _ h => List.mem_cons_of_mem _ (List.mem_append_right _ (h))) 31 (Nat.le_of_ble_eq_true rfl) (List.mem_cons_of_mem _ (List.mem_append_left _ (List.mem_append_left _ (List.mem_of_getElem? (i := 0) rfl)))) rfl rfl dX11_cond_5 ?_
  refine lv_iload_n hx hb dX11_cond_8 rfl (lv_at hl 1 rfl) ?_
  refine x_iald F hP k14 (vp_in_nI (n := r) (N := 156) (by omega) (by decide)) dX11_cond_9 ?_
  rw [nI_clamp (n := r) (by omega), hu]
  refine lv_bipush (v := 6) hx hb dX11_cond_10 (by decide) ?_
  refine lv_icmp_ne (tgt := 24) hx hb dX11_cond_12 (by decide) (fun c_19 => ?_) (fun c_19 => ?_)
  · have hu6b : u < 6 := by have h9 : ¬ u = 6 := fun q => c_19 (by rw [q]; rfl); omega
    refine lv_aload_n hx hb dX11_cond_24 rfl (lv_at hl 0 rfl) ?_
    refine x_get (ref := "NoteHouseModel") F hP k11 rfl (fun _ h => List.mem_cons_of_mem _ (List.mem_append_right _ (h))) 28 (Nat.le_of_ble_eq_true rfl) (List.mem_cons_of_mem _ (List.mem_append_left _ (List.mem_append_left _ (List.mem_of_getElem? (i := 2) rfl)))) rfl rfl dX11_cond_25 ?_
    refine lv_if_le (tgt := 32) hx hb dX11_cond_28 (by decide) (fun c_20 => ?_) (fun c_20 => ?_)
    · have hwz : wdF f24 ln a0 0 = 0 := nI_z (by omega) c_20
      have k21 : wd_at w3 y (.inr (11, [.int v0, .int td, .ref m2, .ref m3, .ref m4, .ref m5, .ref m6, .int (nI pc), .ref m8, .ref m9, .ref m10, .ref m11, .ref m12, .ref m13, .ref m14, .int (nI ac), .int (nI sc), .ref m17, .ref m18, .ref m19, .ref m20, .ref m21, .ref m22, .ref m23, .ref m24, .int (nI ln), .int (nI (wE f24 ln (nx f24 ln a0))), .int (nI (nx f24 ln a0)), .int (nI 0), .ref m29, .ref m30, .ref m31, .ref m32, .ref m33, .ref m34, .ref m35, .ref m36, .ref m37, .int (nI sh), .ref m39, .ref m40, .ref m41, .ref m42, .ref m43, .ref m44, .ref m45, .ref m46, .ref m47, .ref m48, .ref m49, .int v50, .ref m51, .ref m52, .ref m53, .ref m54, .int (nI gf), .ref m56, .ref m57, .ref m58, .ref m59])) := by have h9 := k11; rw [hwz] at h9; exact h9
      refine lv_iconst (v := 0) hx hb dX11_cond_32 (by decide) ?_
      refine lv_istore_n (lv' := [(2, .int 0), (0, .ref y), (1, .int (nI r))]) hx hb dX11_cond_33 rfl hl (by decide) rfl (fun ls hl => ?_)
      have lp34 : ∀ (N : Nat) (n : Nat), (n + N = 8) → (∀ j, j < n → wB f24 (nx f24 ln a0) (wE f24 ln (nx f24 ln a0) - nx f24 ln a0) ((WL 2).getD j 0) = false) → ∀ (ls : Array Slot), lv_has ls 4 [(0, .ref y), (1, .int (nI r)), (2, .int (nI n))] → Wv p l e ({ frames := 5, cells := 0, slots := 0, locals := 108 }) s m args below meth c D A (0) (0) Q w3 (F0 m 34 ls []) := by
        intro N
        induction N with
        | zero =>
          intro n hN34 hnm34 ls hl H locs hP hD hS
          refine lv_iload_n hx hb dX11_cond_34 rfl (lv_at hl 2 rfl) ?_
          refine lv_bipush (v := 8) hx hb dX11_cond_35 (by decide) ?_
          refine lv_icmp_ge (tgt := 58) hx hb dX11_cond_37 (by decide) (fun c_23 => ?_) (fun c_23 => absurd (nI_le (a := 8) (b := n) (by omega) (by omega)) c_23)
          have hck : cdK f24 ln a0 = n := cdK_e ha0 (by omega) hnm34 (Or.inl (by omega))
          refine lv_iload_n hx hb dX11_cond_58 rfl (lv_at hl 2 rfl) ?_
          refine lv_bipush (v := 8) hx hb dX11_cond_59 (by decide) ?_
          refine lv_icmp_ne (tgt := 74) hx hb dX11_cond_61 (by decide) (fun c_24 => ?_) (fun c_24 => ?_)
          · have hn8 : n < 8 := by have h9 : ¬ n = 8 := fun q => c_24 (by rw [q]; rfl); omega
            have hk8 : ¬ cdK f24 ln a0 = 8 := by omega
            have hcq : cdQ f24 ln a0 = (wE f24 ln (nx f24 ln a0)) := cdQ_e ha0 hk8
            refine lv_bipush (v := 6) hx hb dX11_cond_74 (by decide) ?_
            refine lv_iload_n hx hb dX11_cond_76 rfl (lv_at hl 1 rfl) ?_
            refine lv_imul hx hb dX11_cond_77 ?_
            rw [show (6 * (nI r) : Int32) = nI (6 * r) from pk_mul 6 r]
            refine lv_aload_n hx hb dX11_cond_78 rfl (lv_at hl 0 rfl) ?_
            refine x_get (ref := "NoteHouseModel") F hP k21 rfl (fun _ h => List.mem_cons_of_mem _ (List.mem_append_right _ (h))) 31 (Nat.le_of_ble_eq_true rfl) (List.mem_cons_of_mem _ (List.mem_append_left _ (List.mem_append_left _ (List.mem_of_getElem? (i := 0) rfl)))) rfl rfl dX11_cond_79 ?_
            refine lv_iload_n hx hb dX11_cond_82 rfl (lv_at hl 1 rfl) ?_
            refine x_iald F hP k14 (vp_in_nI (n := r) (N := 156) (by omega) (by decide)) dX11_cond_83 ?_
            rw [nI_clamp (n := r) (by omega), hu]
            refine lv_iadd hx hb dX11_cond_84 ?_
            rw [show ((nI (6 * r)) + (nI u) : Int32) = nI ((6 * r) + u) from nI_add (6 * r) u]
            refine lv_istore_n (lv' := [(3, .int (nI ((6 * r) + u))), (0, .ref y), (1, .int (nI r)), (2, .int (nI n))]) hx hb dX11_cond_85 rfl hl (by decide) rfl (fun ls hl => ?_)
            refine lv_aload_n hx hb dX11_cond_86 rfl (lv_at hl 1 rfl) ?_
            refine x_get (ref := "NoteHouseModel") F hP k21 rfl (fun _ h => List.mem_cons_of_mem _ (List.mem_append_right _ (h))) 32 (Nat.le_of_ble_eq_true rfl) (List.mem_cons_of_mem _ (List.mem_append_left _ (List.mem_append_left _ (List.mem_of_getElem? (i := 3) rfl)))) rfl rfl dX11_cond_87 ?_
            refine lv_iload_n hx hb dX11_cond_90 rfl (lv_at hl 0 rfl) ?_
            refine lv_iload_n hx hb dX11_cond_91 rfl (lv_at hl 3 rfl) ?_
            refine y_iast F hP hD hS k15 (vp_in_nI (n := ((6 * r) + u)) (N := 936) (by omega) (by decide)) dX11_cond_92 (fun w25 ew26 H locs hP hD hS => ?_)
            have k27 := wd_at.pt ew26 k21 (tg_ne ty tm32 (by decide))
            have k28 := wd_at.pt ew26 k13 (tg_ne tm24 tm32 (by decide))
            have k29 := wd_at.pt ew26 k14 (tg_ne tm31 tm32 (by decide))
            have k30 : wd_at w25 m32 (.inl (cy 2, 936, .inl (upd f32 (nI ((6 * r) + u)).toNatClampNeg (nI n)))) := wd_at.ps ew26 k15
            have k31 := wd_at.pt ew26 k16 (tg_ne tm33 tm32 (by decide))
            have k32 := wd_at.pt ew26 k17 (tg_ne tm34 tm32 (by decide))
            have kp33 := kp18.put ew26 s92
            refine lv_aload_n hx hb dX11_cond_93 rfl (lv_at hl 1 rfl) ?_
            refine x_get (ref := "NoteHouseModel") F hP k27 rfl (fun _ h => List.mem_cons_of_mem _ (List.mem_append_right _ (h))) 33 (Nat.le_of_ble_eq_true rfl) (List.mem_cons_of_mem _ (List.mem_append_left _ (List.mem_append_left _ (List.mem_of_getElem? (i := 4) rfl)))) rfl rfl dX11_cond_94 ?_
            refine lv_iload_n hx hb dX11_cond_97 rfl (lv_at hl 0 rfl) ?_
            refine lv_aload_n hx hb dX11_cond_98 rfl (lv_at hl 1 rfl) ?_
            refine x_callV (n := 0) (As := []) (rest := [.int (nI ((6 * r) + u)), .ref m33]) F hP hD hS (m_isEnd l D cy sk sv w25 tg y m2 m3 m4 m5 m6 m8 m9 m10 m11 m12 m13 m14 m17 m18 m19 m20 m21 m22 m23 m24 m29 m30 m31 m32 m33 m34 m35 m36 m37 m39 m40 m41 m42 m43 m44 m45 m46 m47 m48 m49 m51 m52 m53 m54 m56 m57 m58 m59 pc ac sc ln sh gf v0 td (nI (nx f24 ln a0)) (nI 0) v50 f24 (wE f24 ln (nx f24 ln a0)) k27 k28 (fun b => b = y) rfl ty tm24 (by omega) (by omega)) gX11_cond_X11_isEnd rfl rfl (by decide +kernel) ⟨(Nat.le_of_ble_eq_true rfl), (Nat.le_of_ble_eq_true rfl)⟩ rfl hl.1 (Nat.le_of_ble_eq_true rfl) k27 rfl dX11_cond_99 rfl ⟨(Nat.le_of_ble_eq_true rfl), (Nat.le_of_ble_eq_true rfl)⟩ (fun v35 w36 hp34 H locs hP hD hS => ?_)
            obtain ⟨ax37, rx38, rfl, rfl, rfl, hz39, hz40, hz41, hz42, kq44, k43⟩ := hp34
            have k45 := kq44.2 _ _ k28 (tg_ne tm24 ty (by decide))
            have k46 := kq44.2 _ _ k29 (tg_ne tm31 ty (by decide))
            have k47 := kq44.2 _ _ k30 (tg_ne tm32 ty (by decide))
            have k48 := kq44.2 _ _ k31 (tg_ne tm33 ty (by decide))
            have k49 := kq44.2 _ _ k32 (tg_ne tm34 ty (by decide))
            have kp50 := kp33.tr kq44 (fun b9 hm q9 => (fun q9 => q9 ▸ s90) q9)
            refine W.eq (g2 := F0 m 102 ls [.int (ieR f24 ln (wE f24 ln (nx f24 ln a0))), .int (nI ((6 * r) + u)), .ref m33]) rfl (W.widen (k := 0) (n := 0) (Nat.le_of_ble_eq_true rfl) (Nat.le_of_ble_eq_true rfl) ?_)
            refine lv_if_eq (tgt := 109) hx hb dX11_cond_102 (by decide) (fun cEn => ?_) (fun cEn => ?_)
            · have hne := hz42 cEn
              refine lv_aload_n hx hb dX11_cond_109 rfl (lv_at hl 1 rfl) ?_
              refine x_get (ref := "NoteHouseModel") F hP k43 rfl (fun _ h => List.mem_cons_of_mem _ (List.mem_append_right _ (h))) 24 (Nat.le_of_ble_eq_true rfl) (List.mem_cons_of_mem _ (List.mem_append_left _ (List.mem_append_left _ (List.mem_of_getElem? (i := 5) rfl)))) rfl rfl dX11_cond_110 ?_
              refine lv_aload_n hx hb dX11_cond_113 rfl (lv_at hl 1 rfl) ?_
              refine x_get (ref := "NoteHouseModel") F hP k43 rfl (fun _ h => List.mem_cons_of_mem _ (List.mem_append_right _ (h))) 26 (Nat.le_of_ble_eq_true rfl) (List.mem_cons_of_mem _ (List.mem_append_left _ (List.mem_append_left _ (List.mem_of_getElem? (i := 6) rfl)))) rfl rfl dX11_cond_114 ?_
              refine x_bald F hP k45 (vp_in_nI (n := (nx f24 ln (wE f24 ln (nx f24 ln a0)))) (N := 300) (by omega) (by decide)) dX11_cond_117 ?_
              rw [nI_clamp (n := nx f24 ln (wE f24 ln (nx f24 ln a0))) (by omega)]
              refine y_iast F hP hD hS k48 (vp_in_nI (n := ((6 * r) + u)) (N := 936) (by omega) (by decide)) dX11_cond_118 (fun w51 ew52 H locs hP hD hS => ?_)
              have k53 := wd_at.pt ew52 k43 (tg_ne ty tm33 (by decide))
              have k54 := wd_at.pt ew52 k45 (tg_ne tm24 tm33 (by decide))
              have k55 := wd_at.pt ew52 k46 (tg_ne tm31 tm33 (by decide))
              have k56 := wd_at.pt ew52 k47 (tg_ne tm32 tm33 (by decide))
              have k57 : wd_at w51 m33 (.inl (cy 2, 936, .inl (upd f33 (nI ((6 * r) + u)).toNatClampNeg (f24 (nx f24 ln (wE f24 ln (nx f24 ln a0))))))) := wd_at.ps ew52 k48
              have k58 := wd_at.pt ew52 k49 (tg_ne tm34 tm33 (by decide))
              have kp59 := kp50.put ew52 s93
              refine lv_aload_n hx hb dX11_cond_119 rfl (lv_at hl 1 rfl) ?_
              refine x_get (ref := "NoteHouseModel") F hP k53 rfl (fun _ h => List.mem_cons_of_mem _ (List.mem_append_right _ (h))) 33 (Nat.le_of_ble_eq_true rfl) (List.mem_cons_of_mem _ (List.mem_append_left _ (List.mem_append_left _ (List.mem_of_getElem? (i := 4) rfl)))) rfl rfl dX11_cond_120 ?_
              refine lv_iload_n hx hb dX11_cond_123 rfl (lv_at hl 0 rfl) ?_
              refine x_iald F hP k57 (vp_in_nI (n := ((6 * r) + u)) (N := 936) (by omega) (by decide)) dX11_cond_124 ?_
              rw [pk_us]
              refine lv_bipush (v := 60) hx hb dX11_cond_125 (by decide) ?_
              refine lv_icmp_eq (tgt := 162) hx hb dX11_cond_127 (by decide) (fun cs1 => ?_) (fun cs1 => ?_)
              · have hso : sgO f24 ln (wE f24 ln (nx f24 ln a0)) = true := sgO_t.mpr ⟨hne, Or.inl cs1⟩
                refine lv_aload_n hx hb dX11_cond_162 rfl (lv_at hl 1 rfl) ?_
                refine lv_dup hx hb dX11_cond_163 rfl ?_
                refine x_get (ref := "NoteHouseModel") F hP k53 rfl (fun _ h => List.mem_cons_of_mem _ (List.mem_append_right _ (h))) 26 (Nat.le_of_ble_eq_true rfl) (List.mem_cons_of_mem _ (List.mem_append_left _ (List.mem_append_left _ (List.mem_of_getElem? (i := 6) rfl)))) rfl rfl dX11_cond_164 ?_
                refine lv_iconst (v := 1) hx hb dX11_cond_167 (by decide) ?_
                refine lv_iadd hx hb dX11_cond_168 ?_
                rw [show ((nI (nx f24 ln (wE f24 ln (nx f24 ln a0)))) + 1 : Int32) = nI ((nx f24 ln (wE f24 ln (nx f24 ln a0))) + 1) from nI_add (nx f24 ln (wE f24 ln (nx f24 ln a0))) 1]
                refine y_put (ref := "NoteHouseModel") F hP hD hS k53 rfl (fun _ h => List.mem_cons_of_mem _ (List.mem_append_right _ (h))) tyX11_ok nmX11 26 (Nat.le_of_ble_eq_true rfl) (List.mem_cons_of_mem _ (List.mem_append_left _ (List.mem_append_left _ (List.mem_of_getElem? (i := 6) rfl)))) rfl rfl rfl rfl (Nat.le_of_ble_eq_true rfl) dX11_cond_169 (fun w60 ew61 H locs hP hD hS => ?_)
                have k62 : wd_at w60 y (.inr (11, [.int v0, .int td, .ref m2, .ref m3, .ref m4, .ref m5, .ref m6, .int (nI pc), .ref m8, .ref m9, .ref m10, .ref m11, .ref m12, .ref m13, .ref m14, .int (nI ac), .int (nI sc), .ref m17, .ref m18, .ref m19, .ref m20, .ref m21, .ref m22, .ref m23, .ref m24, .int (nI ln), .int (nI ((nx f24 ln (wE f24 ln (nx f24 ln a0))) + 1)), .int (nI (nx f24 ln (wE f24 ln (nx f24 ln a0)))), .int (nI 0), .ref m29, .ref m30, .ref m31, .ref m32, .ref m33, .ref m34, .ref m35, .ref m36, .ref m37, .int (nI sh), .ref m39, .ref m40, .ref m41, .ref m42, .ref m43, .ref m44, .ref m45, .ref m46, .ref m47, .ref m48, .ref m49, .int v50, .ref m51, .ref m52, .ref m53, .ref m54, .int (nI gf), .ref m56, .ref m57, .ref m58, .ref m59])) := wd_at.ps ew61 k53
                have k63 := wd_at.pt ew61 k54 (tg_ne tm24 ty (by decide))
                have k64 := wd_at.pt ew61 k55 (tg_ne tm31 ty (by decide))
                have k65 := wd_at.pt ew61 k56 (tg_ne tm32 ty (by decide))
                have k66 := wd_at.pt ew61 k57 (tg_ne tm33 ty (by decide))
                have k67 := wd_at.pt ew61 k58 (tg_ne tm34 ty (by decide))
                have kp68 := kp59.put ew61 s90
                refine lv_aload_n hx hb dX11_cond_172 rfl (lv_at hl 1 rfl) ?_
                refine x_get (ref := "NoteHouseModel") F hP k62 rfl (fun _ h => List.mem_cons_of_mem _ (List.mem_append_right _ (h))) 34 (Nat.le_of_ble_eq_true rfl) (List.mem_cons_of_mem _ (List.mem_append_left _ (List.mem_append_left _ (List.mem_of_getElem? (i := 7) rfl)))) rfl rfl dX11_cond_173 ?_
                refine lv_iload_n hx hb dX11_cond_176 rfl (lv_at hl 0 rfl) ?_
                refine lv_aload_n hx hb dX11_cond_177 rfl (lv_at hl 1 rfl) ?_
                refine lv_bipush (v := 6) hx hb dX11_cond_178 (by decide) ?_
                refine x_callV (n := 1) (As := [.int 6]) (rest := [.int (nI ((6 * r) + u)), .ref m34]) F hP hD hS (m_number l D cy sk sv w60 tg y m2 m3 m4 m5 m6 m8 m9 m10 m11 m12 m13 m14 m17 m18 m19 m20 m21 m22 m23 m24 m29 m30 m31 m32 m33 m34 m35 m36 m37 m39 m40 m41 m42 m43 m44 m45 m46 m47 m48 m49 m51 m52 m53 m54 m56 m57 m58 m59 pc ac sc ln sh gf v0 td (nI (nx f24 ln (wE f24 ln (nx f24 ln a0)))) v50 f24 ((nx f24 ln (wE f24 ln (nx f24 ln a0))) + 1) 0 6 k62 k63 (fun b => b = y) rfl ty tm24 (by omega) (by omega) (by omega) (by omega)) gX11_cond_X11_number rfl rfl (by decide +kernel) ⟨(Nat.le_of_ble_eq_true rfl), (Nat.le_of_ble_eq_true rfl)⟩ rfl hl.1 (Nat.le_of_ble_eq_true rfl) k62 rfl dX11_cond_180 rfl ⟨(Nat.le_of_ble_eq_true rfl), (Nat.le_of_ble_eq_true rfl)⟩ (fun v70 w71 hp69 H locs hP hD hS => ?_)
                obtain ⟨ax72, bx73, fvx74, rx75, rfl, rfl, rfl, rfl, rfl, hz76, hz77, hz78, hz79, kq81, k80⟩ := hp69
                have k82 := kq81.2 _ _ k63 (tg_ne tm24 ty (by decide))
                have k83 := kq81.2 _ _ k64 (tg_ne tm31 ty (by decide))
                have k84 := kq81.2 _ _ k65 (tg_ne tm32 ty (by decide))
                have k85 := kq81.2 _ _ k66 (tg_ne tm33 ty (by decide))
                have k86 := kq81.2 _ _ k67 (tg_ne tm34 ty (by decide))
                have kp87 := kp68.tr kq81 (fun b9 hm q9 => (fun q9 => q9 ▸ s90) q9)
                refine W.eq (g2 := F0 m 183 ls [.int (nI (numN f24 (nx f24 ln ((nx f24 ln (wE f24 ln (nx f24 ln a0))) + 1)) (min ((dE f24 ln (nx f24 ln ((nx f24 ln (wE f24 ln (nx f24 ln a0))) + 1))) - (nx f24 ln ((nx f24 ln (wE f24 ln (nx f24 ln a0))) + 1))) 6))), .int (nI ((6 * r) + u)), .ref m34]) rfl (W.widen (k := 0) (n := 0) (Nat.le_of_ble_eq_true rfl) (Nat.le_of_ble_eq_true rfl) ?_)
                refine y_iast F hP hD hS k86 (vp_in_nI (n := ((6 * r) + u)) (N := 936) (by omega) (by decide)) dX11_cond_183 (fun w88 ew89 H locs hP hD hS => ?_)
                have k90 := wd_at.pt ew89 k80 (tg_ne ty tm34 (by decide))
                have k91 := wd_at.pt ew89 k82 (tg_ne tm24 tm34 (by decide))
                have k92 := wd_at.pt ew89 k83 (tg_ne tm31 tm34 (by decide))
                have k93 := wd_at.pt ew89 k84 (tg_ne tm32 tm34 (by decide))
                have k94 := wd_at.pt ew89 k85 (tg_ne tm33 tm34 (by decide))
                have k95 : wd_at w88 m34 (.inl (cy 2, 936, .inl (upd f34 (nI ((6 * r) + u)).toNatClampNeg (nI (numN f24 (nx f24 ln ((nx f24 ln (wE f24 ln (nx f24 ln a0))) + 1)) (min ((dE f24 ln (nx f24 ln ((nx f24 ln (wE f24 ln (nx f24 ln a0))) + 1))) - (nx f24 ln ((nx f24 ln (wE f24 ln (nx f24 ln a0))) + 1))) 6)))))) := wd_at.ps ew89 k86
                have kp96 := kp87.put ew89 s94
                refine lv_aload_n hx hb dX11_cond_184 rfl (lv_at hl 1 rfl) ?_
                refine x_get (ref := "NoteHouseModel") F hP k90 rfl (fun _ h => List.mem_cons_of_mem _ (List.mem_append_right _ (h))) 31 (Nat.le_of_ble_eq_true rfl) (List.mem_cons_of_mem _ (List.mem_append_left _ (List.mem_append_left _ (List.mem_of_getElem? (i := 0) rfl)))) rfl rfl dX11_cond_185 ?_
                refine lv_iload_n hx hb dX11_cond_188 rfl (lv_at hl 2 rfl) ?_
                refine lv_dup2_11 hx hb dX11_cond_189 rfl rfl ?_
                refine x_iald F hP k92 (vp_in_nI (n := r) (N := 156) (by omega) (by decide)) dX11_cond_190 ?_
                rw [nI_clamp (n := r) (by omega), hu]
                refine lv_iconst (v := 1) hx hb dX11_cond_191 (by decide) ?_
                refine lv_iadd hx hb dX11_cond_192 ?_
                rw [show ((nI u) + 1 : Int32) = nI (u + 1) from nI_add u 1]
                refine y_iast F hP hD hS k92 (vp_in_nI (n := r) (N := 156) (by omega) (by decide)) dX11_cond_193 (fun w97 ew98 H locs hP hD hS => ?_)
                have k99 := wd_at.pt ew98 k90 (tg_ne ty tm31 (by decide))
                have k100 := wd_at.pt ew98 k91 (tg_ne tm24 tm31 (by decide))
                have k101 : wd_at w97 m31 (.inl (cy 2, 156, .inl (upd f31 (nI r).toNatClampNeg (nI (u + 1))))) := wd_at.ps ew98 k92
                have k102 := wd_at.pt ew98 k93 (tg_ne tm32 tm31 (by decide))
                have k103 := wd_at.pt ew98 k94 (tg_ne tm33 tm31 (by decide))
                have k104 := wd_at.pt ew98 k95 (tg_ne tm34 tm31 (by decide))
                have kp105 := kp96.put ew98 s91
                obtain ⟨en0, en1⟩ := nuF6 (B := f24) (n := ln) (q := (nx f24 ln (wE f24 ln (nx f24 ln a0)) + 1)) (by omega)
                have hcp : cdP f24 ln a0 = (nx f24 ln (wE f24 ln (nx f24 ln a0)) + 1) := by unfold cdP; rw [hcq, sgA_y hso]
                exact y_vr K hP hD hS (Nat.le_of_ble_eq_true rfl) (Nat.le_of_ble_eq_true rfl) rfl dX11_cond_194 (⟨(dE f24 ln (nx f24 ln ((nx f24 ln (wE f24 ln (nx f24 ln a0))) + 1))), (nx f24 ln ((nx f24 ln (wE f24 ln (nx f24 ln a0))) + 1)), (nuF f24 ln ((nx f24 ln (wE f24 ln (nx f24 ln a0))) + 1) 6 0), (u + 1), upd f31 (nI r).toNatClampNeg (nI (u + 1)), upd f32 (nI ((6 * r) + u)).toNatClampNeg (nI n), upd f33 (nI ((6 * r) + u)).toNatClampNeg (f24 (nx f24 ln (wE f24 ln (nx f24 ln a0)))), upd f34 (nI ((6 * r) + u)).toNatClampNeg (nI (numN f24 (nx f24 ln ((nx f24 ln (wE f24 ln (nx f24 ln a0))) + 1)) (min ((dE f24 ln (nx f24 ln ((nx f24 ln (wE f24 ln (nx f24 ln a0))) + 1))) - (nx f24 ln ((nx f24 ln (wE f24 ln (nx f24 ln a0))) + 1))) 6))), rfl, by omega, by omega, by omega, hc.c (r := r) (u := u + 1) (by omega) (by omega), by rw [nI_clamp (by omega), pk_us], by omega, by omega, fun q => ⟨⟨hk8, by rw [hcq]; exact hso, by rw [hcp]; exact en0.mp q⟩, hu6b, by unfold cdE; rw [hcp, (en1 q).1], rfl, by rw [hck], by rw [hcq, sgR_y hso], by rw [hcp, (en1 q).2]⟩, fun h q => h (en0.mpr (by have h9 := q.1.2.2; rw [hcp] at h9; exact h9)), fun j hj => by rw [nI_clamp (by omega), pk_un (by omega)], fun j hj => ⟨by rw [nI_clamp (by omega), pk_un (by omega)], by rw [nI_clamp (by omega), pk_un (by omega)], by rw [nI_clamp (by omega), pk_un (by omega)]⟩, kp105, k99, k101, k102, k103, k104⟩)
              · refine lv_aload_n hx hb dX11_cond_130 rfl (lv_at hl 1 rfl) ?_
                refine x_get (ref := "NoteHouseModel") F hP k53 rfl (fun _ h => List.mem_cons_of_mem _ (List.mem_append_right _ (h))) 33 (Nat.le_of_ble_eq_true rfl) (List.mem_cons_of_mem _ (List.mem_append_left _ (List.mem_append_left _ (List.mem_of_getElem? (i := 4) rfl)))) rfl rfl dX11_cond_131 ?_
                refine lv_iload_n hx hb dX11_cond_134 rfl (lv_at hl 0 rfl) ?_
                refine x_iald F hP k57 (vp_in_nI (n := ((6 * r) + u)) (N := 936) (by omega) (by decide)) dX11_cond_135 ?_
                rw [pk_us]
                refine lv_bipush (v := 62) hx hb dX11_cond_136 (by decide) ?_
                refine lv_icmp_eq (tgt := 162) hx hb dX11_cond_138 (by decide) (fun cs2 => ?_) (fun cs2 => ?_)
                · have hso : sgO f24 ln (wE f24 ln (nx f24 ln a0)) = true := sgO_t.mpr ⟨hne, Or.inr (Or.inl cs2)⟩
                  refine lv_aload_n hx hb dX11_cond_162 rfl (lv_at hl 1 rfl) ?_
                  refine lv_dup hx hb dX11_cond_163 rfl ?_
                  refine x_get (ref := "NoteHouseModel") F hP k53 rfl (fun _ h => List.mem_cons_of_mem _ (List.mem_append_right _ (h))) 26 (Nat.le_of_ble_eq_true rfl) (List.mem_cons_of_mem _ (List.mem_append_left _ (List.mem_append_left _ (List.mem_of_getElem? (i := 6) rfl)))) rfl rfl dX11_cond_164 ?_
                  refine lv_iconst (v := 1) hx hb dX11_cond_167 (by decide) ?_
                  refine lv_iadd hx hb dX11_cond_168 ?_
                  rw [show ((nI (nx f24 ln (wE f24 ln (nx f24 ln a0)))) + 1 : Int32) = nI ((nx f24 ln (wE f24 ln (nx f24 ln a0))) + 1) from nI_add (nx f24 ln (wE f24 ln (nx f24 ln a0))) 1]
                  refine y_put (ref := "NoteHouseModel") F hP hD hS k53 rfl (fun _ h => List.mem_cons_of_mem _ (List.mem_append_right _ (h))) tyX11_ok nmX11 26 (Nat.le_of_ble_eq_true rfl) (List.mem_cons_of_mem _ (List.mem_append_left _ (List.mem_append_left _ (List.mem_of_getElem? (i := 6) rfl)))) rfl rfl rfl rfl (Nat.le_of_ble_eq_true rfl) dX11_cond_169 (fun w106 ew107 H locs hP hD hS => ?_)
                  have k108 : wd_at w106 y (.inr (11, [.int v0, .int td, .ref m2, .ref m3, .ref m4, .ref m5, .ref m6, .int (nI pc), .ref m8, .ref m9, .ref m10, .ref m11, .ref m12, .ref m13, .ref m14, .int (nI ac), .int (nI sc), .ref m17, .ref m18, .ref m19, .ref m20, .ref m21, .ref m22, .ref m23, .ref m24, .int (nI ln), .int (nI ((nx f24 ln (wE f24 ln (nx f24 ln a0))) + 1)), .int (nI (nx f24 ln (wE f24 ln (nx f24 ln a0)))), .int (nI 0), .ref m29, .ref m30, .ref m31, .ref m32, .ref m33, .ref m34, .ref m35, .ref m36, .ref m37, .int (nI sh), .ref m39, .ref m40, .ref m41, .ref m42, .ref m43, .ref m44, .ref m45, .ref m46, .ref m47, .ref m48, .ref m49, .int v50, .ref m51, .ref m52, .ref m53, .ref m54, .int (nI gf), .ref m56, .ref m57, .ref m58, .ref m59])) := wd_at.ps ew107 k53
                  have k109 := wd_at.pt ew107 k54 (tg_ne tm24 ty (by decide))
                  have k110 := wd_at.pt ew107 k55 (tg_ne tm31 ty (by decide))
                  have k111 := wd_at.pt ew107 k56 (tg_ne tm32 ty (by decide))
                  have k112 := wd_at.pt ew107 k57 (tg_ne tm33 ty (by decide))
                  have k113 := wd_at.pt ew107 k58 (tg_ne tm34 ty (by decide))
                  have kp114 := kp59.put ew107 s90
                  refine lv_aload_n hx hb dX11_cond_172 rfl (lv_at hl 1 rfl) ?_
                  refine x_get (ref := "NoteHouseModel") F hP k108 rfl (fun _ h => List.mem_cons_of_mem _ (List.mem_append_right _ (h))) 34 (Nat.le_of_ble_eq_true rfl) (List.mem_cons_of_mem _ (List.mem_append_left _ (List.mem_append_left _ (List.mem_of_getElem? (i := 7) rfl)))) rfl rfl dX11_cond_173 ?_
                  refine lv_iload_n hx hb dX11_cond_176 rfl (lv_at hl 0 rfl) ?_
                  refine lv_aload_n hx hb dX11_cond_177 rfl (lv_at hl 1 rfl) ?_
                  refine lv_bipush (v := 6) hx hb dX11_cond_178 (by decide) ?_
                  refine x_callV (n := 1) (As := [.int 6]) (rest := [.int (nI ((6 * r) + u)), .ref m34]) F hP hD hS (m_number l D cy sk sv w106 tg y m2 m3 m4 m5 m6 m8 m9 m10 m11 m12 m13 m14 m17 m18 m19 m20 m21 m22 m23 m24 m29 m30 m31 m32 m33 m34 m35 m36 m37 m39 m40 m41 m42 m43 m44 m45 m46 m47 m48 m49 m51 m52 m53 m54 m56 m57 m58 m59 pc ac sc ln sh gf v0 td (nI (nx f24 ln (wE f24 ln (nx f24 ln a0)))) v50 f24 ((nx f24 ln (wE f24 ln (nx f24 ln a0))) + 1) 0 6 k108 k109 (fun b => b = y) rfl ty tm24 (by omega) (by omega) (by omega) (by omega)) gX11_cond_X11_number rfl rfl (by decide +kernel) ⟨(Nat.le_of_ble_eq_true rfl), (Nat.le_of_ble_eq_true rfl)⟩ rfl hl.1 (Nat.le_of_ble_eq_true rfl) k108 rfl dX11_cond_180 rfl ⟨(Nat.le_of_ble_eq_true rfl), (Nat.le_of_ble_eq_true rfl)⟩ (fun v116 w117 hp115 H locs hP hD hS => ?_)
                  obtain ⟨ax118, bx119, fvx120, rx121, rfl, rfl, rfl, rfl, rfl, hz122, hz123, hz124, hz125, kq127, k126⟩ := hp115
                  have k128 := kq127.2 _ _ k109 (tg_ne tm24 ty (by decide))
                  have k129 := kq127.2 _ _ k110 (tg_ne tm31 ty (by decide))
                  have k130 := kq127.2 _ _ k111 (tg_ne tm32 ty (by decide))
                  have k131 := kq127.2 _ _ k112 (tg_ne tm33 ty (by decide))
                  have k132 := kq127.2 _ _ k113 (tg_ne tm34 ty (by decide))
                  have kp133 := kp114.tr kq127 (fun b9 hm q9 => (fun q9 => q9 ▸ s90) q9)
                  refine W.eq (g2 := F0 m 183 ls [.int (nI (numN f24 (nx f24 ln ((nx f24 ln (wE f24 ln (nx f24 ln a0))) + 1)) (min ((dE f24 ln (nx f24 ln ((nx f24 ln (wE f24 ln (nx f24 ln a0))) + 1))) - (nx f24 ln ((nx f24 ln (wE f24 ln (nx f24 ln a0))) + 1))) 6))), .int (nI ((6 * r) + u)), .ref m34]) rfl (W.widen (k := 0) (n := 0) (Nat.le_of_ble_eq_true rfl) (Nat.le_of_ble_eq_true rfl) ?_)
                  refine y_iast F hP hD hS k132 (vp_in_nI (n := ((6 * r) + u)) (N := 936) (by omega) (by decide)) dX11_cond_183 (fun w134 ew135 H locs hP hD hS => ?_)
                  have k136 := wd_at.pt ew135 k126 (tg_ne ty tm34 (by decide))
                  have k137 := wd_at.pt ew135 k128 (tg_ne tm24 tm34 (by decide))
                  have k138 := wd_at.pt ew135 k129 (tg_ne tm31 tm34 (by decide))
                  have k139 := wd_at.pt ew135 k130 (tg_ne tm32 tm34 (by decide))
                  have k140 := wd_at.pt ew135 k131 (tg_ne tm33 tm34 (by decide))
                  have k141 : wd_at w134 m34 (.inl (cy 2, 936, .inl (upd f34 (nI ((6 * r) + u)).toNatClampNeg (nI (numN f24 (nx f24 ln ((nx f24 ln (wE f24 ln (nx f24 ln a0))) + 1)) (min ((dE f24 ln (nx f24 ln ((nx f24 ln (wE f24 ln (nx f24 ln a0))) + 1))) - (nx f24 ln ((nx f24 ln (wE f24 ln (nx f24 ln a0))) + 1))) 6)))))) := wd_at.ps ew135 k132
                  have kp142 := kp133.put ew135 s94
                  refine lv_aload_n hx hb dX11_cond_184 rfl (lv_at hl 1 rfl) ?_
                  refine x_get (ref := "NoteHouseModel") F hP k136 rfl (fun _ h => List.mem_cons_of_mem _ (List.mem_append_right _ (h))) 31 (Nat.le_of_ble_eq_true rfl) (List.mem_cons_of_mem _ (List.mem_append_left _ (List.mem_append_left _ (List.mem_of_getElem? (i := 0) rfl)))) rfl rfl dX11_cond_185 ?_
                  refine lv_iload_n hx hb dX11_cond_188 rfl (lv_at hl 2 rfl) ?_
                  refine lv_dup2_11 hx hb dX11_cond_189 rfl rfl ?_
                  refine x_iald F hP k138 (vp_in_nI (n := r) (N := 156) (by omega) (by decide)) dX11_cond_190 ?_
                  rw [nI_clamp (n := r) (by omega), hu]
                  refine lv_iconst (v := 1) hx hb dX11_cond_191 (by decide) ?_
                  refine lv_iadd hx hb dX11_cond_192 ?_
                  rw [show ((nI u) + 1 : Int32) = nI (u + 1) from nI_add u 1]
                  refine y_iast F hP hD hS k138 (vp_in_nI (n := r) (N := 156) (by omega) (by decide)) dX11_cond_193 (fun w143 ew144 H locs hP hD hS => ?_)
                  have k145 := wd_at.pt ew144 k136 (tg_ne ty tm31 (by decide))
                  have k146 := wd_at.pt ew144 k137 (tg_ne tm24 tm31 (by decide))
                  have k147 : wd_at w143 m31 (.inl (cy 2, 156, .inl (upd f31 (nI r).toNatClampNeg (nI (u + 1))))) := wd_at.ps ew144 k138
                  have k148 := wd_at.pt ew144 k139 (tg_ne tm32 tm31 (by decide))
                  have k149 := wd_at.pt ew144 k140 (tg_ne tm33 tm31 (by decide))
                  have k150 := wd_at.pt ew144 k141 (tg_ne tm34 tm31 (by decide))
                  have kp151 := kp142.put ew144 s91
                  obtain ⟨en0, en1⟩ := nuF6 (B := f24) (n := ln) (q := (nx f24 ln (wE f24 ln (nx f24 ln a0)) + 1)) (by omega)
                  have hcp : cdP f24 ln a0 = (nx f24 ln (wE f24 ln (nx f24 ln a0)) + 1) := by unfold cdP; rw [hcq, sgA_y hso]
                  exact y_vr K hP hD hS (Nat.le_of_ble_eq_true rfl) (Nat.le_of_ble_eq_true rfl) rfl dX11_cond_194 (⟨(dE f24 ln (nx f24 ln ((nx f24 ln (wE f24 ln (nx f24 ln a0))) + 1))), (nx f24 ln ((nx f24 ln (wE f24 ln (nx f24 ln a0))) + 1)), (nuF f24 ln ((nx f24 ln (wE f24 ln (nx f24 ln a0))) + 1) 6 0), (u + 1), upd f31 (nI r).toNatClampNeg (nI (u + 1)), upd f32 (nI ((6 * r) + u)).toNatClampNeg (nI n), upd f33 (nI ((6 * r) + u)).toNatClampNeg (f24 (nx f24 ln (wE f24 ln (nx f24 ln a0)))), upd f34 (nI ((6 * r) + u)).toNatClampNeg (nI (numN f24 (nx f24 ln ((nx f24 ln (wE f24 ln (nx f24 ln a0))) + 1)) (min ((dE f24 ln (nx f24 ln ((nx f24 ln (wE f24 ln (nx f24 ln a0))) + 1))) - (nx f24 ln ((nx f24 ln (wE f24 ln (nx f24 ln a0))) + 1))) 6))), rfl, by omega, by omega, by omega, hc.c (r := r) (u := u + 1) (by omega) (by omega), by rw [nI_clamp (by omega), pk_us], by omega, by omega, fun q => ⟨⟨hk8, by rw [hcq]; exact hso, by rw [hcp]; exact en0.mp q⟩, hu6b, by unfold cdE; rw [hcp, (en1 q).1], rfl, by rw [hck], by rw [hcq, sgR_y hso], by rw [hcp, (en1 q).2]⟩, fun h q => h (en0.mpr (by have h9 := q.1.2.2; rw [hcp] at h9; exact h9)), fun j hj => by rw [nI_clamp (by omega), pk_un (by omega)], fun j hj => ⟨by rw [nI_clamp (by omega), pk_un (by omega)], by rw [nI_clamp (by omega), pk_un (by omega)], by rw [nI_clamp (by omega), pk_un (by omega)]⟩, kp151, k145, k147, k148, k149, k150⟩)
                · refine lv_aload_n hx hb dX11_cond_141 rfl (lv_at hl 1 rfl) ?_
                  refine x_get (ref := "NoteHouseModel") F hP k53 rfl (fun _ h => List.mem_cons_of_mem _ (List.mem_append_right _ (h))) 33 (Nat.le_of_ble_eq_true rfl) (List.mem_cons_of_mem _ (List.mem_append_left _ (List.mem_append_left _ (List.mem_of_getElem? (i := 4) rfl)))) rfl rfl dX11_cond_142 ?_
                  refine lv_iload_n hx hb dX11_cond_145 rfl (lv_at hl 0 rfl) ?_
                  refine x_iald F hP k57 (vp_in_nI (n := ((6 * r) + u)) (N := 936) (by omega) (by decide)) dX11_cond_146 ?_
                  rw [pk_us]
                  refine lv_bipush (v := 61) hx hb dX11_cond_147 (by decide) ?_
                  refine lv_icmp_eq (tgt := 162) hx hb dX11_cond_149 (by decide) (fun cs3 => ?_) (fun cs3 => ?_)
                  · have hso : sgO f24 ln (wE f24 ln (nx f24 ln a0)) = true := sgO_t.mpr ⟨hne, Or.inr (Or.inr cs3)⟩
                    refine lv_aload_n hx hb dX11_cond_162 rfl (lv_at hl 1 rfl) ?_
                    refine lv_dup hx hb dX11_cond_163 rfl ?_
                    refine x_get (ref := "NoteHouseModel") F hP k53 rfl (fun _ h => List.mem_cons_of_mem _ (List.mem_append_right _ (h))) 26 (Nat.le_of_ble_eq_true rfl) (List.mem_cons_of_mem _ (List.mem_append_left _ (List.mem_append_left _ (List.mem_of_getElem? (i := 6) rfl)))) rfl rfl dX11_cond_164 ?_
                    refine lv_iconst (v := 1) hx hb dX11_cond_167 (by decide) ?_
                    refine lv_iadd hx hb dX11_cond_168 ?_
                    rw [show ((nI (nx f24 ln (wE f24 ln (nx f24 ln a0)))) + 1 : Int32) = nI ((nx f24 ln (wE f24 ln (nx f24 ln a0))) + 1) from nI_add (nx f24 ln (wE f24 ln (nx f24 ln a0))) 1]
                    refine y_put (ref := "NoteHouseModel") F hP hD hS k53 rfl (fun _ h => List.mem_cons_of_mem _ (List.mem_append_right _ (h))) tyX11_ok nmX11 26 (Nat.le_of_ble_eq_true rfl) (List.mem_cons_of_mem _ (List.mem_append_left _ (List.mem_append_left _ (List.mem_of_getElem? (i := 6) rfl)))) rfl rfl rfl rfl (Nat.le_of_ble_eq_true rfl) dX11_cond_169 (fun w152 ew153 H locs hP hD hS => ?_)
                    have k154 : wd_at w152 y (.inr (11, [.int v0, .int td, .ref m2, .ref m3, .ref m4, .ref m5, .ref m6, .int (nI pc), .ref m8, .ref m9, .ref m10, .ref m11, .ref m12, .ref m13, .ref m14, .int (nI ac), .int (nI sc), .ref m17, .ref m18, .ref m19, .ref m20, .ref m21, .ref m22, .ref m23, .ref m24, .int (nI ln), .int (nI ((nx f24 ln (wE f24 ln (nx f24 ln a0))) + 1)), .int (nI (nx f24 ln (wE f24 ln (nx f24 ln a0)))), .int (nI 0), .ref m29, .ref m30, .ref m31, .ref m32, .ref m33, .ref m34, .ref m35, .ref m36, .ref m37, .int (nI sh), .ref m39, .ref m40, .ref m41, .ref m42, .ref m43, .ref m44, .ref m45, .ref m46, .ref m47, .ref m48, .ref m49, .int v50, .ref m51, .ref m52, .ref m53, .ref m54, .int (nI gf), .ref m56, .ref m57, .ref m58, .ref m59])) := wd_at.ps ew153 k53
                    have k155 := wd_at.pt ew153 k54 (tg_ne tm24 ty (by decide))
                    have k156 := wd_at.pt ew153 k55 (tg_ne tm31 ty (by decide))
                    have k157 := wd_at.pt ew153 k56 (tg_ne tm32 ty (by decide))
                    have k158 := wd_at.pt ew153 k57 (tg_ne tm33 ty (by decide))
                    have k159 := wd_at.pt ew153 k58 (tg_ne tm34 ty (by decide))
                    have kp160 := kp59.put ew153 s90
                    refine lv_aload_n hx hb dX11_cond_172 rfl (lv_at hl 1 rfl) ?_
                    refine x_get (ref := "NoteHouseModel") F hP k154 rfl (fun _ h => List.mem_cons_of_mem _ (List.mem_append_right _ (h))) 34 (Nat.le_of_ble_eq_true rfl) (List.mem_cons_of_mem _ (List.mem_append_left _ (List.mem_append_left _ (List.mem_of_getElem? (i := 7) rfl)))) rfl rfl dX11_cond_173 ?_
                    refine lv_iload_n hx hb dX11_cond_176 rfl (lv_at hl 0 rfl) ?_
                    refine lv_aload_n hx hb dX11_cond_177 rfl (lv_at hl 1 rfl) ?_
                    refine lv_bipush (v := 6) hx hb dX11_cond_178 (by decide) ?_
                    refine x_callV (n := 1) (As := [.int 6]) (rest := [.int (nI ((6 * r) + u)), .ref m34]) F hP hD hS (m_number l D cy sk sv w152 tg y m2 m3 m4 m5 m6 m8 m9 m10 m11 m12 m13 m14 m17 m18 m19 m20 m21 m22 m23 m24 m29 m30 m31 m32 m33 m34 m35 m36 m37 m39 m40 m41 m42 m43 m44 m45 m46 m47 m48 m49 m51 m52 m53 m54 m56 m57 m58 m59 pc ac sc ln sh gf v0 td (nI (nx f24 ln (wE f24 ln (nx f24 ln a0)))) v50 f24 ((nx f24 ln (wE f24 ln (nx f24 ln a0))) + 1) 0 6 k154 k155 (fun b => b = y) rfl ty tm24 (by omega) (by omega) (by omega) (by omega)) gX11_cond_X11_number rfl rfl (by decide +kernel) ⟨(Nat.le_of_ble_eq_true rfl), (Nat.le_of_ble_eq_true rfl)⟩ rfl hl.1 (Nat.le_of_ble_eq_true rfl) k154 rfl dX11_cond_180 rfl ⟨(Nat.le_of_ble_eq_true rfl), (Nat.le_of_ble_eq_true rfl)⟩ (fun v162 w163 hp161 H locs hP hD hS => ?_)
                    obtain ⟨ax164, bx165, fvx166, rx167, rfl, rfl, rfl, rfl, rfl, hz168, hz169, hz170, hz171, kq173, k172⟩ := hp161
                    have k174 := kq173.2 _ _ k155 (tg_ne tm24 ty (by decide))
                    have k175 := kq173.2 _ _ k156 (tg_ne tm31 ty (by decide))
                    have k176 := kq173.2 _ _ k157 (tg_ne tm32 ty (by decide))
                    have k177 := kq173.2 _ _ k158 (tg_ne tm33 ty (by decide))
                    have k178 := kq173.2 _ _ k159 (tg_ne tm34 ty (by decide))
                    have kp179 := kp160.tr kq173 (fun b9 hm q9 => (fun q9 => q9 ▸ s90) q9)
                    refine W.eq (g2 := F0 m 183 ls [.int (nI (numN f24 (nx f24 ln ((nx f24 ln (wE f24 ln (nx f24 ln a0))) + 1)) (min ((dE f24 ln (nx f24 ln ((nx f24 ln (wE f24 ln (nx f24 ln a0))) + 1))) - (nx f24 ln ((nx f24 ln (wE f24 ln (nx f24 ln a0))) + 1))) 6))), .int (nI ((6 * r) + u)), .ref m34]) rfl (W.widen (k := 0) (n := 0) (Nat.le_of_ble_eq_true rfl) (Nat.le_of_ble_eq_true rfl) ?_)
                    refine y_iast F hP hD hS k178 (vp_in_nI (n := ((6 * r) + u)) (N := 936) (by omega) (by decide)) dX11_cond_183 (fun w180 ew181 H locs hP hD hS => ?_)
                    have k182 := wd_at.pt ew181 k172 (tg_ne ty tm34 (by decide))
                    have k183 := wd_at.pt ew181 k174 (tg_ne tm24 tm34 (by decide))
                    have k184 := wd_at.pt ew181 k175 (tg_ne tm31 tm34 (by decide))
                    have k185 := wd_at.pt ew181 k176 (tg_ne tm32 tm34 (by decide))
                    have k186 := wd_at.pt ew181 k177 (tg_ne tm33 tm34 (by decide))
                    have k187 : wd_at w180 m34 (.inl (cy 2, 936, .inl (upd f34 (nI ((6 * r) + u)).toNatClampNeg (nI (numN f24 (nx f24 ln ((nx f24 ln (wE f24 ln (nx f24 ln a0))) + 1)) (min ((dE f24 ln (nx f24 ln ((nx f24 ln (wE f24 ln (nx f24 ln a0))) + 1))) - (nx f24 ln ((nx f24 ln (wE f24 ln (nx f24 ln a0))) + 1))) 6)))))) := wd_at.ps ew181 k178
                    have kp188 := kp179.put ew181 s94
                    refine lv_aload_n hx hb dX11_cond_184 rfl (lv_at hl 1 rfl) ?_
                    refine x_get (ref := "NoteHouseModel") F hP k182 rfl (fun _ h => List.mem_cons_of_mem _ (List.mem_append_right _ (h))) 31 (Nat.le_of_ble_eq_true rfl) (List.mem_cons_of_mem _ (List.mem_append_left _ (List.mem_append_left _ (List.mem_of_getElem? (i := 0) rfl)))) rfl rfl dX11_cond_185 ?_
                    refine lv_iload_n hx hb dX11_cond_188 rfl (lv_at hl 2 rfl) ?_
                    refine lv_dup2_11 hx hb dX11_cond_189 rfl rfl ?_
                    refine x_iald F hP k184 (vp_in_nI (n := r) (N := 156) (by omega) (by decide)) dX11_cond_190 ?_
                    rw [nI_clamp (n := r) (by omega), hu]
                    refine lv_iconst (v := 1) hx hb dX11_cond_191 (by decide) ?_
                    refine lv_iadd hx hb dX11_cond_192 ?_
                    rw [show ((nI u) + 1 : Int32) = nI (u + 1) from nI_add u 1]
                    refine y_iast F hP hD hS k184 (vp_in_nI (n := r) (N := 156) (by omega) (by decide)) dX11_cond_193 (fun w189 ew190 H locs hP hD hS => ?_)
                    have k191 := wd_at.pt ew190 k182 (tg_ne ty tm31 (by decide))
                    have k192 := wd_at.pt ew190 k183 (tg_ne tm24 tm31 (by decide))
                    have k193 : wd_at w189 m31 (.inl (cy 2, 156, .inl (upd f31 (nI r).toNatClampNeg (nI (u + 1))))) := wd_at.ps ew190 k184
                    have k194 := wd_at.pt ew190 k185 (tg_ne tm32 tm31 (by decide))
                    have k195 := wd_at.pt ew190 k186 (tg_ne tm33 tm31 (by decide))
                    have k196 := wd_at.pt ew190 k187 (tg_ne tm34 tm31 (by decide))
                    have kp197 := kp188.put ew190 s91
                    obtain ⟨en0, en1⟩ := nuF6 (B := f24) (n := ln) (q := (nx f24 ln (wE f24 ln (nx f24 ln a0)) + 1)) (by omega)
                    have hcp : cdP f24 ln a0 = (nx f24 ln (wE f24 ln (nx f24 ln a0)) + 1) := by unfold cdP; rw [hcq, sgA_y hso]
                    exact y_vr K hP hD hS (Nat.le_of_ble_eq_true rfl) (Nat.le_of_ble_eq_true rfl) rfl dX11_cond_194 (⟨(dE f24 ln (nx f24 ln ((nx f24 ln (wE f24 ln (nx f24 ln a0))) + 1))), (nx f24 ln ((nx f24 ln (wE f24 ln (nx f24 ln a0))) + 1)), (nuF f24 ln ((nx f24 ln (wE f24 ln (nx f24 ln a0))) + 1) 6 0), (u + 1), upd f31 (nI r).toNatClampNeg (nI (u + 1)), upd f32 (nI ((6 * r) + u)).toNatClampNeg (nI n), upd f33 (nI ((6 * r) + u)).toNatClampNeg (f24 (nx f24 ln (wE f24 ln (nx f24 ln a0)))), upd f34 (nI ((6 * r) + u)).toNatClampNeg (nI (numN f24 (nx f24 ln ((nx f24 ln (wE f24 ln (nx f24 ln a0))) + 1)) (min ((dE f24 ln (nx f24 ln ((nx f24 ln (wE f24 ln (nx f24 ln a0))) + 1))) - (nx f24 ln ((nx f24 ln (wE f24 ln (nx f24 ln a0))) + 1))) 6))), rfl, by omega, by omega, by omega, hc.c (r := r) (u := u + 1) (by omega) (by omega), by rw [nI_clamp (by omega), pk_us], by omega, by omega, fun q => ⟨⟨hk8, by rw [hcq]; exact hso, by rw [hcp]; exact en0.mp q⟩, hu6b, by unfold cdE; rw [hcp, (en1 q).1], rfl, by rw [hck], by rw [hcq, sgR_y hso], by rw [hcp, (en1 q).2]⟩, fun h q => h (en0.mpr (by have h9 := q.1.2.2; rw [hcp] at h9; exact h9)), fun j hj => by rw [nI_clamp (by omega), pk_un (by omega)], fun j hj => ⟨by rw [nI_clamp (by omega), pk_un (by omega)], by rw [nI_clamp (by omega), pk_un (by omega)], by rw [nI_clamp (by omega), pk_un (by omega)]⟩, kp197, k191, k193, k194, k195, k196⟩)
                  · refine lv_aload_n hx hb dX11_cond_152 rfl (lv_at hl 1 rfl) ?_
                    refine lv_iconst (v := 0) hx hb dX11_cond_153 (by decide) ?_
                    refine lv_aload_n hx hb dX11_cond_154 rfl (lv_at hl 1 rfl) ?_
                    refine x_get (ref := "NoteHouseModel") F hP k53 rfl (fun _ h => List.mem_cons_of_mem _ (List.mem_append_right _ (h))) 26 (Nat.le_of_ble_eq_true rfl) (List.mem_cons_of_mem _ (List.mem_append_left _ (List.mem_append_left _ (List.mem_of_getElem? (i := 6) rfl)))) rfl rfl dX11_cond_155 ?_
                    refine x_callV (n := 2) (As := [.int 0, .int (nI (nx f24 ln (wE f24 ln (nx f24 ln a0))))]) (rest := []) F hP hD hS (m_fails l D cy sk sv w51 tg y m2 m3 m4 m5 m6 m8 m9 m10 m11 m12 m13 m14 m17 m18 m19 m20 m21 m22 m23 m24 m29 m30 m31 m32 m33 m34 m35 m36 m37 m39 m40 m41 m42 m43 m44 m45 m46 m47 m48 m49 m51 m52 m53 m54 m56 m57 m58 m59 pc ac sc ln sh gf v0 td (nI (nx f24 ln (wE f24 ln (nx f24 ln a0)))) (nI (nx f24 ln (wE f24 ln (nx f24 ln a0)))) v50 0 0 (nx f24 ln (wE f24 ln (nx f24 ln a0))) k53 (fun b => b = y) rfl ty (by omega) (by omega) (by omega)) gX11_cond_X11_fails rfl rfl (by decide +kernel) ⟨(Nat.le_of_ble_eq_true rfl), (Nat.le_of_ble_eq_true rfl)⟩ rfl hl.1 (Nat.le_of_ble_eq_true rfl) k53 rfl dX11_cond_158 rfl ⟨(Nat.le_of_ble_eq_true rfl), (Nat.le_of_ble_eq_true rfl)⟩ (fun v199 w200 hp198 H locs hP hD hS => ?_)
                    obtain ⟨fwx201, rfl, rfl, hz202, hz203, kq205, k204⟩ := hp198
                    have k206 := kq205.2 _ _ k54 (tg_ne tm24 ty (by decide))
                    have k207 := kq205.2 _ _ k55 (tg_ne tm31 ty (by decide))
                    have k208 := kq205.2 _ _ k56 (tg_ne tm32 ty (by decide))
                    have k209 := kq205.2 _ _ k57 (tg_ne tm33 ty (by decide))
                    have k210 := kq205.2 _ _ k58 (tg_ne tm34 ty (by decide))
                    have kp211 := kp59.tr kq205 (fun b9 hm q9 => (fun q9 => q9 ▸ s90) q9)
                    refine W.eq (g2 := F0 m 161 ls []) rfl (W.widen (k := 0) (n := 0) (Nat.le_of_ble_eq_true rfl) (Nat.le_of_ble_eq_true rfl) ?_)
                    have hso : ¬ sgO f24 ln (cdQ f24 ln a0) = true := by rw [hcq]; exact fun q => by rcases (sgO_t.mp q).2 with h | h | h; exact cs1 h; exact cs2 h; exact cs3 h
                    exact y_vr K hP hD hS (Nat.le_of_ble_eq_true rfl) (Nat.le_of_ble_eq_true rfl) rfl dX11_cond_161 (⟨(nx f24 ln (wE f24 ln (nx f24 ln a0))), (nx f24 ln (wE f24 ln (nx f24 ln a0))), (flF 0 0 (nx f24 ln (wE f24 ln (nx f24 ln a0)))), u, f31, upd f32 (nI ((6 * r) + u)).toNatClampNeg (nI n), upd f33 (nI ((6 * r) + u)).toNatClampNeg (f24 (nx f24 ln (wE f24 ln (nx f24 ln a0)))), f34, rfl, by omega, by omega, by omega, hc, hu, by omega, by omega, fun q => absurd q (by omega), fun _ q => hso q.1.2.1, fun j hj => rfl, fun j hj => ⟨by rw [nI_clamp (by omega), pk_un (by omega)], by rw [nI_clamp (by omega), pk_un (by omega)], rfl⟩, kp211, k204, k207, k208, k209, k210⟩)
            · refine lv_iconst (v := 0) hx hb dX11_cond_105 (by decide) ?_
              refine lv_goto (tgt := 118) hx hb dX11_cond_106 (by decide) ?_
              refine y_iast F hP hD hS k48 (vp_in_nI (n := ((6 * r) + u)) (N := 936) (by omega) (by decide)) dX11_cond_118 (fun w212 ew213 H locs hP hD hS => ?_)
              have k214 := wd_at.pt ew213 k43 (tg_ne ty tm33 (by decide))
              have k215 := wd_at.pt ew213 k45 (tg_ne tm24 tm33 (by decide))
              have k216 := wd_at.pt ew213 k46 (tg_ne tm31 tm33 (by decide))
              have k217 := wd_at.pt ew213 k47 (tg_ne tm32 tm33 (by decide))
              have k218 : wd_at w212 m33 (.inl (cy 2, 936, .inl (upd f33 (nI ((6 * r) + u)).toNatClampNeg 0))) := wd_at.ps ew213 k48
              have k219 := wd_at.pt ew213 k49 (tg_ne tm34 tm33 (by decide))
              have kp220 := kp50.put ew213 s93
              refine lv_aload_n hx hb dX11_cond_119 rfl (lv_at hl 1 rfl) ?_
              refine x_get (ref := "NoteHouseModel") F hP k214 rfl (fun _ h => List.mem_cons_of_mem _ (List.mem_append_right _ (h))) 33 (Nat.le_of_ble_eq_true rfl) (List.mem_cons_of_mem _ (List.mem_append_left _ (List.mem_append_left _ (List.mem_of_getElem? (i := 4) rfl)))) rfl rfl dX11_cond_120 ?_
              refine lv_iload_n hx hb dX11_cond_123 rfl (lv_at hl 0 rfl) ?_
              refine x_iald F hP k218 (vp_in_nI (n := ((6 * r) + u)) (N := 936) (by omega) (by decide)) dX11_cond_124 ?_
              rw [pk_us]
              refine lv_bipush (v := 60) hx hb dX11_cond_125 (by decide) ?_
              refine lv_icmp_eq (tgt := 162) hx hb dX11_cond_127 (by decide) (fun cs1 => absurd cs1 (show ¬ (0 : Int32) = (60 : Int32) by decide)) (fun cs1 => ?_)
              refine lv_aload_n hx hb dX11_cond_130 rfl (lv_at hl 1 rfl) ?_
              refine x_get (ref := "NoteHouseModel") F hP k214 rfl (fun _ h => List.mem_cons_of_mem _ (List.mem_append_right _ (h))) 33 (Nat.le_of_ble_eq_true rfl) (List.mem_cons_of_mem _ (List.mem_append_left _ (List.mem_append_left _ (List.mem_of_getElem? (i := 4) rfl)))) rfl rfl dX11_cond_131 ?_
              refine lv_iload_n hx hb dX11_cond_134 rfl (lv_at hl 0 rfl) ?_
              refine x_iald F hP k218 (vp_in_nI (n := ((6 * r) + u)) (N := 936) (by omega) (by decide)) dX11_cond_135 ?_
              rw [pk_us]
              refine lv_bipush (v := 62) hx hb dX11_cond_136 (by decide) ?_
              refine lv_icmp_eq (tgt := 162) hx hb dX11_cond_138 (by decide) (fun cs2 => absurd cs2 (show ¬ (0 : Int32) = (62 : Int32) by decide)) (fun cs2 => ?_)
              refine lv_aload_n hx hb dX11_cond_141 rfl (lv_at hl 1 rfl) ?_
              refine x_get (ref := "NoteHouseModel") F hP k214 rfl (fun _ h => List.mem_cons_of_mem _ (List.mem_append_right _ (h))) 33 (Nat.le_of_ble_eq_true rfl) (List.mem_cons_of_mem _ (List.mem_append_left _ (List.mem_append_left _ (List.mem_of_getElem? (i := 4) rfl)))) rfl rfl dX11_cond_142 ?_
              refine lv_iload_n hx hb dX11_cond_145 rfl (lv_at hl 0 rfl) ?_
              refine x_iald F hP k218 (vp_in_nI (n := ((6 * r) + u)) (N := 936) (by omega) (by decide)) dX11_cond_146 ?_
              rw [pk_us]
              refine lv_bipush (v := 61) hx hb dX11_cond_147 (by decide) ?_
              refine lv_icmp_eq (tgt := 162) hx hb dX11_cond_149 (by decide) (fun cs3 => absurd cs3 (show ¬ (0 : Int32) = (61 : Int32) by decide)) (fun cs3 => ?_)
              refine lv_aload_n hx hb dX11_cond_152 rfl (lv_at hl 1 rfl) ?_
              refine lv_iconst (v := 0) hx hb dX11_cond_153 (by decide) ?_
              refine lv_aload_n hx hb dX11_cond_154 rfl (lv_at hl 1 rfl) ?_
              refine x_get (ref := "NoteHouseModel") F hP k214 rfl (fun _ h => List.mem_cons_of_mem _ (List.mem_append_right _ (h))) 26 (Nat.le_of_ble_eq_true rfl) (List.mem_cons_of_mem _ (List.mem_append_left _ (List.mem_append_left _ (List.mem_of_getElem? (i := 6) rfl)))) rfl rfl dX11_cond_155 ?_
              refine x_callV (n := 2) (As := [.int 0, .int (nI (nx f24 ln (wE f24 ln (nx f24 ln a0))))]) (rest := []) F hP hD hS (m_fails l D cy sk sv w212 tg y m2 m3 m4 m5 m6 m8 m9 m10 m11 m12 m13 m14 m17 m18 m19 m20 m21 m22 m23 m24 m29 m30 m31 m32 m33 m34 m35 m36 m37 m39 m40 m41 m42 m43 m44 m45 m46 m47 m48 m49 m51 m52 m53 m54 m56 m57 m58 m59 pc ac sc ln sh gf v0 td (nI (nx f24 ln (wE f24 ln (nx f24 ln a0)))) (nI (nx f24 ln (wE f24 ln (nx f24 ln a0)))) v50 0 0 (nx f24 ln (wE f24 ln (nx f24 ln a0))) k214 (fun b => b = y) rfl ty (by omega) (by omega) (by omega)) gX11_cond_X11_fails rfl rfl (by decide +kernel) ⟨(Nat.le_of_ble_eq_true rfl), (Nat.le_of_ble_eq_true rfl)⟩ rfl hl.1 (Nat.le_of_ble_eq_true rfl) k214 rfl dX11_cond_158 rfl ⟨(Nat.le_of_ble_eq_true rfl), (Nat.le_of_ble_eq_true rfl)⟩ (fun v222 w223 hp221 H locs hP hD hS => ?_)
              obtain ⟨fwx224, rfl, rfl, hz225, hz226, kq228, k227⟩ := hp221
              have k229 := kq228.2 _ _ k215 (tg_ne tm24 ty (by decide))
              have k230 := kq228.2 _ _ k216 (tg_ne tm31 ty (by decide))
              have k231 := kq228.2 _ _ k217 (tg_ne tm32 ty (by decide))
              have k232 := kq228.2 _ _ k218 (tg_ne tm33 ty (by decide))
              have k233 := kq228.2 _ _ k219 (tg_ne tm34 ty (by decide))
              have kp234 := kp220.tr kq228 (fun b9 hm q9 => (fun q9 => q9 ▸ s90) q9)
              refine W.eq (g2 := F0 m 161 ls []) rfl (W.widen (k := 0) (n := 0) (Nat.le_of_ble_eq_true rfl) (Nat.le_of_ble_eq_true rfl) ?_)
              have hso : ¬ sgO f24 ln (cdQ f24 ln a0) = true := by rw [hcq]; exact fun q => by have h9 := (sgO_t.mp q).1; have h8 := ieR_1 cEn; omega
              exact y_vr K hP hD hS (Nat.le_of_ble_eq_true rfl) (Nat.le_of_ble_eq_true rfl) rfl dX11_cond_161 (⟨(nx f24 ln (wE f24 ln (nx f24 ln a0))), (nx f24 ln (wE f24 ln (nx f24 ln a0))), (flF 0 0 (nx f24 ln (wE f24 ln (nx f24 ln a0)))), u, f31, upd f32 (nI ((6 * r) + u)).toNatClampNeg (nI n), upd f33 (nI ((6 * r) + u)).toNatClampNeg 0, f34, rfl, by omega, by omega, by omega, hc, hu, by omega, by omega, fun q => absurd q (by omega), fun _ q => hso q.1.2.1, fun j hj => rfl, fun j hj => ⟨by rw [nI_clamp (by omega), pk_un (by omega)], by rw [nI_clamp (by omega), pk_un (by omega)], rfl⟩, kp234, k227, k230, k231, k232, k233⟩)
          · have hn8 : n = 8 := (nI_eq (a := n) (b := 8) (by omega) (by omega)).mp c_24
            refine lv_aload_n hx hb dX11_cond_64 rfl (lv_at hl 0 rfl) ?_
            refine lv_iconst (v := 0) hx hb dX11_cond_65 (by decide) ?_
            refine lv_aload_n hx hb dX11_cond_66 rfl (lv_at hl 0 rfl) ?_
            refine x_get (ref := "NoteHouseModel") F hP k21 rfl (fun _ h => List.mem_cons_of_mem _ (List.mem_append_right _ (h))) 27 (Nat.le_of_ble_eq_true rfl) (List.mem_cons_of_mem _ (List.mem_append_left _ (List.mem_append_left _ (List.mem_of_getElem? (i := 1) rfl)))) rfl rfl dX11_cond_67 ?_
            refine x_callV (n := 2) (As := [.int 0, .int (nI (nx f24 ln a0))]) (rest := []) F hP hD hS (m_fails l D cy sk sv w3 tg y m2 m3 m4 m5 m6 m8 m9 m10 m11 m12 m13 m14 m17 m18 m19 m20 m21 m22 m23 m24 m29 m30 m31 m32 m33 m34 m35 m36 m37 m39 m40 m41 m42 m43 m44 m45 m46 m47 m48 m49 m51 m52 m53 m54 m56 m57 m58 m59 pc ac sc ln sh gf v0 td (nI (wE f24 ln (nx f24 ln a0))) (nI (nx f24 ln a0)) v50 0 0 (nx f24 ln a0) k21 (fun b => b = y) rfl ty (by omega) (by omega) (by omega)) gX11_cond_X11_fails rfl rfl (by decide +kernel) ⟨(Nat.le_of_ble_eq_true rfl), (Nat.le_of_ble_eq_true rfl)⟩ rfl hl.1 (Nat.le_of_ble_eq_true rfl) k21 rfl dX11_cond_70 rfl ⟨(Nat.le_of_ble_eq_true rfl), (Nat.le_of_ble_eq_true rfl)⟩ (fun v236 w237 hp235 H locs hP hD hS => ?_)
            obtain ⟨fwx238, rfl, rfl, hz239, hz240, kq242, k241⟩ := hp235
            have k243 := kq242.2 _ _ k13 (tg_ne tm24 ty (by decide))
            have k244 := kq242.2 _ _ k14 (tg_ne tm31 ty (by decide))
            have k245 := kq242.2 _ _ k15 (tg_ne tm32 ty (by decide))
            have k246 := kq242.2 _ _ k16 (tg_ne tm33 ty (by decide))
            have k247 := kq242.2 _ _ k17 (tg_ne tm34 ty (by decide))
            have kp248 := kp18.tr kq242 (fun b9 hm q9 => (fun q9 => q9 ▸ s90) q9)
            refine W.eq (g2 := F0 m 73 ls []) rfl (W.widen (k := 0) (n := 0) (Nat.le_of_ble_eq_true rfl) (Nat.le_of_ble_eq_true rfl) ?_)
            exact y_vr K hP hD hS (Nat.le_of_ble_eq_true rfl) (Nat.le_of_ble_eq_true rfl) rfl dX11_cond_73 (⟨(wE f24 ln (nx f24 ln a0)), (nx f24 ln a0), (flF 0 0 (nx f24 ln a0)), u, f31, f32, f33, f34, rfl, by omega, by omega, by omega, hc, hu, by omega, by omega, fun q => absurd q (by omega), fun _ q => q.1.1 (hck.trans hn8), fun j hj => rfl, fun j hj => ⟨rfl, rfl, rfl⟩, kp248, k241, k244, k245, k246, k247⟩)
        | succ N ih34 =>
          intro n hN34 hnm34 ls hl H locs hP hD hS
          refine lv_iload_n hx hb dX11_cond_34 rfl (lv_at hl 2 rfl) ?_
          refine lv_bipush (v := 8) hx hb dX11_cond_35 (by decide) ?_
          refine lv_icmp_ge (tgt := 58) hx hb dX11_cond_37 (by decide) (fun c_249 => absurd c_249 (nI_ge (a := n) (b := 8) (by omega) (by omega))) (fun c_249 => ?_)
          refine lv_aload_n hx hb dX11_cond_40 rfl (lv_at hl 0 rfl) ?_
          refine lv_aload_n hx hb dX11_cond_41 rfl (lv_at hl 0 rfl) ?_
          refine lv_iload_n hx hb dX11_cond_42 rfl (lv_at hl 2 rfl) ?_
          refine x_callV (n := 1) (As := [.int (nI n)]) (rest := [.ref y]) F hP hD hS (m_nameOf l D cy sk sv w3 y n (by omega)) gX11_cond_X11_nameOf rfl rfl (by decide +kernel) ⟨(Nat.le_of_ble_eq_true rfl), (Nat.le_of_ble_eq_true rfl)⟩ rfl hl.1 (Nat.le_of_ble_eq_true rfl) k21 rfl dX11_cond_43 rfl ⟨(Nat.le_of_ble_eq_true rfl), (Nat.le_of_ble_eq_true rfl)⟩ (fun v251 w252 hp250 H locs hP hD hS => ?_)
          obtain ⟨ix253, rfl, rfl, hz254, rfl⟩ := hp250
          refine W.eq (g2 := F0 m 46 ls [.ref (sk ((WL 2).getD n 0)), .ref y]) rfl (W.widen (k := 0) (n := 0) (Nat.le_of_ble_eq_true rfl) (Nat.le_of_ble_eq_true rfl) ?_)
          refine x_callV (n := 1) (As := [.ref (sk ((WL 2).getD n 0))]) (rest := []) F hP hD hS (m_is l D cy sk sv w3 tg y m2 m3 m4 m5 m6 m8 m9 m10 m11 m12 m13 m14 m17 m18 m19 m20 m21 m22 m23 m24 m29 m30 m31 m32 m33 m34 m35 m36 m37 m39 m40 m41 m42 m43 m44 m45 m46 m47 m48 m49 m51 m52 m53 m54 m56 m57 m58 m59 pc ac sc ln sh gf v0 td (nI 0) v50 f24 (wE f24 ln (nx f24 ln a0)) (nx f24 ln a0) ((WL 2).getD n 0) k21 k13 ty tm24 (by omega) (by omega) (by omega)) gX11_cond_X11_is rfl rfl (by decide +kernel) ⟨(Nat.le_of_ble_eq_true rfl), (Nat.le_of_ble_eq_true rfl)⟩ rfl hl.1 (Nat.le_of_ble_eq_true rfl) k21 rfl dX11_cond_46 rfl ⟨(Nat.le_of_ble_eq_true rfl), (Nat.le_of_ble_eq_true rfl)⟩ (fun v256 w257 hp255 H locs hP hD hS => ?_)
          obtain ⟨rx258, rfl, rfl, hz259, rfl⟩ := hp255
          refine W.eq (g2 := F0 m 49 ls [.int (if wB f24 (nx f24 ln a0) ((wE f24 ln (nx f24 ln a0)) - (nx f24 ln a0)) ((WL 2).getD n 0) then (1 : Int32) else 0)]) rfl (W.widen (k := 0) (n := 0) (Nat.le_of_ble_eq_true rfl) (Nat.le_of_ble_eq_true rfl) ?_)
          refine lv_if_ne (tgt := 58) hx hb dX11_cond_49 (by decide) (fun cis34 => ?_) (fun cis34 => ?_)
          · have hck : cdK f24 ln a0 = n := cdK_e ha0 (by omega) hnm34 (Or.inr (wB1 cis34))
            refine lv_iload_n hx hb dX11_cond_58 rfl (lv_at hl 2 rfl) ?_
            refine lv_bipush (v := 8) hx hb dX11_cond_59 (by decide) ?_
            refine lv_icmp_ne (tgt := 74) hx hb dX11_cond_61 (by decide) (fun c_260 => ?_) (fun c_260 => ?_)
            · have hn8 : n < 8 := by have h9 : ¬ n = 8 := fun q => c_260 (by rw [q]; rfl); omega
              have hk8 : ¬ cdK f24 ln a0 = 8 := by omega
              have hcq : cdQ f24 ln a0 = (wE f24 ln (nx f24 ln a0)) := cdQ_e ha0 hk8
              refine lv_bipush (v := 6) hx hb dX11_cond_74 (by decide) ?_
              refine lv_iload_n hx hb dX11_cond_76 rfl (lv_at hl 1 rfl) ?_
              refine lv_imul hx hb dX11_cond_77 ?_
              rw [show (6 * (nI r) : Int32) = nI (6 * r) from pk_mul 6 r]
              refine lv_aload_n hx hb dX11_cond_78 rfl (lv_at hl 0 rfl) ?_
              refine x_get (ref := "NoteHouseModel") F hP k21 rfl (fun _ h => List.mem_cons_of_mem _ (List.mem_append_right _ (h))) 31 (Nat.le_of_ble_eq_true rfl) (List.mem_cons_of_mem _ (List.mem_append_left _ (List.mem_append_left _ (List.mem_of_getElem? (i := 0) rfl)))) rfl rfl dX11_cond_79 ?_
              refine lv_iload_n hx hb dX11_cond_82 rfl (lv_at hl 1 rfl) ?_
              refine x_iald F hP k14 (vp_in_nI (n := r) (N := 156) (by omega) (by decide)) dX11_cond_83 ?_
              rw [nI_clamp (n := r) (by omega), hu]
              refine lv_iadd hx hb dX11_cond_84 ?_
              rw [show ((nI (6 * r)) + (nI u) : Int32) = nI ((6 * r) + u) from nI_add (6 * r) u]
              refine lv_istore_n (lv' := [(3, .int (nI ((6 * r) + u))), (0, .ref y), (1, .int (nI r)), (2, .int (nI n))]) hx hb dX11_cond_85 rfl hl (by decide) rfl (fun ls hl => ?_)
              refine lv_aload_n hx hb dX11_cond_86 rfl (lv_at hl 1 rfl) ?_
              refine x_get (ref := "NoteHouseModel") F hP k21 rfl (fun _ h => List.mem_cons_of_mem _ (List.mem_append_right _ (h))) 32 (Nat.le_of_ble_eq_true rfl) (List.mem_cons_of_mem _ (List.mem_append_left _ (List.mem_append_left _ (List.mem_of_getElem? (i := 3) rfl)))) rfl rfl dX11_cond_87 ?_
              refine lv_iload_n hx hb dX11_cond_90 rfl (lv_at hl 0 rfl) ?_
              refine lv_iload_n hx hb dX11_cond_91 rfl (lv_at hl 3 rfl) ?_
              refine y_iast F hP hD hS k15 (vp_in_nI (n := ((6 * r) + u)) (N := 936) (by omega) (by decide)) dX11_cond_92 (fun w261 ew262 H locs hP hD hS => ?_)
              have k263 := wd_at.pt ew262 k21 (tg_ne ty tm32 (by decide))
              have k264 := wd_at.pt ew262 k13 (tg_ne tm24 tm32 (by decide))
              have k265 := wd_at.pt ew262 k14 (tg_ne tm31 tm32 (by decide))
              have k266 : wd_at w261 m32 (.inl (cy 2, 936, .inl (upd f32 (nI ((6 * r) + u)).toNatClampNeg (nI n)))) := wd_at.ps ew262 k15
              have k267 := wd_at.pt ew262 k16 (tg_ne tm33 tm32 (by decide))
              have k268 := wd_at.pt ew262 k17 (tg_ne tm34 tm32 (by decide))
              have kp269 := kp18.put ew262 s92
              refine lv_aload_n hx hb dX11_cond_93 rfl (lv_at hl 1 rfl) ?_
              refine x_get (ref := "NoteHouseModel") F hP k263 rfl (fun _ h => List.mem_cons_of_mem _ (List.mem_append_right _ (h))) 33 (Nat.le_of_ble_eq_true rfl) (List.mem_cons_of_mem _ (List.mem_append_left _ (List.mem_append_left _ (List.mem_of_getElem? (i := 4) rfl)))) rfl rfl dX11_cond_94 ?_
              refine lv_iload_n hx hb dX11_cond_97 rfl (lv_at hl 0 rfl) ?_
              refine lv_aload_n hx hb dX11_cond_98 rfl (lv_at hl 1 rfl) ?_
              refine x_callV (n := 0) (As := []) (rest := [.int (nI ((6 * r) + u)), .ref m33]) F hP hD hS (m_isEnd l D cy sk sv w261 tg y m2 m3 m4 m5 m6 m8 m9 m10 m11 m12 m13 m14 m17 m18 m19 m20 m21 m22 m23 m24 m29 m30 m31 m32 m33 m34 m35 m36 m37 m39 m40 m41 m42 m43 m44 m45 m46 m47 m48 m49 m51 m52 m53 m54 m56 m57 m58 m59 pc ac sc ln sh gf v0 td (nI (nx f24 ln a0)) (nI 0) v50 f24 (wE f24 ln (nx f24 ln a0)) k263 k264 (fun b => b = y) rfl ty tm24 (by omega) (by omega)) gX11_cond_X11_isEnd rfl rfl (by decide +kernel) ⟨(Nat.le_of_ble_eq_true rfl), (Nat.le_of_ble_eq_true rfl)⟩ rfl hl.1 (Nat.le_of_ble_eq_true rfl) k263 rfl dX11_cond_99 rfl ⟨(Nat.le_of_ble_eq_true rfl), (Nat.le_of_ble_eq_true rfl)⟩ (fun v271 w272 hp270 H locs hP hD hS => ?_)
              obtain ⟨ax273, rx274, rfl, rfl, rfl, hz275, hz276, hz277, hz278, kq280, k279⟩ := hp270
              have k281 := kq280.2 _ _ k264 (tg_ne tm24 ty (by decide))
              have k282 := kq280.2 _ _ k265 (tg_ne tm31 ty (by decide))
              have k283 := kq280.2 _ _ k266 (tg_ne tm32 ty (by decide))
              have k284 := kq280.2 _ _ k267 (tg_ne tm33 ty (by decide))
              have k285 := kq280.2 _ _ k268 (tg_ne tm34 ty (by decide))
              have kp286 := kp269.tr kq280 (fun b9 hm q9 => (fun q9 => q9 ▸ s90) q9)
              refine W.eq (g2 := F0 m 102 ls [.int (ieR f24 ln (wE f24 ln (nx f24 ln a0))), .int (nI ((6 * r) + u)), .ref m33]) rfl (W.widen (k := 0) (n := 0) (Nat.le_of_ble_eq_true rfl) (Nat.le_of_ble_eq_true rfl) ?_)
              refine lv_if_eq (tgt := 109) hx hb dX11_cond_102 (by decide) (fun cEn => ?_) (fun cEn => ?_)
              · have hne := hz278 cEn
                refine lv_aload_n hx hb dX11_cond_109 rfl (lv_at hl 1 rfl) ?_
                refine x_get (ref := "NoteHouseModel") F hP k279 rfl (fun _ h => List.mem_cons_of_mem _ (List.mem_append_right _ (h))) 24 (Nat.le_of_ble_eq_true rfl) (List.mem_cons_of_mem _ (List.mem_append_left _ (List.mem_append_left _ (List.mem_of_getElem? (i := 5) rfl)))) rfl rfl dX11_cond_110 ?_
                refine lv_aload_n hx hb dX11_cond_113 rfl (lv_at hl 1 rfl) ?_
                refine x_get (ref := "NoteHouseModel") F hP k279 rfl (fun _ h => List.mem_cons_of_mem _ (List.mem_append_right _ (h))) 26 (Nat.le_of_ble_eq_true rfl) (List.mem_cons_of_mem _ (List.mem_append_left _ (List.mem_append_left _ (List.mem_of_getElem? (i := 6) rfl)))) rfl rfl dX11_cond_114 ?_
                refine x_bald F hP k281 (vp_in_nI (n := (nx f24 ln (wE f24 ln (nx f24 ln a0)))) (N := 300) (by omega) (by decide)) dX11_cond_117 ?_
                rw [nI_clamp (n := nx f24 ln (wE f24 ln (nx f24 ln a0))) (by omega)]
                refine y_iast F hP hD hS k284 (vp_in_nI (n := ((6 * r) + u)) (N := 936) (by omega) (by decide)) dX11_cond_118 (fun w287 ew288 H locs hP hD hS => ?_)
                have k289 := wd_at.pt ew288 k279 (tg_ne ty tm33 (by decide))
                have k290 := wd_at.pt ew288 k281 (tg_ne tm24 tm33 (by decide))
                have k291 := wd_at.pt ew288 k282 (tg_ne tm31 tm33 (by decide))
                have k292 := wd_at.pt ew288 k283 (tg_ne tm32 tm33 (by decide))
                have k293 : wd_at w287 m33 (.inl (cy 2, 936, .inl (upd f33 (nI ((6 * r) + u)).toNatClampNeg (f24 (nx f24 ln (wE f24 ln (nx f24 ln a0))))))) := wd_at.ps ew288 k284
                have k294 := wd_at.pt ew288 k285 (tg_ne tm34 tm33 (by decide))
                have kp295 := kp286.put ew288 s93
                refine lv_aload_n hx hb dX11_cond_119 rfl (lv_at hl 1 rfl) ?_
                refine x_get (ref := "NoteHouseModel") F hP k289 rfl (fun _ h => List.mem_cons_of_mem _ (List.mem_append_right _ (h))) 33 (Nat.le_of_ble_eq_true rfl) (List.mem_cons_of_mem _ (List.mem_append_left _ (List.mem_append_left _ (List.mem_of_getElem? (i := 4) rfl)))) rfl rfl dX11_cond_120 ?_
                refine lv_iload_n hx hb dX11_cond_123 rfl (lv_at hl 0 rfl) ?_
                refine x_iald F hP k293 (vp_in_nI (n := ((6 * r) + u)) (N := 936) (by omega) (by decide)) dX11_cond_124 ?_
                rw [pk_us]
                refine lv_bipush (v := 60) hx hb dX11_cond_125 (by decide) ?_
                refine lv_icmp_eq (tgt := 162) hx hb dX11_cond_127 (by decide) (fun cs1 => ?_) (fun cs1 => ?_)
                · have hso : sgO f24 ln (wE f24 ln (nx f24 ln a0)) = true := sgO_t.mpr ⟨hne, Or.inl cs1⟩
                  refine lv_aload_n hx hb dX11_cond_162 rfl (lv_at hl 1 rfl) ?_
                  refine lv_dup hx hb dX11_cond_163 rfl ?_
                  refine x_get (ref := "NoteHouseModel") F hP k289 rfl (fun _ h => List.mem_cons_of_mem _ (List.mem_append_right _ (h))) 26 (Nat.le_of_ble_eq_true rfl) (List.mem_cons_of_mem _ (List.mem_append_left _ (List.mem_append_left _ (List.mem_of_getElem? (i := 6) rfl)))) rfl rfl dX11_cond_164 ?_
                  refine lv_iconst (v := 1) hx hb dX11_cond_167 (by decide) ?_
                  refine lv_iadd hx hb dX11_cond_168 ?_
                  rw [show ((nI (nx f24 ln (wE f24 ln (nx f24 ln a0)))) + 1 : Int32) = nI ((nx f24 ln (wE f24 ln (nx f24 ln a0))) + 1) from nI_add (nx f24 ln (wE f24 ln (nx f24 ln a0))) 1]
                  refine y_put (ref := "NoteHouseModel") F hP hD hS k289 rfl (fun _ h => List.mem_cons_of_mem _ (List.mem_append_right _ (h))) tyX11_ok nmX11 26 (Nat.le_of_ble_eq_true rfl) (List.mem_cons_of_mem _ (List.mem_append_left _ (List.mem_append_left _ (List.mem_of_getElem? (i := 6) rfl)))) rfl rfl rfl rfl (Nat.le_of_ble_eq_true rfl) dX11_cond_169 (fun w296 ew297 H locs hP hD hS => ?_)
                  have k298 : wd_at w296 y (.inr (11, [.int v0, .int td, .ref m2, .ref m3, .ref m4, .ref m5, .ref m6, .int (nI pc), .ref m8, .ref m9, .ref m10, .ref m11, .ref m12, .ref m13, .ref m14, .int (nI ac), .int (nI sc), .ref m17, .ref m18, .ref m19, .ref m20, .ref m21, .ref m22, .ref m23, .ref m24, .int (nI ln), .int (nI ((nx f24 ln (wE f24 ln (nx f24 ln a0))) + 1)), .int (nI (nx f24 ln (wE f24 ln (nx f24 ln a0)))), .int (nI 0), .ref m29, .ref m30, .ref m31, .ref m32, .ref m33, .ref m34, .ref m35, .ref m36, .ref m37, .int (nI sh), .ref m39, .ref m40, .ref m41, .ref m42, .ref m43, .ref m44, .ref m45, .ref m46, .ref m47, .ref m48, .ref m49, .int v50, .ref m51, .ref m52, .ref m53, .ref m54, .int (nI gf), .ref m56, .ref m57, .ref m58, .ref m59])) := wd_at.ps ew297 k289
                  have k299 := wd_at.pt ew297 k290 (tg_ne tm24 ty (by decide))
                  have k300 := wd_at.pt ew297 k291 (tg_ne tm31 ty (by decide))
                  have k301 := wd_at.pt ew297 k292 (tg_ne tm32 ty (by decide))
                  have k302 := wd_at.pt ew297 k293 (tg_ne tm33 ty (by decide))
                  have k303 := wd_at.pt ew297 k294 (tg_ne tm34 ty (by decide))
                  have kp304 := kp295.put ew297 s90
                  refine lv_aload_n hx hb dX11_cond_172 rfl (lv_at hl 1 rfl) ?_
                  refine x_get (ref := "NoteHouseModel") F hP k298 rfl (fun _ h => List.mem_cons_of_mem _ (List.mem_append_right _ (h))) 34 (Nat.le_of_ble_eq_true rfl) (List.mem_cons_of_mem _ (List.mem_append_left _ (List.mem_append_left _ (List.mem_of_getElem? (i := 7) rfl)))) rfl rfl dX11_cond_173 ?_
                  refine lv_iload_n hx hb dX11_cond_176 rfl (lv_at hl 0 rfl) ?_
                  refine lv_aload_n hx hb dX11_cond_177 rfl (lv_at hl 1 rfl) ?_
                  refine lv_bipush (v := 6) hx hb dX11_cond_178 (by decide) ?_
                  refine x_callV (n := 1) (As := [.int 6]) (rest := [.int (nI ((6 * r) + u)), .ref m34]) F hP hD hS (m_number l D cy sk sv w296 tg y m2 m3 m4 m5 m6 m8 m9 m10 m11 m12 m13 m14 m17 m18 m19 m20 m21 m22 m23 m24 m29 m30 m31 m32 m33 m34 m35 m36 m37 m39 m40 m41 m42 m43 m44 m45 m46 m47 m48 m49 m51 m52 m53 m54 m56 m57 m58 m59 pc ac sc ln sh gf v0 td (nI (nx f24 ln (wE f24 ln (nx f24 ln a0)))) v50 f24 ((nx f24 ln (wE f24 ln (nx f24 ln a0))) + 1) 0 6 k298 k299 (fun b => b = y) rfl ty tm24 (by omega) (by omega) (by omega) (by omega)) gX11_cond_X11_number rfl rfl (by decide +kernel) ⟨(Nat.le_of_ble_eq_true rfl), (Nat.le_of_ble_eq_true rfl)⟩ rfl hl.1 (Nat.le_of_ble_eq_true rfl) k298 rfl dX11_cond_180 rfl ⟨(Nat.le_of_ble_eq_true rfl), (Nat.le_of_ble_eq_true rfl)⟩ (fun v306 w307 hp305 H locs hP hD hS => ?_)
                  obtain ⟨ax308, bx309, fvx310, rx311, rfl, rfl, rfl, rfl, rfl, hz312, hz313, hz314, hz315, kq317, k316⟩ := hp305
                  have k318 := kq317.2 _ _ k299 (tg_ne tm24 ty (by decide))
                  have k319 := kq317.2 _ _ k300 (tg_ne tm31 ty (by decide))
                  have k320 := kq317.2 _ _ k301 (tg_ne tm32 ty (by decide))
                  have k321 := kq317.2 _ _ k302 (tg_ne tm33 ty (by decide))
                  have k322 := kq317.2 _ _ k303 (tg_ne tm34 ty (by decide))
                  have kp323 := kp304.tr kq317 (fun b9 hm q9 => (fun q9 => q9 ▸ s90) q9)
                  refine W.eq (g2 := F0 m 183 ls [.int (nI (numN f24 (nx f24 ln ((nx f24 ln (wE f24 ln (nx f24 ln a0))) + 1)) (min ((dE f24 ln (nx f24 ln ((nx f24 ln (wE f24 ln (nx f24 ln a0))) + 1))) - (nx f24 ln ((nx f24 ln (wE f24 ln (nx f24 ln a0))) + 1))) 6))), .int (nI ((6 * r) + u)), .ref m34]) rfl (W.widen (k := 0) (n := 0) (Nat.le_of_ble_eq_true rfl) (Nat.le_of_ble_eq_true rfl) ?_)
                  refine y_iast F hP hD hS k322 (vp_in_nI (n := ((6 * r) + u)) (N := 936) (by omega) (by decide)) dX11_cond_183 (fun w324 ew325 H locs hP hD hS => ?_)
                  have k326 := wd_at.pt ew325 k316 (tg_ne ty tm34 (by decide))
                  have k327 := wd_at.pt ew325 k318 (tg_ne tm24 tm34 (by decide))
                  have k328 := wd_at.pt ew325 k319 (tg_ne tm31 tm34 (by decide))
                  have k329 := wd_at.pt ew325 k320 (tg_ne tm32 tm34 (by decide))
                  have k330 := wd_at.pt ew325 k321 (tg_ne tm33 tm34 (by decide))
                  have k331 : wd_at w324 m34 (.inl (cy 2, 936, .inl (upd f34 (nI ((6 * r) + u)).toNatClampNeg (nI (numN f24 (nx f24 ln ((nx f24 ln (wE f24 ln (nx f24 ln a0))) + 1)) (min ((dE f24 ln (nx f24 ln ((nx f24 ln (wE f24 ln (nx f24 ln a0))) + 1))) - (nx f24 ln ((nx f24 ln (wE f24 ln (nx f24 ln a0))) + 1))) 6)))))) := wd_at.ps ew325 k322
                  have kp332 := kp323.put ew325 s94
                  refine lv_aload_n hx hb dX11_cond_184 rfl (lv_at hl 1 rfl) ?_
                  refine x_get (ref := "NoteHouseModel") F hP k326 rfl (fun _ h => List.mem_cons_of_mem _ (List.mem_append_right _ (h))) 31 (Nat.le_of_ble_eq_true rfl) (List.mem_cons_of_mem _ (List.mem_append_left _ (List.mem_append_left _ (List.mem_of_getElem? (i := 0) rfl)))) rfl rfl dX11_cond_185 ?_
                  refine lv_iload_n hx hb dX11_cond_188 rfl (lv_at hl 2 rfl) ?_
                  refine lv_dup2_11 hx hb dX11_cond_189 rfl rfl ?_
                  refine x_iald F hP k328 (vp_in_nI (n := r) (N := 156) (by omega) (by decide)) dX11_cond_190 ?_
                  rw [nI_clamp (n := r) (by omega), hu]
                  refine lv_iconst (v := 1) hx hb dX11_cond_191 (by decide) ?_
                  refine lv_iadd hx hb dX11_cond_192 ?_
                  rw [show ((nI u) + 1 : Int32) = nI (u + 1) from nI_add u 1]
                  refine y_iast F hP hD hS k328 (vp_in_nI (n := r) (N := 156) (by omega) (by decide)) dX11_cond_193 (fun w333 ew334 H locs hP hD hS => ?_)
                  have k335 := wd_at.pt ew334 k326 (tg_ne ty tm31 (by decide))
                  have k336 := wd_at.pt ew334 k327 (tg_ne tm24 tm31 (by decide))
                  have k337 : wd_at w333 m31 (.inl (cy 2, 156, .inl (upd f31 (nI r).toNatClampNeg (nI (u + 1))))) := wd_at.ps ew334 k328
                  have k338 := wd_at.pt ew334 k329 (tg_ne tm32 tm31 (by decide))
                  have k339 := wd_at.pt ew334 k330 (tg_ne tm33 tm31 (by decide))
                  have k340 := wd_at.pt ew334 k331 (tg_ne tm34 tm31 (by decide))
                  have kp341 := kp332.put ew334 s91
                  obtain ⟨en0, en1⟩ := nuF6 (B := f24) (n := ln) (q := (nx f24 ln (wE f24 ln (nx f24 ln a0)) + 1)) (by omega)
                  have hcp : cdP f24 ln a0 = (nx f24 ln (wE f24 ln (nx f24 ln a0)) + 1) := by unfold cdP; rw [hcq, sgA_y hso]
                  exact y_vr K hP hD hS (Nat.le_of_ble_eq_true rfl) (Nat.le_of_ble_eq_true rfl) rfl dX11_cond_194 (⟨(dE f24 ln (nx f24 ln ((nx f24 ln (wE f24 ln (nx f24 ln a0))) + 1))), (nx f24 ln ((nx f24 ln (wE f24 ln (nx f24 ln a0))) + 1)), (nuF f24 ln ((nx f24 ln (wE f24 ln (nx f24 ln a0))) + 1) 6 0), (u + 1), upd f31 (nI r).toNatClampNeg (nI (u + 1)), upd f32 (nI ((6 * r) + u)).toNatClampNeg (nI n), upd f33 (nI ((6 * r) + u)).toNatClampNeg (f24 (nx f24 ln (wE f24 ln (nx f24 ln a0)))), upd f34 (nI ((6 * r) + u)).toNatClampNeg (nI (numN f24 (nx f24 ln ((nx f24 ln (wE f24 ln (nx f24 ln a0))) + 1)) (min ((dE f24 ln (nx f24 ln ((nx f24 ln (wE f24 ln (nx f24 ln a0))) + 1))) - (nx f24 ln ((nx f24 ln (wE f24 ln (nx f24 ln a0))) + 1))) 6))), rfl, by omega, by omega, by omega, hc.c (r := r) (u := u + 1) (by omega) (by omega), by rw [nI_clamp (by omega), pk_us], by omega, by omega, fun q => ⟨⟨hk8, by rw [hcq]; exact hso, by rw [hcp]; exact en0.mp q⟩, hu6b, by unfold cdE; rw [hcp, (en1 q).1], rfl, by rw [hck], by rw [hcq, sgR_y hso], by rw [hcp, (en1 q).2]⟩, fun h q => h (en0.mpr (by have h9 := q.1.2.2; rw [hcp] at h9; exact h9)), fun j hj => by rw [nI_clamp (by omega), pk_un (by omega)], fun j hj => ⟨by rw [nI_clamp (by omega), pk_un (by omega)], by rw [nI_clamp (by omega), pk_un (by omega)], by rw [nI_clamp (by omega), pk_un (by omega)]⟩, kp341, k335, k337, k338, k339, k340⟩)
                · refine lv_aload_n hx hb dX11_cond_130 rfl (lv_at hl 1 rfl) ?_
                  refine x_get (ref := "NoteHouseModel") F hP k289 rfl (fun _ h => List.mem_cons_of_mem _ (List.mem_append_right _ (h))) 33 (Nat.le_of_ble_eq_true rfl) (List.mem_cons_of_mem _ (List.mem_append_left _ (List.mem_append_left _ (List.mem_of_getElem? (i := 4) rfl)))) rfl rfl dX11_cond_131 ?_
                  refine lv_iload_n hx hb dX11_cond_134 rfl (lv_at hl 0 rfl) ?_
                  refine x_iald F hP k293 (vp_in_nI (n := ((6 * r) + u)) (N := 936) (by omega) (by decide)) dX11_cond_135 ?_
                  rw [pk_us]
                  refine lv_bipush (v := 62) hx hb dX11_cond_136 (by decide) ?_
                  refine lv_icmp_eq (tgt := 162) hx hb dX11_cond_138 (by decide) (fun cs2 => ?_) (fun cs2 => ?_)
                  · have hso : sgO f24 ln (wE f24 ln (nx f24 ln a0)) = true := sgO_t.mpr ⟨hne, Or.inr (Or.inl cs2)⟩
                    refine lv_aload_n hx hb dX11_cond_162 rfl (lv_at hl 1 rfl) ?_
                    refine lv_dup hx hb dX11_cond_163 rfl ?_
                    refine x_get (ref := "NoteHouseModel") F hP k289 rfl (fun _ h => List.mem_cons_of_mem _ (List.mem_append_right _ (h))) 26 (Nat.le_of_ble_eq_true rfl) (List.mem_cons_of_mem _ (List.mem_append_left _ (List.mem_append_left _ (List.mem_of_getElem? (i := 6) rfl)))) rfl rfl dX11_cond_164 ?_
                    refine lv_iconst (v := 1) hx hb dX11_cond_167 (by decide) ?_
                    refine lv_iadd hx hb dX11_cond_168 ?_
                    rw [show ((nI (nx f24 ln (wE f24 ln (nx f24 ln a0)))) + 1 : Int32) = nI ((nx f24 ln (wE f24 ln (nx f24 ln a0))) + 1) from nI_add (nx f24 ln (wE f24 ln (nx f24 ln a0))) 1]
                    refine y_put (ref := "NoteHouseModel") F hP hD hS k289 rfl (fun _ h => List.mem_cons_of_mem _ (List.mem_append_right _ (h))) tyX11_ok nmX11 26 (Nat.le_of_ble_eq_true rfl) (List.mem_cons_of_mem _ (List.mem_append_left _ (List.mem_append_left _ (List.mem_of_getElem? (i := 6) rfl)))) rfl rfl rfl rfl (Nat.le_of_ble_eq_true rfl) dX11_cond_169 (fun w342 ew343 H locs hP hD hS => ?_)
                    have k344 : wd_at w342 y (.inr (11, [.int v0, .int td, .ref m2, .ref m3, .ref m4, .ref m5, .ref m6, .int (nI pc), .ref m8, .ref m9, .ref m10, .ref m11, .ref m12, .ref m13, .ref m14, .int (nI ac), .int (nI sc), .ref m17, .ref m18, .ref m19, .ref m20, .ref m21, .ref m22, .ref m23, .ref m24, .int (nI ln), .int (nI ((nx f24 ln (wE f24 ln (nx f24 ln a0))) + 1)), .int (nI (nx f24 ln (wE f24 ln (nx f24 ln a0)))), .int (nI 0), .ref m29, .ref m30, .ref m31, .ref m32, .ref m33, .ref m34, .ref m35, .ref m36, .ref m37, .int (nI sh), .ref m39, .ref m40, .ref m41, .ref m42, .ref m43, .ref m44, .ref m45, .ref m46, .ref m47, .ref m48, .ref m49, .int v50, .ref m51, .ref m52, .ref m53, .ref m54, .int (nI gf), .ref m56, .ref m57, .ref m58, .ref m59])) := wd_at.ps ew343 k289
                    have k345 := wd_at.pt ew343 k290 (tg_ne tm24 ty (by decide))
                    have k346 := wd_at.pt ew343 k291 (tg_ne tm31 ty (by decide))
                    have k347 := wd_at.pt ew343 k292 (tg_ne tm32 ty (by decide))
                    have k348 := wd_at.pt ew343 k293 (tg_ne tm33 ty (by decide))
                    have k349 := wd_at.pt ew343 k294 (tg_ne tm34 ty (by decide))
                    have kp350 := kp295.put ew343 s90
                    refine lv_aload_n hx hb dX11_cond_172 rfl (lv_at hl 1 rfl) ?_
                    refine x_get (ref := "NoteHouseModel") F hP k344 rfl (fun _ h => List.mem_cons_of_mem _ (List.mem_append_right _ (h))) 34 (Nat.le_of_ble_eq_true rfl) (List.mem_cons_of_mem _ (List.mem_append_left _ (List.mem_append_left _ (List.mem_of_getElem? (i := 7) rfl)))) rfl rfl dX11_cond_173 ?_
                    refine lv_iload_n hx hb dX11_cond_176 rfl (lv_at hl 0 rfl) ?_
                    refine lv_aload_n hx hb dX11_cond_177 rfl (lv_at hl 1 rfl) ?_
                    refine lv_bipush (v := 6) hx hb dX11_cond_178 (by decide) ?_
                    refine x_callV (n := 1) (As := [.int 6]) (rest := [.int (nI ((6 * r) + u)), .ref m34]) F hP hD hS (m_number l D cy sk sv w342 tg y m2 m3 m4 m5 m6 m8 m9 m10 m11 m12 m13 m14 m17 m18 m19 m20 m21 m22 m23 m24 m29 m30 m31 m32 m33 m34 m35 m36 m37 m39 m40 m41 m42 m43 m44 m45 m46 m47 m48 m49 m51 m52 m53 m54 m56 m57 m58 m59 pc ac sc ln sh gf v0 td (nI (nx f24 ln (wE f24 ln (nx f24 ln a0)))) v50 f24 ((nx f24 ln (wE f24 ln (nx f24 ln a0))) + 1) 0 6 k344 k345 (fun b => b = y) rfl ty tm24 (by omega) (by omega) (by omega) (by omega)) gX11_cond_X11_number rfl rfl (by decide +kernel) ⟨(Nat.le_of_ble_eq_true rfl), (Nat.le_of_ble_eq_true rfl)⟩ rfl hl.1 (Nat.le_of_ble_eq_true rfl) k344 rfl dX11_cond_180 rfl ⟨(Nat.le_of_ble_eq_true rfl), (Nat.le_of_ble_eq_true rfl)⟩ (fun v352 w353 hp351 H locs hP hD hS => ?_)
                    obtain ⟨ax354, bx355, fvx356, rx357, rfl, rfl, rfl, rfl, rfl, hz358, hz359, hz360, hz361, kq363, k362⟩ := hp351
                    have k364 := kq363.2 _ _ k345 (tg_ne tm24 ty (by decide))
                    have k365 := kq363.2 _ _ k346 (tg_ne tm31 ty (by decide))
                    have k366 := kq363.2 _ _ k347 (tg_ne tm32 ty (by decide))
                    have k367 := kq363.2 _ _ k348 (tg_ne tm33 ty (by decide))
                    have k368 := kq363.2 _ _ k349 (tg_ne tm34 ty (by decide))
                    have kp369 := kp350.tr kq363 (fun b9 hm q9 => (fun q9 => q9 ▸ s90) q9)
                    refine W.eq (g2 := F0 m 183 ls [.int (nI (numN f24 (nx f24 ln ((nx f24 ln (wE f24 ln (nx f24 ln a0))) + 1)) (min ((dE f24 ln (nx f24 ln ((nx f24 ln (wE f24 ln (nx f24 ln a0))) + 1))) - (nx f24 ln ((nx f24 ln (wE f24 ln (nx f24 ln a0))) + 1))) 6))), .int (nI ((6 * r) + u)), .ref m34]) rfl (W.widen (k := 0) (n := 0) (Nat.le_of_ble_eq_true rfl) (Nat.le_of_ble_eq_true rfl) ?_)
                    refine y_iast F hP hD hS k368 (vp_in_nI (n := ((6 * r) + u)) (N := 936) (by omega) (by decide)) dX11_cond_183 (fun w370 ew371 H locs hP hD hS => ?_)
                    have k372 := wd_at.pt ew371 k362 (tg_ne ty tm34 (by decide))
                    have k373 := wd_at.pt ew371 k364 (tg_ne tm24 tm34 (by decide))
                    have k374 := wd_at.pt ew371 k365 (tg_ne tm31 tm34 (by decide))
                    have k375 := wd_at.pt ew371 k366 (tg_ne tm32 tm34 (by decide))
                    have k376 := wd_at.pt ew371 k367 (tg_ne tm33 tm34 (by decide))
                    have k377 : wd_at w370 m34 (.inl (cy 2, 936, .inl (upd f34 (nI ((6 * r) + u)).toNatClampNeg (nI (numN f24 (nx f24 ln ((nx f24 ln (wE f24 ln (nx f24 ln a0))) + 1)) (min ((dE f24 ln (nx f24 ln ((nx f24 ln (wE f24 ln (nx f24 ln a0))) + 1))) - (nx f24 ln ((nx f24 ln (wE f24 ln (nx f24 ln a0))) + 1))) 6)))))) := wd_at.ps ew371 k368
                    have kp378 := kp369.put ew371 s94
                    refine lv_aload_n hx hb dX11_cond_184 rfl (lv_at hl 1 rfl) ?_
                    refine x_get (ref := "NoteHouseModel") F hP k372 rfl (fun _ h => List.mem_cons_of_mem _ (List.mem_append_right _ (h))) 31 (Nat.le_of_ble_eq_true rfl) (List.mem_cons_of_mem _ (List.mem_append_left _ (List.mem_append_left _ (List.mem_of_getElem? (i := 0) rfl)))) rfl rfl dX11_cond_185 ?_
                    refine lv_iload_n hx hb dX11_cond_188 rfl (lv_at hl 2 rfl) ?_
                    refine lv_dup2_11 hx hb dX11_cond_189 rfl rfl ?_
                    refine x_iald F hP k374 (vp_in_nI (n := r) (N := 156) (by omega) (by decide)) dX11_cond_190 ?_
                    rw [nI_clamp (n := r) (by omega), hu]
                    refine lv_iconst (v := 1) hx hb dX11_cond_191 (by decide) ?_
                    refine lv_iadd hx hb dX11_cond_192 ?_
                    rw [show ((nI u) + 1 : Int32) = nI (u + 1) from nI_add u 1]
                    refine y_iast F hP hD hS k374 (vp_in_nI (n := r) (N := 156) (by omega) (by decide)) dX11_cond_193 (fun w379 ew380 H locs hP hD hS => ?_)
                    have k381 := wd_at.pt ew380 k372 (tg_ne ty tm31 (by decide))
                    have k382 := wd_at.pt ew380 k373 (tg_ne tm24 tm31 (by decide))
                    have k383 : wd_at w379 m31 (.inl (cy 2, 156, .inl (upd f31 (nI r).toNatClampNeg (nI (u + 1))))) := wd_at.ps ew380 k374
                    have k384 := wd_at.pt ew380 k375 (tg_ne tm32 tm31 (by decide))
                    have k385 := wd_at.pt ew380 k376 (tg_ne tm33 tm31 (by decide))
                    have k386 := wd_at.pt ew380 k377 (tg_ne tm34 tm31 (by decide))
                    have kp387 := kp378.put ew380 s91
                    obtain ⟨en0, en1⟩ := nuF6 (B := f24) (n := ln) (q := (nx f24 ln (wE f24 ln (nx f24 ln a0)) + 1)) (by omega)
                    have hcp : cdP f24 ln a0 = (nx f24 ln (wE f24 ln (nx f24 ln a0)) + 1) := by unfold cdP; rw [hcq, sgA_y hso]
                    exact y_vr K hP hD hS (Nat.le_of_ble_eq_true rfl) (Nat.le_of_ble_eq_true rfl) rfl dX11_cond_194 (⟨(dE f24 ln (nx f24 ln ((nx f24 ln (wE f24 ln (nx f24 ln a0))) + 1))), (nx f24 ln ((nx f24 ln (wE f24 ln (nx f24 ln a0))) + 1)), (nuF f24 ln ((nx f24 ln (wE f24 ln (nx f24 ln a0))) + 1) 6 0), (u + 1), upd f31 (nI r).toNatClampNeg (nI (u + 1)), upd f32 (nI ((6 * r) + u)).toNatClampNeg (nI n), upd f33 (nI ((6 * r) + u)).toNatClampNeg (f24 (nx f24 ln (wE f24 ln (nx f24 ln a0)))), upd f34 (nI ((6 * r) + u)).toNatClampNeg (nI (numN f24 (nx f24 ln ((nx f24 ln (wE f24 ln (nx f24 ln a0))) + 1)) (min ((dE f24 ln (nx f24 ln ((nx f24 ln (wE f24 ln (nx f24 ln a0))) + 1))) - (nx f24 ln ((nx f24 ln (wE f24 ln (nx f24 ln a0))) + 1))) 6))), rfl, by omega, by omega, by omega, hc.c (r := r) (u := u + 1) (by omega) (by omega), by rw [nI_clamp (by omega), pk_us], by omega, by omega, fun q => ⟨⟨hk8, by rw [hcq]; exact hso, by rw [hcp]; exact en0.mp q⟩, hu6b, by unfold cdE; rw [hcp, (en1 q).1], rfl, by rw [hck], by rw [hcq, sgR_y hso], by rw [hcp, (en1 q).2]⟩, fun h q => h (en0.mpr (by have h9 := q.1.2.2; rw [hcp] at h9; exact h9)), fun j hj => by rw [nI_clamp (by omega), pk_un (by omega)], fun j hj => ⟨by rw [nI_clamp (by omega), pk_un (by omega)], by rw [nI_clamp (by omega), pk_un (by omega)], by rw [nI_clamp (by omega), pk_un (by omega)]⟩, kp387, k381, k383, k384, k385, k386⟩)
                  · refine lv_aload_n hx hb dX11_cond_141 rfl (lv_at hl 1 rfl) ?_
                    refine x_get (ref := "NoteHouseModel") F hP k289 rfl (fun _ h => List.mem_cons_of_mem _ (List.mem_append_right _ (h))) 33 (Nat.le_of_ble_eq_true rfl) (List.mem_cons_of_mem _ (List.mem_append_left _ (List.mem_append_left _ (List.mem_of_getElem? (i := 4) rfl)))) rfl rfl dX11_cond_142 ?_
                    refine lv_iload_n hx hb dX11_cond_145 rfl (lv_at hl 0 rfl) ?_
                    refine x_iald F hP k293 (vp_in_nI (n := ((6 * r) + u)) (N := 936) (by omega) (by decide)) dX11_cond_146 ?_
                    rw [pk_us]
                    refine lv_bipush (v := 61) hx hb dX11_cond_147 (by decide) ?_
                    refine lv_icmp_eq (tgt := 162) hx hb dX11_cond_149 (by decide) (fun cs3 => ?_) (fun cs3 => ?_)
                    · have hso : sgO f24 ln (wE f24 ln (nx f24 ln a0)) = true := sgO_t.mpr ⟨hne, Or.inr (Or.inr cs3)⟩
                      refine lv_aload_n hx hb dX11_cond_162 rfl (lv_at hl 1 rfl) ?_
                      refine lv_dup hx hb dX11_cond_163 rfl ?_
                      refine x_get (ref := "NoteHouseModel") F hP k289 rfl (fun _ h => List.mem_cons_of_mem _ (List.mem_append_right _ (h))) 26 (Nat.le_of_ble_eq_true rfl) (List.mem_cons_of_mem _ (List.mem_append_left _ (List.mem_append_left _ (List.mem_of_getElem? (i := 6) rfl)))) rfl rfl dX11_cond_164 ?_
                      refine lv_iconst (v := 1) hx hb dX11_cond_167 (by decide) ?_
                      refine lv_iadd hx hb dX11_cond_168 ?_
                      rw [show ((nI (nx f24 ln (wE f24 ln (nx f24 ln a0)))) + 1 : Int32) = nI ((nx f24 ln (wE f24 ln (nx f24 ln a0))) + 1) from nI_add (nx f24 ln (wE f24 ln (nx f24 ln a0))) 1]
                      refine y_put (ref := "NoteHouseModel") F hP hD hS k289 rfl (fun _ h => List.mem_cons_of_mem _ (List.mem_append_right _ (h))) tyX11_ok nmX11 26 (Nat.le_of_ble_eq_true rfl) (List.mem_cons_of_mem _ (List.mem_append_left _ (List.mem_append_left _ (List.mem_of_getElem? (i := 6) rfl)))) rfl rfl rfl rfl (Nat.le_of_ble_eq_true rfl) dX11_cond_169 (fun w388 ew389 H locs hP hD hS => ?_)
                      have k390 : wd_at w388 y (.inr (11, [.int v0, .int td, .ref m2, .ref m3, .ref m4, .ref m5, .ref m6, .int (nI pc), .ref m8, .ref m9, .ref m10, .ref m11, .ref m12, .ref m13, .ref m14, .int (nI ac), .int (nI sc), .ref m17, .ref m18, .ref m19, .ref m20, .ref m21, .ref m22, .ref m23, .ref m24, .int (nI ln), .int (nI ((nx f24 ln (wE f24 ln (nx f24 ln a0))) + 1)), .int (nI (nx f24 ln (wE f24 ln (nx f24 ln a0)))), .int (nI 0), .ref m29, .ref m30, .ref m31, .ref m32, .ref m33, .ref m34, .ref m35, .ref m36, .ref m37, .int (nI sh), .ref m39, .ref m40, .ref m41, .ref m42, .ref m43, .ref m44, .ref m45, .ref m46, .ref m47, .ref m48, .ref m49, .int v50, .ref m51, .ref m52, .ref m53, .ref m54, .int (nI gf), .ref m56, .ref m57, .ref m58, .ref m59])) := wd_at.ps ew389 k289
                      have k391 := wd_at.pt ew389 k290 (tg_ne tm24 ty (by decide))
                      have k392 := wd_at.pt ew389 k291 (tg_ne tm31 ty (by decide))
                      have k393 := wd_at.pt ew389 k292 (tg_ne tm32 ty (by decide))
                      have k394 := wd_at.pt ew389 k293 (tg_ne tm33 ty (by decide))
                      have k395 := wd_at.pt ew389 k294 (tg_ne tm34 ty (by decide))
                      have kp396 := kp295.put ew389 s90
                      refine lv_aload_n hx hb dX11_cond_172 rfl (lv_at hl 1 rfl) ?_
                      refine x_get (ref := "NoteHouseModel") F hP k390 rfl (fun _ h => List.mem_cons_of_mem _ (List.mem_append_right _ (h))) 34 (Nat.le_of_ble_eq_true rfl) (List.mem_cons_of_mem _ (List.mem_append_left _ (List.mem_append_left _ (List.mem_of_getElem? (i := 7) rfl)))) rfl rfl dX11_cond_173 ?_
                      refine lv_iload_n hx hb dX11_cond_176 rfl (lv_at hl 0 rfl) ?_
                      refine lv_aload_n hx hb dX11_cond_177 rfl (lv_at hl 1 rfl) ?_
                      refine lv_bipush (v := 6) hx hb dX11_cond_178 (by decide) ?_
                      refine x_callV (n := 1) (As := [.int 6]) (rest := [.int (nI ((6 * r) + u)), .ref m34]) F hP hD hS (m_number l D cy sk sv w388 tg y m2 m3 m4 m5 m6 m8 m9 m10 m11 m12 m13 m14 m17 m18 m19 m20 m21 m22 m23 m24 m29 m30 m31 m32 m33 m34 m35 m36 m37 m39 m40 m41 m42 m43 m44 m45 m46 m47 m48 m49 m51 m52 m53 m54 m56 m57 m58 m59 pc ac sc ln sh gf v0 td (nI (nx f24 ln (wE f24 ln (nx f24 ln a0)))) v50 f24 ((nx f24 ln (wE f24 ln (nx f24 ln a0))) + 1) 0 6 k390 k391 (fun b => b = y) rfl ty tm24 (by omega) (by omega) (by omega) (by omega)) gX11_cond_X11_number rfl rfl (by decide +kernel) ⟨(Nat.le_of_ble_eq_true rfl), (Nat.le_of_ble_eq_true rfl)⟩ rfl hl.1 (Nat.le_of_ble_eq_true rfl) k390 rfl dX11_cond_180 rfl ⟨(Nat.le_of_ble_eq_true rfl), (Nat.le_of_ble_eq_true rfl)⟩ (fun v398 w399 hp397 H locs hP hD hS => ?_)
                      obtain ⟨ax400, bx401, fvx402, rx403, rfl, rfl, rfl, rfl, rfl, hz404, hz405, hz406, hz407, kq409, k408⟩ := hp397
                      have k410 := kq409.2 _ _ k391 (tg_ne tm24 ty (by decide))
                      have k411 := kq409.2 _ _ k392 (tg_ne tm31 ty (by decide))
                      have k412 := kq409.2 _ _ k393 (tg_ne tm32 ty (by decide))
                      have k413 := kq409.2 _ _ k394 (tg_ne tm33 ty (by decide))
                      have k414 := kq409.2 _ _ k395 (tg_ne tm34 ty (by decide))
                      have kp415 := kp396.tr kq409 (fun b9 hm q9 => (fun q9 => q9 ▸ s90) q9)
                      refine W.eq (g2 := F0 m 183 ls [.int (nI (numN f24 (nx f24 ln ((nx f24 ln (wE f24 ln (nx f24 ln a0))) + 1)) (min ((dE f24 ln (nx f24 ln ((nx f24 ln (wE f24 ln (nx f24 ln a0))) + 1))) - (nx f24 ln ((nx f24 ln (wE f24 ln (nx f24 ln a0))) + 1))) 6))), .int (nI ((6 * r) + u)), .ref m34]) rfl (W.widen (k := 0) (n := 0) (Nat.le_of_ble_eq_true rfl) (Nat.le_of_ble_eq_true rfl) ?_)
                      refine y_iast F hP hD hS k414 (vp_in_nI (n := ((6 * r) + u)) (N := 936) (by omega) (by decide)) dX11_cond_183 (fun w416 ew417 H locs hP hD hS => ?_)
                      have k418 := wd_at.pt ew417 k408 (tg_ne ty tm34 (by decide))
                      have k419 := wd_at.pt ew417 k410 (tg_ne tm24 tm34 (by decide))
                      have k420 := wd_at.pt ew417 k411 (tg_ne tm31 tm34 (by decide))
                      have k421 := wd_at.pt ew417 k412 (tg_ne tm32 tm34 (by decide))
                      have k422 := wd_at.pt ew417 k413 (tg_ne tm33 tm34 (by decide))
                      have k423 : wd_at w416 m34 (.inl (cy 2, 936, .inl (upd f34 (nI ((6 * r) + u)).toNatClampNeg (nI (numN f24 (nx f24 ln ((nx f24 ln (wE f24 ln (nx f24 ln a0))) + 1)) (min ((dE f24 ln (nx f24 ln ((nx f24 ln (wE f24 ln (nx f24 ln a0))) + 1))) - (nx f24 ln ((nx f24 ln (wE f24 ln (nx f24 ln a0))) + 1))) 6)))))) := wd_at.ps ew417 k414
                      have kp424 := kp415.put ew417 s94
                      refine lv_aload_n hx hb dX11_cond_184 rfl (lv_at hl 1 rfl) ?_
                      refine x_get (ref := "NoteHouseModel") F hP k418 rfl (fun _ h => List.mem_cons_of_mem _ (List.mem_append_right _ (h))) 31 (Nat.le_of_ble_eq_true rfl) (List.mem_cons_of_mem _ (List.mem_append_left _ (List.mem_append_left _ (List.mem_of_getElem? (i := 0) rfl)))) rfl rfl dX11_cond_185 ?_
                      refine lv_iload_n hx hb dX11_cond_188 rfl (lv_at hl 2 rfl) ?_
                      refine lv_dup2_11 hx hb dX11_cond_189 rfl rfl ?_
                      refine x_iald F hP k420 (vp_in_nI (n := r) (N := 156) (by omega) (by decide)) dX11_cond_190 ?_
                      rw [nI_clamp (n := r) (by omega), hu]
                      refine lv_iconst (v := 1) hx hb dX11_cond_191 (by decide) ?_
                      refine lv_iadd hx hb dX11_cond_192 ?_
                      rw [show ((nI u) + 1 : Int32) = nI (u + 1) from nI_add u 1]
                      refine y_iast F hP hD hS k420 (vp_in_nI (n := r) (N := 156) (by omega) (by decide)) dX11_cond_193 (fun w425 ew426 H locs hP hD hS => ?_)
                      have k427 := wd_at.pt ew426 k418 (tg_ne ty tm31 (by decide))
                      have k428 := wd_at.pt ew426 k419 (tg_ne tm24 tm31 (by decide))
                      have k429 : wd_at w425 m31 (.inl (cy 2, 156, .inl (upd f31 (nI r).toNatClampNeg (nI (u + 1))))) := wd_at.ps ew426 k420
                      have k430 := wd_at.pt ew426 k421 (tg_ne tm32 tm31 (by decide))
                      have k431 := wd_at.pt ew426 k422 (tg_ne tm33 tm31 (by decide))
                      have k432 := wd_at.pt ew426 k423 (tg_ne tm34 tm31 (by decide))
                      have kp433 := kp424.put ew426 s91
                      obtain ⟨en0, en1⟩ := nuF6 (B := f24) (n := ln) (q := (nx f24 ln (wE f24 ln (nx f24 ln a0)) + 1)) (by omega)
                      have hcp : cdP f24 ln a0 = (nx f24 ln (wE f24 ln (nx f24 ln a0)) + 1) := by unfold cdP; rw [hcq, sgA_y hso]
                      exact y_vr K hP hD hS (Nat.le_of_ble_eq_true rfl) (Nat.le_of_ble_eq_true rfl) rfl dX11_cond_194 (⟨(dE f24 ln (nx f24 ln ((nx f24 ln (wE f24 ln (nx f24 ln a0))) + 1))), (nx f24 ln ((nx f24 ln (wE f24 ln (nx f24 ln a0))) + 1)), (nuF f24 ln ((nx f24 ln (wE f24 ln (nx f24 ln a0))) + 1) 6 0), (u + 1), upd f31 (nI r).toNatClampNeg (nI (u + 1)), upd f32 (nI ((6 * r) + u)).toNatClampNeg (nI n), upd f33 (nI ((6 * r) + u)).toNatClampNeg (f24 (nx f24 ln (wE f24 ln (nx f24 ln a0)))), upd f34 (nI ((6 * r) + u)).toNatClampNeg (nI (numN f24 (nx f24 ln ((nx f24 ln (wE f24 ln (nx f24 ln a0))) + 1)) (min ((dE f24 ln (nx f24 ln ((nx f24 ln (wE f24 ln (nx f24 ln a0))) + 1))) - (nx f24 ln ((nx f24 ln (wE f24 ln (nx f24 ln a0))) + 1))) 6))), rfl, by omega, by omega, by omega, hc.c (r := r) (u := u + 1) (by omega) (by omega), by rw [nI_clamp (by omega), pk_us], by omega, by omega, fun q => ⟨⟨hk8, by rw [hcq]; exact hso, by rw [hcp]; exact en0.mp q⟩, hu6b, by unfold cdE; rw [hcp, (en1 q).1], rfl, by rw [hck], by rw [hcq, sgR_y hso], by rw [hcp, (en1 q).2]⟩, fun h q => h (en0.mpr (by have h9 := q.1.2.2; rw [hcp] at h9; exact h9)), fun j hj => by rw [nI_clamp (by omega), pk_un (by omega)], fun j hj => ⟨by rw [nI_clamp (by omega), pk_un (by omega)], by rw [nI_clamp (by omega), pk_un (by omega)], by rw [nI_clamp (by omega), pk_un (by omega)]⟩, kp433, k427, k429, k430, k431, k432⟩)
                    · refine lv_aload_n hx hb dX11_cond_152 rfl (lv_at hl 1 rfl) ?_
                      refine lv_iconst (v := 0) hx hb dX11_cond_153 (by decide) ?_
                      refine lv_aload_n hx hb dX11_cond_154 rfl (lv_at hl 1 rfl) ?_
                      refine x_get (ref := "NoteHouseModel") F hP k289 rfl (fun _ h => List.mem_cons_of_mem _ (List.mem_append_right _ (h))) 26 (Nat.le_of_ble_eq_true rfl) (List.mem_cons_of_mem _ (List.mem_append_left _ (List.mem_append_left _ (List.mem_of_getElem? (i := 6) rfl)))) rfl rfl dX11_cond_155 ?_
                      refine x_callV (n := 2) (As := [.int 0, .int (nI (nx f24 ln (wE f24 ln (nx f24 ln a0))))]) (rest := []) F hP hD hS (m_fails l D cy sk sv w287 tg y m2 m3 m4 m5 m6 m8 m9 m10 m11 m12 m13 m14 m17 m18 m19 m20 m21 m22 m23 m24 m29 m30 m31 m32 m33 m34 m35 m36 m37 m39 m40 m41 m42 m43 m44 m45 m46 m47 m48 m49 m51 m52 m53 m54 m56 m57 m58 m59 pc ac sc ln sh gf v0 td (nI (nx f24 ln (wE f24 ln (nx f24 ln a0)))) (nI (nx f24 ln (wE f24 ln (nx f24 ln a0)))) v50 0 0 (nx f24 ln (wE f24 ln (nx f24 ln a0))) k289 (fun b => b = y) rfl ty (by omega) (by omega) (by omega)) gX11_cond_X11_fails rfl rfl (by decide +kernel) ⟨(Nat.le_of_ble_eq_true rfl), (Nat.le_of_ble_eq_true rfl)⟩ rfl hl.1 (Nat.le_of_ble_eq_true rfl) k289 rfl dX11_cond_158 rfl ⟨(Nat.le_of_ble_eq_true rfl), (Nat.le_of_ble_eq_true rfl)⟩ (fun v435 w436 hp434 H locs hP hD hS => ?_)
                      obtain ⟨fwx437, rfl, rfl, hz438, hz439, kq441, k440⟩ := hp434
                      have k442 := kq441.2 _ _ k290 (tg_ne tm24 ty (by decide))
                      have k443 := kq441.2 _ _ k291 (tg_ne tm31 ty (by decide))
                      have k444 := kq441.2 _ _ k292 (tg_ne tm32 ty (by decide))
                      have k445 := kq441.2 _ _ k293 (tg_ne tm33 ty (by decide))
                      have k446 := kq441.2 _ _ k294 (tg_ne tm34 ty (by decide))
                      have kp447 := kp295.tr kq441 (fun b9 hm q9 => (fun q9 => q9 ▸ s90) q9)
                      refine W.eq (g2 := F0 m 161 ls []) rfl (W.widen (k := 0) (n := 0) (Nat.le_of_ble_eq_true rfl) (Nat.le_of_ble_eq_true rfl) ?_)
                      have hso : ¬ sgO f24 ln (cdQ f24 ln a0) = true := by rw [hcq]; exact fun q => by rcases (sgO_t.mp q).2 with h | h | h; exact cs1 h; exact cs2 h; exact cs3 h
                      exact y_vr K hP hD hS (Nat.le_of_ble_eq_true rfl) (Nat.le_of_ble_eq_true rfl) rfl dX11_cond_161 (⟨(nx f24 ln (wE f24 ln (nx f24 ln a0))), (nx f24 ln (wE f24 ln (nx f24 ln a0))), (flF 0 0 (nx f24 ln (wE f24 ln (nx f24 ln a0)))), u, f31, upd f32 (nI ((6 * r) + u)).toNatClampNeg (nI n), upd f33 (nI ((6 * r) + u)).toNatClampNeg (f24 (nx f24 ln (wE f24 ln (nx f24 ln a0)))), f34, rfl, by omega, by omega, by omega, hc, hu, by omega, by omega, fun q => absurd q (by omega), fun _ q => hso q.1.2.1, fun j hj => rfl, fun j hj => ⟨by rw [nI_clamp (by omega), pk_un (by omega)], by rw [nI_clamp (by omega), pk_un (by omega)], rfl⟩, kp447, k440, k443, k444, k445, k446⟩)
              · refine lv_iconst (v := 0) hx hb dX11_cond_105 (by decide) ?_
                refine lv_goto (tgt := 118) hx hb dX11_cond_106 (by decide) ?_
                refine y_iast F hP hD hS k284 (vp_in_nI (n := ((6 * r) + u)) (N := 936) (by omega) (by decide)) dX11_cond_118 (fun w448 ew449 H locs hP hD hS => ?_)
                have k450 := wd_at.pt ew449 k279 (tg_ne ty tm33 (by decide))
                have k451 := wd_at.pt ew449 k281 (tg_ne tm24 tm33 (by decide))
                have k452 := wd_at.pt ew449 k282 (tg_ne tm31 tm33 (by decide))
                have k453 := wd_at.pt ew449 k283 (tg_ne tm32 tm33 (by decide))
                have k454 : wd_at w448 m33 (.inl (cy 2, 936, .inl (upd f33 (nI ((6 * r) + u)).toNatClampNeg 0))) := wd_at.ps ew449 k284
                have k455 := wd_at.pt ew449 k285 (tg_ne tm34 tm33 (by decide))
                have kp456 := kp286.put ew449 s93
                refine lv_aload_n hx hb dX11_cond_119 rfl (lv_at hl 1 rfl) ?_
                refine x_get (ref := "NoteHouseModel") F hP k450 rfl (fun _ h => List.mem_cons_of_mem _ (List.mem_append_right _ (h))) 33 (Nat.le_of_ble_eq_true rfl) (List.mem_cons_of_mem _ (List.mem_append_left _ (List.mem_append_left _ (List.mem_of_getElem? (i := 4) rfl)))) rfl rfl dX11_cond_120 ?_
                refine lv_iload_n hx hb dX11_cond_123 rfl (lv_at hl 0 rfl) ?_
                refine x_iald F hP k454 (vp_in_nI (n := ((6 * r) + u)) (N := 936) (by omega) (by decide)) dX11_cond_124 ?_
                rw [pk_us]
                refine lv_bipush (v := 60) hx hb dX11_cond_125 (by decide) ?_
                refine lv_icmp_eq (tgt := 162) hx hb dX11_cond_127 (by decide) (fun cs1 => absurd cs1 (show ¬ (0 : Int32) = (60 : Int32) by decide)) (fun cs1 => ?_)
                refine lv_aload_n hx hb dX11_cond_130 rfl (lv_at hl 1 rfl) ?_
                refine x_get (ref := "NoteHouseModel") F hP k450 rfl (fun _ h => List.mem_cons_of_mem _ (List.mem_append_right _ (h))) 33 (Nat.le_of_ble_eq_true rfl) (List.mem_cons_of_mem _ (List.mem_append_left _ (List.mem_append_left _ (List.mem_of_getElem? (i := 4) rfl)))) rfl rfl dX11_cond_131 ?_
                refine lv_iload_n hx hb dX11_cond_134 rfl (lv_at hl 0 rfl) ?_
                refine x_iald F hP k454 (vp_in_nI (n := ((6 * r) + u)) (N := 936) (by omega) (by decide)) dX11_cond_135 ?_
                rw [pk_us]
                refine lv_bipush (v := 62) hx hb dX11_cond_136 (by decide) ?_
                refine lv_icmp_eq (tgt := 162) hx hb dX11_cond_138 (by decide) (fun cs2 => absurd cs2 (show ¬ (0 : Int32) = (62 : Int32) by decide)) (fun cs2 => ?_)
                refine lv_aload_n hx hb dX11_cond_141 rfl (lv_at hl 1 rfl) ?_
                refine x_get (ref := "NoteHouseModel") F hP k450 rfl (fun _ h => List.mem_cons_of_mem _ (List.mem_append_right _ (h))) 33 (Nat.le_of_ble_eq_true rfl) (List.mem_cons_of_mem _ (List.mem_append_left _ (List.mem_append_left _ (List.mem_of_getElem? (i := 4) rfl)))) rfl rfl dX11_cond_142 ?_
                refine lv_iload_n hx hb dX11_cond_145 rfl (lv_at hl 0 rfl) ?_
                refine x_iald F hP k454 (vp_in_nI (n := ((6 * r) + u)) (N := 936) (by omega) (by decide)) dX11_cond_146 ?_
                rw [pk_us]
                refine lv_bipush (v := 61) hx hb dX11_cond_147 (by decide) ?_
                refine lv_icmp_eq (tgt := 162) hx hb dX11_cond_149 (by decide) (fun cs3 => absurd cs3 (show ¬ (0 : Int32) = (61 : Int32) by decide)) (fun cs3 => ?_)
                refine lv_aload_n hx hb dX11_cond_152 rfl (lv_at hl 1 rfl) ?_
                refine lv_iconst (v := 0) hx hb dX11_cond_153 (by decide) ?_
                refine lv_aload_n hx hb dX11_cond_154 rfl (lv_at hl 1 rfl) ?_
                refine x_get (ref := "NoteHouseModel") F hP k450 rfl (fun _ h => List.mem_cons_of_mem _ (List.mem_append_right _ (h))) 26 (Nat.le_of_ble_eq_true rfl) (List.mem_cons_of_mem _ (List.mem_append_left _ (List.mem_append_left _ (List.mem_of_getElem? (i := 6) rfl)))) rfl rfl dX11_cond_155 ?_
                refine x_callV (n := 2) (As := [.int 0, .int (nI (nx f24 ln (wE f24 ln (nx f24 ln a0))))]) (rest := []) F hP hD hS (m_fails l D cy sk sv w448 tg y m2 m3 m4 m5 m6 m8 m9 m10 m11 m12 m13 m14 m17 m18 m19 m20 m21 m22 m23 m24 m29 m30 m31 m32 m33 m34 m35 m36 m37 m39 m40 m41 m42 m43 m44 m45 m46 m47 m48 m49 m51 m52 m53 m54 m56 m57 m58 m59 pc ac sc ln sh gf v0 td (nI (nx f24 ln (wE f24 ln (nx f24 ln a0)))) (nI (nx f24 ln (wE f24 ln (nx f24 ln a0)))) v50 0 0 (nx f24 ln (wE f24 ln (nx f24 ln a0))) k450 (fun b => b = y) rfl ty (by omega) (by omega) (by omega)) gX11_cond_X11_fails rfl rfl (by decide +kernel) ⟨(Nat.le_of_ble_eq_true rfl), (Nat.le_of_ble_eq_true rfl)⟩ rfl hl.1 (Nat.le_of_ble_eq_true rfl) k450 rfl dX11_cond_158 rfl ⟨(Nat.le_of_ble_eq_true rfl), (Nat.le_of_ble_eq_true rfl)⟩ (fun v458 w459 hp457 H locs hP hD hS => ?_)
                obtain ⟨fwx460, rfl, rfl, hz461, hz462, kq464, k463⟩ := hp457
                have k465 := kq464.2 _ _ k451 (tg_ne tm24 ty (by decide))
                have k466 := kq464.2 _ _ k452 (tg_ne tm31 ty (by decide))
                have k467 := kq464.2 _ _ k453 (tg_ne tm32 ty (by decide))
                have k468 := kq464.2 _ _ k454 (tg_ne tm33 ty (by decide))
                have k469 := kq464.2 _ _ k455 (tg_ne tm34 ty (by decide))
                have kp470 := kp456.tr kq464 (fun b9 hm q9 => (fun q9 => q9 ▸ s90) q9)
                refine W.eq (g2 := F0 m 161 ls []) rfl (W.widen (k := 0) (n := 0) (Nat.le_of_ble_eq_true rfl) (Nat.le_of_ble_eq_true rfl) ?_)
                have hso : ¬ sgO f24 ln (cdQ f24 ln a0) = true := by rw [hcq]; exact fun q => by have h9 := (sgO_t.mp q).1; have h8 := ieR_1 cEn; omega
                exact y_vr K hP hD hS (Nat.le_of_ble_eq_true rfl) (Nat.le_of_ble_eq_true rfl) rfl dX11_cond_161 (⟨(nx f24 ln (wE f24 ln (nx f24 ln a0))), (nx f24 ln (wE f24 ln (nx f24 ln a0))), (flF 0 0 (nx f24 ln (wE f24 ln (nx f24 ln a0)))), u, f31, upd f32 (nI ((6 * r) + u)).toNatClampNeg (nI n), upd f33 (nI ((6 * r) + u)).toNatClampNeg 0, f34, rfl, by omega, by omega, by omega, hc, hu, by omega, by omega, fun q => absurd q (by omega), fun _ q => hso q.1.2.1, fun j hj => rfl, fun j hj => ⟨by rw [nI_clamp (by omega), pk_un (by omega)], by rw [nI_clamp (by omega), pk_un (by omega)], rfl⟩, kp470, k463, k466, k467, k468, k469⟩)
            · have hn8 : n = 8 := (nI_eq (a := n) (b := 8) (by omega) (by omega)).mp c_260
              refine lv_aload_n hx hb dX11_cond_64 rfl (lv_at hl 0 rfl) ?_
              refine lv_iconst (v := 0) hx hb dX11_cond_65 (by decide) ?_
              refine lv_aload_n hx hb dX11_cond_66 rfl (lv_at hl 0 rfl) ?_
              refine x_get (ref := "NoteHouseModel") F hP k21 rfl (fun _ h => List.mem_cons_of_mem _ (List.mem_append_right _ (h))) 27 (Nat.le_of_ble_eq_true rfl) (List.mem_cons_of_mem _ (List.mem_append_left _ (List.mem_append_left _ (List.mem_of_getElem? (i := 1) rfl)))) rfl rfl dX11_cond_67 ?_
              refine x_callV (n := 2) (As := [.int 0, .int (nI (nx f24 ln a0))]) (rest := []) F hP hD hS (m_fails l D cy sk sv w3 tg y m2 m3 m4 m5 m6 m8 m9 m10 m11 m12 m13 m14 m17 m18 m19 m20 m21 m22 m23 m24 m29 m30 m31 m32 m33 m34 m35 m36 m37 m39 m40 m41 m42 m43 m44 m45 m46 m47 m48 m49 m51 m52 m53 m54 m56 m57 m58 m59 pc ac sc ln sh gf v0 td (nI (wE f24 ln (nx f24 ln a0))) (nI (nx f24 ln a0)) v50 0 0 (nx f24 ln a0) k21 (fun b => b = y) rfl ty (by omega) (by omega) (by omega)) gX11_cond_X11_fails rfl rfl (by decide +kernel) ⟨(Nat.le_of_ble_eq_true rfl), (Nat.le_of_ble_eq_true rfl)⟩ rfl hl.1 (Nat.le_of_ble_eq_true rfl) k21 rfl dX11_cond_70 rfl ⟨(Nat.le_of_ble_eq_true rfl), (Nat.le_of_ble_eq_true rfl)⟩ (fun v472 w473 hp471 H locs hP hD hS => ?_)
              obtain ⟨fwx474, rfl, rfl, hz475, hz476, kq478, k477⟩ := hp471
              have k479 := kq478.2 _ _ k13 (tg_ne tm24 ty (by decide))
              have k480 := kq478.2 _ _ k14 (tg_ne tm31 ty (by decide))
              have k481 := kq478.2 _ _ k15 (tg_ne tm32 ty (by decide))
              have k482 := kq478.2 _ _ k16 (tg_ne tm33 ty (by decide))
              have k483 := kq478.2 _ _ k17 (tg_ne tm34 ty (by decide))
              have kp484 := kp18.tr kq478 (fun b9 hm q9 => (fun q9 => q9 ▸ s90) q9)
              refine W.eq (g2 := F0 m 73 ls []) rfl (W.widen (k := 0) (n := 0) (Nat.le_of_ble_eq_true rfl) (Nat.le_of_ble_eq_true rfl) ?_)
              exact y_vr K hP hD hS (Nat.le_of_ble_eq_true rfl) (Nat.le_of_ble_eq_true rfl) rfl dX11_cond_73 (⟨(wE f24 ln (nx f24 ln a0)), (nx f24 ln a0), (flF 0 0 (nx f24 ln a0)), u, f31, f32, f33, f34, rfl, by omega, by omega, by omega, hc, hu, by omega, by omega, fun q => absurd q (by omega), fun _ q => q.1.1 (hck.trans hn8), fun j hj => rfl, fun j hj => ⟨rfl, rfl, rfl⟩, kp484, k477, k480, k481, k482, k483⟩)
          · refine lv_iinc (v := nI (n + 1)) (lv' := [(2, .int (nI (n + 1))), (0, .ref y), (1, .int (nI r))]) hx hb dX11_cond_52 hl (k := 2) rfl (nI_1 n) (by decide) rfl (fun ls hl => ?_)
            refine lv_goto (tgt := 34) hx hb dX11_cond_55 (by decide) ?_
            exact ih34 (n + 1)  (by omega) (lt_s (p := fun j => wB f24 (nx f24 ln a0) (wE f24 ln (nx f24 ln a0) - nx f24 ln a0) ((WL 2).getD j 0) = false) hnm34 (wB0 cis34))   ls (lv_sub hl [1, 2, 0] rfl) H locs hP hD hS
      exact lp34 _ 0  (Nat.zero_add 8) (fun j hj => absurd hj (Nat.not_lt_zero j))   ls (lv_sub hl [1, 2, 0] rfl) H locs hP hD hS
    · have hfp : 0 < (wdF f24 ln a0 0) := Nat.pos_of_ne_zero (fun q => c_20 (by rw [q]; decide))
      exact y_vr K hP hD hS (Nat.le_of_ble_eq_true rfl) (Nat.le_of_ble_eq_true rfl) rfl dX11_cond_31 (⟨(wE f24 ln (nx f24 ln a0)), (nx f24 ln a0), (wdF f24 ln a0 0), u, f31, f32, f33, f34, rfl, by omega, by omega, by omega, hc, hu, by omega, by omega, fun q => absurd q (by omega), fun _ q => q.1.1 (cdK_z ha0 (wdF_q (by omega))), fun j hj => rfl, fun j hj => ⟨rfl, rfl, rfl⟩, kp18, k11, k14, k15, k16, k17⟩)
  · have hu6b : u = 6 := (nI_eq (a := u) (b := 6) (by omega) (by omega)).mp c_19
    refine lv_aload_n hx hb dX11_cond_15 rfl (lv_at hl 0 rfl) ?_
    refine lv_iconst (v := 2) hx hb dX11_cond_16 (by decide) ?_
    refine lv_aload_n hx hb dX11_cond_17 rfl (lv_at hl 0 rfl) ?_
    refine x_get (ref := "NoteHouseModel") F hP k11 rfl (fun _ h => List.mem_cons_of_mem _ (List.mem_append_right _ (h))) 27 (Nat.le_of_ble_eq_true rfl) (List.mem_cons_of_mem _ (List.mem_append_left _ (List.mem_append_left _ (List.mem_of_getElem? (i := 1) rfl)))) rfl rfl dX11_cond_18 ?_
    refine x_callV (n := 2) (As := [.int 2, .int (nI (nx f24 ln a0))]) (rest := []) F hP hD hS (m_fails l D cy sk sv w3 tg y m2 m3 m4 m5 m6 m8 m9 m10 m11 m12 m13 m14 m17 m18 m19 m20 m21 m22 m23 m24 m29 m30 m31 m32 m33 m34 m35 m36 m37 m39 m40 m41 m42 m43 m44 m45 m46 m47 m48 m49 m51 m52 m53 m54 m56 m57 m58 m59 pc ac sc ln sh gf v0 td (nI (wE f24 ln (nx f24 ln a0))) (nI (nx f24 ln a0)) v50 (wdF f24 ln a0 0) 2 (nx f24 ln a0) k11 (fun b => b = y) rfl ty (by omega) (by omega) (by omega)) gX11_cond_X11_fails rfl rfl (by decide +kernel) ⟨(Nat.le_of_ble_eq_true rfl), (Nat.le_of_ble_eq_true rfl)⟩ rfl hl.1 (Nat.le_of_ble_eq_true rfl) k11 rfl dX11_cond_21 rfl ⟨(Nat.le_of_ble_eq_true rfl), (Nat.le_of_ble_eq_true rfl)⟩ (fun v486 w487 hp485 H locs hP hD hS => ?_)
    obtain ⟨fwx488, rfl, rfl, hz489, hz490, kq492, k491⟩ := hp485
    have k493 := kq492.2 _ _ k13 (tg_ne tm24 ty (by decide))
    have k494 := kq492.2 _ _ k14 (tg_ne tm31 ty (by decide))
    have k495 := kq492.2 _ _ k15 (tg_ne tm32 ty (by decide))
    have k496 := kq492.2 _ _ k16 (tg_ne tm33 ty (by decide))
    have k497 := kq492.2 _ _ k17 (tg_ne tm34 ty (by decide))
    have kp498 := kp18.tr kq492 (fun b9 hm q9 => (fun q9 => q9 ▸ s90) q9)
    refine W.eq (g2 := F0 m 24 ls []) rfl (W.widen (k := 0) (n := 0) (Nat.le_of_ble_eq_true rfl) (Nat.le_of_ble_eq_true rfl) ?_)
    refine lv_aload_n hx hb dX11_cond_24 rfl (lv_at hl 0 rfl) ?_
    refine x_get (ref := "NoteHouseModel") F hP k491 rfl (fun _ h => List.mem_cons_of_mem _ (List.mem_append_right _ (h))) 28 (Nat.le_of_ble_eq_true rfl) (List.mem_cons_of_mem _ (List.mem_append_left _ (List.mem_append_left _ (List.mem_of_getElem? (i := 2) rfl)))) rfl rfl dX11_cond_25 ?_
    refine lv_if_le (tgt := 32) hx hb dX11_cond_28 (by decide) (fun c_499 => absurd c_499 (nI_np (by omega) (by omega))) (fun c_499 => ?_)
    exact y_vr K hP hD hS (Nat.le_of_ble_eq_true rfl) (Nat.le_of_ble_eq_true rfl) rfl dX11_cond_31 (⟨(wE f24 ln (nx f24 ln a0)), (nx f24 ln a0), (flF (wdF f24 ln a0 0) 2 (nx f24 ln a0)), u, f31, f32, f33, f34, rfl, by omega, by omega, by omega, hc, hu, by omega, by omega, fun q => absurd q (by omega), fun _ q => absurd q.2 (by omega), fun j hj => rfl, fun j hj => ⟨rfl, rfl, rfl⟩, kp498, k491, k494, k495, k496, k497⟩)
