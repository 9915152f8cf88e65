theorem pb_i {c : Nat} {p : Int32} (hc : c ≤ 300) (h : ¬ wi p 0 (nI c - 1) = 0) : ∃ j : Nat, j < c ∧ p = nI j := by
  obtain ⟨h1, h2⟩ := wi_n h
  obtain ⟨j, hj, rfl⟩ := nI_of h1
  refine ⟨j, ?_, rfl⟩
  have e := pk_sub_toInt (a := c) (b := 1) (by omega) (by omega)
  rw [show (1 : Int32) = nI 1 from rfl, Int32.le_iff_toInt_le, e, nI_toInt hj] at h2
  omega
def cn (P : Nat → Bool) : Nat → Nat
  | 0 => 0
  | k + 1 => cn P k + (if P k then 1 else 0)
theorem cn_le (P : Nat → Bool) : ∀ k, cn P k ≤ k
  | 0 => Nat.le_refl 0
  | k + 1 => by
    have h := cn_le P k
    show cn P k + _ ≤ k + 1
    split <;> omega
theorem cn_mono {P Q : Nat → Bool} : ∀ k, (∀ i, i < k → P i = true → Q i = true) → cn P k ≤ cn Q k
  | 0, _ => Nat.le_refl 0
  | k + 1, h => by
    have h1 := cn_mono k (fun i hi => h i (by omega))
    have h2 := h k (by omega)
    show cn P k + (if P k then 1 else 0) ≤ cn Q k + (if Q k then 1 else 0)
    by_cases hp : P k = true
    · rw [if_pos hp, if_pos (h2 hp)]; omega
    · rw [if_neg hp]; omega
theorem cn_lt {P Q : Nat → Bool} {j : Nat} : ∀ k, (∀ i, i < k → P i = true → Q i = true) → j < k → P j = false → Q j = true → cn P k + 1 ≤ cn Q k
  | 0, _, hj, _, _ => absurd hj (Nat.not_lt_zero j)
  | k + 1, h, hj, h1, h2 => by
    show cn P k + (if P k then 1 else 0) + 1 ≤ cn Q k + (if Q k then 1 else 0)
    by_cases e : j = k
    · subst e
      have h3 := cn_mono (P := P) (Q := Q) j (fun i hi => h i (by omega))
      rw [h1, h2]
      simp
      omega
    · have h3 := cn_lt k (fun i hi => h i (by omega)) (by omega) h1 h2
      have h4 := h k (by omega)
      by_cases hp : P k = true
      · rw [if_pos hp, if_pos (h4 hp)]; omega
      · rw [if_neg hp]; omega
def nqP (co : Nat → Int32) (o : Nat → Int64) (c t : Nat) : Nat → Bool := fun k => decide (¬ o k = 0 ∧ (if k < t then nI (c + 1) ≤ co k else nI c ≤ co k))
/-- how many TOWNS may still need a gift -/
def nq (co : Nat → Int32) (o : Nat → Int64) (c t : Nat) : Nat := cn (nqP co o c t) 12
theorem nq_le (co : Nat → Int32) (o : Nat → Int64) (c t : Nat) : nq co o c t ≤ 12 := cn_le _ 12
theorem nqP_t {co : Nat → Int32} {o : Nat → Int64} {c t k : Nat} : nqP co o c t k = true ↔ (¬ o k = 0 ∧ (if k < t then nI (c + 1) ≤ co k else nI c ≤ co k)) := by simp [nqP]
theorem nI_le1 {c : Nat} {x : Int32} (hc : c < 100) (h : nI (c + 1) ≤ x) : nI c ≤ x := Int32.le_trans (nI_le (by omega) (by omega)) h
theorem nq_m {co : Nat → Int32} {o : Nat → Int64} {c t : Nat} (hc : c < 100) : nq co o c (t + 1) ≤ nq co o c t := cn_mono 12 (fun i _ h => by
  rw [nqP_t] at h ⊢
  refine ⟨h.1, ?_⟩
  have h2 := h.2
  by_cases h3 : i < t
  · rw [if_pos h3]; rw [if_pos (show i < t + 1 by omega)] at h2; exact h2
  · rw [if_neg h3]
    by_cases h4 : i < t + 1
    · rw [if_pos h4] at h2; exact nI_le1 hc h2
    · rw [if_neg h4] at h2; exact h2)
theorem nq_s {co : Nat → Int32} {o : Nat → Int64} {c t : Nat} (hc : c < 100) (ht : t < 12) (h1 : co t = nI c) (h2 : ¬ o t = 0) : nq co o c (t + 1) + 1 ≤ nq co o c t := by
  refine cn_lt (j := t) 12 ?_ ht ?_ ?_
  · intro i hi h
    rw [nqP_t] at h ⊢
    refine ⟨h.1, ?_⟩
    have h2 := h.2
    by_cases h3 : i < t
    · rw [if_pos h3]; rw [if_pos (show i < t + 1 by omega)] at h2; exact h2
    · rw [if_neg h3]
      by_cases h4 : i < t + 1
      · rw [if_pos h4] at h2; exact nI_le1 hc h2
      · rw [if_neg h4] at h2; exact h2
  · cases hb : nqP co o c (t + 1) t with
    | false => rfl
    | true =>
      have h3 := (nqP_t.mp hb).2
      rw [if_pos (show t < t + 1 by omega), h1] at h3
      have h4 := (nI_leI (a := c + 1) (b := c) (by omega) (by omega)).mp h3
      omega
  · rw [nqP_t]
    exact ⟨h2, by rw [if_neg (Nat.lt_irrefl t), h1]; exact Int32.le_refl _⟩
theorem nq_n {co : Nat → Int32} {o : Nat → Int64} {c : Nat} : nq co o (c + 1) 0 ≤ nq co o c 12 := cn_mono 12 (fun i hi h => by
  rw [nqP_t] at h ⊢
  refine ⟨h.1, ?_⟩
  have h2 := h.2
  rw [if_neg (Nat.not_lt_zero i)] at h2
  rw [if_pos hi]; exact h2)
theorem i64_ne {x : Int64} (h : x < 0) : ¬ x = 0 := fun q => by rw [q] at h; exact absurd h (by decide)
theorem i64_ng {x : Int64} (h : 0 < x) : ¬ x = 0 := fun q => by rw [q] at h; exact absurd h (by decide)
theorem nq_d {co : Nat → Int32} {o : Nat → Int64} {c a b : Nat} {v : Int64} (ha : a < 12) (hb : b < 12) (h1 : co a = nI c) (h2 : co b = nI c) (h3 : o a < 0) (h4 : 0 < o b) (hv : v = -o a ∨ v = o b) : nq co (vp_updL (vp_updL o (nI a).toNatClampNeg (o (nI a).toNatClampNeg + v)) (nI b).toNatClampNeg (vp_updL o (nI a).toNatClampNeg (o (nI a).toNatClampNeg + v) (nI b).toNatClampNeg - v)) c 0 + 1 ≤ nq co o c 0 := by
  have hab : a ≠ b := fun q => by
    rw [q] at h3
    exact absurd (Int64.lt_trans h3 h4) Int64.lt_irrefl
  rw [nI_clamp (by omega), nI_clamp (by omega), pk_uLn (j := b) (k := a) (Ne.symm hab)]
  have hz : ∀ i, ¬ vp_updL (vp_updL o a (o a + v)) b (o b - v) i = 0 → ¬ o i = 0 := fun i hi q => by
    by_cases e1 : i = b
    · rw [e1] at q; exact i64_ng h4 q
    · by_cases e2 : i = a
      · rw [e2] at q; exact i64_ne h3 q
      · rw [pk_uLn e1, pk_uLn e2] at hi; exact hi q
  have hm : ∀ i, i < 12 → nqP co (vp_updL (vp_updL o a (o a + v)) b (o b - v)) c 0 i = true → nqP co o c 0 i = true := fun i _ h => by
    rw [nqP_t] at h ⊢
    exact ⟨hz i h.1, h.2⟩
  rcases hv with hv | hv
  · refine cn_lt (j := a) 12 hm ha ?_ ?_
    · cases hb9 : nqP co (vp_updL (vp_updL o a (o a + v)) b (o b - v)) c 0 a with
      | false => rfl
      | true =>
        have h5 := (nqP_t.mp hb9).1
        rw [pk_uLn hab, pk_uLs, hv, Int64.add_right_neg] at h5
        exact absurd rfl h5
    · rw [nqP_t]
      exact ⟨i64_ne h3, by rw [if_neg (Nat.not_lt_zero a), h1]; exact Int32.le_refl _⟩
  · refine cn_lt (j := b) 12 hm hb ?_ ?_
    · cases hb9 : nqP co (vp_updL (vp_updL o a (o a + v)) b (o b - v)) c 0 b with
      | false => rfl
      | true =>
        have h5 := (nqP_t.mp hb9).1
        rw [pk_uLs, hv, Int64.sub_self] at h5
        exact absurd rfl h5
    · rw [nqP_t]
      exact ⟨i64_ng h4, by rw [if_neg (Nat.not_lt_zero b), h2]; exact Int32.le_refl _⟩
theorem dec1 (x : Int32) : x + (-1) = x - 1 := by rw [Int32.sub_eq_add_neg]
theorem nI_p1 (n : Nat) : nI (n + 1) - 1 = nI n := by rw [← nI_1 n, Int32.add_sub_cancel]
set_option maxHeartbeats 4000000 in
set_option maxRecDepth 100000 in
theorem m_told (l : Launch) (D : va_G) (cy : Nat → ClassId) (sk sv : Nat → Nat) (w : Wd) (tg : Nat → Nat) (y m2 m3 m4 m5 m6 m8 m9 m10 m11 m12 m13 m14 m17 m18 m19 m20 m21 m22 m23 m24 m29 m30 m31 m32 m33 m34 m35 m36 m37 m39 m40 m41 m42 m43 m44 m45 m46 m47 m48 m49 m51 m52 m53 m54 m56 m57 m58 m59 pc ac sc ln sh gf : Nat) (v0 td v26 v27 v28 v50 : Int32) (f8 : Nat → Int32) (f9 : Nat → Int32) (f10 : Nat → Int32) (f11 : Nat → Int32) (f12 : Nat → Int32) (f13 : Nat → Int32) (f17 : Nat → Int32) (f18 : Nat → Int32) (f19 : Nat → Int32) (f20 : Nat → Int32) (f21 : Nat → Int32) (f22 : Nat → Int32) (qs : Nat → Option Nat) (sr : Nat → Nat) (fs : Nat → Nat → Int32) (x1 x4 x5 x6 : Int32) (tw pp : Nat) (c90 : wd_at w y (.inr (11, [.int v0, .int td, .ref m2, .ref m3, .ref m4, .ref m5, .ref m6, .int (nI pc), .ref m8, .ref m9, .ref m10, .ref m11, .ref m12, .ref m13, .ref m14, .int (nI ac), .int (nI sc), .ref m17, .ref m18, .ref m19, .ref m20, .ref m21, .ref m22, .ref m23, .ref m24, .int (nI ln), .int v26, .int v27, .int v28, .ref m29, .ref m30, .ref m31, .ref m32, .ref m33, .ref m34, .ref m35, .ref m36, .ref m37, .int (nI sh), .ref m39, .ref m40, .ref m41, .ref m42, .ref m43, .ref m44, .ref m45, .ref m46, .ref m47, .ref m48, .ref m49, .int v50, .ref m51, .ref m52, .ref m53, .ref m54, .int (nI gf), .ref m56, .ref m57, .ref m58, .ref m59]))) (c91 : wd_at w m8 (.inl (cy 2, 30, .inl f8))) (c92 : wd_at w m9 (.inl (cy 2, 30, .inl f9))) (c93 : wd_at w m10 (.inl (cy 2, 30, .inl f10))) (c94 : wd_at w m11 (.inl (cy 2, 30, .inl f11))) (c95 : wd_at w m12 (.inl (cy 2, 30, .inl f12))) (c96 : wd_at w m13 (.inl (cy 2, 30, .inl f13))) (c97 : wd_at w m17 (.inl (cy 2, 60, .inl f17))) (c98 : wd_at w m18 (.inl (cy 2, 60, .inl f18))) (c99 : wd_at w m19 (.inl (cy 2, 60, .inl f19))) (c910 : wd_at w m20 (.inl (cy 4, 60, .inl f20))) (c911 : wd_at w m21 (.inl (cy 2, 60, .inl f21))) (c912 : wd_at w m22 (.inl (cy 2, 60, .inl f22))) (c913 : wd_at w m23 (.inl (cy 10, 60, .inr (.inr (.inr (.inr qs)))))) (hFSR : ∀ k9, k9 < 60 → qs k9 = some (sr k9) ∧ wd_at w (sr k9) (.inl (cy 2, 12, .inl (fs k9))) ∧ tg (sr k9) = 13000 + k9) (ty : tg y = 10000) (tm8 : tg m8 = 10108) (tm9 : tg m9 = 10109) (tm10 : tg m10 = 10110) (tm11 : tg m11 = 10111) (tm12 : tg m12 = 10112) (tm13 : tg m13 = 10113) (tm17 : tg m17 = 10117) (tm18 : tg m18 = 10118) (tm19 : tg m19 = 10119) (tm20 : tg m20 = 10120) (tm21 : tg m21 = 10121) (tm22 : tg m22 = 10122) (tm23 : tg m23 = 10123) (hac : ac ≤ 60) (hsc : sc ≤ 60) (htw : tw < 12) (hpp : pp < 30) : Ct l D cy sk sv yX11_told wsX11_told ({ frames := 1, cells := 0, slots := 0, locals := 26 }) [.ref y, .int x1, .int (nI tw), .int (nI pp), .int x4, .int x5, .int x6] w (fun v w1 => ∃ (r1 : Int32), v = some (.int r1) ∧ w = w1) := by
  refine Ct.by (cc := cX11_told) (maxL := 7) (ret := (some .int)) (by decide +kernel) rfl (Nat.le_of_ble_eq_true rfl) ?_
  intro p e s m args below meth c A Q F hnm K ls hl
  have F : wd_Fx p s m args meth c cX11_told 7 wsX11_told RX11 D cy sk sv A := F
  have hl : lv_has ls 7 [(0, .ref y), (1, .int x1), (2, .int (nI tw)), (3, .int (nI pp)), (4, .int x4), (5, .int x5), (6, .int x6)] := hl
  have hx := F.1.1
  have hb := F.1.2.1
  have hown := F.1.2.2.2.1
  have hts := F.1.2.2.2.2
  intro H locs hP hD hS
  refine lv_iload_n hx hb dX11_told_0 rfl (lv_at hl 1 rfl) ?_
  by_cases c_1 : x1 = 0
  · refine lv_tableIn (off := 43) (tgt := 44) hx hb dX11_told_1 (by rw [c_1]; decide) (by rw [c_1]; decide) (by rw [c_1]; decide) (by decide) ?_
    refine lv_aload_n hx hb dX11_told_44 rfl (lv_at hl 0 rfl) ?_
    refine lv_iload_n hx hb dX11_told_45 rfl (lv_at hl 3 rfl) ?_
    refine lv_iload_n hx hb dX11_told_46 rfl (lv_at hl 2 rfl) ?_
    refine lv_aload_n hx hb dX11_told_47 rfl (lv_at hl 0 rfl) ?_
    refine x_get (ref := "NoteHouseModel") F hP c90 rfl (fun _ h => List.mem_cons_of_mem _ (List.mem_append_right _ (h))) 1 (Nat.le_of_ble_eq_true rfl) (List.mem_cons_of_mem _ (List.mem_append_left _ (List.mem_append_left _ (List.mem_of_getElem? (i := 0) rfl)))) rfl rfl dX11_told_48 ?_
    refine x_callV (n := 3) (As := [.int (nI pp), .int (nI tw), .int td]) (rest := []) F hP hD hS (m_isAdvised l D cy sk sv w tg y m2 m3 m4 m5 m6 m8 m9 m10 m11 m12 m13 m14 m17 m18 m19 m20 m21 m22 m23 m24 m29 m30 m31 m32 m33 m34 m35 m36 m37 m39 m40 m41 m42 m43 m44 m45 m46 m47 m48 m49 m51 m52 m53 m54 m56 m57 m58 m59 pc ac sc ln sh gf v0 td v26 v27 v28 v50 f17 f18 f19 f20 (nI pp) (nI tw) td c90 c97 c98 c99 c910 ty tm17 tm18 tm19 tm20 (by omega)) gX11_told_X11_isAdvised rfl rfl (by decide +kernel) ⟨(Nat.le_of_ble_eq_true rfl), (Nat.le_of_ble_eq_true rfl)⟩ rfl hl.1 (Nat.le_of_ble_eq_true rfl) c90 rfl dX11_told_51 rfl ⟨(Nat.le_of_ble_eq_true rfl), (Nat.le_of_ble_eq_true rfl)⟩ (fun v3 w4 hp2 H locs hP hD hS => ?_)
    obtain ⟨rx5, rfl, hz6, rfl⟩ := hp2
    refine W.eq (g2 := F0 m 54 ls [.int rx5]) rfl (W.widen (k := 0) (n := 0) (Nat.le_of_ble_eq_true rfl) (Nat.le_of_ble_eq_true rfl) ?_)
    refine lv_if_eq (tgt := 71) hx hb dX11_told_54 (by decide) (fun c_7 => ?_) (fun c_7 => ?_)
    · refine lv_bipush (v := 99) hx hb dX11_told_71 (by decide) ?_
      exact y_ir K hP hD hS (Nat.le_of_ble_eq_true rfl) (Nat.le_of_ble_eq_true rfl) (ty := .int) rfl rfl dX11_told_73 (⟨99, rfl, rfl⟩)
    · refine lv_iload hx hb dX11_told_57 (lv_at hl 6 rfl) ?_
      refine lv_aload_n hx hb dX11_told_59 rfl (lv_at hl 0 rfl) ?_
      refine x_get (ref := "NoteHouseModel") F hP c90 rfl (fun _ h => List.mem_cons_of_mem _ (List.mem_append_right _ (h))) 10 (Nat.le_of_ble_eq_true rfl) (List.mem_cons_of_mem _ (List.mem_append_left _ (List.mem_append_left _ (List.mem_of_getElem? (i := 1) rfl)))) rfl rfl dX11_told_60 ?_
      refine lv_iload_n hx hb dX11_told_63 rfl (lv_at hl 3 rfl) ?_
      refine x_iald F hP c93 (vp_in_nI (n := pp) (N := 30) (by omega) (by decide)) dX11_told_64 ?_
      refine x_callS (n := 2) (As := [.int x6, .int (f10 (nI pp).toNatClampNeg)]) (rest := []) F hP hD hS (m_unlike l D cy sk sv w x6 (f10 (nI pp).toNatClampNeg)) gX11_told_X11_unlike rfl (by decide +kernel) ⟨(Nat.le_of_ble_eq_true rfl), (Nat.le_of_ble_eq_true rfl)⟩ rfl hl.1 (Nat.le_of_ble_eq_true rfl) dX11_told_65 rfl ⟨(Nat.le_of_ble_eq_true rfl), (Nat.le_of_ble_eq_true rfl)⟩ (fun v9 w10 hp8 H locs hP hD hS => ?_)
      obtain ⟨rx11, rfl, rfl⟩ := hp8
      refine W.eq (g2 := F0 m 68 ls [.int rx11]) rfl (W.widen (k := 0) (n := 0) (Nat.le_of_ble_eq_true rfl) (Nat.le_of_ble_eq_true rfl) ?_)
      refine lv_goto (tgt := 73) hx hb dX11_told_68 (by decide) ?_
      exact y_ir K hP hD hS (Nat.le_of_ble_eq_true rfl) (Nat.le_of_ble_eq_true rfl) (ty := .int) rfl rfl dX11_told_73 (⟨rx11, rfl, rfl⟩)
  by_cases c_12 : x1 = 1
  · refine lv_tableIn (off := 73) (tgt := 74) hx hb dX11_told_1 (by rw [c_12]; decide) (by rw [c_12]; decide) (by rw [c_12]; decide) (by decide) ?_
    refine lv_aload_n hx hb dX11_told_74 rfl (lv_at hl 0 rfl) ?_
    refine lv_iload_n hx hb dX11_told_75 rfl (lv_at hl 3 rfl) ?_
    refine lv_iload_n hx hb dX11_told_76 rfl (lv_at hl 2 rfl) ?_
    refine lv_aload_n hx hb dX11_told_77 rfl (lv_at hl 0 rfl) ?_
    refine x_get (ref := "NoteHouseModel") F hP c90 rfl (fun _ h => List.mem_cons_of_mem _ (List.mem_append_right _ (h))) 1 (Nat.le_of_ble_eq_true rfl) (List.mem_cons_of_mem _ (List.mem_append_left _ (List.mem_append_left _ (List.mem_of_getElem? (i := 0) rfl)))) rfl rfl dX11_told_78 ?_
    refine x_callV (n := 3) (As := [.int (nI pp), .int (nI tw), .int td]) (rest := []) F hP hD hS (m_isAdvised l D cy sk sv w tg y m2 m3 m4 m5 m6 m8 m9 m10 m11 m12 m13 m14 m17 m18 m19 m20 m21 m22 m23 m24 m29 m30 m31 m32 m33 m34 m35 m36 m37 m39 m40 m41 m42 m43 m44 m45 m46 m47 m48 m49 m51 m52 m53 m54 m56 m57 m58 m59 pc ac sc ln sh gf v0 td v26 v27 v28 v50 f17 f18 f19 f20 (nI pp) (nI tw) td c90 c97 c98 c99 c910 ty tm17 tm18 tm19 tm20 (by omega)) gX11_told_X11_isAdvised rfl rfl (by decide +kernel) ⟨(Nat.le_of_ble_eq_true rfl), (Nat.le_of_ble_eq_true rfl)⟩ rfl hl.1 (Nat.le_of_ble_eq_true rfl) c90 rfl dX11_told_81 rfl ⟨(Nat.le_of_ble_eq_true rfl), (Nat.le_of_ble_eq_true rfl)⟩ (fun v14 w15 hp13 H locs hP hD hS => ?_)
    obtain ⟨rx16, rfl, hz17, rfl⟩ := hp13
    refine W.eq (g2 := F0 m 84 ls [.int rx16]) rfl (W.widen (k := 0) (n := 0) (Nat.le_of_ble_eq_true rfl) (Nat.le_of_ble_eq_true rfl) ?_)
    refine lv_if_eq (tgt := 91) hx hb dX11_told_84 (by decide) (fun c_18 => ?_) (fun c_18 => ?_)
    · refine lv_iconst (v := 0) hx hb dX11_told_91 (by decide) ?_
      exact y_ir K hP hD hS (Nat.le_of_ble_eq_true rfl) (Nat.le_of_ble_eq_true rfl) (ty := .int) rfl rfl dX11_told_92 (⟨0, rfl, rfl⟩)
    · refine lv_iconst (v := 1) hx hb dX11_told_87 (by decide) ?_
      refine lv_goto (tgt := 92) hx hb dX11_told_88 (by decide) ?_
      exact y_ir K hP hD hS (Nat.le_of_ble_eq_true rfl) (Nat.le_of_ble_eq_true rfl) (ty := .int) rfl rfl dX11_told_92 (⟨1, rfl, rfl⟩)
  by_cases c_19 : x1 = 2
  · refine lv_tableIn (off := 92) (tgt := 93) hx hb dX11_told_1 (by rw [c_19]; decide) (by rw [c_19]; decide) (by rw [c_19]; decide) (by decide) ?_
    refine lv_aload_n hx hb dX11_told_93 rfl (lv_at hl 0 rfl) ?_
    refine lv_iload_n hx hb dX11_told_94 rfl (lv_at hl 3 rfl) ?_
    refine lv_iload hx hb dX11_told_95 (lv_at hl 4 rfl) ?_
    refine lv_iload_n hx hb dX11_told_97 rfl (lv_at hl 2 rfl) ?_
    refine lv_aload_n hx hb dX11_told_98 rfl (lv_at hl 0 rfl) ?_
    refine x_get (ref := "NoteHouseModel") F hP c90 rfl (fun _ h => List.mem_cons_of_mem _ (List.mem_append_right _ (h))) 1 (Nat.le_of_ble_eq_true rfl) (List.mem_cons_of_mem _ (List.mem_append_left _ (List.mem_append_left _ (List.mem_of_getElem? (i := 0) rfl)))) rfl rfl dX11_told_99 ?_
    refine x_callV (n := 4) (As := [.int (nI pp), .int x4, .int (nI tw), .int td]) (rest := []) F hP hD hS (m_isStopped l D cy sk sv w tg y m2 m3 m4 m5 m6 m8 m9 m10 m11 m12 m13 m14 m17 m18 m19 m20 m21 m22 m23 m24 m29 m30 m31 m32 m33 m34 m35 m36 m37 m39 m40 m41 m42 m43 m44 m45 m46 m47 m48 m49 m51 m52 m53 m54 m56 m57 m58 m59 pc ac sc ln sh gf v0 td v26 v27 v28 v50 f21 f22 qs sr fs (nI pp) x4 td tw c90 c911 c912 c913 hFSR ty tm21 tm22 tm23 (by omega) (by omega)) gX11_told_X11_isStopped rfl rfl (by decide +kernel) ⟨(Nat.le_of_ble_eq_true rfl), (Nat.le_of_ble_eq_true rfl)⟩ rfl hl.1 (Nat.le_of_ble_eq_true rfl) c90 rfl dX11_told_102 rfl ⟨(Nat.le_of_ble_eq_true rfl), (Nat.le_of_ble_eq_true rfl)⟩ (fun v21 w22 hp20 H locs hP hD hS => ?_)
    obtain ⟨rx23, rfl, hz24, rfl⟩ := hp20
    refine W.eq (g2 := F0 m 105 ls [.int rx23]) rfl (W.widen (k := 0) (n := 0) (Nat.le_of_ble_eq_true rfl) (Nat.le_of_ble_eq_true rfl) ?_)
    refine lv_if_eq (tgt := 112) hx hb dX11_told_105 (by decide) (fun c_25 => ?_) (fun c_25 => ?_)
    · refine lv_iconst (v := 0) hx hb dX11_told_112 (by decide) ?_
      exact y_ir K hP hD hS (Nat.le_of_ble_eq_true rfl) (Nat.le_of_ble_eq_true rfl) (ty := .int) rfl rfl dX11_told_113 (⟨0, rfl, rfl⟩)
    · refine lv_iconst (v := 1) hx hb dX11_told_108 (by decide) ?_
      refine lv_goto (tgt := 113) hx hb dX11_told_109 (by decide) ?_
      exact y_ir K hP hD hS (Nat.le_of_ble_eq_true rfl) (Nat.le_of_ble_eq_true rfl) (ty := .int) rfl rfl dX11_told_113 (⟨1, rfl, rfl⟩)
  by_cases c_26 : x1 = 3
  · refine lv_tableIn (off := 113) (tgt := 114) hx hb dX11_told_1 (by rw [c_26]; decide) (by rw [c_26]; decide) (by rw [c_26]; decide) (by decide) ?_
    refine lv_aload_n hx hb dX11_told_114 rfl (lv_at hl 0 rfl) ?_
    refine x_get (ref := "NoteHouseModel") F hP c90 rfl (fun _ h => List.mem_cons_of_mem _ (List.mem_append_right _ (h))) 1 (Nat.le_of_ble_eq_true rfl) (List.mem_cons_of_mem _ (List.mem_append_left _ (List.mem_append_left _ (List.mem_of_getElem? (i := 0) rfl)))) rfl rfl dX11_told_115 ?_
    refine lv_aload_n hx hb dX11_told_118 rfl (lv_at hl 0 rfl) ?_
    refine x_get (ref := "NoteHouseModel") F hP c90 rfl (fun _ h => List.mem_cons_of_mem _ (List.mem_append_right _ (h))) 11 (Nat.le_of_ble_eq_true rfl) (List.mem_cons_of_mem _ (List.mem_append_left _ (List.mem_append_left _ (List.mem_of_getElem? (i := 2) rfl)))) rfl rfl dX11_told_119 ?_
    refine lv_iload_n hx hb dX11_told_122 rfl (lv_at hl 3 rfl) ?_
    refine x_iald F hP c94 (vp_in_nI (n := pp) (N := 30) (by omega) (by decide)) dX11_told_123 ?_
    refine lv_isub hx hb dX11_told_124 ?_
    exact y_ir K hP hD hS (Nat.le_of_ble_eq_true rfl) (Nat.le_of_ble_eq_true rfl) (ty := .int) rfl rfl dX11_told_125 (⟨td - (f11 (nI pp).toNatClampNeg), rfl, rfl⟩)
  by_cases c_27 : x1 = 4
  · refine lv_tableIn (off := 125) (tgt := 126) hx hb dX11_told_1 (by rw [c_27]; decide) (by rw [c_27]; decide) (by rw [c_27]; decide) (by decide) ?_
    refine lv_aload_n hx hb dX11_told_126 rfl (lv_at hl 0 rfl) ?_
    refine x_get (ref := "NoteHouseModel") F hP c90 rfl (fun _ h => List.mem_cons_of_mem _ (List.mem_append_right _ (h))) 1 (Nat.le_of_ble_eq_true rfl) (List.mem_cons_of_mem _ (List.mem_append_left _ (List.mem_append_left _ (List.mem_of_getElem? (i := 0) rfl)))) rfl rfl dX11_told_127 ?_
    refine lv_aload_n hx hb dX11_told_130 rfl (lv_at hl 0 rfl) ?_
    refine x_get (ref := "NoteHouseModel") F hP c90 rfl (fun _ h => List.mem_cons_of_mem _ (List.mem_append_right _ (h))) 11 (Nat.le_of_ble_eq_true rfl) (List.mem_cons_of_mem _ (List.mem_append_left _ (List.mem_append_left _ (List.mem_of_getElem? (i := 2) rfl)))) rfl rfl dX11_told_131 ?_
    refine lv_iload_n hx hb dX11_told_134 rfl (lv_at hl 3 rfl) ?_
    refine x_iald F hP c94 (vp_in_nI (n := pp) (N := 30) (by omega) (by decide)) dX11_told_135 ?_
    refine lv_isub hx hb dX11_told_136 ?_
    refine lv_aload_n hx hb dX11_told_137 rfl (lv_at hl 0 rfl) ?_
    refine x_get (ref := "NoteHouseModel") F hP c90 rfl (fun _ h => List.mem_cons_of_mem _ (List.mem_append_right _ (h))) 12 (Nat.le_of_ble_eq_true rfl) (List.mem_cons_of_mem _ (List.mem_append_left _ (List.mem_append_left _ (List.mem_of_getElem? (i := 3) rfl)))) rfl rfl dX11_told_138 ?_
    refine lv_iload_n hx hb dX11_told_141 rfl (lv_at hl 3 rfl) ?_
    refine x_iald F hP c95 (vp_in_nI (n := pp) (N := 30) (by omega) (by decide)) dX11_told_142 ?_
    refine lv_icmp_le (tgt := 150) hx hb dX11_told_143 (by decide) (fun c_28 => ?_) (fun c_28 => ?_)
    · refine lv_iconst (v := 0) hx hb dX11_told_150 (by decide) ?_
      exact y_ir K hP hD hS (Nat.le_of_ble_eq_true rfl) (Nat.le_of_ble_eq_true rfl) (ty := .int) rfl rfl dX11_told_151 (⟨0, rfl, rfl⟩)
    · refine lv_iconst (v := 1) hx hb dX11_told_146 (by decide) ?_
      refine lv_goto (tgt := 151) hx hb dX11_told_147 (by decide) ?_
      exact y_ir K hP hD hS (Nat.le_of_ble_eq_true rfl) (Nat.le_of_ble_eq_true rfl) (ty := .int) rfl rfl dX11_told_151 (⟨1, rfl, rfl⟩)
  by_cases c_29 : x1 = 5
  · refine lv_tableIn (off := 151) (tgt := 152) hx hb dX11_told_1 (by rw [c_29]; decide) (by rw [c_29]; decide) (by rw [c_29]; decide) (by decide) ?_
    refine lv_iload hx hb dX11_told_152 (lv_at hl 5 rfl) ?_
    exact y_ir K hP hD hS (Nat.le_of_ble_eq_true rfl) (Nat.le_of_ble_eq_true rfl) (ty := .int) rfl rfl dX11_told_154 (⟨x5, rfl, rfl⟩)
  by_cases c_30 : x1 = 6
  · refine lv_tableIn (off := 154) (tgt := 155) hx hb dX11_told_1 (by rw [c_30]; decide) (by rw [c_30]; decide) (by rw [c_30]; decide) (by decide) ?_
    refine lv_aload_n hx hb dX11_told_155 rfl (lv_at hl 0 rfl) ?_
    refine x_get (ref := "NoteHouseModel") F hP c90 rfl (fun _ h => List.mem_cons_of_mem _ (List.mem_append_right _ (h))) 8 (Nat.le_of_ble_eq_true rfl) (List.mem_cons_of_mem _ (List.mem_append_left _ (List.mem_append_left _ (List.mem_of_getElem? (i := 4) rfl)))) rfl rfl dX11_told_156 ?_
    refine lv_iload_n hx hb dX11_told_159 rfl (lv_at hl 3 rfl) ?_
    refine x_iald F hP c91 (vp_in_nI (n := pp) (N := 30) (by omega) (by decide)) dX11_told_160 ?_
    refine lv_if_ne (tgt := 180) hx hb dX11_told_161 (by decide) (fun c_31 => ?_) (fun c_31 => ?_)
    · refine lv_aload_n hx hb dX11_told_180 rfl (lv_at hl 0 rfl) ?_
      refine x_get (ref := "NoteHouseModel") F hP c90 rfl (fun _ h => List.mem_cons_of_mem _ (List.mem_append_right _ (h))) 9 (Nat.le_of_ble_eq_true rfl) (List.mem_cons_of_mem _ (List.mem_append_left _ (List.mem_append_left _ (List.mem_of_getElem? (i := 5) rfl)))) rfl rfl dX11_told_181 ?_
      refine lv_iload_n hx hb dX11_told_184 rfl (lv_at hl 3 rfl) ?_
      refine x_iald F hP c92 (vp_in_nI (n := pp) (N := 30) (by omega) (by decide)) dX11_told_185 ?_
      exact y_ir K hP hD hS (Nat.le_of_ble_eq_true rfl) (Nat.le_of_ble_eq_true rfl) (ty := .int) rfl rfl dX11_told_186 (⟨f9 (nI pp).toNatClampNeg, rfl, rfl⟩)
    · refine lv_aload_n hx hb dX11_told_164 rfl (lv_at hl 0 rfl) ?_
      refine x_get (ref := "NoteHouseModel") F hP c90 rfl (fun _ h => List.mem_cons_of_mem _ (List.mem_append_right _ (h))) 9 (Nat.le_of_ble_eq_true rfl) (List.mem_cons_of_mem _ (List.mem_append_left _ (List.mem_append_left _ (List.mem_of_getElem? (i := 5) rfl)))) rfl rfl dX11_told_165 ?_
      refine lv_iload_n hx hb dX11_told_168 rfl (lv_at hl 3 rfl) ?_
      refine x_iald F hP c92 (vp_in_nI (n := pp) (N := 30) (by omega) (by decide)) dX11_told_169 ?_
      refine lv_aload_n hx hb dX11_told_170 rfl (lv_at hl 0 rfl) ?_
      refine x_get (ref := "NoteHouseModel") F hP c90 rfl (fun _ h => List.mem_cons_of_mem _ (List.mem_append_right _ (h))) 13 (Nat.le_of_ble_eq_true rfl) (List.mem_cons_of_mem _ (List.mem_append_left _ (List.mem_append_left _ (List.mem_of_getElem? (i := 6) rfl)))) rfl rfl dX11_told_171 ?_
      refine lv_iload_n hx hb dX11_told_174 rfl (lv_at hl 3 rfl) ?_
      refine x_iald F hP c96 (vp_in_nI (n := pp) (N := 30) (by omega) (by decide)) dX11_told_175 ?_
      refine lv_isub hx hb dX11_told_176 ?_
      refine lv_goto (tgt := 186) hx hb dX11_told_177 (by decide) ?_
      exact y_ir K hP hD hS (Nat.le_of_ble_eq_true rfl) (Nat.le_of_ble_eq_true rfl) (ty := .int) rfl rfl dX11_told_186 (⟨(f9 (nI pp).toNatClampNeg) - (f13 (nI pp).toNatClampNeg), rfl, rfl⟩)
  refine lv_tableOut (tgt := 187) hx hb dX11_told_1 (by have z0 := lv_neT c_1 (show (0 : Int32).toInt = 0 by decide); have z1 := lv_neT c_12 (show (1 : Int32).toInt = 1 by decide); have z2 := lv_neT c_19 (show (2 : Int32).toInt = 2 by decide); have z3 := lv_neT c_26 (show (3 : Int32).toInt = 3 by decide); have z4 := lv_neT c_27 (show (4 : Int32).toInt = 4 by decide); have z5 := lv_neT c_29 (show (5 : Int32).toInt = 5 by decide); have z6 := lv_neT c_30 (show (6 : Int32).toInt = 6 by decide); omega) (by decide) ?_
  refine lv_aload_n hx hb dX11_told_187 rfl (lv_at hl 0 rfl) ?_
  refine x_get (ref := "NoteHouseModel") F hP c90 rfl (fun _ h => List.mem_cons_of_mem _ (List.mem_append_right _ (h))) 1 (Nat.le_of_ble_eq_true rfl) (List.mem_cons_of_mem _ (List.mem_append_left _ (List.mem_append_left _ (List.mem_of_getElem? (i := 0) rfl)))) rfl rfl dX11_told_188 ?_
  exact y_ir K hP hD hS (Nat.le_of_ble_eq_true rfl) (Nat.le_of_ble_eq_true rfl) (ty := .int) rfl rfl dX11_told_191 (⟨td, rfl, rfl⟩)
set_option maxHeartbeats 4000000 in
set_option maxRecDepth 100000 in
theorem m_kindOf (l : Launch) (D : va_G) (cy : Nat → ClassId) (sk sv : Nat → Nat) (w : Wd) (tg : Nat → Nat) (y m2 m3 m4 m5 m6 m8 m9 m10 m11 m12 m13 m14 m17 m18 m19 m20 m21 m22 m23 m24 m29 m30 m31 m32 m33 m34 m35 m36 m37 m39 m40 m41 m42 m43 m44 m45 m46 m47 m48 m49 m51 m52 m53 m54 m56 m57 m58 m59 pc ac sc ln sh gf : Nat) (v0 td v26 v27 v28 v50 : Int32) (f8 : Nat → Int32) (f9 : Nat → Int32) (f10 : Nat → Int32) (f21 : Nat → Int32) (f22 : Nat → Int32) (f35 : Nat → Int32) (f39 : Nat → Int32) (f40 : Nat → Int32) (f41 : Nat → Int32) (f42 : Nat → Int32) (f43 : Nat → Int32) (f46 : Nat → Int32) (f47 : Nat → Int32) (qs : Nat → Option Nat) (sr : Nat → Nat) (fs : Nat → Nat → Int32) (k0 : Nat) (kn : Int32) (c90 : wd_at w y (.inr (11, [.int v0, .int td, .ref m2, .ref m3, .ref m4, .ref m5, .ref m6, .int (nI pc), .ref m8, .ref m9, .ref m10, .ref m11, .ref m12, .ref m13, .ref m14, .int (nI ac), .int (nI sc), .ref m17, .ref m18, .ref m19, .ref m20, .ref m21, .ref m22, .ref m23, .ref m24, .int (nI ln), .int v26, .int v27, .int v28, .ref m29, .ref m30, .ref m31, .ref m32, .ref m33, .ref m34, .ref m35, .ref m36, .ref m37, .int (nI sh), .ref m39, .ref m40, .ref m41, .ref m42, .ref m43, .ref m44, .ref m45, .ref m46, .ref m47, .ref m48, .ref m49, .int v50, .ref m51, .ref m52, .ref m53, .ref m54, .int (nI gf), .ref m56, .ref m57, .ref m58, .ref m59]))) (c91 : wd_at w m8 (.inl (cy 2, 30, .inl f8))) (c92 : wd_at w m9 (.inl (cy 2, 30, .inl f9))) (c93 : wd_at w m10 (.inl (cy 2, 30, .inl f10))) (c94 : wd_at w m21 (.inl (cy 2, 60, .inl f21))) (c95 : wd_at w m22 (.inl (cy 2, 60, .inl f22))) (c96 : wd_at w m35 (.inl (cy 2, 5, .inl f35))) (c97 : wd_at w m39 (.inl (cy 2, 200, .inl f39))) (c98 : wd_at w m40 (.inl (cy 2, 200, .inl f40))) (c99 : wd_at w m41 (.inl (cy 2, 200, .inl f41))) (c910 : wd_at w m42 (.inl (cy 2, 200, .inl f42))) (c911 : wd_at w m43 (.inl (cy 2, 200, .inl f43))) (c912 : wd_at w m46 (.inl (cy 2, 200, .inl f46))) (c913 : wd_at w m47 (.inl (cy 2, 200, .inl f47))) (c914 : wd_at w m23 (.inl (cy 10, 60, .inr (.inr (.inr (.inr qs)))))) (hFSR : ∀ k9, k9 < 60 → qs k9 = some (sr k9) ∧ wd_at w (sr k9) (.inl (cy 2, 12, .inl (fs k9))) ∧ tg (sr k9) = 13000 + k9) (ty : tg y = 10000) (tm8 : tg m8 = 10108) (tm9 : tg m9 = 10109) (tm10 : tg m10 = 10110) (tm21 : tg m21 = 10121) (tm22 : tg m22 = 10122) (tm35 : tg m35 = 10135) (tm39 : tg m39 = 10139) (tm40 : tg m40 = 10140) (tm41 : tg m41 = 10141) (tm42 : tg m42 = 10142) (tm43 : tg m43 = 10143) (tm46 : tg m46 = 10146) (tm47 : tg m47 = 10147) (tm23 : tg m23 = 10123) (ht : bOK sh 12 f39) (hp : bOK sh 30 f40) (hsh : sh ≤ 200) (hsc : sc ≤ 60) (hk0 : k0 < sh) : Ct l D cy sk sv yX11_kindOf_ wsX11_kindOf_ ({ frames := 1, cells := 0, slots := 0, locals := 26 }) [.ref y, .int (nI k0), .int kn] w (fun v w1 => ∃ (kd : Nat), v = some (.int (nI kd)) ∧ (kd ≤ 4) ∧ w = w1) := by
  refine Ct.by (cc := cX11_kindOf_) (maxL := 8) (ret := (some .int)) (by decide +kernel) rfl (Nat.le_of_ble_eq_true rfl) ?_
  intro p e s m args below meth c A Q F hnm K ls hl
  have F : wd_Fx p s m args meth c cX11_kindOf_ 8 wsX11_kindOf_ RX11 D cy sk sv A := F
  have hl : lv_has ls 8 [(0, .ref y), (1, .int (nI k0)), (2, .int kn)] := hl
  have hx := F.1.1
  have hb := F.1.2.1
  have hown := F.1.2.2.2.1
  have hts := F.1.2.2.2.2
  intro H locs hP hD hS
  obtain ⟨tw, htw, etw⟩ := ht k0 hk0
  obtain ⟨pp, hpp, epp⟩ := hp k0 hk0
  refine lv_aload_n hx hb dX11_kindOf__0 rfl (lv_at hl 0 rfl) ?_
  refine x_get (ref := "NoteHouseModel") F hP c90 rfl (fun _ h => List.mem_cons_of_mem _ (List.mem_append_right _ (h))) 40 (Nat.le_of_ble_eq_true rfl) (List.mem_cons_of_mem _ (List.mem_append_left _ (List.mem_of_getElem? (i := 0) rfl))) rfl rfl dX11_kindOf__1 ?_
  refine lv_iload_n hx hb dX11_kindOf__4 rfl (lv_at hl 1 rfl) ?_
  refine x_iald F hP c98 (vp_in_nI (n := k0) (N := 200) (by omega) (by decide)) dX11_kindOf__5 ?_
  rw [nI_clamp (n := k0) (by omega), epp]
  refine lv_istore_n (lv' := [(3, .int (nI pp)), (0, .ref y), (1, .int (nI k0)), (2, .int kn)]) hx hb dX11_kindOf__6 rfl hl (by decide) rfl (fun ls hl => ?_)
  refine lv_aload_n hx hb dX11_kindOf__7 rfl (lv_at hl 1 rfl) ?_
  refine lv_iload_n hx hb dX11_kindOf__8 rfl (lv_at hl 0 rfl) ?_
  refine lv_aload_n hx hb dX11_kindOf__9 rfl (lv_at hl 1 rfl) ?_
  refine x_get (ref := "NoteHouseModel") F hP c90 rfl (fun _ h => List.mem_cons_of_mem _ (List.mem_append_right _ (h))) 41 (Nat.le_of_ble_eq_true rfl) (List.mem_cons_of_mem _ (List.mem_append_left _ (List.mem_of_getElem? (i := 1) rfl))) rfl rfl dX11_kindOf__10 ?_
  refine lv_iload_n hx hb dX11_kindOf__13 rfl (lv_at hl 2 rfl) ?_
  refine x_iald F hP c99 (vp_in_nI (n := k0) (N := 200) (by omega) (by decide)) dX11_kindOf__14 ?_
  refine lv_aload_n hx hb dX11_kindOf__15 rfl (lv_at hl 1 rfl) ?_
  refine x_get (ref := "NoteHouseModel") F hP c90 rfl (fun _ h => List.mem_cons_of_mem _ (List.mem_append_right _ (h))) 39 (Nat.le_of_ble_eq_true rfl) (List.mem_cons_of_mem _ (List.mem_append_left _ (List.mem_of_getElem? (i := 2) rfl))) rfl rfl dX11_kindOf__16 ?_
  refine lv_iload_n hx hb dX11_kindOf__19 rfl (lv_at hl 2 rfl) ?_
  refine x_iald F hP c97 (vp_in_nI (n := k0) (N := 200) (by omega) (by decide)) dX11_kindOf__20 ?_
  rw [nI_clamp (n := k0) (by omega), etw]
  refine lv_aload_n hx hb dX11_kindOf__21 rfl (lv_at hl 1 rfl) ?_
  refine x_get (ref := "NoteHouseModel") F hP c90 rfl (fun _ h => List.mem_cons_of_mem _ (List.mem_append_right _ (h))) 46 (Nat.le_of_ble_eq_true rfl) (List.mem_cons_of_mem _ (List.mem_append_left _ (List.mem_of_getElem? (i := 3) rfl))) rfl rfl dX11_kindOf__22 ?_
  refine lv_iload_n hx hb dX11_kindOf__25 rfl (lv_at hl 2 rfl) ?_
  refine x_iald F hP c912 (vp_in_nI (n := k0) (N := 200) (by omega) (by decide)) dX11_kindOf__26 ?_
  refine x_callV (n := 4) (As := [.int (nI pp), .int (f41 k0), .int (nI tw), .int (f46 (nI k0).toNatClampNeg)]) (rest := []) F hP hD hS (m_isStopped l D cy sk sv w tg y m2 m3 m4 m5 m6 m8 m9 m10 m11 m12 m13 m14 m17 m18 m19 m20 m21 m22 m23 m24 m29 m30 m31 m32 m33 m34 m35 m36 m37 m39 m40 m41 m42 m43 m44 m45 m46 m47 m48 m49 m51 m52 m53 m54 m56 m57 m58 m59 pc ac sc ln sh gf v0 td v26 v27 v28 v50 f21 f22 qs sr fs (nI pp) (f41 k0) (f46 (nI k0).toNatClampNeg) tw c90 c94 c95 c914 hFSR ty tm21 tm22 tm23 (by omega) (by omega)) gX11_kindOf__X11_isStopped rfl rfl (by decide +kernel) ⟨(Nat.le_of_ble_eq_true rfl), (Nat.le_of_ble_eq_true rfl)⟩ rfl hl.1 (Nat.le_of_ble_eq_true rfl) c90 rfl dX11_kindOf__27 rfl ⟨(Nat.le_of_ble_eq_true rfl), (Nat.le_of_ble_eq_true rfl)⟩ (fun v2 w3 hp1 H locs hP hD hS => ?_)
  obtain ⟨rx4, rfl, hz5, rfl⟩ := hp1
  refine W.eq (g2 := F0 m 30 ls [.int rx4]) rfl (W.widen (k := 0) (n := 0) (Nat.le_of_ble_eq_true rfl) (Nat.le_of_ble_eq_true rfl) ?_)
  refine lv_if_eq (tgt := 35) hx hb dX11_kindOf__30 (by decide) (fun c_6 => ?_) (fun c_6 => ?_)
  · refine lv_aload_n hx hb dX11_kindOf__35 rfl (lv_at hl 1 rfl) ?_
    refine x_get (ref := "NoteHouseModel") F hP c90 rfl (fun _ h => List.mem_cons_of_mem _ (List.mem_append_right _ (h))) 43 (Nat.le_of_ble_eq_true rfl) (List.mem_cons_of_mem _ (List.mem_append_left _ (List.mem_of_getElem? (i := 4) rfl))) rfl rfl dX11_kindOf__36 ?_
    refine lv_iload_n hx hb dX11_kindOf__39 rfl (lv_at hl 2 rfl) ?_
    refine x_iald F hP c911 (vp_in_nI (n := k0) (N := 200) (by omega) (by decide)) dX11_kindOf__40 ?_
    refine lv_aload_n hx hb dX11_kindOf__41 rfl (lv_at hl 1 rfl) ?_
    refine x_get (ref := "NoteHouseModel") F hP c90 rfl (fun _ h => List.mem_cons_of_mem _ (List.mem_append_right _ (h))) 10 (Nat.le_of_ble_eq_true rfl) (List.mem_cons_of_mem _ (List.mem_append_left _ (List.mem_of_getElem? (i := 5) rfl))) rfl rfl dX11_kindOf__42 ?_
    refine lv_iload_n hx hb dX11_kindOf__45 rfl (lv_at hl 0 rfl) ?_
    refine x_iald F hP c93 (vp_in_nI (n := pp) (N := 30) (by omega) (by decide)) dX11_kindOf__46 ?_
    refine x_callS (n := 2) (As := [.int (f43 (nI k0).toNatClampNeg), .int (f10 (nI pp).toNatClampNeg)]) (rest := []) F hP hD hS (m_unlike l D cy sk sv w (f43 (nI k0).toNatClampNeg) (f10 (nI pp).toNatClampNeg)) gX11_kindOf__X11_unlike rfl (by decide +kernel) ⟨(Nat.le_of_ble_eq_true rfl), (Nat.le_of_ble_eq_true rfl)⟩ rfl hl.1 (Nat.le_of_ble_eq_true rfl) dX11_kindOf__47 rfl ⟨(Nat.le_of_ble_eq_true rfl), (Nat.le_of_ble_eq_true rfl)⟩ (fun v8 w9 hp7 H locs hP hD hS => ?_)
    obtain ⟨rx10, rfl, rfl⟩ := hp7
    refine W.eq (g2 := F0 m 50 ls [.int rx10]) rfl (W.widen (k := 0) (n := 0) (Nat.le_of_ble_eq_true rfl) (Nat.le_of_ble_eq_true rfl) ?_)
    refine lv_aload_n hx hb dX11_kindOf__50 rfl (lv_at hl 1 rfl) ?_
    refine x_get (ref := "NoteHouseModel") F hP c90 rfl (fun _ h => List.mem_cons_of_mem _ (List.mem_append_right _ (h))) 35 (Nat.le_of_ble_eq_true rfl) (List.mem_cons_of_mem _ (List.mem_append_left _ (List.mem_of_getElem? (i := 6) rfl))) rfl rfl dX11_kindOf__51 ?_
    refine lv_iconst (v := 4) hx hb dX11_kindOf__54 (by decide) ?_
    refine x_iald F hP c96 (vp_in_iff.mpr ⟨by decide, by decide⟩) dX11_kindOf__55 ?_
    refine lv_icmp_lt (tgt := 61) hx hb dX11_kindOf__56 (by decide) (fun c_11 => ?_) (fun c_11 => ?_)
    · refine lv_iconst (v := 0) hx hb dX11_kindOf__61 (by decide) ?_
      refine lv_istore (lv' := [(4, .int 0), (3, .int (nI pp)), (0, .ref y), (1, .int (nI k0)), (2, .int kn)]) hx hb dX11_kindOf__62 hl (by decide) rfl (fun ls hl => ?_)
      refine lv_aload_n hx hb dX11_kindOf__64 rfl (lv_at hl 2 rfl) ?_
      refine x_get (ref := "NoteHouseModel") F hP c90 rfl (fun _ h => List.mem_cons_of_mem _ (List.mem_append_right _ (h))) 42 (Nat.le_of_ble_eq_true rfl) (List.mem_cons_of_mem _ (List.mem_append_left _ (List.mem_of_getElem? (i := 7) rfl))) rfl rfl dX11_kindOf__65 ?_
      refine lv_iload_n hx hb dX11_kindOf__68 rfl (lv_at hl 3 rfl) ?_
      refine x_iald F hP c910 (vp_in_nI (n := k0) (N := 200) (by omega) (by decide)) dX11_kindOf__69 ?_
      refine lv_i2l (v := (f42 (nI k0).toNatClampNeg).toInt64) hx hb dX11_kindOf__70 (rfl) ?_
      refine lv_lstore (lv' := [(5, .long ((f42 (nI k0).toNatClampNeg).toInt64)), (4, .int 0), (3, .int (nI pp)), (0, .ref y), (1, .int (nI k0)), (2, .int kn)]) hx hb dX11_kindOf__71 hl (by decide) rfl (fun ls hl => ?_)
      refine lv_iconst (v := 0) hx hb dX11_kindOf__73 (by decide) ?_
      refine lv_istore (lv' := [(7, .int 0), (5, .long ((f42 (nI k0).toNatClampNeg).toInt64)), (4, .int 0), (3, .int (nI pp)), (0, .ref y), (1, .int (nI k0)), (2, .int kn)]) hx hb dX11_kindOf__74 hl (by decide) rfl (fun ls hl => ?_)
      have lp76 : ∀ (N : Nat) (i : Nat) (tq : Int32) (su : Int64), (i + N = k0) → ∀ (ls : Array Slot), lv_has ls 8 [(0, .ref y), (1, .int (nI k0)), (2, .int kn), (3, .int (nI pp)), (4, .int tq), (5, .long su), (7, .int (nI i))] → Wv p l e ({ frames := 1, cells := 0, slots := 0, locals := 26 }) s m args below meth c D A (0) (0) Q w (F0 m 76 ls []) := by
        intro N
        induction N with
        | zero =>
          intro i tq su hN76 ls hl H locs hP hD hS
          refine lv_iload hx hb dX11_kindOf__76 (lv_at hl 6 rfl) ?_
          refine lv_iload_n hx hb dX11_kindOf__78 rfl (lv_at hl 1 rfl) ?_
          refine lv_icmp_ge (tgt := 151) hx hb dX11_kindOf__79 (by decide) (fun c_13 => ?_) (fun c_13 => absurd (nI_le (a := k0) (b := i) (by omega) (by omega)) c_13)
          refine lv_aload_n hx hb dX11_kindOf__151 rfl (lv_at hl 0 rfl) ?_
          refine x_get (ref := "NoteHouseModel") F hP c90 rfl (fun _ h => List.mem_cons_of_mem _ (List.mem_append_right _ (h))) 8 (Nat.le_of_ble_eq_true rfl) (List.mem_cons_of_mem _ (List.mem_append_left _ (List.mem_of_getElem? (i := 9) rfl))) rfl rfl dX11_kindOf__152 ?_
          refine lv_iload_n hx hb dX11_kindOf__155 rfl (lv_at hl 3 rfl) ?_
          refine x_iald F hP c91 (vp_in_nI (n := pp) (N := 30) (by omega) (by decide)) dX11_kindOf__156 ?_
          refine lv_if_le (tgt := 171) hx hb dX11_kindOf__157 (by decide) (fun c_14 => ?_) (fun c_14 => ?_)
          · refine lv_lload hx hb dX11_kindOf__171 (lv_at hl 5 rfl) ?_
            refine lv_aload_n hx hb dX11_kindOf__173 rfl (lv_at hl 0 rfl) ?_
            refine x_get (ref := "NoteHouseModel") F hP c90 rfl (fun _ h => List.mem_cons_of_mem _ (List.mem_append_right _ (h))) 9 (Nat.le_of_ble_eq_true rfl) (List.mem_cons_of_mem _ (List.mem_append_left _ (List.mem_of_getElem? (i := 10) rfl))) rfl rfl dX11_kindOf__174 ?_
            refine lv_iload_n hx hb dX11_kindOf__177 rfl (lv_at hl 3 rfl) ?_
            refine x_iald F hP c92 (vp_in_nI (n := pp) (N := 30) (by omega) (by decide)) dX11_kindOf__178 ?_
            refine lv_i2l (v := (f9 (nI pp).toNatClampNeg).toInt64) hx hb dX11_kindOf__179 (rfl) ?_
            refine W.lcmp hx hb dX11_kindOf__180 ?_
            refine lv_if_le (tgt := 188) hx hb dX11_kindOf__181 (by decide) (fun c_15 => ?_) (fun c_15 => ?_)
            · refine lv_iconst (v := 0) hx hb dX11_kindOf__188 (by decide) ?_
              exact y_ir K hP hD hS (Nat.le_of_ble_eq_true rfl) (Nat.le_of_ble_eq_true rfl) (ty := .int) rfl rfl dX11_kindOf__189 (⟨0, rfl, by omega, rfl⟩)
            · refine lv_iconst (v := 4) hx hb dX11_kindOf__184 (by decide) ?_
              refine lv_goto (tgt := 189) hx hb dX11_kindOf__185 (by decide) ?_
              exact y_ir K hP hD hS (Nat.le_of_ble_eq_true rfl) (Nat.le_of_ble_eq_true rfl) (ty := .int) rfl rfl dX11_kindOf__189 (⟨4, rfl, by omega, rfl⟩)
          · refine lv_iload hx hb dX11_kindOf__160 (lv_at hl 4 rfl) ?_
            refine lv_if_eq (tgt := 169) hx hb dX11_kindOf__162 (by decide) (fun c_16 => ?_) (fun c_16 => ?_)
            · refine lv_iconst (v := 0) hx hb dX11_kindOf__169 (by decide) ?_
              exact y_ir K hP hD hS (Nat.le_of_ble_eq_true rfl) (Nat.le_of_ble_eq_true rfl) (ty := .int) rfl rfl dX11_kindOf__170 (⟨0, rfl, by omega, rfl⟩)
            · refine lv_iconst (v := 3) hx hb dX11_kindOf__165 (by decide) ?_
              refine lv_goto (tgt := 170) hx hb dX11_kindOf__166 (by decide) ?_
              exact y_ir K hP hD hS (Nat.le_of_ble_eq_true rfl) (Nat.le_of_ble_eq_true rfl) (ty := .int) rfl rfl dX11_kindOf__170 (⟨3, rfl, by omega, rfl⟩)
        | succ N ih76 =>
          intro i tq su hN76 ls hl H locs hP hD hS
          refine lv_iload hx hb dX11_kindOf__76 (lv_at hl 6 rfl) ?_
          refine lv_iload_n hx hb dX11_kindOf__78 rfl (lv_at hl 1 rfl) ?_
          refine lv_icmp_ge (tgt := 151) hx hb dX11_kindOf__79 (by decide) (fun c_17 => absurd c_17 (nI_ge (a := i) (b := k0) (by omega) (by omega))) (fun c_17 => ?_)
          refine lv_aload_n hx hb dX11_kindOf__82 rfl (lv_at hl 0 rfl) ?_
          refine x_get (ref := "NoteHouseModel") F hP c90 rfl (fun _ h => List.mem_cons_of_mem _ (List.mem_append_right _ (h))) 47 (Nat.le_of_ble_eq_true rfl) (List.mem_cons_of_mem _ (List.mem_append_left _ (List.mem_of_getElem? (i := 8) rfl))) rfl rfl dX11_kindOf__83 ?_
          refine lv_iload hx hb dX11_kindOf__86 (lv_at hl 6 rfl) ?_
          refine x_iald F hP c913 (vp_in_nI (n := i) (N := 200) (by omega) (by decide)) dX11_kindOf__88 ?_
          refine lv_iload_n hx hb dX11_kindOf__89 rfl (lv_at hl 2 rfl) ?_
          refine lv_icmp_gt (tgt := 145) hx hb dX11_kindOf__90 (by decide) (fun c_18 => ?_) (fun c_18 => ?_)
          · refine lv_iinc (v := nI (i + 1)) (lv' := [(7, .int (nI (i + 1))), (0, .ref y), (1, .int (nI k0)), (2, .int kn), (3, .int (nI pp)), (4, .int tq), (5, .long su)]) hx hb dX11_kindOf__145 hl (k := 6) rfl (nI_1 i) (by decide) rfl (fun ls hl => ?_)
            refine lv_goto (tgt := 76) hx hb dX11_kindOf__148 (by decide) ?_
            exact ih76 (i + 1) tq su  (by omega)    ls (lv_sub hl [1, 2, 3, 4, 5, 6, 0] rfl) H locs hP hD hS
          · refine lv_aload_n hx hb dX11_kindOf__93 rfl (lv_at hl 0 rfl) ?_
            refine x_get (ref := "NoteHouseModel") F hP c90 rfl (fun _ h => List.mem_cons_of_mem _ (List.mem_append_right _ (h))) 40 (Nat.le_of_ble_eq_true rfl) (List.mem_cons_of_mem _ (List.mem_append_left _ (List.mem_of_getElem? (i := 0) rfl))) rfl rfl dX11_kindOf__94 ?_
            refine lv_iload hx hb dX11_kindOf__97 (lv_at hl 6 rfl) ?_
            refine x_iald F hP c98 (vp_in_nI (n := i) (N := 200) (by omega) (by decide)) dX11_kindOf__99 ?_
            refine lv_iload_n hx hb dX11_kindOf__100 rfl (lv_at hl 3 rfl) ?_
            refine lv_icmp_ne (tgt := 145) hx hb dX11_kindOf__101 (by decide) (fun c_19 => ?_) (fun c_19 => ?_)
            · refine lv_iinc (v := nI (i + 1)) (lv' := [(7, .int (nI (i + 1))), (0, .ref y), (1, .int (nI k0)), (2, .int kn), (3, .int (nI pp)), (4, .int tq), (5, .long su)]) hx hb dX11_kindOf__145 hl (k := 6) rfl (nI_1 i) (by decide) rfl (fun ls hl => ?_)
              refine lv_goto (tgt := 76) hx hb dX11_kindOf__148 (by decide) ?_
              exact ih76 (i + 1) tq su  (by omega)    ls (lv_sub hl [1, 2, 3, 4, 5, 6, 0] rfl) H locs hP hD hS
            · refine lv_iload hx hb dX11_kindOf__104 (lv_at hl 4 rfl) ?_
              refine lv_if_ne (tgt := 125) hx hb dX11_kindOf__106 (by decide) (fun c_20 => ?_) (fun c_20 => ?_)
              · refine lv_iconst (v := 1) hx hb dX11_kindOf__125 (by decide) ?_
                refine lv_goto (tgt := 130) hx hb dX11_kindOf__126 (by decide) ?_
                refine lv_istore (lv' := [(4, .int 1), (0, .ref y), (1, .int (nI k0)), (2, .int kn), (3, .int (nI pp)), (5, .long su), (7, .int (nI i))]) hx hb dX11_kindOf__130 hl (by decide) rfl (fun ls hl => ?_)
                refine lv_lload hx hb dX11_kindOf__132 (lv_at hl 5 rfl) ?_
                refine lv_aload_n hx hb dX11_kindOf__134 rfl (lv_at hl 1 rfl) ?_
                refine x_get (ref := "NoteHouseModel") F hP c90 rfl (fun _ h => List.mem_cons_of_mem _ (List.mem_append_right _ (h))) 42 (Nat.le_of_ble_eq_true rfl) (List.mem_cons_of_mem _ (List.mem_append_left _ (List.mem_of_getElem? (i := 7) rfl))) rfl rfl dX11_kindOf__135 ?_
                refine lv_iload hx hb dX11_kindOf__138 (lv_at hl 6 rfl) ?_
                refine x_iald F hP c910 (vp_in_nI (n := i) (N := 200) (by omega) (by decide)) dX11_kindOf__140 ?_
                refine lv_i2l (v := (f42 (nI i).toNatClampNeg).toInt64) hx hb dX11_kindOf__141 (rfl) ?_
                refine lv_ladd hx hb dX11_kindOf__142 ?_
                refine lv_lstore (lv' := [(5, .long (su + ((f42 (nI i).toNatClampNeg).toInt64))), (4, .int 1), (0, .ref y), (1, .int (nI k0)), (2, .int kn), (3, .int (nI pp)), (7, .int (nI i))]) hx hb dX11_kindOf__143 hl (by decide) rfl (fun ls hl => ?_)
                refine lv_iinc (v := nI (i + 1)) (lv' := [(7, .int (nI (i + 1))), (5, .long (su + ((f42 (nI i).toNatClampNeg).toInt64))), (4, .int 1), (0, .ref y), (1, .int (nI k0)), (2, .int kn), (3, .int (nI pp))]) hx hb dX11_kindOf__145 hl (k := 6) rfl (nI_1 i) (by decide) rfl (fun ls hl => ?_)
                refine lv_goto (tgt := 76) hx hb dX11_kindOf__148 (by decide) ?_
                exact ih76 (i + 1) 1 (su + ((f42 (nI i).toNatClampNeg).toInt64))  (by omega)    ls (lv_sub hl [3, 4, 5, 6, 2, 1, 0] rfl) H locs hP hD hS
              · refine lv_aload_n hx hb dX11_kindOf__109 rfl (lv_at hl 0 rfl) ?_
                refine x_get (ref := "NoteHouseModel") F hP c90 rfl (fun _ h => List.mem_cons_of_mem _ (List.mem_append_right _ (h))) 41 (Nat.le_of_ble_eq_true rfl) (List.mem_cons_of_mem _ (List.mem_append_left _ (List.mem_of_getElem? (i := 1) rfl))) rfl rfl dX11_kindOf__110 ?_
                refine lv_iload hx hb dX11_kindOf__113 (lv_at hl 6 rfl) ?_
                refine x_iald F hP c99 (vp_in_nI (n := i) (N := 200) (by omega) (by decide)) dX11_kindOf__115 ?_
                refine lv_aload_n hx hb dX11_kindOf__116 rfl (lv_at hl 0 rfl) ?_
                refine x_get (ref := "NoteHouseModel") F hP c90 rfl (fun _ h => List.mem_cons_of_mem _ (List.mem_append_right _ (h))) 41 (Nat.le_of_ble_eq_true rfl) (List.mem_cons_of_mem _ (List.mem_append_left _ (List.mem_of_getElem? (i := 1) rfl))) rfl rfl dX11_kindOf__117 ?_
                refine lv_iload_n hx hb dX11_kindOf__120 rfl (lv_at hl 1 rfl) ?_
                refine x_iald F hP c99 (vp_in_nI (n := k0) (N := 200) (by omega) (by decide)) dX11_kindOf__121 ?_
                refine lv_icmp_ne (tgt := 129) hx hb dX11_kindOf__122 (by decide) (fun c_21 => ?_) (fun c_21 => ?_)
                · refine lv_iconst (v := 0) hx hb dX11_kindOf__129 (by decide) ?_
                  refine lv_istore (lv' := [(4, .int 0), (0, .ref y), (1, .int (nI k0)), (2, .int kn), (3, .int (nI pp)), (5, .long su), (7, .int (nI i))]) hx hb dX11_kindOf__130 hl (by decide) rfl (fun ls hl => ?_)
                  refine lv_lload hx hb dX11_kindOf__132 (lv_at hl 5 rfl) ?_
                  refine lv_aload_n hx hb dX11_kindOf__134 rfl (lv_at hl 1 rfl) ?_
                  refine x_get (ref := "NoteHouseModel") F hP c90 rfl (fun _ h => List.mem_cons_of_mem _ (List.mem_append_right _ (h))) 42 (Nat.le_of_ble_eq_true rfl) (List.mem_cons_of_mem _ (List.mem_append_left _ (List.mem_of_getElem? (i := 7) rfl))) rfl rfl dX11_kindOf__135 ?_
                  refine lv_iload hx hb dX11_kindOf__138 (lv_at hl 6 rfl) ?_
                  refine x_iald F hP c910 (vp_in_nI (n := i) (N := 200) (by omega) (by decide)) dX11_kindOf__140 ?_
                  refine lv_i2l (v := (f42 (nI i).toNatClampNeg).toInt64) hx hb dX11_kindOf__141 (rfl) ?_
                  refine lv_ladd hx hb dX11_kindOf__142 ?_
                  refine lv_lstore (lv' := [(5, .long (su + ((f42 (nI i).toNatClampNeg).toInt64))), (4, .int 0), (0, .ref y), (1, .int (nI k0)), (2, .int kn), (3, .int (nI pp)), (7, .int (nI i))]) hx hb dX11_kindOf__143 hl (by decide) rfl (fun ls hl => ?_)
                  refine lv_iinc (v := nI (i + 1)) (lv' := [(7, .int (nI (i + 1))), (5, .long (su + ((f42 (nI i).toNatClampNeg).toInt64))), (4, .int 0), (0, .ref y), (1, .int (nI k0)), (2, .int kn), (3, .int (nI pp))]) hx hb dX11_kindOf__145 hl (k := 6) rfl (nI_1 i) (by decide) rfl (fun ls hl => ?_)
                  refine lv_goto (tgt := 76) hx hb dX11_kindOf__148 (by decide) ?_
                  exact ih76 (i + 1) 0 (su + ((f42 (nI i).toNatClampNeg).toInt64))  (by omega)    ls (lv_sub hl [3, 4, 5, 6, 2, 1, 0] rfl) H locs hP hD hS
                · refine lv_iconst (v := 1) hx hb dX11_kindOf__125 (by decide) ?_
                  refine lv_goto (tgt := 130) hx hb dX11_kindOf__126 (by decide) ?_
                  refine lv_istore (lv' := [(4, .int 1), (0, .ref y), (1, .int (nI k0)), (2, .int kn), (3, .int (nI pp)), (5, .long su), (7, .int (nI i))]) hx hb dX11_kindOf__130 hl (by decide) rfl (fun ls hl => ?_)
                  refine lv_lload hx hb dX11_kindOf__132 (lv_at hl 5 rfl) ?_
                  refine lv_aload_n hx hb dX11_kindOf__134 rfl (lv_at hl 1 rfl) ?_
                  refine x_get (ref := "NoteHouseModel") F hP c90 rfl (fun _ h => List.mem_cons_of_mem _ (List.mem_append_right _ (h))) 42 (Nat.le_of_ble_eq_true rfl) (List.mem_cons_of_mem _ (List.mem_append_left _ (List.mem_of_getElem? (i := 7) rfl))) rfl rfl dX11_kindOf__135 ?_
                  refine lv_iload hx hb dX11_kindOf__138 (lv_at hl 6 rfl) ?_
                  refine x_iald F hP c910 (vp_in_nI (n := i) (N := 200) (by omega) (by decide)) dX11_kindOf__140 ?_
                  refine lv_i2l (v := (f42 (nI i).toNatClampNeg).toInt64) hx hb dX11_kindOf__141 (rfl) ?_
                  refine lv_ladd hx hb dX11_kindOf__142 ?_
                  refine lv_lstore (lv' := [(5, .long (su + ((f42 (nI i).toNatClampNeg).toInt64))), (4, .int 1), (0, .ref y), (1, .int (nI k0)), (2, .int kn), (3, .int (nI pp)), (7, .int (nI i))]) hx hb dX11_kindOf__143 hl (by decide) rfl (fun ls hl => ?_)
                  refine lv_iinc (v := nI (i + 1)) (lv' := [(7, .int (nI (i + 1))), (5, .long (su + ((f42 (nI i).toNatClampNeg).toInt64))), (4, .int 1), (0, .ref y), (1, .int (nI k0)), (2, .int kn), (3, .int (nI pp))]) hx hb dX11_kindOf__145 hl (k := 6) rfl (nI_1 i) (by decide) rfl (fun ls hl => ?_)
                  refine lv_goto (tgt := 76) hx hb dX11_kindOf__148 (by decide) ?_
                  exact ih76 (i + 1) 1 (su + ((f42 (nI i).toNatClampNeg).toInt64))  (by omega)    ls (lv_sub hl [3, 4, 5, 6, 2, 1, 0] rfl) H locs hP hD hS
      exact lp76 _ 0 0 ((f42 (nI k0).toNatClampNeg).toInt64)  (Nat.zero_add k0)    ls (lv_sub hl [4, 5, 6, 3, 2, 1, 0] rfl) H locs hP hD hS
    · refine lv_iconst (v := 2) hx hb dX11_kindOf__59 (by decide) ?_
      exact y_ir K hP hD hS (Nat.le_of_ble_eq_true rfl) (Nat.le_of_ble_eq_true rfl) (ty := .int) rfl rfl dX11_kindOf__60 (⟨2, rfl, by omega, rfl⟩)
  · refine lv_iconst (v := 1) hx hb dX11_kindOf__33 (by decide) ?_
    exact y_ir K hP hD hS (Nat.le_of_ble_eq_true rfl) (Nat.le_of_ble_eq_true rfl) (ty := .int) rfl rfl dX11_kindOf__34 (⟨1, rfl, by omega, rfl⟩)
set_option maxHeartbeats 4000000 in
set_option maxRecDepth 100000 in
theorem m_gift (l : Launch) (D : va_G) (cy : Nat → ClassId) (sk sv : Nat → Nat) (w : Wd) (tg : Nat → Nat) (y m2 m3 m4 m5 m6 m8 m9 m10 m11 m12 m13 m14 m17 m18 m19 m20 m21 m22 m23 m24 m29 m30 m31 m32 m33 m34 m35 m36 m37 m39 m40 m41 m42 m43 m44 m45 m46 m47 m48 m49 m51 m52 m53 m54 m56 m57 m58 m59 pc ac sc ln sh gf : Nat) (v0 td v26 v27 v28 v50 : Int32) (f56 : Nat → Int32) (f57 : Nat → Int32) (f58 : Nat → Int32) (f59 : Nat → Int64) (x1 x2 x4 : Int32) (vv : Int64) (c90 : wd_at w y (.inr (11, [.int v0, .int td, .ref m2, .ref m3, .ref m4, .ref m5, .ref m6, .int (nI pc), .ref m8, .ref m9, .ref m10, .ref m11, .ref m12, .ref m13, .ref m14, .int (nI ac), .int (nI sc), .ref m17, .ref m18, .ref m19, .ref m20, .ref m21, .ref m22, .ref m23, .ref m24, .int (nI ln), .int v26, .int v27, .int v28, .ref m29, .ref m30, .ref m31, .ref m32, .ref m33, .ref m34, .ref m35, .ref m36, .ref m37, .int (nI sh), .ref m39, .ref m40, .ref m41, .ref m42, .ref m43, .ref m44, .ref m45, .ref m46, .ref m47, .ref m48, .ref m49, .int v50, .ref m51, .ref m52, .ref m53, .ref m54, .int (nI gf), .ref m56, .ref m57, .ref m58, .ref m59]))) (c91 : wd_at w m56 (.inl (cy 2, 60, .inl f56))) (c92 : wd_at w m57 (.inl (cy 2, 60, .inl f57))) (c93 : wd_at w m58 (.inl (cy 2, 60, .inl f58))) (c94 : wd_at w m59 (.inl (cy 3, 60, .inr (.inl f59))))  (S : Nat → Prop) (s90 : S y) (s91 : S m56) (s92 : S m57) (s93 : S m58) (s94 : S m59) (ty : tg y = 10000) (tm56 : tg m56 = 10156) (tm57 : tg m57 = 10157) (tm58 : tg m58 = 10158) (tm59 : tg m59 = 10159) (hgf : gf < 60) : Ct l D cy sk sv yX11_gift wsX11_gift ({ frames := 0, cells := 0, slots := 0, locals := 0 }) [.ref y, .int x1, .int x2, .long vv, .int x4] w (fun v w1 => ∃ (g56 : Nat → Int32) (g57 : Nat → Int32) (g58 : Nat → Int32) (g59 : Nat → Int64), v = none ∧ wd_kp S w w1 ∧ wd_at w1 y (.inr (11, [.int v0, .int td, .ref m2, .ref m3, .ref m4, .ref m5, .ref m6, .int (nI pc), .ref m8, .ref m9, .ref m10, .ref m11, .ref m12, .ref m13, .ref m14, .int (nI ac), .int (nI sc), .ref m17, .ref m18, .ref m19, .ref m20, .ref m21, .ref m22, .ref m23, .ref m24, .int (nI ln), .int v26, .int v27, .int v28, .ref m29, .ref m30, .ref m31, .ref m32, .ref m33, .ref m34, .ref m35, .ref m36, .ref m37, .int (nI sh), .ref m39, .ref m40, .ref m41, .ref m42, .ref m43, .ref m44, .ref m45, .ref m46, .ref m47, .ref m48, .ref m49, .int v50, .ref m51, .ref m52, .ref m53, .ref m54, .int (nI (gf + 1)), .ref m56, .ref m57, .ref m58, .ref m59])) ∧ wd_at w1 m56 (.inl (cy 2, 60, .inl g56)) ∧ wd_at w1 m57 (.inl (cy 2, 60, .inl g57)) ∧ wd_at w1 m58 (.inl (cy 2, 60, .inl g58)) ∧ wd_at w1 m59 (.inl (cy 3, 60, .inr (.inl g59)))) := by
  refine Ct.by (cc := cX11_gift) (maxL := 6) (ret := none) (by decide +kernel) rfl (Nat.le_of_ble_eq_true rfl) ?_
  intro p e s m args below meth c A Q F hnm K ls hl
  have F : wd_Fx p s m args meth c cX11_gift 6 wsX11_gift RX11 D cy sk sv A := F
  have hl : lv_has ls 6 [(0, .ref y), (1, .int x1), (2, .int x2), (3, .long vv), (5, .int x4)] := hl
  have hx := F.1.1
  have hb := F.1.2.1
  have hown := F.1.2.2.2.1
  have hts := F.1.2.2.2.2
  intro H locs hP hD hS
  have kp0 : wd_kp S w w := wd_kp.rf
  refine lv_aload_n hx hb dX11_gift_0 rfl (lv_at hl 0 rfl) ?_
  refine x_get (ref := "NoteHouseModel") F hP c90 rfl (fun _ h => List.mem_cons_of_mem _ (List.mem_append_right _ (h))) 56 (Nat.le_of_ble_eq_true rfl) (List.mem_cons_of_mem _ (List.mem_append_left _ (List.mem_of_getElem? (i := 0) rfl))) rfl rfl dX11_gift_1 ?_
  refine lv_aload_n hx hb dX11_gift_4 rfl (lv_at hl 0 rfl) ?_
  refine x_get (ref := "NoteHouseModel") F hP c90 rfl (fun _ h => List.mem_cons_of_mem _ (List.mem_append_right _ (h))) 55 (Nat.le_of_ble_eq_true rfl) (List.mem_cons_of_mem _ (List.mem_append_left _ (List.mem_of_getElem? (i := 1) rfl))) rfl rfl dX11_gift_5 ?_
  refine lv_iload_n hx hb dX11_gift_8 rfl (lv_at hl 1 rfl) ?_
  refine y_iast F hP hD hS c91 (vp_in_nI (n := gf) (N := 60) (by omega) (by decide)) dX11_gift_9 (fun w1 ew2 H locs hP hD hS => ?_)
  have k3 := wd_at.pt ew2 c90 (tg_ne ty tm56 (by decide))
  have k4 : wd_at w1 m56 (.inl (cy 2, 60, .inl (upd f56 (nI gf).toNatClampNeg x1))) := wd_at.ps ew2 c91
  have k5 := wd_at.pt ew2 c92 (tg_ne tm57 tm56 (by decide))
  have k6 := wd_at.pt ew2 c93 (tg_ne tm58 tm56 (by decide))
  have k7 := wd_at.pt ew2 c94 (tg_ne tm59 tm56 (by decide))
  have kp8 := kp0.put ew2 s91
  refine lv_aload_n hx hb dX11_gift_10 rfl (lv_at hl 0 rfl) ?_
  refine x_get (ref := "NoteHouseModel") F hP k3 rfl (fun _ h => List.mem_cons_of_mem _ (List.mem_append_right _ (h))) 57 (Nat.le_of_ble_eq_true rfl) (List.mem_cons_of_mem _ (List.mem_append_left _ (List.mem_of_getElem? (i := 2) rfl))) rfl rfl dX11_gift_11 ?_
  refine lv_aload_n hx hb dX11_gift_14 rfl (lv_at hl 0 rfl) ?_
  refine x_get (ref := "NoteHouseModel") F hP k3 rfl (fun _ h => List.mem_cons_of_mem _ (List.mem_append_right _ (h))) 55 (Nat.le_of_ble_eq_true rfl) (List.mem_cons_of_mem _ (List.mem_append_left _ (List.mem_of_getElem? (i := 1) rfl))) rfl rfl dX11_gift_15 ?_
  refine lv_iload_n hx hb dX11_gift_18 rfl (lv_at hl 2 rfl) ?_
  refine y_iast F hP hD hS k5 (vp_in_nI (n := gf) (N := 60) (by omega) (by decide)) dX11_gift_19 (fun w9 ew10 H locs hP hD hS => ?_)
  have k11 := wd_at.pt ew10 k3 (tg_ne ty tm57 (by decide))
  have k12 := wd_at.pt ew10 k4 (tg_ne tm56 tm57 (by decide))
  have k13 : wd_at w9 m57 (.inl (cy 2, 60, .inl (upd f57 (nI gf).toNatClampNeg x2))) := wd_at.ps ew10 k5
  have k14 := wd_at.pt ew10 k6 (tg_ne tm58 tm57 (by decide))
  have k15 := wd_at.pt ew10 k7 (tg_ne tm59 tm57 (by decide))
  have kp16 := kp8.put ew10 s92
  refine lv_aload_n hx hb dX11_gift_20 rfl (lv_at hl 0 rfl) ?_
  refine x_get (ref := "NoteHouseModel") F hP k11 rfl (fun _ h => List.mem_cons_of_mem _ (List.mem_append_right _ (h))) 59 (Nat.le_of_ble_eq_true rfl) (List.mem_cons_of_mem _ (List.mem_append_left _ (List.mem_of_getElem? (i := 3) rfl))) rfl rfl dX11_gift_21 ?_
  refine lv_aload_n hx hb dX11_gift_24 rfl (lv_at hl 0 rfl) ?_
  refine x_get (ref := "NoteHouseModel") F hP k11 rfl (fun _ h => List.mem_cons_of_mem _ (List.mem_append_right _ (h))) 55 (Nat.le_of_ble_eq_true rfl) (List.mem_cons_of_mem _ (List.mem_append_left _ (List.mem_of_getElem? (i := 1) rfl))) rfl rfl dX11_gift_25 ?_
  refine lv_lload_n hx hb dX11_gift_28 rfl (lv_at hl 3 rfl) ?_
  refine y_last F hP hD hS k15 (vp_in_nI (n := gf) (N := 60) (by omega) (by decide)) dX11_gift_29 (fun w17 ew18 H locs hP hD hS => ?_)
  have k19 := wd_at.pt ew18 k11 (tg_ne ty tm59 (by decide))
  have k20 := wd_at.pt ew18 k12 (tg_ne tm56 tm59 (by decide))
  have k21 := wd_at.pt ew18 k13 (tg_ne tm57 tm59 (by decide))
  have k22 := wd_at.pt ew18 k14 (tg_ne tm58 tm59 (by decide))
  have k23 : wd_at w17 m59 (.inl (cy 3, 60, .inr (.inl (vp_updL f59 (nI gf).toNatClampNeg vv)))) := wd_at.ps ew18 k15
  have kp24 := kp16.put ew18 s94
  refine lv_aload_n hx hb dX11_gift_30 rfl (lv_at hl 0 rfl) ?_
  refine x_get (ref := "NoteHouseModel") F hP k19 rfl (fun _ h => List.mem_cons_of_mem _ (List.mem_append_right _ (h))) 58 (Nat.le_of_ble_eq_true rfl) (List.mem_cons_of_mem _ (List.mem_append_left _ (List.mem_of_getElem? (i := 4) rfl))) rfl rfl dX11_gift_31 ?_
  refine lv_aload_n hx hb dX11_gift_34 rfl (lv_at hl 0 rfl) ?_
  refine x_get (ref := "NoteHouseModel") F hP k19 rfl (fun _ h => List.mem_cons_of_mem _ (List.mem_append_right _ (h))) 55 (Nat.le_of_ble_eq_true rfl) (List.mem_cons_of_mem _ (List.mem_append_left _ (List.mem_of_getElem? (i := 1) rfl))) rfl rfl dX11_gift_35 ?_
  refine lv_iload hx hb dX11_gift_38 (lv_at hl 4 rfl) ?_
  refine y_iast F hP hD hS k22 (vp_in_nI (n := gf) (N := 60) (by omega) (by decide)) dX11_gift_40 (fun w25 ew26 H locs hP hD hS => ?_)
  have k27 := wd_at.pt ew26 k19 (tg_ne ty tm58 (by decide))
  have k28 := wd_at.pt ew26 k20 (tg_ne tm56 tm58 (by decide))
  have k29 := wd_at.pt ew26 k21 (tg_ne tm57 tm58 (by decide))
  have k30 : wd_at w25 m58 (.inl (cy 2, 60, .inl (upd f58 (nI gf).toNatClampNeg x4))) := wd_at.ps ew26 k22
  have k31 := wd_at.pt ew26 k23 (tg_ne tm59 tm58 (by decide))
  have kp32 := kp24.put ew26 s93
  refine lv_aload_n hx hb dX11_gift_41 rfl (lv_at hl 0 rfl) ?_
  refine lv_dup hx hb dX11_gift_42 rfl ?_
  refine x_get (ref := "NoteHouseModel") F hP k27 rfl (fun _ h => List.mem_cons_of_mem _ (List.mem_append_right _ (h))) 55 (Nat.le_of_ble_eq_true rfl) (List.mem_cons_of_mem _ (List.mem_append_left _ (List.mem_of_getElem? (i := 1) rfl))) rfl rfl dX11_gift_43 ?_
  refine lv_iconst (v := 1) hx hb dX11_gift_46 (by decide) ?_
  refine lv_iadd hx hb dX11_gift_47 ?_
  rw [show ((nI gf) + 1 : Int32) = nI (gf + 1) from nI_add gf 1]
  refine y_put (ref := "NoteHouseModel") F hP hD hS k27 rfl (fun _ h => List.mem_cons_of_mem _ (List.mem_append_right _ (h))) tyX11_ok nmX11 55 (Nat.le_of_ble_eq_true rfl) (List.mem_cons_of_mem _ (List.mem_append_left _ (List.mem_of_getElem? (i := 1) rfl))) rfl rfl rfl rfl (Nat.le_of_ble_eq_true rfl) dX11_gift_48 (fun w33 ew34 H locs hP hD hS => ?_)
  have k35 : wd_at w33 y (.inr (11, [.int v0, .int td, .ref m2, .ref m3, .ref m4, .ref m5, .ref m6, .int (nI pc), .ref m8, .ref m9, .ref m10, .ref m11, .ref m12, .ref m13, .ref m14, .int (nI ac), .int (nI sc), .ref m17, .ref m18, .ref m19, .ref m20, .ref m21, .ref m22, .ref m23, .ref m24, .int (nI ln), .int v26, .int v27, .int v28, .ref m29, .ref m30, .ref m31, .ref m32, .ref m33, .ref m34, .ref m35, .ref m36, .ref m37, .int (nI sh), .ref m39, .ref m40, .ref m41, .ref m42, .ref m43, .ref m44, .ref m45, .ref m46, .ref m47, .ref m48, .ref m49, .int v50, .ref m51, .ref m52, .ref m53, .ref m54, .int (nI (gf + 1)), .ref m56, .ref m57, .ref m58, .ref m59])) := wd_at.ps ew34 k27
  have k36 := wd_at.pt ew34 k28 (tg_ne tm56 ty (by decide))
  have k37 := wd_at.pt ew34 k29 (tg_ne tm57 ty (by decide))
  have k38 := wd_at.pt ew34 k30 (tg_ne tm58 ty (by decide))
  have k39 := wd_at.pt ew34 k31 (tg_ne tm59 ty (by decide))
  have kp40 := kp32.put ew34 s90
  exact y_vr K hP hD hS (Nat.le_of_ble_eq_true rfl) (Nat.le_of_ble_eq_true rfl) rfl dX11_gift_51 (⟨upd f56 (nI gf).toNatClampNeg x1, upd f57 (nI gf).toNatClampNeg x2, upd f58 (nI gf).toNatClampNeg x4, vp_updL f59 (nI gf).toNatClampNeg vv, rfl, kp40, k35, k36, k37, k38, k39⟩)
