def sOK (f se : Nat → Int32) : Prop := ∀ t, t < 12 → f t = se t ∧ ∃ u, u ≤ 1000000000 ∧ se t = nI u
def lOK (pc : Nat) (f pl : Nat → Int32) : Prop := ∀ p, p < pc → f p = pl p ∧ ∃ u, u ≤ 20 ∧ pl p = nI u
theorem sOK.s {f se : Nat → Int32} {j : Nat} {x : Int32} (h : sOK f se) (hj : j < 12) (hx : ∃ u, u ≤ 1000000000 ∧ x = nI u) : sOK (upd f (nI j).toNatClampNeg x) (va_up se j x) := fun t ht => by
  rw [nI_clamp (by omega)]
  by_cases e : t = j
  · rw [e, pk_us, va_up_self]; exact ⟨rfl, hx⟩
  · rw [pk_un e, va_up_ne _ _ e]; exact h t ht
theorem lOK.a {pc : Nat} {f pl : Nat → Int32} {x : Int32} (h : lOK pc f pl) (hb : pc < 1000) (hx : ∃ u, u ≤ 20 ∧ x = nI u) : lOK (pc + 1) (upd f (nI pc).toNatClampNeg x) (va_up pl pc x) := fun t ht => by
  rw [nI_clamp (by omega)]
  by_cases e : t = pc
  · rw [e, pk_us, va_up_self]; exact ⟨rfl, hx⟩
  · rw [pk_un e, va_up_ne _ _ e]; exact h t (by omega)
theorem wi20 {n : Int32} (h : ¬ wi n 1 20 = 0) : ∃ u, u ≤ 20 ∧ n = nI u := by
  obtain ⟨h1, h2⟩ := wi_n h
  have h0 : ¬ n < 0 := fun q => h1 (Int32.lt_trans q (by decide))
  obtain ⟨j, hj, rfl⟩ := nI_of2 (M := 20) (n := 20) (by decide) h0 h2
  exact ⟨j, hj, rfl⟩
theorem wiM {n : Int32} (h : ¬ wi n 1 1000000 = 0) : ∃ u, 1 ≤ u ∧ u ≤ 1000000 ∧ n = nI u := by
  obtain ⟨h1, h2⟩ := wi_n h
  have h0 : ¬ n < 0 := fun q => h1 (Int32.lt_trans q (by decide))
  obtain ⟨j, hj, rfl⟩ := nI_of2 (M := 1000000) (n := 1000000) (by decide) h0 h2
  exact ⟨j, Nat.le_of_not_lt (fun q => h1 (nI_lt (b := 1) q (by decide))), hj, rfl⟩
theorem snd_iff {s c : Int32} {u : Nat} (e : s = nI u) (hu : u ≤ 1000000000) (hc : ¬ wi c 1 1000000 = 0) : s + c ≤ 1000000000 ↔ s ≤ 1000000000 - c := by
  obtain ⟨k, hk1, hk2, rfl⟩ := wiM hc
  rw [e, nI_add, show (1000000000 : Int32) = nI 1000000000 from rfl, pk_sub (a := 1000000000) (b := k) (by omega), nI_leI (by omega) (by omega), nI_leI (by omega) (by omega)]
  omega
theorem snd_b {s c : Int32} {u : Nat} (e : s = nI u) (hu : u ≤ 1000000000) (hc : ¬ wi c 1 1000000 = 0) (h : s + c ≤ 1000000000) : ∃ u, u ≤ 1000000000 ∧ s + c = nI u := by
  obtain ⟨k, hk1, hk2, rfl⟩ := wiM hc
  rw [e, nI_add, show (1000000000 : Int32) = nI 1000000000 from rfl, nI_leI (by omega) (by omega)] at h
  exact ⟨u + k, h, by rw [e, nI_add]⟩
theorem lf_wi {x lv : Int32} {u : Nat} (e : lv = nI u) (hu : u ≤ 20) : lf x lv = wi x 0 (lv - 1) := by
  unfold lf wi
  by_cases h0 : x < 0
  · rw [if_pos h0, if_pos h0]
  · rw [if_neg h0, if_neg h0]
    obtain ⟨j, hj, rfl⟩ := nI_of h0
    have e1 := pk_sub_toInt (a := u) (b := 1) (by omega) (by omega)
    by_cases h1 : lv ≤ nI j
    · have h2 : ¬ nI j ≤ lv - 1 := fun q => by
        rw [e, show (1 : Int32) = nI 1 from rfl, Int32.le_iff_toInt_le, e1, nI_toInt hj] at q
        rw [e, nI_leI (by omega) hj] at h1
        omega
      rw [if_pos h1, if_neg h2]
    · have h2 : nI j ≤ lv - 1 := by
        rw [e, show (1 : Int32) = nI 1 from rfl, Int32.le_iff_toInt_le, e1, nI_toInt hj]
        rw [e, nI_leI (by omega) hj] at h1
        omega
      rw [if_neg h1, if_pos h2]
theorem wi_o5 {n : Int32} (h : ¬ wi n 30 34 = 0) : ∃ j : Nat, j < 5 ∧ n = nI (j + 30) := by
  obtain ⟨h1, h2⟩ := wi_n h
  have h0 : ¬ n < 0 := fun q => h1 (Int32.lt_trans q (by decide))
  obtain ⟨j, hj, rfl⟩ := nI_of2 (M := 34) (n := 34) (by decide) h0 h2
  have h3 : 30 ≤ j := Nat.le_of_not_lt (fun q => h1 (nI_lt (b := 30) q (by decide)))
  exact ⟨j - 30, by omega, by rw [Nat.sub_add_cancel h3]⟩
theorem tgT {tg : Nat → Nat} {a t : Nat} (h : tg a = t) (ht : 10000 ≤ t) : (fun b => 10000 ≤ tg b) a := by show 10000 ≤ tg a; rw [h]; exact ht
/-- the reference at y: its cells, by tags -/
def IM (cy : Nat → ClassId) (tg : Nat → Nat) (y : Nat) (td : Int32) (pc ac sc ln : Nat) (se plv : Nat → Int32) (w : Wd) : Prop := ∀ P9 : Prop, (∀ (m2 : Nat) (m3 : Nat) (m4 : Nat) (m5 : Nat) (m6 : Nat) (m8 : Nat) (m9 : Nat) (m10 : Nat) (m11 : Nat) (m12 : Nat) (m13 : Nat) (m14 : Nat) (m17 : Nat) (m18 : Nat) (m19 : Nat) (m20 : Nat) (m21 : Nat) (m22 : Nat) (m23 : Nat) (m24 : Nat) (m29 : Nat) (m30 : Nat) (m31 : Nat) (m32 : Nat) (m33 : Nat) (m34 : Nat) (m35 : Nat) (m36 : Nat) (m37 : Nat) (m39 : Nat) (m40 : Nat) (m41 : Nat) (m42 : Nat) (m43 : Nat) (m44 : Nat) (m45 : Nat) (m46 : Nat) (m47 : Nat) (m48 : Nat) (m49 : Nat) (m51 : Nat) (m52 : Nat) (m53 : Nat) (m54 : Nat) (m56 : Nat) (m57 : Nat) (m58 : Nat) (m59 : Nat) (sh : Nat) (gf : Nat) (v0 : Int32) (v26 : Int32) (v27 : Int32) (v28 : Int32) (v50 : Int32) (f4 : Nat → Int32) (f5 : Nat → Int32) (f6 : Nat → Int32) (f8 : Nat → Int32) (f9 : Nat → Int32) (f10 : Nat → Int32) (f11 : Nat → Int32) (f12 : Nat → Int32) (f13 : Nat → Int32) (f14 : Nat → Int32) (f17 : Nat → Int32) (f18 : Nat → Int32) (f19 : Nat → Int32) (f20 : Nat → Int32) (f21 : Nat → Int32) (f22 : Nat → Int32) (f24 : Nat → Int32) (f29 : Nat → Int32) (f30 : Nat → Int32) (f31 : Nat → Int32) (f32 : Nat → Int32) (f33 : Nat → Int32) (f34 : Nat → Int32) (f35 : Nat → Int32) (f36 : Nat → Int32) (f37 : Nat → Int32) (f39 : Nat → Int32) (f40 : Nat → Int32) (f41 : Nat → Int32) (f42 : Nat → Int32) (f43 : Nat → Int32) (f44 : Nat → Int32) (f45 : Nat → Int32) (f46 : Nat → Int32) (f47 : Nat → Int32) (f48 : Nat → Int64) (f49 : Nat → Int32) (f51 : Nat → Int32) (f52 : Nat → Int64) (f53 : Nat → Int64) (f54 : Nat → Int64) (f56 : Nat → Int32) (f57 : Nat → Int32) (f58 : Nat → Int32) (f59 : Nat → Int64) (qp : Nat → Option Nat) (pr : Nat → Nat) (fp : Nat → Nat → Int32) (qw : Nat → Option Nat) (wr : Nat → Nat) (fw : Nat → Nat → Int32) (qs : Nat → Option Nat) (sr : Nat → Nat) (fs : Nat → Nat → Int32), (pc ≤ 30) → (ac ≤ 60) → (sc ≤ 60) → (sh ≤ 200) → (ln ≤ 300) → (gf ≤ 12) → (bOK 12 13 f29) → (cOK f31) → (bOK sh 12 f39) → (bOK sh 30 f40) → (sOK f49 se) → (lOK pc f8 plv) → (wd_at w y (.inr (11, [.int v0, .int td, .ref m2, .ref m3, .ref m4, .ref m5, .ref m6, .int (nI pc), .ref m8, .ref m9, .ref m10, .ref m11, .ref m12, .ref m13, .ref m14, .int (nI ac), .int (nI sc), .ref m17, .ref m18, .ref m19, .ref m20, .ref m21, .ref m22, .ref m23, .ref m24, .int (nI ln), .int v26, .int v27, .int v28, .ref m29, .ref m30, .ref m31, .ref m32, .ref m33, .ref m34, .ref m35, .ref m36, .ref m37, .int (nI sh), .ref m39, .ref m40, .ref m41, .ref m42, .ref m43, .ref m44, .ref m45, .ref m46, .ref m47, .ref m48, .ref m49, .int v50, .ref m51, .ref m52, .ref m53, .ref m54, .int (nI gf), .ref m56, .ref m57, .ref m58, .ref m59]))) → (tg y = 10000) → (wd_at w m2 (.inl (cy 10, 12, .inr (.inr (.inr (.inr qp)))))) → (tg m2 = 10102) → (wd_at w m3 (.inl (cy 10, 12, .inr (.inr (.inr (.inr qw)))))) → (tg m3 = 10103) → (wd_at w m4 (.inl (cy 2, 12, .inl f4))) → (tg m4 = 10104) → (wd_at w m5 (.inl (cy 2, 12, .inl f5))) → (tg m5 = 10105) → (wd_at w m6 (.inl (cy 2, 12, .inl f6))) → (tg m6 = 10106) → (wd_at w m8 (.inl (cy 2, 30, .inl f8))) → (tg m8 = 10108) → (wd_at w m9 (.inl (cy 2, 30, .inl f9))) → (tg m9 = 10109) → (wd_at w m10 (.inl (cy 2, 30, .inl f10))) → (tg m10 = 10110) → (wd_at w m11 (.inl (cy 2, 30, .inl f11))) → (tg m11 = 10111) → (wd_at w m12 (.inl (cy 2, 30, .inl f12))) → (tg m12 = 10112) → (wd_at w m13 (.inl (cy 2, 30, .inl f13))) → (tg m13 = 10113) → (wd_at w m14 (.inl (cy 2, 30, .inl f14))) → (tg m14 = 10114) → (wd_at w m17 (.inl (cy 2, 60, .inl f17))) → (tg m17 = 10117) → (wd_at w m18 (.inl (cy 2, 60, .inl f18))) → (tg m18 = 10118) → (wd_at w m19 (.inl (cy 2, 60, .inl f19))) → (tg m19 = 10119) → (wd_at w m20 (.inl (cy 4, 60, .inl f20))) → (tg m20 = 10120) → (wd_at w m21 (.inl (cy 2, 60, .inl f21))) → (tg m21 = 10121) → (wd_at w m22 (.inl (cy 2, 60, .inl f22))) → (tg m22 = 10122) → (wd_at w m23 (.inl (cy 10, 60, .inr (.inr (.inr (.inr qs)))))) → (tg m23 = 10123) → (wd_at w m24 (.inl (cy 0, 300, .inl f24))) → (tg m24 = 10124) → (wd_at w m29 (.inl (cy 2, 12, .inl f29))) → (tg m29 = 10129) → (wd_at w m30 (.inl (cy 2, 156, .inl f30))) → (tg m30 = 10130) → (wd_at w m31 (.inl (cy 2, 156, .inl f31))) → (tg m31 = 10131) → (wd_at w m32 (.inl (cy 2, 936, .inl f32))) → (tg m32 = 10132) → (wd_at w m33 (.inl (cy 2, 936, .inl f33))) → (tg m33 = 10133) → (wd_at w m34 (.inl (cy 2, 936, .inl f34))) → (tg m34 = 10134) → (wd_at w m35 (.inl (cy 2, 5, .inl f35))) → (tg m35 = 10135) → (wd_at w m36 (.inl (cy 4, 5, .inl f36))) → (tg m36 = 10136) → (wd_at w m37 (.inl (cy 2, 5, .inl f37))) → (tg m37 = 10137) → (wd_at w m39 (.inl (cy 2, 200, .inl f39))) → (tg m39 = 10139) → (wd_at w m40 (.inl (cy 2, 200, .inl f40))) → (tg m40 = 10140) → (wd_at w m41 (.inl (cy 2, 200, .inl f41))) → (tg m41 = 10141) → (wd_at w m42 (.inl (cy 2, 200, .inl f42))) → (tg m42 = 10142) → (wd_at w m43 (.inl (cy 2, 200, .inl f43))) → (tg m43 = 10143) → (wd_at w m44 (.inl (cy 2, 200, .inl f44))) → (tg m44 = 10144) → (wd_at w m45 (.inl (cy 2, 200, .inl f45))) → (tg m45 = 10145) → (wd_at w m46 (.inl (cy 2, 200, .inl f46))) → (tg m46 = 10146) → (wd_at w m47 (.inl (cy 2, 200, .inl f47))) → (tg m47 = 10147) → (wd_at w m48 (.inl (cy 3, 200, .inr (.inl f48)))) → (tg m48 = 10148) → (wd_at w m49 (.inl (cy 2, 12, .inl f49))) → (tg m49 = 10149) → (wd_at w m51 (.inl (cy 2, 200, .inl f51))) → (tg m51 = 10151) → (wd_at w m52 (.inl (cy 3, 200, .inr (.inl f52)))) → (tg m52 = 10152) → (wd_at w m53 (.inl (cy 3, 12, .inr (.inl f53)))) → (tg m53 = 10153) → (wd_at w m54 (.inl (cy 3, 12, .inr (.inl f54)))) → (tg m54 = 10154) → (wd_at w m56 (.inl (cy 2, 60, .inl f56))) → (tg m56 = 10156) → (wd_at w m57 (.inl (cy 2, 60, .inl f57))) → (tg m57 = 10157) → (wd_at w m58 (.inl (cy 2, 60, .inl f58))) → (tg m58 = 10158) → (wd_at w m59 (.inl (cy 3, 60, .inr (.inl f59)))) → (tg m59 = 10159) → (∀ k9, k9 < 12 → qp k9 = some (pr k9) ∧ wd_at w (pr k9) (.inl (cy 2, 12, .inl (fp k9))) ∧ tg (pr k9) = 11000 + k9) → (∀ k9, k9 < 12 → qw k9 = some (wr k9) ∧ wd_at w (wr k9) (.inl (cy 2, 12, .inl (fw k9))) ∧ tg (wr k9) = 12000 + k9) → (∀ k9, k9 < 60 → qs k9 = some (sr k9) ∧ wd_at w (sr k9) (.inl (cy 2, 12, .inl (fs k9))) ∧ tg (sr k9) = 13000 + k9) → P9) → P9
theorem IM.mk {cy : Nat → ClassId} {tg : Nat → Nat} {y : Nat} {td : Int32} {pc ac sc ln : Nat} {se plv : Nat → Int32} {w : Wd} (m2 : Nat) (m3 : Nat) (m4 : Nat) (m5 : Nat) (m6 : Nat) (m8 : Nat) (m9 : Nat) (m10 : Nat) (m11 : Nat) (m12 : Nat) (m13 : Nat) (m14 : Nat) (m17 : Nat) (m18 : Nat) (m19 : Nat) (m20 : Nat) (m21 : Nat) (m22 : Nat) (m23 : Nat) (m24 : Nat) (m29 : Nat) (m30 : Nat) (m31 : Nat) (m32 : Nat) (m33 : Nat) (m34 : Nat) (m35 : Nat) (m36 : Nat) (m37 : Nat) (m39 : Nat) (m40 : Nat) (m41 : Nat) (m42 : Nat) (m43 : Nat) (m44 : Nat) (m45 : Nat) (m46 : Nat) (m47 : Nat) (m48 : Nat) (m49 : Nat) (m51 : Nat) (m52 : Nat) (m53 : Nat) (m54 : Nat) (m56 : Nat) (m57 : Nat) (m58 : Nat) (m59 : Nat) (sh : Nat) (gf : Nat) (v0 : Int32) (v26 : Int32) (v27 : Int32) (v28 : Int32) (v50 : Int32) (f4 : Nat → Int32) (f5 : Nat → Int32) (f6 : Nat → Int32) (f8 : Nat → Int32) (f9 : Nat → Int32) (f10 : Nat → Int32) (f11 : Nat → Int32) (f12 : Nat → Int32) (f13 : Nat → Int32) (f14 : Nat → Int32) (f17 : Nat → Int32) (f18 : Nat → Int32) (f19 : Nat → Int32) (f20 : Nat → Int32) (f21 : Nat → Int32) (f22 : Nat → Int32) (f24 : Nat → Int32) (f29 : Nat → Int32) (f30 : Nat → Int32) (f31 : Nat → Int32) (f32 : Nat → Int32) (f33 : Nat → Int32) (f34 : Nat → Int32) (f35 : Nat → Int32) (f36 : Nat → Int32) (f37 : Nat → Int32) (f39 : Nat → Int32) (f40 : Nat → Int32) (f41 : Nat → Int32) (f42 : Nat → Int32) (f43 : Nat → Int32) (f44 : Nat → Int32) (f45 : Nat → Int32) (f46 : Nat → Int32) (f47 : Nat → Int32) (f48 : Nat → Int64) (f49 : Nat → Int32) (f51 : Nat → Int32) (f52 : Nat → Int64) (f53 : Nat → Int64) (f54 : Nat → Int64) (f56 : Nat → Int32) (f57 : Nat → Int32) (f58 : Nat → Int32) (f59 : Nat → Int64) (qp : Nat → Option Nat) (pr : Nat → Nat) (fp : Nat → Nat → Int32) (qw : Nat → Option Nat) (wr : Nat → Nat) (fw : Nat → Nat → Int32) (qs : Nat → Option Nat) (sr : Nat → Nat) (fs : Nat → Nat → Int32) (h0 : pc ≤ 30) (h1 : ac ≤ 60) (h2 : sc ≤ 60) (h3 : sh ≤ 200) (h4 : ln ≤ 300) (h5 : gf ≤ 12) (h6 : bOK 12 13 f29) (h7 : cOK f31) (h8 : bOK sh 12 f39) (h9 : bOK sh 30 f40) (h10 : sOK f49 se) (h11 : lOK pc f8 plv) (h12 : wd_at w y (.inr (11, [.int v0, .int td, .ref m2, .ref m3, .ref m4, .ref m5, .ref m6, .int (nI pc), .ref m8, .ref m9, .ref m10, .ref m11, .ref m12, .ref m13, .ref m14, .int (nI ac), .int (nI sc), .ref m17, .ref m18, .ref m19, .ref m20, .ref m21, .ref m22, .ref m23, .ref m24, .int (nI ln), .int v26, .int v27, .int v28, .ref m29, .ref m30, .ref m31, .ref m32, .ref m33, .ref m34, .ref m35, .ref m36, .ref m37, .int (nI sh), .ref m39, .ref m40, .ref m41, .ref m42, .ref m43, .ref m44, .ref m45, .ref m46, .ref m47, .ref m48, .ref m49, .int v50, .ref m51, .ref m52, .ref m53, .ref m54, .int (nI gf), .ref m56, .ref m57, .ref m58, .ref m59]))) (h13 : tg y = 10000) (h14 : wd_at w m2 (.inl (cy 10, 12, .inr (.inr (.inr (.inr qp)))))) (h15 : tg m2 = 10102) (h16 : wd_at w m3 (.inl (cy 10, 12, .inr (.inr (.inr (.inr qw)))))) (h17 : tg m3 = 10103) (h18 : wd_at w m4 (.inl (cy 2, 12, .inl f4))) (h19 : tg m4 = 10104) (h20 : wd_at w m5 (.inl (cy 2, 12, .inl f5))) (h21 : tg m5 = 10105) (h22 : wd_at w m6 (.inl (cy 2, 12, .inl f6))) (h23 : tg m6 = 10106) (h24 : wd_at w m8 (.inl (cy 2, 30, .inl f8))) (h25 : tg m8 = 10108) (h26 : wd_at w m9 (.inl (cy 2, 30, .inl f9))) (h27 : tg m9 = 10109) (h28 : wd_at w m10 (.inl (cy 2, 30, .inl f10))) (h29 : tg m10 = 10110) (h30 : wd_at w m11 (.inl (cy 2, 30, .inl f11))) (h31 : tg m11 = 10111) (h32 : wd_at w m12 (.inl (cy 2, 30, .inl f12))) (h33 : tg m12 = 10112) (h34 : wd_at w m13 (.inl (cy 2, 30, .inl f13))) (h35 : tg m13 = 10113) (h36 : wd_at w m14 (.inl (cy 2, 30, .inl f14))) (h37 : tg m14 = 10114) (h38 : wd_at w m17 (.inl (cy 2, 60, .inl f17))) (h39 : tg m17 = 10117) (h40 : wd_at w m18 (.inl (cy 2, 60, .inl f18))) (h41 : tg m18 = 10118) (h42 : wd_at w m19 (.inl (cy 2, 60, .inl f19))) (h43 : tg m19 = 10119) (h44 : wd_at w m20 (.inl (cy 4, 60, .inl f20))) (h45 : tg m20 = 10120) (h46 : wd_at w m21 (.inl (cy 2, 60, .inl f21))) (h47 : tg m21 = 10121) (h48 : wd_at w m22 (.inl (cy 2, 60, .inl f22))) (h49 : tg m22 = 10122) (h50 : wd_at w m23 (.inl (cy 10, 60, .inr (.inr (.inr (.inr qs)))))) (h51 : tg m23 = 10123) (h52 : wd_at w m24 (.inl (cy 0, 300, .inl f24))) (h53 : tg m24 = 10124) (h54 : wd_at w m29 (.inl (cy 2, 12, .inl f29))) (h55 : tg m29 = 10129) (h56 : wd_at w m30 (.inl (cy 2, 156, .inl f30))) (h57 : tg m30 = 10130) (h58 : wd_at w m31 (.inl (cy 2, 156, .inl f31))) (h59 : tg m31 = 10131) (h60 : wd_at w m32 (.inl (cy 2, 936, .inl f32))) (h61 : tg m32 = 10132) (h62 : wd_at w m33 (.inl (cy 2, 936, .inl f33))) (h63 : tg m33 = 10133) (h64 : wd_at w m34 (.inl (cy 2, 936, .inl f34))) (h65 : tg m34 = 10134) (h66 : wd_at w m35 (.inl (cy 2, 5, .inl f35))) (h67 : tg m35 = 10135) (h68 : wd_at w m36 (.inl (cy 4, 5, .inl f36))) (h69 : tg m36 = 10136) (h70 : wd_at w m37 (.inl (cy 2, 5, .inl f37))) (h71 : tg m37 = 10137) (h72 : wd_at w m39 (.inl (cy 2, 200, .inl f39))) (h73 : tg m39 = 10139) (h74 : wd_at w m40 (.inl (cy 2, 200, .inl f40))) (h75 : tg m40 = 10140) (h76 : wd_at w m41 (.inl (cy 2, 200, .inl f41))) (h77 : tg m41 = 10141) (h78 : wd_at w m42 (.inl (cy 2, 200, .inl f42))) (h79 : tg m42 = 10142) (h80 : wd_at w m43 (.inl (cy 2, 200, .inl f43))) (h81 : tg m43 = 10143) (h82 : wd_at w m44 (.inl (cy 2, 200, .inl f44))) (h83 : tg m44 = 10144) (h84 : wd_at w m45 (.inl (cy 2, 200, .inl f45))) (h85 : tg m45 = 10145) (h86 : wd_at w m46 (.inl (cy 2, 200, .inl f46))) (h87 : tg m46 = 10146) (h88 : wd_at w m47 (.inl (cy 2, 200, .inl f47))) (h89 : tg m47 = 10147) (h90 : wd_at w m48 (.inl (cy 3, 200, .inr (.inl f48)))) (h91 : tg m48 = 10148) (h92 : wd_at w m49 (.inl (cy 2, 12, .inl f49))) (h93 : tg m49 = 10149) (h94 : wd_at w m51 (.inl (cy 2, 200, .inl f51))) (h95 : tg m51 = 10151) (h96 : wd_at w m52 (.inl (cy 3, 200, .inr (.inl f52)))) (h97 : tg m52 = 10152) (h98 : wd_at w m53 (.inl (cy 3, 12, .inr (.inl f53)))) (h99 : tg m53 = 10153) (h100 : wd_at w m54 (.inl (cy 3, 12, .inr (.inl f54)))) (h101 : tg m54 = 10154) (h102 : wd_at w m56 (.inl (cy 2, 60, .inl f56))) (h103 : tg m56 = 10156) (h104 : wd_at w m57 (.inl (cy 2, 60, .inl f57))) (h105 : tg m57 = 10157) (h106 : wd_at w m58 (.inl (cy 2, 60, .inl f58))) (h107 : tg m58 = 10158) (h108 : wd_at w m59 (.inl (cy 3, 60, .inr (.inl f59)))) (h109 : tg m59 = 10159) (h110 : ∀ k9, k9 < 12 → qp k9 = some (pr k9) ∧ wd_at w (pr k9) (.inl (cy 2, 12, .inl (fp k9))) ∧ tg (pr k9) = 11000 + k9) (h111 : ∀ k9, k9 < 12 → qw k9 = some (wr k9) ∧ wd_at w (wr k9) (.inl (cy 2, 12, .inl (fw k9))) ∧ tg (wr k9) = 12000 + k9) (h112 : ∀ k9, k9 < 60 → qs k9 = some (sr k9) ∧ wd_at w (sr k9) (.inl (cy 2, 12, .inl (fs k9))) ∧ tg (sr k9) = 13000 + k9) : IM cy tg y td pc ac sc ln se plv w := fun _ k9 => k9 m2 m3 m4 m5 m6 m8 m9 m10 m11 m12 m13 m14 m17 m18 m19 m20 m21 m22 m23 m24 m29 m30 m31 m32 m33 m34 m35 m36 m37 m39 m40 m41 m42 m43 m44 m45 m46 m47 m48 m49 m51 m52 m53 m54 m56 m57 m58 m59 sh gf v0 v26 v27 v28 v50 f4 f5 f6 f8 f9 f10 f11 f12 f13 f14 f17 f18 f19 f20 f21 f22 f24 f29 f30 f31 f32 f33 f34 f35 f36 f37 f39 f40 f41 f42 f43 f44 f45 f46 f47 f48 f49 f51 f52 f53 f54 f56 f57 f58 f59 qp pr fp qw wr fw qs sr fs h0 h1 h2 h3 h4 h5 h6 h7 h8 h9 h10 h11 h12 h13 h14 h15 h16 h17 h18 h19 h20 h21 h22 h23 h24 h25 h26 h27 h28 h29 h30 h31 h32 h33 h34 h35 h36 h37 h38 h39 h40 h41 h42 h43 h44 h45 h46 h47 h48 h49 h50 h51 h52 h53 h54 h55 h56 h57 h58 h59 h60 h61 h62 h63 h64 h65 h66 h67 h68 h69 h70 h71 h72 h73 h74 h75 h76 h77 h78 h79 h80 h81 h82 h83 h84 h85 h86 h87 h88 h89 h90 h91 h92 h93 h94 h95 h96 h97 h98 h99 h100 h101 h102 h103 h104 h105 h106 h107 h108 h109 h110 h111 h112
def MP (cy : Nat → ClassId) (tg : Nat → Nat) (y : Nat) (td : Int32) (pc ac sc ln : Nat) (se plv : Nat → Int32) (w w1 : Wd) : Prop := wd_kp (fun b => 10000 ≤ tg b) w w1 ∧ IM cy tg y td pc ac sc ln se plv w1
set_option maxHeartbeats 4000000 in
set_option maxRecDepth 100000 in
theorem M_clock (l : Launch) (D : va_G) (cy : Nat → ClassId) (sk sv : Nat → Nat) (w : Wd) (tg : Nat → Nat) (y : Nat) (td : Int32) (pc ac sc ln : Nat) (se plv : Nat → Int32) (x1 : Int32) (hIM0 : IM cy tg y td pc ac sc ln se plv w) : Ct l D cy sk sv yX11_clock wsX11_clock ({ frames := 1, cells := 0, slots := 0, locals := 22 }) [.ref y, .int x1] w (fun v w1 => v = some (.int (ckA td x1)) ∧ MP cy tg y (ckT td x1) pc ac sc ln se plv w w1) := by
  refine Ct.by (cc := cX11_clock) (maxL := 2) (ret := (some .boolean)) (by decide +kernel) rfl (Nat.le_of_ble_eq_true rfl) ?_
  intro p e s m args below meth c A Q F hnm K ls hl
  have F : wd_Fx p s m args meth c cX11_clock 2 wsX11_clock RX11 D cy sk sv A := F
  have hl : lv_has ls 2 [(0, .ref y), (1, .int x1)] := hl
  have hx := F.1.1
  have hb := F.1.2.1
  have hown := F.1.2.2.2.1
  have hts := F.1.2.2.2.2
  intro H locs hP hD hS
  have kp0 : wd_kp (fun b => 10000 ≤ tg b) w w := wd_kp.rf
  refine hIM0 _ ?_
  intro m2 m3 m4 m5 m6 m8 m9 m10 m11 m12 m13 m14 m17 m18 m19 m20 m21 m22 m23 m24 m29 m30 m31 m32 m33 m34 m35 m36 m37 m39 m40 m41 m42 m43 m44 m45 m46 m47 m48 m49 m51 m52 m53 m54 m56 m57 m58 m59 sh gf v0 v26 v27 v28 v50 f4 f5 f6 f8 f9 f10 f11 f12 f13 f14 f17 f18 f19 f20 f21 f22 f24 f29 f30 f31 f32 f33 f34 f35 f36 f37 f39 f40 f41 f42 f43 f44 f45 f46 f47 f48 f49 f51 f52 f53 f54 f56 f57 f58 f59 qp pr fp qw wr fw qs sr fs hp90 hp91 hp92 hp93 hp94 hp95 hrl hc ht hp hso hlo kI0 tI0 kI1 tI1 kI2 tI2 kI3 tI3 kI4 tI4 kI5 tI5 kI6 tI6 kI7 tI7 kI8 tI8 kI9 tI9 kI10 tI10 kI11 tI11 kI12 tI12 kI13 tI13 kI14 tI14 kI15 tI15 kI16 tI16 kI17 tI17 kI18 tI18 kI19 tI19 kI20 tI20 kI21 tI21 kI22 tI22 kI23 tI23 kI24 tI24 kI25 tI25 kI26 tI26 kI27 tI27 kI28 tI28 kI29 tI29 kI30 tI30 kI31 tI31 kI32 tI32 kI33 tI33 kI34 tI34 kI35 tI35 kI36 tI36 kI37 tI37 kI38 tI38 kI39 tI39 kI40 tI40 kI41 tI41 kI42 tI42 kI43 tI43 kI44 tI44 kI45 tI45 kI46 tI46 kI47 tI47 kI48 tI48 hFPR hFWR hFSR
  refine lv_iload_n hx hb dX11_clock_0 rfl (lv_at hl 1 rfl) ?_
  refine lv_aload_n hx hb dX11_clock_1 rfl (lv_at hl 0 rfl) ?_
  refine x_get (ref := "NoteHouseModel") F hP kI0 rfl (fun _ h => List.mem_cons_of_mem _ (List.mem_append_right _ (h))) 1 (Nat.le_of_ble_eq_true rfl) (List.mem_cons_of_mem _ (List.mem_append_left _ (List.mem_of_getElem? (i := 0) rfl))) rfl rfl dX11_clock_2 ?_
  refine lv_sipush (v := 3000) hx hb dX11_clock_5 (by decide) ?_
  refine x_callS (n := 3) (As := [.int x1, .int td, .int 3000]) (rest := []) F hP hD hS (g_in l D cy sk sv w x1 td 3000) gX11_clock_X11_in rfl (by decide +kernel) ⟨(Nat.le_of_ble_eq_true rfl), (Nat.le_of_ble_eq_true rfl)⟩ rfl hl.1 (Nat.le_of_ble_eq_true rfl) dX11_clock_8 rfl ⟨(Nat.le_of_ble_eq_true rfl), (Nat.le_of_ble_eq_true rfl)⟩ (fun v2 w3 hp1 H locs hP hD hS => ?_)
  obtain ⟨rfl, rfl⟩ := hp1
  refine W.eq (g2 := F0 m 11 ls [.int (wi x1 td 3000)]) rfl (W.widen (k := 0) (n := 0) (Nat.le_of_ble_eq_true rfl) (Nat.le_of_ble_eq_true rfl) ?_)
  refine lv_if_ne (tgt := 16) hx hb dX11_clock_11 (by decide) (fun c_4 => ?_) (fun c_4 => ?_)
  · refine lv_aload_n hx hb dX11_clock_16 rfl (lv_at hl 0 rfl) ?_
    refine lv_iload_n hx hb dX11_clock_17 rfl (lv_at hl 1 rfl) ?_
    refine y_put (ref := "NoteHouseModel") F hP hD hS kI0 rfl (fun _ h => List.mem_cons_of_mem _ (List.mem_append_right _ (h))) tyX11_ok nmX11 1 (Nat.le_of_ble_eq_true rfl) (List.mem_cons_of_mem _ (List.mem_append_left _ (List.mem_of_getElem? (i := 0) rfl))) rfl rfl rfl rfl (Nat.le_of_ble_eq_true rfl) dX11_clock_18 (fun w5 ew6 H locs hP hD hS => ?_)
    have k7 : wd_at w5 y (.inr (11, [.int v0, .int x1, .ref m2, .ref m3, .ref m4, .ref m5, .ref m6, .int (nI pc), .ref m8, .ref m9, .ref m10, .ref m11, .ref m12, .ref m13, .ref m14, .int (nI ac), .int (nI sc), .ref m17, .ref m18, .ref m19, .ref m20, .ref m21, .ref m22, .ref m23, .ref m24, .int (nI ln), .int v26, .int v27, .int v28, .ref m29, .ref m30, .ref m31, .ref m32, .ref m33, .ref m34, .ref m35, .ref m36, .ref m37, .int (nI sh), .ref m39, .ref m40, .ref m41, .ref m42, .ref m43, .ref m44, .ref m45, .ref m46, .ref m47, .ref m48, .ref m49, .int v50, .ref m51, .ref m52, .ref m53, .ref m54, .int (nI gf), .ref m56, .ref m57, .ref m58, .ref m59])) := wd_at.ps ew6 kI0
    have k8 := wd_at.pt ew6 kI1 (tg_ne tI1 tI0 (by decide))
    have k9 := wd_at.pt ew6 kI2 (tg_ne tI2 tI0 (by decide))
    have k10 := wd_at.pt ew6 kI3 (tg_ne tI3 tI0 (by decide))
    have k11 := wd_at.pt ew6 kI4 (tg_ne tI4 tI0 (by decide))
    have k12 := wd_at.pt ew6 kI5 (tg_ne tI5 tI0 (by decide))
    have k13 := wd_at.pt ew6 kI6 (tg_ne tI6 tI0 (by decide))
    have k14 := wd_at.pt ew6 kI7 (tg_ne tI7 tI0 (by decide))
    have k15 := wd_at.pt ew6 kI8 (tg_ne tI8 tI0 (by decide))
    have k16 := wd_at.pt ew6 kI9 (tg_ne tI9 tI0 (by decide))
    have k17 := wd_at.pt ew6 kI10 (tg_ne tI10 tI0 (by decide))
    have k18 := wd_at.pt ew6 kI11 (tg_ne tI11 tI0 (by decide))
    have k19 := wd_at.pt ew6 kI12 (tg_ne tI12 tI0 (by decide))
    have k20 := wd_at.pt ew6 kI13 (tg_ne tI13 tI0 (by decide))
    have k21 := wd_at.pt ew6 kI14 (tg_ne tI14 tI0 (by decide))
    have k22 := wd_at.pt ew6 kI15 (tg_ne tI15 tI0 (by decide))
    have k23 := wd_at.pt ew6 kI16 (tg_ne tI16 tI0 (by decide))
    have k24 := wd_at.pt ew6 kI17 (tg_ne tI17 tI0 (by decide))
    have k25 := wd_at.pt ew6 kI18 (tg_ne tI18 tI0 (by decide))
    have k26 := wd_at.pt ew6 kI19 (tg_ne tI19 tI0 (by decide))
    have k27 := wd_at.pt ew6 kI20 (tg_ne tI20 tI0 (by decide))
    have k28 := wd_at.pt ew6 kI21 (tg_ne tI21 tI0 (by decide))
    have k29 := wd_at.pt ew6 kI22 (tg_ne tI22 tI0 (by decide))
    have k30 := wd_at.pt ew6 kI23 (tg_ne tI23 tI0 (by decide))
    have k31 := wd_at.pt ew6 kI24 (tg_ne tI24 tI0 (by decide))
    have k32 := wd_at.pt ew6 kI25 (tg_ne tI25 tI0 (by decide))
    have k33 := wd_at.pt ew6 kI26 (tg_ne tI26 tI0 (by decide))
    have k34 := wd_at.pt ew6 kI27 (tg_ne tI27 tI0 (by decide))
    have k35 := wd_at.pt ew6 kI28 (tg_ne tI28 tI0 (by decide))
    have k36 := wd_at.pt ew6 kI29 (tg_ne tI29 tI0 (by decide))
    have k37 := wd_at.pt ew6 kI30 (tg_ne tI30 tI0 (by decide))
    have k38 := wd_at.pt ew6 kI31 (tg_ne tI31 tI0 (by decide))
    have k39 := wd_at.pt ew6 kI32 (tg_ne tI32 tI0 (by decide))
    have k40 := wd_at.pt ew6 kI33 (tg_ne tI33 tI0 (by decide))
    have k41 := wd_at.pt ew6 kI34 (tg_ne tI34 tI0 (by decide))
    have k42 := wd_at.pt ew6 kI35 (tg_ne tI35 tI0 (by decide))
    have k43 := wd_at.pt ew6 kI36 (tg_ne tI36 tI0 (by decide))
    have k44 := wd_at.pt ew6 kI37 (tg_ne tI37 tI0 (by decide))
    have k45 := wd_at.pt ew6 kI38 (tg_ne tI38 tI0 (by decide))
    have k46 := wd_at.pt ew6 kI39 (tg_ne tI39 tI0 (by decide))
    have k47 := wd_at.pt ew6 kI40 (tg_ne tI40 tI0 (by decide))
    have k48 := wd_at.pt ew6 kI41 (tg_ne tI41 tI0 (by decide))
    have k49 := wd_at.pt ew6 kI42 (tg_ne tI42 tI0 (by decide))
    have k50 := wd_at.pt ew6 kI43 (tg_ne tI43 tI0 (by decide))
    have k51 := wd_at.pt ew6 kI44 (tg_ne tI44 tI0 (by decide))
    have k52 := wd_at.pt ew6 kI45 (tg_ne tI45 tI0 (by decide))
    have k53 := wd_at.pt ew6 kI46 (tg_ne tI46 tI0 (by decide))
    have k54 := wd_at.pt ew6 kI47 (tg_ne tI47 tI0 (by decide))
    have k55 := wd_at.pt ew6 kI48 (tg_ne tI48 tI0 (by decide))
    have fm56 : ∀ k9, k9 < 12 → qp k9 = some (pr k9) ∧ wd_at w5 (pr k9) (.inl (cy 2, 12, .inl (fp k9))) ∧ tg (pr k9) = 11000 + k9 := fun k9 hi9 => ⟨(hFPR k9 hi9).1, wd_at.pt ew6 (hFPR k9 hi9).2.1 (tg_ne (hFPR k9 hi9).2.2 tI0 (tnA (show 10000 < 11000 by decide))), (hFPR k9 hi9).2.2⟩
    have fm57 : ∀ k9, k9 < 12 → qw k9 = some (wr k9) ∧ wd_at w5 (wr k9) (.inl (cy 2, 12, .inl (fw k9))) ∧ tg (wr k9) = 12000 + k9 := fun k9 hi9 => ⟨(hFWR k9 hi9).1, wd_at.pt ew6 (hFWR k9 hi9).2.1 (tg_ne (hFWR k9 hi9).2.2 tI0 (tnA (show 10000 < 12000 by decide))), (hFWR k9 hi9).2.2⟩
    have fm58 : ∀ k9, k9 < 60 → qs k9 = some (sr k9) ∧ wd_at w5 (sr k9) (.inl (cy 2, 12, .inl (fs k9))) ∧ tg (sr k9) = 13000 + k9 := fun k9 hi9 => ⟨(hFSR k9 hi9).1, wd_at.pt ew6 (hFSR k9 hi9).2.1 (tg_ne (hFSR k9 hi9).2.2 tI0 (tnA (show 10000 < 13000 by decide))), (hFSR k9 hi9).2.2⟩
    have kp59 := kp0.put ew6 (tgT tI0 (by decide))
    refine lv_iconst (v := 1) hx hb dX11_clock_21 (by decide) ?_
    have hX60 : IM cy tg y x1 pc ac sc ln se plv w5 := IM.mk m2 m3 m4 m5 m6 m8 m9 m10 m11 m12 m13 m14 m17 m18 m19 m20 m21 m22 m23 m24 m29 m30 m31 m32 m33 m34 m35 m36 m37 m39 m40 m41 m42 m43 m44 m45 m46 m47 m48 m49 m51 m52 m53 m54 m56 m57 m58 m59 sh gf v0 v26 v27 v28 v50 f4 f5 f6 f8 f9 f10 f11 f12 f13 f14 f17 f18 f19 f20 f21 f22 f24 f29 f30 f31 f32 f33 f34 f35 f36 f37 f39 f40 f41 f42 f43 f44 f45 f46 f47 f48 f49 f51 f52 f53 f54 f56 f57 f58 f59 qp pr fp qw wr fw qs sr fs (by omega) (by omega) (by omega) (by omega) (by omega) (by omega) hrl hc ht hp hso hlo k7 tI0 k8 tI1 k9 tI2 k10 tI3 k11 tI4 k12 tI5 k13 tI6 k14 tI7 k15 tI8 k16 tI9 k17 tI10 k18 tI11 k19 tI12 k20 tI13 k21 tI14 k22 tI15 k23 tI16 k24 tI17 k25 tI18 k26 tI19 k27 tI20 k28 tI21 k29 tI22 k30 tI23 k31 tI24 k32 tI25 k33 tI26 k34 tI27 k35 tI28 k36 tI29 k37 tI30 k38 tI31 k39 tI32 k40 tI33 k41 tI34 k42 tI35 k43 tI36 k44 tI37 k45 tI38 k46 tI39 k47 tI40 k48 tI41 k49 tI42 k50 tI43 k51 tI44 k52 tI45 k53 tI46 k54 tI47 k55 tI48 fm56 fm57 fm58
    exact y_ir K hP hD hS (Nat.le_of_ble_eq_true rfl) (Nat.le_of_ble_eq_true rfl) (ty := .boolean) rfl rfl dX11_clock_22 (by refine ⟨(congrArg (fun z => some (Value.int z)) (show 1 = ckA td x1 from by unfold ckA; exact (wi_1 c_4).symm)), ?_⟩; rw [show ckT td x1 = x1 from by simp [ckA, ckT, c_4]]; exact ⟨kp59, hX60⟩)
  · refine lv_iconst (v := 0) hx hb dX11_clock_14 (by decide) ?_
    exact y_ir K hP hD hS (Nat.le_of_ble_eq_true rfl) (Nat.le_of_ble_eq_true rfl) (ty := .boolean) rfl rfl dX11_clock_15 (by refine ⟨(congrArg (fun z => some (Value.int z)) (show 0 = ckA td x1 from by simp [ckA, ckT, c_4])), ?_⟩; rw [show ckT td x1 = td from by simp [ckA, ckT, c_4]]; exact ⟨wd_kp.rf, hIM0⟩)
set_option maxHeartbeats 4000000 in
set_option maxRecDepth 100000 in
theorem M_way (l : Launch) (D : va_G) (cy : Nat → ClassId) (sk sv : Nat → Nat) (w : Wd) (tg : Nat → Nat) (y : Nat) (td : Int32) (pc ac sc ln : Nat) (se plv : Nat → Int32) (x1 x2 x3 x4 : Int32) (hIM0 : IM cy tg y td pc ac sc ln se plv w) : Ct l D cy sk sv yX11_way wsX11_way ({ frames := 1, cells := 0, slots := 0, locals := 22 }) [.ref y, .int x1, .int x2, .int x3, .int x4] w (fun v w1 => v = some (.int (wayA x1 x2 x4)) ∧ MP cy tg y td pc ac sc ln se plv w w1) := by
  refine Ct.by (cc := cX11_way) (maxL := 6) (ret := (some .boolean)) (by decide +kernel) rfl (Nat.le_of_ble_eq_true rfl) ?_
  intro p e s m args below meth c A Q F hnm K ls hl
  have F : wd_Fx p s m args meth c cX11_way 6 wsX11_way RX11 D cy sk sv A := F
  have hl : lv_has ls 6 [(0, .ref y), (1, .int x1), (2, .int x2), (3, .int x3), (4, .int x4)] := hl
  have hx := F.1.1
  have hb := F.1.2.1
  have hown := F.1.2.2.2.1
  have hts := F.1.2.2.2.2
  intro H locs hP hD hS
  have kp0 : wd_kp (fun b => 10000 ≤ tg b) w w := wd_kp.rf
  refine hIM0 _ ?_
  intro m2 m3 m4 m5 m6 m8 m9 m10 m11 m12 m13 m14 m17 m18 m19 m20 m21 m22 m23 m24 m29 m30 m31 m32 m33 m34 m35 m36 m37 m39 m40 m41 m42 m43 m44 m45 m46 m47 m48 m49 m51 m52 m53 m54 m56 m57 m58 m59 sh gf v0 v26 v27 v28 v50 f4 f5 f6 f8 f9 f10 f11 f12 f13 f14 f17 f18 f19 f20 f21 f22 f24 f29 f30 f31 f32 f33 f34 f35 f36 f37 f39 f40 f41 f42 f43 f44 f45 f46 f47 f48 f49 f51 f52 f53 f54 f56 f57 f58 f59 qp pr fp qw wr fw qs sr fs hp90 hp91 hp92 hp93 hp94 hp95 hrl hc ht hp hso hlo kI0 tI0 kI1 tI1 kI2 tI2 kI3 tI3 kI4 tI4 kI5 tI5 kI6 tI6 kI7 tI7 kI8 tI8 kI9 tI9 kI10 tI10 kI11 tI11 kI12 tI12 kI13 tI13 kI14 tI14 kI15 tI15 kI16 tI16 kI17 tI17 kI18 tI18 kI19 tI19 kI20 tI20 kI21 tI21 kI22 tI22 kI23 tI23 kI24 tI24 kI25 tI25 kI26 tI26 kI27 tI27 kI28 tI28 kI29 tI29 kI30 tI30 kI31 tI31 kI32 tI32 kI33 tI33 kI34 tI34 kI35 tI35 kI36 tI36 kI37 tI37 kI38 tI38 kI39 tI39 kI40 tI40 kI41 tI41 kI42 tI42 kI43 tI43 kI44 tI44 kI45 tI45 kI46 tI46 kI47 tI47 kI48 tI48 hFPR hFWR hFSR
  refine lv_iload_n hx hb dX11_way_0 rfl (lv_at hl 1 rfl) ?_
  refine x_callS (n := 1) (As := [.int x1]) (rest := []) F hP hD hS (g_mTown l D cy sk sv w x1) gX11_way_X11_isTown rfl (by decide +kernel) ⟨(Nat.le_of_ble_eq_true rfl), (Nat.le_of_ble_eq_true rfl)⟩ rfl hl.1 (Nat.le_of_ble_eq_true rfl) dX11_way_1 rfl ⟨(Nat.le_of_ble_eq_true rfl), (Nat.le_of_ble_eq_true rfl)⟩ (fun v2 w3 hp1 H locs hP hD hS => ?_)
  obtain ⟨rfl, rfl⟩ := hp1
  refine W.eq (g2 := F0 m 4 ls [.int (wi x1 0 11)]) rfl (W.widen (k := 0) (n := 0) (Nat.le_of_ble_eq_true rfl) (Nat.le_of_ble_eq_true rfl) ?_)
  refine lv_if_eq (tgt := 30) hx hb dX11_way_4 (by decide) (fun c_4 => ?_) (fun c_4 => ?_)
  · refine lv_iconst (v := 0) hx hb dX11_way_30 (by decide) ?_
    exact y_ir K hP hD hS (Nat.le_of_ble_eq_true rfl) (Nat.le_of_ble_eq_true rfl) (ty := .boolean) rfl rfl dX11_way_31 (⟨(congrArg (fun z => some (Value.int z)) (show 0 = wayA x1 x2 x4 from by simp [wayA, c_4])), ⟨wd_kp.rf, hIM0⟩⟩)
  · obtain ⟨i, hi, rfl, cli⟩ := wi_t c_4
    refine lv_iload_n hx hb dX11_way_7 rfl (lv_at hl 2 rfl) ?_
    refine x_callS (n := 1) (As := [.int x2]) (rest := []) F hP hD hS (g_mTown l D cy sk sv w x2) gX11_way_X11_isTown rfl (by decide +kernel) ⟨(Nat.le_of_ble_eq_true rfl), (Nat.le_of_ble_eq_true rfl)⟩ rfl hl.1 (Nat.le_of_ble_eq_true rfl) dX11_way_8 rfl ⟨(Nat.le_of_ble_eq_true rfl), (Nat.le_of_ble_eq_true rfl)⟩ (fun v6 w7 hp5 H locs hP hD hS => ?_)
    obtain ⟨rfl, rfl⟩ := hp5
    refine W.eq (g2 := F0 m 11 ls [.int (wi x2 0 11)]) rfl (W.widen (k := 0) (n := 0) (Nat.le_of_ble_eq_true rfl) (Nat.le_of_ble_eq_true rfl) ?_)
    refine lv_if_eq (tgt := 30) hx hb dX11_way_11 (by decide) (fun c_8 => ?_) (fun c_8 => ?_)
    · refine lv_iconst (v := 0) hx hb dX11_way_30 (by decide) ?_
      exact y_ir K hP hD hS (Nat.le_of_ble_eq_true rfl) (Nat.le_of_ble_eq_true rfl) (ty := .boolean) rfl rfl dX11_way_31 (⟨(congrArg (fun z => some (Value.int z)) (show 0 = wayA (nI i) x2 x4 from by simp [wayA, c_4, cli, c_8])), ⟨wd_kp.rf, hIM0⟩⟩)
    · obtain ⟨j, hj, rfl, clj⟩ := wi_t c_8
      refine lv_iload_n hx hb dX11_way_14 rfl (lv_at hl 1 rfl) ?_
      refine lv_iload_n hx hb dX11_way_15 rfl (lv_at hl 2 rfl) ?_
      refine lv_icmp_eq (tgt := 30) hx hb dX11_way_16 (by decide) (fun c_9 => ?_) (fun c_9 => ?_)
      · refine lv_iconst (v := 0) hx hb dX11_way_30 (by decide) ?_
        exact y_ir K hP hD hS (Nat.le_of_ble_eq_true rfl) (Nat.le_of_ble_eq_true rfl) (ty := .boolean) rfl rfl dX11_way_31 (⟨(congrArg (fun z => some (Value.int z)) (show 0 = wayA (nI i) (nI j) x4 from by simp [wayA, c_4, cli, c_8, clj, c_9])), ⟨wd_kp.rf, hIM0⟩⟩)
      · have hij : i ≠ j := fun q => c_9 (by rw [q])
        refine lv_iload hx hb dX11_way_19 (lv_at hl 4 rfl) ?_
        refine lv_iconst (v := 0) hx hb dX11_way_21 (by decide) ?_
        refine lv_bipush (v := 99) hx hb dX11_way_22 (by decide) ?_
        refine x_callS (n := 3) (As := [.int x4, .int 0, .int 99]) (rest := []) F hP hD hS (g_in l D cy sk sv w x4 0 99) gX11_way_X11_in rfl (by decide +kernel) ⟨(Nat.le_of_ble_eq_true rfl), (Nat.le_of_ble_eq_true rfl)⟩ rfl hl.1 (Nat.le_of_ble_eq_true rfl) dX11_way_24 rfl ⟨(Nat.le_of_ble_eq_true rfl), (Nat.le_of_ble_eq_true rfl)⟩ (fun v11 w12 hp10 H locs hP hD hS => ?_)
        obtain ⟨rfl, rfl⟩ := hp10
        refine W.eq (g2 := F0 m 27 ls [.int (wi x4 0 99)]) rfl (W.widen (k := 0) (n := 0) (Nat.le_of_ble_eq_true rfl) (Nat.le_of_ble_eq_true rfl) ?_)
        refine lv_if_ne (tgt := 32) hx hb dX11_way_27 (by decide) (fun c_13 => ?_) (fun c_13 => ?_)
        · refine lv_iload_n hx hb dX11_way_32 rfl (lv_at hl 3 rfl) ?_
          refine lv_if_eq (tgt := 43) hx hb dX11_way_33 (by decide) (fun c_14 => ?_) (fun c_14 => ?_)
          · refine lv_aload_n hx hb dX11_way_43 rfl (lv_at hl 0 rfl) ?_
            refine x_get (ref := "NoteHouseModel") F hP kI0 rfl (fun _ h => List.mem_cons_of_mem _ (List.mem_append_right _ (h))) 2 (Nat.le_of_ble_eq_true rfl) (List.mem_cons_of_mem _ (List.mem_append_left _ (List.mem_of_getElem? (i := 1) rfl))) rfl rfl dX11_way_44 ?_
            refine lv_astore (lv' := [(5, .ref m2), (0, .ref y), (1, .int (nI i)), (2, .int (nI j)), (3, .int x3), (4, .int x4)]) hx hb dX11_way_47 hl (by decide) rfl (fun ls hl => ?_)
            refine lv_aload hx hb dX11_way_49 (lv_at hl 0 rfl) ?_
            refine lv_iload_n hx hb dX11_way_51 rfl (lv_at hl 2 rfl) ?_
            refine x_aaldA F hP kI1 (vp_in_nI (n := i) (N := 12) (by omega) (by decide)) dX11_way_52 ?_
            have pr15 := (hFPR i (by omega)).1
            have k16 := (hFPR i (by omega)).2.1
            have tz17 := (hFPR i (by omega)).2.2
            rw [nI_clamp (n := i) (by omega), pr15]
            refine W.eq (g2 := F0 m _ ls [.ref (pr i)]) rfl ?_
            refine lv_iload_n hx hb dX11_way_53 rfl (lv_at hl 3 rfl) ?_
            refine lv_iload hx hb dX11_way_54 (lv_at hl 5 rfl) ?_
            refine y_iast F hP hD hS k16 (vp_in_nI (n := j) (N := 12) (by omega) (by decide)) dX11_way_56 (fun w18 ew19 H locs hP hD hS => ?_)
            have fm20 : ∀ k9, k9 < 12 ∧ k9 ≠ i → qp k9 = some (pr k9) ∧ wd_at w (pr k9) (.inl (cy 2, 12, .inl (fp k9))) ∧ tg (pr k9) = 11000 + k9 := fun k9 hi8 => hFPR k9 hi8.1
            have k21 := wd_at.pt ew19 kI0 (tg_ne tI0 tz17 (tnA2 (show 10000 < 11000 by decide)))
            have k22 := wd_at.pt ew19 kI1 (tg_ne tI1 tz17 (tnA2 (show 10102 < 11000 by decide)))
            have k23 := wd_at.pt ew19 kI2 (tg_ne tI2 tz17 (tnA2 (show 10103 < 11000 by decide)))
            have k24 := wd_at.pt ew19 kI3 (tg_ne tI3 tz17 (tnA2 (show 10104 < 11000 by decide)))
            have k25 := wd_at.pt ew19 kI4 (tg_ne tI4 tz17 (tnA2 (show 10105 < 11000 by decide)))
            have k26 := wd_at.pt ew19 kI5 (tg_ne tI5 tz17 (tnA2 (show 10106 < 11000 by decide)))
            have k27 := wd_at.pt ew19 kI6 (tg_ne tI6 tz17 (tnA2 (show 10108 < 11000 by decide)))
            have k28 := wd_at.pt ew19 kI7 (tg_ne tI7 tz17 (tnA2 (show 10109 < 11000 by decide)))
            have k29 := wd_at.pt ew19 kI8 (tg_ne tI8 tz17 (tnA2 (show 10110 < 11000 by decide)))
            have k30 := wd_at.pt ew19 kI9 (tg_ne tI9 tz17 (tnA2 (show 10111 < 11000 by decide)))
            have k31 := wd_at.pt ew19 kI10 (tg_ne tI10 tz17 (tnA2 (show 10112 < 11000 by decide)))
            have k32 := wd_at.pt ew19 kI11 (tg_ne tI11 tz17 (tnA2 (show 10113 < 11000 by decide)))
            have k33 := wd_at.pt ew19 kI12 (tg_ne tI12 tz17 (tnA2 (show 10114 < 11000 by decide)))
            have k34 := wd_at.pt ew19 kI13 (tg_ne tI13 tz17 (tnA2 (show 10117 < 11000 by decide)))
            have k35 := wd_at.pt ew19 kI14 (tg_ne tI14 tz17 (tnA2 (show 10118 < 11000 by decide)))
            have k36 := wd_at.pt ew19 kI15 (tg_ne tI15 tz17 (tnA2 (show 10119 < 11000 by decide)))
            have k37 := wd_at.pt ew19 kI16 (tg_ne tI16 tz17 (tnA2 (show 10120 < 11000 by decide)))
            have k38 := wd_at.pt ew19 kI17 (tg_ne tI17 tz17 (tnA2 (show 10121 < 11000 by decide)))
            have k39 := wd_at.pt ew19 kI18 (tg_ne tI18 tz17 (tnA2 (show 10122 < 11000 by decide)))
            have k40 := wd_at.pt ew19 kI19 (tg_ne tI19 tz17 (tnA2 (show 10123 < 11000 by decide)))
            have k41 := wd_at.pt ew19 kI20 (tg_ne tI20 tz17 (tnA2 (show 10124 < 11000 by decide)))
            have k42 := wd_at.pt ew19 kI21 (tg_ne tI21 tz17 (tnA2 (show 10129 < 11000 by decide)))
            have k43 := wd_at.pt ew19 kI22 (tg_ne tI22 tz17 (tnA2 (show 10130 < 11000 by decide)))
            have k44 := wd_at.pt ew19 kI23 (tg_ne tI23 tz17 (tnA2 (show 10131 < 11000 by decide)))
            have k45 := wd_at.pt ew19 kI24 (tg_ne tI24 tz17 (tnA2 (show 10132 < 11000 by decide)))
            have k46 := wd_at.pt ew19 kI25 (tg_ne tI25 tz17 (tnA2 (show 10133 < 11000 by decide)))
            have k47 := wd_at.pt ew19 kI26 (tg_ne tI26 tz17 (tnA2 (show 10134 < 11000 by decide)))
            have k48 := wd_at.pt ew19 kI27 (tg_ne tI27 tz17 (tnA2 (show 10135 < 11000 by decide)))
            have k49 := wd_at.pt ew19 kI28 (tg_ne tI28 tz17 (tnA2 (show 10136 < 11000 by decide)))
            have k50 := wd_at.pt ew19 kI29 (tg_ne tI29 tz17 (tnA2 (show 10137 < 11000 by decide)))
            have k51 := wd_at.pt ew19 kI30 (tg_ne tI30 tz17 (tnA2 (show 10139 < 11000 by decide)))
            have k52 := wd_at.pt ew19 kI31 (tg_ne tI31 tz17 (tnA2 (show 10140 < 11000 by decide)))
            have k53 := wd_at.pt ew19 kI32 (tg_ne tI32 tz17 (tnA2 (show 10141 < 11000 by decide)))
            have k54 := wd_at.pt ew19 kI33 (tg_ne tI33 tz17 (tnA2 (show 10142 < 11000 by decide)))
            have k55 := wd_at.pt ew19 kI34 (tg_ne tI34 tz17 (tnA2 (show 10143 < 11000 by decide)))
            have k56 := wd_at.pt ew19 kI35 (tg_ne tI35 tz17 (tnA2 (show 10144 < 11000 by decide)))
            have k57 := wd_at.pt ew19 kI36 (tg_ne tI36 tz17 (tnA2 (show 10145 < 11000 by decide)))
            have k58 := wd_at.pt ew19 kI37 (tg_ne tI37 tz17 (tnA2 (show 10146 < 11000 by decide)))
            have k59 := wd_at.pt ew19 kI38 (tg_ne tI38 tz17 (tnA2 (show 10147 < 11000 by decide)))
            have k60 := wd_at.pt ew19 kI39 (tg_ne tI39 tz17 (tnA2 (show 10148 < 11000 by decide)))
            have k61 := wd_at.pt ew19 kI40 (tg_ne tI40 tz17 (tnA2 (show 10149 < 11000 by decide)))
            have k62 := wd_at.pt ew19 kI41 (tg_ne tI41 tz17 (tnA2 (show 10151 < 11000 by decide)))
            have k63 := wd_at.pt ew19 kI42 (tg_ne tI42 tz17 (tnA2 (show 10152 < 11000 by decide)))
            have k64 := wd_at.pt ew19 kI43 (tg_ne tI43 tz17 (tnA2 (show 10153 < 11000 by decide)))
            have k65 := wd_at.pt ew19 kI44 (tg_ne tI44 tz17 (tnA2 (show 10154 < 11000 by decide)))
            have k66 := wd_at.pt ew19 kI45 (tg_ne tI45 tz17 (tnA2 (show 10156 < 11000 by decide)))
            have k67 := wd_at.pt ew19 kI46 (tg_ne tI46 tz17 (tnA2 (show 10157 < 11000 by decide)))
            have k68 := wd_at.pt ew19 kI47 (tg_ne tI47 tz17 (tnA2 (show 10158 < 11000 by decide)))
            have k69 := wd_at.pt ew19 kI48 (tg_ne tI48 tz17 (tnA2 (show 10159 < 11000 by decide)))
            have k70 : wd_at w18 (pr i) (.inl (cy 2, 12, .inl (upd (fp i) (nI j).toNatClampNeg x4))) := wd_at.ps ew19 k16
            have fm71 : ∀ k9, k9 < 12 ∧ k9 ≠ i → qp k9 = some (pr k9) ∧ wd_at w18 (pr k9) (.inl (cy 2, 12, .inl (fp k9))) ∧ tg (pr k9) = 11000 + k9 := fun k9 hi9 => ⟨(fm20 k9 hi9).1, wd_at.pt ew19 (fm20 k9 hi9).2.1 (tg_ne (fm20 k9 hi9).2.2 tz17 (tnS hi9.2)), (fm20 k9 hi9).2.2⟩
            have fm72 : ∀ k9, k9 < 12 → qw k9 = some (wr k9) ∧ wd_at w18 (wr k9) (.inl (cy 2, 12, .inl (fw k9))) ∧ tg (wr k9) = 12000 + k9 := fun k9 hi9 => ⟨(hFWR k9 hi9).1, wd_at.pt ew19 (hFWR k9 hi9).2.1 (tg_ne (hFWR k9 hi9).2.2 tz17 (tnB2 (n := 12) hi (by decide))), (hFWR k9 hi9).2.2⟩
            have fm73 : ∀ k9, k9 < 60 → qs k9 = some (sr k9) ∧ wd_at w18 (sr k9) (.inl (cy 2, 12, .inl (fs k9))) ∧ tg (sr k9) = 13000 + k9 := fun k9 hi9 => ⟨(hFSR k9 hi9).1, wd_at.pt ew19 (hFSR k9 hi9).2.1 (tg_ne (hFSR k9 hi9).2.2 tz17 (tnB2 (n := 12) hi (by decide))), (hFSR k9 hi9).2.2⟩
            have kp74 := kp0.put ew19 (tgT tz17 (by omega))
            refine lv_aload hx hb dX11_way_57 (lv_at hl 0 rfl) ?_
            refine lv_iload_n hx hb dX11_way_59 rfl (lv_at hl 3 rfl) ?_
            refine x_aaldA F hP k22 (vp_in_nI (n := j) (N := 12) (by omega) (by decide)) dX11_way_60 ?_
            have pr75 := (fm71 j (by omega)).1
            have k76 := (fm71 j (by omega)).2.1
            have tz77 := (fm71 j (by omega)).2.2
            rw [nI_clamp (n := j) (by omega), pr75]
            refine W.eq (g2 := F0 m _ ls [.ref (pr j)]) rfl ?_
            refine lv_iload_n hx hb dX11_way_61 rfl (lv_at hl 2 rfl) ?_
            refine lv_iload hx hb dX11_way_62 (lv_at hl 5 rfl) ?_
            refine y_iast F hP hD hS k76 (vp_in_nI (n := i) (N := 12) (by omega) (by decide)) dX11_way_64 (fun w78 ew79 H locs hP hD hS => ?_)
            have fm80 : ∀ k9, k9 < 12 ∧ k9 ≠ i ∧ k9 ≠ j → qp k9 = some (pr k9) ∧ wd_at w18 (pr k9) (.inl (cy 2, 12, .inl (fp k9))) ∧ tg (pr k9) = 11000 + k9 := fun k9 hi8 => fm71 k9 ⟨hi8.1, hi8.2.1⟩
            have k81 := wd_at.pt ew79 k21 (tg_ne tI0 tz77 (tnA2 (show 10000 < 11000 by decide)))
            have k82 := wd_at.pt ew79 k22 (tg_ne tI1 tz77 (tnA2 (show 10102 < 11000 by decide)))
            have k83 := wd_at.pt ew79 k23 (tg_ne tI2 tz77 (tnA2 (show 10103 < 11000 by decide)))
            have k84 := wd_at.pt ew79 k24 (tg_ne tI3 tz77 (tnA2 (show 10104 < 11000 by decide)))
            have k85 := wd_at.pt ew79 k25 (tg_ne tI4 tz77 (tnA2 (show 10105 < 11000 by decide)))
            have k86 := wd_at.pt ew79 k26 (tg_ne tI5 tz77 (tnA2 (show 10106 < 11000 by decide)))
            have k87 := wd_at.pt ew79 k27 (tg_ne tI6 tz77 (tnA2 (show 10108 < 11000 by decide)))
            have k88 := wd_at.pt ew79 k28 (tg_ne tI7 tz77 (tnA2 (show 10109 < 11000 by decide)))
            have k89 := wd_at.pt ew79 k29 (tg_ne tI8 tz77 (tnA2 (show 10110 < 11000 by decide)))
            have k90 := wd_at.pt ew79 k30 (tg_ne tI9 tz77 (tnA2 (show 10111 < 11000 by decide)))
            have k91 := wd_at.pt ew79 k31 (tg_ne tI10 tz77 (tnA2 (show 10112 < 11000 by decide)))
            have k92 := wd_at.pt ew79 k32 (tg_ne tI11 tz77 (tnA2 (show 10113 < 11000 by decide)))
            have k93 := wd_at.pt ew79 k33 (tg_ne tI12 tz77 (tnA2 (show 10114 < 11000 by decide)))
            have k94 := wd_at.pt ew79 k34 (tg_ne tI13 tz77 (tnA2 (show 10117 < 11000 by decide)))
            have k95 := wd_at.pt ew79 k35 (tg_ne tI14 tz77 (tnA2 (show 10118 < 11000 by decide)))
            have k96 := wd_at.pt ew79 k36 (tg_ne tI15 tz77 (tnA2 (show 10119 < 11000 by decide)))
            have k97 := wd_at.pt ew79 k37 (tg_ne tI16 tz77 (tnA2 (show 10120 < 11000 by decide)))
            have k98 := wd_at.pt ew79 k38 (tg_ne tI17 tz77 (tnA2 (show 10121 < 11000 by decide)))
            have k99 := wd_at.pt ew79 k39 (tg_ne tI18 tz77 (tnA2 (show 10122 < 11000 by decide)))
            have k100 := wd_at.pt ew79 k40 (tg_ne tI19 tz77 (tnA2 (show 10123 < 11000 by decide)))
            have k101 := wd_at.pt ew79 k41 (tg_ne tI20 tz77 (tnA2 (show 10124 < 11000 by decide)))
            have k102 := wd_at.pt ew79 k42 (tg_ne tI21 tz77 (tnA2 (show 10129 < 11000 by decide)))
            have k103 := wd_at.pt ew79 k43 (tg_ne tI22 tz77 (tnA2 (show 10130 < 11000 by decide)))
            have k104 := wd_at.pt ew79 k44 (tg_ne tI23 tz77 (tnA2 (show 10131 < 11000 by decide)))
            have k105 := wd_at.pt ew79 k45 (tg_ne tI24 tz77 (tnA2 (show 10132 < 11000 by decide)))
            have k106 := wd_at.pt ew79 k46 (tg_ne tI25 tz77 (tnA2 (show 10133 < 11000 by decide)))
            have k107 := wd_at.pt ew79 k47 (tg_ne tI26 tz77 (tnA2 (show 10134 < 11000 by decide)))
            have k108 := wd_at.pt ew79 k48 (tg_ne tI27 tz77 (tnA2 (show 10135 < 11000 by decide)))
            have k109 := wd_at.pt ew79 k49 (tg_ne tI28 tz77 (tnA2 (show 10136 < 11000 by decide)))
            have k110 := wd_at.pt ew79 k50 (tg_ne tI29 tz77 (tnA2 (show 10137 < 11000 by decide)))
            have k111 := wd_at.pt ew79 k51 (tg_ne tI30 tz77 (tnA2 (show 10139 < 11000 by decide)))
            have k112 := wd_at.pt ew79 k52 (tg_ne tI31 tz77 (tnA2 (show 10140 < 11000 by decide)))
            have k113 := wd_at.pt ew79 k53 (tg_ne tI32 tz77 (tnA2 (show 10141 < 11000 by decide)))
            have k114 := wd_at.pt ew79 k54 (tg_ne tI33 tz77 (tnA2 (show 10142 < 11000 by decide)))
            have k115 := wd_at.pt ew79 k55 (tg_ne tI34 tz77 (tnA2 (show 10143 < 11000 by decide)))
            have k116 := wd_at.pt ew79 k56 (tg_ne tI35 tz77 (tnA2 (show 10144 < 11000 by decide)))
            have k117 := wd_at.pt ew79 k57 (tg_ne tI36 tz77 (tnA2 (show 10145 < 11000 by decide)))
            have k118 := wd_at.pt ew79 k58 (tg_ne tI37 tz77 (tnA2 (show 10146 < 11000 by decide)))
            have k119 := wd_at.pt ew79 k59 (tg_ne tI38 tz77 (tnA2 (show 10147 < 11000 by decide)))
            have k120 := wd_at.pt ew79 k60 (tg_ne tI39 tz77 (tnA2 (show 10148 < 11000 by decide)))
            have k121 := wd_at.pt ew79 k61 (tg_ne tI40 tz77 (tnA2 (show 10149 < 11000 by decide)))
            have k122 := wd_at.pt ew79 k62 (tg_ne tI41 tz77 (tnA2 (show 10151 < 11000 by decide)))
            have k123 := wd_at.pt ew79 k63 (tg_ne tI42 tz77 (tnA2 (show 10152 < 11000 by decide)))
            have k124 := wd_at.pt ew79 k64 (tg_ne tI43 tz77 (tnA2 (show 10153 < 11000 by decide)))
            have k125 := wd_at.pt ew79 k65 (tg_ne tI44 tz77 (tnA2 (show 10154 < 11000 by decide)))
            have k126 := wd_at.pt ew79 k66 (tg_ne tI45 tz77 (tnA2 (show 10156 < 11000 by decide)))
            have k127 := wd_at.pt ew79 k67 (tg_ne tI46 tz77 (tnA2 (show 10157 < 11000 by decide)))
            have k128 := wd_at.pt ew79 k68 (tg_ne tI47 tz77 (tnA2 (show 10158 < 11000 by decide)))
            have k129 := wd_at.pt ew79 k69 (tg_ne tI48 tz77 (tnA2 (show 10159 < 11000 by decide)))
            have k130 := wd_at.pt ew79 k70 (tg_ne tz17 tz77 (by omega))
            have k131 : wd_at w78 (pr j) (.inl (cy 2, 12, .inl (upd (fp j) (nI i).toNatClampNeg x4))) := wd_at.ps ew79 k76
            have fm132 : ∀ k9, k9 < 12 ∧ k9 ≠ i ∧ k9 ≠ j → qp k9 = some (pr k9) ∧ wd_at w78 (pr k9) (.inl (cy 2, 12, .inl (fp k9))) ∧ tg (pr k9) = 11000 + k9 := fun k9 hi9 => ⟨(fm80 k9 hi9).1, wd_at.pt ew79 (fm80 k9 hi9).2.1 (tg_ne (fm80 k9 hi9).2.2 tz77 (tnS hi9.2.2)), (fm80 k9 hi9).2.2⟩
            have fm133 : ∀ k9, k9 < 12 → qw k9 = some (wr k9) ∧ wd_at w78 (wr k9) (.inl (cy 2, 12, .inl (fw k9))) ∧ tg (wr k9) = 12000 + k9 := fun k9 hi9 => ⟨(fm72 k9 hi9).1, wd_at.pt ew79 (fm72 k9 hi9).2.1 (tg_ne (fm72 k9 hi9).2.2 tz77 (tnB2 (n := 12) hj (by decide))), (fm72 k9 hi9).2.2⟩
            have fm134 : ∀ k9, k9 < 60 → qs k9 = some (sr k9) ∧ wd_at w78 (sr k9) (.inl (cy 2, 12, .inl (fs k9))) ∧ tg (sr k9) = 13000 + k9 := fun k9 hi9 => ⟨(fm73 k9 hi9).1, wd_at.pt ew79 (fm73 k9 hi9).2.1 (tg_ne (fm73 k9 hi9).2.2 tz77 (tnB2 (n := 12) hj (by decide))), (fm73 k9 hi9).2.2⟩
            have kp135 := kp74.put ew79 (tgT tz77 (by omega))
            refine lv_iconst (v := 1) hx hb dX11_way_65 (by decide) ?_
            have fm136 : ∀ k9, k9 < 12 ∧ k9 ≠ j → qp k9 = some (pr k9) ∧ wd_at w78 (pr k9) (.inl (cy 2, 12, .inl ((va_up fp i (upd (fp i) (nI j).toNatClampNeg x4)) k9))) ∧ tg (pr k9) = 11000 + k9 := by
              intro k9 hi9
              by_cases e9 : k9 = i
              · rw [e9]
                exact ⟨pr15, (by simp only [va_up_self]; exact k130), tz17⟩
              · simp only [va_up_ne _ _ e9]
                exact fm132 k9 (by omega)
            have fm137 : ∀ k9, k9 < 12 → qp k9 = some (pr k9) ∧ wd_at w78 (pr k9) (.inl (cy 2, 12, .inl ((va_up (va_up fp i (upd (fp i) (nI j).toNatClampNeg x4)) j (upd (fp j) (nI i).toNatClampNeg x4)) k9))) ∧ tg (pr k9) = 11000 + k9 := by
              intro k9 hi9
              by_cases e9 : k9 = j
              · rw [e9]
                exact ⟨pr75, (by simp only [va_up_self]; exact k131), tz77⟩
              · simp only [va_up_ne _ _ e9]
                exact fm136 k9 (by omega)
            have hX138 : IM cy tg y td pc ac sc ln se plv w78 := IM.mk m2 m3 m4 m5 m6 m8 m9 m10 m11 m12 m13 m14 m17 m18 m19 m20 m21 m22 m23 m24 m29 m30 m31 m32 m33 m34 m35 m36 m37 m39 m40 m41 m42 m43 m44 m45 m46 m47 m48 m49 m51 m52 m53 m54 m56 m57 m58 m59 sh gf v0 v26 v27 v28 v50 f4 f5 f6 f8 f9 f10 f11 f12 f13 f14 f17 f18 f19 f20 f21 f22 f24 f29 f30 f31 f32 f33 f34 f35 f36 f37 f39 f40 f41 f42 f43 f44 f45 f46 f47 f48 f49 f51 f52 f53 f54 f56 f57 f58 f59 qp pr (va_up (va_up fp i (upd (fp i) (nI j).toNatClampNeg x4)) j (upd (fp j) (nI i).toNatClampNeg x4)) qw wr fw qs sr fs (by omega) (by omega) (by omega) (by omega) (by omega) (by omega) hrl hc ht hp hso hlo k81 tI0 k82 tI1 k83 tI2 k84 tI3 k85 tI4 k86 tI5 k87 tI6 k88 tI7 k89 tI8 k90 tI9 k91 tI10 k92 tI11 k93 tI12 k94 tI13 k95 tI14 k96 tI15 k97 tI16 k98 tI17 k99 tI18 k100 tI19 k101 tI20 k102 tI21 k103 tI22 k104 tI23 k105 tI24 k106 tI25 k107 tI26 k108 tI27 k109 tI28 k110 tI29 k111 tI30 k112 tI31 k113 tI32 k114 tI33 k115 tI34 k116 tI35 k117 tI36 k118 tI37 k119 tI38 k120 tI39 k121 tI40 k122 tI41 k123 tI42 k124 tI43 k125 tI44 k126 tI45 k127 tI46 k128 tI47 k129 tI48 fm137 fm133 fm134
            exact y_ir K hP hD hS (Nat.le_of_ble_eq_true rfl) (Nat.le_of_ble_eq_true rfl) (ty := .boolean) rfl rfl dX11_way_66 (⟨(congrArg (fun z => some (Value.int z)) (show 1 = wayA (nI i) (nI j) x4 from by simp [wayA, c_4, cli, c_8, clj, c_9, c_13, c_14])), ⟨kp135, hX138⟩⟩)
          · refine lv_aload_n hx hb dX11_way_36 rfl (lv_at hl 0 rfl) ?_
            refine x_get (ref := "NoteHouseModel") F hP kI0 rfl (fun _ h => List.mem_cons_of_mem _ (List.mem_append_right _ (h))) 3 (Nat.le_of_ble_eq_true rfl) (List.mem_cons_of_mem _ (List.mem_append_left _ (List.mem_of_getElem? (i := 0) rfl))) rfl rfl dX11_way_37 ?_
            refine lv_goto (tgt := 47) hx hb dX11_way_40 (by decide) ?_
            refine lv_astore (lv' := [(5, .ref m3), (0, .ref y), (1, .int (nI i)), (2, .int (nI j)), (3, .int x3), (4, .int x4)]) hx hb dX11_way_47 hl (by decide) rfl (fun ls hl => ?_)
            refine lv_aload hx hb dX11_way_49 (lv_at hl 0 rfl) ?_
            refine lv_iload_n hx hb dX11_way_51 rfl (lv_at hl 2 rfl) ?_
            refine x_aaldA F hP kI2 (vp_in_nI (n := i) (N := 12) (by omega) (by decide)) dX11_way_52 ?_
            have pr139 := (hFWR i (by omega)).1
            have k140 := (hFWR i (by omega)).2.1
            have tz141 := (hFWR i (by omega)).2.2
            rw [nI_clamp (n := i) (by omega), pr139]
            refine W.eq (g2 := F0 m _ ls [.ref (wr i)]) rfl ?_
            refine lv_iload_n hx hb dX11_way_53 rfl (lv_at hl 3 rfl) ?_
            refine lv_iload hx hb dX11_way_54 (lv_at hl 5 rfl) ?_
            refine y_iast F hP hD hS k140 (vp_in_nI (n := j) (N := 12) (by omega) (by decide)) dX11_way_56 (fun w142 ew143 H locs hP hD hS => ?_)
            have fm144 : ∀ k9, k9 < 12 ∧ k9 ≠ i → qw k9 = some (wr k9) ∧ wd_at w (wr k9) (.inl (cy 2, 12, .inl (fw k9))) ∧ tg (wr k9) = 12000 + k9 := fun k9 hi8 => hFWR k9 hi8.1
            have k145 := wd_at.pt ew143 kI0 (tg_ne tI0 tz141 (tnA2 (show 10000 < 12000 by decide)))
            have k146 := wd_at.pt ew143 kI1 (tg_ne tI1 tz141 (tnA2 (show 10102 < 12000 by decide)))
            have k147 := wd_at.pt ew143 kI2 (tg_ne tI2 tz141 (tnA2 (show 10103 < 12000 by decide)))
            have k148 := wd_at.pt ew143 kI3 (tg_ne tI3 tz141 (tnA2 (show 10104 < 12000 by decide)))
            have k149 := wd_at.pt ew143 kI4 (tg_ne tI4 tz141 (tnA2 (show 10105 < 12000 by decide)))
            have k150 := wd_at.pt ew143 kI5 (tg_ne tI5 tz141 (tnA2 (show 10106 < 12000 by decide)))
            have k151 := wd_at.pt ew143 kI6 (tg_ne tI6 tz141 (tnA2 (show 10108 < 12000 by decide)))
            have k152 := wd_at.pt ew143 kI7 (tg_ne tI7 tz141 (tnA2 (show 10109 < 12000 by decide)))
            have k153 := wd_at.pt ew143 kI8 (tg_ne tI8 tz141 (tnA2 (show 10110 < 12000 by decide)))
            have k154 := wd_at.pt ew143 kI9 (tg_ne tI9 tz141 (tnA2 (show 10111 < 12000 by decide)))
            have k155 := wd_at.pt ew143 kI10 (tg_ne tI10 tz141 (tnA2 (show 10112 < 12000 by decide)))
            have k156 := wd_at.pt ew143 kI11 (tg_ne tI11 tz141 (tnA2 (show 10113 < 12000 by decide)))
            have k157 := wd_at.pt ew143 kI12 (tg_ne tI12 tz141 (tnA2 (show 10114 < 12000 by decide)))
            have k158 := wd_at.pt ew143 kI13 (tg_ne tI13 tz141 (tnA2 (show 10117 < 12000 by decide)))
            have k159 := wd_at.pt ew143 kI14 (tg_ne tI14 tz141 (tnA2 (show 10118 < 12000 by decide)))
            have k160 := wd_at.pt ew143 kI15 (tg_ne tI15 tz141 (tnA2 (show 10119 < 12000 by decide)))
            have k161 := wd_at.pt ew143 kI16 (tg_ne tI16 tz141 (tnA2 (show 10120 < 12000 by decide)))
            have k162 := wd_at.pt ew143 kI17 (tg_ne tI17 tz141 (tnA2 (show 10121 < 12000 by decide)))
            have k163 := wd_at.pt ew143 kI18 (tg_ne tI18 tz141 (tnA2 (show 10122 < 12000 by decide)))
            have k164 := wd_at.pt ew143 kI19 (tg_ne tI19 tz141 (tnA2 (show 10123 < 12000 by decide)))
            have k165 := wd_at.pt ew143 kI20 (tg_ne tI20 tz141 (tnA2 (show 10124 < 12000 by decide)))
            have k166 := wd_at.pt ew143 kI21 (tg_ne tI21 tz141 (tnA2 (show 10129 < 12000 by decide)))
            have k167 := wd_at.pt ew143 kI22 (tg_ne tI22 tz141 (tnA2 (show 10130 < 12000 by decide)))
            have k168 := wd_at.pt ew143 kI23 (tg_ne tI23 tz141 (tnA2 (show 10131 < 12000 by decide)))
            have k169 := wd_at.pt ew143 kI24 (tg_ne tI24 tz141 (tnA2 (show 10132 < 12000 by decide)))
            have k170 := wd_at.pt ew143 kI25 (tg_ne tI25 tz141 (tnA2 (show 10133 < 12000 by decide)))
            have k171 := wd_at.pt ew143 kI26 (tg_ne tI26 tz141 (tnA2 (show 10134 < 12000 by decide)))
            have k172 := wd_at.pt ew143 kI27 (tg_ne tI27 tz141 (tnA2 (show 10135 < 12000 by decide)))
            have k173 := wd_at.pt ew143 kI28 (tg_ne tI28 tz141 (tnA2 (show 10136 < 12000 by decide)))
            have k174 := wd_at.pt ew143 kI29 (tg_ne tI29 tz141 (tnA2 (show 10137 < 12000 by decide)))
            have k175 := wd_at.pt ew143 kI30 (tg_ne tI30 tz141 (tnA2 (show 10139 < 12000 by decide)))
            have k176 := wd_at.pt ew143 kI31 (tg_ne tI31 tz141 (tnA2 (show 10140 < 12000 by decide)))
            have k177 := wd_at.pt ew143 kI32 (tg_ne tI32 tz141 (tnA2 (show 10141 < 12000 by decide)))
            have k178 := wd_at.pt ew143 kI33 (tg_ne tI33 tz141 (tnA2 (show 10142 < 12000 by decide)))
            have k179 := wd_at.pt ew143 kI34 (tg_ne tI34 tz141 (tnA2 (show 10143 < 12000 by decide)))
            have k180 := wd_at.pt ew143 kI35 (tg_ne tI35 tz141 (tnA2 (show 10144 < 12000 by decide)))
            have k181 := wd_at.pt ew143 kI36 (tg_ne tI36 tz141 (tnA2 (show 10145 < 12000 by decide)))
            have k182 := wd_at.pt ew143 kI37 (tg_ne tI37 tz141 (tnA2 (show 10146 < 12000 by decide)))
            have k183 := wd_at.pt ew143 kI38 (tg_ne tI38 tz141 (tnA2 (show 10147 < 12000 by decide)))
            have k184 := wd_at.pt ew143 kI39 (tg_ne tI39 tz141 (tnA2 (show 10148 < 12000 by decide)))
            have k185 := wd_at.pt ew143 kI40 (tg_ne tI40 tz141 (tnA2 (show 10149 < 12000 by decide)))
            have k186 := wd_at.pt ew143 kI41 (tg_ne tI41 tz141 (tnA2 (show 10151 < 12000 by decide)))
            have k187 := wd_at.pt ew143 kI42 (tg_ne tI42 tz141 (tnA2 (show 10152 < 12000 by decide)))
            have k188 := wd_at.pt ew143 kI43 (tg_ne tI43 tz141 (tnA2 (show 10153 < 12000 by decide)))
            have k189 := wd_at.pt ew143 kI44 (tg_ne tI44 tz141 (tnA2 (show 10154 < 12000 by decide)))
            have k190 := wd_at.pt ew143 kI45 (tg_ne tI45 tz141 (tnA2 (show 10156 < 12000 by decide)))
            have k191 := wd_at.pt ew143 kI46 (tg_ne tI46 tz141 (tnA2 (show 10157 < 12000 by decide)))
            have k192 := wd_at.pt ew143 kI47 (tg_ne tI47 tz141 (tnA2 (show 10158 < 12000 by decide)))
            have k193 := wd_at.pt ew143 kI48 (tg_ne tI48 tz141 (tnA2 (show 10159 < 12000 by decide)))
            have k194 : wd_at w142 (wr i) (.inl (cy 2, 12, .inl (upd (fw i) (nI j).toNatClampNeg x4))) := wd_at.ps ew143 k140
            have fm195 : ∀ k9, k9 < 12 → qp k9 = some (pr k9) ∧ wd_at w142 (pr k9) (.inl (cy 2, 12, .inl (fp k9))) ∧ tg (pr k9) = 11000 + k9 := fun k9 hi9 => ⟨(hFPR k9 hi9).1, wd_at.pt ew143 (hFPR k9 hi9).2.1 (tg_ne (hFPR k9 hi9).2.2 tz141 (tnB (n := 12) hi9 (by decide))), (hFPR k9 hi9).2.2⟩
            have fm196 : ∀ k9, k9 < 12 ∧ k9 ≠ i → qw k9 = some (wr k9) ∧ wd_at w142 (wr k9) (.inl (cy 2, 12, .inl (fw k9))) ∧ tg (wr k9) = 12000 + k9 := fun k9 hi9 => ⟨(fm144 k9 hi9).1, wd_at.pt ew143 (fm144 k9 hi9).2.1 (tg_ne (fm144 k9 hi9).2.2 tz141 (tnS hi9.2)), (fm144 k9 hi9).2.2⟩
            have fm197 : ∀ k9, k9 < 60 → qs k9 = some (sr k9) ∧ wd_at w142 (sr k9) (.inl (cy 2, 12, .inl (fs k9))) ∧ tg (sr k9) = 13000 + k9 := fun k9 hi9 => ⟨(hFSR k9 hi9).1, wd_at.pt ew143 (hFSR k9 hi9).2.1 (tg_ne (hFSR k9 hi9).2.2 tz141 (tnB2 (n := 12) hi (by decide))), (hFSR k9 hi9).2.2⟩
            have kp198 := kp0.put ew143 (tgT tz141 (by omega))
            refine lv_aload hx hb dX11_way_57 (lv_at hl 0 rfl) ?_
            refine lv_iload_n hx hb dX11_way_59 rfl (lv_at hl 3 rfl) ?_
            refine x_aaldA F hP k147 (vp_in_nI (n := j) (N := 12) (by omega) (by decide)) dX11_way_60 ?_
            have pr199 := (fm196 j (by omega)).1
            have k200 := (fm196 j (by omega)).2.1
            have tz201 := (fm196 j (by omega)).2.2
            rw [nI_clamp (n := j) (by omega), pr199]
            refine W.eq (g2 := F0 m _ ls [.ref (wr j)]) rfl ?_
            refine lv_iload_n hx hb dX11_way_61 rfl (lv_at hl 2 rfl) ?_
            refine lv_iload hx hb dX11_way_62 (lv_at hl 5 rfl) ?_
            refine y_iast F hP hD hS k200 (vp_in_nI (n := i) (N := 12) (by omega) (by decide)) dX11_way_64 (fun w202 ew203 H locs hP hD hS => ?_)
            have fm204 : ∀ k9, k9 < 12 ∧ k9 ≠ i ∧ k9 ≠ j → qw k9 = some (wr k9) ∧ wd_at w142 (wr k9) (.inl (cy 2, 12, .inl (fw k9))) ∧ tg (wr k9) = 12000 + k9 := fun k9 hi8 => fm196 k9 ⟨hi8.1, hi8.2.1⟩
            have k205 := wd_at.pt ew203 k145 (tg_ne tI0 tz201 (tnA2 (show 10000 < 12000 by decide)))
            have k206 := wd_at.pt ew203 k146 (tg_ne tI1 tz201 (tnA2 (show 10102 < 12000 by decide)))
            have k207 := wd_at.pt ew203 k147 (tg_ne tI2 tz201 (tnA2 (show 10103 < 12000 by decide)))
            have k208 := wd_at.pt ew203 k148 (tg_ne tI3 tz201 (tnA2 (show 10104 < 12000 by decide)))
            have k209 := wd_at.pt ew203 k149 (tg_ne tI4 tz201 (tnA2 (show 10105 < 12000 by decide)))
            have k210 := wd_at.pt ew203 k150 (tg_ne tI5 tz201 (tnA2 (show 10106 < 12000 by decide)))
            have k211 := wd_at.pt ew203 k151 (tg_ne tI6 tz201 (tnA2 (show 10108 < 12000 by decide)))
            have k212 := wd_at.pt ew203 k152 (tg_ne tI7 tz201 (tnA2 (show 10109 < 12000 by decide)))
            have k213 := wd_at.pt ew203 k153 (tg_ne tI8 tz201 (tnA2 (show 10110 < 12000 by decide)))
            have k214 := wd_at.pt ew203 k154 (tg_ne tI9 tz201 (tnA2 (show 10111 < 12000 by decide)))
            have k215 := wd_at.pt ew203 k155 (tg_ne tI10 tz201 (tnA2 (show 10112 < 12000 by decide)))
            have k216 := wd_at.pt ew203 k156 (tg_ne tI11 tz201 (tnA2 (show 10113 < 12000 by decide)))
            have k217 := wd_at.pt ew203 k157 (tg_ne tI12 tz201 (tnA2 (show 10114 < 12000 by decide)))
            have k218 := wd_at.pt ew203 k158 (tg_ne tI13 tz201 (tnA2 (show 10117 < 12000 by decide)))
            have k219 := wd_at.pt ew203 k159 (tg_ne tI14 tz201 (tnA2 (show 10118 < 12000 by decide)))
            have k220 := wd_at.pt ew203 k160 (tg_ne tI15 tz201 (tnA2 (show 10119 < 12000 by decide)))
            have k221 := wd_at.pt ew203 k161 (tg_ne tI16 tz201 (tnA2 (show 10120 < 12000 by decide)))
            have k222 := wd_at.pt ew203 k162 (tg_ne tI17 tz201 (tnA2 (show 10121 < 12000 by decide)))
            have k223 := wd_at.pt ew203 k163 (tg_ne tI18 tz201 (tnA2 (show 10122 < 12000 by decide)))
            have k224 := wd_at.pt ew203 k164 (tg_ne tI19 tz201 (tnA2 (show 10123 < 12000 by decide)))
            have k225 := wd_at.pt ew203 k165 (tg_ne tI20 tz201 (tnA2 (show 10124 < 12000 by decide)))
            have k226 := wd_at.pt ew203 k166 (tg_ne tI21 tz201 (tnA2 (show 10129 < 12000 by decide)))
            have k227 := wd_at.pt ew203 k167 (tg_ne tI22 tz201 (tnA2 (show 10130 < 12000 by decide)))
            have k228 := wd_at.pt ew203 k168 (tg_ne tI23 tz201 (tnA2 (show 10131 < 12000 by decide)))
            have k229 := wd_at.pt ew203 k169 (tg_ne tI24 tz201 (tnA2 (show 10132 < 12000 by decide)))
            have k230 := wd_at.pt ew203 k170 (tg_ne tI25 tz201 (tnA2 (show 10133 < 12000 by decide)))
            have k231 := wd_at.pt ew203 k171 (tg_ne tI26 tz201 (tnA2 (show 10134 < 12000 by decide)))
            have k232 := wd_at.pt ew203 k172 (tg_ne tI27 tz201 (tnA2 (show 10135 < 12000 by decide)))
            have k233 := wd_at.pt ew203 k173 (tg_ne tI28 tz201 (tnA2 (show 10136 < 12000 by decide)))
            have k234 := wd_at.pt ew203 k174 (tg_ne tI29 tz201 (tnA2 (show 10137 < 12000 by decide)))
            have k235 := wd_at.pt ew203 k175 (tg_ne tI30 tz201 (tnA2 (show 10139 < 12000 by decide)))
            have k236 := wd_at.pt ew203 k176 (tg_ne tI31 tz201 (tnA2 (show 10140 < 12000 by decide)))
            have k237 := wd_at.pt ew203 k177 (tg_ne tI32 tz201 (tnA2 (show 10141 < 12000 by decide)))
            have k238 := wd_at.pt ew203 k178 (tg_ne tI33 tz201 (tnA2 (show 10142 < 12000 by decide)))
            have k239 := wd_at.pt ew203 k179 (tg_ne tI34 tz201 (tnA2 (show 10143 < 12000 by decide)))
            have k240 := wd_at.pt ew203 k180 (tg_ne tI35 tz201 (tnA2 (show 10144 < 12000 by decide)))
            have k241 := wd_at.pt ew203 k181 (tg_ne tI36 tz201 (tnA2 (show 10145 < 12000 by decide)))
            have k242 := wd_at.pt ew203 k182 (tg_ne tI37 tz201 (tnA2 (show 10146 < 12000 by decide)))
            have k243 := wd_at.pt ew203 k183 (tg_ne tI38 tz201 (tnA2 (show 10147 < 12000 by decide)))
            have k244 := wd_at.pt ew203 k184 (tg_ne tI39 tz201 (tnA2 (show 10148 < 12000 by decide)))
            have k245 := wd_at.pt ew203 k185 (tg_ne tI40 tz201 (tnA2 (show 10149 < 12000 by decide)))
            have k246 := wd_at.pt ew203 k186 (tg_ne tI41 tz201 (tnA2 (show 10151 < 12000 by decide)))
            have k247 := wd_at.pt ew203 k187 (tg_ne tI42 tz201 (tnA2 (show 10152 < 12000 by decide)))
            have k248 := wd_at.pt ew203 k188 (tg_ne tI43 tz201 (tnA2 (show 10153 < 12000 by decide)))
            have k249 := wd_at.pt ew203 k189 (tg_ne tI44 tz201 (tnA2 (show 10154 < 12000 by decide)))
            have k250 := wd_at.pt ew203 k190 (tg_ne tI45 tz201 (tnA2 (show 10156 < 12000 by decide)))
            have k251 := wd_at.pt ew203 k191 (tg_ne tI46 tz201 (tnA2 (show 10157 < 12000 by decide)))
            have k252 := wd_at.pt ew203 k192 (tg_ne tI47 tz201 (tnA2 (show 10158 < 12000 by decide)))
            have k253 := wd_at.pt ew203 k193 (tg_ne tI48 tz201 (tnA2 (show 10159 < 12000 by decide)))
            have k254 := wd_at.pt ew203 k194 (tg_ne tz141 tz201 (by omega))
            have k255 : wd_at w202 (wr j) (.inl (cy 2, 12, .inl (upd (fw j) (nI i).toNatClampNeg x4))) := wd_at.ps ew203 k200
            have fm256 : ∀ k9, k9 < 12 → qp k9 = some (pr k9) ∧ wd_at w202 (pr k9) (.inl (cy 2, 12, .inl (fp k9))) ∧ tg (pr k9) = 11000 + k9 := fun k9 hi9 => ⟨(fm195 k9 hi9).1, wd_at.pt ew203 (fm195 k9 hi9).2.1 (tg_ne (fm195 k9 hi9).2.2 tz201 (tnB (n := 12) hi9 (by decide))), (fm195 k9 hi9).2.2⟩
            have fm257 : ∀ k9, k9 < 12 ∧ k9 ≠ i ∧ k9 ≠ j → qw k9 = some (wr k9) ∧ wd_at w202 (wr k9) (.inl (cy 2, 12, .inl (fw k9))) ∧ tg (wr k9) = 12000 + k9 := fun k9 hi9 => ⟨(fm204 k9 hi9).1, wd_at.pt ew203 (fm204 k9 hi9).2.1 (tg_ne (fm204 k9 hi9).2.2 tz201 (tnS hi9.2.2)), (fm204 k9 hi9).2.2⟩
            have fm258 : ∀ k9, k9 < 60 → qs k9 = some (sr k9) ∧ wd_at w202 (sr k9) (.inl (cy 2, 12, .inl (fs k9))) ∧ tg (sr k9) = 13000 + k9 := fun k9 hi9 => ⟨(fm197 k9 hi9).1, wd_at.pt ew203 (fm197 k9 hi9).2.1 (tg_ne (fm197 k9 hi9).2.2 tz201 (tnB2 (n := 12) hj (by decide))), (fm197 k9 hi9).2.2⟩
            have kp259 := kp198.put ew203 (tgT tz201 (by omega))
            refine lv_iconst (v := 1) hx hb dX11_way_65 (by decide) ?_
            have fm260 : ∀ k9, k9 < 12 ∧ k9 ≠ j → qw k9 = some (wr k9) ∧ wd_at w202 (wr k9) (.inl (cy 2, 12, .inl ((va_up fw i (upd (fw i) (nI j).toNatClampNeg x4)) k9))) ∧ tg (wr k9) = 12000 + k9 := by
              intro k9 hi9
              by_cases e9 : k9 = i
              · rw [e9]
                exact ⟨pr139, (by simp only [va_up_self]; exact k254), tz141⟩
              · simp only [va_up_ne _ _ e9]
                exact fm257 k9 (by omega)
            have fm261 : ∀ k9, k9 < 12 → qw k9 = some (wr k9) ∧ wd_at w202 (wr k9) (.inl (cy 2, 12, .inl ((va_up (va_up fw i (upd (fw i) (nI j).toNatClampNeg x4)) j (upd (fw j) (nI i).toNatClampNeg x4)) k9))) ∧ tg (wr k9) = 12000 + k9 := by
              intro k9 hi9
              by_cases e9 : k9 = j
              · rw [e9]
                exact ⟨pr199, (by simp only [va_up_self]; exact k255), tz201⟩
              · simp only [va_up_ne _ _ e9]
                exact fm260 k9 (by omega)
            have hX262 : IM cy tg y td pc ac sc ln se plv w202 := IM.mk m2 m3 m4 m5 m6 m8 m9 m10 m11 m12 m13 m14 m17 m18 m19 m20 m21 m22 m23 m24 m29 m30 m31 m32 m33 m34 m35 m36 m37 m39 m40 m41 m42 m43 m44 m45 m46 m47 m48 m49 m51 m52 m53 m54 m56 m57 m58 m59 sh gf v0 v26 v27 v28 v50 f4 f5 f6 f8 f9 f10 f11 f12 f13 f14 f17 f18 f19 f20 f21 f22 f24 f29 f30 f31 f32 f33 f34 f35 f36 f37 f39 f40 f41 f42 f43 f44 f45 f46 f47 f48 f49 f51 f52 f53 f54 f56 f57 f58 f59 qp pr fp qw wr (va_up (va_up fw i (upd (fw i) (nI j).toNatClampNeg x4)) j (upd (fw j) (nI i).toNatClampNeg x4)) qs sr fs (by omega) (by omega) (by omega) (by omega) (by omega) (by omega) hrl hc ht hp hso hlo k205 tI0 k206 tI1 k207 tI2 k208 tI3 k209 tI4 k210 tI5 k211 tI6 k212 tI7 k213 tI8 k214 tI9 k215 tI10 k216 tI11 k217 tI12 k218 tI13 k219 tI14 k220 tI15 k221 tI16 k222 tI17 k223 tI18 k224 tI19 k225 tI20 k226 tI21 k227 tI22 k228 tI23 k229 tI24 k230 tI25 k231 tI26 k232 tI27 k233 tI28 k234 tI29 k235 tI30 k236 tI31 k237 tI32 k238 tI33 k239 tI34 k240 tI35 k241 tI36 k242 tI37 k243 tI38 k244 tI39 k245 tI40 k246 tI41 k247 tI42 k248 tI43 k249 tI44 k250 tI45 k251 tI46 k252 tI47 k253 tI48 fm256 fm261 fm258
            exact y_ir K hP hD hS (Nat.le_of_ble_eq_true rfl) (Nat.le_of_ble_eq_true rfl) (ty := .boolean) rfl rfl dX11_way_66 (⟨(congrArg (fun z => some (Value.int z)) (show 1 = wayA (nI i) (nI j) x4 from by simp [wayA, c_4, cli, c_8, clj, c_9, c_13, c_14])), ⟨kp259, hX262⟩⟩)
        · refine lv_iconst (v := 0) hx hb dX11_way_30 (by decide) ?_
          exact y_ir K hP hD hS (Nat.le_of_ble_eq_true rfl) (Nat.le_of_ble_eq_true rfl) (ty := .boolean) rfl rfl dX11_way_31 (⟨(congrArg (fun z => some (Value.int z)) (show 0 = wayA (nI i) (nI j) x4 from by simp [wayA, c_4, cli, c_8, clj, c_9, c_13])), ⟨wd_kp.rf, hIM0⟩⟩)
set_option maxHeartbeats 4000000 in
set_option maxRecDepth 100000 in
theorem M_rate (l : Launch) (D : va_G) (cy : Nat → ClassId) (sk sv : Nat → Nat) (w : Wd) (tg : Nat → Nat) (y : Nat) (td : Int32) (pc ac sc ln : Nat) (se plv : Nat → Int32) (x1 x2 x3 : Int32) (hIM0 : IM cy tg y td pc ac sc ln se plv w) : Ct l D cy sk sv yX11_rate wsX11_rate ({ frames := 1, cells := 0, slots := 0, locals := 22 }) [.ref y, .int x1, .int x2, .int x3] w (fun v w1 => v = some (.int (rateA x1 x2 x3)) ∧ MP cy tg y td pc ac sc ln se plv w w1) := by
  refine Ct.by (cc := cX11_rate) (maxL := 4) (ret := (some .boolean)) (by decide +kernel) rfl (Nat.le_of_ble_eq_true rfl) ?_
  intro p e s m args below meth c A Q F hnm K ls hl
  have F : wd_Fx p s m args meth c cX11_rate 4 wsX11_rate RX11 D cy sk sv A := F
  have hl : lv_has ls 4 [(0, .ref y), (1, .int x1), (2, .int x2), (3, .int x3)] := hl
  have hx := F.1.1
  have hb := F.1.2.1
  have hown := F.1.2.2.2.1
  have hts := F.1.2.2.2.2
  intro H locs hP hD hS
  have kp0 : wd_kp (fun b => 10000 ≤ tg b) w w := wd_kp.rf
  refine hIM0 _ ?_
  intro m2 m3 m4 m5 m6 m8 m9 m10 m11 m12 m13 m14 m17 m18 m19 m20 m21 m22 m23 m24 m29 m30 m31 m32 m33 m34 m35 m36 m37 m39 m40 m41 m42 m43 m44 m45 m46 m47 m48 m49 m51 m52 m53 m54 m56 m57 m58 m59 sh gf v0 v26 v27 v28 v50 f4 f5 f6 f8 f9 f10 f11 f12 f13 f14 f17 f18 f19 f20 f21 f22 f24 f29 f30 f31 f32 f33 f34 f35 f36 f37 f39 f40 f41 f42 f43 f44 f45 f46 f47 f48 f49 f51 f52 f53 f54 f56 f57 f58 f59 qp pr fp qw wr fw qs sr fs hp90 hp91 hp92 hp93 hp94 hp95 hrl hc ht hp hso hlo kI0 tI0 kI1 tI1 kI2 tI2 kI3 tI3 kI4 tI4 kI5 tI5 kI6 tI6 kI7 tI7 kI8 tI8 kI9 tI9 kI10 tI10 kI11 tI11 kI12 tI12 kI13 tI13 kI14 tI14 kI15 tI15 kI16 tI16 kI17 tI17 kI18 tI18 kI19 tI19 kI20 tI20 kI21 tI21 kI22 tI22 kI23 tI23 kI24 tI24 kI25 tI25 kI26 tI26 kI27 tI27 kI28 tI28 kI29 tI29 kI30 tI30 kI31 tI31 kI32 tI32 kI33 tI33 kI34 tI34 kI35 tI35 kI36 tI36 kI37 tI37 kI38 tI38 kI39 tI39 kI40 tI40 kI41 tI41 kI42 tI42 kI43 tI43 kI44 tI44 kI45 tI45 kI46 tI46 kI47 tI47 kI48 tI48 hFPR hFWR hFSR
  refine lv_iload_n hx hb dX11_rate_0 rfl (lv_at hl 1 rfl) ?_
  refine x_callS (n := 1) (As := [.int x1]) (rest := []) F hP hD hS (g_mTown l D cy sk sv w x1) gX11_rate_X11_isTown rfl (by decide +kernel) ⟨(Nat.le_of_ble_eq_true rfl), (Nat.le_of_ble_eq_true rfl)⟩ rfl hl.1 (Nat.le_of_ble_eq_true rfl) dX11_rate_1 rfl ⟨(Nat.le_of_ble_eq_true rfl), (Nat.le_of_ble_eq_true rfl)⟩ (fun v2 w3 hp1 H locs hP hD hS => ?_)
  obtain ⟨rfl, rfl⟩ := hp1
  refine W.eq (g2 := F0 m 4 ls [.int (wi x1 0 11)]) rfl (W.widen (k := 0) (n := 0) (Nat.le_of_ble_eq_true rfl) (Nat.le_of_ble_eq_true rfl) ?_)
  refine lv_if_eq (tgt := 26) hx hb dX11_rate_4 (by decide) (fun c_4 => ?_) (fun c_4 => ?_)
  · refine lv_iconst (v := 0) hx hb dX11_rate_26 (by decide) ?_
    exact y_ir K hP hD hS (Nat.le_of_ble_eq_true rfl) (Nat.le_of_ble_eq_true rfl) (ty := .boolean) rfl rfl dX11_rate_27 (⟨(congrArg (fun z => some (Value.int z)) (show 0 = rateA x1 x2 x3 from by simp [rateA, c_4])), ⟨wd_kp.rf, hIM0⟩⟩)
  · obtain ⟨j, hj, rfl, clj⟩ := wi_t c_4
    refine lv_iload_n hx hb dX11_rate_7 rfl (lv_at hl 2 rfl) ?_
    refine lv_iconst (v := 0) hx hb dX11_rate_8 (by decide) ?_
    refine lv_iconst (v := 3) hx hb dX11_rate_9 (by decide) ?_
    refine x_callS (n := 3) (As := [.int x2, .int 0, .int 3]) (rest := []) F hP hD hS (g_in l D cy sk sv w x2 0 3) gX11_rate_X11_in rfl (by decide +kernel) ⟨(Nat.le_of_ble_eq_true rfl), (Nat.le_of_ble_eq_true rfl)⟩ rfl hl.1 (Nat.le_of_ble_eq_true rfl) dX11_rate_10 rfl ⟨(Nat.le_of_ble_eq_true rfl), (Nat.le_of_ble_eq_true rfl)⟩ (fun v6 w7 hp5 H locs hP hD hS => ?_)
    obtain ⟨rfl, rfl⟩ := hp5
    refine W.eq (g2 := F0 m 13 ls [.int (wi x2 0 3)]) rfl (W.widen (k := 0) (n := 0) (Nat.le_of_ble_eq_true rfl) (Nat.le_of_ble_eq_true rfl) ?_)
    refine lv_if_eq (tgt := 26) hx hb dX11_rate_13 (by decide) (fun c_8 => ?_) (fun c_8 => ?_)
    · refine lv_iconst (v := 0) hx hb dX11_rate_26 (by decide) ?_
      exact y_ir K hP hD hS (Nat.le_of_ble_eq_true rfl) (Nat.le_of_ble_eq_true rfl) (ty := .boolean) rfl rfl dX11_rate_27 (⟨(congrArg (fun z => some (Value.int z)) (show 0 = rateA (nI j) x2 x3 from by simp [rateA, c_4, clj, c_8])), ⟨wd_kp.rf, hIM0⟩⟩)
    · refine lv_iload_n hx hb dX11_rate_16 rfl (lv_at hl 3 rfl) ?_
      refine lv_iconst (v := 1) hx hb dX11_rate_17 (by decide) ?_
      refine lv_ldc (v := 100000) hx hb hown (hts _ (List.mem_cons_of_mem _ (List.mem_append_left _ (List.mem_of_getElem? (i := 0) rfl)))) dX11_rate_18 ?_
      refine x_callS (n := 3) (As := [.int x3, .int 1, .int 100000]) (rest := []) F hP hD hS (g_in l D cy sk sv w x3 1 100000) gX11_rate_X11_in rfl (by decide +kernel) ⟨(Nat.le_of_ble_eq_true rfl), (Nat.le_of_ble_eq_true rfl)⟩ rfl hl.1 (Nat.le_of_ble_eq_true rfl) dX11_rate_20 rfl ⟨(Nat.le_of_ble_eq_true rfl), (Nat.le_of_ble_eq_true rfl)⟩ (fun v10 w11 hp9 H locs hP hD hS => ?_)
      obtain ⟨rfl, rfl⟩ := hp9
      refine W.eq (g2 := F0 m 23 ls [.int (wi x3 1 100000)]) rfl (W.widen (k := 0) (n := 0) (Nat.le_of_ble_eq_true rfl) (Nat.le_of_ble_eq_true rfl) ?_)
      refine lv_if_ne (tgt := 28) hx hb dX11_rate_23 (by decide) (fun c_12 => ?_) (fun c_12 => ?_)
      · refine lv_aload_n hx hb dX11_rate_28 rfl (lv_at hl 0 rfl) ?_
        refine x_get (ref := "NoteHouseModel") F hP kI0 rfl (fun _ h => List.mem_cons_of_mem _ (List.mem_append_right _ (h))) 4 (Nat.le_of_ble_eq_true rfl) (List.mem_cons_of_mem _ (List.mem_append_left _ (List.mem_of_getElem? (i := 1) rfl))) rfl rfl dX11_rate_29 ?_
        refine lv_iload_n hx hb dX11_rate_32 rfl (lv_at hl 1 rfl) ?_
        refine lv_iload_n hx hb dX11_rate_33 rfl (lv_at hl 2 rfl) ?_
        refine y_iast F hP hD hS kI3 (vp_in_nI (n := j) (N := 12) (by omega) (by decide)) dX11_rate_34 (fun w13 ew14 H locs hP hD hS => ?_)
        have k15 := wd_at.pt ew14 kI0 (tg_ne tI0 tI3 (by decide))
        have k16 := wd_at.pt ew14 kI1 (tg_ne tI1 tI3 (by decide))
        have k17 := wd_at.pt ew14 kI2 (tg_ne tI2 tI3 (by decide))
        have k18 : wd_at w13 m4 (.inl (cy 2, 12, .inl (upd f4 (nI j).toNatClampNeg x2))) := wd_at.ps ew14 kI3
        have k19 := wd_at.pt ew14 kI4 (tg_ne tI4 tI3 (by decide))
        have k20 := wd_at.pt ew14 kI5 (tg_ne tI5 tI3 (by decide))
        have k21 := wd_at.pt ew14 kI6 (tg_ne tI6 tI3 (by decide))
        have k22 := wd_at.pt ew14 kI7 (tg_ne tI7 tI3 (by decide))
        have k23 := wd_at.pt ew14 kI8 (tg_ne tI8 tI3 (by decide))
        have k24 := wd_at.pt ew14 kI9 (tg_ne tI9 tI3 (by decide))
        have k25 := wd_at.pt ew14 kI10 (tg_ne tI10 tI3 (by decide))
        have k26 := wd_at.pt ew14 kI11 (tg_ne tI11 tI3 (by decide))
        have k27 := wd_at.pt ew14 kI12 (tg_ne tI12 tI3 (by decide))
        have k28 := wd_at.pt ew14 kI13 (tg_ne tI13 tI3 (by decide))
        have k29 := wd_at.pt ew14 kI14 (tg_ne tI14 tI3 (by decide))
        have k30 := wd_at.pt ew14 kI15 (tg_ne tI15 tI3 (by decide))
        have k31 := wd_at.pt ew14 kI16 (tg_ne tI16 tI3 (by decide))
        have k32 := wd_at.pt ew14 kI17 (tg_ne tI17 tI3 (by decide))
        have k33 := wd_at.pt ew14 kI18 (tg_ne tI18 tI3 (by decide))
        have k34 := wd_at.pt ew14 kI19 (tg_ne tI19 tI3 (by decide))
        have k35 := wd_at.pt ew14 kI20 (tg_ne tI20 tI3 (by decide))
        have k36 := wd_at.pt ew14 kI21 (tg_ne tI21 tI3 (by decide))
        have k37 := wd_at.pt ew14 kI22 (tg_ne tI22 tI3 (by decide))
        have k38 := wd_at.pt ew14 kI23 (tg_ne tI23 tI3 (by decide))
        have k39 := wd_at.pt ew14 kI24 (tg_ne tI24 tI3 (by decide))
        have k40 := wd_at.pt ew14 kI25 (tg_ne tI25 tI3 (by decide))
        have k41 := wd_at.pt ew14 kI26 (tg_ne tI26 tI3 (by decide))
        have k42 := wd_at.pt ew14 kI27 (tg_ne tI27 tI3 (by decide))
        have k43 := wd_at.pt ew14 kI28 (tg_ne tI28 tI3 (by decide))
        have k44 := wd_at.pt ew14 kI29 (tg_ne tI29 tI3 (by decide))
        have k45 := wd_at.pt ew14 kI30 (tg_ne tI30 tI3 (by decide))
        have k46 := wd_at.pt ew14 kI31 (tg_ne tI31 tI3 (by decide))
        have k47 := wd_at.pt ew14 kI32 (tg_ne tI32 tI3 (by decide))
        have k48 := wd_at.pt ew14 kI33 (tg_ne tI33 tI3 (by decide))
        have k49 := wd_at.pt ew14 kI34 (tg_ne tI34 tI3 (by decide))
        have k50 := wd_at.pt ew14 kI35 (tg_ne tI35 tI3 (by decide))
        have k51 := wd_at.pt ew14 kI36 (tg_ne tI36 tI3 (by decide))
        have k52 := wd_at.pt ew14 kI37 (tg_ne tI37 tI3 (by decide))
        have k53 := wd_at.pt ew14 kI38 (tg_ne tI38 tI3 (by decide))
        have k54 := wd_at.pt ew14 kI39 (tg_ne tI39 tI3 (by decide))
        have k55 := wd_at.pt ew14 kI40 (tg_ne tI40 tI3 (by decide))
        have k56 := wd_at.pt ew14 kI41 (tg_ne tI41 tI3 (by decide))
        have k57 := wd_at.pt ew14 kI42 (tg_ne tI42 tI3 (by decide))
        have k58 := wd_at.pt ew14 kI43 (tg_ne tI43 tI3 (by decide))
        have k59 := wd_at.pt ew14 kI44 (tg_ne tI44 tI3 (by decide))
        have k60 := wd_at.pt ew14 kI45 (tg_ne tI45 tI3 (by decide))
        have k61 := wd_at.pt ew14 kI46 (tg_ne tI46 tI3 (by decide))
        have k62 := wd_at.pt ew14 kI47 (tg_ne tI47 tI3 (by decide))
        have k63 := wd_at.pt ew14 kI48 (tg_ne tI48 tI3 (by decide))
        have fm64 : ∀ k9, k9 < 12 → qp k9 = some (pr k9) ∧ wd_at w13 (pr k9) (.inl (cy 2, 12, .inl (fp k9))) ∧ tg (pr k9) = 11000 + k9 := fun k9 hi9 => ⟨(hFPR k9 hi9).1, wd_at.pt ew14 (hFPR k9 hi9).2.1 (tg_ne (hFPR k9 hi9).2.2 tI3 (tnA (show 10104 < 11000 by decide))), (hFPR k9 hi9).2.2⟩
        have fm65 : ∀ k9, k9 < 12 → qw k9 = some (wr k9) ∧ wd_at w13 (wr k9) (.inl (cy 2, 12, .inl (fw k9))) ∧ tg (wr k9) = 12000 + k9 := fun k9 hi9 => ⟨(hFWR k9 hi9).1, wd_at.pt ew14 (hFWR k9 hi9).2.1 (tg_ne (hFWR k9 hi9).2.2 tI3 (tnA (show 10104 < 12000 by decide))), (hFWR k9 hi9).2.2⟩
        have fm66 : ∀ k9, k9 < 60 → qs k9 = some (sr k9) ∧ wd_at w13 (sr k9) (.inl (cy 2, 12, .inl (fs k9))) ∧ tg (sr k9) = 13000 + k9 := fun k9 hi9 => ⟨(hFSR k9 hi9).1, wd_at.pt ew14 (hFSR k9 hi9).2.1 (tg_ne (hFSR k9 hi9).2.2 tI3 (tnA (show 10104 < 13000 by decide))), (hFSR k9 hi9).2.2⟩
        have kp67 := kp0.put ew14 (tgT tI3 (by decide))
        refine lv_aload_n hx hb dX11_rate_35 rfl (lv_at hl 0 rfl) ?_
        refine x_get (ref := "NoteHouseModel") F hP k15 rfl (fun _ h => List.mem_cons_of_mem _ (List.mem_append_right _ (h))) 5 (Nat.le_of_ble_eq_true rfl) (List.mem_cons_of_mem _ (List.mem_append_left _ (List.mem_of_getElem? (i := 2) rfl))) rfl rfl dX11_rate_36 ?_
        refine lv_iload_n hx hb dX11_rate_39 rfl (lv_at hl 1 rfl) ?_
        refine lv_iload_n hx hb dX11_rate_40 rfl (lv_at hl 3 rfl) ?_
        refine y_iast F hP hD hS k19 (vp_in_nI (n := j) (N := 12) (by omega) (by decide)) dX11_rate_41 (fun w68 ew69 H locs hP hD hS => ?_)
        have k70 := wd_at.pt ew69 k15 (tg_ne tI0 tI4 (by decide))
        have k71 := wd_at.pt ew69 k16 (tg_ne tI1 tI4 (by decide))
        have k72 := wd_at.pt ew69 k17 (tg_ne tI2 tI4 (by decide))
        have k73 := wd_at.pt ew69 k18 (tg_ne tI3 tI4 (by decide))
        have k74 : wd_at w68 m5 (.inl (cy 2, 12, .inl (upd f5 (nI j).toNatClampNeg x3))) := wd_at.ps ew69 k19
        have k75 := wd_at.pt ew69 k20 (tg_ne tI5 tI4 (by decide))
        have k76 := wd_at.pt ew69 k21 (tg_ne tI6 tI4 (by decide))
        have k77 := wd_at.pt ew69 k22 (tg_ne tI7 tI4 (by decide))
        have k78 := wd_at.pt ew69 k23 (tg_ne tI8 tI4 (by decide))
        have k79 := wd_at.pt ew69 k24 (tg_ne tI9 tI4 (by decide))
        have k80 := wd_at.pt ew69 k25 (tg_ne tI10 tI4 (by decide))
        have k81 := wd_at.pt ew69 k26 (tg_ne tI11 tI4 (by decide))
        have k82 := wd_at.pt ew69 k27 (tg_ne tI12 tI4 (by decide))
        have k83 := wd_at.pt ew69 k28 (tg_ne tI13 tI4 (by decide))
        have k84 := wd_at.pt ew69 k29 (tg_ne tI14 tI4 (by decide))
        have k85 := wd_at.pt ew69 k30 (tg_ne tI15 tI4 (by decide))
        have k86 := wd_at.pt ew69 k31 (tg_ne tI16 tI4 (by decide))
        have k87 := wd_at.pt ew69 k32 (tg_ne tI17 tI4 (by decide))
        have k88 := wd_at.pt ew69 k33 (tg_ne tI18 tI4 (by decide))
        have k89 := wd_at.pt ew69 k34 (tg_ne tI19 tI4 (by decide))
        have k90 := wd_at.pt ew69 k35 (tg_ne tI20 tI4 (by decide))
        have k91 := wd_at.pt ew69 k36 (tg_ne tI21 tI4 (by decide))
        have k92 := wd_at.pt ew69 k37 (tg_ne tI22 tI4 (by decide))
        have k93 := wd_at.pt ew69 k38 (tg_ne tI23 tI4 (by decide))
        have k94 := wd_at.pt ew69 k39 (tg_ne tI24 tI4 (by decide))
        have k95 := wd_at.pt ew69 k40 (tg_ne tI25 tI4 (by decide))
        have k96 := wd_at.pt ew69 k41 (tg_ne tI26 tI4 (by decide))
        have k97 := wd_at.pt ew69 k42 (tg_ne tI27 tI4 (by decide))
        have k98 := wd_at.pt ew69 k43 (tg_ne tI28 tI4 (by decide))
        have k99 := wd_at.pt ew69 k44 (tg_ne tI29 tI4 (by decide))
        have k100 := wd_at.pt ew69 k45 (tg_ne tI30 tI4 (by decide))
        have k101 := wd_at.pt ew69 k46 (tg_ne tI31 tI4 (by decide))
        have k102 := wd_at.pt ew69 k47 (tg_ne tI32 tI4 (by decide))
        have k103 := wd_at.pt ew69 k48 (tg_ne tI33 tI4 (by decide))
        have k104 := wd_at.pt ew69 k49 (tg_ne tI34 tI4 (by decide))
        have k105 := wd_at.pt ew69 k50 (tg_ne tI35 tI4 (by decide))
        have k106 := wd_at.pt ew69 k51 (tg_ne tI36 tI4 (by decide))
        have k107 := wd_at.pt ew69 k52 (tg_ne tI37 tI4 (by decide))
        have k108 := wd_at.pt ew69 k53 (tg_ne tI38 tI4 (by decide))
        have k109 := wd_at.pt ew69 k54 (tg_ne tI39 tI4 (by decide))
        have k110 := wd_at.pt ew69 k55 (tg_ne tI40 tI4 (by decide))
        have k111 := wd_at.pt ew69 k56 (tg_ne tI41 tI4 (by decide))
        have k112 := wd_at.pt ew69 k57 (tg_ne tI42 tI4 (by decide))
        have k113 := wd_at.pt ew69 k58 (tg_ne tI43 tI4 (by decide))
        have k114 := wd_at.pt ew69 k59 (tg_ne tI44 tI4 (by decide))
        have k115 := wd_at.pt ew69 k60 (tg_ne tI45 tI4 (by decide))
        have k116 := wd_at.pt ew69 k61 (tg_ne tI46 tI4 (by decide))
        have k117 := wd_at.pt ew69 k62 (tg_ne tI47 tI4 (by decide))
        have k118 := wd_at.pt ew69 k63 (tg_ne tI48 tI4 (by decide))
        have fm119 : ∀ k9, k9 < 12 → qp k9 = some (pr k9) ∧ wd_at w68 (pr k9) (.inl (cy 2, 12, .inl (fp k9))) ∧ tg (pr k9) = 11000 + k9 := fun k9 hi9 => ⟨(fm64 k9 hi9).1, wd_at.pt ew69 (fm64 k9 hi9).2.1 (tg_ne (fm64 k9 hi9).2.2 tI4 (tnA (show 10105 < 11000 by decide))), (fm64 k9 hi9).2.2⟩
        have fm120 : ∀ k9, k9 < 12 → qw k9 = some (wr k9) ∧ wd_at w68 (wr k9) (.inl (cy 2, 12, .inl (fw k9))) ∧ tg (wr k9) = 12000 + k9 := fun k9 hi9 => ⟨(fm65 k9 hi9).1, wd_at.pt ew69 (fm65 k9 hi9).2.1 (tg_ne (fm65 k9 hi9).2.2 tI4 (tnA (show 10105 < 12000 by decide))), (fm65 k9 hi9).2.2⟩
        have fm121 : ∀ k9, k9 < 60 → qs k9 = some (sr k9) ∧ wd_at w68 (sr k9) (.inl (cy 2, 12, .inl (fs k9))) ∧ tg (sr k9) = 13000 + k9 := fun k9 hi9 => ⟨(fm66 k9 hi9).1, wd_at.pt ew69 (fm66 k9 hi9).2.1 (tg_ne (fm66 k9 hi9).2.2 tI4 (tnA (show 10105 < 13000 by decide))), (fm66 k9 hi9).2.2⟩
        have kp122 := kp67.put ew69 (tgT tI4 (by decide))
        refine lv_iconst (v := 1) hx hb dX11_rate_42 (by decide) ?_
        have hX123 : IM cy tg y td pc ac sc ln se plv w68 := IM.mk m2 m3 m4 m5 m6 m8 m9 m10 m11 m12 m13 m14 m17 m18 m19 m20 m21 m22 m23 m24 m29 m30 m31 m32 m33 m34 m35 m36 m37 m39 m40 m41 m42 m43 m44 m45 m46 m47 m48 m49 m51 m52 m53 m54 m56 m57 m58 m59 sh gf v0 v26 v27 v28 v50 (upd f4 (nI j).toNatClampNeg x2) (upd f5 (nI j).toNatClampNeg x3) f6 f8 f9 f10 f11 f12 f13 f14 f17 f18 f19 f20 f21 f22 f24 f29 f30 f31 f32 f33 f34 f35 f36 f37 f39 f40 f41 f42 f43 f44 f45 f46 f47 f48 f49 f51 f52 f53 f54 f56 f57 f58 f59 qp pr fp qw wr fw qs sr fs (by omega) (by omega) (by omega) (by omega) (by omega) (by omega) hrl hc ht hp hso hlo k70 tI0 k71 tI1 k72 tI2 k73 tI3 k74 tI4 k75 tI5 k76 tI6 k77 tI7 k78 tI8 k79 tI9 k80 tI10 k81 tI11 k82 tI12 k83 tI13 k84 tI14 k85 tI15 k86 tI16 k87 tI17 k88 tI18 k89 tI19 k90 tI20 k91 tI21 k92 tI22 k93 tI23 k94 tI24 k95 tI25 k96 tI26 k97 tI27 k98 tI28 k99 tI29 k100 tI30 k101 tI31 k102 tI32 k103 tI33 k104 tI34 k105 tI35 k106 tI36 k107 tI37 k108 tI38 k109 tI39 k110 tI40 k111 tI41 k112 tI42 k113 tI43 k114 tI44 k115 tI45 k116 tI46 k117 tI47 k118 tI48 fm119 fm120 fm121
        exact y_ir K hP hD hS (Nat.le_of_ble_eq_true rfl) (Nat.le_of_ble_eq_true rfl) (ty := .boolean) rfl rfl dX11_rate_43 (⟨(congrArg (fun z => some (Value.int z)) (show 1 = rateA (nI j) x2 x3 from by simp [rateA, c_4, clj, c_8, c_12])), ⟨kp122, hX123⟩⟩)
      · refine lv_iconst (v := 0) hx hb dX11_rate_26 (by decide) ?_
        exact y_ir K hP hD hS (Nat.le_of_ble_eq_true rfl) (Nat.le_of_ble_eq_true rfl) (ty := .boolean) rfl rfl dX11_rate_27 (⟨(congrArg (fun z => some (Value.int z)) (show 0 = rateA (nI j) x2 x3 from by simp [rateA, c_4, clj, c_8, c_12])), ⟨wd_kp.rf, hIM0⟩⟩)
set_option maxHeartbeats 4000000 in
set_option maxRecDepth 100000 in
theorem M_book (l : Launch) (D : va_G) (cy : Nat → ClassId) (sk sv : Nat → Nat) (w : Wd) (tg : Nat → Nat) (y : Nat) (td : Int32) (pc ac sc ln : Nat) (se plv : Nat → Int32) (x1 x2 x3 x4 : Int32) (hIM0 : IM cy tg y td pc ac sc ln se plv w) : Ct l D cy sk sv yX11_book wsX11_book ({ frames := 1, cells := 0, slots := 0, locals := 24 }) [.ref y, .int x1, .int x2, .int x3, .int x4] w (fun v w1 => v = some (.int (bookA pc x1 x2 x3 x4)) ∧ MP cy tg y td (bookC pc x1 x2 x3 x4) ac sc ln se (bookL plv pc x1 x2 x3 x4) w w1) := by
  refine Ct.by (cc := cX11_book) (maxL := 6) (ret := (some .int)) (by decide +kernel) rfl (Nat.le_of_ble_eq_true rfl) ?_
  intro p e s m args below meth c A Q F hnm K ls hl
  have F : wd_Fx p s m args meth c cX11_book 6 wsX11_book RX11 D cy sk sv A := F
  have hl : lv_has ls 6 [(0, .ref y), (1, .int x1), (2, .int x2), (3, .int x3), (4, .int x4)] := hl
  have hx := F.1.1
  have hb := F.1.2.1
  have hown := F.1.2.2.2.1
  have hts := F.1.2.2.2.2
  intro H locs hP hD hS
  have kp0 : wd_kp (fun b => 10000 ≤ tg b) w w := wd_kp.rf
  refine hIM0 _ ?_
  intro m2 m3 m4 m5 m6 m8 m9 m10 m11 m12 m13 m14 m17 m18 m19 m20 m21 m22 m23 m24 m29 m30 m31 m32 m33 m34 m35 m36 m37 m39 m40 m41 m42 m43 m44 m45 m46 m47 m48 m49 m51 m52 m53 m54 m56 m57 m58 m59 sh gf v0 v26 v27 v28 v50 f4 f5 f6 f8 f9 f10 f11 f12 f13 f14 f17 f18 f19 f20 f21 f22 f24 f29 f30 f31 f32 f33 f34 f35 f36 f37 f39 f40 f41 f42 f43 f44 f45 f46 f47 f48 f49 f51 f52 f53 f54 f56 f57 f58 f59 qp pr fp qw wr fw qs sr fs hp90 hp91 hp92 hp93 hp94 hp95 hrl hc ht hp hso hlo kI0 tI0 kI1 tI1 kI2 tI2 kI3 tI3 kI4 tI4 kI5 tI5 kI6 tI6 kI7 tI7 kI8 tI8 kI9 tI9 kI10 tI10 kI11 tI11 kI12 tI12 kI13 tI13 kI14 tI14 kI15 tI15 kI16 tI16 kI17 tI17 kI18 tI18 kI19 tI19 kI20 tI20 kI21 tI21 kI22 tI22 kI23 tI23 kI24 tI24 kI25 tI25 kI26 tI26 kI27 tI27 kI28 tI28 kI29 tI29 kI30 tI30 kI31 tI31 kI32 tI32 kI33 tI33 kI34 tI34 kI35 tI35 kI36 tI36 kI37 tI37 kI38 tI38 kI39 tI39 kI40 tI40 kI41 tI41 kI42 tI42 kI43 tI43 kI44 tI44 kI45 tI45 kI46 tI46 kI47 tI47 kI48 tI48 hFPR hFWR hFSR
  refine lv_aload_n hx hb dX11_book_0 rfl (lv_at hl 0 rfl) ?_
  refine x_get (ref := "NoteHouseModel") F hP kI0 rfl (fun _ h => List.mem_cons_of_mem _ (List.mem_append_right _ (h))) 7 (Nat.le_of_ble_eq_true rfl) (List.mem_cons_of_mem _ (List.mem_append_left _ (List.mem_of_getElem? (i := 0) rfl))) rfl rfl dX11_book_1 ?_
  refine lv_bipush (v := 30) hx hb dX11_book_4 (by decide) ?_
  refine lv_icmp_ge (tgt := 56) hx hb dX11_book_6 (by decide) (fun c_1 => ?_) (fun c_1 => ?_)
  · refine lv_iconst (v := 0) hx hb dX11_book_56 (by decide) ?_
    refine lv_istore (lv' := [(5, .int 0), (0, .ref y), (1, .int x1), (2, .int x2), (3, .int x3), (4, .int x4)]) hx hb dX11_book_57 hl (by decide) rfl (fun ls hl => ?_)
    refine lv_iload hx hb dX11_book_59 (lv_at hl 0 rfl) ?_
    refine lv_if_eq (tgt := 76) hx hb dX11_book_61 (by decide) (fun c_2 => ?_) (fun c_2 => absurd (show (0 : Int32) = (0 : Int32) by decide) c_2)
    refine lv_iconst (v := (-1)) hx hb dX11_book_76 (by decide) ?_
    exact y_ir K hP hD hS (Nat.le_of_ble_eq_true rfl) (Nat.le_of_ble_eq_true rfl) (ty := .int) rfl rfl dX11_book_77 (by refine ⟨(congrArg (fun z => some (Value.int z)) (show (-1) = bookA pc x1 x2 x3 x4 from by simp [bookA, bookC, bookL, addA, addC, addL, c_1])), ?_⟩; rw [show bookC pc x1 x2 x3 x4 = pc from by simp [bookA, bookC, bookL, addA, addC, addL, c_1], show bookL plv pc x1 x2 x3 x4 = plv from by simp [bookA, bookC, bookL, addA, addC, addL, c_1]]; exact ⟨wd_kp.rf, hIM0⟩)
  · have hb_pc : pc < 30 := nI_lt_of (n := 30) c_1 (by omega)
    refine lv_iload_n hx hb dX11_book_9 rfl (lv_at hl 1 rfl) ?_
    refine lv_iconst (v := 1) hx hb dX11_book_10 (by decide) ?_
    refine lv_bipush (v := 20) hx hb dX11_book_11 (by decide) ?_
    refine x_callS (n := 3) (As := [.int x1, .int 1, .int 20]) (rest := []) F hP hD hS (g_in l D cy sk sv w x1 1 20) gX11_book_X11_in rfl (by decide +kernel) ⟨(Nat.le_of_ble_eq_true rfl), (Nat.le_of_ble_eq_true rfl)⟩ rfl hl.1 (Nat.le_of_ble_eq_true rfl) dX11_book_13 rfl ⟨(Nat.le_of_ble_eq_true rfl), (Nat.le_of_ble_eq_true rfl)⟩ (fun v4 w5 hp3 H locs hP hD hS => ?_)
    obtain ⟨rfl, rfl⟩ := hp3
    refine W.eq (g2 := F0 m 16 ls [.int (wi x1 1 20)]) rfl (W.widen (k := 0) (n := 0) (Nat.le_of_ble_eq_true rfl) (Nat.le_of_ble_eq_true rfl) ?_)
    refine lv_if_eq (tgt := 56) hx hb dX11_book_16 (by decide) (fun c_6 => ?_) (fun c_6 => ?_)
    · refine lv_iconst (v := 0) hx hb dX11_book_56 (by decide) ?_
      refine lv_istore (lv' := [(5, .int 0), (0, .ref y), (1, .int x1), (2, .int x2), (3, .int x3), (4, .int x4)]) hx hb dX11_book_57 hl (by decide) rfl (fun ls hl => ?_)
      refine lv_iload hx hb dX11_book_59 (lv_at hl 0 rfl) ?_
      refine lv_if_eq (tgt := 76) hx hb dX11_book_61 (by decide) (fun c_7 => ?_) (fun c_7 => absurd (show (0 : Int32) = (0 : Int32) by decide) c_7)
      refine lv_iconst (v := (-1)) hx hb dX11_book_76 (by decide) ?_
      exact y_ir K hP hD hS (Nat.le_of_ble_eq_true rfl) (Nat.le_of_ble_eq_true rfl) (ty := .int) rfl rfl dX11_book_77 (by refine ⟨(congrArg (fun z => some (Value.int z)) (show (-1) = bookA pc x1 x2 x3 x4 from by simp [bookA, bookC, bookL, addA, addC, addL, c_1, c_6])), ?_⟩; rw [show bookC pc x1 x2 x3 x4 = pc from by simp [bookA, bookC, bookL, addA, addC, addL, c_1, c_6], show bookL plv pc x1 x2 x3 x4 = plv from by simp [bookA, bookC, bookL, addA, addC, addL, c_1, c_6]]; exact ⟨wd_kp.rf, hIM0⟩)
    · refine lv_iload_n hx hb dX11_book_19 rfl (lv_at hl 2 rfl) ?_
      refine lv_iconst (v := 1) hx hb dX11_book_20 (by decide) ?_
      refine lv_sipush (v := 10000) hx hb dX11_book_21 (by decide) ?_
      refine x_callS (n := 3) (As := [.int x2, .int 1, .int 10000]) (rest := []) F hP hD hS (g_in l D cy sk sv w x2 1 10000) gX11_book_X11_in rfl (by decide +kernel) ⟨(Nat.le_of_ble_eq_true rfl), (Nat.le_of_ble_eq_true rfl)⟩ rfl hl.1 (Nat.le_of_ble_eq_true rfl) dX11_book_24 rfl ⟨(Nat.le_of_ble_eq_true rfl), (Nat.le_of_ble_eq_true rfl)⟩ (fun v9 w10 hp8 H locs hP hD hS => ?_)
      obtain ⟨rfl, rfl⟩ := hp8
      refine W.eq (g2 := F0 m 27 ls [.int (wi x2 1 10000)]) rfl (W.widen (k := 0) (n := 0) (Nat.le_of_ble_eq_true rfl) (Nat.le_of_ble_eq_true rfl) ?_)
      refine lv_if_eq (tgt := 56) hx hb dX11_book_27 (by decide) (fun c_11 => ?_) (fun c_11 => ?_)
      · refine lv_iconst (v := 0) hx hb dX11_book_56 (by decide) ?_
        refine lv_istore (lv' := [(5, .int 0), (0, .ref y), (1, .int x1), (2, .int x2), (3, .int x3), (4, .int x4)]) hx hb dX11_book_57 hl (by decide) rfl (fun ls hl => ?_)
        refine lv_iload hx hb dX11_book_59 (lv_at hl 0 rfl) ?_
        refine lv_if_eq (tgt := 76) hx hb dX11_book_61 (by decide) (fun c_12 => ?_) (fun c_12 => absurd (show (0 : Int32) = (0 : Int32) by decide) c_12)
        refine lv_iconst (v := (-1)) hx hb dX11_book_76 (by decide) ?_
        exact y_ir K hP hD hS (Nat.le_of_ble_eq_true rfl) (Nat.le_of_ble_eq_true rfl) (ty := .int) rfl rfl dX11_book_77 (by refine ⟨(congrArg (fun z => some (Value.int z)) (show (-1) = bookA pc x1 x2 x3 x4 from by simp [bookA, bookC, bookL, addA, addC, addL, c_1, c_6, c_11])), ?_⟩; rw [show bookC pc x1 x2 x3 x4 = pc from by simp [bookA, bookC, bookL, addA, addC, addL, c_1, c_6, c_11], show bookL plv pc x1 x2 x3 x4 = plv from by simp [bookA, bookC, bookL, addA, addC, addL, c_1, c_6, c_11]]; exact ⟨wd_kp.rf, hIM0⟩)
      · refine lv_iload_n hx hb dX11_book_30 rfl (lv_at hl 3 rfl) ?_
        refine lv_iconst (v := 0) hx hb dX11_book_31 (by decide) ?_
        refine lv_ldc (v := 99999) hx hb hown (hts _ (List.mem_cons_of_mem _ (List.mem_append_left _ (List.mem_of_getElem? (i := 1) rfl)))) dX11_book_32 ?_
        refine x_callS (n := 3) (As := [.int x3, .int 0, .int 99999]) (rest := []) F hP hD hS (g_in l D cy sk sv w x3 0 99999) gX11_book_X11_in rfl (by decide +kernel) ⟨(Nat.le_of_ble_eq_true rfl), (Nat.le_of_ble_eq_true rfl)⟩ rfl hl.1 (Nat.le_of_ble_eq_true rfl) dX11_book_34 rfl ⟨(Nat.le_of_ble_eq_true rfl), (Nat.le_of_ble_eq_true rfl)⟩ (fun v14 w15 hp13 H locs hP hD hS => ?_)
        obtain ⟨rfl, rfl⟩ := hp13
        refine W.eq (g2 := F0 m 37 ls [.int (wi x3 0 99999)]) rfl (W.widen (k := 0) (n := 0) (Nat.le_of_ble_eq_true rfl) (Nat.le_of_ble_eq_true rfl) ?_)
        refine lv_if_eq (tgt := 56) hx hb dX11_book_37 (by decide) (fun c_16 => ?_) (fun c_16 => ?_)
        · refine lv_iconst (v := 0) hx hb dX11_book_56 (by decide) ?_
          refine lv_istore (lv' := [(5, .int 0), (0, .ref y), (1, .int x1), (2, .int x2), (3, .int x3), (4, .int x4)]) hx hb dX11_book_57 hl (by decide) rfl (fun ls hl => ?_)
          refine lv_iload hx hb dX11_book_59 (lv_at hl 0 rfl) ?_
          refine lv_if_eq (tgt := 76) hx hb dX11_book_61 (by decide) (fun c_17 => ?_) (fun c_17 => absurd (show (0 : Int32) = (0 : Int32) by decide) c_17)
          refine lv_iconst (v := (-1)) hx hb dX11_book_76 (by decide) ?_
          exact y_ir K hP hD hS (Nat.le_of_ble_eq_true rfl) (Nat.le_of_ble_eq_true rfl) (ty := .int) rfl rfl dX11_book_77 (by refine ⟨(congrArg (fun z => some (Value.int z)) (show (-1) = bookA pc x1 x2 x3 x4 from by simp [bookA, bookC, bookL, addA, addC, addL, c_1, c_6, c_11, c_16])), ?_⟩; rw [show bookC pc x1 x2 x3 x4 = pc from by simp [bookA, bookC, bookL, addA, addC, addL, c_1, c_6, c_11, c_16], show bookL plv pc x1 x2 x3 x4 = plv from by simp [bookA, bookC, bookL, addA, addC, addL, c_1, c_6, c_11, c_16]]; exact ⟨wd_kp.rf, hIM0⟩)
        · refine lv_iload hx hb dX11_book_40 (lv_at hl 4 rfl) ?_
          refine lv_iconst (v := 1) hx hb dX11_book_42 (by decide) ?_
          refine lv_sipush (v := 2000) hx hb dX11_book_43 (by decide) ?_
          refine x_callS (n := 3) (As := [.int x4, .int 1, .int 2000]) (rest := []) F hP hD hS (g_in l D cy sk sv w x4 1 2000) gX11_book_X11_in rfl (by decide +kernel) ⟨(Nat.le_of_ble_eq_true rfl), (Nat.le_of_ble_eq_true rfl)⟩ rfl hl.1 (Nat.le_of_ble_eq_true rfl) dX11_book_46 rfl ⟨(Nat.le_of_ble_eq_true rfl), (Nat.le_of_ble_eq_true rfl)⟩ (fun v19 w20 hp18 H locs hP hD hS => ?_)
          obtain ⟨rfl, rfl⟩ := hp18
          refine W.eq (g2 := F0 m 49 ls [.int (wi x4 1 2000)]) rfl (W.widen (k := 0) (n := 0) (Nat.le_of_ble_eq_true rfl) (Nat.le_of_ble_eq_true rfl) ?_)
          refine lv_if_eq (tgt := 56) hx hb dX11_book_49 (by decide) (fun c_21 => ?_) (fun c_21 => ?_)
          · refine lv_iconst (v := 0) hx hb dX11_book_56 (by decide) ?_
            refine lv_istore (lv' := [(5, .int 0), (0, .ref y), (1, .int x1), (2, .int x2), (3, .int x3), (4, .int x4)]) hx hb dX11_book_57 hl (by decide) rfl (fun ls hl => ?_)
            refine lv_iload hx hb dX11_book_59 (lv_at hl 0 rfl) ?_
            refine lv_if_eq (tgt := 76) hx hb dX11_book_61 (by decide) (fun c_22 => ?_) (fun c_22 => absurd (show (0 : Int32) = (0 : Int32) by decide) c_22)
            refine lv_iconst (v := (-1)) hx hb dX11_book_76 (by decide) ?_
            exact y_ir K hP hD hS (Nat.le_of_ble_eq_true rfl) (Nat.le_of_ble_eq_true rfl) (ty := .int) rfl rfl dX11_book_77 (by refine ⟨(congrArg (fun z => some (Value.int z)) (show (-1) = bookA pc x1 x2 x3 x4 from by simp [bookA, bookC, bookL, addA, addC, addL, c_1, c_6, c_11, c_16, c_21])), ?_⟩; rw [show bookC pc x1 x2 x3 x4 = pc from by simp [bookA, bookC, bookL, addA, addC, addL, c_1, c_6, c_11, c_16, c_21], show bookL plv pc x1 x2 x3 x4 = plv from by simp [bookA, bookC, bookL, addA, addC, addL, c_1, c_6, c_11, c_16, c_21]]; exact ⟨wd_kp.rf, hIM0⟩)
          · refine lv_iconst (v := 1) hx hb dX11_book_52 (by decide) ?_
            refine lv_goto (tgt := 57) hx hb dX11_book_53 (by decide) ?_
            refine lv_istore (lv' := [(5, .int 1), (0, .ref y), (1, .int x1), (2, .int x2), (3, .int x3), (4, .int x4)]) hx hb dX11_book_57 hl (by decide) rfl (fun ls hl => ?_)
            refine lv_iload hx hb dX11_book_59 (lv_at hl 0 rfl) ?_
            refine lv_if_eq (tgt := 76) hx hb dX11_book_61 (by decide) (fun c_23 => absurd c_23 (show ¬ (1 : Int32) = (0 : Int32) by decide)) (fun c_23 => ?_)
            refine lv_aload_n hx hb dX11_book_64 rfl (lv_at hl 1 rfl) ?_
            refine lv_iload_n hx hb dX11_book_65 rfl (lv_at hl 2 rfl) ?_
            refine lv_iload_n hx hb dX11_book_66 rfl (lv_at hl 3 rfl) ?_
            refine lv_iload_n hx hb dX11_book_67 rfl (lv_at hl 4 rfl) ?_
            refine lv_iload hx hb dX11_book_68 (lv_at hl 5 rfl) ?_
            refine x_callV (n := 4) (As := [.int x1, .int x2, .int x3, .int x4]) (rest := []) F hP hD hS (m_makes l D cy sk sv w tg y m2 m3 m4 m5 m6 m8 m9 m10 m11 m12 m13 m14 m17 m18 m19 m20 m21 m22 m23 m24 m29 m30 m31 m32 m33 m34 m35 m36 m37 m39 m40 m41 m42 m43 m44 m45 m46 m47 m48 m49 m51 m52 m53 m54 m56 m57 m58 m59 pc ac sc ln sh gf v0 td v26 v27 v28 v50 f8 f9 f10 f11 f12 x1 x2 x3 x4 kI0 kI6 kI7 kI8 kI9 kI10 (fun b => b = y ∨ b = m8 ∨ b = m9 ∨ b = m10 ∨ b = m11 ∨ b = m12) (Or.inl rfl) (Or.inr (Or.inl rfl)) (Or.inr (Or.inr (Or.inl rfl))) (Or.inr (Or.inr (Or.inr (Or.inl rfl)))) (Or.inr (Or.inr (Or.inr (Or.inr (Or.inl rfl))))) (Or.inr (Or.inr (Or.inr (Or.inr (Or.inr rfl))))) tI0 tI6 tI7 tI8 tI9 tI10 (by omega)) gX11_book_X11_makes rfl rfl (by decide +kernel) ⟨(Nat.le_of_ble_eq_true rfl), (Nat.le_of_ble_eq_true rfl)⟩ rfl hl.1 (Nat.le_of_ble_eq_true rfl) kI0 rfl dX11_book_70 rfl ⟨(Nat.le_of_ble_eq_true rfl), (Nat.le_of_ble_eq_true rfl)⟩ (fun v25 w26 hp24 H locs hP hD hS => ?_)
            obtain ⟨rfl, kq33, k27, k28, k29, k30, k31, k32⟩ := hp24
            have k34 := kq33.2 _ _ kI1 (orN (tg_ne tI1 tI0 (by decide)) (orN (tg_ne tI1 tI6 (by decide)) (orN (tg_ne tI1 tI7 (by decide)) (orN (tg_ne tI1 tI8 (by decide)) (orN (tg_ne tI1 tI9 (by decide)) (tg_ne tI1 tI10 (by decide)))))))
            have k35 := kq33.2 _ _ kI2 (orN (tg_ne tI2 tI0 (by decide)) (orN (tg_ne tI2 tI6 (by decide)) (orN (tg_ne tI2 tI7 (by decide)) (orN (tg_ne tI2 tI8 (by decide)) (orN (tg_ne tI2 tI9 (by decide)) (tg_ne tI2 tI10 (by decide)))))))
            have k36 := kq33.2 _ _ kI3 (orN (tg_ne tI3 tI0 (by decide)) (orN (tg_ne tI3 tI6 (by decide)) (orN (tg_ne tI3 tI7 (by decide)) (orN (tg_ne tI3 tI8 (by decide)) (orN (tg_ne tI3 tI9 (by decide)) (tg_ne tI3 tI10 (by decide)))))))
            have k37 := kq33.2 _ _ kI4 (orN (tg_ne tI4 tI0 (by decide)) (orN (tg_ne tI4 tI6 (by decide)) (orN (tg_ne tI4 tI7 (by decide)) (orN (tg_ne tI4 tI8 (by decide)) (orN (tg_ne tI4 tI9 (by decide)) (tg_ne tI4 tI10 (by decide)))))))
            have k38 := kq33.2 _ _ kI5 (orN (tg_ne tI5 tI0 (by decide)) (orN (tg_ne tI5 tI6 (by decide)) (orN (tg_ne tI5 tI7 (by decide)) (orN (tg_ne tI5 tI8 (by decide)) (orN (tg_ne tI5 tI9 (by decide)) (tg_ne tI5 tI10 (by decide)))))))
            have k39 := kq33.2 _ _ kI11 (orN (tg_ne tI11 tI0 (by decide)) (orN (tg_ne tI11 tI6 (by decide)) (orN (tg_ne tI11 tI7 (by decide)) (orN (tg_ne tI11 tI8 (by decide)) (orN (tg_ne tI11 tI9 (by decide)) (tg_ne tI11 tI10 (by decide)))))))
            have k40 := kq33.2 _ _ kI12 (orN (tg_ne tI12 tI0 (by decide)) (orN (tg_ne tI12 tI6 (by decide)) (orN (tg_ne tI12 tI7 (by decide)) (orN (tg_ne tI12 tI8 (by decide)) (orN (tg_ne tI12 tI9 (by decide)) (tg_ne tI12 tI10 (by decide)))))))
            have k41 := kq33.2 _ _ kI13 (orN (tg_ne tI13 tI0 (by decide)) (orN (tg_ne tI13 tI6 (by decide)) (orN (tg_ne tI13 tI7 (by decide)) (orN (tg_ne tI13 tI8 (by decide)) (orN (tg_ne tI13 tI9 (by decide)) (tg_ne tI13 tI10 (by decide)))))))
            have k42 := kq33.2 _ _ kI14 (orN (tg_ne tI14 tI0 (by decide)) (orN (tg_ne tI14 tI6 (by decide)) (orN (tg_ne tI14 tI7 (by decide)) (orN (tg_ne tI14 tI8 (by decide)) (orN (tg_ne tI14 tI9 (by decide)) (tg_ne tI14 tI10 (by decide)))))))
            have k43 := kq33.2 _ _ kI15 (orN (tg_ne tI15 tI0 (by decide)) (orN (tg_ne tI15 tI6 (by decide)) (orN (tg_ne tI15 tI7 (by decide)) (orN (tg_ne tI15 tI8 (by decide)) (orN (tg_ne tI15 tI9 (by decide)) (tg_ne tI15 tI10 (by decide)))))))
            have k44 := kq33.2 _ _ kI16 (orN (tg_ne tI16 tI0 (by decide)) (orN (tg_ne tI16 tI6 (by decide)) (orN (tg_ne tI16 tI7 (by decide)) (orN (tg_ne tI16 tI8 (by decide)) (orN (tg_ne tI16 tI9 (by decide)) (tg_ne tI16 tI10 (by decide)))))))
            have k45 := kq33.2 _ _ kI17 (orN (tg_ne tI17 tI0 (by decide)) (orN (tg_ne tI17 tI6 (by decide)) (orN (tg_ne tI17 tI7 (by decide)) (orN (tg_ne tI17 tI8 (by decide)) (orN (tg_ne tI17 tI9 (by decide)) (tg_ne tI17 tI10 (by decide)))))))
            have k46 := kq33.2 _ _ kI18 (orN (tg_ne tI18 tI0 (by decide)) (orN (tg_ne tI18 tI6 (by decide)) (orN (tg_ne tI18 tI7 (by decide)) (orN (tg_ne tI18 tI8 (by decide)) (orN (tg_ne tI18 tI9 (by decide)) (tg_ne tI18 tI10 (by decide)))))))
            have k47 := kq33.2 _ _ kI19 (orN (tg_ne tI19 tI0 (by decide)) (orN (tg_ne tI19 tI6 (by decide)) (orN (tg_ne tI19 tI7 (by decide)) (orN (tg_ne tI19 tI8 (by decide)) (orN (tg_ne tI19 tI9 (by decide)) (tg_ne tI19 tI10 (by decide)))))))
            have k48 := kq33.2 _ _ kI20 (orN (tg_ne tI20 tI0 (by decide)) (orN (tg_ne tI20 tI6 (by decide)) (orN (tg_ne tI20 tI7 (by decide)) (orN (tg_ne tI20 tI8 (by decide)) (orN (tg_ne tI20 tI9 (by decide)) (tg_ne tI20 tI10 (by decide)))))))
            have k49 := kq33.2 _ _ kI21 (orN (tg_ne tI21 tI0 (by decide)) (orN (tg_ne tI21 tI6 (by decide)) (orN (tg_ne tI21 tI7 (by decide)) (orN (tg_ne tI21 tI8 (by decide)) (orN (tg_ne tI21 tI9 (by decide)) (tg_ne tI21 tI10 (by decide)))))))
            have k50 := kq33.2 _ _ kI22 (orN (tg_ne tI22 tI0 (by decide)) (orN (tg_ne tI22 tI6 (by decide)) (orN (tg_ne tI22 tI7 (by decide)) (orN (tg_ne tI22 tI8 (by decide)) (orN (tg_ne tI22 tI9 (by decide)) (tg_ne tI22 tI10 (by decide)))))))
            have k51 := kq33.2 _ _ kI23 (orN (tg_ne tI23 tI0 (by decide)) (orN (tg_ne tI23 tI6 (by decide)) (orN (tg_ne tI23 tI7 (by decide)) (orN (tg_ne tI23 tI8 (by decide)) (orN (tg_ne tI23 tI9 (by decide)) (tg_ne tI23 tI10 (by decide)))))))
            have k52 := kq33.2 _ _ kI24 (orN (tg_ne tI24 tI0 (by decide)) (orN (tg_ne tI24 tI6 (by decide)) (orN (tg_ne tI24 tI7 (by decide)) (orN (tg_ne tI24 tI8 (by decide)) (orN (tg_ne tI24 tI9 (by decide)) (tg_ne tI24 tI10 (by decide)))))))
            have k53 := kq33.2 _ _ kI25 (orN (tg_ne tI25 tI0 (by decide)) (orN (tg_ne tI25 tI6 (by decide)) (orN (tg_ne tI25 tI7 (by decide)) (orN (tg_ne tI25 tI8 (by decide)) (orN (tg_ne tI25 tI9 (by decide)) (tg_ne tI25 tI10 (by decide)))))))
            have k54 := kq33.2 _ _ kI26 (orN (tg_ne tI26 tI0 (by decide)) (orN (tg_ne tI26 tI6 (by decide)) (orN (tg_ne tI26 tI7 (by decide)) (orN (tg_ne tI26 tI8 (by decide)) (orN (tg_ne tI26 tI9 (by decide)) (tg_ne tI26 tI10 (by decide)))))))
            have k55 := kq33.2 _ _ kI27 (orN (tg_ne tI27 tI0 (by decide)) (orN (tg_ne tI27 tI6 (by decide)) (orN (tg_ne tI27 tI7 (by decide)) (orN (tg_ne tI27 tI8 (by decide)) (orN (tg_ne tI27 tI9 (by decide)) (tg_ne tI27 tI10 (by decide)))))))
            have k56 := kq33.2 _ _ kI28 (orN (tg_ne tI28 tI0 (by decide)) (orN (tg_ne tI28 tI6 (by decide)) (orN (tg_ne tI28 tI7 (by decide)) (orN (tg_ne tI28 tI8 (by decide)) (orN (tg_ne tI28 tI9 (by decide)) (tg_ne tI28 tI10 (by decide)))))))
            have k57 := kq33.2 _ _ kI29 (orN (tg_ne tI29 tI0 (by decide)) (orN (tg_ne tI29 tI6 (by decide)) (orN (tg_ne tI29 tI7 (by decide)) (orN (tg_ne tI29 tI8 (by decide)) (orN (tg_ne tI29 tI9 (by decide)) (tg_ne tI29 tI10 (by decide)))))))
            have k58 := kq33.2 _ _ kI30 (orN (tg_ne tI30 tI0 (by decide)) (orN (tg_ne tI30 tI6 (by decide)) (orN (tg_ne tI30 tI7 (by decide)) (orN (tg_ne tI30 tI8 (by decide)) (orN (tg_ne tI30 tI9 (by decide)) (tg_ne tI30 tI10 (by decide)))))))
            have k59 := kq33.2 _ _ kI31 (orN (tg_ne tI31 tI0 (by decide)) (orN (tg_ne tI31 tI6 (by decide)) (orN (tg_ne tI31 tI7 (by decide)) (orN (tg_ne tI31 tI8 (by decide)) (orN (tg_ne tI31 tI9 (by decide)) (tg_ne tI31 tI10 (by decide)))))))
            have k60 := kq33.2 _ _ kI32 (orN (tg_ne tI32 tI0 (by decide)) (orN (tg_ne tI32 tI6 (by decide)) (orN (tg_ne tI32 tI7 (by decide)) (orN (tg_ne tI32 tI8 (by decide)) (orN (tg_ne tI32 tI9 (by decide)) (tg_ne tI32 tI10 (by decide)))))))
            have k61 := kq33.2 _ _ kI33 (orN (tg_ne tI33 tI0 (by decide)) (orN (tg_ne tI33 tI6 (by decide)) (orN (tg_ne tI33 tI7 (by decide)) (orN (tg_ne tI33 tI8 (by decide)) (orN (tg_ne tI33 tI9 (by decide)) (tg_ne tI33 tI10 (by decide)))))))
            have k62 := kq33.2 _ _ kI34 (orN (tg_ne tI34 tI0 (by decide)) (orN (tg_ne tI34 tI6 (by decide)) (orN (tg_ne tI34 tI7 (by decide)) (orN (tg_ne tI34 tI8 (by decide)) (orN (tg_ne tI34 tI9 (by decide)) (tg_ne tI34 tI10 (by decide)))))))
            have k63 := kq33.2 _ _ kI35 (orN (tg_ne tI35 tI0 (by decide)) (orN (tg_ne tI35 tI6 (by decide)) (orN (tg_ne tI35 tI7 (by decide)) (orN (tg_ne tI35 tI8 (by decide)) (orN (tg_ne tI35 tI9 (by decide)) (tg_ne tI35 tI10 (by decide)))))))
            have k64 := kq33.2 _ _ kI36 (orN (tg_ne tI36 tI0 (by decide)) (orN (tg_ne tI36 tI6 (by decide)) (orN (tg_ne tI36 tI7 (by decide)) (orN (tg_ne tI36 tI8 (by decide)) (orN (tg_ne tI36 tI9 (by decide)) (tg_ne tI36 tI10 (by decide)))))))
            have k65 := kq33.2 _ _ kI37 (orN (tg_ne tI37 tI0 (by decide)) (orN (tg_ne tI37 tI6 (by decide)) (orN (tg_ne tI37 tI7 (by decide)) (orN (tg_ne tI37 tI8 (by decide)) (orN (tg_ne tI37 tI9 (by decide)) (tg_ne tI37 tI10 (by decide)))))))
            have k66 := kq33.2 _ _ kI38 (orN (tg_ne tI38 tI0 (by decide)) (orN (tg_ne tI38 tI6 (by decide)) (orN (tg_ne tI38 tI7 (by decide)) (orN (tg_ne tI38 tI8 (by decide)) (orN (tg_ne tI38 tI9 (by decide)) (tg_ne tI38 tI10 (by decide)))))))
            have k67 := kq33.2 _ _ kI39 (orN (tg_ne tI39 tI0 (by decide)) (orN (tg_ne tI39 tI6 (by decide)) (orN (tg_ne tI39 tI7 (by decide)) (orN (tg_ne tI39 tI8 (by decide)) (orN (tg_ne tI39 tI9 (by decide)) (tg_ne tI39 tI10 (by decide)))))))
            have k68 := kq33.2 _ _ kI40 (orN (tg_ne tI40 tI0 (by decide)) (orN (tg_ne tI40 tI6 (by decide)) (orN (tg_ne tI40 tI7 (by decide)) (orN (tg_ne tI40 tI8 (by decide)) (orN (tg_ne tI40 tI9 (by decide)) (tg_ne tI40 tI10 (by decide)))))))
            have k69 := kq33.2 _ _ kI41 (orN (tg_ne tI41 tI0 (by decide)) (orN (tg_ne tI41 tI6 (by decide)) (orN (tg_ne tI41 tI7 (by decide)) (orN (tg_ne tI41 tI8 (by decide)) (orN (tg_ne tI41 tI9 (by decide)) (tg_ne tI41 tI10 (by decide)))))))
            have k70 := kq33.2 _ _ kI42 (orN (tg_ne tI42 tI0 (by decide)) (orN (tg_ne tI42 tI6 (by decide)) (orN (tg_ne tI42 tI7 (by decide)) (orN (tg_ne tI42 tI8 (by decide)) (orN (tg_ne tI42 tI9 (by decide)) (tg_ne tI42 tI10 (by decide)))))))
            have k71 := kq33.2 _ _ kI43 (orN (tg_ne tI43 tI0 (by decide)) (orN (tg_ne tI43 tI6 (by decide)) (orN (tg_ne tI43 tI7 (by decide)) (orN (tg_ne tI43 tI8 (by decide)) (orN (tg_ne tI43 tI9 (by decide)) (tg_ne tI43 tI10 (by decide)))))))
            have k72 := kq33.2 _ _ kI44 (orN (tg_ne tI44 tI0 (by decide)) (orN (tg_ne tI44 tI6 (by decide)) (orN (tg_ne tI44 tI7 (by decide)) (orN (tg_ne tI44 tI8 (by decide)) (orN (tg_ne tI44 tI9 (by decide)) (tg_ne tI44 tI10 (by decide)))))))
            have k73 := kq33.2 _ _ kI45 (orN (tg_ne tI45 tI0 (by decide)) (orN (tg_ne tI45 tI6 (by decide)) (orN (tg_ne tI45 tI7 (by decide)) (orN (tg_ne tI45 tI8 (by decide)) (orN (tg_ne tI45 tI9 (by decide)) (tg_ne tI45 tI10 (by decide)))))))
            have k74 := kq33.2 _ _ kI46 (orN (tg_ne tI46 tI0 (by decide)) (orN (tg_ne tI46 tI6 (by decide)) (orN (tg_ne tI46 tI7 (by decide)) (orN (tg_ne tI46 tI8 (by decide)) (orN (tg_ne tI46 tI9 (by decide)) (tg_ne tI46 tI10 (by decide)))))))
            have k75 := kq33.2 _ _ kI47 (orN (tg_ne tI47 tI0 (by decide)) (orN (tg_ne tI47 tI6 (by decide)) (orN (tg_ne tI47 tI7 (by decide)) (orN (tg_ne tI47 tI8 (by decide)) (orN (tg_ne tI47 tI9 (by decide)) (tg_ne tI47 tI10 (by decide)))))))
            have k76 := kq33.2 _ _ kI48 (orN (tg_ne tI48 tI0 (by decide)) (orN (tg_ne tI48 tI6 (by decide)) (orN (tg_ne tI48 tI7 (by decide)) (orN (tg_ne tI48 tI8 (by decide)) (orN (tg_ne tI48 tI9 (by decide)) (tg_ne tI48 tI10 (by decide)))))))
            have fm77 : ∀ k9, k9 < 12 → qp k9 = some (pr k9) ∧ wd_at w26 (pr k9) (.inl (cy 2, 12, .inl (fp k9))) ∧ tg (pr k9) = 11000 + k9 := fun k9 hi9 => ⟨(hFPR k9 hi9).1, kq33.2 _ _ (hFPR k9 hi9).2.1 (orN (tg_ne (hFPR k9 hi9).2.2 tI0 (tnA (show 10000 < 11000 by decide))) (orN (tg_ne (hFPR k9 hi9).2.2 tI6 (tnA (show 10108 < 11000 by decide))) (orN (tg_ne (hFPR k9 hi9).2.2 tI7 (tnA (show 10109 < 11000 by decide))) (orN (tg_ne (hFPR k9 hi9).2.2 tI8 (tnA (show 10110 < 11000 by decide))) (orN (tg_ne (hFPR k9 hi9).2.2 tI9 (tnA (show 10111 < 11000 by decide))) (tg_ne (hFPR k9 hi9).2.2 tI10 (tnA (show 10112 < 11000 by decide)))))))), (hFPR k9 hi9).2.2⟩
            have fm78 : ∀ k9, k9 < 12 → qw k9 = some (wr k9) ∧ wd_at w26 (wr k9) (.inl (cy 2, 12, .inl (fw k9))) ∧ tg (wr k9) = 12000 + k9 := fun k9 hi9 => ⟨(hFWR k9 hi9).1, kq33.2 _ _ (hFWR k9 hi9).2.1 (orN (tg_ne (hFWR k9 hi9).2.2 tI0 (tnA (show 10000 < 12000 by decide))) (orN (tg_ne (hFWR k9 hi9).2.2 tI6 (tnA (show 10108 < 12000 by decide))) (orN (tg_ne (hFWR k9 hi9).2.2 tI7 (tnA (show 10109 < 12000 by decide))) (orN (tg_ne (hFWR k9 hi9).2.2 tI8 (tnA (show 10110 < 12000 by decide))) (orN (tg_ne (hFWR k9 hi9).2.2 tI9 (tnA (show 10111 < 12000 by decide))) (tg_ne (hFWR k9 hi9).2.2 tI10 (tnA (show 10112 < 12000 by decide)))))))), (hFWR k9 hi9).2.2⟩
            have fm79 : ∀ k9, k9 < 60 → qs k9 = some (sr k9) ∧ wd_at w26 (sr k9) (.inl (cy 2, 12, .inl (fs k9))) ∧ tg (sr k9) = 13000 + k9 := fun k9 hi9 => ⟨(hFSR k9 hi9).1, kq33.2 _ _ (hFSR k9 hi9).2.1 (orN (tg_ne (hFSR k9 hi9).2.2 tI0 (tnA (show 10000 < 13000 by decide))) (orN (tg_ne (hFSR k9 hi9).2.2 tI6 (tnA (show 10108 < 13000 by decide))) (orN (tg_ne (hFSR k9 hi9).2.2 tI7 (tnA (show 10109 < 13000 by decide))) (orN (tg_ne (hFSR k9 hi9).2.2 tI8 (tnA (show 10110 < 13000 by decide))) (orN (tg_ne (hFSR k9 hi9).2.2 tI9 (tnA (show 10111 < 13000 by decide))) (tg_ne (hFSR k9 hi9).2.2 tI10 (tnA (show 10112 < 13000 by decide)))))))), (hFSR k9 hi9).2.2⟩
            have kp80 := kp0.tr kq33 (fun b9 hm q9 => (fun q9 => Or.elim q9 (fun q9 => q9 ▸ (tgT tI0 (by decide))) (fun q9 => Or.elim q9 (fun q9 => q9 ▸ (tgT tI6 (by decide))) (fun q9 => Or.elim q9 (fun q9 => q9 ▸ (tgT tI7 (by decide))) (fun q9 => Or.elim q9 (fun q9 => q9 ▸ (tgT tI8 (by decide))) (fun q9 => Or.elim q9 (fun q9 => q9 ▸ (tgT tI9 (by decide))) (fun q9 => q9 ▸ (tgT tI10 (by decide)))))))) q9)
            refine W.eq (g2 := F0 m 73 ls [.int (nI pc)]) rfl (W.widen (k := 0) (n := 0) (Nat.le_of_ble_eq_true rfl) (Nat.le_of_ble_eq_true rfl) ?_)
            refine lv_goto (tgt := 77) hx hb dX11_book_73 (by decide) ?_
            have hX81 : IM cy tg y td (pc + 1) ac sc ln se (bookL plv pc x1 x2 x3 x4) w26 := IM.mk m2 m3 m4 m5 m6 m8 m9 m10 m11 m12 m13 m14 m17 m18 m19 m20 m21 m22 m23 m24 m29 m30 m31 m32 m33 m34 m35 m36 m37 m39 m40 m41 m42 m43 m44 m45 m46 m47 m48 m49 m51 m52 m53 m54 m56 m57 m58 m59 sh gf v0 v26 v27 v28 v50 f4 f5 f6 (upd f8 (nI pc).toNatClampNeg x1) (upd f9 (nI pc).toNatClampNeg x2) (upd f10 (nI pc).toNatClampNeg x3) (upd f11 (nI pc).toNatClampNeg td) (upd f12 (nI pc).toNatClampNeg x4) f13 f14 f17 f18 f19 f20 f21 f22 f24 f29 f30 f31 f32 f33 f34 f35 f36 f37 f39 f40 f41 f42 f43 f44 f45 f46 f47 f48 f49 f51 f52 f53 f54 f56 f57 f58 f59 qp pr fp qw wr fw qs sr fs (by omega) (by omega) (by omega) (by omega) (by omega) (by omega) hrl hc ht hp hso (by rw [show bookL plv pc x1 x2 x3 x4 = va_up plv pc x1 from by simp [bookL, addL, c_1, c_6, c_11, c_16, c_21]]; exact hlo.a (by omega) (wi20 c_6)) k27 tI0 k34 tI1 k35 tI2 k36 tI3 k37 tI4 k38 tI5 k28 tI6 k29 tI7 k30 tI8 k31 tI9 k32 tI10 k39 tI11 k40 tI12 k41 tI13 k42 tI14 k43 tI15 k44 tI16 k45 tI17 k46 tI18 k47 tI19 k48 tI20 k49 tI21 k50 tI22 k51 tI23 k52 tI24 k53 tI25 k54 tI26 k55 tI27 k56 tI28 k57 tI29 k58 tI30 k59 tI31 k60 tI32 k61 tI33 k62 tI34 k63 tI35 k64 tI36 k65 tI37 k66 tI38 k67 tI39 k68 tI40 k69 tI41 k70 tI42 k71 tI43 k72 tI44 k73 tI45 k74 tI46 k75 tI47 k76 tI48 fm77 fm78 fm79
            exact y_ir K hP hD hS (Nat.le_of_ble_eq_true rfl) (Nat.le_of_ble_eq_true rfl) (ty := .int) rfl rfl dX11_book_77 (by refine ⟨(congrArg (fun z => some (Value.int z)) (show nI pc = bookA pc x1 x2 x3 x4 from by simp [bookA, bookC, bookL, addA, addC, addL, c_1, c_6, c_11, c_16, c_21])), ?_⟩; rw [show bookC pc x1 x2 x3 x4 = (pc + 1) from by simp [bookA, bookC, bookL, addA, addC, addL, c_1, c_6, c_11, c_16, c_21]]; exact ⟨kp80, hX81⟩)
set_option maxHeartbeats 4000000 in
set_option maxRecDepth 100000 in
theorem M_credit (l : Launch) (D : va_G) (cy : Nat → ClassId) (sk sv : Nat → Nat) (w : Wd) (tg : Nat → Nat) (y : Nat) (td : Int32) (pc ac sc ln : Nat) (se plv : Nat → Int32) (x1 x2 x3 : Int32) (hIM0 : IM cy tg y td pc ac sc ln se plv w) : Ct l D cy sk sv yX11_credit wsX11_credit ({ frames := 1, cells := 0, slots := 0, locals := 24 }) [.ref y, .int x1, .int x2, .int x3] w (fun v w1 => v = some (.int (credA pc x1 x2 x3)) ∧ MP cy tg y td (credC pc x1 x2 x3) ac sc ln se (credL plv pc x1 x2 x3) w w1) := by
  refine Ct.by (cc := cX11_credit) (maxL := 5) (ret := (some .int)) (by decide +kernel) rfl (Nat.le_of_ble_eq_true rfl) ?_
  intro p e s m args below meth c A Q F hnm K ls hl
  have F : wd_Fx p s m args meth c cX11_credit 5 wsX11_credit RX11 D cy sk sv A := F
  have hl : lv_has ls 5 [(0, .ref y), (1, .int x1), (2, .int x2), (3, .int x3)] := hl
  have hx := F.1.1
  have hb := F.1.2.1
  have hown := F.1.2.2.2.1
  have hts := F.1.2.2.2.2
  intro H locs hP hD hS
  have kp0 : wd_kp (fun b => 10000 ≤ tg b) w w := wd_kp.rf
  refine hIM0 _ ?_
  intro m2 m3 m4 m5 m6 m8 m9 m10 m11 m12 m13 m14 m17 m18 m19 m20 m21 m22 m23 m24 m29 m30 m31 m32 m33 m34 m35 m36 m37 m39 m40 m41 m42 m43 m44 m45 m46 m47 m48 m49 m51 m52 m53 m54 m56 m57 m58 m59 sh gf v0 v26 v27 v28 v50 f4 f5 f6 f8 f9 f10 f11 f12 f13 f14 f17 f18 f19 f20 f21 f22 f24 f29 f30 f31 f32 f33 f34 f35 f36 f37 f39 f40 f41 f42 f43 f44 f45 f46 f47 f48 f49 f51 f52 f53 f54 f56 f57 f58 f59 qp pr fp qw wr fw qs sr fs hp90 hp91 hp92 hp93 hp94 hp95 hrl hc ht hp hso hlo kI0 tI0 kI1 tI1 kI2 tI2 kI3 tI3 kI4 tI4 kI5 tI5 kI6 tI6 kI7 tI7 kI8 tI8 kI9 tI9 kI10 tI10 kI11 tI11 kI12 tI12 kI13 tI13 kI14 tI14 kI15 tI15 kI16 tI16 kI17 tI17 kI18 tI18 kI19 tI19 kI20 tI20 kI21 tI21 kI22 tI22 kI23 tI23 kI24 tI24 kI25 tI25 kI26 tI26 kI27 tI27 kI28 tI28 kI29 tI29 kI30 tI30 kI31 tI31 kI32 tI32 kI33 tI33 kI34 tI34 kI35 tI35 kI36 tI36 kI37 tI37 kI38 tI38 kI39 tI39 kI40 tI40 kI41 tI41 kI42 tI42 kI43 tI43 kI44 tI44 kI45 tI45 kI46 tI46 kI47 tI47 kI48 tI48 hFPR hFWR hFSR
  refine lv_aload_n hx hb dX11_credit_0 rfl (lv_at hl 0 rfl) ?_
  refine x_get (ref := "NoteHouseModel") F hP kI0 rfl (fun _ h => List.mem_cons_of_mem _ (List.mem_append_right _ (h))) 7 (Nat.le_of_ble_eq_true rfl) (List.mem_cons_of_mem _ (List.mem_append_left _ (List.mem_of_getElem? (i := 0) rfl))) rfl rfl dX11_credit_1 ?_
  refine lv_bipush (v := 30) hx hb dX11_credit_4 (by decide) ?_
  refine lv_icmp_ge (tgt := 44) hx hb dX11_credit_6 (by decide) (fun c_1 => ?_) (fun c_1 => ?_)
  · refine lv_iconst (v := 0) hx hb dX11_credit_44 (by decide) ?_
    refine lv_istore (lv' := [(4, .int 0), (0, .ref y), (1, .int x1), (2, .int x2), (3, .int x3)]) hx hb dX11_credit_45 hl (by decide) rfl (fun ls hl => ?_)
    refine lv_iload hx hb dX11_credit_47 (lv_at hl 0 rfl) ?_
    refine lv_if_eq (tgt := 63) hx hb dX11_credit_49 (by decide) (fun c_2 => ?_) (fun c_2 => absurd (show (0 : Int32) = (0 : Int32) by decide) c_2)
    refine lv_iconst (v := (-1)) hx hb dX11_credit_63 (by decide) ?_
    exact y_ir K hP hD hS (Nat.le_of_ble_eq_true rfl) (Nat.le_of_ble_eq_true rfl) (ty := .int) rfl rfl dX11_credit_64 (by refine ⟨(congrArg (fun z => some (Value.int z)) (show (-1) = credA pc x1 x2 x3 from by simp [credA, credC, credL, addA, addC, addL, c_1])), ?_⟩; rw [show credC pc x1 x2 x3 = pc from by simp [credA, credC, credL, addA, addC, addL, c_1], show credL plv pc x1 x2 x3 = plv from by simp [credA, credC, credL, addA, addC, addL, c_1]]; exact ⟨wd_kp.rf, hIM0⟩)
  · have hb_pc : pc < 30 := nI_lt_of (n := 30) c_1 (by omega)
    refine lv_iload_n hx hb dX11_credit_9 rfl (lv_at hl 1 rfl) ?_
    refine lv_iconst (v := 1) hx hb dX11_credit_10 (by decide) ?_
    refine lv_ldc (v := 100000) hx hb hown (hts _ (List.mem_cons_of_mem _ (List.mem_append_left _ (List.mem_of_getElem? (i := 1) rfl)))) dX11_credit_11 ?_
    refine x_callS (n := 3) (As := [.int x1, .int 1, .int 100000]) (rest := []) F hP hD hS (g_in l D cy sk sv w x1 1 100000) gX11_credit_X11_in rfl (by decide +kernel) ⟨(Nat.le_of_ble_eq_true rfl), (Nat.le_of_ble_eq_true rfl)⟩ rfl hl.1 (Nat.le_of_ble_eq_true rfl) dX11_credit_13 rfl ⟨(Nat.le_of_ble_eq_true rfl), (Nat.le_of_ble_eq_true rfl)⟩ (fun v4 w5 hp3 H locs hP hD hS => ?_)
    obtain ⟨rfl, rfl⟩ := hp3
    refine W.eq (g2 := F0 m 16 ls [.int (wi x1 1 100000)]) rfl (W.widen (k := 0) (n := 0) (Nat.le_of_ble_eq_true rfl) (Nat.le_of_ble_eq_true rfl) ?_)
    refine lv_if_eq (tgt := 44) hx hb dX11_credit_16 (by decide) (fun c_6 => ?_) (fun c_6 => ?_)
    · refine lv_iconst (v := 0) hx hb dX11_credit_44 (by decide) ?_
      refine lv_istore (lv' := [(4, .int 0), (0, .ref y), (1, .int x1), (2, .int x2), (3, .int x3)]) hx hb dX11_credit_45 hl (by decide) rfl (fun ls hl => ?_)
      refine lv_iload hx hb dX11_credit_47 (lv_at hl 0 rfl) ?_
      refine lv_if_eq (tgt := 63) hx hb dX11_credit_49 (by decide) (fun c_7 => ?_) (fun c_7 => absurd (show (0 : Int32) = (0 : Int32) by decide) c_7)
      refine lv_iconst (v := (-1)) hx hb dX11_credit_63 (by decide) ?_
      exact y_ir K hP hD hS (Nat.le_of_ble_eq_true rfl) (Nat.le_of_ble_eq_true rfl) (ty := .int) rfl rfl dX11_credit_64 (by refine ⟨(congrArg (fun z => some (Value.int z)) (show (-1) = credA pc x1 x2 x3 from by simp [credA, credC, credL, addA, addC, addL, c_1, c_6])), ?_⟩; rw [show credC pc x1 x2 x3 = pc from by simp [credA, credC, credL, addA, addC, addL, c_1, c_6], show credL plv pc x1 x2 x3 = plv from by simp [credA, credC, credL, addA, addC, addL, c_1, c_6]]; exact ⟨wd_kp.rf, hIM0⟩)
    · refine lv_iload_n hx hb dX11_credit_19 rfl (lv_at hl 2 rfl) ?_
      refine lv_iconst (v := 0) hx hb dX11_credit_20 (by decide) ?_
      refine lv_ldc (v := 99999) hx hb hown (hts _ (List.mem_cons_of_mem _ (List.mem_append_left _ (List.mem_of_getElem? (i := 2) rfl)))) dX11_credit_21 ?_
      refine x_callS (n := 3) (As := [.int x2, .int 0, .int 99999]) (rest := []) F hP hD hS (g_in l D cy sk sv w x2 0 99999) gX11_credit_X11_in rfl (by decide +kernel) ⟨(Nat.le_of_ble_eq_true rfl), (Nat.le_of_ble_eq_true rfl)⟩ rfl hl.1 (Nat.le_of_ble_eq_true rfl) dX11_credit_23 rfl ⟨(Nat.le_of_ble_eq_true rfl), (Nat.le_of_ble_eq_true rfl)⟩ (fun v9 w10 hp8 H locs hP hD hS => ?_)
      obtain ⟨rfl, rfl⟩ := hp8
      refine W.eq (g2 := F0 m 26 ls [.int (wi x2 0 99999)]) rfl (W.widen (k := 0) (n := 0) (Nat.le_of_ble_eq_true rfl) (Nat.le_of_ble_eq_true rfl) ?_)
      refine lv_if_eq (tgt := 44) hx hb dX11_credit_26 (by decide) (fun c_11 => ?_) (fun c_11 => ?_)
      · refine lv_iconst (v := 0) hx hb dX11_credit_44 (by decide) ?_
        refine lv_istore (lv' := [(4, .int 0), (0, .ref y), (1, .int x1), (2, .int x2), (3, .int x3)]) hx hb dX11_credit_45 hl (by decide) rfl (fun ls hl => ?_)
        refine lv_iload hx hb dX11_credit_47 (lv_at hl 0 rfl) ?_
        refine lv_if_eq (tgt := 63) hx hb dX11_credit_49 (by decide) (fun c_12 => ?_) (fun c_12 => absurd (show (0 : Int32) = (0 : Int32) by decide) c_12)
        refine lv_iconst (v := (-1)) hx hb dX11_credit_63 (by decide) ?_
        exact y_ir K hP hD hS (Nat.le_of_ble_eq_true rfl) (Nat.le_of_ble_eq_true rfl) (ty := .int) rfl rfl dX11_credit_64 (by refine ⟨(congrArg (fun z => some (Value.int z)) (show (-1) = credA pc x1 x2 x3 from by simp [credA, credC, credL, addA, addC, addL, c_1, c_6, c_11])), ?_⟩; rw [show credC pc x1 x2 x3 = pc from by simp [credA, credC, credL, addA, addC, addL, c_1, c_6, c_11], show credL plv pc x1 x2 x3 = plv from by simp [credA, credC, credL, addA, addC, addL, c_1, c_6, c_11]]; exact ⟨wd_kp.rf, hIM0⟩)
      · refine lv_iload_n hx hb dX11_credit_29 rfl (lv_at hl 3 rfl) ?_
        refine lv_iconst (v := 1) hx hb dX11_credit_30 (by decide) ?_
        refine lv_sipush (v := 2000) hx hb dX11_credit_31 (by decide) ?_
        refine x_callS (n := 3) (As := [.int x3, .int 1, .int 2000]) (rest := []) F hP hD hS (g_in l D cy sk sv w x3 1 2000) gX11_credit_X11_in rfl (by decide +kernel) ⟨(Nat.le_of_ble_eq_true rfl), (Nat.le_of_ble_eq_true rfl)⟩ rfl hl.1 (Nat.le_of_ble_eq_true rfl) dX11_credit_34 rfl ⟨(Nat.le_of_ble_eq_true rfl), (Nat.le_of_ble_eq_true rfl)⟩ (fun v14 w15 hp13 H locs hP hD hS => ?_)
        obtain ⟨rfl, rfl⟩ := hp13
        refine W.eq (g2 := F0 m 37 ls [.int (wi x3 1 2000)]) rfl (W.widen (k := 0) (n := 0) (Nat.le_of_ble_eq_true rfl) (Nat.le_of_ble_eq_true rfl) ?_)
        refine lv_if_eq (tgt := 44) hx hb dX11_credit_37 (by decide) (fun c_16 => ?_) (fun c_16 => ?_)
        · refine lv_iconst (v := 0) hx hb dX11_credit_44 (by decide) ?_
          refine lv_istore (lv' := [(4, .int 0), (0, .ref y), (1, .int x1), (2, .int x2), (3, .int x3)]) hx hb dX11_credit_45 hl (by decide) rfl (fun ls hl => ?_)
          refine lv_iload hx hb dX11_credit_47 (lv_at hl 0 rfl) ?_
          refine lv_if_eq (tgt := 63) hx hb dX11_credit_49 (by decide) (fun c_17 => ?_) (fun c_17 => absurd (show (0 : Int32) = (0 : Int32) by decide) c_17)
          refine lv_iconst (v := (-1)) hx hb dX11_credit_63 (by decide) ?_
          exact y_ir K hP hD hS (Nat.le_of_ble_eq_true rfl) (Nat.le_of_ble_eq_true rfl) (ty := .int) rfl rfl dX11_credit_64 (by refine ⟨(congrArg (fun z => some (Value.int z)) (show (-1) = credA pc x1 x2 x3 from by simp [credA, credC, credL, addA, addC, addL, c_1, c_6, c_11, c_16])), ?_⟩; rw [show credC pc x1 x2 x3 = pc from by simp [credA, credC, credL, addA, addC, addL, c_1, c_6, c_11, c_16], show credL plv pc x1 x2 x3 = plv from by simp [credA, credC, credL, addA, addC, addL, c_1, c_6, c_11, c_16]]; exact ⟨wd_kp.rf, hIM0⟩)
        · refine lv_iconst (v := 1) hx hb dX11_credit_40 (by decide) ?_
          refine lv_goto (tgt := 45) hx hb dX11_credit_41 (by decide) ?_
          refine lv_istore (lv' := [(4, .int 1), (0, .ref y), (1, .int x1), (2, .int x2), (3, .int x3)]) hx hb dX11_credit_45 hl (by decide) rfl (fun ls hl => ?_)
          refine lv_iload hx hb dX11_credit_47 (lv_at hl 0 rfl) ?_
          refine lv_if_eq (tgt := 63) hx hb dX11_credit_49 (by decide) (fun c_18 => absurd c_18 (show ¬ (1 : Int32) = (0 : Int32) by decide)) (fun c_18 => ?_)
          refine lv_aload_n hx hb dX11_credit_52 rfl (lv_at hl 1 rfl) ?_
          refine lv_iconst (v := 0) hx hb dX11_credit_53 (by decide) ?_
          refine lv_iload_n hx hb dX11_credit_54 rfl (lv_at hl 2 rfl) ?_
          refine lv_iload_n hx hb dX11_credit_55 rfl (lv_at hl 3 rfl) ?_
          refine lv_iload_n hx hb dX11_credit_56 rfl (lv_at hl 4 rfl) ?_
          refine x_callV (n := 4) (As := [.int 0, .int x1, .int x2, .int x3]) (rest := []) F hP hD hS (m_makes l D cy sk sv w tg y m2 m3 m4 m5 m6 m8 m9 m10 m11 m12 m13 m14 m17 m18 m19 m20 m21 m22 m23 m24 m29 m30 m31 m32 m33 m34 m35 m36 m37 m39 m40 m41 m42 m43 m44 m45 m46 m47 m48 m49 m51 m52 m53 m54 m56 m57 m58 m59 pc ac sc ln sh gf v0 td v26 v27 v28 v50 f8 f9 f10 f11 f12 0 x1 x2 x3 kI0 kI6 kI7 kI8 kI9 kI10 (fun b => b = y ∨ b = m8 ∨ b = m9 ∨ b = m10 ∨ b = m11 ∨ b = m12) (Or.inl rfl) (Or.inr (Or.inl rfl)) (Or.inr (Or.inr (Or.inl rfl))) (Or.inr (Or.inr (Or.inr (Or.inl rfl)))) (Or.inr (Or.inr (Or.inr (Or.inr (Or.inl rfl))))) (Or.inr (Or.inr (Or.inr (Or.inr (Or.inr rfl))))) tI0 tI6 tI7 tI8 tI9 tI10 (by omega)) gX11_credit_X11_makes rfl rfl (by decide +kernel) ⟨(Nat.le_of_ble_eq_true rfl), (Nat.le_of_ble_eq_true rfl)⟩ rfl hl.1 (Nat.le_of_ble_eq_true rfl) kI0 rfl dX11_credit_57 rfl ⟨(Nat.le_of_ble_eq_true rfl), (Nat.le_of_ble_eq_true rfl)⟩ (fun v20 w21 hp19 H locs hP hD hS => ?_)
          obtain ⟨rfl, kq28, k22, k23, k24, k25, k26, k27⟩ := hp19
          have k29 := kq28.2 _ _ kI1 (orN (tg_ne tI1 tI0 (by decide)) (orN (tg_ne tI1 tI6 (by decide)) (orN (tg_ne tI1 tI7 (by decide)) (orN (tg_ne tI1 tI8 (by decide)) (orN (tg_ne tI1 tI9 (by decide)) (tg_ne tI1 tI10 (by decide)))))))
          have k30 := kq28.2 _ _ kI2 (orN (tg_ne tI2 tI0 (by decide)) (orN (tg_ne tI2 tI6 (by decide)) (orN (tg_ne tI2 tI7 (by decide)) (orN (tg_ne tI2 tI8 (by decide)) (orN (tg_ne tI2 tI9 (by decide)) (tg_ne tI2 tI10 (by decide)))))))
          have k31 := kq28.2 _ _ kI3 (orN (tg_ne tI3 tI0 (by decide)) (orN (tg_ne tI3 tI6 (by decide)) (orN (tg_ne tI3 tI7 (by decide)) (orN (tg_ne tI3 tI8 (by decide)) (orN (tg_ne tI3 tI9 (by decide)) (tg_ne tI3 tI10 (by decide)))))))
          have k32 := kq28.2 _ _ kI4 (orN (tg_ne tI4 tI0 (by decide)) (orN (tg_ne tI4 tI6 (by decide)) (orN (tg_ne tI4 tI7 (by decide)) (orN (tg_ne tI4 tI8 (by decide)) (orN (tg_ne tI4 tI9 (by decide)) (tg_ne tI4 tI10 (by decide)))))))
          have k33 := kq28.2 _ _ kI5 (orN (tg_ne tI5 tI0 (by decide)) (orN (tg_ne tI5 tI6 (by decide)) (orN (tg_ne tI5 tI7 (by decide)) (orN (tg_ne tI5 tI8 (by decide)) (orN (tg_ne tI5 tI9 (by decide)) (tg_ne tI5 tI10 (by decide)))))))
          have k34 := kq28.2 _ _ kI11 (orN (tg_ne tI11 tI0 (by decide)) (orN (tg_ne tI11 tI6 (by decide)) (orN (tg_ne tI11 tI7 (by decide)) (orN (tg_ne tI11 tI8 (by decide)) (orN (tg_ne tI11 tI9 (by decide)) (tg_ne tI11 tI10 (by decide)))))))
          have k35 := kq28.2 _ _ kI12 (orN (tg_ne tI12 tI0 (by decide)) (orN (tg_ne tI12 tI6 (by decide)) (orN (tg_ne tI12 tI7 (by decide)) (orN (tg_ne tI12 tI8 (by decide)) (orN (tg_ne tI12 tI9 (by decide)) (tg_ne tI12 tI10 (by decide)))))))
          have k36 := kq28.2 _ _ kI13 (orN (tg_ne tI13 tI0 (by decide)) (orN (tg_ne tI13 tI6 (by decide)) (orN (tg_ne tI13 tI7 (by decide)) (orN (tg_ne tI13 tI8 (by decide)) (orN (tg_ne tI13 tI9 (by decide)) (tg_ne tI13 tI10 (by decide)))))))
          have k37 := kq28.2 _ _ kI14 (orN (tg_ne tI14 tI0 (by decide)) (orN (tg_ne tI14 tI6 (by decide)) (orN (tg_ne tI14 tI7 (by decide)) (orN (tg_ne tI14 tI8 (by decide)) (orN (tg_ne tI14 tI9 (by decide)) (tg_ne tI14 tI10 (by decide)))))))
          have k38 := kq28.2 _ _ kI15 (orN (tg_ne tI15 tI0 (by decide)) (orN (tg_ne tI15 tI6 (by decide)) (orN (tg_ne tI15 tI7 (by decide)) (orN (tg_ne tI15 tI8 (by decide)) (orN (tg_ne tI15 tI9 (by decide)) (tg_ne tI15 tI10 (by decide)))))))
          have k39 := kq28.2 _ _ kI16 (orN (tg_ne tI16 tI0 (by decide)) (orN (tg_ne tI16 tI6 (by decide)) (orN (tg_ne tI16 tI7 (by decide)) (orN (tg_ne tI16 tI8 (by decide)) (orN (tg_ne tI16 tI9 (by decide)) (tg_ne tI16 tI10 (by decide)))))))
          have k40 := kq28.2 _ _ kI17 (orN (tg_ne tI17 tI0 (by decide)) (orN (tg_ne tI17 tI6 (by decide)) (orN (tg_ne tI17 tI7 (by decide)) (orN (tg_ne tI17 tI8 (by decide)) (orN (tg_ne tI17 tI9 (by decide)) (tg_ne tI17 tI10 (by decide)))))))
          have k41 := kq28.2 _ _ kI18 (orN (tg_ne tI18 tI0 (by decide)) (orN (tg_ne tI18 tI6 (by decide)) (orN (tg_ne tI18 tI7 (by decide)) (orN (tg_ne tI18 tI8 (by decide)) (orN (tg_ne tI18 tI9 (by decide)) (tg_ne tI18 tI10 (by decide)))))))
          have k42 := kq28.2 _ _ kI19 (orN (tg_ne tI19 tI0 (by decide)) (orN (tg_ne tI19 tI6 (by decide)) (orN (tg_ne tI19 tI7 (by decide)) (orN (tg_ne tI19 tI8 (by decide)) (orN (tg_ne tI19 tI9 (by decide)) (tg_ne tI19 tI10 (by decide)))))))
          have k43 := kq28.2 _ _ kI20 (orN (tg_ne tI20 tI0 (by decide)) (orN (tg_ne tI20 tI6 (by decide)) (orN (tg_ne tI20 tI7 (by decide)) (orN (tg_ne tI20 tI8 (by decide)) (orN (tg_ne tI20 tI9 (by decide)) (tg_ne tI20 tI10 (by decide)))))))
          have k44 := kq28.2 _ _ kI21 (orN (tg_ne tI21 tI0 (by decide)) (orN (tg_ne tI21 tI6 (by decide)) (orN (tg_ne tI21 tI7 (by decide)) (orN (tg_ne tI21 tI8 (by decide)) (orN (tg_ne tI21 tI9 (by decide)) (tg_ne tI21 tI10 (by decide)))))))
          have k45 := kq28.2 _ _ kI22 (orN (tg_ne tI22 tI0 (by decide)) (orN (tg_ne tI22 tI6 (by decide)) (orN (tg_ne tI22 tI7 (by decide)) (orN (tg_ne tI22 tI8 (by decide)) (orN (tg_ne tI22 tI9 (by decide)) (tg_ne tI22 tI10 (by decide)))))))
          have k46 := kq28.2 _ _ kI23 (orN (tg_ne tI23 tI0 (by decide)) (orN (tg_ne tI23 tI6 (by decide)) (orN (tg_ne tI23 tI7 (by decide)) (orN (tg_ne tI23 tI8 (by decide)) (orN (tg_ne tI23 tI9 (by decide)) (tg_ne tI23 tI10 (by decide)))))))
          have k47 := kq28.2 _ _ kI24 (orN (tg_ne tI24 tI0 (by decide)) (orN (tg_ne tI24 tI6 (by decide)) (orN (tg_ne tI24 tI7 (by decide)) (orN (tg_ne tI24 tI8 (by decide)) (orN (tg_ne tI24 tI9 (by decide)) (tg_ne tI24 tI10 (by decide)))))))
          have k48 := kq28.2 _ _ kI25 (orN (tg_ne tI25 tI0 (by decide)) (orN (tg_ne tI25 tI6 (by decide)) (orN (tg_ne tI25 tI7 (by decide)) (orN (tg_ne tI25 tI8 (by decide)) (orN (tg_ne tI25 tI9 (by decide)) (tg_ne tI25 tI10 (by decide)))))))
          have k49 := kq28.2 _ _ kI26 (orN (tg_ne tI26 tI0 (by decide)) (orN (tg_ne tI26 tI6 (by decide)) (orN (tg_ne tI26 tI7 (by decide)) (orN (tg_ne tI26 tI8 (by decide)) (orN (tg_ne tI26 tI9 (by decide)) (tg_ne tI26 tI10 (by decide)))))))
          have k50 := kq28.2 _ _ kI27 (orN (tg_ne tI27 tI0 (by decide)) (orN (tg_ne tI27 tI6 (by decide)) (orN (tg_ne tI27 tI7 (by decide)) (orN (tg_ne tI27 tI8 (by decide)) (orN (tg_ne tI27 tI9 (by decide)) (tg_ne tI27 tI10 (by decide)))))))
          have k51 := kq28.2 _ _ kI28 (orN (tg_ne tI28 tI0 (by decide)) (orN (tg_ne tI28 tI6 (by decide)) (orN (tg_ne tI28 tI7 (by decide)) (orN (tg_ne tI28 tI8 (by decide)) (orN (tg_ne tI28 tI9 (by decide)) (tg_ne tI28 tI10 (by decide)))))))
          have k52 := kq28.2 _ _ kI29 (orN (tg_ne tI29 tI0 (by decide)) (orN (tg_ne tI29 tI6 (by decide)) (orN (tg_ne tI29 tI7 (by decide)) (orN (tg_ne tI29 tI8 (by decide)) (orN (tg_ne tI29 tI9 (by decide)) (tg_ne tI29 tI10 (by decide)))))))
          have k53 := kq28.2 _ _ kI30 (orN (tg_ne tI30 tI0 (by decide)) (orN (tg_ne tI30 tI6 (by decide)) (orN (tg_ne tI30 tI7 (by decide)) (orN (tg_ne tI30 tI8 (by decide)) (orN (tg_ne tI30 tI9 (by decide)) (tg_ne tI30 tI10 (by decide)))))))
          have k54 := kq28.2 _ _ kI31 (orN (tg_ne tI31 tI0 (by decide)) (orN (tg_ne tI31 tI6 (by decide)) (orN (tg_ne tI31 tI7 (by decide)) (orN (tg_ne tI31 tI8 (by decide)) (orN (tg_ne tI31 tI9 (by decide)) (tg_ne tI31 tI10 (by decide)))))))
          have k55 := kq28.2 _ _ kI32 (orN (tg_ne tI32 tI0 (by decide)) (orN (tg_ne tI32 tI6 (by decide)) (orN (tg_ne tI32 tI7 (by decide)) (orN (tg_ne tI32 tI8 (by decide)) (orN (tg_ne tI32 tI9 (by decide)) (tg_ne tI32 tI10 (by decide)))))))
          have k56 := kq28.2 _ _ kI33 (orN (tg_ne tI33 tI0 (by decide)) (orN (tg_ne tI33 tI6 (by decide)) (orN (tg_ne tI33 tI7 (by decide)) (orN (tg_ne tI33 tI8 (by decide)) (orN (tg_ne tI33 tI9 (by decide)) (tg_ne tI33 tI10 (by decide)))))))
          have k57 := kq28.2 _ _ kI34 (orN (tg_ne tI34 tI0 (by decide)) (orN (tg_ne tI34 tI6 (by decide)) (orN (tg_ne tI34 tI7 (by decide)) (orN (tg_ne tI34 tI8 (by decide)) (orN (tg_ne tI34 tI9 (by decide)) (tg_ne tI34 tI10 (by decide)))))))
          have k58 := kq28.2 _ _ kI35 (orN (tg_ne tI35 tI0 (by decide)) (orN (tg_ne tI35 tI6 (by decide)) (orN (tg_ne tI35 tI7 (by decide)) (orN (tg_ne tI35 tI8 (by decide)) (orN (tg_ne tI35 tI9 (by decide)) (tg_ne tI35 tI10 (by decide)))))))
          have k59 := kq28.2 _ _ kI36 (orN (tg_ne tI36 tI0 (by decide)) (orN (tg_ne tI36 tI6 (by decide)) (orN (tg_ne tI36 tI7 (by decide)) (orN (tg_ne tI36 tI8 (by decide)) (orN (tg_ne tI36 tI9 (by decide)) (tg_ne tI36 tI10 (by decide)))))))
          have k60 := kq28.2 _ _ kI37 (orN (tg_ne tI37 tI0 (by decide)) (orN (tg_ne tI37 tI6 (by decide)) (orN (tg_ne tI37 tI7 (by decide)) (orN (tg_ne tI37 tI8 (by decide)) (orN (tg_ne tI37 tI9 (by decide)) (tg_ne tI37 tI10 (by decide)))))))
          have k61 := kq28.2 _ _ kI38 (orN (tg_ne tI38 tI0 (by decide)) (orN (tg_ne tI38 tI6 (by decide)) (orN (tg_ne tI38 tI7 (by decide)) (orN (tg_ne tI38 tI8 (by decide)) (orN (tg_ne tI38 tI9 (by decide)) (tg_ne tI38 tI10 (by decide)))))))
          have k62 := kq28.2 _ _ kI39 (orN (tg_ne tI39 tI0 (by decide)) (orN (tg_ne tI39 tI6 (by decide)) (orN (tg_ne tI39 tI7 (by decide)) (orN (tg_ne tI39 tI8 (by decide)) (orN (tg_ne tI39 tI9 (by decide)) (tg_ne tI39 tI10 (by decide)))))))
          have k63 := kq28.2 _ _ kI40 (orN (tg_ne tI40 tI0 (by decide)) (orN (tg_ne tI40 tI6 (by decide)) (orN (tg_ne tI40 tI7 (by decide)) (orN (tg_ne tI40 tI8 (by decide)) (orN (tg_ne tI40 tI9 (by decide)) (tg_ne tI40 tI10 (by decide)))))))
          have k64 := kq28.2 _ _ kI41 (orN (tg_ne tI41 tI0 (by decide)) (orN (tg_ne tI41 tI6 (by decide)) (orN (tg_ne tI41 tI7 (by decide)) (orN (tg_ne tI41 tI8 (by decide)) (orN (tg_ne tI41 tI9 (by decide)) (tg_ne tI41 tI10 (by decide)))))))
          have k65 := kq28.2 _ _ kI42 (orN (tg_ne tI42 tI0 (by decide)) (orN (tg_ne tI42 tI6 (by decide)) (orN (tg_ne tI42 tI7 (by decide)) (orN (tg_ne tI42 tI8 (by decide)) (orN (tg_ne tI42 tI9 (by decide)) (tg_ne tI42 tI10 (by decide)))))))
          have k66 := kq28.2 _ _ kI43 (orN (tg_ne tI43 tI0 (by decide)) (orN (tg_ne tI43 tI6 (by decide)) (orN (tg_ne tI43 tI7 (by decide)) (orN (tg_ne tI43 tI8 (by decide)) (orN (tg_ne tI43 tI9 (by decide)) (tg_ne tI43 tI10 (by decide)))))))
          have k67 := kq28.2 _ _ kI44 (orN (tg_ne tI44 tI0 (by decide)) (orN (tg_ne tI44 tI6 (by decide)) (orN (tg_ne tI44 tI7 (by decide)) (orN (tg_ne tI44 tI8 (by decide)) (orN (tg_ne tI44 tI9 (by decide)) (tg_ne tI44 tI10 (by decide)))))))
          have k68 := kq28.2 _ _ kI45 (orN (tg_ne tI45 tI0 (by decide)) (orN (tg_ne tI45 tI6 (by decide)) (orN (tg_ne tI45 tI7 (by decide)) (orN (tg_ne tI45 tI8 (by decide)) (orN (tg_ne tI45 tI9 (by decide)) (tg_ne tI45 tI10 (by decide)))))))
          have k69 := kq28.2 _ _ kI46 (orN (tg_ne tI46 tI0 (by decide)) (orN (tg_ne tI46 tI6 (by decide)) (orN (tg_ne tI46 tI7 (by decide)) (orN (tg_ne tI46 tI8 (by decide)) (orN (tg_ne tI46 tI9 (by decide)) (tg_ne tI46 tI10 (by decide)))))))
          have k70 := kq28.2 _ _ kI47 (orN (tg_ne tI47 tI0 (by decide)) (orN (tg_ne tI47 tI6 (by decide)) (orN (tg_ne tI47 tI7 (by decide)) (orN (tg_ne tI47 tI8 (by decide)) (orN (tg_ne tI47 tI9 (by decide)) (tg_ne tI47 tI10 (by decide)))))))
          have k71 := kq28.2 _ _ kI48 (orN (tg_ne tI48 tI0 (by decide)) (orN (tg_ne tI48 tI6 (by decide)) (orN (tg_ne tI48 tI7 (by decide)) (orN (tg_ne tI48 tI8 (by decide)) (orN (tg_ne tI48 tI9 (by decide)) (tg_ne tI48 tI10 (by decide)))))))
          have fm72 : ∀ k9, k9 < 12 → qp k9 = some (pr k9) ∧ wd_at w21 (pr k9) (.inl (cy 2, 12, .inl (fp k9))) ∧ tg (pr k9) = 11000 + k9 := fun k9 hi9 => ⟨(hFPR k9 hi9).1, kq28.2 _ _ (hFPR k9 hi9).2.1 (orN (tg_ne (hFPR k9 hi9).2.2 tI0 (tnA (show 10000 < 11000 by decide))) (orN (tg_ne (hFPR k9 hi9).2.2 tI6 (tnA (show 10108 < 11000 by decide))) (orN (tg_ne (hFPR k9 hi9).2.2 tI7 (tnA (show 10109 < 11000 by decide))) (orN (tg_ne (hFPR k9 hi9).2.2 tI8 (tnA (show 10110 < 11000 by decide))) (orN (tg_ne (hFPR k9 hi9).2.2 tI9 (tnA (show 10111 < 11000 by decide))) (tg_ne (hFPR k9 hi9).2.2 tI10 (tnA (show 10112 < 11000 by decide)))))))), (hFPR k9 hi9).2.2⟩
          have fm73 : ∀ k9, k9 < 12 → qw k9 = some (wr k9) ∧ wd_at w21 (wr k9) (.inl (cy 2, 12, .inl (fw k9))) ∧ tg (wr k9) = 12000 + k9 := fun k9 hi9 => ⟨(hFWR k9 hi9).1, kq28.2 _ _ (hFWR k9 hi9).2.1 (orN (tg_ne (hFWR k9 hi9).2.2 tI0 (tnA (show 10000 < 12000 by decide))) (orN (tg_ne (hFWR k9 hi9).2.2 tI6 (tnA (show 10108 < 12000 by decide))) (orN (tg_ne (hFWR k9 hi9).2.2 tI7 (tnA (show 10109 < 12000 by decide))) (orN (tg_ne (hFWR k9 hi9).2.2 tI8 (tnA (show 10110 < 12000 by decide))) (orN (tg_ne (hFWR k9 hi9).2.2 tI9 (tnA (show 10111 < 12000 by decide))) (tg_ne (hFWR k9 hi9).2.2 tI10 (tnA (show 10112 < 12000 by decide)))))))), (hFWR k9 hi9).2.2⟩
          have fm74 : ∀ k9, k9 < 60 → qs k9 = some (sr k9) ∧ wd_at w21 (sr k9) (.inl (cy 2, 12, .inl (fs k9))) ∧ tg (sr k9) = 13000 + k9 := fun k9 hi9 => ⟨(hFSR k9 hi9).1, kq28.2 _ _ (hFSR k9 hi9).2.1 (orN (tg_ne (hFSR k9 hi9).2.2 tI0 (tnA (show 10000 < 13000 by decide))) (orN (tg_ne (hFSR k9 hi9).2.2 tI6 (tnA (show 10108 < 13000 by decide))) (orN (tg_ne (hFSR k9 hi9).2.2 tI7 (tnA (show 10109 < 13000 by decide))) (orN (tg_ne (hFSR k9 hi9).2.2 tI8 (tnA (show 10110 < 13000 by decide))) (orN (tg_ne (hFSR k9 hi9).2.2 tI9 (tnA (show 10111 < 13000 by decide))) (tg_ne (hFSR k9 hi9).2.2 tI10 (tnA (show 10112 < 13000 by decide)))))))), (hFSR k9 hi9).2.2⟩
          have kp75 := kp0.tr kq28 (fun b9 hm q9 => (fun q9 => Or.elim q9 (fun q9 => q9 ▸ (tgT tI0 (by decide))) (fun q9 => Or.elim q9 (fun q9 => q9 ▸ (tgT tI6 (by decide))) (fun q9 => Or.elim q9 (fun q9 => q9 ▸ (tgT tI7 (by decide))) (fun q9 => Or.elim q9 (fun q9 => q9 ▸ (tgT tI8 (by decide))) (fun q9 => Or.elim q9 (fun q9 => q9 ▸ (tgT tI9 (by decide))) (fun q9 => q9 ▸ (tgT tI10 (by decide)))))))) q9)
          refine W.eq (g2 := F0 m 60 ls [.int (nI pc)]) rfl (W.widen (k := 0) (n := 0) (Nat.le_of_ble_eq_true rfl) (Nat.le_of_ble_eq_true rfl) ?_)
          refine lv_goto (tgt := 64) hx hb dX11_credit_60 (by decide) ?_
          have hX76 : IM cy tg y td (pc + 1) ac sc ln se (credL plv pc x1 x2 x3) w21 := IM.mk m2 m3 m4 m5 m6 m8 m9 m10 m11 m12 m13 m14 m17 m18 m19 m20 m21 m22 m23 m24 m29 m30 m31 m32 m33 m34 m35 m36 m37 m39 m40 m41 m42 m43 m44 m45 m46 m47 m48 m49 m51 m52 m53 m54 m56 m57 m58 m59 sh gf v0 v26 v27 v28 v50 f4 f5 f6 (upd f8 (nI pc).toNatClampNeg 0) (upd f9 (nI pc).toNatClampNeg x1) (upd f10 (nI pc).toNatClampNeg x2) (upd f11 (nI pc).toNatClampNeg td) (upd f12 (nI pc).toNatClampNeg x3) f13 f14 f17 f18 f19 f20 f21 f22 f24 f29 f30 f31 f32 f33 f34 f35 f36 f37 f39 f40 f41 f42 f43 f44 f45 f46 f47 f48 f49 f51 f52 f53 f54 f56 f57 f58 f59 qp pr fp qw wr fw qs sr fs (by omega) (by omega) (by omega) (by omega) (by omega) (by omega) hrl hc ht hp hso (by rw [show credL plv pc x1 x2 x3 = va_up plv pc 0 from by simp [credL, addL, c_1, c_6, c_11, c_16]]; exact hlo.a (by omega) ⟨0, by omega, rfl⟩) k22 tI0 k29 tI1 k30 tI2 k31 tI3 k32 tI4 k33 tI5 k23 tI6 k24 tI7 k25 tI8 k26 tI9 k27 tI10 k34 tI11 k35 tI12 k36 tI13 k37 tI14 k38 tI15 k39 tI16 k40 tI17 k41 tI18 k42 tI19 k43 tI20 k44 tI21 k45 tI22 k46 tI23 k47 tI24 k48 tI25 k49 tI26 k50 tI27 k51 tI28 k52 tI29 k53 tI30 k54 tI31 k55 tI32 k56 tI33 k57 tI34 k58 tI35 k59 tI36 k60 tI37 k61 tI38 k62 tI39 k63 tI40 k64 tI41 k65 tI42 k66 tI43 k67 tI44 k68 tI45 k69 tI46 k70 tI47 k71 tI48 fm72 fm73 fm74
          exact y_ir K hP hD hS (Nat.le_of_ble_eq_true rfl) (Nat.le_of_ble_eq_true rfl) (ty := .int) rfl rfl dX11_credit_64 (by refine ⟨(congrArg (fun z => some (Value.int z)) (show nI pc = credA pc x1 x2 x3 from by simp [credA, credC, credL, addA, addC, addL, c_1, c_6, c_11, c_16])), ?_⟩; rw [show credC pc x1 x2 x3 = (pc + 1) from by simp [credA, credC, credL, addA, addC, addL, c_1, c_6, c_11, c_16]]; exact ⟨kp75, hX76⟩)
set_option maxHeartbeats 4000000 in
set_option maxRecDepth 100000 in
theorem M_advise (l : Launch) (D : va_G) (cy : Nat → ClassId) (sk sv : Nat → Nat) (w : Wd) (tg : Nat → Nat) (y : Nat) (td : Int32) (pc ac sc ln : Nat) (se plv : Nat → Int32) (x1 x2 : Int32) (hIM0 : IM cy tg y td pc ac sc ln se plv w) : Ct l D cy sk sv yX11_advise wsX11_advise ({ frames := 1, cells := 0, slots := 0, locals := 26 }) [.ref y, .int x1, .int x2] w (fun v w1 => v = some (.int (advA pc ac x1 x2)) ∧ MP cy tg y td pc (advC pc ac x1 x2) sc ln se plv w w1) := by
  refine Ct.by (cc := cX11_advise) (maxL := 3) (ret := (some .int)) (by decide +kernel) rfl (Nat.le_of_ble_eq_true rfl) ?_
  intro p e s m args below meth c A Q F hnm K ls hl
  have F : wd_Fx p s m args meth c cX11_advise 3 wsX11_advise RX11 D cy sk sv A := F
  have hl : lv_has ls 3 [(0, .ref y), (1, .int x1), (2, .int x2)] := hl
  have hx := F.1.1
  have hb := F.1.2.1
  have hown := F.1.2.2.2.1
  have hts := F.1.2.2.2.2
  intro H locs hP hD hS
  have kp0 : wd_kp (fun b => 10000 ≤ tg b) w w := wd_kp.rf
  refine hIM0 _ ?_
  intro m2 m3 m4 m5 m6 m8 m9 m10 m11 m12 m13 m14 m17 m18 m19 m20 m21 m22 m23 m24 m29 m30 m31 m32 m33 m34 m35 m36 m37 m39 m40 m41 m42 m43 m44 m45 m46 m47 m48 m49 m51 m52 m53 m54 m56 m57 m58 m59 sh gf v0 v26 v27 v28 v50 f4 f5 f6 f8 f9 f10 f11 f12 f13 f14 f17 f18 f19 f20 f21 f22 f24 f29 f30 f31 f32 f33 f34 f35 f36 f37 f39 f40 f41 f42 f43 f44 f45 f46 f47 f48 f49 f51 f52 f53 f54 f56 f57 f58 f59 qp pr fp qw wr fw qs sr fs hp90 hp91 hp92 hp93 hp94 hp95 hrl hc ht hp hso hlo kI0 tI0 kI1 tI1 kI2 tI2 kI3 tI3 kI4 tI4 kI5 tI5 kI6 tI6 kI7 tI7 kI8 tI8 kI9 tI9 kI10 tI10 kI11 tI11 kI12 tI12 kI13 tI13 kI14 tI14 kI15 tI15 kI16 tI16 kI17 tI17 kI18 tI18 kI19 tI19 kI20 tI20 kI21 tI21 kI22 tI22 kI23 tI23 kI24 tI24 kI25 tI25 kI26 tI26 kI27 tI27 kI28 tI28 kI29 tI29 kI30 tI30 kI31 tI31 kI32 tI32 kI33 tI33 kI34 tI34 kI35 tI35 kI36 tI36 kI37 tI37 kI38 tI38 kI39 tI39 kI40 tI40 kI41 tI41 kI42 tI42 kI43 tI43 kI44 tI44 kI45 tI45 kI46 tI46 kI47 tI47 kI48 tI48 hFPR hFWR hFSR
  refine lv_aload_n hx hb dX11_advise_0 rfl (lv_at hl 0 rfl) ?_
  refine x_get (ref := "NoteHouseModel") F hP kI0 rfl (fun _ h => List.mem_cons_of_mem _ (List.mem_append_right _ (h))) 15 (Nat.le_of_ble_eq_true rfl) (List.mem_cons_of_mem _ (List.mem_append_left _ (List.mem_of_getElem? (i := 0) rfl))) rfl rfl dX11_advise_1 ?_
  refine lv_bipush (v := 60) hx hb dX11_advise_4 (by decide) ?_
  refine lv_icmp_eq (tgt := 30) hx hb dX11_advise_6 (by decide) (fun c_1 => ?_) (fun c_1 => ?_)
  · have h60 : (60 : Int32) ≤ nI ac := by rw [c_1]; exact Int32.le_refl _
    refine lv_iconst (v := (-1)) hx hb dX11_advise_30 (by decide) ?_
    exact y_ir K hP hD hS (Nat.le_of_ble_eq_true rfl) (Nat.le_of_ble_eq_true rfl) (ty := .int) rfl rfl dX11_advise_31 (by refine ⟨(congrArg (fun z => some (Value.int z)) (show (-1) = advA pc ac x1 x2 from by simp [advA, advC, c_1, h60])), ?_⟩; rw [show advC pc ac x1 x2 = ac from by simp [advA, advC, c_1, h60]]; exact ⟨wd_kp.rf, hIM0⟩)
  · have hb_ac : ac < 60 := by have h9 : ¬ ac = 60 := fun q => c_1 (by rw [q]; rfl); omega
    have h60 : ¬ (60 : Int32) ≤ nI ac := fun q => absurd ((nI_leI (a := 60) (b := ac) (by omega) (by omega)).mp q) (by omega)
    refine lv_iload_n hx hb dX11_advise_9 rfl (lv_at hl 1 rfl) ?_
    refine lv_iconst (v := 0) hx hb dX11_advise_10 (by decide) ?_
    refine lv_aload_n hx hb dX11_advise_11 rfl (lv_at hl 0 rfl) ?_
    refine x_get (ref := "NoteHouseModel") F hP kI0 rfl (fun _ h => List.mem_cons_of_mem _ (List.mem_append_right _ (h))) 7 (Nat.le_of_ble_eq_true rfl) (List.mem_cons_of_mem _ (List.mem_append_left _ (List.mem_of_getElem? (i := 1) rfl))) rfl rfl dX11_advise_12 ?_
    refine lv_iconst (v := 1) hx hb dX11_advise_15 (by decide) ?_
    refine lv_isub hx hb dX11_advise_16 ?_
    refine x_callS (n := 3) (As := [.int x1, .int 0, .int ((nI pc) - 1)]) (rest := []) F hP hD hS (g_in l D cy sk sv w x1 0 ((nI pc) - 1)) gX11_advise_X11_in rfl (by decide +kernel) ⟨(Nat.le_of_ble_eq_true rfl), (Nat.le_of_ble_eq_true rfl)⟩ rfl hl.1 (Nat.le_of_ble_eq_true rfl) dX11_advise_17 rfl ⟨(Nat.le_of_ble_eq_true rfl), (Nat.le_of_ble_eq_true rfl)⟩ (fun v3 w4 hp2 H locs hP hD hS => ?_)
    obtain ⟨rfl, rfl⟩ := hp2
    refine W.eq (g2 := F0 m 20 ls [.int (wi x1 0 ((nI pc) - 1))]) rfl (W.widen (k := 0) (n := 0) (Nat.le_of_ble_eq_true rfl) (Nat.le_of_ble_eq_true rfl) ?_)
    refine lv_if_eq (tgt := 30) hx hb dX11_advise_20 (by decide) (fun c_5 => ?_) (fun c_5 => ?_)
    · refine lv_iconst (v := (-1)) hx hb dX11_advise_30 (by decide) ?_
      exact y_ir K hP hD hS (Nat.le_of_ble_eq_true rfl) (Nat.le_of_ble_eq_true rfl) (ty := .int) rfl rfl dX11_advise_31 (by refine ⟨(congrArg (fun z => some (Value.int z)) (show (-1) = advA pc ac x1 x2 from by simp [advA, advC, c_1, h60, c_5])), ?_⟩; rw [show advC pc ac x1 x2 = ac from by simp [advA, advC, c_1, h60, c_5]]; exact ⟨wd_kp.rf, hIM0⟩)
    · obtain ⟨pp, hpp, rfl⟩ := pb_i (by omega) c_5
      have clpp : (nI pp).toNatClampNeg = pp := nI_clamp (by omega)
      refine lv_iload_n hx hb dX11_advise_23 rfl (lv_at hl 2 rfl) ?_
      refine x_callS (n := 1) (As := [.int x2]) (rest := []) F hP hD hS (g_mTown l D cy sk sv w x2) gX11_advise_X11_isTown rfl (by decide +kernel) ⟨(Nat.le_of_ble_eq_true rfl), (Nat.le_of_ble_eq_true rfl)⟩ rfl hl.1 (Nat.le_of_ble_eq_true rfl) dX11_advise_24 rfl ⟨(Nat.le_of_ble_eq_true rfl), (Nat.le_of_ble_eq_true rfl)⟩ (fun v7 w8 hp6 H locs hP hD hS => ?_)
      obtain ⟨rfl, rfl⟩ := hp6
      refine W.eq (g2 := F0 m 27 ls [.int (wi x2 0 11)]) rfl (W.widen (k := 0) (n := 0) (Nat.le_of_ble_eq_true rfl) (Nat.le_of_ble_eq_true rfl) ?_)
      refine lv_if_ne (tgt := 32) hx hb dX11_advise_27 (by decide) (fun c_9 => ?_) (fun c_9 => ?_)
      · obtain ⟨tw, htw, rfl, cltw⟩ := wi_t c_9
        refine lv_aload_n hx hb dX11_advise_32 rfl (lv_at hl 0 rfl) ?_
        refine lv_iconst (v := 0) hx hb dX11_advise_33 (by decide) ?_
        refine lv_iconst (v := 0) hx hb dX11_advise_34 (by decide) ?_
        refine x_callV (n := 2) (As := [.int 0, .int 0]) (rest := []) F hP hD hS (m_sends l D cy sk sv w tg y m2 m3 m4 m5 m6 m8 m9 m10 m11 m12 m13 m14 m17 m18 m19 m20 m21 m22 m23 m24 m29 m30 m31 m32 m33 m34 m35 m36 m37 m39 m40 m41 m42 m43 m44 m45 m46 m47 m48 m49 m51 m52 m53 m54 m56 m57 m58 m59 pc ac sc ln sh gf v0 td v26 v27 v28 v50 f6 qp pr fp qw wr fw 0 0 kI0 kI5 kI1 kI2 hFPR hFWR (fun b => b = m6) rfl tI0 tI5 tI1 tI2) gX11_advise_X11_sends rfl rfl (by decide +kernel) ⟨(Nat.le_of_ble_eq_true rfl), (Nat.le_of_ble_eq_true rfl)⟩ rfl hl.1 (Nat.le_of_ble_eq_true rfl) kI0 rfl dX11_advise_35 rfl ⟨(Nat.le_of_ble_eq_true rfl), (Nat.le_of_ble_eq_true rfl)⟩ (fun v11 w12 hp10 H locs hP hD hS => ?_)
        obtain ⟨gx13, rfl, kq15, k14⟩ := hp10
        have k16 := kq15.2 _ _ kI0 (tg_ne tI0 tI5 (by decide))
        have k17 := kq15.2 _ _ kI1 (tg_ne tI1 tI5 (by decide))
        have k18 := kq15.2 _ _ kI2 (tg_ne tI2 tI5 (by decide))
        have k19 := kq15.2 _ _ kI3 (tg_ne tI3 tI5 (by decide))
        have k20 := kq15.2 _ _ kI4 (tg_ne tI4 tI5 (by decide))
        have k21 := kq15.2 _ _ kI6 (tg_ne tI6 tI5 (by decide))
        have k22 := kq15.2 _ _ kI7 (tg_ne tI7 tI5 (by decide))
        have k23 := kq15.2 _ _ kI8 (tg_ne tI8 tI5 (by decide))
        have k24 := kq15.2 _ _ kI9 (tg_ne tI9 tI5 (by decide))
        have k25 := kq15.2 _ _ kI10 (tg_ne tI10 tI5 (by decide))
        have k26 := kq15.2 _ _ kI11 (tg_ne tI11 tI5 (by decide))
        have k27 := kq15.2 _ _ kI12 (tg_ne tI12 tI5 (by decide))
        have k28 := kq15.2 _ _ kI13 (tg_ne tI13 tI5 (by decide))
        have k29 := kq15.2 _ _ kI14 (tg_ne tI14 tI5 (by decide))
        have k30 := kq15.2 _ _ kI15 (tg_ne tI15 tI5 (by decide))
        have k31 := kq15.2 _ _ kI16 (tg_ne tI16 tI5 (by decide))
        have k32 := kq15.2 _ _ kI17 (tg_ne tI17 tI5 (by decide))
        have k33 := kq15.2 _ _ kI18 (tg_ne tI18 tI5 (by decide))
        have k34 := kq15.2 _ _ kI19 (tg_ne tI19 tI5 (by decide))
        have k35 := kq15.2 _ _ kI20 (tg_ne tI20 tI5 (by decide))
        have k36 := kq15.2 _ _ kI21 (tg_ne tI21 tI5 (by decide))
        have k37 := kq15.2 _ _ kI22 (tg_ne tI22 tI5 (by decide))
        have k38 := kq15.2 _ _ kI23 (tg_ne tI23 tI5 (by decide))
        have k39 := kq15.2 _ _ kI24 (tg_ne tI24 tI5 (by decide))
        have k40 := kq15.2 _ _ kI25 (tg_ne tI25 tI5 (by decide))
        have k41 := kq15.2 _ _ kI26 (tg_ne tI26 tI5 (by decide))
        have k42 := kq15.2 _ _ kI27 (tg_ne tI27 tI5 (by decide))
        have k43 := kq15.2 _ _ kI28 (tg_ne tI28 tI5 (by decide))
        have k44 := kq15.2 _ _ kI29 (tg_ne tI29 tI5 (by decide))
        have k45 := kq15.2 _ _ kI30 (tg_ne tI30 tI5 (by decide))
        have k46 := kq15.2 _ _ kI31 (tg_ne tI31 tI5 (by decide))
        have k47 := kq15.2 _ _ kI32 (tg_ne tI32 tI5 (by decide))
        have k48 := kq15.2 _ _ kI33 (tg_ne tI33 tI5 (by decide))
        have k49 := kq15.2 _ _ kI34 (tg_ne tI34 tI5 (by decide))
        have k50 := kq15.2 _ _ kI35 (tg_ne tI35 tI5 (by decide))
        have k51 := kq15.2 _ _ kI36 (tg_ne tI36 tI5 (by decide))
        have k52 := kq15.2 _ _ kI37 (tg_ne tI37 tI5 (by decide))
        have k53 := kq15.2 _ _ kI38 (tg_ne tI38 tI5 (by decide))
        have k54 := kq15.2 _ _ kI39 (tg_ne tI39 tI5 (by decide))
        have k55 := kq15.2 _ _ kI40 (tg_ne tI40 tI5 (by decide))
        have k56 := kq15.2 _ _ kI41 (tg_ne tI41 tI5 (by decide))
        have k57 := kq15.2 _ _ kI42 (tg_ne tI42 tI5 (by decide))
        have k58 := kq15.2 _ _ kI43 (tg_ne tI43 tI5 (by decide))
        have k59 := kq15.2 _ _ kI44 (tg_ne tI44 tI5 (by decide))
        have k60 := kq15.2 _ _ kI45 (tg_ne tI45 tI5 (by decide))
        have k61 := kq15.2 _ _ kI46 (tg_ne tI46 tI5 (by decide))
        have k62 := kq15.2 _ _ kI47 (tg_ne tI47 tI5 (by decide))
        have k63 := kq15.2 _ _ kI48 (tg_ne tI48 tI5 (by decide))
        have fm64 : ∀ k9, k9 < 12 → qp k9 = some (pr k9) ∧ wd_at w12 (pr k9) (.inl (cy 2, 12, .inl (fp k9))) ∧ tg (pr k9) = 11000 + k9 := fun k9 hi9 => ⟨(hFPR k9 hi9).1, kq15.2 _ _ (hFPR k9 hi9).2.1 (tg_ne (hFPR k9 hi9).2.2 tI5 (tnA (show 10106 < 11000 by decide))), (hFPR k9 hi9).2.2⟩
        have fm65 : ∀ k9, k9 < 12 → qw k9 = some (wr k9) ∧ wd_at w12 (wr k9) (.inl (cy 2, 12, .inl (fw k9))) ∧ tg (wr k9) = 12000 + k9 := fun k9 hi9 => ⟨(hFWR k9 hi9).1, kq15.2 _ _ (hFWR k9 hi9).2.1 (tg_ne (hFWR k9 hi9).2.2 tI5 (tnA (show 10106 < 12000 by decide))), (hFWR k9 hi9).2.2⟩
        have fm66 : ∀ k9, k9 < 60 → qs k9 = some (sr k9) ∧ wd_at w12 (sr k9) (.inl (cy 2, 12, .inl (fs k9))) ∧ tg (sr k9) = 13000 + k9 := fun k9 hi9 => ⟨(hFSR k9 hi9).1, kq15.2 _ _ (hFSR k9 hi9).2.1 (tg_ne (hFSR k9 hi9).2.2 tI5 (tnA (show 10106 < 13000 by decide))), (hFSR k9 hi9).2.2⟩
        have kp67 := kp0.tr kq15 (fun b9 hm q9 => (fun q9 => q9 ▸ (tgT tI5 (by decide))) q9)
        refine W.eq (g2 := F0 m 38 ls []) rfl (W.widen (k := 0) (n := 0) (Nat.le_of_ble_eq_true rfl) (Nat.le_of_ble_eq_true rfl) ?_)
        refine lv_aload_n hx hb dX11_advise_38 rfl (lv_at hl 0 rfl) ?_
        refine x_get (ref := "NoteHouseModel") F hP k16 rfl (fun _ h => List.mem_cons_of_mem _ (List.mem_append_right _ (h))) 17 (Nat.le_of_ble_eq_true rfl) (List.mem_cons_of_mem _ (List.mem_append_left _ (List.mem_of_getElem? (i := 2) rfl))) rfl rfl dX11_advise_39 ?_
        refine lv_aload_n hx hb dX11_advise_42 rfl (lv_at hl 0 rfl) ?_
        refine x_get (ref := "NoteHouseModel") F hP k16 rfl (fun _ h => List.mem_cons_of_mem _ (List.mem_append_right _ (h))) 15 (Nat.le_of_ble_eq_true rfl) (List.mem_cons_of_mem _ (List.mem_append_left _ (List.mem_of_getElem? (i := 0) rfl))) rfl rfl dX11_advise_43 ?_
        refine lv_iload_n hx hb dX11_advise_46 rfl (lv_at hl 1 rfl) ?_
        refine y_iast F hP hD hS k28 (vp_in_nI (n := ac) (N := 60) (by omega) (by decide)) dX11_advise_47 (fun w68 ew69 H locs hP hD hS => ?_)
        have k70 := wd_at.pt ew69 k16 (tg_ne tI0 tI13 (by decide))
        have k71 := wd_at.pt ew69 k17 (tg_ne tI1 tI13 (by decide))
        have k72 := wd_at.pt ew69 k18 (tg_ne tI2 tI13 (by decide))
        have k73 := wd_at.pt ew69 k19 (tg_ne tI3 tI13 (by decide))
        have k74 := wd_at.pt ew69 k20 (tg_ne tI4 tI13 (by decide))
        have k75 := wd_at.pt ew69 k14 (tg_ne tI5 tI13 (by decide))
        have k76 := wd_at.pt ew69 k21 (tg_ne tI6 tI13 (by decide))
        have k77 := wd_at.pt ew69 k22 (tg_ne tI7 tI13 (by decide))
        have k78 := wd_at.pt ew69 k23 (tg_ne tI8 tI13 (by decide))
        have k79 := wd_at.pt ew69 k24 (tg_ne tI9 tI13 (by decide))
        have k80 := wd_at.pt ew69 k25 (tg_ne tI10 tI13 (by decide))
        have k81 := wd_at.pt ew69 k26 (tg_ne tI11 tI13 (by decide))
        have k82 := wd_at.pt ew69 k27 (tg_ne tI12 tI13 (by decide))
        have k83 : wd_at w68 m17 (.inl (cy 2, 60, .inl (upd f17 (nI ac).toNatClampNeg (nI pp)))) := wd_at.ps ew69 k28
        have k84 := wd_at.pt ew69 k29 (tg_ne tI14 tI13 (by decide))
        have k85 := wd_at.pt ew69 k30 (tg_ne tI15 tI13 (by decide))
        have k86 := wd_at.pt ew69 k31 (tg_ne tI16 tI13 (by decide))
        have k87 := wd_at.pt ew69 k32 (tg_ne tI17 tI13 (by decide))
        have k88 := wd_at.pt ew69 k33 (tg_ne tI18 tI13 (by decide))
        have k89 := wd_at.pt ew69 k34 (tg_ne tI19 tI13 (by decide))
        have k90 := wd_at.pt ew69 k35 (tg_ne tI20 tI13 (by decide))
        have k91 := wd_at.pt ew69 k36 (tg_ne tI21 tI13 (by decide))
        have k92 := wd_at.pt ew69 k37 (tg_ne tI22 tI13 (by decide))
        have k93 := wd_at.pt ew69 k38 (tg_ne tI23 tI13 (by decide))
        have k94 := wd_at.pt ew69 k39 (tg_ne tI24 tI13 (by decide))
        have k95 := wd_at.pt ew69 k40 (tg_ne tI25 tI13 (by decide))
        have k96 := wd_at.pt ew69 k41 (tg_ne tI26 tI13 (by decide))
        have k97 := wd_at.pt ew69 k42 (tg_ne tI27 tI13 (by decide))
        have k98 := wd_at.pt ew69 k43 (tg_ne tI28 tI13 (by decide))
        have k99 := wd_at.pt ew69 k44 (tg_ne tI29 tI13 (by decide))
        have k100 := wd_at.pt ew69 k45 (tg_ne tI30 tI13 (by decide))
        have k101 := wd_at.pt ew69 k46 (tg_ne tI31 tI13 (by decide))
        have k102 := wd_at.pt ew69 k47 (tg_ne tI32 tI13 (by decide))
        have k103 := wd_at.pt ew69 k48 (tg_ne tI33 tI13 (by decide))
        have k104 := wd_at.pt ew69 k49 (tg_ne tI34 tI13 (by decide))
        have k105 := wd_at.pt ew69 k50 (tg_ne tI35 tI13 (by decide))
        have k106 := wd_at.pt ew69 k51 (tg_ne tI36 tI13 (by decide))
        have k107 := wd_at.pt ew69 k52 (tg_ne tI37 tI13 (by decide))
        have k108 := wd_at.pt ew69 k53 (tg_ne tI38 tI13 (by decide))
        have k109 := wd_at.pt ew69 k54 (tg_ne tI39 tI13 (by decide))
        have k110 := wd_at.pt ew69 k55 (tg_ne tI40 tI13 (by decide))
        have k111 := wd_at.pt ew69 k56 (tg_ne tI41 tI13 (by decide))
        have k112 := wd_at.pt ew69 k57 (tg_ne tI42 tI13 (by decide))
        have k113 := wd_at.pt ew69 k58 (tg_ne tI43 tI13 (by decide))
        have k114 := wd_at.pt ew69 k59 (tg_ne tI44 tI13 (by decide))
        have k115 := wd_at.pt ew69 k60 (tg_ne tI45 tI13 (by decide))
        have k116 := wd_at.pt ew69 k61 (tg_ne tI46 tI13 (by decide))
        have k117 := wd_at.pt ew69 k62 (tg_ne tI47 tI13 (by decide))
        have k118 := wd_at.pt ew69 k63 (tg_ne tI48 tI13 (by decide))
        have fm119 : ∀ k9, k9 < 12 → qp k9 = some (pr k9) ∧ wd_at w68 (pr k9) (.inl (cy 2, 12, .inl (fp k9))) ∧ tg (pr k9) = 11000 + k9 := fun k9 hi9 => ⟨(fm64 k9 hi9).1, wd_at.pt ew69 (fm64 k9 hi9).2.1 (tg_ne (fm64 k9 hi9).2.2 tI13 (tnA (show 10117 < 11000 by decide))), (fm64 k9 hi9).2.2⟩
        have fm120 : ∀ k9, k9 < 12 → qw k9 = some (wr k9) ∧ wd_at w68 (wr k9) (.inl (cy 2, 12, .inl (fw k9))) ∧ tg (wr k9) = 12000 + k9 := fun k9 hi9 => ⟨(fm65 k9 hi9).1, wd_at.pt ew69 (fm65 k9 hi9).2.1 (tg_ne (fm65 k9 hi9).2.2 tI13 (tnA (show 10117 < 12000 by decide))), (fm65 k9 hi9).2.2⟩
        have fm121 : ∀ k9, k9 < 60 → qs k9 = some (sr k9) ∧ wd_at w68 (sr k9) (.inl (cy 2, 12, .inl (fs k9))) ∧ tg (sr k9) = 13000 + k9 := fun k9 hi9 => ⟨(fm66 k9 hi9).1, wd_at.pt ew69 (fm66 k9 hi9).2.1 (tg_ne (fm66 k9 hi9).2.2 tI13 (tnA (show 10117 < 13000 by decide))), (fm66 k9 hi9).2.2⟩
        have kp122 := kp67.put ew69 (tgT tI13 (by decide))
        refine lv_aload_n hx hb dX11_advise_48 rfl (lv_at hl 0 rfl) ?_
        refine x_get (ref := "NoteHouseModel") F hP k70 rfl (fun _ h => List.mem_cons_of_mem _ (List.mem_append_right _ (h))) 18 (Nat.le_of_ble_eq_true rfl) (List.mem_cons_of_mem _ (List.mem_append_left _ (List.mem_of_getElem? (i := 3) rfl))) rfl rfl dX11_advise_49 ?_
        refine lv_aload_n hx hb dX11_advise_52 rfl (lv_at hl 0 rfl) ?_
        refine x_get (ref := "NoteHouseModel") F hP k70 rfl (fun _ h => List.mem_cons_of_mem _ (List.mem_append_right _ (h))) 15 (Nat.le_of_ble_eq_true rfl) (List.mem_cons_of_mem _ (List.mem_append_left _ (List.mem_of_getElem? (i := 0) rfl))) rfl rfl dX11_advise_53 ?_
        refine lv_iload_n hx hb dX11_advise_56 rfl (lv_at hl 2 rfl) ?_
        refine y_iast F hP hD hS k84 (vp_in_nI (n := ac) (N := 60) (by omega) (by decide)) dX11_advise_57 (fun w123 ew124 H locs hP hD hS => ?_)
        have k125 := wd_at.pt ew124 k70 (tg_ne tI0 tI14 (by decide))
        have k126 := wd_at.pt ew124 k71 (tg_ne tI1 tI14 (by decide))
        have k127 := wd_at.pt ew124 k72 (tg_ne tI2 tI14 (by decide))
        have k128 := wd_at.pt ew124 k73 (tg_ne tI3 tI14 (by decide))
        have k129 := wd_at.pt ew124 k74 (tg_ne tI4 tI14 (by decide))
        have k130 := wd_at.pt ew124 k75 (tg_ne tI5 tI14 (by decide))
        have k131 := wd_at.pt ew124 k76 (tg_ne tI6 tI14 (by decide))
        have k132 := wd_at.pt ew124 k77 (tg_ne tI7 tI14 (by decide))
        have k133 := wd_at.pt ew124 k78 (tg_ne tI8 tI14 (by decide))
        have k134 := wd_at.pt ew124 k79 (tg_ne tI9 tI14 (by decide))
        have k135 := wd_at.pt ew124 k80 (tg_ne tI10 tI14 (by decide))
        have k136 := wd_at.pt ew124 k81 (tg_ne tI11 tI14 (by decide))
        have k137 := wd_at.pt ew124 k82 (tg_ne tI12 tI14 (by decide))
        have k138 := wd_at.pt ew124 k83 (tg_ne tI13 tI14 (by decide))
        have k139 : wd_at w123 m18 (.inl (cy 2, 60, .inl (upd f18 (nI ac).toNatClampNeg (nI tw)))) := wd_at.ps ew124 k84
        have k140 := wd_at.pt ew124 k85 (tg_ne tI15 tI14 (by decide))
        have k141 := wd_at.pt ew124 k86 (tg_ne tI16 tI14 (by decide))
        have k142 := wd_at.pt ew124 k87 (tg_ne tI17 tI14 (by decide))
        have k143 := wd_at.pt ew124 k88 (tg_ne tI18 tI14 (by decide))
        have k144 := wd_at.pt ew124 k89 (tg_ne tI19 tI14 (by decide))
        have k145 := wd_at.pt ew124 k90 (tg_ne tI20 tI14 (by decide))
        have k146 := wd_at.pt ew124 k91 (tg_ne tI21 tI14 (by decide))
        have k147 := wd_at.pt ew124 k92 (tg_ne tI22 tI14 (by decide))
        have k148 := wd_at.pt ew124 k93 (tg_ne tI23 tI14 (by decide))
        have k149 := wd_at.pt ew124 k94 (tg_ne tI24 tI14 (by decide))
        have k150 := wd_at.pt ew124 k95 (tg_ne tI25 tI14 (by decide))
        have k151 := wd_at.pt ew124 k96 (tg_ne tI26 tI14 (by decide))
        have k152 := wd_at.pt ew124 k97 (tg_ne tI27 tI14 (by decide))
        have k153 := wd_at.pt ew124 k98 (tg_ne tI28 tI14 (by decide))
        have k154 := wd_at.pt ew124 k99 (tg_ne tI29 tI14 (by decide))
        have k155 := wd_at.pt ew124 k100 (tg_ne tI30 tI14 (by decide))
        have k156 := wd_at.pt ew124 k101 (tg_ne tI31 tI14 (by decide))
        have k157 := wd_at.pt ew124 k102 (tg_ne tI32 tI14 (by decide))
        have k158 := wd_at.pt ew124 k103 (tg_ne tI33 tI14 (by decide))
        have k159 := wd_at.pt ew124 k104 (tg_ne tI34 tI14 (by decide))
        have k160 := wd_at.pt ew124 k105 (tg_ne tI35 tI14 (by decide))
        have k161 := wd_at.pt ew124 k106 (tg_ne tI36 tI14 (by decide))
        have k162 := wd_at.pt ew124 k107 (tg_ne tI37 tI14 (by decide))
        have k163 := wd_at.pt ew124 k108 (tg_ne tI38 tI14 (by decide))
        have k164 := wd_at.pt ew124 k109 (tg_ne tI39 tI14 (by decide))
        have k165 := wd_at.pt ew124 k110 (tg_ne tI40 tI14 (by decide))
        have k166 := wd_at.pt ew124 k111 (tg_ne tI41 tI14 (by decide))
        have k167 := wd_at.pt ew124 k112 (tg_ne tI42 tI14 (by decide))
        have k168 := wd_at.pt ew124 k113 (tg_ne tI43 tI14 (by decide))
        have k169 := wd_at.pt ew124 k114 (tg_ne tI44 tI14 (by decide))
        have k170 := wd_at.pt ew124 k115 (tg_ne tI45 tI14 (by decide))
        have k171 := wd_at.pt ew124 k116 (tg_ne tI46 tI14 (by decide))
        have k172 := wd_at.pt ew124 k117 (tg_ne tI47 tI14 (by decide))
        have k173 := wd_at.pt ew124 k118 (tg_ne tI48 tI14 (by decide))
        have fm174 : ∀ k9, k9 < 12 → qp k9 = some (pr k9) ∧ wd_at w123 (pr k9) (.inl (cy 2, 12, .inl (fp k9))) ∧ tg (pr k9) = 11000 + k9 := fun k9 hi9 => ⟨(fm119 k9 hi9).1, wd_at.pt ew124 (fm119 k9 hi9).2.1 (tg_ne (fm119 k9 hi9).2.2 tI14 (tnA (show 10118 < 11000 by decide))), (fm119 k9 hi9).2.2⟩
        have fm175 : ∀ k9, k9 < 12 → qw k9 = some (wr k9) ∧ wd_at w123 (wr k9) (.inl (cy 2, 12, .inl (fw k9))) ∧ tg (wr k9) = 12000 + k9 := fun k9 hi9 => ⟨(fm120 k9 hi9).1, wd_at.pt ew124 (fm120 k9 hi9).2.1 (tg_ne (fm120 k9 hi9).2.2 tI14 (tnA (show 10118 < 12000 by decide))), (fm120 k9 hi9).2.2⟩
        have fm176 : ∀ k9, k9 < 60 → qs k9 = some (sr k9) ∧ wd_at w123 (sr k9) (.inl (cy 2, 12, .inl (fs k9))) ∧ tg (sr k9) = 13000 + k9 := fun k9 hi9 => ⟨(fm121 k9 hi9).1, wd_at.pt ew124 (fm121 k9 hi9).2.1 (tg_ne (fm121 k9 hi9).2.2 tI14 (tnA (show 10118 < 13000 by decide))), (fm121 k9 hi9).2.2⟩
        have kp177 := kp122.put ew124 (tgT tI14 (by decide))
        refine lv_aload_n hx hb dX11_advise_58 rfl (lv_at hl 0 rfl) ?_
        refine x_get (ref := "NoteHouseModel") F hP k125 rfl (fun _ h => List.mem_cons_of_mem _ (List.mem_append_right _ (h))) 19 (Nat.le_of_ble_eq_true rfl) (List.mem_cons_of_mem _ (List.mem_append_left _ (List.mem_of_getElem? (i := 4) rfl))) rfl rfl dX11_advise_59 ?_
        refine lv_aload_n hx hb dX11_advise_62 rfl (lv_at hl 0 rfl) ?_
        refine x_get (ref := "NoteHouseModel") F hP k125 rfl (fun _ h => List.mem_cons_of_mem _ (List.mem_append_right _ (h))) 15 (Nat.le_of_ble_eq_true rfl) (List.mem_cons_of_mem _ (List.mem_append_left _ (List.mem_of_getElem? (i := 0) rfl))) rfl rfl dX11_advise_63 ?_
        refine lv_aload_n hx hb dX11_advise_66 rfl (lv_at hl 0 rfl) ?_
        refine x_get (ref := "NoteHouseModel") F hP k125 rfl (fun _ h => List.mem_cons_of_mem _ (List.mem_append_right _ (h))) 6 (Nat.le_of_ble_eq_true rfl) (List.mem_cons_of_mem _ (List.mem_append_left _ (List.mem_of_getElem? (i := 5) rfl))) rfl rfl dX11_advise_67 ?_
        refine lv_iload_n hx hb dX11_advise_70 rfl (lv_at hl 2 rfl) ?_
        refine x_iald F hP k130 (vp_in_nI (n := tw) (N := 12) (by omega) (by decide)) dX11_advise_71 ?_
        refine lv_ldc (v := 268435456) hx hb hown (hts _ (List.mem_cons_of_mem _ (List.mem_append_left _ (List.mem_of_getElem? (i := 6) rfl)))) dX11_advise_72 ?_
        refine lv_icmp_ne (tgt := 82) hx hb dX11_advise_74 (by decide) (fun c_178 => ?_) (fun c_178 => ?_)
        · refine lv_aload_n hx hb dX11_advise_82 rfl (lv_at hl 0 rfl) ?_
          refine x_get (ref := "NoteHouseModel") F hP k125 rfl (fun _ h => List.mem_cons_of_mem _ (List.mem_append_right _ (h))) 1 (Nat.le_of_ble_eq_true rfl) (List.mem_cons_of_mem _ (List.mem_append_left _ (List.mem_of_getElem? (i := 7) rfl))) rfl rfl dX11_advise_83 ?_
          refine lv_aload_n hx hb dX11_advise_86 rfl (lv_at hl 0 rfl) ?_
          refine x_get (ref := "NoteHouseModel") F hP k125 rfl (fun _ h => List.mem_cons_of_mem _ (List.mem_append_right _ (h))) 6 (Nat.le_of_ble_eq_true rfl) (List.mem_cons_of_mem _ (List.mem_append_left _ (List.mem_of_getElem? (i := 5) rfl))) rfl rfl dX11_advise_87 ?_
          refine lv_iload_n hx hb dX11_advise_90 rfl (lv_at hl 2 rfl) ?_
          refine x_iald F hP k130 (vp_in_nI (n := tw) (N := 12) (by omega) (by decide)) dX11_advise_91 ?_
          refine lv_iadd hx hb dX11_advise_92 ?_
          refine y_iast F hP hD hS k140 (vp_in_nI (n := ac) (N := 60) (by omega) (by decide)) dX11_advise_93 (fun w179 ew180 H locs hP hD hS => ?_)
          have k181 := wd_at.pt ew180 k125 (tg_ne tI0 tI15 (by decide))
          have k182 := wd_at.pt ew180 k126 (tg_ne tI1 tI15 (by decide))
          have k183 := wd_at.pt ew180 k127 (tg_ne tI2 tI15 (by decide))
          have k184 := wd_at.pt ew180 k128 (tg_ne tI3 tI15 (by decide))
          have k185 := wd_at.pt ew180 k129 (tg_ne tI4 tI15 (by decide))
          have k186 := wd_at.pt ew180 k130 (tg_ne tI5 tI15 (by decide))
          have k187 := wd_at.pt ew180 k131 (tg_ne tI6 tI15 (by decide))
          have k188 := wd_at.pt ew180 k132 (tg_ne tI7 tI15 (by decide))
          have k189 := wd_at.pt ew180 k133 (tg_ne tI8 tI15 (by decide))
          have k190 := wd_at.pt ew180 k134 (tg_ne tI9 tI15 (by decide))
          have k191 := wd_at.pt ew180 k135 (tg_ne tI10 tI15 (by decide))
          have k192 := wd_at.pt ew180 k136 (tg_ne tI11 tI15 (by decide))
          have k193 := wd_at.pt ew180 k137 (tg_ne tI12 tI15 (by decide))
          have k194 := wd_at.pt ew180 k138 (tg_ne tI13 tI15 (by decide))
          have k195 := wd_at.pt ew180 k139 (tg_ne tI14 tI15 (by decide))
          have k196 : wd_at w179 m19 (.inl (cy 2, 60, .inl (upd f19 (nI ac).toNatClampNeg (td + (gx13 (nI tw).toNatClampNeg))))) := wd_at.ps ew180 k140
          have k197 := wd_at.pt ew180 k141 (tg_ne tI16 tI15 (by decide))
          have k198 := wd_at.pt ew180 k142 (tg_ne tI17 tI15 (by decide))
          have k199 := wd_at.pt ew180 k143 (tg_ne tI18 tI15 (by decide))
          have k200 := wd_at.pt ew180 k144 (tg_ne tI19 tI15 (by decide))
          have k201 := wd_at.pt ew180 k145 (tg_ne tI20 tI15 (by decide))
          have k202 := wd_at.pt ew180 k146 (tg_ne tI21 tI15 (by decide))
          have k203 := wd_at.pt ew180 k147 (tg_ne tI22 tI15 (by decide))
          have k204 := wd_at.pt ew180 k148 (tg_ne tI23 tI15 (by decide))
          have k205 := wd_at.pt ew180 k149 (tg_ne tI24 tI15 (by decide))
          have k206 := wd_at.pt ew180 k150 (tg_ne tI25 tI15 (by decide))
          have k207 := wd_at.pt ew180 k151 (tg_ne tI26 tI15 (by decide))
          have k208 := wd_at.pt ew180 k152 (tg_ne tI27 tI15 (by decide))
          have k209 := wd_at.pt ew180 k153 (tg_ne tI28 tI15 (by decide))
          have k210 := wd_at.pt ew180 k154 (tg_ne tI29 tI15 (by decide))
          have k211 := wd_at.pt ew180 k155 (tg_ne tI30 tI15 (by decide))
          have k212 := wd_at.pt ew180 k156 (tg_ne tI31 tI15 (by decide))
          have k213 := wd_at.pt ew180 k157 (tg_ne tI32 tI15 (by decide))
          have k214 := wd_at.pt ew180 k158 (tg_ne tI33 tI15 (by decide))
          have k215 := wd_at.pt ew180 k159 (tg_ne tI34 tI15 (by decide))
          have k216 := wd_at.pt ew180 k160 (tg_ne tI35 tI15 (by decide))
          have k217 := wd_at.pt ew180 k161 (tg_ne tI36 tI15 (by decide))
          have k218 := wd_at.pt ew180 k162 (tg_ne tI37 tI15 (by decide))
          have k219 := wd_at.pt ew180 k163 (tg_ne tI38 tI15 (by decide))
          have k220 := wd_at.pt ew180 k164 (tg_ne tI39 tI15 (by decide))
          have k221 := wd_at.pt ew180 k165 (tg_ne tI40 tI15 (by decide))
          have k222 := wd_at.pt ew180 k166 (tg_ne tI41 tI15 (by decide))
          have k223 := wd_at.pt ew180 k167 (tg_ne tI42 tI15 (by decide))
          have k224 := wd_at.pt ew180 k168 (tg_ne tI43 tI15 (by decide))
          have k225 := wd_at.pt ew180 k169 (tg_ne tI44 tI15 (by decide))
          have k226 := wd_at.pt ew180 k170 (tg_ne tI45 tI15 (by decide))
          have k227 := wd_at.pt ew180 k171 (tg_ne tI46 tI15 (by decide))
          have k228 := wd_at.pt ew180 k172 (tg_ne tI47 tI15 (by decide))
          have k229 := wd_at.pt ew180 k173 (tg_ne tI48 tI15 (by decide))
          have fm230 : ∀ k9, k9 < 12 → qp k9 = some (pr k9) ∧ wd_at w179 (pr k9) (.inl (cy 2, 12, .inl (fp k9))) ∧ tg (pr k9) = 11000 + k9 := fun k9 hi9 => ⟨(fm174 k9 hi9).1, wd_at.pt ew180 (fm174 k9 hi9).2.1 (tg_ne (fm174 k9 hi9).2.2 tI15 (tnA (show 10119 < 11000 by decide))), (fm174 k9 hi9).2.2⟩
          have fm231 : ∀ k9, k9 < 12 → qw k9 = some (wr k9) ∧ wd_at w179 (wr k9) (.inl (cy 2, 12, .inl (fw k9))) ∧ tg (wr k9) = 12000 + k9 := fun k9 hi9 => ⟨(fm175 k9 hi9).1, wd_at.pt ew180 (fm175 k9 hi9).2.1 (tg_ne (fm175 k9 hi9).2.2 tI15 (tnA (show 10119 < 12000 by decide))), (fm175 k9 hi9).2.2⟩
          have fm232 : ∀ k9, k9 < 60 → qs k9 = some (sr k9) ∧ wd_at w179 (sr k9) (.inl (cy 2, 12, .inl (fs k9))) ∧ tg (sr k9) = 13000 + k9 := fun k9 hi9 => ⟨(fm176 k9 hi9).1, wd_at.pt ew180 (fm176 k9 hi9).2.1 (tg_ne (fm176 k9 hi9).2.2 tI15 (tnA (show 10119 < 13000 by decide))), (fm176 k9 hi9).2.2⟩
          have kp233 := kp177.put ew180 (tgT tI15 (by decide))
          refine lv_aload_n hx hb dX11_advise_94 rfl (lv_at hl 0 rfl) ?_
          refine lv_dup hx hb dX11_advise_95 rfl ?_
          refine x_get (ref := "NoteHouseModel") F hP k181 rfl (fun _ h => List.mem_cons_of_mem _ (List.mem_append_right _ (h))) 15 (Nat.le_of_ble_eq_true rfl) (List.mem_cons_of_mem _ (List.mem_append_left _ (List.mem_of_getElem? (i := 0) rfl))) rfl rfl dX11_advise_96 ?_
          refine lv_iconst (v := 1) hx hb dX11_advise_99 (by decide) ?_
          refine lv_iadd hx hb dX11_advise_100 ?_
          rw [show ((nI ac) + 1 : Int32) = nI (ac + 1) from nI_add ac 1]
          refine y_put (ref := "NoteHouseModel") F hP hD hS k181 rfl (fun _ h => List.mem_cons_of_mem _ (List.mem_append_right _ (h))) tyX11_ok nmX11 15 (Nat.le_of_ble_eq_true rfl) (List.mem_cons_of_mem _ (List.mem_append_left _ (List.mem_of_getElem? (i := 0) rfl))) rfl rfl rfl rfl (Nat.le_of_ble_eq_true rfl) dX11_advise_101 (fun w234 ew235 H locs hP hD hS => ?_)
          have k236 : wd_at w234 y (.inr (11, [.int v0, .int td, .ref m2, .ref m3, .ref m4, .ref m5, .ref m6, .int (nI pc), .ref m8, .ref m9, .ref m10, .ref m11, .ref m12, .ref m13, .ref m14, .int (nI (ac + 1)), .int (nI sc), .ref m17, .ref m18, .ref m19, .ref m20, .ref m21, .ref m22, .ref m23, .ref m24, .int (nI ln), .int v26, .int v27, .int v28, .ref m29, .ref m30, .ref m31, .ref m32, .ref m33, .ref m34, .ref m35, .ref m36, .ref m37, .int (nI sh), .ref m39, .ref m40, .ref m41, .ref m42, .ref m43, .ref m44, .ref m45, .ref m46, .ref m47, .ref m48, .ref m49, .int v50, .ref m51, .ref m52, .ref m53, .ref m54, .int (nI gf), .ref m56, .ref m57, .ref m58, .ref m59])) := wd_at.ps ew235 k181
          have k237 := wd_at.pt ew235 k182 (tg_ne tI1 tI0 (by decide))
          have k238 := wd_at.pt ew235 k183 (tg_ne tI2 tI0 (by decide))
          have k239 := wd_at.pt ew235 k184 (tg_ne tI3 tI0 (by decide))
          have k240 := wd_at.pt ew235 k185 (tg_ne tI4 tI0 (by decide))
          have k241 := wd_at.pt ew235 k186 (tg_ne tI5 tI0 (by decide))
          have k242 := wd_at.pt ew235 k187 (tg_ne tI6 tI0 (by decide))
          have k243 := wd_at.pt ew235 k188 (tg_ne tI7 tI0 (by decide))
          have k244 := wd_at.pt ew235 k189 (tg_ne tI8 tI0 (by decide))
          have k245 := wd_at.pt ew235 k190 (tg_ne tI9 tI0 (by decide))
          have k246 := wd_at.pt ew235 k191 (tg_ne tI10 tI0 (by decide))
          have k247 := wd_at.pt ew235 k192 (tg_ne tI11 tI0 (by decide))
          have k248 := wd_at.pt ew235 k193 (tg_ne tI12 tI0 (by decide))
          have k249 := wd_at.pt ew235 k194 (tg_ne tI13 tI0 (by decide))
          have k250 := wd_at.pt ew235 k195 (tg_ne tI14 tI0 (by decide))
          have k251 := wd_at.pt ew235 k196 (tg_ne tI15 tI0 (by decide))
          have k252 := wd_at.pt ew235 k197 (tg_ne tI16 tI0 (by decide))
          have k253 := wd_at.pt ew235 k198 (tg_ne tI17 tI0 (by decide))
          have k254 := wd_at.pt ew235 k199 (tg_ne tI18 tI0 (by decide))
          have k255 := wd_at.pt ew235 k200 (tg_ne tI19 tI0 (by decide))
          have k256 := wd_at.pt ew235 k201 (tg_ne tI20 tI0 (by decide))
          have k257 := wd_at.pt ew235 k202 (tg_ne tI21 tI0 (by decide))
          have k258 := wd_at.pt ew235 k203 (tg_ne tI22 tI0 (by decide))
          have k259 := wd_at.pt ew235 k204 (tg_ne tI23 tI0 (by decide))
          have k260 := wd_at.pt ew235 k205 (tg_ne tI24 tI0 (by decide))
          have k261 := wd_at.pt ew235 k206 (tg_ne tI25 tI0 (by decide))
          have k262 := wd_at.pt ew235 k207 (tg_ne tI26 tI0 (by decide))
          have k263 := wd_at.pt ew235 k208 (tg_ne tI27 tI0 (by decide))
          have k264 := wd_at.pt ew235 k209 (tg_ne tI28 tI0 (by decide))
          have k265 := wd_at.pt ew235 k210 (tg_ne tI29 tI0 (by decide))
          have k266 := wd_at.pt ew235 k211 (tg_ne tI30 tI0 (by decide))
          have k267 := wd_at.pt ew235 k212 (tg_ne tI31 tI0 (by decide))
          have k268 := wd_at.pt ew235 k213 (tg_ne tI32 tI0 (by decide))
          have k269 := wd_at.pt ew235 k214 (tg_ne tI33 tI0 (by decide))
          have k270 := wd_at.pt ew235 k215 (tg_ne tI34 tI0 (by decide))
          have k271 := wd_at.pt ew235 k216 (tg_ne tI35 tI0 (by decide))
          have k272 := wd_at.pt ew235 k217 (tg_ne tI36 tI0 (by decide))
          have k273 := wd_at.pt ew235 k218 (tg_ne tI37 tI0 (by decide))
          have k274 := wd_at.pt ew235 k219 (tg_ne tI38 tI0 (by decide))
          have k275 := wd_at.pt ew235 k220 (tg_ne tI39 tI0 (by decide))
          have k276 := wd_at.pt ew235 k221 (tg_ne tI40 tI0 (by decide))
          have k277 := wd_at.pt ew235 k222 (tg_ne tI41 tI0 (by decide))
          have k278 := wd_at.pt ew235 k223 (tg_ne tI42 tI0 (by decide))
          have k279 := wd_at.pt ew235 k224 (tg_ne tI43 tI0 (by decide))
          have k280 := wd_at.pt ew235 k225 (tg_ne tI44 tI0 (by decide))
          have k281 := wd_at.pt ew235 k226 (tg_ne tI45 tI0 (by decide))
          have k282 := wd_at.pt ew235 k227 (tg_ne tI46 tI0 (by decide))
          have k283 := wd_at.pt ew235 k228 (tg_ne tI47 tI0 (by decide))
          have k284 := wd_at.pt ew235 k229 (tg_ne tI48 tI0 (by decide))
          have fm285 : ∀ k9, k9 < 12 → qp k9 = some (pr k9) ∧ wd_at w234 (pr k9) (.inl (cy 2, 12, .inl (fp k9))) ∧ tg (pr k9) = 11000 + k9 := fun k9 hi9 => ⟨(fm230 k9 hi9).1, wd_at.pt ew235 (fm230 k9 hi9).2.1 (tg_ne (fm230 k9 hi9).2.2 tI0 (tnA (show 10000 < 11000 by decide))), (fm230 k9 hi9).2.2⟩
          have fm286 : ∀ k9, k9 < 12 → qw k9 = some (wr k9) ∧ wd_at w234 (wr k9) (.inl (cy 2, 12, .inl (fw k9))) ∧ tg (wr k9) = 12000 + k9 := fun k9 hi9 => ⟨(fm231 k9 hi9).1, wd_at.pt ew235 (fm231 k9 hi9).2.1 (tg_ne (fm231 k9 hi9).2.2 tI0 (tnA (show 10000 < 12000 by decide))), (fm231 k9 hi9).2.2⟩
          have fm287 : ∀ k9, k9 < 60 → qs k9 = some (sr k9) ∧ wd_at w234 (sr k9) (.inl (cy 2, 12, .inl (fs k9))) ∧ tg (sr k9) = 13000 + k9 := fun k9 hi9 => ⟨(fm232 k9 hi9).1, wd_at.pt ew235 (fm232 k9 hi9).2.1 (tg_ne (fm232 k9 hi9).2.2 tI0 (tnA (show 10000 < 13000 by decide))), (fm232 k9 hi9).2.2⟩
          have kp288 := kp233.put ew235 (tgT tI0 (by decide))
          refine lv_aload_n hx hb dX11_advise_104 rfl (lv_at hl 0 rfl) ?_
          refine x_get (ref := "NoteHouseModel") F hP k236 rfl (fun _ h => List.mem_cons_of_mem _ (List.mem_append_right _ (h))) 15 (Nat.le_of_ble_eq_true rfl) (List.mem_cons_of_mem _ (List.mem_append_left _ (List.mem_of_getElem? (i := 0) rfl))) rfl rfl dX11_advise_105 ?_
          refine lv_iconst (v := 1) hx hb dX11_advise_108 (by decide) ?_
          refine lv_isub hx hb dX11_advise_109 ?_
          rw [show ((nI (ac + 1)) - 1 : Int32) = nI ((ac + 1) - 1) from pk_sub (a := (ac + 1)) (b := 1) (by omega)]
          have hX289 : IM cy tg y td pc (ac + 1) sc ln se plv w234 := IM.mk m2 m3 m4 m5 m6 m8 m9 m10 m11 m12 m13 m14 m17 m18 m19 m20 m21 m22 m23 m24 m29 m30 m31 m32 m33 m34 m35 m36 m37 m39 m40 m41 m42 m43 m44 m45 m46 m47 m48 m49 m51 m52 m53 m54 m56 m57 m58 m59 sh gf v0 v26 v27 v28 v50 f4 f5 gx13 f8 f9 f10 f11 f12 f13 f14 (upd f17 (nI ac).toNatClampNeg (nI pp)) (upd f18 (nI ac).toNatClampNeg (nI tw)) (upd f19 (nI ac).toNatClampNeg (td + (gx13 (nI tw).toNatClampNeg))) f20 f21 f22 f24 f29 f30 f31 f32 f33 f34 f35 f36 f37 f39 f40 f41 f42 f43 f44 f45 f46 f47 f48 f49 f51 f52 f53 f54 f56 f57 f58 f59 qp pr fp qw wr fw qs sr fs (by omega) (by omega) (by omega) (by omega) (by omega) (by omega) hrl hc ht hp hso hlo k236 tI0 k237 tI1 k238 tI2 k239 tI3 k240 tI4 k241 tI5 k242 tI6 k243 tI7 k244 tI8 k245 tI9 k246 tI10 k247 tI11 k248 tI12 k249 tI13 k250 tI14 k251 tI15 k252 tI16 k253 tI17 k254 tI18 k255 tI19 k256 tI20 k257 tI21 k258 tI22 k259 tI23 k260 tI24 k261 tI25 k262 tI26 k263 tI27 k264 tI28 k265 tI29 k266 tI30 k267 tI31 k268 tI32 k269 tI33 k270 tI34 k271 tI35 k272 tI36 k273 tI37 k274 tI38 k275 tI39 k276 tI40 k277 tI41 k278 tI42 k279 tI43 k280 tI44 k281 tI45 k282 tI46 k283 tI47 k284 tI48 fm285 fm286 fm287
          exact y_ir K hP hD hS (Nat.le_of_ble_eq_true rfl) (Nat.le_of_ble_eq_true rfl) (ty := .int) rfl rfl dX11_advise_110 (by refine ⟨(congrArg (fun z => some (Value.int z)) (show nI ((ac + 1) - 1) = advA pc ac (nI pp) (nI tw) from by simp [advA, advC, c_1, h60, c_5, clpp, c_9, cltw, c_178])), ?_⟩; rw [show advC pc ac (nI pp) (nI tw) = (ac + 1) from by simp [advA, advC, c_1, h60, c_5, clpp, c_9, cltw, c_178]]; exact ⟨kp288, hX289⟩)
        · refine lv_ldc (v := 268435456) hx hb hown (hts _ (List.mem_cons_of_mem _ (List.mem_append_left _ (List.mem_of_getElem? (i := 6) rfl)))) dX11_advise_77 ?_
          refine lv_goto (tgt := 93) hx hb dX11_advise_79 (by decide) ?_
          refine y_iast F hP hD hS k140 (vp_in_nI (n := ac) (N := 60) (by omega) (by decide)) dX11_advise_93 (fun w290 ew291 H locs hP hD hS => ?_)
          have k292 := wd_at.pt ew291 k125 (tg_ne tI0 tI15 (by decide))
          have k293 := wd_at.pt ew291 k126 (tg_ne tI1 tI15 (by decide))
          have k294 := wd_at.pt ew291 k127 (tg_ne tI2 tI15 (by decide))
          have k295 := wd_at.pt ew291 k128 (tg_ne tI3 tI15 (by decide))
          have k296 := wd_at.pt ew291 k129 (tg_ne tI4 tI15 (by decide))
          have k297 := wd_at.pt ew291 k130 (tg_ne tI5 tI15 (by decide))
          have k298 := wd_at.pt ew291 k131 (tg_ne tI6 tI15 (by decide))
          have k299 := wd_at.pt ew291 k132 (tg_ne tI7 tI15 (by decide))
          have k300 := wd_at.pt ew291 k133 (tg_ne tI8 tI15 (by decide))
          have k301 := wd_at.pt ew291 k134 (tg_ne tI9 tI15 (by decide))
          have k302 := wd_at.pt ew291 k135 (tg_ne tI10 tI15 (by decide))
          have k303 := wd_at.pt ew291 k136 (tg_ne tI11 tI15 (by decide))
          have k304 := wd_at.pt ew291 k137 (tg_ne tI12 tI15 (by decide))
          have k305 := wd_at.pt ew291 k138 (tg_ne tI13 tI15 (by decide))
          have k306 := wd_at.pt ew291 k139 (tg_ne tI14 tI15 (by decide))
          have k307 : wd_at w290 m19 (.inl (cy 2, 60, .inl (upd f19 (nI ac).toNatClampNeg 268435456))) := wd_at.ps ew291 k140
          have k308 := wd_at.pt ew291 k141 (tg_ne tI16 tI15 (by decide))
          have k309 := wd_at.pt ew291 k142 (tg_ne tI17 tI15 (by decide))
          have k310 := wd_at.pt ew291 k143 (tg_ne tI18 tI15 (by decide))
          have k311 := wd_at.pt ew291 k144 (tg_ne tI19 tI15 (by decide))
          have k312 := wd_at.pt ew291 k145 (tg_ne tI20 tI15 (by decide))
          have k313 := wd_at.pt ew291 k146 (tg_ne tI21 tI15 (by decide))
          have k314 := wd_at.pt ew291 k147 (tg_ne tI22 tI15 (by decide))
          have k315 := wd_at.pt ew291 k148 (tg_ne tI23 tI15 (by decide))
          have k316 := wd_at.pt ew291 k149 (tg_ne tI24 tI15 (by decide))
          have k317 := wd_at.pt ew291 k150 (tg_ne tI25 tI15 (by decide))
          have k318 := wd_at.pt ew291 k151 (tg_ne tI26 tI15 (by decide))
          have k319 := wd_at.pt ew291 k152 (tg_ne tI27 tI15 (by decide))
          have k320 := wd_at.pt ew291 k153 (tg_ne tI28 tI15 (by decide))
          have k321 := wd_at.pt ew291 k154 (tg_ne tI29 tI15 (by decide))
          have k322 := wd_at.pt ew291 k155 (tg_ne tI30 tI15 (by decide))
          have k323 := wd_at.pt ew291 k156 (tg_ne tI31 tI15 (by decide))
          have k324 := wd_at.pt ew291 k157 (tg_ne tI32 tI15 (by decide))
          have k325 := wd_at.pt ew291 k158 (tg_ne tI33 tI15 (by decide))
          have k326 := wd_at.pt ew291 k159 (tg_ne tI34 tI15 (by decide))
          have k327 := wd_at.pt ew291 k160 (tg_ne tI35 tI15 (by decide))
          have k328 := wd_at.pt ew291 k161 (tg_ne tI36 tI15 (by decide))
          have k329 := wd_at.pt ew291 k162 (tg_ne tI37 tI15 (by decide))
          have k330 := wd_at.pt ew291 k163 (tg_ne tI38 tI15 (by decide))
          have k331 := wd_at.pt ew291 k164 (tg_ne tI39 tI15 (by decide))
          have k332 := wd_at.pt ew291 k165 (tg_ne tI40 tI15 (by decide))
          have k333 := wd_at.pt ew291 k166 (tg_ne tI41 tI15 (by decide))
          have k334 := wd_at.pt ew291 k167 (tg_ne tI42 tI15 (by decide))
          have k335 := wd_at.pt ew291 k168 (tg_ne tI43 tI15 (by decide))
          have k336 := wd_at.pt ew291 k169 (tg_ne tI44 tI15 (by decide))
          have k337 := wd_at.pt ew291 k170 (tg_ne tI45 tI15 (by decide))
          have k338 := wd_at.pt ew291 k171 (tg_ne tI46 tI15 (by decide))
          have k339 := wd_at.pt ew291 k172 (tg_ne tI47 tI15 (by decide))
          have k340 := wd_at.pt ew291 k173 (tg_ne tI48 tI15 (by decide))
          have fm341 : ∀ k9, k9 < 12 → qp k9 = some (pr k9) ∧ wd_at w290 (pr k9) (.inl (cy 2, 12, .inl (fp k9))) ∧ tg (pr k9) = 11000 + k9 := fun k9 hi9 => ⟨(fm174 k9 hi9).1, wd_at.pt ew291 (fm174 k9 hi9).2.1 (tg_ne (fm174 k9 hi9).2.2 tI15 (tnA (show 10119 < 11000 by decide))), (fm174 k9 hi9).2.2⟩
          have fm342 : ∀ k9, k9 < 12 → qw k9 = some (wr k9) ∧ wd_at w290 (wr k9) (.inl (cy 2, 12, .inl (fw k9))) ∧ tg (wr k9) = 12000 + k9 := fun k9 hi9 => ⟨(fm175 k9 hi9).1, wd_at.pt ew291 (fm175 k9 hi9).2.1 (tg_ne (fm175 k9 hi9).2.2 tI15 (tnA (show 10119 < 12000 by decide))), (fm175 k9 hi9).2.2⟩
          have fm343 : ∀ k9, k9 < 60 → qs k9 = some (sr k9) ∧ wd_at w290 (sr k9) (.inl (cy 2, 12, .inl (fs k9))) ∧ tg (sr k9) = 13000 + k9 := fun k9 hi9 => ⟨(fm176 k9 hi9).1, wd_at.pt ew291 (fm176 k9 hi9).2.1 (tg_ne (fm176 k9 hi9).2.2 tI15 (tnA (show 10119 < 13000 by decide))), (fm176 k9 hi9).2.2⟩
          have kp344 := kp177.put ew291 (tgT tI15 (by decide))
          refine lv_aload_n hx hb dX11_advise_94 rfl (lv_at hl 0 rfl) ?_
          refine lv_dup hx hb dX11_advise_95 rfl ?_
          refine x_get (ref := "NoteHouseModel") F hP k292 rfl (fun _ h => List.mem_cons_of_mem _ (List.mem_append_right _ (h))) 15 (Nat.le_of_ble_eq_true rfl) (List.mem_cons_of_mem _ (List.mem_append_left _ (List.mem_of_getElem? (i := 0) rfl))) rfl rfl dX11_advise_96 ?_
          refine lv_iconst (v := 1) hx hb dX11_advise_99 (by decide) ?_
          refine lv_iadd hx hb dX11_advise_100 ?_
          rw [show ((nI ac) + 1 : Int32) = nI (ac + 1) from nI_add ac 1]
          refine y_put (ref := "NoteHouseModel") F hP hD hS k292 rfl (fun _ h => List.mem_cons_of_mem _ (List.mem_append_right _ (h))) tyX11_ok nmX11 15 (Nat.le_of_ble_eq_true rfl) (List.mem_cons_of_mem _ (List.mem_append_left _ (List.mem_of_getElem? (i := 0) rfl))) rfl rfl rfl rfl (Nat.le_of_ble_eq_true rfl) dX11_advise_101 (fun w345 ew346 H locs hP hD hS => ?_)
          have k347 : wd_at w345 y (.inr (11, [.int v0, .int td, .ref m2, .ref m3, .ref m4, .ref m5, .ref m6, .int (nI pc), .ref m8, .ref m9, .ref m10, .ref m11, .ref m12, .ref m13, .ref m14, .int (nI (ac + 1)), .int (nI sc), .ref m17, .ref m18, .ref m19, .ref m20, .ref m21, .ref m22, .ref m23, .ref m24, .int (nI ln), .int v26, .int v27, .int v28, .ref m29, .ref m30, .ref m31, .ref m32, .ref m33, .ref m34, .ref m35, .ref m36, .ref m37, .int (nI sh), .ref m39, .ref m40, .ref m41, .ref m42, .ref m43, .ref m44, .ref m45, .ref m46, .ref m47, .ref m48, .ref m49, .int v50, .ref m51, .ref m52, .ref m53, .ref m54, .int (nI gf), .ref m56, .ref m57, .ref m58, .ref m59])) := wd_at.ps ew346 k292
          have k348 := wd_at.pt ew346 k293 (tg_ne tI1 tI0 (by decide))
          have k349 := wd_at.pt ew346 k294 (tg_ne tI2 tI0 (by decide))
          have k350 := wd_at.pt ew346 k295 (tg_ne tI3 tI0 (by decide))
          have k351 := wd_at.pt ew346 k296 (tg_ne tI4 tI0 (by decide))
          have k352 := wd_at.pt ew346 k297 (tg_ne tI5 tI0 (by decide))
          have k353 := wd_at.pt ew346 k298 (tg_ne tI6 tI0 (by decide))
          have k354 := wd_at.pt ew346 k299 (tg_ne tI7 tI0 (by decide))
          have k355 := wd_at.pt ew346 k300 (tg_ne tI8 tI0 (by decide))
          have k356 := wd_at.pt ew346 k301 (tg_ne tI9 tI0 (by decide))
          have k357 := wd_at.pt ew346 k302 (tg_ne tI10 tI0 (by decide))
          have k358 := wd_at.pt ew346 k303 (tg_ne tI11 tI0 (by decide))
          have k359 := wd_at.pt ew346 k304 (tg_ne tI12 tI0 (by decide))
          have k360 := wd_at.pt ew346 k305 (tg_ne tI13 tI0 (by decide))
          have k361 := wd_at.pt ew346 k306 (tg_ne tI14 tI0 (by decide))
          have k362 := wd_at.pt ew346 k307 (tg_ne tI15 tI0 (by decide))
          have k363 := wd_at.pt ew346 k308 (tg_ne tI16 tI0 (by decide))
          have k364 := wd_at.pt ew346 k309 (tg_ne tI17 tI0 (by decide))
          have k365 := wd_at.pt ew346 k310 (tg_ne tI18 tI0 (by decide))
          have k366 := wd_at.pt ew346 k311 (tg_ne tI19 tI0 (by decide))
          have k367 := wd_at.pt ew346 k312 (tg_ne tI20 tI0 (by decide))
          have k368 := wd_at.pt ew346 k313 (tg_ne tI21 tI0 (by decide))
          have k369 := wd_at.pt ew346 k314 (tg_ne tI22 tI0 (by decide))
          have k370 := wd_at.pt ew346 k315 (tg_ne tI23 tI0 (by decide))
          have k371 := wd_at.pt ew346 k316 (tg_ne tI24 tI0 (by decide))
          have k372 := wd_at.pt ew346 k317 (tg_ne tI25 tI0 (by decide))
          have k373 := wd_at.pt ew346 k318 (tg_ne tI26 tI0 (by decide))
          have k374 := wd_at.pt ew346 k319 (tg_ne tI27 tI0 (by decide))
          have k375 := wd_at.pt ew346 k320 (tg_ne tI28 tI0 (by decide))
          have k376 := wd_at.pt ew346 k321 (tg_ne tI29 tI0 (by decide))
          have k377 := wd_at.pt ew346 k322 (tg_ne tI30 tI0 (by decide))
          have k378 := wd_at.pt ew346 k323 (tg_ne tI31 tI0 (by decide))
          have k379 := wd_at.pt ew346 k324 (tg_ne tI32 tI0 (by decide))
          have k380 := wd_at.pt ew346 k325 (tg_ne tI33 tI0 (by decide))
          have k381 := wd_at.pt ew346 k326 (tg_ne tI34 tI0 (by decide))
          have k382 := wd_at.pt ew346 k327 (tg_ne tI35 tI0 (by decide))
          have k383 := wd_at.pt ew346 k328 (tg_ne tI36 tI0 (by decide))
          have k384 := wd_at.pt ew346 k329 (tg_ne tI37 tI0 (by decide))
          have k385 := wd_at.pt ew346 k330 (tg_ne tI38 tI0 (by decide))
          have k386 := wd_at.pt ew346 k331 (tg_ne tI39 tI0 (by decide))
          have k387 := wd_at.pt ew346 k332 (tg_ne tI40 tI0 (by decide))
          have k388 := wd_at.pt ew346 k333 (tg_ne tI41 tI0 (by decide))
          have k389 := wd_at.pt ew346 k334 (tg_ne tI42 tI0 (by decide))
          have k390 := wd_at.pt ew346 k335 (tg_ne tI43 tI0 (by decide))
          have k391 := wd_at.pt ew346 k336 (tg_ne tI44 tI0 (by decide))
          have k392 := wd_at.pt ew346 k337 (tg_ne tI45 tI0 (by decide))
          have k393 := wd_at.pt ew346 k338 (tg_ne tI46 tI0 (by decide))
          have k394 := wd_at.pt ew346 k339 (tg_ne tI47 tI0 (by decide))
          have k395 := wd_at.pt ew346 k340 (tg_ne tI48 tI0 (by decide))
          have fm396 : ∀ k9, k9 < 12 → qp k9 = some (pr k9) ∧ wd_at w345 (pr k9) (.inl (cy 2, 12, .inl (fp k9))) ∧ tg (pr k9) = 11000 + k9 := fun k9 hi9 => ⟨(fm341 k9 hi9).1, wd_at.pt ew346 (fm341 k9 hi9).2.1 (tg_ne (fm341 k9 hi9).2.2 tI0 (tnA (show 10000 < 11000 by decide))), (fm341 k9 hi9).2.2⟩
          have fm397 : ∀ k9, k9 < 12 → qw k9 = some (wr k9) ∧ wd_at w345 (wr k9) (.inl (cy 2, 12, .inl (fw k9))) ∧ tg (wr k9) = 12000 + k9 := fun k9 hi9 => ⟨(fm342 k9 hi9).1, wd_at.pt ew346 (fm342 k9 hi9).2.1 (tg_ne (fm342 k9 hi9).2.2 tI0 (tnA (show 10000 < 12000 by decide))), (fm342 k9 hi9).2.2⟩
          have fm398 : ∀ k9, k9 < 60 → qs k9 = some (sr k9) ∧ wd_at w345 (sr k9) (.inl (cy 2, 12, .inl (fs k9))) ∧ tg (sr k9) = 13000 + k9 := fun k9 hi9 => ⟨(fm343 k9 hi9).1, wd_at.pt ew346 (fm343 k9 hi9).2.1 (tg_ne (fm343 k9 hi9).2.2 tI0 (tnA (show 10000 < 13000 by decide))), (fm343 k9 hi9).2.2⟩
          have kp399 := kp344.put ew346 (tgT tI0 (by decide))
          refine lv_aload_n hx hb dX11_advise_104 rfl (lv_at hl 0 rfl) ?_
          refine x_get (ref := "NoteHouseModel") F hP k347 rfl (fun _ h => List.mem_cons_of_mem _ (List.mem_append_right _ (h))) 15 (Nat.le_of_ble_eq_true rfl) (List.mem_cons_of_mem _ (List.mem_append_left _ (List.mem_of_getElem? (i := 0) rfl))) rfl rfl dX11_advise_105 ?_
          refine lv_iconst (v := 1) hx hb dX11_advise_108 (by decide) ?_
          refine lv_isub hx hb dX11_advise_109 ?_
          rw [show ((nI (ac + 1)) - 1 : Int32) = nI ((ac + 1) - 1) from pk_sub (a := (ac + 1)) (b := 1) (by omega)]
          have hX400 : IM cy tg y td pc (ac + 1) sc ln se plv w345 := IM.mk m2 m3 m4 m5 m6 m8 m9 m10 m11 m12 m13 m14 m17 m18 m19 m20 m21 m22 m23 m24 m29 m30 m31 m32 m33 m34 m35 m36 m37 m39 m40 m41 m42 m43 m44 m45 m46 m47 m48 m49 m51 m52 m53 m54 m56 m57 m58 m59 sh gf v0 v26 v27 v28 v50 f4 f5 gx13 f8 f9 f10 f11 f12 f13 f14 (upd f17 (nI ac).toNatClampNeg (nI pp)) (upd f18 (nI ac).toNatClampNeg (nI tw)) (upd f19 (nI ac).toNatClampNeg 268435456) f20 f21 f22 f24 f29 f30 f31 f32 f33 f34 f35 f36 f37 f39 f40 f41 f42 f43 f44 f45 f46 f47 f48 f49 f51 f52 f53 f54 f56 f57 f58 f59 qp pr fp qw wr fw qs sr fs (by omega) (by omega) (by omega) (by omega) (by omega) (by omega) hrl hc ht hp hso hlo k347 tI0 k348 tI1 k349 tI2 k350 tI3 k351 tI4 k352 tI5 k353 tI6 k354 tI7 k355 tI8 k356 tI9 k357 tI10 k358 tI11 k359 tI12 k360 tI13 k361 tI14 k362 tI15 k363 tI16 k364 tI17 k365 tI18 k366 tI19 k367 tI20 k368 tI21 k369 tI22 k370 tI23 k371 tI24 k372 tI25 k373 tI26 k374 tI27 k375 tI28 k376 tI29 k377 tI30 k378 tI31 k379 tI32 k380 tI33 k381 tI34 k382 tI35 k383 tI36 k384 tI37 k385 tI38 k386 tI39 k387 tI40 k388 tI41 k389 tI42 k390 tI43 k391 tI44 k392 tI45 k393 tI46 k394 tI47 k395 tI48 fm396 fm397 fm398
          exact y_ir K hP hD hS (Nat.le_of_ble_eq_true rfl) (Nat.le_of_ble_eq_true rfl) (ty := .int) rfl rfl dX11_advise_110 (by refine ⟨(congrArg (fun z => some (Value.int z)) (show nI ((ac + 1) - 1) = advA pc ac (nI pp) (nI tw) from by simp [advA, advC, c_1, h60, c_5, clpp, c_9, cltw, c_178])), ?_⟩; rw [show advC pc ac (nI pp) (nI tw) = (ac + 1) from by simp [advA, advC, c_1, h60, c_5, clpp, c_9, cltw, c_178]]; exact ⟨kp399, hX400⟩)
      · refine lv_iconst (v := (-1)) hx hb dX11_advise_30 (by decide) ?_
        exact y_ir K hP hD hS (Nat.le_of_ble_eq_true rfl) (Nat.le_of_ble_eq_true rfl) (ty := .int) rfl rfl dX11_advise_31 (by refine ⟨(congrArg (fun z => some (Value.int z)) (show (-1) = advA pc ac (nI pp) x2 from by simp [advA, advC, c_1, h60, c_5, clpp, c_9])), ?_⟩; rw [show advC pc ac (nI pp) x2 = ac from by simp [advA, advC, c_1, h60, c_5, clpp, c_9]]; exact ⟨wd_kp.rf, hIM0⟩)
