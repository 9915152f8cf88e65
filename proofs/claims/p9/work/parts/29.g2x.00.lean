set_option maxHeartbeats 4000000 in
theorem IX.kept {cy : Nat → ClassId} {tg tg1 : Nat → Nat} {x : Nat} {td : Int32} {pc ac sc ln : Nat} {se plv : Nat → Int32} {w w1 : Wd} {S : Nat → Prop} (h : IX cy tg x td pc ac sc ln se plv w) (hk9 : wd_kp S w w1) (hSS9 : ∀ a, tg a < 10000 → ¬ S a) (hg9 : ∀ a, a ∈ w.1 → tg1 a = tg a) : IX cy tg1 x td pc ac sc ln se plv w1 := by
  refine h _ ?_
  intro a0 a1 a2 a3 a4 a5 a6 a7 a8 a10 a11 b0 b1 b2 b3 tb l0 l1 l2 l3 l4 l5 l6 l7 bl bm sh gc sg lu lv9 f0 f1 f2 f3 tbf e0 e1 e4 e5 e7 ff bf bf2 e2 e3 e6 ta sz fo to fo2 to2 tf tn ag co ra aa ru ga0 ga1 ga2 ga3 ga4 df cf nf sf uf pf pa pwo phd pgd pdy pno ptp af ad av0 av1 av2 av3 zf so sr sp0 sp1 sd hf sw hto hpp hle ham hhh hdd hru hde hcp hld hp90 hp91 hp92 hp93 hp94 hp95 hp96 hp97 hag kI0 tI0 kI1 tI1 kI2 tI2 kI3 tI3 kI4 tI4 kI5 tI5 kI6 tI6 kI7 tI7 kI8 tI8 kI9 tI9 kI10 tI10 kI11 tI11 kI12 tI12 kI13 tI13 kI14 tI14 kI15 tI15 kI16 tI16 kI17 tI17 kI18 tI18 kI19 tI19 kI20 tI20 kI21 tI21 kI22 tI22 kI23 tI23 kI24 tI24 kI25 tI25 kI26 tI26 hT9 hG9 hP9 hA9 hS9 hH9
  exact IX.mk a0 a1 a2 a3 a4 a5 a6 a7 a8 a10 a11 b0 b1 b2 b3 tb l0 l1 l2 l3 l4 l5 l6 l7 bl bm sh gc sg lu lv9 f0 f1 f2 f3 tbf e0 e1 e4 e5 e7 ff bf bf2 e2 e3 e6 ta sz fo to fo2 to2 tf tn ag co ra aa ru ga0 ga1 ga2 ga3 ga4 df cf nf sf uf pf pa pwo phd pgd pdy pno ptp af ad av0 av1 av2 av3 zf so sr sp0 sp1 sd hf sw hto hpp hle ham hhh hdd hru hde hcp hld hp90 hp91 hp92 hp93 hp94 hp95 hp96 hp97 hag (hk9.2 _ _ kI0 (hSS9 _ (by rw [tI0]; omega))) ((hg9 _ kI0.1).trans tI0) (hk9.2 _ _ kI1 (hSS9 _ (by rw [tI1]; omega))) ((hg9 _ kI1.1).trans tI1) (hk9.2 _ _ kI2 (hSS9 _ (by rw [tI2]; omega))) ((hg9 _ kI2.1).trans tI2) (hk9.2 _ _ kI3 (hSS9 _ (by rw [tI3]; omega))) ((hg9 _ kI3.1).trans tI3) (hk9.2 _ _ kI4 (hSS9 _ (by rw [tI4]; omega))) ((hg9 _ kI4.1).trans tI4) (hk9.2 _ _ kI5 (hSS9 _ (by rw [tI5]; omega))) ((hg9 _ kI5.1).trans tI5) (hk9.2 _ _ kI6 (hSS9 _ (by rw [tI6]; omega))) ((hg9 _ kI6.1).trans tI6) (hk9.2 _ _ kI7 (hSS9 _ (by rw [tI7]; omega))) ((hg9 _ kI7.1).trans tI7) (hk9.2 _ _ kI8 (hSS9 _ (by rw [tI8]; omega))) ((hg9 _ kI8.1).trans tI8) (hk9.2 _ _ kI9 (hSS9 _ (by rw [tI9]; omega))) ((hg9 _ kI9.1).trans tI9) (hk9.2 _ _ kI10 (hSS9 _ (by rw [tI10]; omega))) ((hg9 _ kI10.1).trans tI10) (hk9.2 _ _ kI11 (hSS9 _ (by rw [tI11]; omega))) ((hg9 _ kI11.1).trans tI11) (hk9.2 _ _ kI12 (hSS9 _ (by rw [tI12]; omega))) ((hg9 _ kI12.1).trans tI12) (hk9.2 _ _ kI13 (hSS9 _ (by rw [tI13]; omega))) ((hg9 _ kI13.1).trans tI13) (hk9.2 _ _ kI14 (hSS9 _ (by rw [tI14]; omega))) ((hg9 _ kI14.1).trans tI14) (hk9.2 _ _ kI15 (hSS9 _ (by rw [tI15]; omega))) ((hg9 _ kI15.1).trans tI15) (hk9.2 _ _ kI16 (hSS9 _ (by rw [tI16]; omega))) ((hg9 _ kI16.1).trans tI16) (hk9.2 _ _ kI17 (hSS9 _ (by rw [tI17]; omega))) ((hg9 _ kI17.1).trans tI17) (hk9.2 _ _ kI18 (hSS9 _ (by rw [tI18]; omega))) ((hg9 _ kI18.1).trans tI18) (hk9.2 _ _ kI19 (hSS9 _ (by rw [tI19]; omega))) ((hg9 _ kI19.1).trans tI19) (hk9.2 _ _ kI20 (hSS9 _ (by rw [tI20]; omega))) ((hg9 _ kI20.1).trans tI20) (hk9.2 _ _ kI21 (hSS9 _ (by rw [tI21]; omega))) ((hg9 _ kI21.1).trans tI21) (hk9.2 _ _ kI22 (hSS9 _ (by rw [tI22]; omega))) ((hg9 _ kI22.1).trans tI22) (hk9.2 _ _ kI23 (hSS9 _ (by rw [tI23]; omega))) ((hg9 _ kI23.1).trans tI23) (hk9.2 _ _ kI24 (hSS9 _ (by rw [tI24]; omega))) ((hg9 _ kI24.1).trans tI24) (hk9.2 _ _ kI25 (hSS9 _ (by rw [tI25]; omega))) ((hg9 _ kI25.1).trans tI25) (hk9.2 _ _ kI26 (hSS9 _ (by rw [tI26]; omega))) ((hg9 _ kI26.1).trans tI26) (fun i9 hi9 => ⟨(hT9 i9 hi9).1, hk9.2 _ _ ((hT9 i9 hi9).2.1) (hSS9 _ (by rw [(hT9 i9 hi9).2.2]; omega)), (hg9 _ ((hT9 i9 hi9).2.1).1).trans ((hT9 i9 hi9).2.2)⟩) (fun k9 hi9 => ⟨(hG9 k9 hi9).1, hk9.2 _ _ ((hG9 k9 hi9).2.1) (hSS9 _ (by rw [(hG9 k9 hi9).2.2.1]; omega)), (hg9 _ ((hG9 k9 hi9).2.1).1).trans ((hG9 k9 hi9).2.2.1), hk9.2 _ _ ((hG9 k9 hi9).2.2.2.1) (hSS9 _ (by rw [(hG9 k9 hi9).2.2.2.2.1]; omega)), (hg9 _ ((hG9 k9 hi9).2.2.2.1).1).trans ((hG9 k9 hi9).2.2.2.2.1), hk9.2 _ _ ((hG9 k9 hi9).2.2.2.2.2.1) (hSS9 _ (by rw [(hG9 k9 hi9).2.2.2.2.2.2.1]; omega)), (hg9 _ ((hG9 k9 hi9).2.2.2.2.2.1).1).trans ((hG9 k9 hi9).2.2.2.2.2.2.1), hk9.2 _ _ ((hG9 k9 hi9).2.2.2.2.2.2.2.1) (hSS9 _ (by rw [(hG9 k9 hi9).2.2.2.2.2.2.2.2.1]; omega)), (hg9 _ ((hG9 k9 hi9).2.2.2.2.2.2.2.1).1).trans ((hG9 k9 hi9).2.2.2.2.2.2.2.2.1), hk9.2 _ _ ((hG9 k9 hi9).2.2.2.2.2.2.2.2.2.1) (hSS9 _ (by rw [(hG9 k9 hi9).2.2.2.2.2.2.2.2.2.2.1]; omega)), (hg9 _ ((hG9 k9 hi9).2.2.2.2.2.2.2.2.2.1).1).trans ((hG9 k9 hi9).2.2.2.2.2.2.2.2.2.2.1), hk9.2 _ _ ((hG9 k9 hi9).2.2.2.2.2.2.2.2.2.2.2.1) (hSS9 _ (by rw [(hG9 k9 hi9).2.2.2.2.2.2.2.2.2.2.2.2]; omega)), (hg9 _ ((hG9 k9 hi9).2.2.2.2.2.2.2.2.2.2.2.1).1).trans ((hG9 k9 hi9).2.2.2.2.2.2.2.2.2.2.2.2)⟩) (fun k9 hi9 => ⟨(hP9 k9 hi9).1, hk9.2 _ _ ((hP9 k9 hi9).2.1) (hSS9 _ (by rw [(hP9 k9 hi9).2.2]; omega)), (hg9 _ ((hP9 k9 hi9).2.1).1).trans ((hP9 k9 hi9).2.2)⟩) (fun k9 hi9 => ⟨(hA9 k9 hi9).1, hk9.2 _ _ ((hA9 k9 hi9).2.1) (hSS9 _ (by rw [(hA9 k9 hi9).2.2]; omega)), (hg9 _ ((hA9 k9 hi9).2.1).1).trans ((hA9 k9 hi9).2.2)⟩) (fun k9 hi9 => ⟨(hS9 k9 hi9).1, hk9.2 _ _ ((hS9 k9 hi9).2.1) (hSS9 _ (by rw [(hS9 k9 hi9).2.2.1]; omega)), (hg9 _ ((hS9 k9 hi9).2.1).1).trans ((hS9 k9 hi9).2.2.1), hk9.2 _ _ ((hS9 k9 hi9).2.2.2.1) (hSS9 _ (by rw [(hS9 k9 hi9).2.2.2.2]; omega)), (hg9 _ ((hS9 k9 hi9).2.2.2.1).1).trans ((hS9 k9 hi9).2.2.2.2)⟩) (fun k9 hi9 => ⟨(hH9 k9 hi9).1, hk9.2 _ _ ((hH9 k9 hi9).2.1) (hSS9 _ (by rw [(hH9 k9 hi9).2.2]; omega)), (hg9 _ ((hH9 k9 hi9).2.1).1).trans ((hH9 k9 hi9).2.2)⟩)
theorem IX.cell {cy : Nat → ClassId} {tg : Nat → Nat} {x : Nat} {td : Int32} {pc ac sc ln : Nat} {se plv : Nat → Int32} {w : Wd} (h : IX cy tg x td pc ac sc ln se plv w) : ∃ fs : List Value, wd_at w x (.inr (10, fs)) := by
  refine h _ ?_
  intro a0 a1 a2 a3 a4 a5 a6 a7 a8 a10 a11 b0 b1 b2 b3 tb l0 l1 l2 l3 l4 l5 l6 l7 bl bm sh gc sg lu lv9 f0 f1 f2 f3 tbf e0 e1 e4 e5 e7 ff bf bf2 e2 e3 e6 ta sz fo to fo2 to2 tf tn ag co ra aa ru ga0 ga1 ga2 ga3 ga4 df cf nf sf uf pf pa pwo phd pgd pdy pno ptp af ad av0 av1 av2 av3 zf so sr sp0 sp1 sd hf sw hto hpp hle ham hhh hdd hru hde hcp hld hp90 hp91 hp92 hp93 hp94 hp95 hp96 hp97 hag kI0 tI0 kI1 tI1 kI2 tI2 kI3 tI3 kI4 tI4 kI5 tI5 kI6 tI6 kI7 tI7 kI8 tI8 kI9 tI9 kI10 tI10 kI11 tI11 kI12 tI12 kI13 tI13 kI14 tI14 kI15 tI15 kI16 tI16 kI17 tI17 kI18 tI18 kI19 tI19 kI20 tI20 kI21 tI21 kI22 tI22 kI23 tI23 kI24 tI24 kI25 tI25 kI26 tI26 hT9 hG9 hP9 hA9 hS9 hH9
  exact ⟨_, kI0⟩
set_option maxHeartbeats 4000000 in
theorem IM.kept {cy : Nat → ClassId} {tg tg1 : Nat → Nat} {y : Nat} {td : Int32} {pc ac sc ln : Nat} {se plv : Nat → Int32} {w w1 : Wd} {S : Nat → Prop} (h : IM cy tg y td pc ac sc ln se plv w) (hk9 : wd_kp S w w1) (hSS9 : ∀ a, 10000 ≤ tg a → ¬ S a) (hg9 : ∀ a, a ∈ w.1 → tg1 a = tg a) : IM cy tg1 y td pc ac sc ln se plv w1 := by
  refine h _ ?_
  intro m2 m3 m4 m5 m6 m8 m9 m10 m11 m12 m13 m14 m17 m18 m19 m20 m21 m22 m23 m24 m29 m30 m31 m32 m33 m34 m35 m36 m37 m39 m40 m41 m42 m43 m44 m45 m46 m47 m48 m49 m51 m52 m53 m54 m56 m57 m58 m59 sh gf v0 v26 v27 v28 v50 f4 f5 f6 f8 f9 f10 f11 f12 f13 f14 f17 f18 f19 f20 f21 f22 f24 f29 f30 f31 f32 f33 f34 f35 f36 f37 f39 f40 f41 f42 f43 f44 f45 f46 f47 f48 f49 f51 f52 f53 f54 f56 f57 f58 f59 qp pr fp qw wr fw qs sr fs hp90 hp91 hp92 hp93 hp94 hp95 hrl hc ht hp hso hlo kI0 tI0 kI1 tI1 kI2 tI2 kI3 tI3 kI4 tI4 kI5 tI5 kI6 tI6 kI7 tI7 kI8 tI8 kI9 tI9 kI10 tI10 kI11 tI11 kI12 tI12 kI13 tI13 kI14 tI14 kI15 tI15 kI16 tI16 kI17 tI17 kI18 tI18 kI19 tI19 kI20 tI20 kI21 tI21 kI22 tI22 kI23 tI23 kI24 tI24 kI25 tI25 kI26 tI26 kI27 tI27 kI28 tI28 kI29 tI29 kI30 tI30 kI31 tI31 kI32 tI32 kI33 tI33 kI34 tI34 kI35 tI35 kI36 tI36 kI37 tI37 kI38 tI38 kI39 tI39 kI40 tI40 kI41 tI41 kI42 tI42 kI43 tI43 kI44 tI44 kI45 tI45 kI46 tI46 kI47 tI47 kI48 tI48 hFPR hFWR hFSR
  exact IM.mk m2 m3 m4 m5 m6 m8 m9 m10 m11 m12 m13 m14 m17 m18 m19 m20 m21 m22 m23 m24 m29 m30 m31 m32 m33 m34 m35 m36 m37 m39 m40 m41 m42 m43 m44 m45 m46 m47 m48 m49 m51 m52 m53 m54 m56 m57 m58 m59 sh gf v0 v26 v27 v28 v50 f4 f5 f6 f8 f9 f10 f11 f12 f13 f14 f17 f18 f19 f20 f21 f22 f24 f29 f30 f31 f32 f33 f34 f35 f36 f37 f39 f40 f41 f42 f43 f44 f45 f46 f47 f48 f49 f51 f52 f53 f54 f56 f57 f58 f59 qp pr fp qw wr fw qs sr fs hp90 hp91 hp92 hp93 hp94 hp95 hrl hc ht hp hso hlo (hk9.2 _ _ kI0 (hSS9 _ (by rw [tI0]; omega))) ((hg9 _ kI0.1).trans tI0) (hk9.2 _ _ kI1 (hSS9 _ (by rw [tI1]; omega))) ((hg9 _ kI1.1).trans tI1) (hk9.2 _ _ kI2 (hSS9 _ (by rw [tI2]; omega))) ((hg9 _ kI2.1).trans tI2) (hk9.2 _ _ kI3 (hSS9 _ (by rw [tI3]; omega))) ((hg9 _ kI3.1).trans tI3) (hk9.2 _ _ kI4 (hSS9 _ (by rw [tI4]; omega))) ((hg9 _ kI4.1).trans tI4) (hk9.2 _ _ kI5 (hSS9 _ (by rw [tI5]; omega))) ((hg9 _ kI5.1).trans tI5) (hk9.2 _ _ kI6 (hSS9 _ (by rw [tI6]; omega))) ((hg9 _ kI6.1).trans tI6) (hk9.2 _ _ kI7 (hSS9 _ (by rw [tI7]; omega))) ((hg9 _ kI7.1).trans tI7) (hk9.2 _ _ kI8 (hSS9 _ (by rw [tI8]; omega))) ((hg9 _ kI8.1).trans tI8) (hk9.2 _ _ kI9 (hSS9 _ (by rw [tI9]; omega))) ((hg9 _ kI9.1).trans tI9) (hk9.2 _ _ kI10 (hSS9 _ (by rw [tI10]; omega))) ((hg9 _ kI10.1).trans tI10) (hk9.2 _ _ kI11 (hSS9 _ (by rw [tI11]; omega))) ((hg9 _ kI11.1).trans tI11) (hk9.2 _ _ kI12 (hSS9 _ (by rw [tI12]; omega))) ((hg9 _ kI12.1).trans tI12) (hk9.2 _ _ kI13 (hSS9 _ (by rw [tI13]; omega))) ((hg9 _ kI13.1).trans tI13) (hk9.2 _ _ kI14 (hSS9 _ (by rw [tI14]; omega))) ((hg9 _ kI14.1).trans tI14) (hk9.2 _ _ kI15 (hSS9 _ (by rw [tI15]; omega))) ((hg9 _ kI15.1).trans tI15) (hk9.2 _ _ kI16 (hSS9 _ (by rw [tI16]; omega))) ((hg9 _ kI16.1).trans tI16) (hk9.2 _ _ kI17 (hSS9 _ (by rw [tI17]; omega))) ((hg9 _ kI17.1).trans tI17) (hk9.2 _ _ kI18 (hSS9 _ (by rw [tI18]; omega))) ((hg9 _ kI18.1).trans tI18) (hk9.2 _ _ kI19 (hSS9 _ (by rw [tI19]; omega))) ((hg9 _ kI19.1).trans tI19) (hk9.2 _ _ kI20 (hSS9 _ (by rw [tI20]; omega))) ((hg9 _ kI20.1).trans tI20) (hk9.2 _ _ kI21 (hSS9 _ (by rw [tI21]; omega))) ((hg9 _ kI21.1).trans tI21) (hk9.2 _ _ kI22 (hSS9 _ (by rw [tI22]; omega))) ((hg9 _ kI22.1).trans tI22) (hk9.2 _ _ kI23 (hSS9 _ (by rw [tI23]; omega))) ((hg9 _ kI23.1).trans tI23) (hk9.2 _ _ kI24 (hSS9 _ (by rw [tI24]; omega))) ((hg9 _ kI24.1).trans tI24) (hk9.2 _ _ kI25 (hSS9 _ (by rw [tI25]; omega))) ((hg9 _ kI25.1).trans tI25) (hk9.2 _ _ kI26 (hSS9 _ (by rw [tI26]; omega))) ((hg9 _ kI26.1).trans tI26) (hk9.2 _ _ kI27 (hSS9 _ (by rw [tI27]; omega))) ((hg9 _ kI27.1).trans tI27) (hk9.2 _ _ kI28 (hSS9 _ (by rw [tI28]; omega))) ((hg9 _ kI28.1).trans tI28) (hk9.2 _ _ kI29 (hSS9 _ (by rw [tI29]; omega))) ((hg9 _ kI29.1).trans tI29) (hk9.2 _ _ kI30 (hSS9 _ (by rw [tI30]; omega))) ((hg9 _ kI30.1).trans tI30) (hk9.2 _ _ kI31 (hSS9 _ (by rw [tI31]; omega))) ((hg9 _ kI31.1).trans tI31) (hk9.2 _ _ kI32 (hSS9 _ (by rw [tI32]; omega))) ((hg9 _ kI32.1).trans tI32) (hk9.2 _ _ kI33 (hSS9 _ (by rw [tI33]; omega))) ((hg9 _ kI33.1).trans tI33) (hk9.2 _ _ kI34 (hSS9 _ (by rw [tI34]; omega))) ((hg9 _ kI34.1).trans tI34) (hk9.2 _ _ kI35 (hSS9 _ (by rw [tI35]; omega))) ((hg9 _ kI35.1).trans tI35) (hk9.2 _ _ kI36 (hSS9 _ (by rw [tI36]; omega))) ((hg9 _ kI36.1).trans tI36) (hk9.2 _ _ kI37 (hSS9 _ (by rw [tI37]; omega))) ((hg9 _ kI37.1).trans tI37) (hk9.2 _ _ kI38 (hSS9 _ (by rw [tI38]; omega))) ((hg9 _ kI38.1).trans tI38) (hk9.2 _ _ kI39 (hSS9 _ (by rw [tI39]; omega))) ((hg9 _ kI39.1).trans tI39) (hk9.2 _ _ kI40 (hSS9 _ (by rw [tI40]; omega))) ((hg9 _ kI40.1).trans tI40) (hk9.2 _ _ kI41 (hSS9 _ (by rw [tI41]; omega))) ((hg9 _ kI41.1).trans tI41) (hk9.2 _ _ kI42 (hSS9 _ (by rw [tI42]; omega))) ((hg9 _ kI42.1).trans tI42) (hk9.2 _ _ kI43 (hSS9 _ (by rw [tI43]; omega))) ((hg9 _ kI43.1).trans tI43) (hk9.2 _ _ kI44 (hSS9 _ (by rw [tI44]; omega))) ((hg9 _ kI44.1).trans tI44) (hk9.2 _ _ kI45 (hSS9 _ (by rw [tI45]; omega))) ((hg9 _ kI45.1).trans tI45) (hk9.2 _ _ kI46 (hSS9 _ (by rw [tI46]; omega))) ((hg9 _ kI46.1).trans tI46) (hk9.2 _ _ kI47 (hSS9 _ (by rw [tI47]; omega))) ((hg9 _ kI47.1).trans tI47) (hk9.2 _ _ kI48 (hSS9 _ (by rw [tI48]; omega))) ((hg9 _ kI48.1).trans tI48) (fun k9 hi9 => ⟨(hFPR k9 hi9).1, hk9.2 _ _ ((hFPR k9 hi9).2.1) (hSS9 _ (by rw [(hFPR k9 hi9).2.2]; omega)), (hg9 _ ((hFPR k9 hi9).2.1).1).trans ((hFPR k9 hi9).2.2)⟩) (fun k9 hi9 => ⟨(hFWR k9 hi9).1, hk9.2 _ _ ((hFWR k9 hi9).2.1) (hSS9 _ (by rw [(hFWR k9 hi9).2.2]; omega)), (hg9 _ ((hFWR k9 hi9).2.1).1).trans ((hFWR k9 hi9).2.2)⟩) (fun k9 hi9 => ⟨(hFSR k9 hi9).1, hk9.2 _ _ ((hFSR k9 hi9).2.1) (hSS9 _ (by rw [(hFSR k9 hi9).2.2]; omega)), (hg9 _ ((hFSR k9 hi9).2.1).1).trans ((hFSR k9 hi9).2.2)⟩)
theorem IM.cell {cy : Nat → ClassId} {tg : Nat → Nat} {y : Nat} {td : Int32} {pc ac sc ln : Nat} {se plv : Nat → Int32} {w : Wd} (h : IM cy tg y td pc ac sc ln se plv w) : ∃ fs : List Value, wd_at w y (.inr (11, fs)) := by
  refine h _ ?_
  intro m2 m3 m4 m5 m6 m8 m9 m10 m11 m12 m13 m14 m17 m18 m19 m20 m21 m22 m23 m24 m29 m30 m31 m32 m33 m34 m35 m36 m37 m39 m40 m41 m42 m43 m44 m45 m46 m47 m48 m49 m51 m52 m53 m54 m56 m57 m58 m59 sh gf v0 v26 v27 v28 v50 f4 f5 f6 f8 f9 f10 f11 f12 f13 f14 f17 f18 f19 f20 f21 f22 f24 f29 f30 f31 f32 f33 f34 f35 f36 f37 f39 f40 f41 f42 f43 f44 f45 f46 f47 f48 f49 f51 f52 f53 f54 f56 f57 f58 f59 qp pr fp qw wr fw qs sr fs hp90 hp91 hp92 hp93 hp94 hp95 hrl hc ht hp hso hlo kI0 tI0 kI1 tI1 kI2 tI2 kI3 tI3 kI4 tI4 kI5 tI5 kI6 tI6 kI7 tI7 kI8 tI8 kI9 tI9 kI10 tI10 kI11 tI11 kI12 tI12 kI13 tI13 kI14 tI14 kI15 tI15 kI16 tI16 kI17 tI17 kI18 tI18 kI19 tI19 kI20 tI20 kI21 tI21 kI22 tI22 kI23 tI23 kI24 tI24 kI25 tI25 kI26 tI26 kI27 tI27 kI28 tI28 kI29 tI29 kI30 tI30 kI31 tI31 kI32 tI32 kI33 tI33 kI34 tI34 kI35 tI35 kI36 tI36 kI37 tI37 kI38 tI38 kI39 tI39 kI40 tI40 kI41 tI41 kI42 tI42 kI43 tI43 kI44 tI44 kI45 tI45 kI46 tI46 kI47 tI47 kI48 tI48 hFPR hFWR hFSR
  exact ⟨_, kI0⟩
theorem lw_go {L k : Nat} (hL : L ≤ 3584) (hk : k ≤ 512) (h : ¬ (Int32.ofNat L - 7 < nI (7 * k))) : 7 * k + 7 ≤ L := by
  have e := pk_sub_toInt (a := L) (b := 7) (by omega) (by omega)
  rw [Int32.not_lt, show (7 : Int32) = nI 7 from rfl, Int32.le_iff_toInt_le, nI_toInt (by omega)] at h
  have h2 : ((7 * k : Nat) : Int) ≤ (nI L - nI 7).toInt := h
  rw [e] at h2
  omega
theorem lw_ex {L k : Nat} (hL : L ≤ 3584) (hk : k ≤ 512) (h : L < 7 * k + 7) : Int32.ofNat L - 7 < nI (7 * k) := by
  have e := pk_sub_toInt (a := L) (b := 7) (by omega) (by omega)
  rw [show (7 : Int32) = nI 7 from rfl, Int32.lt_iff_toInt_lt, nI_toInt (by omega)]
  show (nI L - nI 7).toInt < _
  rw [e]
  omega
theorem lw_7 (k : Nat) : nI (7 * k) + 7 = nI (7 * (k + 1)) := nI_add (7 * k) 7
set_option maxRecDepth 100000 in
theorem gd_start {s : State} {b : Nat} (hts : ∀ w ∈ lw_tbl, w.before #[Value.ref b] s = true) : ∃ (D : va_G) (cy : Nat → ClassId), wd_Gd D cy s := by
  obtain ⟨c0, i0, hK0⟩ := u_known (C := RX0) (T := TX0) (N := 4) (n := 4) hts inX0 (hts _ (tm_2 (List.mem_of_getElem? (i := 97) rfl)))
  obtain ⟨c1, i1, hK1⟩ := u_known (C := RX1) (T := TX1) (N := 6) (n := 6) hts inX1 (hts _ (tm_1 (List.mem_of_getElem? (i := 61) rfl)))
  obtain ⟨c2, i2, hK2⟩ := u_known (C := RX2) (T := TX2) (N := 3) (n := 3) hts inX2 (hts _ (tm_1 (List.mem_of_getElem? (i := 183) rfl)))
  obtain ⟨c3, i3, hK3⟩ := u_known (C := RX3) (T := TX3) (N := 7) (n := 7) hts inX3 (hts _ (tm_2 (List.mem_of_getElem? (i := 51) rfl)))
  obtain ⟨c4, i4, hK4⟩ := u_known (C := RX4) (T := TX4) (N := 10) (n := 10) hts inX4 (hts _ (tm_1 (List.mem_of_getElem? (i := 133) rfl)))
  obtain ⟨c5, i5, hK5⟩ := u_known (C := RX5) (T := TX5) (N := 10) (n := 10) hts inX5 (hts _ (tm_3 (List.mem_of_getElem? (i := 122) rfl)))
  obtain ⟨c6, i6, hK6⟩ := u_known (C := RX6) (T := TX6) (N := 3) (n := 3) hts inX6 (hts _ (tm_2 (List.mem_of_getElem? (i := 162) rfl)))
  obtain ⟨c7, i7, hK7⟩ := u_known (C := RX7) (T := TX7) (N := 3) (n := 3) hts inX7 (hts _ (tm_1 (List.mem_of_getElem? (i := 114) rfl)))
  obtain ⟨c8, i8, hK8⟩ := u_known (C := RX8) (T := TX8) (N := 4) (n := 4) hts inX8 (hts _ (tm_1 (List.mem_of_getElem? (i := 55) rfl)))
  obtain ⟨c9, i9, hK9⟩ := u_known (C := RX9) (T := TX9) (N := 4) (n := 4) hts inX9 (hts _ (tm_1 (List.mem_of_getElem? (i := 29) rfl)))
  obtain ⟨c10, i10, hK10⟩ := u_known (C := RX10) (T := TX10) (N := 17) (n := 17) hts inX10 (hts _ (tm_1 (List.mem_of_getElem? (i := 21) rfl)))
  obtain ⟨c11, i11, hK11⟩ := u_known (C := RX11) (T := TX11) (N := 60) (n := 60) hts inX11 (hts _ (tm_4 (List.mem_of_getElem? (i := 75) rfl)))
  obtain ⟨y0, ka0, co0, u0, v0, x0⟩ := Cond.arrayClass_spec (hts _ (tm_1 (List.mem_of_getElem? (i := 131) rfl)))
  obtain ⟨y1, ka1, co1, u1, v1, x1⟩ := Cond.arrayClass_spec (hts _ (tm_1 (List.mem_of_getElem? (i := 86) rfl)))
  obtain ⟨y2, ka2, co2, u2, v2, x2⟩ := Cond.arrayClass_spec (hts _ (tm_1 (List.mem_of_getElem? (i := 51) rfl)))
  obtain ⟨y3, ka3, co3, u3, v3, x3⟩ := Cond.arrayClass_spec (hts _ (tm_1 (List.mem_of_getElem? (i := 179) rfl)))
  obtain ⟨y4, ka4, co4, u4, v4, x4⟩ := Cond.arrayClass_spec (hts _ (tm_1 (List.mem_of_getElem? (i := 52) rfl)))
  have ov5 := hts _ (tm_1 (List.mem_of_getElem? (i := 108) rfl))
  obtain ⟨co5, y5, ka5, f5, -, v5, x5, u5⟩ := Cond.arrayOver_spec ov5
  have ov6 := hts _ (tm_1 (List.mem_of_getElem? (i := 106) rfl))
  obtain ⟨co6, y6, ka6, f6, -, v6, x6, u6⟩ := Cond.arrayOver_spec ov6
  have ov7 := hts _ (tm_1 (List.mem_of_getElem? (i := 112) rfl))
  obtain ⟨co7, y7, ka7, f7, -, v7, x7, u7⟩ := Cond.arrayOver_spec ov7
  have ov8 := hts _ (tm_1 (List.mem_of_getElem? (i := 110) rfl))
  obtain ⟨co8, y8, ka8, f8, -, v8, x8, u8⟩ := Cond.arrayOver_spec ov8
  have ov9 := hts _ (tm_1 (List.mem_of_getElem? (i := 54) rfl))
  obtain ⟨co9, y9, ka9, f9, -, v9, x9, u9⟩ := Cond.arrayOver_spec ov9
  have ov10 := hts _ (tm_4 (List.mem_of_getElem? (i := 81) rfl))
  obtain ⟨co10, y10, ka10, f10, v10, x10, u10⟩ := Cond.arrayOver_specA ov10
  refine ⟨(fun k => match k with | 0 => c0 | 1 => c1 | 2 => c2 | 3 => c3 | 4 => c4 | 5 => c5 | 6 => c6 | 7 => c7 | 8 => c8 | 9 => c9 | 10 => c10 | _ => c11, fun k => match k with | 0 => i0 | 1 => i1 | 2 => i2 | 3 => i3 | 4 => i4 | 5 => i5 | 6 => i6 | 7 => i7 | 8 => i8 | 9 => i9 | 10 => i10 | _ => i11), fun k => match k with | 0 => y0 | 1 => y1 | 2 => y2 | 3 => y3 | 4 => y4 | 5 => y5 | 6 => y6 | 7 => y7 | 8 => y8 | 9 => y9 | _ => y10, ⟨⟨?_, ?_⟩, ?_, ?_, ov10⟩⟩
  · intro k q hq
    match k, hq with
    | 0, hq => cases hq; exact hK0
    | 1, hq => cases hq; exact hK1
    | 2, hq => cases hq; exact hK2
    | 3, hq => cases hq; exact hK3
    | 4, hq => cases hq; exact hK4
    | 5, hq => cases hq; exact hK5
    | 6, hq => cases hq; exact hK6
    | 7, hq => cases hq; exact hK7
    | 8, hq => cases hq; exact hK8
    | 9, hq => cases hq; exact hK9
    | 10, hq => cases hq; exact hK10
    | 11, hq => cases hq; exact hK11
    | k + 12, hq => simp [vwCl] at hq
  · intro k q hq
    match k, hq with
    | 0, hq => cases hq; exact ⟨fun N z => ⟨(fun k h => by cases h), ka0, v0, co0, x0⟩, u0⟩
    | 1, hq => cases hq; exact ⟨fun N z => ⟨(fun k h => by cases h), ka1, v1, co1, x1⟩, u1⟩
    | 2, hq => cases hq; exact ⟨fun N z => ⟨(fun k h => by cases h), ka2, v2, co2, x2⟩, u2⟩
    | 3, hq => cases hq; exact ⟨fun N z => ⟨(fun k h => by cases h), ka3, v3, co3, x3⟩, u3⟩
    | 4, hq => cases hq; exact ⟨fun N z => ⟨(fun k h => by cases h), ka4, v4, co4, x4⟩, u4⟩
    | 5, hq => cases hq; exact ⟨fun N z => ⟨(fun k h => by cases h), ka5, v5, co5, x5⟩, ⟨ka5, co5, v5, x5, f5, u5⟩⟩
    | 6, hq => cases hq; exact ⟨fun N z => ⟨(fun k h => by cases h), ka6, v6, co6, x6⟩, ⟨ka6, co6, v6, x6, f6, u6⟩⟩
    | 7, hq => cases hq; exact ⟨fun N z => ⟨(fun k h => by cases h), ka7, v7, co7, x7⟩, ⟨ka7, co7, v7, x7, f7, u7⟩⟩
    | 8, hq => cases hq; exact ⟨fun N z => ⟨(fun k h => by cases h), ka8, v8, co8, x8⟩, ⟨ka8, co8, v8, x8, f8, u8⟩⟩
    | 9, hq => cases hq; exact ⟨fun N z => ⟨(fun k h => by cases h), ka9, v9, co9, x9⟩, ⟨ka9, co9, v9, x9, f9, u9⟩⟩
    | 10, hq => cases hq; exact ⟨fun N z => ⟨(fun k h => by cases h), ka10, v10, co10, x10⟩, u10⟩
    | k + 11, hq => simp [wd_tys] at hq
  · intro w hw
    simp only [wd_nest, List.mem_cons, List.not_mem_nil, or_false] at hw
    rcases hw with rfl | rfl | rfl | rfl | rfl | rfl | rfl | rfl | rfl | rfl
    · exact va_Nw.of rfl (hts _ (tm_1 (List.mem_of_getElem? (i := 56) rfl)))
    · exact va_Nw.of rfl (hts _ (tm_1 (List.mem_of_getElem? (i := 115) rfl)))
    · exact va_Nw.of rfl (hts _ (tm_1 (List.mem_of_getElem? (i := 181) rfl)))
    · exact va_Nw.of rfl (hts _ (tm_3 (List.mem_of_getElem? (i := 50) rfl)))
    · exact va_Nw.of rfl (hts _ (tm_3 (List.mem_of_getElem? (i := 84) rfl)))
    · exact va_Nw.of rfl (hts _ (tm_3 (List.mem_of_getElem? (i := 120) rfl)))
    · exact va_Nw.of rfl (hts _ (tm_3 (List.mem_of_getElem? (i := 194) rfl)))
    · exact va_Nw.of rfl (hts _ (tm_3 (List.mem_of_getElem? (i := 70) rfl)))
    · exact va_Nw.of rfl (hts _ (tm_2 (List.mem_of_getElem? (i := 233) rfl)))
    · exact va_Nw.of rfl (hts _ (tm_1 (List.mem_of_getElem? (i := 62) rfl)))
  · intro C hC
    simp only [List.mem_cons, List.not_mem_nil, or_false] at hC
    rcases hC with rfl | rfl | rfl | rfl | rfl
    · exact va_AO.of ov5
    · exact va_AO.of ov6
    · exact va_AO.of ov7
    · exact va_AO.of ov8
    · exact va_AO.of ov9
