set_option maxHeartbeats 4000000 in
set_option maxRecDepth 100000 in
theorem M_feed (l : Launch) (D : va_G) (cy : Nat → ClassId) (sk sv : Nat → Nat) (w : Wd) (tg : Nat → Nat) (y : Nat) (td : Int32) (pc ac sc ln : Nat) (se plv : Nat → Int32) (Pm Wm : Nat → Nat → Nat) (av1 av2 av3 : Nat → Int32) (zC : Nat → Nat → Int32) (tB lb : Nat → Int32) (rt : Nat → Nat) (tT : Nat → Nat → Nat → Int32) (av0 sp0 sp1 pwo phd pgd pdy pno ptp co ra : Nat → Int32) (sh : Nat) (hto : Nat → Nat) (hpp hle ham hhh hdd hru hde hcp hld : Nat → Int32) (x1 x2 x3 x4 x5 : Int32) (hIM0 : IM cy tg y td pc ac sc ln se plv Pm Wm av1 av2 av3 zC tB lb rt tT av0 sp0 sp1 pwo phd pgd pdy pno ptp co ra sh hto hpp hle ham hhh hdd hru hde hcp hld w) : Ct l D cy sk sv yX11_feed wsX11_feed ({ frames := 1, cells := 0, slots := 0, locals := 22 }) [.ref y, .int x1, .int x2, .int x3, .int x4, .int x5] w (fun v w1 => v = some (.int (feedA ln)) ∧ MP cy tg y td pc ac sc (feedC ln) se plv Pm Wm av1 av2 av3 zC (feedT tB ln x1 x2 x3 x4 x5) lb rt tT av0 sp0 sp1 pwo phd pgd pdy pno ptp co ra sh hto hpp hle ham hhh hdd hru hde hcp hld w w1) := by
  refine Ct.by (cc := cX11_feed) (maxL := 6) (ret := (some .int)) (by decide +kernel) rfl (Nat.le_of_ble_eq_true rfl) ?_
  intro p e s m args below meth c A Q F hnm K ls hl
  have F : wd_Fx p s m args meth c cX11_feed 6 wsX11_feed RX11 D cy sk sv A := F
  have hl : lv_has ls 6 [(0, .ref y), (1, .int x1), (2, .int x2), (3, .int x3), (4, .int x4), (5, .int x5)] := hl
  have hx := F.1.1
  have hb := F.1.2.1
  have hown := F.1.2.2.2.1
  have hts := F.1.2.2.2.2
  intro H locs hP hD hS
  have kp0 : wd_kp (fun b => 10000 ≤ tg b) w w := wd_kp.rf
  refine hIM0 _ ?_
  intro m2 m3 m4 m5 m6 m8 m9 m10 m11 m12 m13 m14 m17 m18 m19 m20 m21 m22 m23 m24 m29 m30 m31 m32 m33 m34 m35 m36 m37 m39 m40 m41 m42 m43 m44 m45 m46 m47 m48 m49 m51 m52 m53 m54 m56 m57 m58 m59 gf v0 v26 v27 v28 v50 f4 f5 f6 f8 f9 f10 f11 f12 f13 f14 f17 f18 f19 f20 f21 f22 f29 f30 f31 f32 f33 f34 f35 f36 f37 f39 f40 f41 f42 f43 f44 f45 f46 f47 f48 f49 f51 f52 f53 f54 f56 f57 f58 f59 qp pr fp qw wr fw qs sr fs hp90 hp91 hp92 hp93 hp94 hp95 hrl hc ht hp hso hlo htd hmp hmw hav hzm hlb hmt0 hav0 hs0 hs1 hco hra hpp9 hsh9 kI0 tI0 kI1 tI1 kI2 tI2 kI3 tI3 kI4 tI4 kI5 tI5 kI6 tI6 kI7 tI7 kI8 tI8 kI9 tI9 kI10 tI10 kI11 tI11 kI12 tI12 kI13 tI13 kI14 tI14 kI15 tI15 kI16 tI16 kI17 tI17 kI18 tI18 kI19 tI19 kI20 tI20 kI21 tI21 kI22 tI22 kI23 tI23 kI24 tI24 kI25 tI25 kI26 tI26 kI27 tI27 kI28 tI28 kI29 tI29 kI30 tI30 kI31 tI31 kI32 tI32 kI33 tI33 kI34 tI34 kI35 tI35 kI36 tI36 kI37 tI37 kI38 tI38 kI39 tI39 kI40 tI40 kI41 tI41 kI42 tI42 kI43 tI43 kI44 tI44 kI45 tI45 kI46 tI46 kI47 tI47 kI48 tI48 hFPR hFWR hFSR
  refine lv_aload_n hx hb dX11_feed_0 rfl (lv_at hl 0 rfl) ?_
  refine x_get (ref := "NoteHouseModel") F hP kI0 rfl (fun _ h => List.mem_cons_of_mem _ (List.mem_append_right _ (h))) 25 (Nat.le_of_ble_eq_true rfl) (List.mem_cons_of_mem _ (List.mem_append_left _ (List.mem_of_getElem? (i := 0) rfl))) rfl rfl dX11_feed_1 ?_
  refine lv_bipush (v := 20) hx hb dX11_feed_4 (by decide) ?_
  refine lv_iadd hx hb dX11_feed_6 ?_
  rw [show ((nI ln) + 20 : Int32) = nI (ln + 20) from nI_add ln 20]
  refine lv_sipush (v := 300) hx hb dX11_feed_7 (by decide) ?_
  refine lv_icmp_le (tgt := 15) hx hb dX11_feed_10 (by decide) (fun c_1 => ?_) (fun c_1 => ?_)
  · have hrm : ln + 20 ≤ 300 := (nI_leI (a := ln + 20) (b := 300) (by omega) (by omega)).mp c_1
    refine lv_aload_n hx hb dX11_feed_15 rfl (lv_at hl 0 rfl) ?_
    refine lv_iload_n hx hb dX11_feed_16 rfl (lv_at hl 1 rfl) ?_
    refine x_callV (n := 1) (As := [.int x1]) (rest := []) F hP hD hS (m_put l D cy sk sv w tg y m2 m3 m4 m5 m6 m8 m9 m10 m11 m12 m13 m14 m17 m18 m19 m20 m21 m22 m23 m24 m29 m30 m31 m32 m33 m34 m35 m36 m37 m39 m40 m41 m42 m43 m44 m45 m46 m47 m48 m49 m51 m52 m53 m54 m56 m57 m58 m59 pc ac sc ln sh gf v0 td v26 v27 v28 v50 tB x1 kI0 kI20 (fun b => b = y ∨ b = m24) (Or.inl rfl) (Or.inr rfl) tI0 tI20 (by omega)) gX11_feed_X11_put rfl rfl (by decide +kernel) ⟨(Nat.le_of_ble_eq_true rfl), (Nat.le_of_ble_eq_true rfl)⟩ rfl hl.1 (Nat.le_of_ble_eq_true rfl) kI0 rfl dX11_feed_17 rfl ⟨(Nat.le_of_ble_eq_true rfl), (Nat.le_of_ble_eq_true rfl)⟩ (fun v3 w4 hp2 H locs hP hD hS => ?_)
    obtain ⟨rfl, kq7, k5, k6⟩ := hp2
    have k8 := kq7.2 _ _ kI1 (orN (tg_ne tI1 tI0 (by decide)) (tg_ne tI1 tI20 (by decide)))
    have k9 := kq7.2 _ _ kI2 (orN (tg_ne tI2 tI0 (by decide)) (tg_ne tI2 tI20 (by decide)))
    have k10 := kq7.2 _ _ kI3 (orN (tg_ne tI3 tI0 (by decide)) (tg_ne tI3 tI20 (by decide)))
    have k11 := kq7.2 _ _ kI4 (orN (tg_ne tI4 tI0 (by decide)) (tg_ne tI4 tI20 (by decide)))
    have k12 := kq7.2 _ _ kI5 (orN (tg_ne tI5 tI0 (by decide)) (tg_ne tI5 tI20 (by decide)))
    have k13 := kq7.2 _ _ kI6 (orN (tg_ne tI6 tI0 (by decide)) (tg_ne tI6 tI20 (by decide)))
    have k14 := kq7.2 _ _ kI7 (orN (tg_ne tI7 tI0 (by decide)) (tg_ne tI7 tI20 (by decide)))
    have k15 := kq7.2 _ _ kI8 (orN (tg_ne tI8 tI0 (by decide)) (tg_ne tI8 tI20 (by decide)))
    have k16 := kq7.2 _ _ kI9 (orN (tg_ne tI9 tI0 (by decide)) (tg_ne tI9 tI20 (by decide)))
    have k17 := kq7.2 _ _ kI10 (orN (tg_ne tI10 tI0 (by decide)) (tg_ne tI10 tI20 (by decide)))
    have k18 := kq7.2 _ _ kI11 (orN (tg_ne tI11 tI0 (by decide)) (tg_ne tI11 tI20 (by decide)))
    have k19 := kq7.2 _ _ kI12 (orN (tg_ne tI12 tI0 (by decide)) (tg_ne tI12 tI20 (by decide)))
    have k20 := kq7.2 _ _ kI13 (orN (tg_ne tI13 tI0 (by decide)) (tg_ne tI13 tI20 (by decide)))
    have k21 := kq7.2 _ _ kI14 (orN (tg_ne tI14 tI0 (by decide)) (tg_ne tI14 tI20 (by decide)))
    have k22 := kq7.2 _ _ kI15 (orN (tg_ne tI15 tI0 (by decide)) (tg_ne tI15 tI20 (by decide)))
    have k23 := kq7.2 _ _ kI16 (orN (tg_ne tI16 tI0 (by decide)) (tg_ne tI16 tI20 (by decide)))
    have k24 := kq7.2 _ _ kI17 (orN (tg_ne tI17 tI0 (by decide)) (tg_ne tI17 tI20 (by decide)))
    have k25 := kq7.2 _ _ kI18 (orN (tg_ne tI18 tI0 (by decide)) (tg_ne tI18 tI20 (by decide)))
    have k26 := kq7.2 _ _ kI19 (orN (tg_ne tI19 tI0 (by decide)) (tg_ne tI19 tI20 (by decide)))
    have k27 := kq7.2 _ _ kI21 (orN (tg_ne tI21 tI0 (by decide)) (tg_ne tI21 tI20 (by decide)))
    have k28 := kq7.2 _ _ kI22 (orN (tg_ne tI22 tI0 (by decide)) (tg_ne tI22 tI20 (by decide)))
    have k29 := kq7.2 _ _ kI23 (orN (tg_ne tI23 tI0 (by decide)) (tg_ne tI23 tI20 (by decide)))
    have k30 := kq7.2 _ _ kI24 (orN (tg_ne tI24 tI0 (by decide)) (tg_ne tI24 tI20 (by decide)))
    have k31 := kq7.2 _ _ kI25 (orN (tg_ne tI25 tI0 (by decide)) (tg_ne tI25 tI20 (by decide)))
    have k32 := kq7.2 _ _ kI26 (orN (tg_ne tI26 tI0 (by decide)) (tg_ne tI26 tI20 (by decide)))
    have k33 := kq7.2 _ _ kI27 (orN (tg_ne tI27 tI0 (by decide)) (tg_ne tI27 tI20 (by decide)))
    have k34 := kq7.2 _ _ kI28 (orN (tg_ne tI28 tI0 (by decide)) (tg_ne tI28 tI20 (by decide)))
    have k35 := kq7.2 _ _ kI29 (orN (tg_ne tI29 tI0 (by decide)) (tg_ne tI29 tI20 (by decide)))
    have k36 := kq7.2 _ _ kI30 (orN (tg_ne tI30 tI0 (by decide)) (tg_ne tI30 tI20 (by decide)))
    have k37 := kq7.2 _ _ kI31 (orN (tg_ne tI31 tI0 (by decide)) (tg_ne tI31 tI20 (by decide)))
    have k38 := kq7.2 _ _ kI32 (orN (tg_ne tI32 tI0 (by decide)) (tg_ne tI32 tI20 (by decide)))
    have k39 := kq7.2 _ _ kI33 (orN (tg_ne tI33 tI0 (by decide)) (tg_ne tI33 tI20 (by decide)))
    have k40 := kq7.2 _ _ kI34 (orN (tg_ne tI34 tI0 (by decide)) (tg_ne tI34 tI20 (by decide)))
    have k41 := kq7.2 _ _ kI35 (orN (tg_ne tI35 tI0 (by decide)) (tg_ne tI35 tI20 (by decide)))
    have k42 := kq7.2 _ _ kI36 (orN (tg_ne tI36 tI0 (by decide)) (tg_ne tI36 tI20 (by decide)))
    have k43 := kq7.2 _ _ kI37 (orN (tg_ne tI37 tI0 (by decide)) (tg_ne tI37 tI20 (by decide)))
    have k44 := kq7.2 _ _ kI38 (orN (tg_ne tI38 tI0 (by decide)) (tg_ne tI38 tI20 (by decide)))
    have k45 := kq7.2 _ _ kI39 (orN (tg_ne tI39 tI0 (by decide)) (tg_ne tI39 tI20 (by decide)))
    have k46 := kq7.2 _ _ kI40 (orN (tg_ne tI40 tI0 (by decide)) (tg_ne tI40 tI20 (by decide)))
    have k47 := kq7.2 _ _ kI41 (orN (tg_ne tI41 tI0 (by decide)) (tg_ne tI41 tI20 (by decide)))
    have k48 := kq7.2 _ _ kI42 (orN (tg_ne tI42 tI0 (by decide)) (tg_ne tI42 tI20 (by decide)))
    have k49 := kq7.2 _ _ kI43 (orN (tg_ne tI43 tI0 (by decide)) (tg_ne tI43 tI20 (by decide)))
    have k50 := kq7.2 _ _ kI44 (orN (tg_ne tI44 tI0 (by decide)) (tg_ne tI44 tI20 (by decide)))
    have k51 := kq7.2 _ _ kI45 (orN (tg_ne tI45 tI0 (by decide)) (tg_ne tI45 tI20 (by decide)))
    have k52 := kq7.2 _ _ kI46 (orN (tg_ne tI46 tI0 (by decide)) (tg_ne tI46 tI20 (by decide)))
    have k53 := kq7.2 _ _ kI47 (orN (tg_ne tI47 tI0 (by decide)) (tg_ne tI47 tI20 (by decide)))
    have k54 := kq7.2 _ _ kI48 (orN (tg_ne tI48 tI0 (by decide)) (tg_ne tI48 tI20 (by decide)))
    have fm55 : ∀ k9, k9 < 12 → qp k9 = some (pr k9) ∧ wd_at w4 (pr k9) (.inl (cy 2, 12, .inl (fp k9))) ∧ tg (pr k9) = 11000 + k9 := fun k9 hi9 => ⟨(hFPR k9 hi9).1, kq7.2 _ _ (hFPR k9 hi9).2.1 (orN (tg_ne (hFPR k9 hi9).2.2 tI0 (tqA (show 10000 < 11000 by decide))) (tg_ne (hFPR k9 hi9).2.2 tI20 (tqA (show 10124 < 11000 by decide)))), (hFPR k9 hi9).2.2⟩
    have fm56 : ∀ k9, k9 < 12 → qw k9 = some (wr k9) ∧ wd_at w4 (wr k9) (.inl (cy 2, 12, .inl (fw k9))) ∧ tg (wr k9) = 12000 + k9 := fun k9 hi9 => ⟨(hFWR k9 hi9).1, kq7.2 _ _ (hFWR k9 hi9).2.1 (orN (tg_ne (hFWR k9 hi9).2.2 tI0 (tqA (show 10000 < 12000 by decide))) (tg_ne (hFWR k9 hi9).2.2 tI20 (tqA (show 10124 < 12000 by decide)))), (hFWR k9 hi9).2.2⟩
    have fm57 : ∀ k9, k9 < 60 → qs k9 = some (sr k9) ∧ wd_at w4 (sr k9) (.inl (cy 2, 12, .inl (fs k9))) ∧ tg (sr k9) = 13000 + k9 := fun k9 hi9 => ⟨(hFSR k9 hi9).1, kq7.2 _ _ (hFSR k9 hi9).2.1 (orN (tg_ne (hFSR k9 hi9).2.2 tI0 (tqA (show 10000 < 13000 by decide))) (tg_ne (hFSR k9 hi9).2.2 tI20 (tqA (show 10124 < 13000 by decide)))), (hFSR k9 hi9).2.2⟩
    have kp58 := kp0.tr kq7 (fun b9 hm q9 => (fun q9 => Or.elim q9 (fun q9 => q9 ▸ (tgT tI0 (by decide))) (fun q9 => q9 ▸ (tgT tI20 (by decide)))) q9)
    refine W.eq (g2 := F0 m 20 ls []) rfl (W.widen (k := 0) (n := 0) (Nat.le_of_ble_eq_true rfl) (Nat.le_of_ble_eq_true rfl) ?_)
    refine lv_aload_n hx hb dX11_feed_20 rfl (lv_at hl 0 rfl) ?_
    refine lv_iload_n hx hb dX11_feed_21 rfl (lv_at hl 2 rfl) ?_
    refine x_callV (n := 1) (As := [.int x2]) (rest := []) F hP hD hS (m_put l D cy sk sv w4 tg y m2 m3 m4 m5 m6 m8 m9 m10 m11 m12 m13 m14 m17 m18 m19 m20 m21 m22 m23 m24 m29 m30 m31 m32 m33 m34 m35 m36 m37 m39 m40 m41 m42 m43 m44 m45 m46 m47 m48 m49 m51 m52 m53 m54 m56 m57 m58 m59 pc ac sc (ln + 4) sh gf v0 td v26 v27 v28 v50 (ap4 tB ln x1) x2 k5 k6 (fun b => b = y ∨ b = m24) (Or.inl rfl) (Or.inr rfl) tI0 tI20 (by omega)) gX11_feed_X11_put rfl rfl (by decide +kernel) ⟨(Nat.le_of_ble_eq_true rfl), (Nat.le_of_ble_eq_true rfl)⟩ rfl hl.1 (Nat.le_of_ble_eq_true rfl) k5 rfl dX11_feed_22 rfl ⟨(Nat.le_of_ble_eq_true rfl), (Nat.le_of_ble_eq_true rfl)⟩ (fun v60 w61 hp59 H locs hP hD hS => ?_)
    obtain ⟨rfl, kq64, k62, k63⟩ := hp59
    have k65 := kq64.2 _ _ k8 (orN (tg_ne tI1 tI0 (by decide)) (tg_ne tI1 tI20 (by decide)))
    have k66 := kq64.2 _ _ k9 (orN (tg_ne tI2 tI0 (by decide)) (tg_ne tI2 tI20 (by decide)))
    have k67 := kq64.2 _ _ k10 (orN (tg_ne tI3 tI0 (by decide)) (tg_ne tI3 tI20 (by decide)))
    have k68 := kq64.2 _ _ k11 (orN (tg_ne tI4 tI0 (by decide)) (tg_ne tI4 tI20 (by decide)))
    have k69 := kq64.2 _ _ k12 (orN (tg_ne tI5 tI0 (by decide)) (tg_ne tI5 tI20 (by decide)))
    have k70 := kq64.2 _ _ k13 (orN (tg_ne tI6 tI0 (by decide)) (tg_ne tI6 tI20 (by decide)))
    have k71 := kq64.2 _ _ k14 (orN (tg_ne tI7 tI0 (by decide)) (tg_ne tI7 tI20 (by decide)))
    have k72 := kq64.2 _ _ k15 (orN (tg_ne tI8 tI0 (by decide)) (tg_ne tI8 tI20 (by decide)))
    have k73 := kq64.2 _ _ k16 (orN (tg_ne tI9 tI0 (by decide)) (tg_ne tI9 tI20 (by decide)))
    have k74 := kq64.2 _ _ k17 (orN (tg_ne tI10 tI0 (by decide)) (tg_ne tI10 tI20 (by decide)))
    have k75 := kq64.2 _ _ k18 (orN (tg_ne tI11 tI0 (by decide)) (tg_ne tI11 tI20 (by decide)))
    have k76 := kq64.2 _ _ k19 (orN (tg_ne tI12 tI0 (by decide)) (tg_ne tI12 tI20 (by decide)))
    have k77 := kq64.2 _ _ k20 (orN (tg_ne tI13 tI0 (by decide)) (tg_ne tI13 tI20 (by decide)))
    have k78 := kq64.2 _ _ k21 (orN (tg_ne tI14 tI0 (by decide)) (tg_ne tI14 tI20 (by decide)))
    have k79 := kq64.2 _ _ k22 (orN (tg_ne tI15 tI0 (by decide)) (tg_ne tI15 tI20 (by decide)))
    have k80 := kq64.2 _ _ k23 (orN (tg_ne tI16 tI0 (by decide)) (tg_ne tI16 tI20 (by decide)))
    have k81 := kq64.2 _ _ k24 (orN (tg_ne tI17 tI0 (by decide)) (tg_ne tI17 tI20 (by decide)))
    have k82 := kq64.2 _ _ k25 (orN (tg_ne tI18 tI0 (by decide)) (tg_ne tI18 tI20 (by decide)))
    have k83 := kq64.2 _ _ k26 (orN (tg_ne tI19 tI0 (by decide)) (tg_ne tI19 tI20 (by decide)))
    have k84 := kq64.2 _ _ k27 (orN (tg_ne tI21 tI0 (by decide)) (tg_ne tI21 tI20 (by decide)))
    have k85 := kq64.2 _ _ k28 (orN (tg_ne tI22 tI0 (by decide)) (tg_ne tI22 tI20 (by decide)))
    have k86 := kq64.2 _ _ k29 (orN (tg_ne tI23 tI0 (by decide)) (tg_ne tI23 tI20 (by decide)))
    have k87 := kq64.2 _ _ k30 (orN (tg_ne tI24 tI0 (by decide)) (tg_ne tI24 tI20 (by decide)))
    have k88 := kq64.2 _ _ k31 (orN (tg_ne tI25 tI0 (by decide)) (tg_ne tI25 tI20 (by decide)))
    have k89 := kq64.2 _ _ k32 (orN (tg_ne tI26 tI0 (by decide)) (tg_ne tI26 tI20 (by decide)))
    have k90 := kq64.2 _ _ k33 (orN (tg_ne tI27 tI0 (by decide)) (tg_ne tI27 tI20 (by decide)))
    have k91 := kq64.2 _ _ k34 (orN (tg_ne tI28 tI0 (by decide)) (tg_ne tI28 tI20 (by decide)))
    have k92 := kq64.2 _ _ k35 (orN (tg_ne tI29 tI0 (by decide)) (tg_ne tI29 tI20 (by decide)))
    have k93 := kq64.2 _ _ k36 (orN (tg_ne tI30 tI0 (by decide)) (tg_ne tI30 tI20 (by decide)))
    have k94 := kq64.2 _ _ k37 (orN (tg_ne tI31 tI0 (by decide)) (tg_ne tI31 tI20 (by decide)))
    have k95 := kq64.2 _ _ k38 (orN (tg_ne tI32 tI0 (by decide)) (tg_ne tI32 tI20 (by decide)))
    have k96 := kq64.2 _ _ k39 (orN (tg_ne tI33 tI0 (by decide)) (tg_ne tI33 tI20 (by decide)))
    have k97 := kq64.2 _ _ k40 (orN (tg_ne tI34 tI0 (by decide)) (tg_ne tI34 tI20 (by decide)))
    have k98 := kq64.2 _ _ k41 (orN (tg_ne tI35 tI0 (by decide)) (tg_ne tI35 tI20 (by decide)))
    have k99 := kq64.2 _ _ k42 (orN (tg_ne tI36 tI0 (by decide)) (tg_ne tI36 tI20 (by decide)))
    have k100 := kq64.2 _ _ k43 (orN (tg_ne tI37 tI0 (by decide)) (tg_ne tI37 tI20 (by decide)))
    have k101 := kq64.2 _ _ k44 (orN (tg_ne tI38 tI0 (by decide)) (tg_ne tI38 tI20 (by decide)))
    have k102 := kq64.2 _ _ k45 (orN (tg_ne tI39 tI0 (by decide)) (tg_ne tI39 tI20 (by decide)))
    have k103 := kq64.2 _ _ k46 (orN (tg_ne tI40 tI0 (by decide)) (tg_ne tI40 tI20 (by decide)))
    have k104 := kq64.2 _ _ k47 (orN (tg_ne tI41 tI0 (by decide)) (tg_ne tI41 tI20 (by decide)))
    have k105 := kq64.2 _ _ k48 (orN (tg_ne tI42 tI0 (by decide)) (tg_ne tI42 tI20 (by decide)))
    have k106 := kq64.2 _ _ k49 (orN (tg_ne tI43 tI0 (by decide)) (tg_ne tI43 tI20 (by decide)))
    have k107 := kq64.2 _ _ k50 (orN (tg_ne tI44 tI0 (by decide)) (tg_ne tI44 tI20 (by decide)))
    have k108 := kq64.2 _ _ k51 (orN (tg_ne tI45 tI0 (by decide)) (tg_ne tI45 tI20 (by decide)))
    have k109 := kq64.2 _ _ k52 (orN (tg_ne tI46 tI0 (by decide)) (tg_ne tI46 tI20 (by decide)))
    have k110 := kq64.2 _ _ k53 (orN (tg_ne tI47 tI0 (by decide)) (tg_ne tI47 tI20 (by decide)))
    have k111 := kq64.2 _ _ k54 (orN (tg_ne tI48 tI0 (by decide)) (tg_ne tI48 tI20 (by decide)))
    have fm112 : ∀ k9, k9 < 12 → qp k9 = some (pr k9) ∧ wd_at w61 (pr k9) (.inl (cy 2, 12, .inl (fp k9))) ∧ tg (pr k9) = 11000 + k9 := fun k9 hi9 => ⟨(fm55 k9 hi9).1, kq64.2 _ _ (fm55 k9 hi9).2.1 (orN (tg_ne (fm55 k9 hi9).2.2 tI0 (tqA (show 10000 < 11000 by decide))) (tg_ne (fm55 k9 hi9).2.2 tI20 (tqA (show 10124 < 11000 by decide)))), (fm55 k9 hi9).2.2⟩
    have fm113 : ∀ k9, k9 < 12 → qw k9 = some (wr k9) ∧ wd_at w61 (wr k9) (.inl (cy 2, 12, .inl (fw k9))) ∧ tg (wr k9) = 12000 + k9 := fun k9 hi9 => ⟨(fm56 k9 hi9).1, kq64.2 _ _ (fm56 k9 hi9).2.1 (orN (tg_ne (fm56 k9 hi9).2.2 tI0 (tqA (show 10000 < 12000 by decide))) (tg_ne (fm56 k9 hi9).2.2 tI20 (tqA (show 10124 < 12000 by decide)))), (fm56 k9 hi9).2.2⟩
    have fm114 : ∀ k9, k9 < 60 → qs k9 = some (sr k9) ∧ wd_at w61 (sr k9) (.inl (cy 2, 12, .inl (fs k9))) ∧ tg (sr k9) = 13000 + k9 := fun k9 hi9 => ⟨(fm57 k9 hi9).1, kq64.2 _ _ (fm57 k9 hi9).2.1 (orN (tg_ne (fm57 k9 hi9).2.2 tI0 (tqA (show 10000 < 13000 by decide))) (tg_ne (fm57 k9 hi9).2.2 tI20 (tqA (show 10124 < 13000 by decide)))), (fm57 k9 hi9).2.2⟩
    have kp115 := kp58.tr kq64 (fun b9 hm q9 => (fun q9 => Or.elim q9 (fun q9 => q9 ▸ (tgT tI0 (by decide))) (fun q9 => q9 ▸ (tgT tI20 (by decide)))) q9)
    refine W.eq (g2 := F0 m 25 ls []) rfl (W.widen (k := 0) (n := 0) (Nat.le_of_ble_eq_true rfl) (Nat.le_of_ble_eq_true rfl) ?_)
    refine lv_aload_n hx hb dX11_feed_25 rfl (lv_at hl 0 rfl) ?_
    refine lv_iload_n hx hb dX11_feed_26 rfl (lv_at hl 3 rfl) ?_
    refine x_callV (n := 1) (As := [.int x3]) (rest := []) F hP hD hS (m_put l D cy sk sv w61 tg y m2 m3 m4 m5 m6 m8 m9 m10 m11 m12 m13 m14 m17 m18 m19 m20 m21 m22 m23 m24 m29 m30 m31 m32 m33 m34 m35 m36 m37 m39 m40 m41 m42 m43 m44 m45 m46 m47 m48 m49 m51 m52 m53 m54 m56 m57 m58 m59 pc ac sc ((ln + 4) + 4) sh gf v0 td v26 v27 v28 v50 (ap4 (ap4 tB ln x1) (ln + 4) x2) x3 k62 k63 (fun b => b = y ∨ b = m24) (Or.inl rfl) (Or.inr rfl) tI0 tI20 (by omega)) gX11_feed_X11_put rfl rfl (by decide +kernel) ⟨(Nat.le_of_ble_eq_true rfl), (Nat.le_of_ble_eq_true rfl)⟩ rfl hl.1 (Nat.le_of_ble_eq_true rfl) k62 rfl dX11_feed_27 rfl ⟨(Nat.le_of_ble_eq_true rfl), (Nat.le_of_ble_eq_true rfl)⟩ (fun v117 w118 hp116 H locs hP hD hS => ?_)
    obtain ⟨rfl, kq121, k119, k120⟩ := hp116
    have k122 := kq121.2 _ _ k65 (orN (tg_ne tI1 tI0 (by decide)) (tg_ne tI1 tI20 (by decide)))
    have k123 := kq121.2 _ _ k66 (orN (tg_ne tI2 tI0 (by decide)) (tg_ne tI2 tI20 (by decide)))
    have k124 := kq121.2 _ _ k67 (orN (tg_ne tI3 tI0 (by decide)) (tg_ne tI3 tI20 (by decide)))
    have k125 := kq121.2 _ _ k68 (orN (tg_ne tI4 tI0 (by decide)) (tg_ne tI4 tI20 (by decide)))
    have k126 := kq121.2 _ _ k69 (orN (tg_ne tI5 tI0 (by decide)) (tg_ne tI5 tI20 (by decide)))
    have k127 := kq121.2 _ _ k70 (orN (tg_ne tI6 tI0 (by decide)) (tg_ne tI6 tI20 (by decide)))
    have k128 := kq121.2 _ _ k71 (orN (tg_ne tI7 tI0 (by decide)) (tg_ne tI7 tI20 (by decide)))
    have k129 := kq121.2 _ _ k72 (orN (tg_ne tI8 tI0 (by decide)) (tg_ne tI8 tI20 (by decide)))
    have k130 := kq121.2 _ _ k73 (orN (tg_ne tI9 tI0 (by decide)) (tg_ne tI9 tI20 (by decide)))
    have k131 := kq121.2 _ _ k74 (orN (tg_ne tI10 tI0 (by decide)) (tg_ne tI10 tI20 (by decide)))
    have k132 := kq121.2 _ _ k75 (orN (tg_ne tI11 tI0 (by decide)) (tg_ne tI11 tI20 (by decide)))
    have k133 := kq121.2 _ _ k76 (orN (tg_ne tI12 tI0 (by decide)) (tg_ne tI12 tI20 (by decide)))
    have k134 := kq121.2 _ _ k77 (orN (tg_ne tI13 tI0 (by decide)) (tg_ne tI13 tI20 (by decide)))
    have k135 := kq121.2 _ _ k78 (orN (tg_ne tI14 tI0 (by decide)) (tg_ne tI14 tI20 (by decide)))
    have k136 := kq121.2 _ _ k79 (orN (tg_ne tI15 tI0 (by decide)) (tg_ne tI15 tI20 (by decide)))
    have k137 := kq121.2 _ _ k80 (orN (tg_ne tI16 tI0 (by decide)) (tg_ne tI16 tI20 (by decide)))
    have k138 := kq121.2 _ _ k81 (orN (tg_ne tI17 tI0 (by decide)) (tg_ne tI17 tI20 (by decide)))
    have k139 := kq121.2 _ _ k82 (orN (tg_ne tI18 tI0 (by decide)) (tg_ne tI18 tI20 (by decide)))
    have k140 := kq121.2 _ _ k83 (orN (tg_ne tI19 tI0 (by decide)) (tg_ne tI19 tI20 (by decide)))
    have k141 := kq121.2 _ _ k84 (orN (tg_ne tI21 tI0 (by decide)) (tg_ne tI21 tI20 (by decide)))
    have k142 := kq121.2 _ _ k85 (orN (tg_ne tI22 tI0 (by decide)) (tg_ne tI22 tI20 (by decide)))
    have k143 := kq121.2 _ _ k86 (orN (tg_ne tI23 tI0 (by decide)) (tg_ne tI23 tI20 (by decide)))
    have k144 := kq121.2 _ _ k87 (orN (tg_ne tI24 tI0 (by decide)) (tg_ne tI24 tI20 (by decide)))
    have k145 := kq121.2 _ _ k88 (orN (tg_ne tI25 tI0 (by decide)) (tg_ne tI25 tI20 (by decide)))
    have k146 := kq121.2 _ _ k89 (orN (tg_ne tI26 tI0 (by decide)) (tg_ne tI26 tI20 (by decide)))
    have k147 := kq121.2 _ _ k90 (orN (tg_ne tI27 tI0 (by decide)) (tg_ne tI27 tI20 (by decide)))
    have k148 := kq121.2 _ _ k91 (orN (tg_ne tI28 tI0 (by decide)) (tg_ne tI28 tI20 (by decide)))
    have k149 := kq121.2 _ _ k92 (orN (tg_ne tI29 tI0 (by decide)) (tg_ne tI29 tI20 (by decide)))
    have k150 := kq121.2 _ _ k93 (orN (tg_ne tI30 tI0 (by decide)) (tg_ne tI30 tI20 (by decide)))
    have k151 := kq121.2 _ _ k94 (orN (tg_ne tI31 tI0 (by decide)) (tg_ne tI31 tI20 (by decide)))
    have k152 := kq121.2 _ _ k95 (orN (tg_ne tI32 tI0 (by decide)) (tg_ne tI32 tI20 (by decide)))
    have k153 := kq121.2 _ _ k96 (orN (tg_ne tI33 tI0 (by decide)) (tg_ne tI33 tI20 (by decide)))
    have k154 := kq121.2 _ _ k97 (orN (tg_ne tI34 tI0 (by decide)) (tg_ne tI34 tI20 (by decide)))
    have k155 := kq121.2 _ _ k98 (orN (tg_ne tI35 tI0 (by decide)) (tg_ne tI35 tI20 (by decide)))
    have k156 := kq121.2 _ _ k99 (orN (tg_ne tI36 tI0 (by decide)) (tg_ne tI36 tI20 (by decide)))
    have k157 := kq121.2 _ _ k100 (orN (tg_ne tI37 tI0 (by decide)) (tg_ne tI37 tI20 (by decide)))
    have k158 := kq121.2 _ _ k101 (orN (tg_ne tI38 tI0 (by decide)) (tg_ne tI38 tI20 (by decide)))
    have k159 := kq121.2 _ _ k102 (orN (tg_ne tI39 tI0 (by decide)) (tg_ne tI39 tI20 (by decide)))
    have k160 := kq121.2 _ _ k103 (orN (tg_ne tI40 tI0 (by decide)) (tg_ne tI40 tI20 (by decide)))
    have k161 := kq121.2 _ _ k104 (orN (tg_ne tI41 tI0 (by decide)) (tg_ne tI41 tI20 (by decide)))
    have k162 := kq121.2 _ _ k105 (orN (tg_ne tI42 tI0 (by decide)) (tg_ne tI42 tI20 (by decide)))
    have k163 := kq121.2 _ _ k106 (orN (tg_ne tI43 tI0 (by decide)) (tg_ne tI43 tI20 (by decide)))
    have k164 := kq121.2 _ _ k107 (orN (tg_ne tI44 tI0 (by decide)) (tg_ne tI44 tI20 (by decide)))
    have k165 := kq121.2 _ _ k108 (orN (tg_ne tI45 tI0 (by decide)) (tg_ne tI45 tI20 (by decide)))
    have k166 := kq121.2 _ _ k109 (orN (tg_ne tI46 tI0 (by decide)) (tg_ne tI46 tI20 (by decide)))
    have k167 := kq121.2 _ _ k110 (orN (tg_ne tI47 tI0 (by decide)) (tg_ne tI47 tI20 (by decide)))
    have k168 := kq121.2 _ _ k111 (orN (tg_ne tI48 tI0 (by decide)) (tg_ne tI48 tI20 (by decide)))
    have fm169 : ∀ k9, k9 < 12 → qp k9 = some (pr k9) ∧ wd_at w118 (pr k9) (.inl (cy 2, 12, .inl (fp k9))) ∧ tg (pr k9) = 11000 + k9 := fun k9 hi9 => ⟨(fm112 k9 hi9).1, kq121.2 _ _ (fm112 k9 hi9).2.1 (orN (tg_ne (fm112 k9 hi9).2.2 tI0 (tqA (show 10000 < 11000 by decide))) (tg_ne (fm112 k9 hi9).2.2 tI20 (tqA (show 10124 < 11000 by decide)))), (fm112 k9 hi9).2.2⟩
    have fm170 : ∀ k9, k9 < 12 → qw k9 = some (wr k9) ∧ wd_at w118 (wr k9) (.inl (cy 2, 12, .inl (fw k9))) ∧ tg (wr k9) = 12000 + k9 := fun k9 hi9 => ⟨(fm113 k9 hi9).1, kq121.2 _ _ (fm113 k9 hi9).2.1 (orN (tg_ne (fm113 k9 hi9).2.2 tI0 (tqA (show 10000 < 12000 by decide))) (tg_ne (fm113 k9 hi9).2.2 tI20 (tqA (show 10124 < 12000 by decide)))), (fm113 k9 hi9).2.2⟩
    have fm171 : ∀ k9, k9 < 60 → qs k9 = some (sr k9) ∧ wd_at w118 (sr k9) (.inl (cy 2, 12, .inl (fs k9))) ∧ tg (sr k9) = 13000 + k9 := fun k9 hi9 => ⟨(fm114 k9 hi9).1, kq121.2 _ _ (fm114 k9 hi9).2.1 (orN (tg_ne (fm114 k9 hi9).2.2 tI0 (tqA (show 10000 < 13000 by decide))) (tg_ne (fm114 k9 hi9).2.2 tI20 (tqA (show 10124 < 13000 by decide)))), (fm114 k9 hi9).2.2⟩
    have kp172 := kp115.tr kq121 (fun b9 hm q9 => (fun q9 => Or.elim q9 (fun q9 => q9 ▸ (tgT tI0 (by decide))) (fun q9 => q9 ▸ (tgT tI20 (by decide)))) q9)
    refine W.eq (g2 := F0 m 30 ls []) rfl (W.widen (k := 0) (n := 0) (Nat.le_of_ble_eq_true rfl) (Nat.le_of_ble_eq_true rfl) ?_)
    refine lv_aload_n hx hb dX11_feed_30 rfl (lv_at hl 0 rfl) ?_
    refine lv_iload hx hb dX11_feed_31 (lv_at hl 4 rfl) ?_
    refine x_callV (n := 1) (As := [.int x4]) (rest := []) F hP hD hS (m_put l D cy sk sv w118 tg y m2 m3 m4 m5 m6 m8 m9 m10 m11 m12 m13 m14 m17 m18 m19 m20 m21 m22 m23 m24 m29 m30 m31 m32 m33 m34 m35 m36 m37 m39 m40 m41 m42 m43 m44 m45 m46 m47 m48 m49 m51 m52 m53 m54 m56 m57 m58 m59 pc ac sc (((ln + 4) + 4) + 4) sh gf v0 td v26 v27 v28 v50 (ap4 (ap4 (ap4 tB ln x1) (ln + 4) x2) ((ln + 4) + 4) x3) x4 k119 k120 (fun b => b = y ∨ b = m24) (Or.inl rfl) (Or.inr rfl) tI0 tI20 (by omega)) gX11_feed_X11_put rfl rfl (by decide +kernel) ⟨(Nat.le_of_ble_eq_true rfl), (Nat.le_of_ble_eq_true rfl)⟩ rfl hl.1 (Nat.le_of_ble_eq_true rfl) k119 rfl dX11_feed_33 rfl ⟨(Nat.le_of_ble_eq_true rfl), (Nat.le_of_ble_eq_true rfl)⟩ (fun v174 w175 hp173 H locs hP hD hS => ?_)
    obtain ⟨rfl, kq178, k176, k177⟩ := hp173
    have k179 := kq178.2 _ _ k122 (orN (tg_ne tI1 tI0 (by decide)) (tg_ne tI1 tI20 (by decide)))
    have k180 := kq178.2 _ _ k123 (orN (tg_ne tI2 tI0 (by decide)) (tg_ne tI2 tI20 (by decide)))
    have k181 := kq178.2 _ _ k124 (orN (tg_ne tI3 tI0 (by decide)) (tg_ne tI3 tI20 (by decide)))
    have k182 := kq178.2 _ _ k125 (orN (tg_ne tI4 tI0 (by decide)) (tg_ne tI4 tI20 (by decide)))
    have k183 := kq178.2 _ _ k126 (orN (tg_ne tI5 tI0 (by decide)) (tg_ne tI5 tI20 (by decide)))
    have k184 := kq178.2 _ _ k127 (orN (tg_ne tI6 tI0 (by decide)) (tg_ne tI6 tI20 (by decide)))
    have k185 := kq178.2 _ _ k128 (orN (tg_ne tI7 tI0 (by decide)) (tg_ne tI7 tI20 (by decide)))
    have k186 := kq178.2 _ _ k129 (orN (tg_ne tI8 tI0 (by decide)) (tg_ne tI8 tI20 (by decide)))
    have k187 := kq178.2 _ _ k130 (orN (tg_ne tI9 tI0 (by decide)) (tg_ne tI9 tI20 (by decide)))
    have k188 := kq178.2 _ _ k131 (orN (tg_ne tI10 tI0 (by decide)) (tg_ne tI10 tI20 (by decide)))
    have k189 := kq178.2 _ _ k132 (orN (tg_ne tI11 tI0 (by decide)) (tg_ne tI11 tI20 (by decide)))
    have k190 := kq178.2 _ _ k133 (orN (tg_ne tI12 tI0 (by decide)) (tg_ne tI12 tI20 (by decide)))
    have k191 := kq178.2 _ _ k134 (orN (tg_ne tI13 tI0 (by decide)) (tg_ne tI13 tI20 (by decide)))
    have k192 := kq178.2 _ _ k135 (orN (tg_ne tI14 tI0 (by decide)) (tg_ne tI14 tI20 (by decide)))
    have k193 := kq178.2 _ _ k136 (orN (tg_ne tI15 tI0 (by decide)) (tg_ne tI15 tI20 (by decide)))
    have k194 := kq178.2 _ _ k137 (orN (tg_ne tI16 tI0 (by decide)) (tg_ne tI16 tI20 (by decide)))
    have k195 := kq178.2 _ _ k138 (orN (tg_ne tI17 tI0 (by decide)) (tg_ne tI17 tI20 (by decide)))
    have k196 := kq178.2 _ _ k139 (orN (tg_ne tI18 tI0 (by decide)) (tg_ne tI18 tI20 (by decide)))
    have k197 := kq178.2 _ _ k140 (orN (tg_ne tI19 tI0 (by decide)) (tg_ne tI19 tI20 (by decide)))
    have k198 := kq178.2 _ _ k141 (orN (tg_ne tI21 tI0 (by decide)) (tg_ne tI21 tI20 (by decide)))
    have k199 := kq178.2 _ _ k142 (orN (tg_ne tI22 tI0 (by decide)) (tg_ne tI22 tI20 (by decide)))
    have k200 := kq178.2 _ _ k143 (orN (tg_ne tI23 tI0 (by decide)) (tg_ne tI23 tI20 (by decide)))
    have k201 := kq178.2 _ _ k144 (orN (tg_ne tI24 tI0 (by decide)) (tg_ne tI24 tI20 (by decide)))
    have k202 := kq178.2 _ _ k145 (orN (tg_ne tI25 tI0 (by decide)) (tg_ne tI25 tI20 (by decide)))
    have k203 := kq178.2 _ _ k146 (orN (tg_ne tI26 tI0 (by decide)) (tg_ne tI26 tI20 (by decide)))
    have k204 := kq178.2 _ _ k147 (orN (tg_ne tI27 tI0 (by decide)) (tg_ne tI27 tI20 (by decide)))
    have k205 := kq178.2 _ _ k148 (orN (tg_ne tI28 tI0 (by decide)) (tg_ne tI28 tI20 (by decide)))
    have k206 := kq178.2 _ _ k149 (orN (tg_ne tI29 tI0 (by decide)) (tg_ne tI29 tI20 (by decide)))
    have k207 := kq178.2 _ _ k150 (orN (tg_ne tI30 tI0 (by decide)) (tg_ne tI30 tI20 (by decide)))
    have k208 := kq178.2 _ _ k151 (orN (tg_ne tI31 tI0 (by decide)) (tg_ne tI31 tI20 (by decide)))
    have k209 := kq178.2 _ _ k152 (orN (tg_ne tI32 tI0 (by decide)) (tg_ne tI32 tI20 (by decide)))
    have k210 := kq178.2 _ _ k153 (orN (tg_ne tI33 tI0 (by decide)) (tg_ne tI33 tI20 (by decide)))
    have k211 := kq178.2 _ _ k154 (orN (tg_ne tI34 tI0 (by decide)) (tg_ne tI34 tI20 (by decide)))
    have k212 := kq178.2 _ _ k155 (orN (tg_ne tI35 tI0 (by decide)) (tg_ne tI35 tI20 (by decide)))
    have k213 := kq178.2 _ _ k156 (orN (tg_ne tI36 tI0 (by decide)) (tg_ne tI36 tI20 (by decide)))
    have k214 := kq178.2 _ _ k157 (orN (tg_ne tI37 tI0 (by decide)) (tg_ne tI37 tI20 (by decide)))
    have k215 := kq178.2 _ _ k158 (orN (tg_ne tI38 tI0 (by decide)) (tg_ne tI38 tI20 (by decide)))
    have k216 := kq178.2 _ _ k159 (orN (tg_ne tI39 tI0 (by decide)) (tg_ne tI39 tI20 (by decide)))
    have k217 := kq178.2 _ _ k160 (orN (tg_ne tI40 tI0 (by decide)) (tg_ne tI40 tI20 (by decide)))
    have k218 := kq178.2 _ _ k161 (orN (tg_ne tI41 tI0 (by decide)) (tg_ne tI41 tI20 (by decide)))
    have k219 := kq178.2 _ _ k162 (orN (tg_ne tI42 tI0 (by decide)) (tg_ne tI42 tI20 (by decide)))
    have k220 := kq178.2 _ _ k163 (orN (tg_ne tI43 tI0 (by decide)) (tg_ne tI43 tI20 (by decide)))
    have k221 := kq178.2 _ _ k164 (orN (tg_ne tI44 tI0 (by decide)) (tg_ne tI44 tI20 (by decide)))
    have k222 := kq178.2 _ _ k165 (orN (tg_ne tI45 tI0 (by decide)) (tg_ne tI45 tI20 (by decide)))
    have k223 := kq178.2 _ _ k166 (orN (tg_ne tI46 tI0 (by decide)) (tg_ne tI46 tI20 (by decide)))
    have k224 := kq178.2 _ _ k167 (orN (tg_ne tI47 tI0 (by decide)) (tg_ne tI47 tI20 (by decide)))
    have k225 := kq178.2 _ _ k168 (orN (tg_ne tI48 tI0 (by decide)) (tg_ne tI48 tI20 (by decide)))
    have fm226 : ∀ k9, k9 < 12 → qp k9 = some (pr k9) ∧ wd_at w175 (pr k9) (.inl (cy 2, 12, .inl (fp k9))) ∧ tg (pr k9) = 11000 + k9 := fun k9 hi9 => ⟨(fm169 k9 hi9).1, kq178.2 _ _ (fm169 k9 hi9).2.1 (orN (tg_ne (fm169 k9 hi9).2.2 tI0 (tqA (show 10000 < 11000 by decide))) (tg_ne (fm169 k9 hi9).2.2 tI20 (tqA (show 10124 < 11000 by decide)))), (fm169 k9 hi9).2.2⟩
    have fm227 : ∀ k9, k9 < 12 → qw k9 = some (wr k9) ∧ wd_at w175 (wr k9) (.inl (cy 2, 12, .inl (fw k9))) ∧ tg (wr k9) = 12000 + k9 := fun k9 hi9 => ⟨(fm170 k9 hi9).1, kq178.2 _ _ (fm170 k9 hi9).2.1 (orN (tg_ne (fm170 k9 hi9).2.2 tI0 (tqA (show 10000 < 12000 by decide))) (tg_ne (fm170 k9 hi9).2.2 tI20 (tqA (show 10124 < 12000 by decide)))), (fm170 k9 hi9).2.2⟩
    have fm228 : ∀ k9, k9 < 60 → qs k9 = some (sr k9) ∧ wd_at w175 (sr k9) (.inl (cy 2, 12, .inl (fs k9))) ∧ tg (sr k9) = 13000 + k9 := fun k9 hi9 => ⟨(fm171 k9 hi9).1, kq178.2 _ _ (fm171 k9 hi9).2.1 (orN (tg_ne (fm171 k9 hi9).2.2 tI0 (tqA (show 10000 < 13000 by decide))) (tg_ne (fm171 k9 hi9).2.2 tI20 (tqA (show 10124 < 13000 by decide)))), (fm171 k9 hi9).2.2⟩
    have kp229 := kp172.tr kq178 (fun b9 hm q9 => (fun q9 => Or.elim q9 (fun q9 => q9 ▸ (tgT tI0 (by decide))) (fun q9 => q9 ▸ (tgT tI20 (by decide)))) q9)
    refine W.eq (g2 := F0 m 36 ls []) rfl (W.widen (k := 0) (n := 0) (Nat.le_of_ble_eq_true rfl) (Nat.le_of_ble_eq_true rfl) ?_)
    refine lv_aload_n hx hb dX11_feed_36 rfl (lv_at hl 0 rfl) ?_
    refine lv_iload hx hb dX11_feed_37 (lv_at hl 5 rfl) ?_
    refine x_callV (n := 1) (As := [.int x5]) (rest := []) F hP hD hS (m_put l D cy sk sv w175 tg y m2 m3 m4 m5 m6 m8 m9 m10 m11 m12 m13 m14 m17 m18 m19 m20 m21 m22 m23 m24 m29 m30 m31 m32 m33 m34 m35 m36 m37 m39 m40 m41 m42 m43 m44 m45 m46 m47 m48 m49 m51 m52 m53 m54 m56 m57 m58 m59 pc ac sc ((((ln + 4) + 4) + 4) + 4) sh gf v0 td v26 v27 v28 v50 (ap4 (ap4 (ap4 (ap4 tB ln x1) (ln + 4) x2) ((ln + 4) + 4) x3) (((ln + 4) + 4) + 4) x4) x5 k176 k177 (fun b => b = y ∨ b = m24) (Or.inl rfl) (Or.inr rfl) tI0 tI20 (by omega)) gX11_feed_X11_put rfl rfl (by decide +kernel) ⟨(Nat.le_of_ble_eq_true rfl), (Nat.le_of_ble_eq_true rfl)⟩ rfl hl.1 (Nat.le_of_ble_eq_true rfl) k176 rfl dX11_feed_39 rfl ⟨(Nat.le_of_ble_eq_true rfl), (Nat.le_of_ble_eq_true rfl)⟩ (fun v231 w232 hp230 H locs hP hD hS => ?_)
    obtain ⟨rfl, kq235, k233, k234⟩ := hp230
    have k236 := kq235.2 _ _ k179 (orN (tg_ne tI1 tI0 (by decide)) (tg_ne tI1 tI20 (by decide)))
    have k237 := kq235.2 _ _ k180 (orN (tg_ne tI2 tI0 (by decide)) (tg_ne tI2 tI20 (by decide)))
    have k238 := kq235.2 _ _ k181 (orN (tg_ne tI3 tI0 (by decide)) (tg_ne tI3 tI20 (by decide)))
    have k239 := kq235.2 _ _ k182 (orN (tg_ne tI4 tI0 (by decide)) (tg_ne tI4 tI20 (by decide)))
    have k240 := kq235.2 _ _ k183 (orN (tg_ne tI5 tI0 (by decide)) (tg_ne tI5 tI20 (by decide)))
    have k241 := kq235.2 _ _ k184 (orN (tg_ne tI6 tI0 (by decide)) (tg_ne tI6 tI20 (by decide)))
    have k242 := kq235.2 _ _ k185 (orN (tg_ne tI7 tI0 (by decide)) (tg_ne tI7 tI20 (by decide)))
    have k243 := kq235.2 _ _ k186 (orN (tg_ne tI8 tI0 (by decide)) (tg_ne tI8 tI20 (by decide)))
    have k244 := kq235.2 _ _ k187 (orN (tg_ne tI9 tI0 (by decide)) (tg_ne tI9 tI20 (by decide)))
    have k245 := kq235.2 _ _ k188 (orN (tg_ne tI10 tI0 (by decide)) (tg_ne tI10 tI20 (by decide)))
    have k246 := kq235.2 _ _ k189 (orN (tg_ne tI11 tI0 (by decide)) (tg_ne tI11 tI20 (by decide)))
    have k247 := kq235.2 _ _ k190 (orN (tg_ne tI12 tI0 (by decide)) (tg_ne tI12 tI20 (by decide)))
    have k248 := kq235.2 _ _ k191 (orN (tg_ne tI13 tI0 (by decide)) (tg_ne tI13 tI20 (by decide)))
    have k249 := kq235.2 _ _ k192 (orN (tg_ne tI14 tI0 (by decide)) (tg_ne tI14 tI20 (by decide)))
    have k250 := kq235.2 _ _ k193 (orN (tg_ne tI15 tI0 (by decide)) (tg_ne tI15 tI20 (by decide)))
    have k251 := kq235.2 _ _ k194 (orN (tg_ne tI16 tI0 (by decide)) (tg_ne tI16 tI20 (by decide)))
    have k252 := kq235.2 _ _ k195 (orN (tg_ne tI17 tI0 (by decide)) (tg_ne tI17 tI20 (by decide)))
    have k253 := kq235.2 _ _ k196 (orN (tg_ne tI18 tI0 (by decide)) (tg_ne tI18 tI20 (by decide)))
    have k254 := kq235.2 _ _ k197 (orN (tg_ne tI19 tI0 (by decide)) (tg_ne tI19 tI20 (by decide)))
    have k255 := kq235.2 _ _ k198 (orN (tg_ne tI21 tI0 (by decide)) (tg_ne tI21 tI20 (by decide)))
    have k256 := kq235.2 _ _ k199 (orN (tg_ne tI22 tI0 (by decide)) (tg_ne tI22 tI20 (by decide)))
    have k257 := kq235.2 _ _ k200 (orN (tg_ne tI23 tI0 (by decide)) (tg_ne tI23 tI20 (by decide)))
    have k258 := kq235.2 _ _ k201 (orN (tg_ne tI24 tI0 (by decide)) (tg_ne tI24 tI20 (by decide)))
    have k259 := kq235.2 _ _ k202 (orN (tg_ne tI25 tI0 (by decide)) (tg_ne tI25 tI20 (by decide)))
    have k260 := kq235.2 _ _ k203 (orN (tg_ne tI26 tI0 (by decide)) (tg_ne tI26 tI20 (by decide)))
    have k261 := kq235.2 _ _ k204 (orN (tg_ne tI27 tI0 (by decide)) (tg_ne tI27 tI20 (by decide)))
    have k262 := kq235.2 _ _ k205 (orN (tg_ne tI28 tI0 (by decide)) (tg_ne tI28 tI20 (by decide)))
    have k263 := kq235.2 _ _ k206 (orN (tg_ne tI29 tI0 (by decide)) (tg_ne tI29 tI20 (by decide)))
    have k264 := kq235.2 _ _ k207 (orN (tg_ne tI30 tI0 (by decide)) (tg_ne tI30 tI20 (by decide)))
    have k265 := kq235.2 _ _ k208 (orN (tg_ne tI31 tI0 (by decide)) (tg_ne tI31 tI20 (by decide)))
    have k266 := kq235.2 _ _ k209 (orN (tg_ne tI32 tI0 (by decide)) (tg_ne tI32 tI20 (by decide)))
    have k267 := kq235.2 _ _ k210 (orN (tg_ne tI33 tI0 (by decide)) (tg_ne tI33 tI20 (by decide)))
    have k268 := kq235.2 _ _ k211 (orN (tg_ne tI34 tI0 (by decide)) (tg_ne tI34 tI20 (by decide)))
    have k269 := kq235.2 _ _ k212 (orN (tg_ne tI35 tI0 (by decide)) (tg_ne tI35 tI20 (by decide)))
    have k270 := kq235.2 _ _ k213 (orN (tg_ne tI36 tI0 (by decide)) (tg_ne tI36 tI20 (by decide)))
    have k271 := kq235.2 _ _ k214 (orN (tg_ne tI37 tI0 (by decide)) (tg_ne tI37 tI20 (by decide)))
    have k272 := kq235.2 _ _ k215 (orN (tg_ne tI38 tI0 (by decide)) (tg_ne tI38 tI20 (by decide)))
    have k273 := kq235.2 _ _ k216 (orN (tg_ne tI39 tI0 (by decide)) (tg_ne tI39 tI20 (by decide)))
    have k274 := kq235.2 _ _ k217 (orN (tg_ne tI40 tI0 (by decide)) (tg_ne tI40 tI20 (by decide)))
    have k275 := kq235.2 _ _ k218 (orN (tg_ne tI41 tI0 (by decide)) (tg_ne tI41 tI20 (by decide)))
    have k276 := kq235.2 _ _ k219 (orN (tg_ne tI42 tI0 (by decide)) (tg_ne tI42 tI20 (by decide)))
    have k277 := kq235.2 _ _ k220 (orN (tg_ne tI43 tI0 (by decide)) (tg_ne tI43 tI20 (by decide)))
    have k278 := kq235.2 _ _ k221 (orN (tg_ne tI44 tI0 (by decide)) (tg_ne tI44 tI20 (by decide)))
    have k279 := kq235.2 _ _ k222 (orN (tg_ne tI45 tI0 (by decide)) (tg_ne tI45 tI20 (by decide)))
    have k280 := kq235.2 _ _ k223 (orN (tg_ne tI46 tI0 (by decide)) (tg_ne tI46 tI20 (by decide)))
    have k281 := kq235.2 _ _ k224 (orN (tg_ne tI47 tI0 (by decide)) (tg_ne tI47 tI20 (by decide)))
    have k282 := kq235.2 _ _ k225 (orN (tg_ne tI48 tI0 (by decide)) (tg_ne tI48 tI20 (by decide)))
    have fm283 : ∀ k9, k9 < 12 → qp k9 = some (pr k9) ∧ wd_at w232 (pr k9) (.inl (cy 2, 12, .inl (fp k9))) ∧ tg (pr k9) = 11000 + k9 := fun k9 hi9 => ⟨(fm226 k9 hi9).1, kq235.2 _ _ (fm226 k9 hi9).2.1 (orN (tg_ne (fm226 k9 hi9).2.2 tI0 (tqA (show 10000 < 11000 by decide))) (tg_ne (fm226 k9 hi9).2.2 tI20 (tqA (show 10124 < 11000 by decide)))), (fm226 k9 hi9).2.2⟩
    have fm284 : ∀ k9, k9 < 12 → qw k9 = some (wr k9) ∧ wd_at w232 (wr k9) (.inl (cy 2, 12, .inl (fw k9))) ∧ tg (wr k9) = 12000 + k9 := fun k9 hi9 => ⟨(fm227 k9 hi9).1, kq235.2 _ _ (fm227 k9 hi9).2.1 (orN (tg_ne (fm227 k9 hi9).2.2 tI0 (tqA (show 10000 < 12000 by decide))) (tg_ne (fm227 k9 hi9).2.2 tI20 (tqA (show 10124 < 12000 by decide)))), (fm227 k9 hi9).2.2⟩
    have fm285 : ∀ k9, k9 < 60 → qs k9 = some (sr k9) ∧ wd_at w232 (sr k9) (.inl (cy 2, 12, .inl (fs k9))) ∧ tg (sr k9) = 13000 + k9 := fun k9 hi9 => ⟨(fm228 k9 hi9).1, kq235.2 _ _ (fm228 k9 hi9).2.1 (orN (tg_ne (fm228 k9 hi9).2.2 tI0 (tqA (show 10000 < 13000 by decide))) (tg_ne (fm228 k9 hi9).2.2 tI20 (tqA (show 10124 < 13000 by decide)))), (fm228 k9 hi9).2.2⟩
    have kp286 := kp229.tr kq235 (fun b9 hm q9 => (fun q9 => Or.elim q9 (fun q9 => q9 ▸ (tgT tI0 (by decide))) (fun q9 => q9 ▸ (tgT tI20 (by decide)))) q9)
    refine W.eq (g2 := F0 m 42 ls []) rfl (W.widen (k := 0) (n := 0) (Nat.le_of_ble_eq_true rfl) (Nat.le_of_ble_eq_true rfl) ?_)
    refine lv_aload_n hx hb dX11_feed_42 rfl (lv_at hl 0 rfl) ?_
    refine x_get (ref := "NoteHouseModel") F hP k233 rfl (fun _ h => List.mem_cons_of_mem _ (List.mem_append_right _ (h))) 25 (Nat.le_of_ble_eq_true rfl) (List.mem_cons_of_mem _ (List.mem_append_left _ (List.mem_of_getElem? (i := 0) rfl))) rfl rfl dX11_feed_43 ?_
    have hX287 : IM cy tg y td pc ac sc (((((ln + 4) + 4) + 4) + 4) + 4) se plv Pm Wm av1 av2 av3 zC (ap4 (ap4 (ap4 (ap4 (ap4 tB ln x1) (ln + 4) x2) ((ln + 4) + 4) x3) (((ln + 4) + 4) + 4) x4) ((((ln + 4) + 4) + 4) + 4) x5) lb rt tT av0 sp0 sp1 pwo phd pgd pdy pno ptp co ra sh hto hpp hle ham hhh hdd hru hde hcp hld w232 := IM.mk m2 m3 m4 m5 m6 m8 m9 m10 m11 m12 m13 m14 m17 m18 m19 m20 m21 m22 m23 m24 m29 m30 m31 m32 m33 m34 m35 m36 m37 m39 m40 m41 m42 m43 m44 m45 m46 m47 m48 m49 m51 m52 m53 m54 m56 m57 m58 m59 gf v0 v26 v27 v28 v50 f4 f5 f6 f8 f9 f10 f11 f12 f13 f14 f17 f18 f19 f20 f21 f22 f29 f30 f31 f32 f33 f34 f35 f36 f37 f39 f40 f41 f42 f43 f44 f45 f46 f47 f48 f49 f51 f52 f53 f54 f56 f57 f58 f59 qp pr fp qw wr fw qs sr fs (by omega) (by omega) (by omega) (by omega) (by omega) (by omega) hrl hc ht hp hso hlo htd hmp hmw hav hzm hlb hmt0 hav0 hs0 hs1 hco hra hpp9 hsh9 k233 tI0 k236 tI1 k237 tI2 k238 tI3 k239 tI4 k240 tI5 k241 tI6 k242 tI7 k243 tI8 k244 tI9 k245 tI10 k246 tI11 k247 tI12 k248 tI13 k249 tI14 k250 tI15 k251 tI16 k252 tI17 k253 tI18 k254 tI19 k234 tI20 k255 tI21 k256 tI22 k257 tI23 k258 tI24 k259 tI25 k260 tI26 k261 tI27 k262 tI28 k263 tI29 k264 tI30 k265 tI31 k266 tI32 k267 tI33 k268 tI34 k269 tI35 k270 tI36 k271 tI37 k272 tI38 k273 tI39 k274 tI40 k275 tI41 k276 tI42 k277 tI43 k278 tI44 k279 tI45 k280 tI46 k281 tI47 k282 tI48 fm283 fm284 fm285
    exact y_ir K hP hD hS (Nat.le_of_ble_eq_true rfl) (Nat.le_of_ble_eq_true rfl) (ty := .int) rfl rfl dX11_feed_46 (by refine ⟨(congrArg (fun z => some (Value.int z)) (show nI (((((ln + 4) + 4) + 4) + 4) + 4) = feedA ln from by rw [show ((((ln + 4) + 4) + 4) + 4) + 4 = ln + 20 by omega]; simp [feedA, feedC, feedT, ap20, c_1, hrm])), ?_⟩; rw [show feedC ln = (((((ln + 4) + 4) + 4) + 4) + 4) from by rw [show ((((ln + 4) + 4) + 4) + 4) + 4 = ln + 20 by omega]; simp [feedA, feedC, feedT, ap20, c_1, hrm], show feedT tB ln x1 x2 x3 x4 x5 = ap4 (ap4 (ap4 (ap4 (ap4 tB ln x1) (ln + 4) x2) ((ln + 4) + 4) x3) (((ln + 4) + 4) + 4) x4) ((((ln + 4) + 4) + 4) + 4) x5 from by simp [feedA, feedC, feedT, ap20, c_1, hrm]]; exact ⟨kp286, hX287⟩)
  · have hrm : ¬ ln + 20 ≤ 300 := fun q => c_1 ((nI_leI (a := ln + 20) (b := 300) (by omega) (by omega)).mpr q)
    refine lv_iconst (v := (-1)) hx hb dX11_feed_13 (by decide) ?_
    exact y_ir K hP hD hS (Nat.le_of_ble_eq_true rfl) (Nat.le_of_ble_eq_true rfl) (ty := .int) rfl rfl dX11_feed_14 (by refine ⟨(congrArg (fun z => some (Value.int z)) (show (-1) = feedA ln from by simp [feedA, feedC, feedT, ap20, c_1, hrm])), ?_⟩; rw [show feedC ln = ln from by simp [feedA, feedC, feedT, ap20, c_1, hrm], show feedT tB ln x1 x2 x3 x4 x5 = tB from by simp [feedA, feedC, feedT, ap20, c_1, hrm]]; exact ⟨wd_kp.rf, hIM0⟩)
set_option maxHeartbeats 4000000 in
set_option maxRecDepth 100000 in
theorem M_end (l : Launch) (D : va_G) (cy : Nat → ClassId) (sk sv : Nat → Nat) (w : Wd) (tg : Nat → Nat) (y : Nat) (td : Int32) (pc ac sc ln : Nat) (se plv : Nat → Int32) (Pm Wm : Nat → Nat → Nat) (av1 av2 av3 : Nat → Int32) (zC : Nat → Nat → Int32) (tB lb : Nat → Int32) (rt : Nat → Nat) (tT : Nat → Nat → Nat → Int32) (av0 sp0 sp1 pwo phd pgd pdy pno ptp co ra : Nat → Int32) (sh : Nat) (hto : Nat → Nat) (hpp hle ham hhh hdd hru hde hcp hld : Nat → Int32) (x1 : Int32) (hIM0 : IM cy tg y td pc ac sc ln se plv Pm Wm av1 av2 av3 zC tB lb rt tT av0 sp0 sp1 pwo phd pgd pdy pno ptp co ra sh hto hpp hle ham hhh hdd hru hde hcp hld w) : Ct l D cy sk sv yX11_end wsX11_end ({ frames := 0, cells := 0, slots := 0, locals := 0 }) [.ref y, .int x1] w (fun v w1 => v = some (.int (endA ln x1)) ∧ MP cy tg y td pc ac sc (endC ln x1) se plv Pm Wm av1 av2 av3 zC tB lb rt tT av0 sp0 sp1 pwo phd pgd pdy pno ptp co ra sh hto hpp hle ham hhh hdd hru hde hcp hld w w1) := by
  refine Ct.by (cc := cX11_end) (maxL := 2) (ret := (some .int)) (by decide +kernel) rfl (Nat.le_of_ble_eq_true rfl) ?_
  intro p e s m args below meth c A Q F hnm K ls hl
  have F : wd_Fx p s m args meth c cX11_end 2 wsX11_end RX11 D cy sk sv A := F
  have hl : lv_has ls 2 [(0, .ref y), (1, .int x1)] := hl
  have hx := F.1.1
  have hb := F.1.2.1
  have hown := F.1.2.2.2.1
  have hts := F.1.2.2.2.2
  intro H locs hP hD hS
  have kp0 : wd_kp (fun b => 10000 ≤ tg b) w w := wd_kp.rf
  refine hIM0 _ ?_
  intro m2 m3 m4 m5 m6 m8 m9 m10 m11 m12 m13 m14 m17 m18 m19 m20 m21 m22 m23 m24 m29 m30 m31 m32 m33 m34 m35 m36 m37 m39 m40 m41 m42 m43 m44 m45 m46 m47 m48 m49 m51 m52 m53 m54 m56 m57 m58 m59 gf v0 v26 v27 v28 v50 f4 f5 f6 f8 f9 f10 f11 f12 f13 f14 f17 f18 f19 f20 f21 f22 f29 f30 f31 f32 f33 f34 f35 f36 f37 f39 f40 f41 f42 f43 f44 f45 f46 f47 f48 f49 f51 f52 f53 f54 f56 f57 f58 f59 qp pr fp qw wr fw qs sr fs hp90 hp91 hp92 hp93 hp94 hp95 hrl hc ht hp hso hlo htd hmp hmw hav hzm hlb hmt0 hav0 hs0 hs1 hco hra hpp9 hsh9 kI0 tI0 kI1 tI1 kI2 tI2 kI3 tI3 kI4 tI4 kI5 tI5 kI6 tI6 kI7 tI7 kI8 tI8 kI9 tI9 kI10 tI10 kI11 tI11 kI12 tI12 kI13 tI13 kI14 tI14 kI15 tI15 kI16 tI16 kI17 tI17 kI18 tI18 kI19 tI19 kI20 tI20 kI21 tI21 kI22 tI22 kI23 tI23 kI24 tI24 kI25 tI25 kI26 tI26 kI27 tI27 kI28 tI28 kI29 tI29 kI30 tI30 kI31 tI31 kI32 tI32 kI33 tI33 kI34 tI34 kI35 tI35 kI36 tI36 kI37 tI37 kI38 tI38 kI39 tI39 kI40 tI40 kI41 tI41 kI42 tI42 kI43 tI43 kI44 tI44 kI45 tI45 kI46 tI46 kI47 tI47 kI48 tI48 hFPR hFWR hFSR
  refine lv_iload_n hx hb dX11_end_0 rfl (lv_at hl 1 rfl) ?_
  refine lv_if_lt (tgt := 12) hx hb dX11_end_1 (by decide) (fun cA => ?_) (fun cA => ?_)
  · refine lv_iconst (v := (-1)) hx hb dX11_end_12 (by decide) ?_
    exact y_ir K hP hD hS (Nat.le_of_ble_eq_true rfl) (Nat.le_of_ble_eq_true rfl) (ty := .int) rfl rfl dX11_end_13 (by refine ⟨(congrArg (fun z => some (Value.int z)) (show (-1) = endA ln x1 from by simp [endA, endC, cA])), ?_⟩; rw [show endC ln x1 = ln from by simp [endA, endC, cA]]; exact ⟨wd_kp.rf, hIM0⟩)
  · refine lv_iload_n hx hb dX11_end_4 rfl (lv_at hl 1 rfl) ?_
    refine lv_aload_n hx hb dX11_end_5 rfl (lv_at hl 0 rfl) ?_
    refine x_get (ref := "NoteHouseModel") F hP kI0 rfl (fun _ h => List.mem_cons_of_mem _ (List.mem_append_right _ (h))) 25 (Nat.le_of_ble_eq_true rfl) (List.mem_cons_of_mem _ (List.mem_append_left _ (List.mem_of_getElem? (i := 0) rfl))) rfl rfl dX11_end_6 ?_
    refine lv_icmp_le (tgt := 14) hx hb dX11_end_9 (by decide) (fun c_1 => ?_) (fun c_1 => ?_)
    · obtain ⟨j, hj, rfl⟩ := nI_of cA
      have hjl : j ≤ ln := (nI_leI (by omega) (by omega)).mp c_1
      have clj : (nI j).toNatClampNeg = j := nI_clamp (by omega)
      refine lv_aload_n hx hb dX11_end_14 rfl (lv_at hl 0 rfl) ?_
      refine lv_iload_n hx hb dX11_end_15 rfl (lv_at hl 1 rfl) ?_
      refine y_put (ref := "NoteHouseModel") F hP hD hS kI0 rfl (fun _ h => List.mem_cons_of_mem _ (List.mem_append_right _ (h))) tyX11_ok nmX11 25 (Nat.le_of_ble_eq_true rfl) (List.mem_cons_of_mem _ (List.mem_append_left _ (List.mem_of_getElem? (i := 0) rfl))) rfl rfl rfl rfl (Nat.le_of_ble_eq_true rfl) dX11_end_16 (fun w2 ew3 H locs hP hD hS => ?_)
      have k4 : wd_at w2 y (.inr (11, [.int v0, .int td, .ref m2, .ref m3, .ref m4, .ref m5, .ref m6, .int (nI pc), .ref m8, .ref m9, .ref m10, .ref m11, .ref m12, .ref m13, .ref m14, .int (nI ac), .int (nI sc), .ref m17, .ref m18, .ref m19, .ref m20, .ref m21, .ref m22, .ref m23, .ref m24, .int (nI j), .int v26, .int v27, .int v28, .ref m29, .ref m30, .ref m31, .ref m32, .ref m33, .ref m34, .ref m35, .ref m36, .ref m37, .int (nI sh), .ref m39, .ref m40, .ref m41, .ref m42, .ref m43, .ref m44, .ref m45, .ref m46, .ref m47, .ref m48, .ref m49, .int v50, .ref m51, .ref m52, .ref m53, .ref m54, .int (nI gf), .ref m56, .ref m57, .ref m58, .ref m59])) := wd_at.ps ew3 kI0
      have k5 := wd_at.pt ew3 kI1 (tg_ne tI1 tI0 (by decide))
      have k6 := wd_at.pt ew3 kI2 (tg_ne tI2 tI0 (by decide))
      have k7 := wd_at.pt ew3 kI3 (tg_ne tI3 tI0 (by decide))
      have k8 := wd_at.pt ew3 kI4 (tg_ne tI4 tI0 (by decide))
      have k9 := wd_at.pt ew3 kI5 (tg_ne tI5 tI0 (by decide))
      have k10 := wd_at.pt ew3 kI6 (tg_ne tI6 tI0 (by decide))
      have k11 := wd_at.pt ew3 kI7 (tg_ne tI7 tI0 (by decide))
      have k12 := wd_at.pt ew3 kI8 (tg_ne tI8 tI0 (by decide))
      have k13 := wd_at.pt ew3 kI9 (tg_ne tI9 tI0 (by decide))
      have k14 := wd_at.pt ew3 kI10 (tg_ne tI10 tI0 (by decide))
      have k15 := wd_at.pt ew3 kI11 (tg_ne tI11 tI0 (by decide))
      have k16 := wd_at.pt ew3 kI12 (tg_ne tI12 tI0 (by decide))
      have k17 := wd_at.pt ew3 kI13 (tg_ne tI13 tI0 (by decide))
      have k18 := wd_at.pt ew3 kI14 (tg_ne tI14 tI0 (by decide))
      have k19 := wd_at.pt ew3 kI15 (tg_ne tI15 tI0 (by decide))
      have k20 := wd_at.pt ew3 kI16 (tg_ne tI16 tI0 (by decide))
      have k21 := wd_at.pt ew3 kI17 (tg_ne tI17 tI0 (by decide))
      have k22 := wd_at.pt ew3 kI18 (tg_ne tI18 tI0 (by decide))
      have k23 := wd_at.pt ew3 kI19 (tg_ne tI19 tI0 (by decide))
      have k24 := wd_at.pt ew3 kI20 (tg_ne tI20 tI0 (by decide))
      have k25 := wd_at.pt ew3 kI21 (tg_ne tI21 tI0 (by decide))
      have k26 := wd_at.pt ew3 kI22 (tg_ne tI22 tI0 (by decide))
      have k27 := wd_at.pt ew3 kI23 (tg_ne tI23 tI0 (by decide))
      have k28 := wd_at.pt ew3 kI24 (tg_ne tI24 tI0 (by decide))
      have k29 := wd_at.pt ew3 kI25 (tg_ne tI25 tI0 (by decide))
      have k30 := wd_at.pt ew3 kI26 (tg_ne tI26 tI0 (by decide))
      have k31 := wd_at.pt ew3 kI27 (tg_ne tI27 tI0 (by decide))
      have k32 := wd_at.pt ew3 kI28 (tg_ne tI28 tI0 (by decide))
      have k33 := wd_at.pt ew3 kI29 (tg_ne tI29 tI0 (by decide))
      have k34 := wd_at.pt ew3 kI30 (tg_ne tI30 tI0 (by decide))
      have k35 := wd_at.pt ew3 kI31 (tg_ne tI31 tI0 (by decide))
      have k36 := wd_at.pt ew3 kI32 (tg_ne tI32 tI0 (by decide))
      have k37 := wd_at.pt ew3 kI33 (tg_ne tI33 tI0 (by decide))
      have k38 := wd_at.pt ew3 kI34 (tg_ne tI34 tI0 (by decide))
      have k39 := wd_at.pt ew3 kI35 (tg_ne tI35 tI0 (by decide))
      have k40 := wd_at.pt ew3 kI36 (tg_ne tI36 tI0 (by decide))
      have k41 := wd_at.pt ew3 kI37 (tg_ne tI37 tI0 (by decide))
      have k42 := wd_at.pt ew3 kI38 (tg_ne tI38 tI0 (by decide))
      have k43 := wd_at.pt ew3 kI39 (tg_ne tI39 tI0 (by decide))
      have k44 := wd_at.pt ew3 kI40 (tg_ne tI40 tI0 (by decide))
      have k45 := wd_at.pt ew3 kI41 (tg_ne tI41 tI0 (by decide))
      have k46 := wd_at.pt ew3 kI42 (tg_ne tI42 tI0 (by decide))
      have k47 := wd_at.pt ew3 kI43 (tg_ne tI43 tI0 (by decide))
      have k48 := wd_at.pt ew3 kI44 (tg_ne tI44 tI0 (by decide))
      have k49 := wd_at.pt ew3 kI45 (tg_ne tI45 tI0 (by decide))
      have k50 := wd_at.pt ew3 kI46 (tg_ne tI46 tI0 (by decide))
      have k51 := wd_at.pt ew3 kI47 (tg_ne tI47 tI0 (by decide))
      have k52 := wd_at.pt ew3 kI48 (tg_ne tI48 tI0 (by decide))
      have fm53 : ∀ k9, k9 < 12 → qp k9 = some (pr k9) ∧ wd_at w2 (pr k9) (.inl (cy 2, 12, .inl (fp k9))) ∧ tg (pr k9) = 11000 + k9 := fun k9 hi9 => ⟨(hFPR k9 hi9).1, wd_at.pt ew3 (hFPR k9 hi9).2.1 (tg_ne (hFPR k9 hi9).2.2 tI0 (tqA (show 10000 < 11000 by decide))), (hFPR k9 hi9).2.2⟩
      have fm54 : ∀ k9, k9 < 12 → qw k9 = some (wr k9) ∧ wd_at w2 (wr k9) (.inl (cy 2, 12, .inl (fw k9))) ∧ tg (wr k9) = 12000 + k9 := fun k9 hi9 => ⟨(hFWR k9 hi9).1, wd_at.pt ew3 (hFWR k9 hi9).2.1 (tg_ne (hFWR k9 hi9).2.2 tI0 (tqA (show 10000 < 12000 by decide))), (hFWR k9 hi9).2.2⟩
      have fm55 : ∀ k9, k9 < 60 → qs k9 = some (sr k9) ∧ wd_at w2 (sr k9) (.inl (cy 2, 12, .inl (fs k9))) ∧ tg (sr k9) = 13000 + k9 := fun k9 hi9 => ⟨(hFSR k9 hi9).1, wd_at.pt ew3 (hFSR k9 hi9).2.1 (tg_ne (hFSR k9 hi9).2.2 tI0 (tqA (show 10000 < 13000 by decide))), (hFSR k9 hi9).2.2⟩
      have kp56 := kp0.put ew3 (tgT tI0 (by decide))
      refine lv_iload_n hx hb dX11_end_19 rfl (lv_at hl 1 rfl) ?_
      have hX57 : IM cy tg y td pc ac sc j se plv Pm Wm av1 av2 av3 zC tB lb rt tT av0 sp0 sp1 pwo phd pgd pdy pno ptp co ra sh hto hpp hle ham hhh hdd hru hde hcp hld w2 := IM.mk m2 m3 m4 m5 m6 m8 m9 m10 m11 m12 m13 m14 m17 m18 m19 m20 m21 m22 m23 m24 m29 m30 m31 m32 m33 m34 m35 m36 m37 m39 m40 m41 m42 m43 m44 m45 m46 m47 m48 m49 m51 m52 m53 m54 m56 m57 m58 m59 gf v0 v26 v27 v28 v50 f4 f5 f6 f8 f9 f10 f11 f12 f13 f14 f17 f18 f19 f20 f21 f22 f29 f30 f31 f32 f33 f34 f35 f36 f37 f39 f40 f41 f42 f43 f44 f45 f46 f47 f48 f49 f51 f52 f53 f54 f56 f57 f58 f59 qp pr fp qw wr fw qs sr fs (by omega) (by omega) (by omega) (by omega) (by omega) (by omega) hrl hc ht hp hso hlo htd hmp hmw hav hzm hlb hmt0 hav0 hs0 hs1 hco hra hpp9 hsh9 k4 tI0 k5 tI1 k6 tI2 k7 tI3 k8 tI4 k9 tI5 k10 tI6 k11 tI7 k12 tI8 k13 tI9 k14 tI10 k15 tI11 k16 tI12 k17 tI13 k18 tI14 k19 tI15 k20 tI16 k21 tI17 k22 tI18 k23 tI19 k24 tI20 k25 tI21 k26 tI22 k27 tI23 k28 tI24 k29 tI25 k30 tI26 k31 tI27 k32 tI28 k33 tI29 k34 tI30 k35 tI31 k36 tI32 k37 tI33 k38 tI34 k39 tI35 k40 tI36 k41 tI37 k42 tI38 k43 tI39 k44 tI40 k45 tI41 k46 tI42 k47 tI43 k48 tI44 k49 tI45 k50 tI46 k51 tI47 k52 tI48 fm53 fm54 fm55
      exact y_ir K hP hD hS (Nat.le_of_ble_eq_true rfl) (Nat.le_of_ble_eq_true rfl) (ty := .int) rfl rfl dX11_end_20 (by refine ⟨(congrArg (fun z => some (Value.int z)) (show (nI j) = endA ln (nI j) from by simp [endA, endC, cA, c_1, clj])), ?_⟩; rw [show endC ln (nI j) = j from by simp [endA, endC, cA, c_1, clj]]; exact ⟨kp56, hX57⟩)
    · refine lv_iconst (v := (-1)) hx hb dX11_end_12 (by decide) ?_
      exact y_ir K hP hD hS (Nat.le_of_ble_eq_true rfl) (Nat.le_of_ble_eq_true rfl) (ty := .int) rfl rfl dX11_end_13 (by refine ⟨(congrArg (fun z => some (Value.int z)) (show (-1) = endA ln x1 from by simp [endA, endC, cA, c_1])), ?_⟩; rw [show endC ln x1 = ln from by simp [endA, endC, cA, c_1]]; exact ⟨wd_kp.rf, hIM0⟩)
set_option maxHeartbeats 4000000 in
set_option maxRecDepth 100000 in
theorem M_send (l : Launch) (D : va_G) (cy : Nat → ClassId) (sk sv : Nat → Nat) (w : Wd) (tg : Nat → Nat) (y : Nat) (td : Int32) (pc ac sc ln : Nat) (se plv : Nat → Int32) (Pm Wm : Nat → Nat → Nat) (av1 av2 av3 : Nat → Int32) (zC : Nat → Nat → Int32) (tB lb : Nat → Int32) (rt : Nat → Nat) (tT : Nat → Nat → Nat → Int32) (av0 sp0 sp1 pwo phd pgd pdy pno ptp co ra : Nat → Int32) (sh : Nat) (hto : Nat → Nat) (hpp hle ham hhh hdd hru hde hcp hld : Nat → Int32) (x1 x2 : Int32) (hIM0 : IM cy tg y td pc ac sc ln se plv Pm Wm av1 av2 av3 zC tB lb rt tT av0 sp0 sp1 pwo phd pgd pdy pno ptp co ra sh hto hpp hle ham hhh hdd hru hde hcp hld w) : Ct l D cy sk sv yX11_send wsX11_send ({ frames := 1, cells := 0, slots := 0, locals := 22 }) [.ref y, .int x1, .int x2] w (fun v w1 => v = some (.int (sndA se x1 x2)) ∧ MP cy tg y td pc ac sc ln (sndS se x1 x2) plv Pm Wm av1 av2 av3 zC tB lb rt tT av0 sp0 sp1 pwo phd pgd pdy pno ptp co ra sh hto hpp hle ham hhh hdd hru hde hcp hld w w1) := by
  refine Ct.by (cc := cX11_send) (maxL := 3) (ret := (some .int)) (by decide +kernel) rfl (Nat.le_of_ble_eq_true rfl) ?_
  intro p e s m args below meth c A Q F hnm K ls hl
  have F : wd_Fx p s m args meth c cX11_send 3 wsX11_send RX11 D cy sk sv A := F
  have hl : lv_has ls 3 [(0, .ref y), (1, .int x1), (2, .int x2)] := hl
  have hx := F.1.1
  have hb := F.1.2.1
  have hown := F.1.2.2.2.1
  have hts := F.1.2.2.2.2
  intro H locs hP hD hS
  have kp0 : wd_kp (fun b => 10000 ≤ tg b) w w := wd_kp.rf
  refine hIM0 _ ?_
  intro m2 m3 m4 m5 m6 m8 m9 m10 m11 m12 m13 m14 m17 m18 m19 m20 m21 m22 m23 m24 m29 m30 m31 m32 m33 m34 m35 m36 m37 m39 m40 m41 m42 m43 m44 m45 m46 m47 m48 m49 m51 m52 m53 m54 m56 m57 m58 m59 gf v0 v26 v27 v28 v50 f4 f5 f6 f8 f9 f10 f11 f12 f13 f14 f17 f18 f19 f20 f21 f22 f29 f30 f31 f32 f33 f34 f35 f36 f37 f39 f40 f41 f42 f43 f44 f45 f46 f47 f48 f49 f51 f52 f53 f54 f56 f57 f58 f59 qp pr fp qw wr fw qs sr fs hp90 hp91 hp92 hp93 hp94 hp95 hrl hc ht hp hso hlo htd hmp hmw hav hzm hlb hmt0 hav0 hs0 hs1 hco hra hpp9 hsh9 kI0 tI0 kI1 tI1 kI2 tI2 kI3 tI3 kI4 tI4 kI5 tI5 kI6 tI6 kI7 tI7 kI8 tI8 kI9 tI9 kI10 tI10 kI11 tI11 kI12 tI12 kI13 tI13 kI14 tI14 kI15 tI15 kI16 tI16 kI17 tI17 kI18 tI18 kI19 tI19 kI20 tI20 kI21 tI21 kI22 tI22 kI23 tI23 kI24 tI24 kI25 tI25 kI26 tI26 kI27 tI27 kI28 tI28 kI29 tI29 kI30 tI30 kI31 tI31 kI32 tI32 kI33 tI33 kI34 tI34 kI35 tI35 kI36 tI36 kI37 tI37 kI38 tI38 kI39 tI39 kI40 tI40 kI41 tI41 kI42 tI42 kI43 tI43 kI44 tI44 kI45 tI45 kI46 tI46 kI47 tI47 kI48 tI48 hFPR hFWR hFSR
  refine lv_iload_n hx hb dX11_send_0 rfl (lv_at hl 1 rfl) ?_
  refine x_callS (n := 1) (As := [.int x1]) (rest := []) F hP hD hS (g_mTown l D cy sk sv w x1) gX11_send_X11_isTown rfl (by decide +kernel) ⟨(Nat.le_of_ble_eq_true rfl), (Nat.le_of_ble_eq_true rfl)⟩ rfl hl.1 (Nat.le_of_ble_eq_true rfl) dX11_send_1 rfl ⟨(Nat.le_of_ble_eq_true rfl), (Nat.le_of_ble_eq_true rfl)⟩ (fun v2 w3 hp1 H locs hP hD hS => ?_)
  obtain ⟨rfl, rfl⟩ := hp1
  refine W.eq (g2 := F0 m 4 ls [.int (wi x1 0 11)]) rfl (W.widen (k := 0) (n := 0) (Nat.le_of_ble_eq_true rfl) (Nat.le_of_ble_eq_true rfl) ?_)
  refine lv_if_eq (tgt := 36) hx hb dX11_send_4 (by decide) (fun c_4 => ?_) (fun c_4 => ?_)
  · refine lv_iconst (v := (-1)) hx hb dX11_send_36 (by decide) ?_
    exact y_ir K hP hD hS (Nat.le_of_ble_eq_true rfl) (Nat.le_of_ble_eq_true rfl) (ty := .int) rfl rfl dX11_send_37 (by refine ⟨(congrArg (fun z => some (Value.int z)) (show (-1) = sndA se x1 x2 from by simp [sndA, sndS, c_4])), ?_⟩; rw [show sndS se x1 x2 = se from by simp [sndA, sndS, c_4]]; exact ⟨wd_kp.rf, hIM0⟩)
  · obtain ⟨j, hj, rfl, clj⟩ := wi_t c_4
    refine lv_iload_n hx hb dX11_send_7 rfl (lv_at hl 1 rfl) ?_
    refine lv_if_eq (tgt := 36) hx hb dX11_send_8 (by decide) (fun c_5 => ?_) (fun c_5 => ?_)
    · refine lv_iconst (v := (-1)) hx hb dX11_send_36 (by decide) ?_
      exact y_ir K hP hD hS (Nat.le_of_ble_eq_true rfl) (Nat.le_of_ble_eq_true rfl) (ty := .int) rfl rfl dX11_send_37 (by refine ⟨(congrArg (fun z => some (Value.int z)) (show (-1) = sndA se (nI j) x2 from by simp [sndA, sndS, c_4, clj, c_5])), ?_⟩; rw [show sndS se (nI j) x2 = se from by simp [sndA, sndS, c_4, clj, c_5]]; exact ⟨wd_kp.rf, hIM0⟩)
    · refine lv_iload_n hx hb dX11_send_11 rfl (lv_at hl 2 rfl) ?_
      refine lv_iconst (v := 1) hx hb dX11_send_12 (by decide) ?_
      refine lv_ldcw (v := 1000000) hx hb hown (hts _ (List.mem_cons_of_mem _ (List.mem_append_left _ (List.mem_of_getElem? (i := 0) rfl)))) dX11_send_13 ?_
      refine x_callS (n := 3) (As := [.int x2, .int 1, .int 1000000]) (rest := []) F hP hD hS (g_in l D cy sk sv w x2 1 1000000) gX11_send_X11_in rfl (by decide +kernel) ⟨(Nat.le_of_ble_eq_true rfl), (Nat.le_of_ble_eq_true rfl)⟩ rfl hl.1 (Nat.le_of_ble_eq_true rfl) dX11_send_16 rfl ⟨(Nat.le_of_ble_eq_true rfl), (Nat.le_of_ble_eq_true rfl)⟩ (fun v7 w8 hp6 H locs hP hD hS => ?_)
      obtain ⟨rfl, rfl⟩ := hp6
      refine W.eq (g2 := F0 m 19 ls [.int (wi x2 1 1000000)]) rfl (W.widen (k := 0) (n := 0) (Nat.le_of_ble_eq_true rfl) (Nat.le_of_ble_eq_true rfl) ?_)
      refine lv_if_eq (tgt := 36) hx hb dX11_send_19 (by decide) (fun c_9 => ?_) (fun c_9 => ?_)
      · refine lv_iconst (v := (-1)) hx hb dX11_send_36 (by decide) ?_
        exact y_ir K hP hD hS (Nat.le_of_ble_eq_true rfl) (Nat.le_of_ble_eq_true rfl) (ty := .int) rfl rfl dX11_send_37 (by refine ⟨(congrArg (fun z => some (Value.int z)) (show (-1) = sndA se (nI j) x2 from by simp [sndA, sndS, c_4, clj, c_5, c_9])), ?_⟩; rw [show sndS se (nI j) x2 = se from by simp [sndA, sndS, c_4, clj, c_5, c_9]]; exact ⟨wd_kp.rf, hIM0⟩)
      · refine lv_aload_n hx hb dX11_send_22 rfl (lv_at hl 0 rfl) ?_
        refine x_get (ref := "NoteHouseModel") F hP kI0 rfl (fun _ h => List.mem_cons_of_mem _ (List.mem_append_right _ (h))) 49 (Nat.le_of_ble_eq_true rfl) (List.mem_cons_of_mem _ (List.mem_append_left _ (List.mem_of_getElem? (i := 1) rfl))) rfl rfl dX11_send_23 ?_
        refine lv_iload_n hx hb dX11_send_26 rfl (lv_at hl 1 rfl) ?_
        refine x_iald F hP kI40 (vp_in_nI (n := j) (N := 12) (by omega) (by decide)) dX11_send_27 ?_
        obtain ⟨ese, use, huse, euse⟩ := hso j (by omega)
        rw [nI_clamp (n := j) (by omega), ese]
        refine lv_iload_n hx hb dX11_send_28 rfl (lv_at hl 2 rfl) ?_
        refine lv_iadd hx hb dX11_send_29 ?_
        refine lv_ldcw (v := 1000000000) hx hb hown (hts _ (List.mem_cons_of_mem _ (List.mem_append_left _ (List.mem_of_getElem? (i := 2) rfl)))) dX11_send_30 ?_
        refine lv_icmp_le (tgt := 38) hx hb dX11_send_33 (by decide) (fun c_10 => ?_) (fun c_10 => ?_)
        · have hsd : se j ≤ 1000000000 - x2 := (snd_iff euse huse c_9).mp c_10
          refine lv_aload_n hx hb dX11_send_38 rfl (lv_at hl 0 rfl) ?_
          refine x_get (ref := "NoteHouseModel") F hP kI0 rfl (fun _ h => List.mem_cons_of_mem _ (List.mem_append_right _ (h))) 49 (Nat.le_of_ble_eq_true rfl) (List.mem_cons_of_mem _ (List.mem_append_left _ (List.mem_of_getElem? (i := 1) rfl))) rfl rfl dX11_send_39 ?_
          refine lv_iload_n hx hb dX11_send_42 rfl (lv_at hl 1 rfl) ?_
          refine lv_dup2_11 hx hb dX11_send_43 rfl rfl ?_
          refine x_iald F hP kI40 (vp_in_nI (n := j) (N := 12) (by omega) (by decide)) dX11_send_44 ?_
          rw [nI_clamp (n := j) (by omega), ese]
          refine lv_iload_n hx hb dX11_send_45 rfl (lv_at hl 2 rfl) ?_
          refine lv_iadd hx hb dX11_send_46 ?_
          refine y_iast F hP hD hS kI40 (vp_in_nI (n := j) (N := 12) (by omega) (by decide)) dX11_send_47 (fun w11 ew12 H locs hP hD hS => ?_)
          have k13 := wd_at.pt ew12 kI0 (tg_ne tI0 tI40 (by decide))
          have k14 := wd_at.pt ew12 kI1 (tg_ne tI1 tI40 (by decide))
          have k15 := wd_at.pt ew12 kI2 (tg_ne tI2 tI40 (by decide))
          have k16 := wd_at.pt ew12 kI3 (tg_ne tI3 tI40 (by decide))
          have k17 := wd_at.pt ew12 kI4 (tg_ne tI4 tI40 (by decide))
          have k18 := wd_at.pt ew12 kI5 (tg_ne tI5 tI40 (by decide))
          have k19 := wd_at.pt ew12 kI6 (tg_ne tI6 tI40 (by decide))
          have k20 := wd_at.pt ew12 kI7 (tg_ne tI7 tI40 (by decide))
          have k21 := wd_at.pt ew12 kI8 (tg_ne tI8 tI40 (by decide))
          have k22 := wd_at.pt ew12 kI9 (tg_ne tI9 tI40 (by decide))
          have k23 := wd_at.pt ew12 kI10 (tg_ne tI10 tI40 (by decide))
          have k24 := wd_at.pt ew12 kI11 (tg_ne tI11 tI40 (by decide))
          have k25 := wd_at.pt ew12 kI12 (tg_ne tI12 tI40 (by decide))
          have k26 := wd_at.pt ew12 kI13 (tg_ne tI13 tI40 (by decide))
          have k27 := wd_at.pt ew12 kI14 (tg_ne tI14 tI40 (by decide))
          have k28 := wd_at.pt ew12 kI15 (tg_ne tI15 tI40 (by decide))
          have k29 := wd_at.pt ew12 kI16 (tg_ne tI16 tI40 (by decide))
          have k30 := wd_at.pt ew12 kI17 (tg_ne tI17 tI40 (by decide))
          have k31 := wd_at.pt ew12 kI18 (tg_ne tI18 tI40 (by decide))
          have k32 := wd_at.pt ew12 kI19 (tg_ne tI19 tI40 (by decide))
          have k33 := wd_at.pt ew12 kI20 (tg_ne tI20 tI40 (by decide))
          have k34 := wd_at.pt ew12 kI21 (tg_ne tI21 tI40 (by decide))
          have k35 := wd_at.pt ew12 kI22 (tg_ne tI22 tI40 (by decide))
          have k36 := wd_at.pt ew12 kI23 (tg_ne tI23 tI40 (by decide))
          have k37 := wd_at.pt ew12 kI24 (tg_ne tI24 tI40 (by decide))
          have k38 := wd_at.pt ew12 kI25 (tg_ne tI25 tI40 (by decide))
          have k39 := wd_at.pt ew12 kI26 (tg_ne tI26 tI40 (by decide))
          have k40 := wd_at.pt ew12 kI27 (tg_ne tI27 tI40 (by decide))
          have k41 := wd_at.pt ew12 kI28 (tg_ne tI28 tI40 (by decide))
          have k42 := wd_at.pt ew12 kI29 (tg_ne tI29 tI40 (by decide))
          have k43 := wd_at.pt ew12 kI30 (tg_ne tI30 tI40 (by decide))
          have k44 := wd_at.pt ew12 kI31 (tg_ne tI31 tI40 (by decide))
          have k45 := wd_at.pt ew12 kI32 (tg_ne tI32 tI40 (by decide))
          have k46 := wd_at.pt ew12 kI33 (tg_ne tI33 tI40 (by decide))
          have k47 := wd_at.pt ew12 kI34 (tg_ne tI34 tI40 (by decide))
          have k48 := wd_at.pt ew12 kI35 (tg_ne tI35 tI40 (by decide))
          have k49 := wd_at.pt ew12 kI36 (tg_ne tI36 tI40 (by decide))
          have k50 := wd_at.pt ew12 kI37 (tg_ne tI37 tI40 (by decide))
          have k51 := wd_at.pt ew12 kI38 (tg_ne tI38 tI40 (by decide))
          have k52 := wd_at.pt ew12 kI39 (tg_ne tI39 tI40 (by decide))
          have k53 : wd_at w11 m49 (.inl (cy 2, 12, .inl (upd f49 (nI j).toNatClampNeg ((se j) + x2)))) := wd_at.ps ew12 kI40
          have k54 := wd_at.pt ew12 kI41 (tg_ne tI41 tI40 (by decide))
          have k55 := wd_at.pt ew12 kI42 (tg_ne tI42 tI40 (by decide))
          have k56 := wd_at.pt ew12 kI43 (tg_ne tI43 tI40 (by decide))
          have k57 := wd_at.pt ew12 kI44 (tg_ne tI44 tI40 (by decide))
          have k58 := wd_at.pt ew12 kI45 (tg_ne tI45 tI40 (by decide))
          have k59 := wd_at.pt ew12 kI46 (tg_ne tI46 tI40 (by decide))
          have k60 := wd_at.pt ew12 kI47 (tg_ne tI47 tI40 (by decide))
          have k61 := wd_at.pt ew12 kI48 (tg_ne tI48 tI40 (by decide))
          have fm62 : ∀ k9, k9 < 12 → qp k9 = some (pr k9) ∧ wd_at w11 (pr k9) (.inl (cy 2, 12, .inl (fp k9))) ∧ tg (pr k9) = 11000 + k9 := fun k9 hi9 => ⟨(hFPR k9 hi9).1, wd_at.pt ew12 (hFPR k9 hi9).2.1 (tg_ne (hFPR k9 hi9).2.2 tI40 (tqA (show 10149 < 11000 by decide))), (hFPR k9 hi9).2.2⟩
          have fm63 : ∀ k9, k9 < 12 → qw k9 = some (wr k9) ∧ wd_at w11 (wr k9) (.inl (cy 2, 12, .inl (fw k9))) ∧ tg (wr k9) = 12000 + k9 := fun k9 hi9 => ⟨(hFWR k9 hi9).1, wd_at.pt ew12 (hFWR k9 hi9).2.1 (tg_ne (hFWR k9 hi9).2.2 tI40 (tqA (show 10149 < 12000 by decide))), (hFWR k9 hi9).2.2⟩
          have fm64 : ∀ k9, k9 < 60 → qs k9 = some (sr k9) ∧ wd_at w11 (sr k9) (.inl (cy 2, 12, .inl (fs k9))) ∧ tg (sr k9) = 13000 + k9 := fun k9 hi9 => ⟨(hFSR k9 hi9).1, wd_at.pt ew12 (hFSR k9 hi9).2.1 (tg_ne (hFSR k9 hi9).2.2 tI40 (tqA (show 10149 < 13000 by decide))), (hFSR k9 hi9).2.2⟩
          have kp65 := kp0.put ew12 (tgT tI40 (by decide))
          refine lv_aload_n hx hb dX11_send_48 rfl (lv_at hl 0 rfl) ?_
          refine x_get (ref := "NoteHouseModel") F hP k13 rfl (fun _ h => List.mem_cons_of_mem _ (List.mem_append_right _ (h))) 49 (Nat.le_of_ble_eq_true rfl) (List.mem_cons_of_mem _ (List.mem_append_left _ (List.mem_of_getElem? (i := 1) rfl))) rfl rfl dX11_send_49 ?_
          refine lv_iload_n hx hb dX11_send_52 rfl (lv_at hl 1 rfl) ?_
          refine x_iald F hP k53 (vp_in_nI (n := j) (N := 12) (by omega) (by decide)) dX11_send_53 ?_
          rw [pk_us]
          have hX66 : IM cy tg y td pc ac sc ln (sndS se (nI j) x2) plv Pm Wm av1 av2 av3 zC tB lb rt tT av0 sp0 sp1 pwo phd pgd pdy pno ptp co ra sh hto hpp hle ham hhh hdd hru hde hcp hld w11 := IM.mk m2 m3 m4 m5 m6 m8 m9 m10 m11 m12 m13 m14 m17 m18 m19 m20 m21 m22 m23 m24 m29 m30 m31 m32 m33 m34 m35 m36 m37 m39 m40 m41 m42 m43 m44 m45 m46 m47 m48 m49 m51 m52 m53 m54 m56 m57 m58 m59 gf v0 v26 v27 v28 v50 f4 f5 f6 f8 f9 f10 f11 f12 f13 f14 f17 f18 f19 f20 f21 f22 f29 f30 f31 f32 f33 f34 f35 f36 f37 f39 f40 f41 f42 f43 f44 f45 f46 f47 f48 (upd f49 (nI j).toNatClampNeg ((se j) + x2)) f51 f52 f53 f54 f56 f57 f58 f59 qp pr fp qw wr fw qs sr fs (by omega) (by omega) (by omega) (by omega) (by omega) (by omega) hrl hc ht hp (by rw [show sndS se (nI j) x2 = va_up se j (se j + x2) from by simp [sndS, c_4, clj, c_5, c_9, c_10, hsd]]; exact hso.s (by omega) (snd_b euse huse c_9 c_10)) hlo htd hmp hmw hav hzm hlb hmt0 hav0 hs0 hs1 hco hra hpp9 hsh9 k13 tI0 k14 tI1 k15 tI2 k16 tI3 k17 tI4 k18 tI5 k19 tI6 k20 tI7 k21 tI8 k22 tI9 k23 tI10 k24 tI11 k25 tI12 k26 tI13 k27 tI14 k28 tI15 k29 tI16 k30 tI17 k31 tI18 k32 tI19 k33 tI20 k34 tI21 k35 tI22 k36 tI23 k37 tI24 k38 tI25 k39 tI26 k40 tI27 k41 tI28 k42 tI29 k43 tI30 k44 tI31 k45 tI32 k46 tI33 k47 tI34 k48 tI35 k49 tI36 k50 tI37 k51 tI38 k52 tI39 k53 tI40 k54 tI41 k55 tI42 k56 tI43 k57 tI44 k58 tI45 k59 tI46 k60 tI47 k61 tI48 fm62 fm63 fm64
          exact y_ir K hP hD hS (Nat.le_of_ble_eq_true rfl) (Nat.le_of_ble_eq_true rfl) (ty := .int) rfl rfl dX11_send_54 (⟨(congrArg (fun z => some (Value.int z)) (show (se j) + x2 = sndA se (nI j) x2 from by simp [sndA, sndS, c_4, clj, c_5, c_9, c_10, hsd])), ⟨kp65, hX66⟩⟩)
        · have hsd : ¬ se j ≤ 1000000000 - x2 := fun q => c_10 ((snd_iff euse huse c_9).mpr q)
          refine lv_iconst (v := (-1)) hx hb dX11_send_36 (by decide) ?_
          exact y_ir K hP hD hS (Nat.le_of_ble_eq_true rfl) (Nat.le_of_ble_eq_true rfl) (ty := .int) rfl rfl dX11_send_37 (by refine ⟨(congrArg (fun z => some (Value.int z)) (show (-1) = sndA se (nI j) x2 from by simp [sndA, sndS, c_4, clj, c_5, c_9, c_10, hsd])), ?_⟩; rw [show sndS se (nI j) x2 = se from by simp [sndA, sndS, c_4, clj, c_5, c_9, c_10, hsd]]; exact ⟨wd_kp.rf, hIM0⟩)
set_option maxHeartbeats 4000000 in
set_option maxRecDepth 100000 in
theorem M_shown (l : Launch) (D : va_G) (cy : Nat → ClassId) (sk sv : Nat → Nat) (w : Wd) (tg : Nat → Nat) (y : Nat) (td : Int32) (pc ac sc ln : Nat) (se plv : Nat → Int32) (Pm Wm : Nat → Nat → Nat) (av1 av2 av3 : Nat → Int32) (zC : Nat → Nat → Int32) (tB lb : Nat → Int32) (rt : Nat → Nat) (tT : Nat → Nat → Nat → Int32) (av0 sp0 sp1 pwo phd pgd pdy pno ptp co ra : Nat → Int32) (sh : Nat) (hto : Nat → Nat) (hpp hle ham hhh hdd hru hde hcp hld : Nat → Int32) (x1 x2 : Int32) (hIM0 : IM cy tg y td pc ac sc ln se plv Pm Wm av1 av2 av3 zC tB lb rt tT av0 sp0 sp1 pwo phd pgd pdy pno ptp co ra sh hto hpp hle ham hhh hdd hru hde hcp hld w) : Ct l D cy sk sv yX11_shown wsX11_shown ({ frames := 1, cells := 0, slots := 0, locals := 22 }) [.ref y, .int x1, .int x2] w (fun v w1 => v = some (.int (shnA sh hto hpp hle ham hde hru hcp hdd hld x1 x2)) ∧ MP cy tg y td pc ac sc ln se plv Pm Wm av1 av2 av3 zC tB lb rt tT av0 sp0 sp1 pwo phd pgd pdy pno ptp co ra sh hto hpp hle ham hhh hdd hru hde hcp hld w w1) := by
  refine Ct.by (cc := cX11_shown) (maxL := 3) (ret := (some .int)) (by decide +kernel) rfl (Nat.le_of_ble_eq_true rfl) ?_
  intro p e s m args below meth c A Q F hnm K ls hl
  have F : wd_Fx p s m args meth c cX11_shown 3 wsX11_shown RX11 D cy sk sv A := F
  have hl : lv_has ls 3 [(0, .ref y), (1, .int x1), (2, .int x2)] := hl
  have hx := F.1.1
  have hb := F.1.2.1
  have hown := F.1.2.2.2.1
  have hts := F.1.2.2.2.2
  intro H locs hP hD hS
  have kp0 : wd_kp (fun b => 10000 ≤ tg b) w w := wd_kp.rf
  refine hIM0 _ ?_
  intro m2 m3 m4 m5 m6 m8 m9 m10 m11 m12 m13 m14 m17 m18 m19 m20 m21 m22 m23 m24 m29 m30 m31 m32 m33 m34 m35 m36 m37 m39 m40 m41 m42 m43 m44 m45 m46 m47 m48 m49 m51 m52 m53 m54 m56 m57 m58 m59 gf v0 v26 v27 v28 v50 f4 f5 f6 f8 f9 f10 f11 f12 f13 f14 f17 f18 f19 f20 f21 f22 f29 f30 f31 f32 f33 f34 f35 f36 f37 f39 f40 f41 f42 f43 f44 f45 f46 f47 f48 f49 f51 f52 f53 f54 f56 f57 f58 f59 qp pr fp qw wr fw qs sr fs hp90 hp91 hp92 hp93 hp94 hp95 hrl hc ht hp hso hlo htd hmp hmw hav hzm hlb hmt0 hav0 hs0 hs1 hco hra hpp9 hsh9 kI0 tI0 kI1 tI1 kI2 tI2 kI3 tI3 kI4 tI4 kI5 tI5 kI6 tI6 kI7 tI7 kI8 tI8 kI9 tI9 kI10 tI10 kI11 tI11 kI12 tI12 kI13 tI13 kI14 tI14 kI15 tI15 kI16 tI16 kI17 tI17 kI18 tI18 kI19 tI19 kI20 tI20 kI21 tI21 kI22 tI22 kI23 tI23 kI24 tI24 kI25 tI25 kI26 tI26 kI27 tI27 kI28 tI28 kI29 tI29 kI30 tI30 kI31 tI31 kI32 tI32 kI33 tI33 kI34 tI34 kI35 tI35 kI36 tI36 kI37 tI37 kI38 tI38 kI39 tI39 kI40 tI40 kI41 tI41 kI42 tI42 kI43 tI43 kI44 tI44 kI45 tI45 kI46 tI46 kI47 tI47 kI48 tI48 hFPR hFWR hFSR
  refine lv_iload_n hx hb dX11_shown_0 rfl (lv_at hl 1 rfl) ?_
  refine lv_iconst (v := 0) hx hb dX11_shown_1 (by decide) ?_
  refine lv_aload_n hx hb dX11_shown_2 rfl (lv_at hl 0 rfl) ?_
  refine x_get (ref := "NoteHouseModel") F hP kI0 rfl (fun _ h => List.mem_cons_of_mem _ (List.mem_append_right _ (h))) 38 (Nat.le_of_ble_eq_true rfl) (List.mem_cons_of_mem _ (List.mem_append_left _ (List.mem_of_getElem? (i := 0) rfl))) rfl rfl dX11_shown_3 ?_
  refine lv_iconst (v := 1) hx hb dX11_shown_6 (by decide) ?_
  refine lv_isub hx hb dX11_shown_7 ?_
  refine x_callS (n := 3) (As := [.int x1, .int 0, .int ((nI sh) - 1)]) (rest := []) F hP hD hS (g_in l D cy sk sv w x1 0 ((nI sh) - 1)) gX11_shown_X11_in rfl (by decide +kernel) ⟨(Nat.le_of_ble_eq_true rfl), (Nat.le_of_ble_eq_true rfl)⟩ rfl hl.1 (Nat.le_of_ble_eq_true rfl) dX11_shown_8 rfl ⟨(Nat.le_of_ble_eq_true rfl), (Nat.le_of_ble_eq_true rfl)⟩ (fun v2 w3 hp1 H locs hP hD hS => ?_)
  obtain ⟨rfl, rfl⟩ := hp1
  refine W.eq (g2 := F0 m 11 ls [.int (wi x1 0 ((nI sh) - 1))]) rfl (W.widen (k := 0) (n := 0) (Nat.le_of_ble_eq_true rfl) (Nat.le_of_ble_eq_true rfl) ?_)
  refine lv_if_ne (tgt := 16) hx hb dX11_shown_11 (by decide) (fun c_4 => ?_) (fun c_4 => ?_)
  · obtain ⟨kk, hkk, rfl⟩ := pb_i (by omega) c_4
    have clkk : (nI kk).toNatClampNeg = kk := nI_clamp (by omega)
    refine lv_iload_n hx hb dX11_shown_16 rfl (lv_at hl 2 rfl) ?_
    by_cases c_5 : x2 = 0
    · refine lv_tableIn (off := 51) (tgt := 68) hx hb dX11_shown_17 (by rw [c_5]; decide) (by rw [c_5]; decide) (by rw [c_5]; decide) (by decide) ?_
      refine lv_aload_n hx hb dX11_shown_68 rfl (lv_at hl 0 rfl) ?_
      refine x_get (ref := "NoteHouseModel") F hP kI0 rfl (fun _ h => List.mem_cons_of_mem _ (List.mem_append_right _ (h))) 39 (Nat.le_of_ble_eq_true rfl) (List.mem_cons_of_mem _ (List.mem_append_left _ (List.mem_of_getElem? (i := 1) rfl))) rfl rfl dX11_shown_69 ?_
      refine lv_iload_n hx hb dX11_shown_72 rfl (lv_at hl 1 rfl) ?_
      refine x_iald F hP kI30 (vp_in_nI (n := kk) (N := 200) (by omega) (by decide)) dX11_shown_73 ?_
      rw [nI_clamp (n := kk) (by omega), (hsh9 kk hkk).1]
      exact y_ir K hP hD hS (Nat.le_of_ble_eq_true rfl) (Nat.le_of_ble_eq_true rfl) (ty := .int) rfl rfl dX11_shown_74 (⟨(congrArg (fun z => some (Value.int z)) (show nI (hto kk) = shnA sh hto hpp hle ham hde hru hcp hdd hld (nI kk) x2 from by simp [shnA, c_4, clkk, c_5])), ⟨wd_kp.rf, hIM0⟩⟩)
    by_cases c_6 : x2 = 1
    · refine lv_tableIn (off := 58) (tgt := 75) hx hb dX11_shown_17 (by rw [c_6]; decide) (by rw [c_6]; decide) (by rw [c_6]; decide) (by decide) ?_
      refine lv_aload_n hx hb dX11_shown_75 rfl (lv_at hl 0 rfl) ?_
      refine x_get (ref := "NoteHouseModel") F hP kI0 rfl (fun _ h => List.mem_cons_of_mem _ (List.mem_append_right _ (h))) 40 (Nat.le_of_ble_eq_true rfl) (List.mem_cons_of_mem _ (List.mem_append_left _ (List.mem_of_getElem? (i := 2) rfl))) rfl rfl dX11_shown_76 ?_
      refine lv_iload_n hx hb dX11_shown_79 rfl (lv_at hl 1 rfl) ?_
      refine x_iald F hP kI31 (vp_in_nI (n := kk) (N := 200) (by omega) (by decide)) dX11_shown_80 ?_
      rw [nI_clamp (n := kk) (by omega), (hsh9 kk hkk).2.1]
      exact y_ir K hP hD hS (Nat.le_of_ble_eq_true rfl) (Nat.le_of_ble_eq_true rfl) (ty := .int) rfl rfl dX11_shown_81 (⟨(congrArg (fun z => some (Value.int z)) (show hpp kk = shnA sh hto hpp hle ham hde hru hcp hdd hld (nI kk) x2 from by simp [shnA, c_4, clkk, c_5, c_6])), ⟨wd_kp.rf, hIM0⟩⟩)
    by_cases c_7 : x2 = 2
    · refine lv_tableIn (off := 65) (tgt := 82) hx hb dX11_shown_17 (by rw [c_7]; decide) (by rw [c_7]; decide) (by rw [c_7]; decide) (by decide) ?_
      refine lv_aload_n hx hb dX11_shown_82 rfl (lv_at hl 0 rfl) ?_
      refine x_get (ref := "NoteHouseModel") F hP kI0 rfl (fun _ h => List.mem_cons_of_mem _ (List.mem_append_right _ (h))) 41 (Nat.le_of_ble_eq_true rfl) (List.mem_cons_of_mem _ (List.mem_append_left _ (List.mem_of_getElem? (i := 3) rfl))) rfl rfl dX11_shown_83 ?_
      refine lv_iload_n hx hb dX11_shown_86 rfl (lv_at hl 1 rfl) ?_
      refine x_iald F hP kI32 (vp_in_nI (n := kk) (N := 200) (by omega) (by decide)) dX11_shown_87 ?_
      rw [nI_clamp (n := kk) (by omega), (hsh9 kk hkk).2.2.1]
      exact y_ir K hP hD hS (Nat.le_of_ble_eq_true rfl) (Nat.le_of_ble_eq_true rfl) (ty := .int) rfl rfl dX11_shown_88 (⟨(congrArg (fun z => some (Value.int z)) (show hle kk = shnA sh hto hpp hle ham hde hru hcp hdd hld (nI kk) x2 from by simp [shnA, c_4, clkk, c_5, c_6, c_7])), ⟨wd_kp.rf, hIM0⟩⟩)
    by_cases c_8 : x2 = 3
    · refine lv_tableIn (off := 72) (tgt := 89) hx hb dX11_shown_17 (by rw [c_8]; decide) (by rw [c_8]; decide) (by rw [c_8]; decide) (by decide) ?_
      refine lv_aload_n hx hb dX11_shown_89 rfl (lv_at hl 0 rfl) ?_
      refine x_get (ref := "NoteHouseModel") F hP kI0 rfl (fun _ h => List.mem_cons_of_mem _ (List.mem_append_right _ (h))) 42 (Nat.le_of_ble_eq_true rfl) (List.mem_cons_of_mem _ (List.mem_append_left _ (List.mem_of_getElem? (i := 4) rfl))) rfl rfl dX11_shown_90 ?_
      refine lv_iload_n hx hb dX11_shown_93 rfl (lv_at hl 1 rfl) ?_
      refine x_iald F hP kI33 (vp_in_nI (n := kk) (N := 200) (by omega) (by decide)) dX11_shown_94 ?_
      rw [nI_clamp (n := kk) (by omega), (hsh9 kk hkk).2.2.2.1]
      exact y_ir K hP hD hS (Nat.le_of_ble_eq_true rfl) (Nat.le_of_ble_eq_true rfl) (ty := .int) rfl rfl dX11_shown_95 (⟨(congrArg (fun z => some (Value.int z)) (show ham kk = shnA sh hto hpp hle ham hde hru hcp hdd hld (nI kk) x2 from by simp [shnA, c_4, clkk, c_5, c_6, c_7, c_8])), ⟨wd_kp.rf, hIM0⟩⟩)
    by_cases c_9 : x2 = 4
    · refine lv_tableIn (off := 79) (tgt := 96) hx hb dX11_shown_17 (by rw [c_9]; decide) (by rw [c_9]; decide) (by rw [c_9]; decide) (by decide) ?_
      refine lv_aload_n hx hb dX11_shown_96 rfl (lv_at hl 0 rfl) ?_
      refine x_get (ref := "NoteHouseModel") F hP kI0 rfl (fun _ h => List.mem_cons_of_mem _ (List.mem_append_right _ (h))) 44 (Nat.le_of_ble_eq_true rfl) (List.mem_cons_of_mem _ (List.mem_append_left _ (List.mem_of_getElem? (i := 5) rfl))) rfl rfl dX11_shown_97 ?_
      refine lv_iload_n hx hb dX11_shown_100 rfl (lv_at hl 1 rfl) ?_
      refine x_iald F hP kI35 (vp_in_nI (n := kk) (N := 200) (by omega) (by decide)) dX11_shown_101 ?_
      rw [nI_clamp (n := kk) (by omega), (hsh9 kk hkk).2.2.2.2.2.1]
      exact y_ir K hP hD hS (Nat.le_of_ble_eq_true rfl) (Nat.le_of_ble_eq_true rfl) (ty := .int) rfl rfl dX11_shown_102 (⟨(congrArg (fun z => some (Value.int z)) (show hde kk = shnA sh hto hpp hle ham hde hru hcp hdd hld (nI kk) x2 from by simp [shnA, c_4, clkk, c_5, c_6, c_7, c_8, c_9])), ⟨wd_kp.rf, hIM0⟩⟩)
    by_cases c_10 : x2 = 5
    · refine lv_tableIn (off := 86) (tgt := 103) hx hb dX11_shown_17 (by rw [c_10]; decide) (by rw [c_10]; decide) (by rw [c_10]; decide) (by decide) ?_
      refine lv_aload_n hx hb dX11_shown_103 rfl (lv_at hl 0 rfl) ?_
      refine x_get (ref := "NoteHouseModel") F hP kI0 rfl (fun _ h => List.mem_cons_of_mem _ (List.mem_append_right _ (h))) 45 (Nat.le_of_ble_eq_true rfl) (List.mem_cons_of_mem _ (List.mem_append_left _ (List.mem_of_getElem? (i := 6) rfl))) rfl rfl dX11_shown_104 ?_
      refine lv_iload_n hx hb dX11_shown_107 rfl (lv_at hl 1 rfl) ?_
      refine x_iald F hP kI36 (vp_in_nI (n := kk) (N := 200) (by omega) (by decide)) dX11_shown_108 ?_
      rw [nI_clamp (n := kk) (by omega), (hsh9 kk hkk).2.2.2.2.2.2.1]
      exact y_ir K hP hD hS (Nat.le_of_ble_eq_true rfl) (Nat.le_of_ble_eq_true rfl) (ty := .int) rfl rfl dX11_shown_109 (⟨(congrArg (fun z => some (Value.int z)) (show hru kk = shnA sh hto hpp hle ham hde hru hcp hdd hld (nI kk) x2 from by simp [shnA, c_4, clkk, c_5, c_6, c_7, c_8, c_9, c_10])), ⟨wd_kp.rf, hIM0⟩⟩)
    by_cases c_11 : x2 = 6
    · refine lv_tableIn (off := 93) (tgt := 110) hx hb dX11_shown_17 (by rw [c_11]; decide) (by rw [c_11]; decide) (by rw [c_11]; decide) (by decide) ?_
      refine lv_aload_n hx hb dX11_shown_110 rfl (lv_at hl 0 rfl) ?_
      refine x_get (ref := "NoteHouseModel") F hP kI0 rfl (fun _ h => List.mem_cons_of_mem _ (List.mem_append_right _ (h))) 48 (Nat.le_of_ble_eq_true rfl) (List.mem_cons_of_mem _ (List.mem_append_left _ (List.mem_of_getElem? (i := 7) rfl))) rfl rfl dX11_shown_111 ?_
      refine lv_iload_n hx hb dX11_shown_114 rfl (lv_at hl 1 rfl) ?_
      refine x_lald F hP kI39 (vp_in_nI (n := kk) (N := 200) (by omega) (by decide)) dX11_shown_115 ?_
      rw [nI_clamp (n := kk) (by omega)]
      refine lv_l2i (v := (f48 kk).toInt32) hx hb dX11_shown_116 (rfl) ?_
      exact y_ir K hP hD hS (Nat.le_of_ble_eq_true rfl) (Nat.le_of_ble_eq_true rfl) (ty := .int) rfl rfl dX11_shown_117 (⟨(congrArg (fun z => some (Value.int z)) (show (f48 kk).toInt32 = shnA sh hto hpp hle ham hde hru hcp hdd hld (nI kk) x2 from by have e9 := (hsh9 kk hkk).2.2.2.2.2.2.2.2.2.2; simp [shnA, c_4, clkk, c_5, c_6, c_7, c_8, c_9, c_10, c_11, e9])), ⟨wd_kp.rf, hIM0⟩⟩)
    by_cases c_12 : x2 = 7
    · refine lv_tableIn (off := 101) (tgt := 118) hx hb dX11_shown_17 (by rw [c_12]; decide) (by rw [c_12]; decide) (by rw [c_12]; decide) (by decide) ?_
      refine lv_aload_n hx hb dX11_shown_118 rfl (lv_at hl 0 rfl) ?_
      refine x_get (ref := "NoteHouseModel") F hP kI0 rfl (fun _ h => List.mem_cons_of_mem _ (List.mem_append_right _ (h))) 46 (Nat.le_of_ble_eq_true rfl) (List.mem_cons_of_mem _ (List.mem_append_left _ (List.mem_of_getElem? (i := 8) rfl))) rfl rfl dX11_shown_119 ?_
      refine lv_iload_n hx hb dX11_shown_122 rfl (lv_at hl 1 rfl) ?_
      refine x_iald F hP kI37 (vp_in_nI (n := kk) (N := 200) (by omega) (by decide)) dX11_shown_123 ?_
      rw [nI_clamp (n := kk) (by omega), (hsh9 kk hkk).2.2.2.2.2.2.2.1]
      exact y_ir K hP hD hS (Nat.le_of_ble_eq_true rfl) (Nat.le_of_ble_eq_true rfl) (ty := .int) rfl rfl dX11_shown_124 (⟨(congrArg (fun z => some (Value.int z)) (show hdd kk = shnA sh hto hpp hle ham hde hru hcp hdd hld (nI kk) x2 from by simp [shnA, c_4, clkk, c_5, c_6, c_7, c_8, c_9, c_10, c_11, c_12])), ⟨wd_kp.rf, hIM0⟩⟩)
    by_cases c_13 : x2 = 8
    · refine lv_tableIn (off := 108) (tgt := 125) hx hb dX11_shown_17 (by rw [c_13]; decide) (by rw [c_13]; decide) (by rw [c_13]; decide) (by decide) ?_
      refine lv_aload_n hx hb dX11_shown_125 rfl (lv_at hl 0 rfl) ?_
      refine x_get (ref := "NoteHouseModel") F hP kI0 rfl (fun _ h => List.mem_cons_of_mem _ (List.mem_append_right _ (h))) 47 (Nat.le_of_ble_eq_true rfl) (List.mem_cons_of_mem _ (List.mem_append_left _ (List.mem_of_getElem? (i := 9) rfl))) rfl rfl dX11_shown_126 ?_
      refine lv_iload_n hx hb dX11_shown_129 rfl (lv_at hl 1 rfl) ?_
      refine x_iald F hP kI38 (vp_in_nI (n := kk) (N := 200) (by omega) (by decide)) dX11_shown_130 ?_
      rw [nI_clamp (n := kk) (by omega), (hsh9 kk hkk).2.2.2.2.2.2.2.2.1]
      refine lv_ldc (v := 268435456) hx hb hown (hts _ (List.mem_cons_of_mem _ (List.mem_append_left _ (List.mem_of_getElem? (i := 10) rfl)))) dX11_shown_131 ?_
      refine lv_icmp_ne (tgt := 140) hx hb dX11_shown_133 (by decide) (fun cF => ?_) (fun cF => ?_)
      · refine lv_aload_n hx hb dX11_shown_140 rfl (lv_at hl 0 rfl) ?_
        refine x_get (ref := "NoteHouseModel") F hP kI0 rfl (fun _ h => List.mem_cons_of_mem _ (List.mem_append_right _ (h))) 47 (Nat.le_of_ble_eq_true rfl) (List.mem_cons_of_mem _ (List.mem_append_left _ (List.mem_of_getElem? (i := 9) rfl))) rfl rfl dX11_shown_141 ?_
        refine lv_iload_n hx hb dX11_shown_144 rfl (lv_at hl 1 rfl) ?_
        refine x_iald F hP kI38 (vp_in_nI (n := kk) (N := 200) (by omega) (by decide)) dX11_shown_145 ?_
        rw [nI_clamp (n := kk) (by omega), (hsh9 kk hkk).2.2.2.2.2.2.2.2.1]
        exact y_ir K hP hD hS (Nat.le_of_ble_eq_true rfl) (Nat.le_of_ble_eq_true rfl) (ty := .int) rfl rfl dX11_shown_146 (⟨(congrArg (fun z => some (Value.int z)) (show mc (hld kk) = shnA sh hto hpp hle ham hde hru hcp hdd hld (nI kk) x2 from by rw [mc_ne cF]; simp [shnA, c_4, clkk, c_5, c_6, c_7, c_8, c_9, c_10, c_11, c_12, c_13, cF])), ⟨wd_kp.rf, hIM0⟩⟩)
      · refine lv_iconst (v := (-1)) hx hb dX11_shown_136 (by decide) ?_
        refine lv_goto (tgt := 146) hx hb dX11_shown_137 (by decide) ?_
        exact y_ir K hP hD hS (Nat.le_of_ble_eq_true rfl) (Nat.le_of_ble_eq_true rfl) (ty := .int) rfl rfl dX11_shown_146 (⟨(congrArg (fun z => some (Value.int z)) (show (-1) = shnA sh hto hpp hle ham hde hru hcp hdd hld (nI kk) x2 from by have e9 := zb_mc (hsh9 kk hkk).2.2.2.2.2.2.2.2.2.1 cF; simp [shnA, c_4, clkk, c_5, c_6, c_7, c_8, c_9, c_10, c_11, c_12, c_13, cF, e9])), ⟨wd_kp.rf, hIM0⟩⟩)
    refine lv_tableOut (tgt := 147) hx hb dX11_shown_17 (by have z0 := lv_neT c_5 (show (0 : Int32).toInt = 0 by decide); have z1 := lv_neT c_6 (show (1 : Int32).toInt = 1 by decide); have z2 := lv_neT c_7 (show (2 : Int32).toInt = 2 by decide); have z3 := lv_neT c_8 (show (3 : Int32).toInt = 3 by decide); have z4 := lv_neT c_9 (show (4 : Int32).toInt = 4 by decide); have z5 := lv_neT c_10 (show (5 : Int32).toInt = 5 by decide); have z6 := lv_neT c_11 (show (6 : Int32).toInt = 6 by decide); have z7 := lv_neT c_12 (show (7 : Int32).toInt = 7 by decide); have z8 := lv_neT c_13 (show (8 : Int32).toInt = 8 by decide); omega) (by decide) ?_
    refine lv_iconst (v := (-1)) hx hb dX11_shown_147 (by decide) ?_
    exact y_ir K hP hD hS (Nat.le_of_ble_eq_true rfl) (Nat.le_of_ble_eq_true rfl) (ty := .int) rfl rfl dX11_shown_148 (⟨(congrArg (fun z => some (Value.int z)) (show (-1) = shnA sh hto hpp hle ham hde hru hcp hdd hld (nI kk) x2 from by simp [shnA, c_4, clkk, c_5, c_6, c_7, c_8, c_9, c_10, c_11, c_12, c_13])), ⟨wd_kp.rf, hIM0⟩⟩)
  · refine lv_iconst (v := (-1)) hx hb dX11_shown_14 (by decide) ?_
    exact y_ir K hP hD hS (Nat.le_of_ble_eq_true rfl) (Nat.le_of_ble_eq_true rfl) (ty := .int) rfl rfl dX11_shown_15 (⟨(congrArg (fun z => some (Value.int z)) (show (-1) = shnA sh hto hpp hle ham hde hru hcp hdd hld x1 x2 from by simp [shnA, c_4])), ⟨wd_kp.rf, hIM0⟩⟩)
set_option maxHeartbeats 4000000 in
set_option maxRecDepth 100000 in
theorem M_paper (l : Launch) (D : va_G) (cy : Nat → ClassId) (sk sv : Nat → Nat) (w : Wd) (tg : Nat → Nat) (y : Nat) (td : Int32) (pc ac sc ln : Nat) (se plv : Nat → Int32) (Pm Wm : Nat → Nat → Nat) (av1 av2 av3 : Nat → Int32) (zC : Nat → Nat → Int32) (tB lb : Nat → Int32) (rt : Nat → Nat) (tT : Nat → Nat → Nat → Int32) (av0 sp0 sp1 pwo phd pgd pdy pno ptp co ra : Nat → Int32) (sh : Nat) (hto : Nat → Nat) (hpp hle ham hhh hdd hru hde hcp hld : Nat → Int32) (x1 x2 : Int32) (hIM0 : IM cy tg y td pc ac sc ln se plv Pm Wm av1 av2 av3 zC tB lb rt tT av0 sp0 sp1 pwo phd pgd pdy pno ptp co ra sh hto hpp hle ham hhh hdd hru hde hcp hld w) : Ct l D cy sk sv yX11_paper wsX11_paper ({ frames := 1, cells := 0, slots := 0, locals := 22 }) [.ref y, .int x1, .int x2] w (fun v w1 => v = some (.int (papA pc plv pwo pdy pno ptp x1 x2)) ∧ MP cy tg y td pc ac sc ln se plv Pm Wm av1 av2 av3 zC tB lb rt tT av0 sp0 sp1 pwo phd pgd pdy pno ptp co ra sh hto hpp hle ham hhh hdd hru hde hcp hld w w1) := by
  refine Ct.by (cc := cX11_paper) (maxL := 3) (ret := (some .int)) (by decide +kernel) rfl (Nat.le_of_ble_eq_true rfl) ?_
  intro p e s m args below meth c A Q F hnm K ls hl
  have F : wd_Fx p s m args meth c cX11_paper 3 wsX11_paper RX11 D cy sk sv A := F
  have hl : lv_has ls 3 [(0, .ref y), (1, .int x1), (2, .int x2)] := hl
  have hx := F.1.1
  have hb := F.1.2.1
  have hown := F.1.2.2.2.1
  have hts := F.1.2.2.2.2
  intro H locs hP hD hS
  have kp0 : wd_kp (fun b => 10000 ≤ tg b) w w := wd_kp.rf
  refine hIM0 _ ?_
  intro m2 m3 m4 m5 m6 m8 m9 m10 m11 m12 m13 m14 m17 m18 m19 m20 m21 m22 m23 m24 m29 m30 m31 m32 m33 m34 m35 m36 m37 m39 m40 m41 m42 m43 m44 m45 m46 m47 m48 m49 m51 m52 m53 m54 m56 m57 m58 m59 gf v0 v26 v27 v28 v50 f4 f5 f6 f8 f9 f10 f11 f12 f13 f14 f17 f18 f19 f20 f21 f22 f29 f30 f31 f32 f33 f34 f35 f36 f37 f39 f40 f41 f42 f43 f44 f45 f46 f47 f48 f49 f51 f52 f53 f54 f56 f57 f58 f59 qp pr fp qw wr fw qs sr fs hp90 hp91 hp92 hp93 hp94 hp95 hrl hc ht hp hso hlo htd hmp hmw hav hzm hlb hmt0 hav0 hs0 hs1 hco hra hpp9 hsh9 kI0 tI0 kI1 tI1 kI2 tI2 kI3 tI3 kI4 tI4 kI5 tI5 kI6 tI6 kI7 tI7 kI8 tI8 kI9 tI9 kI10 tI10 kI11 tI11 kI12 tI12 kI13 tI13 kI14 tI14 kI15 tI15 kI16 tI16 kI17 tI17 kI18 tI18 kI19 tI19 kI20 tI20 kI21 tI21 kI22 tI22 kI23 tI23 kI24 tI24 kI25 tI25 kI26 tI26 kI27 tI27 kI28 tI28 kI29 tI29 kI30 tI30 kI31 tI31 kI32 tI32 kI33 tI33 kI34 tI34 kI35 tI35 kI36 tI36 kI37 tI37 kI38 tI38 kI39 tI39 kI40 tI40 kI41 tI41 kI42 tI42 kI43 tI43 kI44 tI44 kI45 tI45 kI46 tI46 kI47 tI47 kI48 tI48 hFPR hFWR hFSR
  refine lv_iload_n hx hb dX11_paper_0 rfl (lv_at hl 1 rfl) ?_
  refine lv_iconst (v := 0) hx hb dX11_paper_1 (by decide) ?_
  refine lv_aload_n hx hb dX11_paper_2 rfl (lv_at hl 0 rfl) ?_
  refine x_get (ref := "NoteHouseModel") F hP kI0 rfl (fun _ h => List.mem_cons_of_mem _ (List.mem_append_right _ (h))) 7 (Nat.le_of_ble_eq_true rfl) (List.mem_cons_of_mem _ (List.mem_append_left _ (List.mem_of_getElem? (i := 0) rfl))) rfl rfl dX11_paper_3 ?_
  refine lv_iconst (v := 1) hx hb dX11_paper_6 (by decide) ?_
  refine lv_isub hx hb dX11_paper_7 ?_
  refine x_callS (n := 3) (As := [.int x1, .int 0, .int ((nI pc) - 1)]) (rest := []) F hP hD hS (g_in l D cy sk sv w x1 0 ((nI pc) - 1)) gX11_paper_X11_in rfl (by decide +kernel) ⟨(Nat.le_of_ble_eq_true rfl), (Nat.le_of_ble_eq_true rfl)⟩ rfl hl.1 (Nat.le_of_ble_eq_true rfl) dX11_paper_8 rfl ⟨(Nat.le_of_ble_eq_true rfl), (Nat.le_of_ble_eq_true rfl)⟩ (fun v2 w3 hp1 H locs hP hD hS => ?_)
  obtain ⟨rfl, rfl⟩ := hp1
  refine W.eq (g2 := F0 m 11 ls [.int (wi x1 0 ((nI pc) - 1))]) rfl (W.widen (k := 0) (n := 0) (Nat.le_of_ble_eq_true rfl) (Nat.le_of_ble_eq_true rfl) ?_)
  refine lv_if_ne (tgt := 16) hx hb dX11_paper_11 (by decide) (fun c_4 => ?_) (fun c_4 => ?_)
  · obtain ⟨kk, hkk, rfl⟩ := pb_i (by omega) c_4
    have clkk : (nI kk).toNatClampNeg = kk := nI_clamp (by omega)
    refine lv_iload_n hx hb dX11_paper_16 rfl (lv_at hl 2 rfl) ?_
    by_cases c_5 : x2 = 0
    · refine lv_tableIn (off := 35) (tgt := 52) hx hb dX11_paper_17 (by rw [c_5]; decide) (by rw [c_5]; decide) (by rw [c_5]; decide) (by decide) ?_
      refine lv_aload_n hx hb dX11_paper_52 rfl (lv_at hl 0 rfl) ?_
      refine x_get (ref := "NoteHouseModel") F hP kI0 rfl (fun _ h => List.mem_cons_of_mem _ (List.mem_append_right _ (h))) 8 (Nat.le_of_ble_eq_true rfl) (List.mem_cons_of_mem _ (List.mem_append_left _ (List.mem_of_getElem? (i := 1) rfl))) rfl rfl dX11_paper_53 ?_
      refine lv_iload_n hx hb dX11_paper_56 rfl (lv_at hl 1 rfl) ?_
      refine x_iald F hP kI6 (vp_in_nI (n := kk) (N := 30) (by omega) (by decide)) dX11_paper_57 ?_
      rw [nI_clamp (n := kk) (by omega), (hlo kk hkk).1]
      exact y_ir K hP hD hS (Nat.le_of_ble_eq_true rfl) (Nat.le_of_ble_eq_true rfl) (ty := .int) rfl rfl dX11_paper_58 (⟨(congrArg (fun z => some (Value.int z)) (show plv kk = papA pc plv pwo pdy pno ptp (nI kk) x2 from by simp [papA, c_4, clkk, c_5])), ⟨wd_kp.rf, hIM0⟩⟩)
    by_cases c_6 : x2 = 1
    · refine lv_tableIn (off := 42) (tgt := 59) hx hb dX11_paper_17 (by rw [c_6]; decide) (by rw [c_6]; decide) (by rw [c_6]; decide) (by decide) ?_
      refine lv_aload_n hx hb dX11_paper_59 rfl (lv_at hl 0 rfl) ?_
      refine x_get (ref := "NoteHouseModel") F hP kI0 rfl (fun _ h => List.mem_cons_of_mem _ (List.mem_append_right _ (h))) 9 (Nat.le_of_ble_eq_true rfl) (List.mem_cons_of_mem _ (List.mem_append_left _ (List.mem_of_getElem? (i := 2) rfl))) rfl rfl dX11_paper_60 ?_
      refine lv_iload_n hx hb dX11_paper_63 rfl (lv_at hl 1 rfl) ?_
      refine x_iald F hP kI7 (vp_in_nI (n := kk) (N := 30) (by omega) (by decide)) dX11_paper_64 ?_
      rw [nI_clamp (n := kk) (by omega), (hpp9.1 kk hkk).1]
      exact y_ir K hP hD hS (Nat.le_of_ble_eq_true rfl) (Nat.le_of_ble_eq_true rfl) (ty := .int) rfl rfl dX11_paper_65 (⟨(congrArg (fun z => some (Value.int z)) (show pwo kk = papA pc plv pwo pdy pno ptp (nI kk) x2 from by simp [papA, c_4, clkk, c_5, c_6])), ⟨wd_kp.rf, hIM0⟩⟩)
    by_cases c_7 : x2 = 2
    · refine lv_tableIn (off := 49) (tgt := 66) hx hb dX11_paper_17 (by rw [c_7]; decide) (by rw [c_7]; decide) (by rw [c_7]; decide) (by decide) ?_
      refine lv_aload_n hx hb dX11_paper_66 rfl (lv_at hl 0 rfl) ?_
      refine x_get (ref := "NoteHouseModel") F hP kI0 rfl (fun _ h => List.mem_cons_of_mem _ (List.mem_append_right _ (h))) 11 (Nat.le_of_ble_eq_true rfl) (List.mem_cons_of_mem _ (List.mem_append_left _ (List.mem_of_getElem? (i := 3) rfl))) rfl rfl dX11_paper_67 ?_
      refine lv_iload_n hx hb dX11_paper_70 rfl (lv_at hl 1 rfl) ?_
      refine x_iald F hP kI9 (vp_in_nI (n := kk) (N := 30) (by omega) (by decide)) dX11_paper_71 ?_
      rw [nI_clamp (n := kk) (by omega), (hpp9.1 kk hkk).2.2.1]
      exact y_ir K hP hD hS (Nat.le_of_ble_eq_true rfl) (Nat.le_of_ble_eq_true rfl) (ty := .int) rfl rfl dX11_paper_72 (⟨(congrArg (fun z => some (Value.int z)) (show pdy kk = papA pc plv pwo pdy pno ptp (nI kk) x2 from by simp [papA, c_4, clkk, c_5, c_6, c_7])), ⟨wd_kp.rf, hIM0⟩⟩)
    by_cases c_8 : x2 = 3
    · refine lv_tableIn (off := 56) (tgt := 73) hx hb dX11_paper_17 (by rw [c_8]; decide) (by rw [c_8]; decide) (by rw [c_8]; decide) (by decide) ?_
      refine lv_aload_n hx hb dX11_paper_73 rfl (lv_at hl 0 rfl) ?_
      refine x_get (ref := "NoteHouseModel") F hP kI0 rfl (fun _ h => List.mem_cons_of_mem _ (List.mem_append_right _ (h))) 13 (Nat.le_of_ble_eq_true rfl) (List.mem_cons_of_mem _ (List.mem_append_left _ (List.mem_of_getElem? (i := 4) rfl))) rfl rfl dX11_paper_74 ?_
      refine lv_iload_n hx hb dX11_paper_77 rfl (lv_at hl 1 rfl) ?_
      refine x_iald F hP kI11 (vp_in_nI (n := kk) (N := 30) (by omega) (by decide)) dX11_paper_78 ?_
      rw [nI_clamp (n := kk) (by omega), (hpp9.1 kk hkk).2.2.2.2.1]
      exact y_ir K hP hD hS (Nat.le_of_ble_eq_true rfl) (Nat.le_of_ble_eq_true rfl) (ty := .int) rfl rfl dX11_paper_79 (⟨(congrArg (fun z => some (Value.int z)) (show pno kk = papA pc plv pwo pdy pno ptp (nI kk) x2 from by simp [papA, c_4, clkk, c_5, c_6, c_7, c_8])), ⟨wd_kp.rf, hIM0⟩⟩)
    by_cases c_9 : x2 = 4
    · refine lv_tableIn (off := 63) (tgt := 80) hx hb dX11_paper_17 (by rw [c_9]; decide) (by rw [c_9]; decide) (by rw [c_9]; decide) (by decide) ?_
      refine lv_aload_n hx hb dX11_paper_80 rfl (lv_at hl 0 rfl) ?_
      refine x_get (ref := "NoteHouseModel") F hP kI0 rfl (fun _ h => List.mem_cons_of_mem _ (List.mem_append_right _ (h))) 14 (Nat.le_of_ble_eq_true rfl) (List.mem_cons_of_mem _ (List.mem_append_left _ (List.mem_of_getElem? (i := 5) rfl))) rfl rfl dX11_paper_81 ?_
      refine lv_iload_n hx hb dX11_paper_84 rfl (lv_at hl 1 rfl) ?_
      refine x_iald F hP kI12 (vp_in_nI (n := kk) (N := 30) (by omega) (by decide)) dX11_paper_85 ?_
      rw [nI_clamp (n := kk) (by omega), (hpp9.1 kk hkk).2.2.2.2.2.1]
      exact y_ir K hP hD hS (Nat.le_of_ble_eq_true rfl) (Nat.le_of_ble_eq_true rfl) (ty := .int) rfl rfl dX11_paper_86 (⟨(congrArg (fun z => some (Value.int z)) (show ptp kk = papA pc plv pwo pdy pno ptp (nI kk) x2 from by simp [papA, c_4, clkk, c_5, c_6, c_7, c_8, c_9])), ⟨wd_kp.rf, hIM0⟩⟩)
    refine lv_tableOut (tgt := 87) hx hb dX11_paper_17 (by have z0 := lv_neT c_5 (show (0 : Int32).toInt = 0 by decide); have z1 := lv_neT c_6 (show (1 : Int32).toInt = 1 by decide); have z2 := lv_neT c_7 (show (2 : Int32).toInt = 2 by decide); have z3 := lv_neT c_8 (show (3 : Int32).toInt = 3 by decide); have z4 := lv_neT c_9 (show (4 : Int32).toInt = 4 by decide); omega) (by decide) ?_
    refine lv_iconst (v := (-1)) hx hb dX11_paper_87 (by decide) ?_
    exact y_ir K hP hD hS (Nat.le_of_ble_eq_true rfl) (Nat.le_of_ble_eq_true rfl) (ty := .int) rfl rfl dX11_paper_88 (⟨(congrArg (fun z => some (Value.int z)) (show (-1) = papA pc plv pwo pdy pno ptp (nI kk) x2 from by simp [papA, c_4, clkk, c_5, c_6, c_7, c_8, c_9])), ⟨wd_kp.rf, hIM0⟩⟩)
  · refine lv_iconst (v := (-1)) hx hb dX11_paper_14 (by decide) ?_
    exact y_ir K hP hD hS (Nat.le_of_ble_eq_true rfl) (Nat.le_of_ble_eq_true rfl) (ty := .int) rfl rfl dX11_paper_15 (⟨(congrArg (fun z => some (Value.int z)) (show (-1) = papA pc plv pwo pdy pno ptp x1 x2 from by simp [papA, c_4])), ⟨wd_kp.rf, hIM0⟩⟩)
set_option maxHeartbeats 4000000 in
set_option maxRecDepth 100000 in
theorem M_settled (l : Launch) (D : va_G) (cy : Nat → ClassId) (sk sv : Nat → Nat) (w : Wd) (tg : Nat → Nat) (y : Nat) (td : Int32) (pc ac sc ln : Nat) (se plv : Nat → Int32) (Pm Wm : Nat → Nat → Nat) (av1 av2 av3 : Nat → Int32) (zC : Nat → Nat → Int32) (tB lb : Nat → Int32) (rt : Nat → Nat) (tT : Nat → Nat → Nat → Int32) (av0 sp0 sp1 pwo phd pgd pdy pno ptp co ra : Nat → Int32) (sh : Nat) (hto : Nat → Nat) (hpp hle ham hhh hdd hru hde hcp hld : Nat → Int32) (x1 x2 : Int32) (hIM0 : IM cy tg y td pc ac sc ln se plv Pm Wm av1 av2 av3 zC tB lb rt tT av0 sp0 sp1 pwo phd pgd pdy pno ptp co ra sh hto hpp hle ham hhh hdd hru hde hcp hld w) : Ct l D cy sk sv yX11_settled wsX11_settled ({ frames := 1, cells := 0, slots := 0, locals := 22 }) [.ref y, .int x1, .int x2] w (fun v w1 => (∃ r : Int32, v = some (.int r)) ∧ MP cy tg y td pc ac sc ln se plv Pm Wm av1 av2 av3 zC tB lb rt tT av0 sp0 sp1 pwo phd pgd pdy pno ptp co ra sh hto hpp hle ham hhh hdd hru hde hcp hld w w1) := by
  refine Ct.by (cc := cX11_settled) (maxL := 3) (ret := (some .int)) (by decide +kernel) rfl (Nat.le_of_ble_eq_true rfl) ?_
  intro p e s m args below meth c A Q F hnm K ls hl
  have F : wd_Fx p s m args meth c cX11_settled 3 wsX11_settled RX11 D cy sk sv A := F
  have hl : lv_has ls 3 [(0, .ref y), (1, .int x1), (2, .int x2)] := hl
  have hx := F.1.1
  have hb := F.1.2.1
  have hown := F.1.2.2.2.1
  have hts := F.1.2.2.2.2
  intro H locs hP hD hS
  have kp0 : wd_kp (fun b => 10000 ≤ tg b) w w := wd_kp.rf
  refine hIM0 _ ?_
  intro m2 m3 m4 m5 m6 m8 m9 m10 m11 m12 m13 m14 m17 m18 m19 m20 m21 m22 m23 m24 m29 m30 m31 m32 m33 m34 m35 m36 m37 m39 m40 m41 m42 m43 m44 m45 m46 m47 m48 m49 m51 m52 m53 m54 m56 m57 m58 m59 gf v0 v26 v27 v28 v50 f4 f5 f6 f8 f9 f10 f11 f12 f13 f14 f17 f18 f19 f20 f21 f22 f29 f30 f31 f32 f33 f34 f35 f36 f37 f39 f40 f41 f42 f43 f44 f45 f46 f47 f48 f49 f51 f52 f53 f54 f56 f57 f58 f59 qp pr fp qw wr fw qs sr fs hp90 hp91 hp92 hp93 hp94 hp95 hrl hc ht hp hso hlo htd hmp hmw hav hzm hlb hmt0 hav0 hs0 hs1 hco hra hpp9 hsh9 kI0 tI0 kI1 tI1 kI2 tI2 kI3 tI3 kI4 tI4 kI5 tI5 kI6 tI6 kI7 tI7 kI8 tI8 kI9 tI9 kI10 tI10 kI11 tI11 kI12 tI12 kI13 tI13 kI14 tI14 kI15 tI15 kI16 tI16 kI17 tI17 kI18 tI18 kI19 tI19 kI20 tI20 kI21 tI21 kI22 tI22 kI23 tI23 kI24 tI24 kI25 tI25 kI26 tI26 kI27 tI27 kI28 tI28 kI29 tI29 kI30 tI30 kI31 tI31 kI32 tI32 kI33 tI33 kI34 tI34 kI35 tI35 kI36 tI36 kI37 tI37 kI38 tI38 kI39 tI39 kI40 tI40 kI41 tI41 kI42 tI42 kI43 tI43 kI44 tI44 kI45 tI45 kI46 tI46 kI47 tI47 kI48 tI48 hFPR hFWR hFSR
  refine lv_aload_n hx hb dX11_settled_0 rfl (lv_at hl 0 rfl) ?_
  refine x_get (ref := "NoteHouseModel") F hP kI0 rfl (fun _ h => List.mem_cons_of_mem _ (List.mem_append_right _ (h))) 50 (Nat.le_of_ble_eq_true rfl) (List.mem_cons_of_mem _ (List.mem_append_left _ (List.mem_of_getElem? (i := 0) rfl))) rfl rfl dX11_settled_1 ?_
  refine lv_if_eq (tgt := 31) hx hb dX11_settled_4 (by decide) (fun c_1 => ?_) (fun c_1 => ?_)
  · refine lv_iconst (v := (-1)) hx hb dX11_settled_31 (by decide) ?_
    exact y_ir K hP hD hS (Nat.le_of_ble_eq_true rfl) (Nat.le_of_ble_eq_true rfl) (ty := .int) rfl rfl dX11_settled_32 (⟨⟨_, rfl⟩, ⟨wd_kp.rf, hIM0⟩⟩)
  · refine lv_iload_n hx hb dX11_settled_7 rfl (lv_at hl 1 rfl) ?_
    refine lv_iconst (v := 0) hx hb dX11_settled_8 (by decide) ?_
    refine lv_aload_n hx hb dX11_settled_9 rfl (lv_at hl 0 rfl) ?_
    refine x_get (ref := "NoteHouseModel") F hP kI0 rfl (fun _ h => List.mem_cons_of_mem _ (List.mem_append_right _ (h))) 38 (Nat.le_of_ble_eq_true rfl) (List.mem_cons_of_mem _ (List.mem_append_left _ (List.mem_of_getElem? (i := 1) rfl))) rfl rfl dX11_settled_10 ?_
    refine lv_iconst (v := 1) hx hb dX11_settled_13 (by decide) ?_
    refine lv_isub hx hb dX11_settled_14 ?_
    refine x_callS (n := 3) (As := [.int x1, .int 0, .int ((nI sh) - 1)]) (rest := []) F hP hD hS (g_in l D cy sk sv w x1 0 ((nI sh) - 1)) gX11_settled_X11_in rfl (by decide +kernel) ⟨(Nat.le_of_ble_eq_true rfl), (Nat.le_of_ble_eq_true rfl)⟩ rfl hl.1 (Nat.le_of_ble_eq_true rfl) dX11_settled_15 rfl ⟨(Nat.le_of_ble_eq_true rfl), (Nat.le_of_ble_eq_true rfl)⟩ (fun v3 w4 hp2 H locs hP hD hS => ?_)
    obtain ⟨rfl, rfl⟩ := hp2
    refine W.eq (g2 := F0 m 18 ls [.int (wi x1 0 ((nI sh) - 1))]) rfl (W.widen (k := 0) (n := 0) (Nat.le_of_ble_eq_true rfl) (Nat.le_of_ble_eq_true rfl) ?_)
    refine lv_if_eq (tgt := 31) hx hb dX11_settled_18 (by decide) (fun c_5 => ?_) (fun c_5 => ?_)
    · refine lv_iconst (v := (-1)) hx hb dX11_settled_31 (by decide) ?_
      exact y_ir K hP hD hS (Nat.le_of_ble_eq_true rfl) (Nat.le_of_ble_eq_true rfl) (ty := .int) rfl rfl dX11_settled_32 (⟨⟨_, rfl⟩, ⟨wd_kp.rf, hIM0⟩⟩)
    · obtain ⟨kk, hkk, rfl⟩ := pb_i (by omega) c_5
      have clkk : (nI kk).toNatClampNeg = kk := nI_clamp (by omega)
      refine lv_aload_n hx hb dX11_settled_21 rfl (lv_at hl 0 rfl) ?_
      refine x_get (ref := "NoteHouseModel") F hP kI0 rfl (fun _ h => List.mem_cons_of_mem _ (List.mem_append_right _ (h))) 51 (Nat.le_of_ble_eq_true rfl) (List.mem_cons_of_mem _ (List.mem_append_left _ (List.mem_of_getElem? (i := 2) rfl))) rfl rfl dX11_settled_22 ?_
      refine lv_iload_n hx hb dX11_settled_25 rfl (lv_at hl 1 rfl) ?_
      refine x_iald F hP kI41 (vp_in_nI (n := kk) (N := 200) (by omega) (by decide)) dX11_settled_26 ?_
      refine lv_iconst (v := (-1)) hx hb dX11_settled_27 (by decide) ?_
      refine lv_icmp_ne (tgt := 33) hx hb dX11_settled_28 (by decide) (fun c_6 => ?_) (fun c_6 => ?_)
      · refine lv_iload_n hx hb dX11_settled_33 rfl (lv_at hl 2 rfl) ?_
        refine lv_if_ne (tgt := 46) hx hb dX11_settled_34 (by decide) (fun c_7 => ?_) (fun c_7 => ?_)
        · refine lv_iload_n hx hb dX11_settled_46 rfl (lv_at hl 2 rfl) ?_
          refine lv_iconst (v := 1) hx hb dX11_settled_47 (by decide) ?_
          refine lv_icmp_ne (tgt := 61) hx hb dX11_settled_48 (by decide) (fun c_8 => ?_) (fun c_8 => ?_)
          · refine lv_iconst (v := (-1)) hx hb dX11_settled_61 (by decide) ?_
            exact y_ir K hP hD hS (Nat.le_of_ble_eq_true rfl) (Nat.le_of_ble_eq_true rfl) (ty := .int) rfl rfl dX11_settled_62 (⟨⟨_, rfl⟩, ⟨wd_kp.rf, hIM0⟩⟩)
          · refine lv_aload_n hx hb dX11_settled_51 rfl (lv_at hl 0 rfl) ?_
            refine x_get (ref := "NoteHouseModel") F hP kI0 rfl (fun _ h => List.mem_cons_of_mem _ (List.mem_append_right _ (h))) 52 (Nat.le_of_ble_eq_true rfl) (List.mem_cons_of_mem _ (List.mem_append_left _ (List.mem_of_getElem? (i := 3) rfl))) rfl rfl dX11_settled_52 ?_
            refine lv_iload_n hx hb dX11_settled_55 rfl (lv_at hl 1 rfl) ?_
            refine x_lald F hP kI42 (vp_in_nI (n := kk) (N := 200) (by omega) (by decide)) dX11_settled_56 ?_
            refine lv_l2i (v := (f52 (nI kk).toNatClampNeg).toInt32) hx hb dX11_settled_57 (rfl) ?_
            refine lv_goto (tgt := 62) hx hb dX11_settled_58 (by decide) ?_
            exact y_ir K hP hD hS (Nat.le_of_ble_eq_true rfl) (Nat.le_of_ble_eq_true rfl) (ty := .int) rfl rfl dX11_settled_62 (⟨⟨_, rfl⟩, ⟨wd_kp.rf, hIM0⟩⟩)
        · refine lv_aload_n hx hb dX11_settled_37 rfl (lv_at hl 0 rfl) ?_
          refine x_get (ref := "NoteHouseModel") F hP kI0 rfl (fun _ h => List.mem_cons_of_mem _ (List.mem_append_right _ (h))) 51 (Nat.le_of_ble_eq_true rfl) (List.mem_cons_of_mem _ (List.mem_append_left _ (List.mem_of_getElem? (i := 2) rfl))) rfl rfl dX11_settled_38 ?_
          refine lv_iload_n hx hb dX11_settled_41 rfl (lv_at hl 1 rfl) ?_
          refine x_iald F hP kI41 (vp_in_nI (n := kk) (N := 200) (by omega) (by decide)) dX11_settled_42 ?_
          refine lv_goto (tgt := 62) hx hb dX11_settled_43 (by decide) ?_
          exact y_ir K hP hD hS (Nat.le_of_ble_eq_true rfl) (Nat.le_of_ble_eq_true rfl) (ty := .int) rfl rfl dX11_settled_62 (⟨⟨_, rfl⟩, ⟨wd_kp.rf, hIM0⟩⟩)
      · refine lv_iconst (v := (-1)) hx hb dX11_settled_31 (by decide) ?_
        exact y_ir K hP hD hS (Nat.le_of_ble_eq_true rfl) (Nat.le_of_ble_eq_true rfl) (ty := .int) rfl rfl dX11_settled_32 (⟨⟨_, rfl⟩, ⟨wd_kp.rf, hIM0⟩⟩)
set_option maxHeartbeats 4000000 in
set_option maxRecDepth 100000 in
theorem M_due (l : Launch) (D : va_G) (cy : Nat → ClassId) (sk sv : Nat → Nat) (w : Wd) (tg : Nat → Nat) (y : Nat) (td : Int32) (pc ac sc ln : Nat) (se plv : Nat → Int32) (Pm Wm : Nat → Nat → Nat) (av1 av2 av3 : Nat → Int32) (zC : Nat → Nat → Int32) (tB lb : Nat → Int32) (rt : Nat → Nat) (tT : Nat → Nat → Nat → Int32) (av0 sp0 sp1 pwo phd pgd pdy pno ptp co ra : Nat → Int32) (sh : Nat) (hto : Nat → Nat) (hpp hle ham hhh hdd hru hde hcp hld : Nat → Int32) (x1 : Int32) (hIM0 : IM cy tg y td pc ac sc ln se plv Pm Wm av1 av2 av3 zC tB lb rt tT av0 sp0 sp1 pwo phd pgd pdy pno ptp co ra sh hto hpp hle ham hhh hdd hru hde hcp hld w) : Ct l D cy sk sv yX11_due wsX11_due ({ frames := 1, cells := 0, slots := 0, locals := 20 }) [.ref y, .int x1] w (fun v w1 => (∃ r : Int64, v = some (.long r)) ∧ MP cy tg y td pc ac sc ln se plv Pm Wm av1 av2 av3 zC tB lb rt tT av0 sp0 sp1 pwo phd pgd pdy pno ptp co ra sh hto hpp hle ham hhh hdd hru hde hcp hld w w1) := by
  refine Ct.by (cc := cX11_due) (maxL := 2) (ret := (some .long)) (by decide +kernel) rfl (Nat.le_of_ble_eq_true rfl) ?_
  intro p e s m args below meth c A Q F hnm K ls hl
  have F : wd_Fx p s m args meth c cX11_due 2 wsX11_due RX11 D cy sk sv A := F
  have hl : lv_has ls 2 [(0, .ref y), (1, .int x1)] := hl
  have hx := F.1.1
  have hb := F.1.2.1
  have hown := F.1.2.2.2.1
  have hts := F.1.2.2.2.2
  intro H locs hP hD hS
  have kp0 : wd_kp (fun b => 10000 ≤ tg b) w w := wd_kp.rf
  refine hIM0 _ ?_
  intro m2 m3 m4 m5 m6 m8 m9 m10 m11 m12 m13 m14 m17 m18 m19 m20 m21 m22 m23 m24 m29 m30 m31 m32 m33 m34 m35 m36 m37 m39 m40 m41 m42 m43 m44 m45 m46 m47 m48 m49 m51 m52 m53 m54 m56 m57 m58 m59 gf v0 v26 v27 v28 v50 f4 f5 f6 f8 f9 f10 f11 f12 f13 f14 f17 f18 f19 f20 f21 f22 f29 f30 f31 f32 f33 f34 f35 f36 f37 f39 f40 f41 f42 f43 f44 f45 f46 f47 f48 f49 f51 f52 f53 f54 f56 f57 f58 f59 qp pr fp qw wr fw qs sr fs hp90 hp91 hp92 hp93 hp94 hp95 hrl hc ht hp hso hlo htd hmp hmw hav hzm hlb hmt0 hav0 hs0 hs1 hco hra hpp9 hsh9 kI0 tI0 kI1 tI1 kI2 tI2 kI3 tI3 kI4 tI4 kI5 tI5 kI6 tI6 kI7 tI7 kI8 tI8 kI9 tI9 kI10 tI10 kI11 tI11 kI12 tI12 kI13 tI13 kI14 tI14 kI15 tI15 kI16 tI16 kI17 tI17 kI18 tI18 kI19 tI19 kI20 tI20 kI21 tI21 kI22 tI22 kI23 tI23 kI24 tI24 kI25 tI25 kI26 tI26 kI27 tI27 kI28 tI28 kI29 tI29 kI30 tI30 kI31 tI31 kI32 tI32 kI33 tI33 kI34 tI34 kI35 tI35 kI36 tI36 kI37 tI37 kI38 tI38 kI39 tI39 kI40 tI40 kI41 tI41 kI42 tI42 kI43 tI43 kI44 tI44 kI45 tI45 kI46 tI46 kI47 tI47 kI48 tI48 hFPR hFWR hFSR
  refine lv_aload_n hx hb dX11_due_0 rfl (lv_at hl 0 rfl) ?_
  refine x_get (ref := "NoteHouseModel") F hP kI0 rfl (fun _ h => List.mem_cons_of_mem _ (List.mem_append_right _ (h))) 50 (Nat.le_of_ble_eq_true rfl) (List.mem_cons_of_mem _ (List.mem_append_left _ (List.mem_of_getElem? (i := 0) rfl))) rfl rfl dX11_due_1 ?_
  refine lv_if_eq (tgt := 23) hx hb dX11_due_4 (by decide) (fun c_1 => ?_) (fun c_1 => ?_)
  · refine lv_lconst (v := 0) hx hb dX11_due_23 (by decide) ?_
    exact y_lr K hP hD hS (Nat.le_of_ble_eq_true rfl) (Nat.le_of_ble_eq_true rfl) rfl dX11_due_24 (⟨⟨_, rfl⟩, ⟨wd_kp.rf, hIM0⟩⟩)
  · refine lv_iload_n hx hb dX11_due_7 rfl (lv_at hl 1 rfl) ?_
    refine x_callS (n := 1) (As := [.int x1]) (rest := []) F hP hD hS (g_mTown l D cy sk sv w x1) gX11_due_X11_isTown rfl (by decide +kernel) ⟨(Nat.le_of_ble_eq_true rfl), (Nat.le_of_ble_eq_true rfl)⟩ rfl hl.1 (Nat.le_of_ble_eq_true rfl) dX11_due_8 rfl ⟨(Nat.le_of_ble_eq_true rfl), (Nat.le_of_ble_eq_true rfl)⟩ (fun v3 w4 hp2 H locs hP hD hS => ?_)
    obtain ⟨rfl, rfl⟩ := hp2
    refine W.eq (g2 := F0 m 11 ls [.int (wi x1 0 11)]) rfl (W.widen (k := 0) (n := 0) (Nat.le_of_ble_eq_true rfl) (Nat.le_of_ble_eq_true rfl) ?_)
    refine lv_if_eq (tgt := 23) hx hb dX11_due_11 (by decide) (fun c_5 => ?_) (fun c_5 => ?_)
    · refine lv_lconst (v := 0) hx hb dX11_due_23 (by decide) ?_
      exact y_lr K hP hD hS (Nat.le_of_ble_eq_true rfl) (Nat.le_of_ble_eq_true rfl) rfl dX11_due_24 (⟨⟨_, rfl⟩, ⟨wd_kp.rf, hIM0⟩⟩)
    · obtain ⟨t, ht, rfl, clt⟩ := wi_t c_5
      refine lv_aload_n hx hb dX11_due_14 rfl (lv_at hl 0 rfl) ?_
      refine x_get (ref := "NoteHouseModel") F hP kI0 rfl (fun _ h => List.mem_cons_of_mem _ (List.mem_append_right _ (h))) 53 (Nat.le_of_ble_eq_true rfl) (List.mem_cons_of_mem _ (List.mem_append_left _ (List.mem_of_getElem? (i := 1) rfl))) rfl rfl dX11_due_15 ?_
      refine lv_iload_n hx hb dX11_due_18 rfl (lv_at hl 1 rfl) ?_
      refine x_lald F hP kI43 (vp_in_nI (n := t) (N := 12) (by omega) (by decide)) dX11_due_19 ?_
      refine lv_goto (tgt := 24) hx hb dX11_due_20 (by decide) ?_
      exact y_lr K hP hD hS (Nat.le_of_ble_eq_true rfl) (Nat.le_of_ble_eq_true rfl) rfl dX11_due_24 (⟨⟨_, rfl⟩, ⟨wd_kp.rf, hIM0⟩⟩)
set_option maxHeartbeats 4000000 in
set_option maxRecDepth 100000 in
theorem M_netted (l : Launch) (D : va_G) (cy : Nat → ClassId) (sk sv : Nat → Nat) (w : Wd) (tg : Nat → Nat) (y : Nat) (td : Int32) (pc ac sc ln : Nat) (se plv : Nat → Int32) (Pm Wm : Nat → Nat → Nat) (av1 av2 av3 : Nat → Int32) (zC : Nat → Nat → Int32) (tB lb : Nat → Int32) (rt : Nat → Nat) (tT : Nat → Nat → Nat → Int32) (av0 sp0 sp1 pwo phd pgd pdy pno ptp co ra : Nat → Int32) (sh : Nat) (hto : Nat → Nat) (hpp hle ham hhh hdd hru hde hcp hld : Nat → Int32) (x1 x2 : Int32) (hIM0 : IM cy tg y td pc ac sc ln se plv Pm Wm av1 av2 av3 zC tB lb rt tT av0 sp0 sp1 pwo phd pgd pdy pno ptp co ra sh hto hpp hle ham hhh hdd hru hde hcp hld w) : Ct l D cy sk sv yX11_netted wsX11_netted ({ frames := 1, cells := 0, slots := 0, locals := 22 }) [.ref y, .int x1, .int x2] w (fun v w1 => (∃ r : Int64, v = some (.long r)) ∧ MP cy tg y td pc ac sc ln se plv Pm Wm av1 av2 av3 zC tB lb rt tT av0 sp0 sp1 pwo phd pgd pdy pno ptp co ra sh hto hpp hle ham hhh hdd hru hde hcp hld w w1) := by
  refine Ct.by (cc := cX11_netted) (maxL := 3) (ret := (some .long)) (by decide +kernel) rfl (Nat.le_of_ble_eq_true rfl) ?_
  intro p e s m args below meth c A Q F hnm K ls hl
  have F : wd_Fx p s m args meth c cX11_netted 3 wsX11_netted RX11 D cy sk sv A := F
  have hl : lv_has ls 3 [(0, .ref y), (1, .int x1), (2, .int x2)] := hl
  have hx := F.1.1
  have hb := F.1.2.1
  have hown := F.1.2.2.2.1
  have hts := F.1.2.2.2.2
  intro H locs hP hD hS
  have kp0 : wd_kp (fun b => 10000 ≤ tg b) w w := wd_kp.rf
  refine hIM0 _ ?_
  intro m2 m3 m4 m5 m6 m8 m9 m10 m11 m12 m13 m14 m17 m18 m19 m20 m21 m22 m23 m24 m29 m30 m31 m32 m33 m34 m35 m36 m37 m39 m40 m41 m42 m43 m44 m45 m46 m47 m48 m49 m51 m52 m53 m54 m56 m57 m58 m59 gf v0 v26 v27 v28 v50 f4 f5 f6 f8 f9 f10 f11 f12 f13 f14 f17 f18 f19 f20 f21 f22 f29 f30 f31 f32 f33 f34 f35 f36 f37 f39 f40 f41 f42 f43 f44 f45 f46 f47 f48 f49 f51 f52 f53 f54 f56 f57 f58 f59 qp pr fp qw wr fw qs sr fs hp90 hp91 hp92 hp93 hp94 hp95 hrl hc ht hp hso hlo htd hmp hmw hav hzm hlb hmt0 hav0 hs0 hs1 hco hra hpp9 hsh9 kI0 tI0 kI1 tI1 kI2 tI2 kI3 tI3 kI4 tI4 kI5 tI5 kI6 tI6 kI7 tI7 kI8 tI8 kI9 tI9 kI10 tI10 kI11 tI11 kI12 tI12 kI13 tI13 kI14 tI14 kI15 tI15 kI16 tI16 kI17 tI17 kI18 tI18 kI19 tI19 kI20 tI20 kI21 tI21 kI22 tI22 kI23 tI23 kI24 tI24 kI25 tI25 kI26 tI26 kI27 tI27 kI28 tI28 kI29 tI29 kI30 tI30 kI31 tI31 kI32 tI32 kI33 tI33 kI34 tI34 kI35 tI35 kI36 tI36 kI37 tI37 kI38 tI38 kI39 tI39 kI40 tI40 kI41 tI41 kI42 tI42 kI43 tI43 kI44 tI44 kI45 tI45 kI46 tI46 kI47 tI47 kI48 tI48 hFPR hFWR hFSR
  refine lv_iload_n hx hb dX11_netted_0 rfl (lv_at hl 1 rfl) ?_
  refine lv_iconst (v := 0) hx hb dX11_netted_1 (by decide) ?_
  refine lv_aload_n hx hb dX11_netted_2 rfl (lv_at hl 0 rfl) ?_
  refine x_get (ref := "NoteHouseModel") F hP kI0 rfl (fun _ h => List.mem_cons_of_mem _ (List.mem_append_right _ (h))) 55 (Nat.le_of_ble_eq_true rfl) (List.mem_cons_of_mem _ (List.mem_append_left _ (List.mem_of_getElem? (i := 0) rfl))) rfl rfl dX11_netted_3 ?_
  refine lv_iconst (v := 1) hx hb dX11_netted_6 (by decide) ?_
  refine lv_isub hx hb dX11_netted_7 ?_
  refine x_callS (n := 3) (As := [.int x1, .int 0, .int ((nI gf) - 1)]) (rest := []) F hP hD hS (g_in l D cy sk sv w x1 0 ((nI gf) - 1)) gX11_netted_X11_in rfl (by decide +kernel) ⟨(Nat.le_of_ble_eq_true rfl), (Nat.le_of_ble_eq_true rfl)⟩ rfl hl.1 (Nat.le_of_ble_eq_true rfl) dX11_netted_8 rfl ⟨(Nat.le_of_ble_eq_true rfl), (Nat.le_of_ble_eq_true rfl)⟩ (fun v2 w3 hp1 H locs hP hD hS => ?_)
  obtain ⟨rfl, rfl⟩ := hp1
  refine W.eq (g2 := F0 m 11 ls [.int (wi x1 0 ((nI gf) - 1))]) rfl (W.widen (k := 0) (n := 0) (Nat.le_of_ble_eq_true rfl) (Nat.le_of_ble_eq_true rfl) ?_)
  refine lv_if_ne (tgt := 18) hx hb dX11_netted_11 (by decide) (fun c_4 => ?_) (fun c_4 => ?_)
  · obtain ⟨kk, hkk, rfl⟩ := pb_i (by omega) c_4
    have clkk : (nI kk).toNatClampNeg = kk := nI_clamp (by omega)
    refine lv_iload_n hx hb dX11_netted_18 rfl (lv_at hl 2 rfl) ?_
    by_cases c_5 : x2 = 0
    · refine lv_tableIn (off := 29) (tgt := 48) hx hb dX11_netted_19 (by rw [c_5]; decide) (by rw [c_5]; decide) (by rw [c_5]; decide) (by decide) ?_
      refine lv_aload_n hx hb dX11_netted_48 rfl (lv_at hl 0 rfl) ?_
      refine x_get (ref := "NoteHouseModel") F hP kI0 rfl (fun _ h => List.mem_cons_of_mem _ (List.mem_append_right _ (h))) 56 (Nat.le_of_ble_eq_true rfl) (List.mem_cons_of_mem _ (List.mem_append_left _ (List.mem_of_getElem? (i := 2) rfl))) rfl rfl dX11_netted_49 ?_
      refine lv_iload_n hx hb dX11_netted_52 rfl (lv_at hl 1 rfl) ?_
      refine x_iald F hP kI45 (vp_in_nI (n := kk) (N := 60) (by omega) (by decide)) dX11_netted_53 ?_
      refine lv_i2l (v := (f56 (nI kk).toNatClampNeg).toInt64) hx hb dX11_netted_54 (rfl) ?_
      exact y_lr K hP hD hS (Nat.le_of_ble_eq_true rfl) (Nat.le_of_ble_eq_true rfl) rfl dX11_netted_55 (⟨⟨_, rfl⟩, ⟨wd_kp.rf, hIM0⟩⟩)
    by_cases c_6 : x2 = 1
    · refine lv_tableIn (off := 37) (tgt := 56) hx hb dX11_netted_19 (by rw [c_6]; decide) (by rw [c_6]; decide) (by rw [c_6]; decide) (by decide) ?_
      refine lv_aload_n hx hb dX11_netted_56 rfl (lv_at hl 0 rfl) ?_
      refine x_get (ref := "NoteHouseModel") F hP kI0 rfl (fun _ h => List.mem_cons_of_mem _ (List.mem_append_right _ (h))) 57 (Nat.le_of_ble_eq_true rfl) (List.mem_cons_of_mem _ (List.mem_append_left _ (List.mem_of_getElem? (i := 3) rfl))) rfl rfl dX11_netted_57 ?_
      refine lv_iload_n hx hb dX11_netted_60 rfl (lv_at hl 1 rfl) ?_
      refine x_iald F hP kI46 (vp_in_nI (n := kk) (N := 60) (by omega) (by decide)) dX11_netted_61 ?_
      refine lv_i2l (v := (f57 (nI kk).toNatClampNeg).toInt64) hx hb dX11_netted_62 (rfl) ?_
      exact y_lr K hP hD hS (Nat.le_of_ble_eq_true rfl) (Nat.le_of_ble_eq_true rfl) rfl dX11_netted_63 (⟨⟨_, rfl⟩, ⟨wd_kp.rf, hIM0⟩⟩)
    by_cases c_7 : x2 = 2
    · refine lv_tableIn (off := 45) (tgt := 64) hx hb dX11_netted_19 (by rw [c_7]; decide) (by rw [c_7]; decide) (by rw [c_7]; decide) (by decide) ?_
      refine lv_aload_n hx hb dX11_netted_64 rfl (lv_at hl 0 rfl) ?_
      refine x_get (ref := "NoteHouseModel") F hP kI0 rfl (fun _ h => List.mem_cons_of_mem _ (List.mem_append_right _ (h))) 59 (Nat.le_of_ble_eq_true rfl) (List.mem_cons_of_mem _ (List.mem_append_left _ (List.mem_of_getElem? (i := 4) rfl))) rfl rfl dX11_netted_65 ?_
      refine lv_iload_n hx hb dX11_netted_68 rfl (lv_at hl 1 rfl) ?_
      refine x_lald F hP kI48 (vp_in_nI (n := kk) (N := 60) (by omega) (by decide)) dX11_netted_69 ?_
      exact y_lr K hP hD hS (Nat.le_of_ble_eq_true rfl) (Nat.le_of_ble_eq_true rfl) rfl dX11_netted_70 (⟨⟨_, rfl⟩, ⟨wd_kp.rf, hIM0⟩⟩)
    by_cases c_8 : x2 = 3
    · refine lv_tableIn (off := 52) (tgt := 71) hx hb dX11_netted_19 (by rw [c_8]; decide) (by rw [c_8]; decide) (by rw [c_8]; decide) (by decide) ?_
      refine lv_aload_n hx hb dX11_netted_71 rfl (lv_at hl 0 rfl) ?_
      refine x_get (ref := "NoteHouseModel") F hP kI0 rfl (fun _ h => List.mem_cons_of_mem _ (List.mem_append_right _ (h))) 58 (Nat.le_of_ble_eq_true rfl) (List.mem_cons_of_mem _ (List.mem_append_left _ (List.mem_of_getElem? (i := 5) rfl))) rfl rfl dX11_netted_72 ?_
      refine lv_iload_n hx hb dX11_netted_75 rfl (lv_at hl 1 rfl) ?_
      refine x_iald F hP kI47 (vp_in_nI (n := kk) (N := 60) (by omega) (by decide)) dX11_netted_76 ?_
      refine lv_i2l (v := (f58 (nI kk).toNatClampNeg).toInt64) hx hb dX11_netted_77 (rfl) ?_
      exact y_lr K hP hD hS (Nat.le_of_ble_eq_true rfl) (Nat.le_of_ble_eq_true rfl) rfl dX11_netted_78 (⟨⟨_, rfl⟩, ⟨wd_kp.rf, hIM0⟩⟩)
    refine lv_tableOut (tgt := 79) hx hb dX11_netted_19 (by have z0 := lv_neT c_5 (show (0 : Int32).toInt = 0 by decide); have z1 := lv_neT c_6 (show (1 : Int32).toInt = 1 by decide); have z2 := lv_neT c_7 (show (2 : Int32).toInt = 2 by decide); have z3 := lv_neT c_8 (show (3 : Int32).toInt = 3 by decide); omega) (by decide) ?_
    refine lv_ldc2 (v := (-1)) hx hb hown (hts _ (List.mem_cons_of_mem _ (List.mem_append_left _ (List.mem_of_getElem? (i := 1) rfl)))) dX11_netted_79 ?_
    exact y_lr K hP hD hS (Nat.le_of_ble_eq_true rfl) (Nat.le_of_ble_eq_true rfl) rfl dX11_netted_82 (⟨⟨_, rfl⟩, ⟨wd_kp.rf, hIM0⟩⟩)
  · refine lv_ldc2 (v := (-1)) hx hb hown (hts _ (List.mem_cons_of_mem _ (List.mem_append_left _ (List.mem_of_getElem? (i := 1) rfl)))) dX11_netted_14 ?_
    exact y_lr K hP hD hS (Nat.le_of_ble_eq_true rfl) (Nat.le_of_ble_eq_true rfl) rfl dX11_netted_17 (⟨⟨_, rfl⟩, ⟨wd_kp.rf, hIM0⟩⟩)
set_option maxHeartbeats 4000000 in
set_option maxRecDepth 100000 in
theorem M_count (l : Launch) (D : va_G) (cy : Nat → ClassId) (sk sv : Nat → Nat) (w : Wd) (tg : Nat → Nat) (y : Nat) (td : Int32) (pc ac sc ln : Nat) (se plv : Nat → Int32) (Pm Wm : Nat → Nat → Nat) (av1 av2 av3 : Nat → Int32) (zC : Nat → Nat → Int32) (tB lb : Nat → Int32) (rt : Nat → Nat) (tT : Nat → Nat → Nat → Int32) (av0 sp0 sp1 pwo phd pgd pdy pno ptp co ra : Nat → Int32) (sh : Nat) (hto : Nat → Nat) (hpp hle ham hhh hdd hru hde hcp hld : Nat → Int32) (x1 : Int32) (hIM0 : IM cy tg y td pc ac sc ln se plv Pm Wm av1 av2 av3 zC tB lb rt tT av0 sp0 sp1 pwo phd pgd pdy pno ptp co ra sh hto hpp hle ham hhh hdd hru hde hcp hld w) : Ct l D cy sk sv yX11_count wsX11_count ({ frames := 1, cells := 0, slots := 0, locals := 22 }) [.ref y, .int x1] w (fun v w1 => (∃ r : Int32, v = some (.int r)) ∧ MP cy tg y td pc ac sc ln se plv Pm Wm av1 av2 av3 zC tB lb rt tT av0 sp0 sp1 pwo phd pgd pdy pno ptp co ra sh hto hpp hle ham hhh hdd hru hde hcp hld w w1) := by
  refine Ct.by (cc := cX11_count) (maxL := 2) (ret := (some .int)) (by decide +kernel) rfl (Nat.le_of_ble_eq_true rfl) ?_
  intro p e s m args below meth c A Q F hnm K ls hl
  have F : wd_Fx p s m args meth c cX11_count 2 wsX11_count RX11 D cy sk sv A := F
  have hl : lv_has ls 2 [(0, .ref y), (1, .int x1)] := hl
  have hx := F.1.1
  have hb := F.1.2.1
  have hown := F.1.2.2.2.1
  have hts := F.1.2.2.2.2
  intro H locs hP hD hS
  have kp0 : wd_kp (fun b => 10000 ≤ tg b) w w := wd_kp.rf
  refine hIM0 _ ?_
  intro m2 m3 m4 m5 m6 m8 m9 m10 m11 m12 m13 m14 m17 m18 m19 m20 m21 m22 m23 m24 m29 m30 m31 m32 m33 m34 m35 m36 m37 m39 m40 m41 m42 m43 m44 m45 m46 m47 m48 m49 m51 m52 m53 m54 m56 m57 m58 m59 gf v0 v26 v27 v28 v50 f4 f5 f6 f8 f9 f10 f11 f12 f13 f14 f17 f18 f19 f20 f21 f22 f29 f30 f31 f32 f33 f34 f35 f36 f37 f39 f40 f41 f42 f43 f44 f45 f46 f47 f48 f49 f51 f52 f53 f54 f56 f57 f58 f59 qp pr fp qw wr fw qs sr fs hp90 hp91 hp92 hp93 hp94 hp95 hrl hc ht hp hso hlo htd hmp hmw hav hzm hlb hmt0 hav0 hs0 hs1 hco hra hpp9 hsh9 kI0 tI0 kI1 tI1 kI2 tI2 kI3 tI3 kI4 tI4 kI5 tI5 kI6 tI6 kI7 tI7 kI8 tI8 kI9 tI9 kI10 tI10 kI11 tI11 kI12 tI12 kI13 tI13 kI14 tI14 kI15 tI15 kI16 tI16 kI17 tI17 kI18 tI18 kI19 tI19 kI20 tI20 kI21 tI21 kI22 tI22 kI23 tI23 kI24 tI24 kI25 tI25 kI26 tI26 kI27 tI27 kI28 tI28 kI29 tI29 kI30 tI30 kI31 tI31 kI32 tI32 kI33 tI33 kI34 tI34 kI35 tI35 kI36 tI36 kI37 tI37 kI38 tI38 kI39 tI39 kI40 tI40 kI41 tI41 kI42 tI42 kI43 tI43 kI44 tI44 kI45 tI45 kI46 tI46 kI47 tI47 kI48 tI48 hFPR hFWR hFSR
  refine lv_iload_n hx hb dX11_count_0 rfl (lv_at hl 1 rfl) ?_
  refine lv_bipush (v := 10) hx hb dX11_count_1 (by decide) ?_
  refine lv_bipush (v := 21) hx hb dX11_count_3 (by decide) ?_
  refine x_callS (n := 3) (As := [.int x1, .int 10, .int 21]) (rest := []) F hP hD hS (g_in l D cy sk sv w x1 10 21) gX11_count_X11_in rfl (by decide +kernel) ⟨(Nat.le_of_ble_eq_true rfl), (Nat.le_of_ble_eq_true rfl)⟩ rfl hl.1 (Nat.le_of_ble_eq_true rfl) dX11_count_5 rfl ⟨(Nat.le_of_ble_eq_true rfl), (Nat.le_of_ble_eq_true rfl)⟩ (fun v2 w3 hp1 H locs hP hD hS => ?_)
  obtain ⟨rfl, rfl⟩ := hp1
  refine W.eq (g2 := F0 m 8 ls [.int (wi x1 10 21)]) rfl (W.widen (k := 0) (n := 0) (Nat.le_of_ble_eq_true rfl) (Nat.le_of_ble_eq_true rfl) ?_)
  refine lv_if_eq (tgt := 21) hx hb dX11_count_8 (by decide) (fun c_4 => ?_) (fun c_4 => ?_)
  · refine lv_iload_n hx hb dX11_count_21 rfl (lv_at hl 1 rfl) ?_
    refine lv_bipush (v := 30) hx hb dX11_count_22 (by decide) ?_
    refine lv_bipush (v := 34) hx hb dX11_count_24 (by decide) ?_
    refine x_callS (n := 3) (As := [.int x1, .int 30, .int 34]) (rest := []) F hP hD hS (g_in l D cy sk sv w x1 30 34) gX11_count_X11_in rfl (by decide +kernel) ⟨(Nat.le_of_ble_eq_true rfl), (Nat.le_of_ble_eq_true rfl)⟩ rfl hl.1 (Nat.le_of_ble_eq_true rfl) dX11_count_26 rfl ⟨(Nat.le_of_ble_eq_true rfl), (Nat.le_of_ble_eq_true rfl)⟩ (fun v6 w7 hp5 H locs hP hD hS => ?_)
    obtain ⟨rfl, rfl⟩ := hp5
    refine W.eq (g2 := F0 m 29 ls [.int (wi x1 30 34)]) rfl (W.widen (k := 0) (n := 0) (Nat.le_of_ble_eq_true rfl) (Nat.le_of_ble_eq_true rfl) ?_)
    refine lv_if_eq (tgt := 42) hx hb dX11_count_29 (by decide) (fun c_8 => ?_) (fun c_8 => ?_)
    · refine lv_iload_n hx hb dX11_count_42 rfl (lv_at hl 1 rfl) ?_
      by_cases c_9 : x1 = 0
      · refine lv_tableIn (off := 41) (tgt := 84) hx hb dX11_count_43 (by rw [c_9]; decide) (by rw [c_9]; decide) (by rw [c_9]; decide) (by decide) ?_
        refine lv_aload_n hx hb dX11_count_84 rfl (lv_at hl 0 rfl) ?_
        refine x_get (ref := "NoteHouseModel") F hP kI0 rfl (fun _ h => List.mem_cons_of_mem _ (List.mem_append_right _ (h))) 1 (Nat.le_of_ble_eq_true rfl) (List.mem_cons_of_mem _ (List.mem_append_left _ (List.mem_of_getElem? (i := 2) rfl))) rfl rfl dX11_count_85 ?_
        exact y_ir K hP hD hS (Nat.le_of_ble_eq_true rfl) (Nat.le_of_ble_eq_true rfl) (ty := .int) rfl rfl dX11_count_88 (⟨⟨_, rfl⟩, ⟨wd_kp.rf, hIM0⟩⟩)
      by_cases c_10 : x1 = 1
      · refine lv_tableIn (off := 46) (tgt := 89) hx hb dX11_count_43 (by rw [c_10]; decide) (by rw [c_10]; decide) (by rw [c_10]; decide) (by decide) ?_
        refine lv_aload_n hx hb dX11_count_89 rfl (lv_at hl 0 rfl) ?_
        refine x_get (ref := "NoteHouseModel") F hP kI0 rfl (fun _ h => List.mem_cons_of_mem _ (List.mem_append_right _ (h))) 7 (Nat.le_of_ble_eq_true rfl) (List.mem_cons_of_mem _ (List.mem_append_left _ (List.mem_of_getElem? (i := 3) rfl))) rfl rfl dX11_count_90 ?_
        exact y_ir K hP hD hS (Nat.le_of_ble_eq_true rfl) (Nat.le_of_ble_eq_true rfl) (ty := .int) rfl rfl dX11_count_93 (⟨⟨_, rfl⟩, ⟨wd_kp.rf, hIM0⟩⟩)
      by_cases c_11 : x1 = 2
      · refine lv_tableIn (off := 51) (tgt := 94) hx hb dX11_count_43 (by rw [c_11]; decide) (by rw [c_11]; decide) (by rw [c_11]; decide) (by decide) ?_
        refine lv_aload_n hx hb dX11_count_94 rfl (lv_at hl 0 rfl) ?_
        refine x_get (ref := "NoteHouseModel") F hP kI0 rfl (fun _ h => List.mem_cons_of_mem _ (List.mem_append_right _ (h))) 15 (Nat.le_of_ble_eq_true rfl) (List.mem_cons_of_mem _ (List.mem_append_left _ (List.mem_of_getElem? (i := 4) rfl))) rfl rfl dX11_count_95 ?_
        exact y_ir K hP hD hS (Nat.le_of_ble_eq_true rfl) (Nat.le_of_ble_eq_true rfl) (ty := .int) rfl rfl dX11_count_98 (⟨⟨_, rfl⟩, ⟨wd_kp.rf, hIM0⟩⟩)
      by_cases c_12 : x1 = 3
      · refine lv_tableIn (off := 56) (tgt := 99) hx hb dX11_count_43 (by rw [c_12]; decide) (by rw [c_12]; decide) (by rw [c_12]; decide) (by decide) ?_
        refine lv_aload_n hx hb dX11_count_99 rfl (lv_at hl 0 rfl) ?_
        refine x_get (ref := "NoteHouseModel") F hP kI0 rfl (fun _ h => List.mem_cons_of_mem _ (List.mem_append_right _ (h))) 16 (Nat.le_of_ble_eq_true rfl) (List.mem_cons_of_mem _ (List.mem_append_left _ (List.mem_of_getElem? (i := 5) rfl))) rfl rfl dX11_count_100 ?_
        exact y_ir K hP hD hS (Nat.le_of_ble_eq_true rfl) (Nat.le_of_ble_eq_true rfl) (ty := .int) rfl rfl dX11_count_103 (⟨⟨_, rfl⟩, ⟨wd_kp.rf, hIM0⟩⟩)
      by_cases c_13 : x1 = 4
      · refine lv_tableIn (off := 61) (tgt := 104) hx hb dX11_count_43 (by rw [c_13]; decide) (by rw [c_13]; decide) (by rw [c_13]; decide) (by decide) ?_
        refine lv_aload_n hx hb dX11_count_104 rfl (lv_at hl 0 rfl) ?_
        refine x_get (ref := "NoteHouseModel") F hP kI0 rfl (fun _ h => List.mem_cons_of_mem _ (List.mem_append_right _ (h))) 38 (Nat.le_of_ble_eq_true rfl) (List.mem_cons_of_mem _ (List.mem_append_left _ (List.mem_of_getElem? (i := 6) rfl))) rfl rfl dX11_count_105 ?_
        exact y_ir K hP hD hS (Nat.le_of_ble_eq_true rfl) (Nat.le_of_ble_eq_true rfl) (ty := .int) rfl rfl dX11_count_108 (⟨⟨_, rfl⟩, ⟨wd_kp.rf, hIM0⟩⟩)
      by_cases c_14 : x1 = 5
      · refine lv_tableIn (off := 66) (tgt := 109) hx hb dX11_count_43 (by rw [c_14]; decide) (by rw [c_14]; decide) (by rw [c_14]; decide) (by decide) ?_
        refine lv_aload_n hx hb dX11_count_109 rfl (lv_at hl 0 rfl) ?_
        refine x_get (ref := "NoteHouseModel") F hP kI0 rfl (fun _ h => List.mem_cons_of_mem _ (List.mem_append_right _ (h))) 25 (Nat.le_of_ble_eq_true rfl) (List.mem_cons_of_mem _ (List.mem_append_left _ (List.mem_of_getElem? (i := 7) rfl))) rfl rfl dX11_count_110 ?_
        exact y_ir K hP hD hS (Nat.le_of_ble_eq_true rfl) (Nat.le_of_ble_eq_true rfl) (ty := .int) rfl rfl dX11_count_113 (⟨⟨_, rfl⟩, ⟨wd_kp.rf, hIM0⟩⟩)
      by_cases c_15 : x1 = 6
      · refine lv_tableIn (off := 71) (tgt := 114) hx hb dX11_count_43 (by rw [c_15]; decide) (by rw [c_15]; decide) (by rw [c_15]; decide) (by decide) ?_
        refine lv_aload_n hx hb dX11_count_114 rfl (lv_at hl 0 rfl) ?_
        refine x_get (ref := "NoteHouseModel") F hP kI0 rfl (fun _ h => List.mem_cons_of_mem _ (List.mem_append_right _ (h))) 55 (Nat.le_of_ble_eq_true rfl) (List.mem_cons_of_mem _ (List.mem_append_left _ (List.mem_of_getElem? (i := 8) rfl))) rfl rfl dX11_count_115 ?_
        exact y_ir K hP hD hS (Nat.le_of_ble_eq_true rfl) (Nat.le_of_ble_eq_true rfl) (ty := .int) rfl rfl dX11_count_118 (⟨⟨_, rfl⟩, ⟨wd_kp.rf, hIM0⟩⟩)
      refine lv_tableOut (tgt := 119) hx hb dX11_count_43 (by have z0 := lv_neT c_9 (show (0 : Int32).toInt = 0 by decide); have z1 := lv_neT c_10 (show (1 : Int32).toInt = 1 by decide); have z2 := lv_neT c_11 (show (2 : Int32).toInt = 2 by decide); have z3 := lv_neT c_12 (show (3 : Int32).toInt = 3 by decide); have z4 := lv_neT c_13 (show (4 : Int32).toInt = 4 by decide); have z5 := lv_neT c_14 (show (5 : Int32).toInt = 5 by decide); have z6 := lv_neT c_15 (show (6 : Int32).toInt = 6 by decide); omega) (by decide) ?_
      refine lv_iconst (v := (-1)) hx hb dX11_count_119 (by decide) ?_
      exact y_ir K hP hD hS (Nat.le_of_ble_eq_true rfl) (Nat.le_of_ble_eq_true rfl) (ty := .int) rfl rfl dX11_count_120 (⟨⟨_, rfl⟩, ⟨wd_kp.rf, hIM0⟩⟩)
    · obtain ⟨j, hj, rfl⟩ := wi_o5 c_8
      refine lv_aload_n hx hb dX11_count_32 rfl (lv_at hl 0 rfl) ?_
      refine x_get (ref := "NoteHouseModel") F hP kI0 rfl (fun _ h => List.mem_cons_of_mem _ (List.mem_append_right _ (h))) 35 (Nat.le_of_ble_eq_true rfl) (List.mem_cons_of_mem _ (List.mem_append_left _ (List.mem_of_getElem? (i := 1) rfl))) rfl rfl dX11_count_33 ?_
      refine lv_iload_n hx hb dX11_count_36 rfl (lv_at hl 1 rfl) ?_
      refine lv_bipush (v := 30) hx hb dX11_count_37 (by decide) ?_
      refine lv_isub hx hb dX11_count_39 ?_
      rw [show ((nI (j + 30)) - 30 : Int32) = nI j from ((pk_sub (a := j + 30) (b := 30) (by omega)).trans (congrArg nI (Nat.add_sub_cancel j 30)))]
      refine x_iald F hP kI27 (vp_in_nI (n := j) (N := 5) (by omega) (by decide)) dX11_count_40 ?_
      exact y_ir K hP hD hS (Nat.le_of_ble_eq_true rfl) (Nat.le_of_ble_eq_true rfl) (ty := .int) rfl rfl dX11_count_41 (⟨⟨_, rfl⟩, ⟨wd_kp.rf, hIM0⟩⟩)
  · obtain ⟨j, hj, rfl⟩ := wi_o c_4
    refine lv_aload_n hx hb dX11_count_11 rfl (lv_at hl 0 rfl) ?_
    refine x_get (ref := "NoteHouseModel") F hP kI0 rfl (fun _ h => List.mem_cons_of_mem _ (List.mem_append_right _ (h))) 29 (Nat.le_of_ble_eq_true rfl) (List.mem_cons_of_mem _ (List.mem_append_left _ (List.mem_of_getElem? (i := 0) rfl))) rfl rfl dX11_count_12 ?_
    refine lv_iload_n hx hb dX11_count_15 rfl (lv_at hl 1 rfl) ?_
    refine lv_bipush (v := 10) hx hb dX11_count_16 (by decide) ?_
    refine lv_isub hx hb dX11_count_18 ?_
    rw [show ((nI (j + 10)) - 10 : Int32) = nI j from ((pk_sub (a := j + 10) (b := 10) (by omega)).trans (congrArg nI (Nat.add_sub_cancel j 10)))]
    refine x_iald F hP kI21 (vp_in_nI (n := j) (N := 12) (by omega) (by decide)) dX11_count_19 ?_
    exact y_ir K hP hD hS (Nat.le_of_ble_eq_true rfl) (Nat.le_of_ble_eq_true rfl) (ty := .int) rfl rfl dX11_count_20 (⟨⟨_, rfl⟩, ⟨wd_kp.rf, hIM0⟩⟩)
set_option maxHeartbeats 4000000 in
set_option maxRecDepth 100000 in
theorem M_text (l : Launch) (D : va_G) (cy : Nat → ClassId) (sk sv : Nat → Nat) (w : Wd) (tg : Nat → Nat) (y : Nat) (td : Int32) (pc ac sc ln : Nat) (se plv : Nat → Int32) (Pm Wm : Nat → Nat → Nat) (av1 av2 av3 : Nat → Int32) (zC : Nat → Nat → Int32) (tB lb : Nat → Int32) (rt : Nat → Nat) (tT : Nat → Nat → Nat → Int32) (av0 sp0 sp1 pwo phd pgd pdy pno ptp co ra : Nat → Int32) (sh : Nat) (hto : Nat → Nat) (hpp hle ham hhh hdd hru hde hcp hld : Nat → Int32) (x1 : Int32) (hIM0 : IM cy tg y td pc ac sc ln se plv Pm Wm av1 av2 av3 zC tB lb rt tT av0 sp0 sp1 pwo phd pgd pdy pno ptp co ra sh hto hpp hle ham hhh hdd hru hde hcp hld w) : Ct l D cy sk sv yX11_text wsX11_text ({ frames := 7, cells := 0, slots := 0, locals := 155 }) [.ref y, .int x1] w (fun v w1 => (∃ r : Int32, v = some (.int r)) ∧ MP cy tg y td pc ac sc (txtC ln x1) se plv Pm Wm av1 av2 av3 zC tB lb (txN rt tB ln x1) (txV tT tB ln x1) av0 sp0 sp1 pwo phd pgd pdy pno ptp co ra sh hto hpp hle ham hhh hdd hru hde hcp hld w w1) := by
  have kp0 : wd_kp (fun b => 10000 ≤ tg b) w w := wd_kp.rf
  refine hIM0 _ ?_
  intro m2 m3 m4 m5 m6 m8 m9 m10 m11 m12 m13 m14 m17 m18 m19 m20 m21 m22 m23 m24 m29 m30 m31 m32 m33 m34 m35 m36 m37 m39 m40 m41 m42 m43 m44 m45 m46 m47 m48 m49 m51 m52 m53 m54 m56 m57 m58 m59 gf v0 v26 v27 v28 v50 f4 f5 f6 f8 f9 f10 f11 f12 f13 f14 f17 f18 f19 f20 f21 f22 f29 f30 f31 f32 f33 f34 f35 f36 f37 f39 f40 f41 f42 f43 f44 f45 f46 f47 f48 f49 f51 f52 f53 f54 f56 f57 f58 f59 qp pr fp qw wr fw qs sr fs hp90 hp91 hp92 hp93 hp94 hp95 hrl hc ht hp hso hlo htd hmp hmw hav hzm hlb hmt0 hav0 hs0 hs1 hco hra hpp9 hsh9 kI0 tI0 kI1 tI1 kI2 tI2 kI3 tI3 kI4 tI4 kI5 tI5 kI6 tI6 kI7 tI7 kI8 tI8 kI9 tI9 kI10 tI10 kI11 tI11 kI12 tI12 kI13 tI13 kI14 tI14 kI15 tI15 kI16 tI16 kI17 tI17 kI18 tI18 kI19 tI19 kI20 tI20 kI21 tI21 kI22 tI22 kI23 tI23 kI24 tI24 kI25 tI25 kI26 tI26 kI27 tI27 kI28 tI28 kI29 tI29 kI30 tI30 kI31 tI31 kI32 tI32 kI33 tI33 kI34 tI34 kI35 tI35 kI36 tI36 kI37 tI37 kI38 tI38 kI39 tI39 kI40 tI40 kI41 tI41 kI42 tI42 kI43 tI43 kI44 tI44 kI45 tI45 kI46 tI46 kI47 tI47 kI48 tI48 hFPR hFWR hFSR
  refine Ct.mono (m_text l D cy sk sv w tg y m2 m3 m4 m5 m6 m8 m9 m10 m11 m12 m13 m14 m17 m18 m19 m20 m21 m22 m23 m24 m29 m30 m31 m32 m33 m34 m35 m36 m37 m39 m40 m41 m42 m43 m44 m45 m46 m47 m48 m49 m51 m52 m53 m54 m56 m57 m58 m59 pc ac sc ln sh gf v0 td v26 v27 v28 v50 tB f29 f30 f31 f32 f33 f34 x1 rt tT kI0 kI20 kI21 kI22 kI23 kI24 kI25 kI26 (fun b => b = y ∨ b = m29 ∨ b = m30 ∨ b = m31 ∨ b = m32 ∨ b = m33 ∨ b = m34) (Or.inl rfl) (Or.inr (Or.inl rfl)) (Or.inr (Or.inr (Or.inl rfl))) (Or.inr (Or.inr (Or.inr (Or.inl rfl)))) (Or.inr (Or.inr (Or.inr (Or.inr (Or.inl rfl))))) (Or.inr (Or.inr (Or.inr (Or.inr (Or.inr (Or.inl rfl)))))) (Or.inr (Or.inr (Or.inr (Or.inr (Or.inr (Or.inr rfl)))))) tI0 tI20 tI21 tI22 tI23 tI24 tI25 tI26 (by omega) (by assumption) (by assumption) (by assumption)) ?_
  intro v w1 hp
  obtain ⟨lnx1, wx2, wx3, wx4, gx5, gx6, gx7, gx8, gx9, gx10, rx11, rfl, hz12, hz13, hz14, hz15, kq23, k16, k17, k18, k19, k20, k21, k22⟩ := hp
  have k24 := kq23.2 _ _ kI1 (orN (tg_ne tI1 tI0 (by decide)) (orN (tg_ne tI1 tI21 (by decide)) (orN (tg_ne tI1 tI22 (by decide)) (orN (tg_ne tI1 tI23 (by decide)) (orN (tg_ne tI1 tI24 (by decide)) (orN (tg_ne tI1 tI25 (by decide)) (tg_ne tI1 tI26 (by decide))))))))
  have k25 := kq23.2 _ _ kI2 (orN (tg_ne tI2 tI0 (by decide)) (orN (tg_ne tI2 tI21 (by decide)) (orN (tg_ne tI2 tI22 (by decide)) (orN (tg_ne tI2 tI23 (by decide)) (orN (tg_ne tI2 tI24 (by decide)) (orN (tg_ne tI2 tI25 (by decide)) (tg_ne tI2 tI26 (by decide))))))))
  have k26 := kq23.2 _ _ kI3 (orN (tg_ne tI3 tI0 (by decide)) (orN (tg_ne tI3 tI21 (by decide)) (orN (tg_ne tI3 tI22 (by decide)) (orN (tg_ne tI3 tI23 (by decide)) (orN (tg_ne tI3 tI24 (by decide)) (orN (tg_ne tI3 tI25 (by decide)) (tg_ne tI3 tI26 (by decide))))))))
  have k27 := kq23.2 _ _ kI4 (orN (tg_ne tI4 tI0 (by decide)) (orN (tg_ne tI4 tI21 (by decide)) (orN (tg_ne tI4 tI22 (by decide)) (orN (tg_ne tI4 tI23 (by decide)) (orN (tg_ne tI4 tI24 (by decide)) (orN (tg_ne tI4 tI25 (by decide)) (tg_ne tI4 tI26 (by decide))))))))
  have k28 := kq23.2 _ _ kI5 (orN (tg_ne tI5 tI0 (by decide)) (orN (tg_ne tI5 tI21 (by decide)) (orN (tg_ne tI5 tI22 (by decide)) (orN (tg_ne tI5 tI23 (by decide)) (orN (tg_ne tI5 tI24 (by decide)) (orN (tg_ne tI5 tI25 (by decide)) (tg_ne tI5 tI26 (by decide))))))))
  have k29 := kq23.2 _ _ kI6 (orN (tg_ne tI6 tI0 (by decide)) (orN (tg_ne tI6 tI21 (by decide)) (orN (tg_ne tI6 tI22 (by decide)) (orN (tg_ne tI6 tI23 (by decide)) (orN (tg_ne tI6 tI24 (by decide)) (orN (tg_ne tI6 tI25 (by decide)) (tg_ne tI6 tI26 (by decide))))))))
  have k30 := kq23.2 _ _ kI7 (orN (tg_ne tI7 tI0 (by decide)) (orN (tg_ne tI7 tI21 (by decide)) (orN (tg_ne tI7 tI22 (by decide)) (orN (tg_ne tI7 tI23 (by decide)) (orN (tg_ne tI7 tI24 (by decide)) (orN (tg_ne tI7 tI25 (by decide)) (tg_ne tI7 tI26 (by decide))))))))
  have k31 := kq23.2 _ _ kI8 (orN (tg_ne tI8 tI0 (by decide)) (orN (tg_ne tI8 tI21 (by decide)) (orN (tg_ne tI8 tI22 (by decide)) (orN (tg_ne tI8 tI23 (by decide)) (orN (tg_ne tI8 tI24 (by decide)) (orN (tg_ne tI8 tI25 (by decide)) (tg_ne tI8 tI26 (by decide))))))))
  have k32 := kq23.2 _ _ kI9 (orN (tg_ne tI9 tI0 (by decide)) (orN (tg_ne tI9 tI21 (by decide)) (orN (tg_ne tI9 tI22 (by decide)) (orN (tg_ne tI9 tI23 (by decide)) (orN (tg_ne tI9 tI24 (by decide)) (orN (tg_ne tI9 tI25 (by decide)) (tg_ne tI9 tI26 (by decide))))))))
  have k33 := kq23.2 _ _ kI10 (orN (tg_ne tI10 tI0 (by decide)) (orN (tg_ne tI10 tI21 (by decide)) (orN (tg_ne tI10 tI22 (by decide)) (orN (tg_ne tI10 tI23 (by decide)) (orN (tg_ne tI10 tI24 (by decide)) (orN (tg_ne tI10 tI25 (by decide)) (tg_ne tI10 tI26 (by decide))))))))
  have k34 := kq23.2 _ _ kI11 (orN (tg_ne tI11 tI0 (by decide)) (orN (tg_ne tI11 tI21 (by decide)) (orN (tg_ne tI11 tI22 (by decide)) (orN (tg_ne tI11 tI23 (by decide)) (orN (tg_ne tI11 tI24 (by decide)) (orN (tg_ne tI11 tI25 (by decide)) (tg_ne tI11 tI26 (by decide))))))))
  have k35 := kq23.2 _ _ kI12 (orN (tg_ne tI12 tI0 (by decide)) (orN (tg_ne tI12 tI21 (by decide)) (orN (tg_ne tI12 tI22 (by decide)) (orN (tg_ne tI12 tI23 (by decide)) (orN (tg_ne tI12 tI24 (by decide)) (orN (tg_ne tI12 tI25 (by decide)) (tg_ne tI12 tI26 (by decide))))))))
  have k36 := kq23.2 _ _ kI13 (orN (tg_ne tI13 tI0 (by decide)) (orN (tg_ne tI13 tI21 (by decide)) (orN (tg_ne tI13 tI22 (by decide)) (orN (tg_ne tI13 tI23 (by decide)) (orN (tg_ne tI13 tI24 (by decide)) (orN (tg_ne tI13 tI25 (by decide)) (tg_ne tI13 tI26 (by decide))))))))
  have k37 := kq23.2 _ _ kI14 (orN (tg_ne tI14 tI0 (by decide)) (orN (tg_ne tI14 tI21 (by decide)) (orN (tg_ne tI14 tI22 (by decide)) (orN (tg_ne tI14 tI23 (by decide)) (orN (tg_ne tI14 tI24 (by decide)) (orN (tg_ne tI14 tI25 (by decide)) (tg_ne tI14 tI26 (by decide))))))))
  have k38 := kq23.2 _ _ kI15 (orN (tg_ne tI15 tI0 (by decide)) (orN (tg_ne tI15 tI21 (by decide)) (orN (tg_ne tI15 tI22 (by decide)) (orN (tg_ne tI15 tI23 (by decide)) (orN (tg_ne tI15 tI24 (by decide)) (orN (tg_ne tI15 tI25 (by decide)) (tg_ne tI15 tI26 (by decide))))))))
  have k39 := kq23.2 _ _ kI16 (orN (tg_ne tI16 tI0 (by decide)) (orN (tg_ne tI16 tI21 (by decide)) (orN (tg_ne tI16 tI22 (by decide)) (orN (tg_ne tI16 tI23 (by decide)) (orN (tg_ne tI16 tI24 (by decide)) (orN (tg_ne tI16 tI25 (by decide)) (tg_ne tI16 tI26 (by decide))))))))
  have k40 := kq23.2 _ _ kI17 (orN (tg_ne tI17 tI0 (by decide)) (orN (tg_ne tI17 tI21 (by decide)) (orN (tg_ne tI17 tI22 (by decide)) (orN (tg_ne tI17 tI23 (by decide)) (orN (tg_ne tI17 tI24 (by decide)) (orN (tg_ne tI17 tI25 (by decide)) (tg_ne tI17 tI26 (by decide))))))))
  have k41 := kq23.2 _ _ kI18 (orN (tg_ne tI18 tI0 (by decide)) (orN (tg_ne tI18 tI21 (by decide)) (orN (tg_ne tI18 tI22 (by decide)) (orN (tg_ne tI18 tI23 (by decide)) (orN (tg_ne tI18 tI24 (by decide)) (orN (tg_ne tI18 tI25 (by decide)) (tg_ne tI18 tI26 (by decide))))))))
  have k42 := kq23.2 _ _ kI19 (orN (tg_ne tI19 tI0 (by decide)) (orN (tg_ne tI19 tI21 (by decide)) (orN (tg_ne tI19 tI22 (by decide)) (orN (tg_ne tI19 tI23 (by decide)) (orN (tg_ne tI19 tI24 (by decide)) (orN (tg_ne tI19 tI25 (by decide)) (tg_ne tI19 tI26 (by decide))))))))
  have k43 := kq23.2 _ _ kI20 (orN (tg_ne tI20 tI0 (by decide)) (orN (tg_ne tI20 tI21 (by decide)) (orN (tg_ne tI20 tI22 (by decide)) (orN (tg_ne tI20 tI23 (by decide)) (orN (tg_ne tI20 tI24 (by decide)) (orN (tg_ne tI20 tI25 (by decide)) (tg_ne tI20 tI26 (by decide))))))))
  have k44 := kq23.2 _ _ kI27 (orN (tg_ne tI27 tI0 (by decide)) (orN (tg_ne tI27 tI21 (by decide)) (orN (tg_ne tI27 tI22 (by decide)) (orN (tg_ne tI27 tI23 (by decide)) (orN (tg_ne tI27 tI24 (by decide)) (orN (tg_ne tI27 tI25 (by decide)) (tg_ne tI27 tI26 (by decide))))))))
  have k45 := kq23.2 _ _ kI28 (orN (tg_ne tI28 tI0 (by decide)) (orN (tg_ne tI28 tI21 (by decide)) (orN (tg_ne tI28 tI22 (by decide)) (orN (tg_ne tI28 tI23 (by decide)) (orN (tg_ne tI28 tI24 (by decide)) (orN (tg_ne tI28 tI25 (by decide)) (tg_ne tI28 tI26 (by decide))))))))
  have k46 := kq23.2 _ _ kI29 (orN (tg_ne tI29 tI0 (by decide)) (orN (tg_ne tI29 tI21 (by decide)) (orN (tg_ne tI29 tI22 (by decide)) (orN (tg_ne tI29 tI23 (by decide)) (orN (tg_ne tI29 tI24 (by decide)) (orN (tg_ne tI29 tI25 (by decide)) (tg_ne tI29 tI26 (by decide))))))))
  have k47 := kq23.2 _ _ kI30 (orN (tg_ne tI30 tI0 (by decide)) (orN (tg_ne tI30 tI21 (by decide)) (orN (tg_ne tI30 tI22 (by decide)) (orN (tg_ne tI30 tI23 (by decide)) (orN (tg_ne tI30 tI24 (by decide)) (orN (tg_ne tI30 tI25 (by decide)) (tg_ne tI30 tI26 (by decide))))))))
  have k48 := kq23.2 _ _ kI31 (orN (tg_ne tI31 tI0 (by decide)) (orN (tg_ne tI31 tI21 (by decide)) (orN (tg_ne tI31 tI22 (by decide)) (orN (tg_ne tI31 tI23 (by decide)) (orN (tg_ne tI31 tI24 (by decide)) (orN (tg_ne tI31 tI25 (by decide)) (tg_ne tI31 tI26 (by decide))))))))
  have k49 := kq23.2 _ _ kI32 (orN (tg_ne tI32 tI0 (by decide)) (orN (tg_ne tI32 tI21 (by decide)) (orN (tg_ne tI32 tI22 (by decide)) (orN (tg_ne tI32 tI23 (by decide)) (orN (tg_ne tI32 tI24 (by decide)) (orN (tg_ne tI32 tI25 (by decide)) (tg_ne tI32 tI26 (by decide))))))))
  have k50 := kq23.2 _ _ kI33 (orN (tg_ne tI33 tI0 (by decide)) (orN (tg_ne tI33 tI21 (by decide)) (orN (tg_ne tI33 tI22 (by decide)) (orN (tg_ne tI33 tI23 (by decide)) (orN (tg_ne tI33 tI24 (by decide)) (orN (tg_ne tI33 tI25 (by decide)) (tg_ne tI33 tI26 (by decide))))))))
  have k51 := kq23.2 _ _ kI34 (orN (tg_ne tI34 tI0 (by decide)) (orN (tg_ne tI34 tI21 (by decide)) (orN (tg_ne tI34 tI22 (by decide)) (orN (tg_ne tI34 tI23 (by decide)) (orN (tg_ne tI34 tI24 (by decide)) (orN (tg_ne tI34 tI25 (by decide)) (tg_ne tI34 tI26 (by decide))))))))
  have k52 := kq23.2 _ _ kI35 (orN (tg_ne tI35 tI0 (by decide)) (orN (tg_ne tI35 tI21 (by decide)) (orN (tg_ne tI35 tI22 (by decide)) (orN (tg_ne tI35 tI23 (by decide)) (orN (tg_ne tI35 tI24 (by decide)) (orN (tg_ne tI35 tI25 (by decide)) (tg_ne tI35 tI26 (by decide))))))))
  have k53 := kq23.2 _ _ kI36 (orN (tg_ne tI36 tI0 (by decide)) (orN (tg_ne tI36 tI21 (by decide)) (orN (tg_ne tI36 tI22 (by decide)) (orN (tg_ne tI36 tI23 (by decide)) (orN (tg_ne tI36 tI24 (by decide)) (orN (tg_ne tI36 tI25 (by decide)) (tg_ne tI36 tI26 (by decide))))))))
  have k54 := kq23.2 _ _ kI37 (orN (tg_ne tI37 tI0 (by decide)) (orN (tg_ne tI37 tI21 (by decide)) (orN (tg_ne tI37 tI22 (by decide)) (orN (tg_ne tI37 tI23 (by decide)) (orN (tg_ne tI37 tI24 (by decide)) (orN (tg_ne tI37 tI25 (by decide)) (tg_ne tI37 tI26 (by decide))))))))
  have k55 := kq23.2 _ _ kI38 (orN (tg_ne tI38 tI0 (by decide)) (orN (tg_ne tI38 tI21 (by decide)) (orN (tg_ne tI38 tI22 (by decide)) (orN (tg_ne tI38 tI23 (by decide)) (orN (tg_ne tI38 tI24 (by decide)) (orN (tg_ne tI38 tI25 (by decide)) (tg_ne tI38 tI26 (by decide))))))))
  have k56 := kq23.2 _ _ kI39 (orN (tg_ne tI39 tI0 (by decide)) (orN (tg_ne tI39 tI21 (by decide)) (orN (tg_ne tI39 tI22 (by decide)) (orN (tg_ne tI39 tI23 (by decide)) (orN (tg_ne tI39 tI24 (by decide)) (orN (tg_ne tI39 tI25 (by decide)) (tg_ne tI39 tI26 (by decide))))))))
  have k57 := kq23.2 _ _ kI40 (orN (tg_ne tI40 tI0 (by decide)) (orN (tg_ne tI40 tI21 (by decide)) (orN (tg_ne tI40 tI22 (by decide)) (orN (tg_ne tI40 tI23 (by decide)) (orN (tg_ne tI40 tI24 (by decide)) (orN (tg_ne tI40 tI25 (by decide)) (tg_ne tI40 tI26 (by decide))))))))
  have k58 := kq23.2 _ _ kI41 (orN (tg_ne tI41 tI0 (by decide)) (orN (tg_ne tI41 tI21 (by decide)) (orN (tg_ne tI41 tI22 (by decide)) (orN (tg_ne tI41 tI23 (by decide)) (orN (tg_ne tI41 tI24 (by decide)) (orN (tg_ne tI41 tI25 (by decide)) (tg_ne tI41 tI26 (by decide))))))))
  have k59 := kq23.2 _ _ kI42 (orN (tg_ne tI42 tI0 (by decide)) (orN (tg_ne tI42 tI21 (by decide)) (orN (tg_ne tI42 tI22 (by decide)) (orN (tg_ne tI42 tI23 (by decide)) (orN (tg_ne tI42 tI24 (by decide)) (orN (tg_ne tI42 tI25 (by decide)) (tg_ne tI42 tI26 (by decide))))))))
  have k60 := kq23.2 _ _ kI43 (orN (tg_ne tI43 tI0 (by decide)) (orN (tg_ne tI43 tI21 (by decide)) (orN (tg_ne tI43 tI22 (by decide)) (orN (tg_ne tI43 tI23 (by decide)) (orN (tg_ne tI43 tI24 (by decide)) (orN (tg_ne tI43 tI25 (by decide)) (tg_ne tI43 tI26 (by decide))))))))
  have k61 := kq23.2 _ _ kI44 (orN (tg_ne tI44 tI0 (by decide)) (orN (tg_ne tI44 tI21 (by decide)) (orN (tg_ne tI44 tI22 (by decide)) (orN (tg_ne tI44 tI23 (by decide)) (orN (tg_ne tI44 tI24 (by decide)) (orN (tg_ne tI44 tI25 (by decide)) (tg_ne tI44 tI26 (by decide))))))))
  have k62 := kq23.2 _ _ kI45 (orN (tg_ne tI45 tI0 (by decide)) (orN (tg_ne tI45 tI21 (by decide)) (orN (tg_ne tI45 tI22 (by decide)) (orN (tg_ne tI45 tI23 (by decide)) (orN (tg_ne tI45 tI24 (by decide)) (orN (tg_ne tI45 tI25 (by decide)) (tg_ne tI45 tI26 (by decide))))))))
  have k63 := kq23.2 _ _ kI46 (orN (tg_ne tI46 tI0 (by decide)) (orN (tg_ne tI46 tI21 (by decide)) (orN (tg_ne tI46 tI22 (by decide)) (orN (tg_ne tI46 tI23 (by decide)) (orN (tg_ne tI46 tI24 (by decide)) (orN (tg_ne tI46 tI25 (by decide)) (tg_ne tI46 tI26 (by decide))))))))
  have k64 := kq23.2 _ _ kI47 (orN (tg_ne tI47 tI0 (by decide)) (orN (tg_ne tI47 tI21 (by decide)) (orN (tg_ne tI47 tI22 (by decide)) (orN (tg_ne tI47 tI23 (by decide)) (orN (tg_ne tI47 tI24 (by decide)) (orN (tg_ne tI47 tI25 (by decide)) (tg_ne tI47 tI26 (by decide))))))))
  have k65 := kq23.2 _ _ kI48 (orN (tg_ne tI48 tI0 (by decide)) (orN (tg_ne tI48 tI21 (by decide)) (orN (tg_ne tI48 tI22 (by decide)) (orN (tg_ne tI48 tI23 (by decide)) (orN (tg_ne tI48 tI24 (by decide)) (orN (tg_ne tI48 tI25 (by decide)) (tg_ne tI48 tI26 (by decide))))))))
  have fm66 : ∀ k9, k9 < 12 → qp k9 = some (pr k9) ∧ wd_at w1 (pr k9) (.inl (cy 2, 12, .inl (fp k9))) ∧ tg (pr k9) = 11000 + k9 := fun k9 hi9 => ⟨(hFPR k9 hi9).1, kq23.2 _ _ (hFPR k9 hi9).2.1 (orN (tg_ne (hFPR k9 hi9).2.2 tI0 (tqA (show 10000 < 11000 by decide))) (orN (tg_ne (hFPR k9 hi9).2.2 tI21 (tqA (show 10129 < 11000 by decide))) (orN (tg_ne (hFPR k9 hi9).2.2 tI22 (tqA (show 10130 < 11000 by decide))) (orN (tg_ne (hFPR k9 hi9).2.2 tI23 (tqA (show 10131 < 11000 by decide))) (orN (tg_ne (hFPR k9 hi9).2.2 tI24 (tqA (show 10132 < 11000 by decide))) (orN (tg_ne (hFPR k9 hi9).2.2 tI25 (tqA (show 10133 < 11000 by decide))) (tg_ne (hFPR k9 hi9).2.2 tI26 (tqA (show 10134 < 11000 by decide))))))))), (hFPR k9 hi9).2.2⟩
  have fm67 : ∀ k9, k9 < 12 → qw k9 = some (wr k9) ∧ wd_at w1 (wr k9) (.inl (cy 2, 12, .inl (fw k9))) ∧ tg (wr k9) = 12000 + k9 := fun k9 hi9 => ⟨(hFWR k9 hi9).1, kq23.2 _ _ (hFWR k9 hi9).2.1 (orN (tg_ne (hFWR k9 hi9).2.2 tI0 (tqA (show 10000 < 12000 by decide))) (orN (tg_ne (hFWR k9 hi9).2.2 tI21 (tqA (show 10129 < 12000 by decide))) (orN (tg_ne (hFWR k9 hi9).2.2 tI22 (tqA (show 10130 < 12000 by decide))) (orN (tg_ne (hFWR k9 hi9).2.2 tI23 (tqA (show 10131 < 12000 by decide))) (orN (tg_ne (hFWR k9 hi9).2.2 tI24 (tqA (show 10132 < 12000 by decide))) (orN (tg_ne (hFWR k9 hi9).2.2 tI25 (tqA (show 10133 < 12000 by decide))) (tg_ne (hFWR k9 hi9).2.2 tI26 (tqA (show 10134 < 12000 by decide))))))))), (hFWR k9 hi9).2.2⟩
  have fm68 : ∀ k9, k9 < 60 → qs k9 = some (sr k9) ∧ wd_at w1 (sr k9) (.inl (cy 2, 12, .inl (fs k9))) ∧ tg (sr k9) = 13000 + k9 := fun k9 hi9 => ⟨(hFSR k9 hi9).1, kq23.2 _ _ (hFSR k9 hi9).2.1 (orN (tg_ne (hFSR k9 hi9).2.2 tI0 (tqA (show 10000 < 13000 by decide))) (orN (tg_ne (hFSR k9 hi9).2.2 tI21 (tqA (show 10129 < 13000 by decide))) (orN (tg_ne (hFSR k9 hi9).2.2 tI22 (tqA (show 10130 < 13000 by decide))) (orN (tg_ne (hFSR k9 hi9).2.2 tI23 (tqA (show 10131 < 13000 by decide))) (orN (tg_ne (hFSR k9 hi9).2.2 tI24 (tqA (show 10132 < 13000 by decide))) (orN (tg_ne (hFSR k9 hi9).2.2 tI25 (tqA (show 10133 < 13000 by decide))) (tg_ne (hFSR k9 hi9).2.2 tI26 (tqA (show 10134 < 13000 by decide))))))))), (hFSR k9 hi9).2.2⟩
  have kp69 := kp0.tr kq23 (fun b9 hm q9 => (fun q9 => Or.elim q9 (fun q9 => q9 ▸ (tgT tI0 (by decide))) (fun q9 => Or.elim q9 (fun q9 => q9 ▸ (tgT tI21 (by decide))) (fun q9 => Or.elim q9 (fun q9 => q9 ▸ (tgT tI22 (by decide))) (fun q9 => Or.elim q9 (fun q9 => q9 ▸ (tgT tI23 (by decide))) (fun q9 => Or.elim q9 (fun q9 => q9 ▸ (tgT tI24 (by decide))) (fun q9 => Or.elim q9 (fun q9 => q9 ▸ (tgT tI25 (by decide))) (fun q9 => q9 ▸ (tgT tI26 (by decide))))))))) q9)
  have hX70 : IM cy tg y td pc ac sc lnx1 se plv Pm Wm av1 av2 av3 zC tB lb (txN rt tB ln x1) (txV tT tB ln x1) av0 sp0 sp1 pwo phd pgd pdy pno ptp co ra sh hto hpp hle ham hhh hdd hru hde hcp hld w1 := IM.mk m2 m3 m4 m5 m6 m8 m9 m10 m11 m12 m13 m14 m17 m18 m19 m20 m21 m22 m23 m24 m29 m30 m31 m32 m33 m34 m35 m36 m37 m39 m40 m41 m42 m43 m44 m45 m46 m47 m48 m49 m51 m52 m53 m54 m56 m57 m58 m59 gf v0 wx2 wx3 wx4 v50 f4 f5 f6 f8 f9 f10 f11 f12 f13 f14 f17 f18 f19 f20 f21 f22 gx5 gx6 gx7 gx8 gx9 gx10 f35 f36 f37 f39 f40 f41 f42 f43 f44 f45 f46 f47 f48 f49 f51 f52 f53 f54 f56 f57 f58 f59 qp pr fp qw wr fw qs sr fs (by omega) (by omega) (by omega) (by omega) (by rw [hz12]; unfold txtC; split <;> omega) (by omega) (hz13) (hz14) ht hp hso hlo htd hmp hmw hav hzm hlb (hz15) hav0 hs0 hs1 hco hra hpp9 hsh9 k16 tI0 k24 tI1 k25 tI2 k26 tI3 k27 tI4 k28 tI5 k29 tI6 k30 tI7 k31 tI8 k32 tI9 k33 tI10 k34 tI11 k35 tI12 k36 tI13 k37 tI14 k38 tI15 k39 tI16 k40 tI17 k41 tI18 k42 tI19 k43 tI20 k17 tI21 k18 tI22 k19 tI23 k20 tI24 k21 tI25 k22 tI26 k44 tI27 k45 tI28 k46 tI29 k47 tI30 k48 tI31 k49 tI32 k50 tI33 k51 tI34 k52 tI35 k53 tI36 k54 tI37 k55 tI38 k56 tI39 k57 tI40 k58 tI41 k59 tI42 k60 tI43 k61 tI44 k62 tI45 k63 tI46 k64 tI47 k65 tI48 fm66 fm67 fm68
  exact by refine ⟨⟨_, rfl⟩, ?_⟩; rw [show txtC ln x1 = lnx1 from hz12.symm]; exact ⟨kp69, hX70⟩
set_option maxHeartbeats 4000000 in
set_option maxRecDepth 100000 in
theorem M_law (l : Launch) (D : va_G) (cy : Nat → ClassId) (sk sv : Nat → Nat) (w : Wd) (tg : Nat → Nat) (y : Nat) (td : Int32) (pc ac sc ln : Nat) (se plv : Nat → Int32) (Pm Wm : Nat → Nat → Nat) (av1 av2 av3 : Nat → Int32) (zC : Nat → Nat → Int32) (tB lb : Nat → Int32) (rt : Nat → Nat) (tT : Nat → Nat → Nat → Int32) (av0 sp0 sp1 pwo phd pgd pdy pno ptp co ra : Nat → Int32) (sh : Nat) (hto : Nat → Nat) (hpp hle ham hhh hdd hru hde hcp hld : Nat → Int32)  (hIM0 : IM cy tg y td pc ac sc ln se plv Pm Wm av1 av2 av3 zC tB lb rt tT av0 sp0 sp1 pwo phd pgd pdy pno ptp co ra sh hto hpp hle ham hhh hdd hru hde hcp hld w) : Ct l D cy sk sv yX11_law wsX11_law ({ frames := 6, cells := 0, slots := 0, locals := 130 }) [.ref y] w (fun v w1 => v = some (.int (lawA tB ln)) ∧ MP cy tg y td pc ac sc 0 se plv Pm Wm av1 av2 av3 zC tB (lawB lb tB ln) rt tT av0 sp0 sp1 pwo phd pgd pdy pno ptp co ra sh hto hpp hle ham hhh hdd hru hde hcp hld w w1) := by
  have kp0 : wd_kp (fun b => 10000 ≤ tg b) w w := wd_kp.rf
  refine hIM0 _ ?_
  intro m2 m3 m4 m5 m6 m8 m9 m10 m11 m12 m13 m14 m17 m18 m19 m20 m21 m22 m23 m24 m29 m30 m31 m32 m33 m34 m35 m36 m37 m39 m40 m41 m42 m43 m44 m45 m46 m47 m48 m49 m51 m52 m53 m54 m56 m57 m58 m59 gf v0 v26 v27 v28 v50 f4 f5 f6 f8 f9 f10 f11 f12 f13 f14 f17 f18 f19 f20 f21 f22 f29 f30 f31 f32 f33 f34 f35 f36 f37 f39 f40 f41 f42 f43 f44 f45 f46 f47 f48 f49 f51 f52 f53 f54 f56 f57 f58 f59 qp pr fp qw wr fw qs sr fs hp90 hp91 hp92 hp93 hp94 hp95 hrl hc ht hp hso hlo htd hmp hmw hav hzm hlb hmt0 hav0 hs0 hs1 hco hra hpp9 hsh9 kI0 tI0 kI1 tI1 kI2 tI2 kI3 tI3 kI4 tI4 kI5 tI5 kI6 tI6 kI7 tI7 kI8 tI8 kI9 tI9 kI10 tI10 kI11 tI11 kI12 tI12 kI13 tI13 kI14 tI14 kI15 tI15 kI16 tI16 kI17 tI17 kI18 tI18 kI19 tI19 kI20 tI20 kI21 tI21 kI22 tI22 kI23 tI23 kI24 tI24 kI25 tI25 kI26 tI26 kI27 tI27 kI28 tI28 kI29 tI29 kI30 tI30 kI31 tI31 kI32 tI32 kI33 tI33 kI34 tI34 kI35 tI35 kI36 tI36 kI37 tI37 kI38 tI38 kI39 tI39 kI40 tI40 kI41 tI41 kI42 tI42 kI43 tI43 kI44 tI44 kI45 tI45 kI46 tI46 kI47 tI47 kI48 tI48 hFPR hFWR hFSR
  refine Ct.mono (m_law l D cy sk sv w tg y m2 m3 m4 m5 m6 m8 m9 m10 m11 m12 m13 m14 m17 m18 m19 m20 m21 m22 m23 m24 m29 m30 m31 m32 m33 m34 m35 m36 m37 m39 m40 m41 m42 m43 m44 m45 m46 m47 m48 m49 m51 m52 m53 m54 m56 m57 m58 m59 pc ac sc ln sh gf v0 td v26 v27 v28 v50 tB f35 f36 f37 lb kI0 kI20 kI27 kI28 kI29 (fun b => b = y ∨ b = m35 ∨ b = m36 ∨ b = m37) (Or.inl rfl) (Or.inr (Or.inl rfl)) (Or.inr (Or.inr (Or.inl rfl))) (Or.inr (Or.inr (Or.inr rfl))) tI0 tI20 tI27 tI28 tI29 (by omega) (by assumption)) ?_
  intro v w1 hp
  obtain ⟨wx1, wx2, wx3, gx4, gx5, gx6, rx7, rfl, rfl, hz8, kq13, k9, k10, k11, k12⟩ := hp
  have k14 := kq13.2 _ _ kI1 (orN (tg_ne tI1 tI0 (by decide)) (orN (tg_ne tI1 tI27 (by decide)) (orN (tg_ne tI1 tI28 (by decide)) (tg_ne tI1 tI29 (by decide)))))
  have k15 := kq13.2 _ _ kI2 (orN (tg_ne tI2 tI0 (by decide)) (orN (tg_ne tI2 tI27 (by decide)) (orN (tg_ne tI2 tI28 (by decide)) (tg_ne tI2 tI29 (by decide)))))
  have k16 := kq13.2 _ _ kI3 (orN (tg_ne tI3 tI0 (by decide)) (orN (tg_ne tI3 tI27 (by decide)) (orN (tg_ne tI3 tI28 (by decide)) (tg_ne tI3 tI29 (by decide)))))
  have k17 := kq13.2 _ _ kI4 (orN (tg_ne tI4 tI0 (by decide)) (orN (tg_ne tI4 tI27 (by decide)) (orN (tg_ne tI4 tI28 (by decide)) (tg_ne tI4 tI29 (by decide)))))
  have k18 := kq13.2 _ _ kI5 (orN (tg_ne tI5 tI0 (by decide)) (orN (tg_ne tI5 tI27 (by decide)) (orN (tg_ne tI5 tI28 (by decide)) (tg_ne tI5 tI29 (by decide)))))
  have k19 := kq13.2 _ _ kI6 (orN (tg_ne tI6 tI0 (by decide)) (orN (tg_ne tI6 tI27 (by decide)) (orN (tg_ne tI6 tI28 (by decide)) (tg_ne tI6 tI29 (by decide)))))
  have k20 := kq13.2 _ _ kI7 (orN (tg_ne tI7 tI0 (by decide)) (orN (tg_ne tI7 tI27 (by decide)) (orN (tg_ne tI7 tI28 (by decide)) (tg_ne tI7 tI29 (by decide)))))
  have k21 := kq13.2 _ _ kI8 (orN (tg_ne tI8 tI0 (by decide)) (orN (tg_ne tI8 tI27 (by decide)) (orN (tg_ne tI8 tI28 (by decide)) (tg_ne tI8 tI29 (by decide)))))
  have k22 := kq13.2 _ _ kI9 (orN (tg_ne tI9 tI0 (by decide)) (orN (tg_ne tI9 tI27 (by decide)) (orN (tg_ne tI9 tI28 (by decide)) (tg_ne tI9 tI29 (by decide)))))
  have k23 := kq13.2 _ _ kI10 (orN (tg_ne tI10 tI0 (by decide)) (orN (tg_ne tI10 tI27 (by decide)) (orN (tg_ne tI10 tI28 (by decide)) (tg_ne tI10 tI29 (by decide)))))
  have k24 := kq13.2 _ _ kI11 (orN (tg_ne tI11 tI0 (by decide)) (orN (tg_ne tI11 tI27 (by decide)) (orN (tg_ne tI11 tI28 (by decide)) (tg_ne tI11 tI29 (by decide)))))
  have k25 := kq13.2 _ _ kI12 (orN (tg_ne tI12 tI0 (by decide)) (orN (tg_ne tI12 tI27 (by decide)) (orN (tg_ne tI12 tI28 (by decide)) (tg_ne tI12 tI29 (by decide)))))
  have k26 := kq13.2 _ _ kI13 (orN (tg_ne tI13 tI0 (by decide)) (orN (tg_ne tI13 tI27 (by decide)) (orN (tg_ne tI13 tI28 (by decide)) (tg_ne tI13 tI29 (by decide)))))
  have k27 := kq13.2 _ _ kI14 (orN (tg_ne tI14 tI0 (by decide)) (orN (tg_ne tI14 tI27 (by decide)) (orN (tg_ne tI14 tI28 (by decide)) (tg_ne tI14 tI29 (by decide)))))
  have k28 := kq13.2 _ _ kI15 (orN (tg_ne tI15 tI0 (by decide)) (orN (tg_ne tI15 tI27 (by decide)) (orN (tg_ne tI15 tI28 (by decide)) (tg_ne tI15 tI29 (by decide)))))
  have k29 := kq13.2 _ _ kI16 (orN (tg_ne tI16 tI0 (by decide)) (orN (tg_ne tI16 tI27 (by decide)) (orN (tg_ne tI16 tI28 (by decide)) (tg_ne tI16 tI29 (by decide)))))
  have k30 := kq13.2 _ _ kI17 (orN (tg_ne tI17 tI0 (by decide)) (orN (tg_ne tI17 tI27 (by decide)) (orN (tg_ne tI17 tI28 (by decide)) (tg_ne tI17 tI29 (by decide)))))
  have k31 := kq13.2 _ _ kI18 (orN (tg_ne tI18 tI0 (by decide)) (orN (tg_ne tI18 tI27 (by decide)) (orN (tg_ne tI18 tI28 (by decide)) (tg_ne tI18 tI29 (by decide)))))
  have k32 := kq13.2 _ _ kI19 (orN (tg_ne tI19 tI0 (by decide)) (orN (tg_ne tI19 tI27 (by decide)) (orN (tg_ne tI19 tI28 (by decide)) (tg_ne tI19 tI29 (by decide)))))
  have k33 := kq13.2 _ _ kI20 (orN (tg_ne tI20 tI0 (by decide)) (orN (tg_ne tI20 tI27 (by decide)) (orN (tg_ne tI20 tI28 (by decide)) (tg_ne tI20 tI29 (by decide)))))
  have k34 := kq13.2 _ _ kI21 (orN (tg_ne tI21 tI0 (by decide)) (orN (tg_ne tI21 tI27 (by decide)) (orN (tg_ne tI21 tI28 (by decide)) (tg_ne tI21 tI29 (by decide)))))
  have k35 := kq13.2 _ _ kI22 (orN (tg_ne tI22 tI0 (by decide)) (orN (tg_ne tI22 tI27 (by decide)) (orN (tg_ne tI22 tI28 (by decide)) (tg_ne tI22 tI29 (by decide)))))
  have k36 := kq13.2 _ _ kI23 (orN (tg_ne tI23 tI0 (by decide)) (orN (tg_ne tI23 tI27 (by decide)) (orN (tg_ne tI23 tI28 (by decide)) (tg_ne tI23 tI29 (by decide)))))
  have k37 := kq13.2 _ _ kI24 (orN (tg_ne tI24 tI0 (by decide)) (orN (tg_ne tI24 tI27 (by decide)) (orN (tg_ne tI24 tI28 (by decide)) (tg_ne tI24 tI29 (by decide)))))
  have k38 := kq13.2 _ _ kI25 (orN (tg_ne tI25 tI0 (by decide)) (orN (tg_ne tI25 tI27 (by decide)) (orN (tg_ne tI25 tI28 (by decide)) (tg_ne tI25 tI29 (by decide)))))
  have k39 := kq13.2 _ _ kI26 (orN (tg_ne tI26 tI0 (by decide)) (orN (tg_ne tI26 tI27 (by decide)) (orN (tg_ne tI26 tI28 (by decide)) (tg_ne tI26 tI29 (by decide)))))
  have k40 := kq13.2 _ _ kI30 (orN (tg_ne tI30 tI0 (by decide)) (orN (tg_ne tI30 tI27 (by decide)) (orN (tg_ne tI30 tI28 (by decide)) (tg_ne tI30 tI29 (by decide)))))
  have k41 := kq13.2 _ _ kI31 (orN (tg_ne tI31 tI0 (by decide)) (orN (tg_ne tI31 tI27 (by decide)) (orN (tg_ne tI31 tI28 (by decide)) (tg_ne tI31 tI29 (by decide)))))
  have k42 := kq13.2 _ _ kI32 (orN (tg_ne tI32 tI0 (by decide)) (orN (tg_ne tI32 tI27 (by decide)) (orN (tg_ne tI32 tI28 (by decide)) (tg_ne tI32 tI29 (by decide)))))
  have k43 := kq13.2 _ _ kI33 (orN (tg_ne tI33 tI0 (by decide)) (orN (tg_ne tI33 tI27 (by decide)) (orN (tg_ne tI33 tI28 (by decide)) (tg_ne tI33 tI29 (by decide)))))
  have k44 := kq13.2 _ _ kI34 (orN (tg_ne tI34 tI0 (by decide)) (orN (tg_ne tI34 tI27 (by decide)) (orN (tg_ne tI34 tI28 (by decide)) (tg_ne tI34 tI29 (by decide)))))
  have k45 := kq13.2 _ _ kI35 (orN (tg_ne tI35 tI0 (by decide)) (orN (tg_ne tI35 tI27 (by decide)) (orN (tg_ne tI35 tI28 (by decide)) (tg_ne tI35 tI29 (by decide)))))
  have k46 := kq13.2 _ _ kI36 (orN (tg_ne tI36 tI0 (by decide)) (orN (tg_ne tI36 tI27 (by decide)) (orN (tg_ne tI36 tI28 (by decide)) (tg_ne tI36 tI29 (by decide)))))
  have k47 := kq13.2 _ _ kI37 (orN (tg_ne tI37 tI0 (by decide)) (orN (tg_ne tI37 tI27 (by decide)) (orN (tg_ne tI37 tI28 (by decide)) (tg_ne tI37 tI29 (by decide)))))
  have k48 := kq13.2 _ _ kI38 (orN (tg_ne tI38 tI0 (by decide)) (orN (tg_ne tI38 tI27 (by decide)) (orN (tg_ne tI38 tI28 (by decide)) (tg_ne tI38 tI29 (by decide)))))
  have k49 := kq13.2 _ _ kI39 (orN (tg_ne tI39 tI0 (by decide)) (orN (tg_ne tI39 tI27 (by decide)) (orN (tg_ne tI39 tI28 (by decide)) (tg_ne tI39 tI29 (by decide)))))
  have k50 := kq13.2 _ _ kI40 (orN (tg_ne tI40 tI0 (by decide)) (orN (tg_ne tI40 tI27 (by decide)) (orN (tg_ne tI40 tI28 (by decide)) (tg_ne tI40 tI29 (by decide)))))
  have k51 := kq13.2 _ _ kI41 (orN (tg_ne tI41 tI0 (by decide)) (orN (tg_ne tI41 tI27 (by decide)) (orN (tg_ne tI41 tI28 (by decide)) (tg_ne tI41 tI29 (by decide)))))
  have k52 := kq13.2 _ _ kI42 (orN (tg_ne tI42 tI0 (by decide)) (orN (tg_ne tI42 tI27 (by decide)) (orN (tg_ne tI42 tI28 (by decide)) (tg_ne tI42 tI29 (by decide)))))
  have k53 := kq13.2 _ _ kI43 (orN (tg_ne tI43 tI0 (by decide)) (orN (tg_ne tI43 tI27 (by decide)) (orN (tg_ne tI43 tI28 (by decide)) (tg_ne tI43 tI29 (by decide)))))
  have k54 := kq13.2 _ _ kI44 (orN (tg_ne tI44 tI0 (by decide)) (orN (tg_ne tI44 tI27 (by decide)) (orN (tg_ne tI44 tI28 (by decide)) (tg_ne tI44 tI29 (by decide)))))
  have k55 := kq13.2 _ _ kI45 (orN (tg_ne tI45 tI0 (by decide)) (orN (tg_ne tI45 tI27 (by decide)) (orN (tg_ne tI45 tI28 (by decide)) (tg_ne tI45 tI29 (by decide)))))
  have k56 := kq13.2 _ _ kI46 (orN (tg_ne tI46 tI0 (by decide)) (orN (tg_ne tI46 tI27 (by decide)) (orN (tg_ne tI46 tI28 (by decide)) (tg_ne tI46 tI29 (by decide)))))
  have k57 := kq13.2 _ _ kI47 (orN (tg_ne tI47 tI0 (by decide)) (orN (tg_ne tI47 tI27 (by decide)) (orN (tg_ne tI47 tI28 (by decide)) (tg_ne tI47 tI29 (by decide)))))
  have k58 := kq13.2 _ _ kI48 (orN (tg_ne tI48 tI0 (by decide)) (orN (tg_ne tI48 tI27 (by decide)) (orN (tg_ne tI48 tI28 (by decide)) (tg_ne tI48 tI29 (by decide)))))
  have fm59 : ∀ k9, k9 < 12 → qp k9 = some (pr k9) ∧ wd_at w1 (pr k9) (.inl (cy 2, 12, .inl (fp k9))) ∧ tg (pr k9) = 11000 + k9 := fun k9 hi9 => ⟨(hFPR k9 hi9).1, kq13.2 _ _ (hFPR k9 hi9).2.1 (orN (tg_ne (hFPR k9 hi9).2.2 tI0 (tqA (show 10000 < 11000 by decide))) (orN (tg_ne (hFPR k9 hi9).2.2 tI27 (tqA (show 10135 < 11000 by decide))) (orN (tg_ne (hFPR k9 hi9).2.2 tI28 (tqA (show 10136 < 11000 by decide))) (tg_ne (hFPR k9 hi9).2.2 tI29 (tqA (show 10137 < 11000 by decide)))))), (hFPR k9 hi9).2.2⟩
  have fm60 : ∀ k9, k9 < 12 → qw k9 = some (wr k9) ∧ wd_at w1 (wr k9) (.inl (cy 2, 12, .inl (fw k9))) ∧ tg (wr k9) = 12000 + k9 := fun k9 hi9 => ⟨(hFWR k9 hi9).1, kq13.2 _ _ (hFWR k9 hi9).2.1 (orN (tg_ne (hFWR k9 hi9).2.2 tI0 (tqA (show 10000 < 12000 by decide))) (orN (tg_ne (hFWR k9 hi9).2.2 tI27 (tqA (show 10135 < 12000 by decide))) (orN (tg_ne (hFWR k9 hi9).2.2 tI28 (tqA (show 10136 < 12000 by decide))) (tg_ne (hFWR k9 hi9).2.2 tI29 (tqA (show 10137 < 12000 by decide)))))), (hFWR k9 hi9).2.2⟩
  have fm61 : ∀ k9, k9 < 60 → qs k9 = some (sr k9) ∧ wd_at w1 (sr k9) (.inl (cy 2, 12, .inl (fs k9))) ∧ tg (sr k9) = 13000 + k9 := fun k9 hi9 => ⟨(hFSR k9 hi9).1, kq13.2 _ _ (hFSR k9 hi9).2.1 (orN (tg_ne (hFSR k9 hi9).2.2 tI0 (tqA (show 10000 < 13000 by decide))) (orN (tg_ne (hFSR k9 hi9).2.2 tI27 (tqA (show 10135 < 13000 by decide))) (orN (tg_ne (hFSR k9 hi9).2.2 tI28 (tqA (show 10136 < 13000 by decide))) (tg_ne (hFSR k9 hi9).2.2 tI29 (tqA (show 10137 < 13000 by decide)))))), (hFSR k9 hi9).2.2⟩
  have kp62 := kp0.tr kq13 (fun b9 hm q9 => (fun q9 => Or.elim q9 (fun q9 => q9 ▸ (tgT tI0 (by decide))) (fun q9 => Or.elim q9 (fun q9 => q9 ▸ (tgT tI27 (by decide))) (fun q9 => Or.elim q9 (fun q9 => q9 ▸ (tgT tI28 (by decide))) (fun q9 => q9 ▸ (tgT tI29 (by decide)))))) q9)
  have hX63 : IM cy tg y td pc ac sc 0 se plv Pm Wm av1 av2 av3 zC tB (lawB lb tB ln) rt tT av0 sp0 sp1 pwo phd pgd pdy pno ptp co ra sh hto hpp hle ham hhh hdd hru hde hcp hld w1 := IM.mk m2 m3 m4 m5 m6 m8 m9 m10 m11 m12 m13 m14 m17 m18 m19 m20 m21 m22 m23 m24 m29 m30 m31 m32 m33 m34 m35 m36 m37 m39 m40 m41 m42 m43 m44 m45 m46 m47 m48 m49 m51 m52 m53 m54 m56 m57 m58 m59 gf v0 wx1 wx2 wx3 v50 f4 f5 f6 f8 f9 f10 f11 f12 f13 f14 f17 f18 f19 f20 f21 f22 f29 f30 f31 f32 f33 f34 gx4 gx5 gx6 f39 f40 f41 f42 f43 f44 f45 f46 f47 f48 f49 f51 f52 f53 f54 f56 f57 f58 f59 qp pr fp qw wr fw qs sr fs (by omega) (by omega) (by omega) (by omega) (by omega) (by omega) hrl hc ht hp hso hlo htd hmp hmw hav hzm (hz8) hmt0 hav0 hs0 hs1 hco hra hpp9 hsh9 k9 tI0 k14 tI1 k15 tI2 k16 tI3 k17 tI4 k18 tI5 k19 tI6 k20 tI7 k21 tI8 k22 tI9 k23 tI10 k24 tI11 k25 tI12 k26 tI13 k27 tI14 k28 tI15 k29 tI16 k30 tI17 k31 tI18 k32 tI19 k33 tI20 k34 tI21 k35 tI22 k36 tI23 k37 tI24 k38 tI25 k39 tI26 k10 tI27 k11 tI28 k12 tI29 k40 tI30 k41 tI31 k42 tI32 k43 tI33 k44 tI34 k45 tI35 k46 tI36 k47 tI37 k48 tI38 k49 tI39 k50 tI40 k51 tI41 k52 tI42 k53 tI43 k54 tI44 k55 tI45 k56 tI46 k57 tI47 k58 tI48 fm59 fm60 fm61
  exact ⟨rfl, ⟨kp62, hX63⟩⟩
set_option maxHeartbeats 4000000 in
set_option maxRecDepth 100000 in
theorem M_show (l : Launch) (D : va_G) (cy : Nat → ClassId) (sk sv : Nat → Nat) (w : Wd) (tg : Nat → Nat) (y : Nat) (td : Int32) (pc ac sc ln : Nat) (se plv : Nat → Int32) (Pm Wm : Nat → Nat → Nat) (av1 av2 av3 : Nat → Int32) (zC : Nat → Nat → Int32) (tB lb : Nat → Int32) (rt : Nat → Nat) (tT : Nat → Nat → Nat → Int32) (av0 sp0 sp1 pwo phd pgd pdy pno ptp co ra : Nat → Int32) (sh : Nat) (hto : Nat → Nat) (hpp hle ham hhh hdd hru hde hcp hld : Nat → Int32) (x1 x2 x3 x4 x5 x6 : Int32) (hIM0 : IM cy tg y td pc ac sc ln se plv Pm Wm av1 av2 av3 zC tB lb rt tT av0 sp0 sp1 pwo phd pgd pdy pno ptp co ra sh hto hpp hle ham hhh hdd hru hde hcp hld w) : Ct l D cy sk sv yX11_show wsX11_show ({ frames := 2, cells := 0, slots := 0, locals := 52 }) [.ref y, .int x1, .int x2, .int x3, .int x4, .int x5, .int x6] w (fun v w1 => v = some (.int (if (shB sh pc plv x1 x2 x3 x4 x5) then -1 else (deI (shF ac sc av0 av1 av2 sp0 sp1 zC plv pwo phd pgd pdy pno td x1 x2 x3 x4 x5) (tT x1.toNatClampNeg) (rt x1.toNatClampNeg)))) ∧ MP cy tg y td pc ac sc ln se plv Pm Wm av1 av2 av3 zC tB lb rt tT av0 sp0 sp1 pwo phd pgd pdy (shN (shB sh pc plv x1 x2 x3 x4 x5) (deI (shF ac sc av0 av1 av2 sp0 sp1 zC plv pwo phd pgd pdy pno td x1 x2 x3 x4 x5) (tT x1.toNatClampNeg) (rt x1.toNatClampNeg)) x6 plv pno x2.toNatClampNeg (amI (plv x2.toNatClampNeg) (pwo x2.toNatClampNeg) x4)) (shT (shB sh pc plv x1 x2 x3 x4 x5) (deI (shF ac sc av0 av1 av2 sp0 sp1 zC plv pwo phd pgd pdy pno td x1 x2 x3 x4 x5) (tT x1.toNatClampNeg) (rt x1.toNatClampNeg)) ptp x2.toNatClampNeg) co ra (if (shB sh pc plv x1 x2 x3 x4 x5) then sh else sh + 1) (shU (shB sh pc plv x1 x2 x3 x4 x5) hto sh x1.toNatClampNeg) (shU (shB sh pc plv x1 x2 x3 x4 x5) hpp sh x2) (shU (shB sh pc plv x1 x2 x3 x4 x5) hle sh x3) (shU (shB sh pc plv x1 x2 x3 x4 x5) ham sh (amI (plv x2.toNatClampNeg) (pwo x2.toNatClampNeg) x4)) (shU (shB sh pc plv x1 x2 x3 x4 x5) hhh sh x5) (shU (shB sh pc plv x1 x2 x3 x4 x5) hdd sh td) (shU (shB sh pc plv x1 x2 x3 x4 x5) hru sh (ruI (shF ac sc av0 av1 av2 sp0 sp1 zC plv pwo phd pgd pdy pno td x1 x2 x3 x4 x5) (tT x1.toNatClampNeg) (rt x1.toNatClampNeg))) (shU (shB sh pc plv x1 x2 x3 x4 x5) hde sh (deI (shF ac sc av0 av1 av2 sp0 sp1 zC plv pwo phd pgd pdy pno td x1 x2 x3 x4 x5) (tT x1.toNatClampNeg) (rt x1.toNatClampNeg))) (shU (shB sh pc plv x1 x2 x3 x4 x5) hcp sh (if (deI (shF ac sc av0 av1 av2 sp0 sp1 zC plv pwo phd pgd pdy pno td x1 x2 x3 x4 x5) (tT x1.toNatClampNeg) (rt x1.toNatClampNeg)) = 0 then (cnL (amI (plv x2.toNatClampNeg) (pwo x2.toNatClampNeg) x4) (ra x1.toNatClampNeg)).toInt32 else 0)) (shU (shB sh pc plv x1 x2 x3 x4 x5) hld sh (if (deI (shF ac sc av0 av1 av2 sp0 sp1 zC plv pwo phd pgd pdy pno td x1 x2 x3 x4 x5) (tT x1.toNatClampNeg) (rt x1.toNatClampNeg)) = 0 then lday (nws 0 Pm Wm) td x1.toNatClampNeg 0 else -1)) w w1) := by
  have kp0 : wd_kp (fun b => 10000 ≤ tg b) w w := wd_kp.rf
  refine hIM0 _ ?_
  intro m2 m3 m4 m5 m6 m8 m9 m10 m11 m12 m13 m14 m17 m18 m19 m20 m21 m22 m23 m24 m29 m30 m31 m32 m33 m34 m35 m36 m37 m39 m40 m41 m42 m43 m44 m45 m46 m47 m48 m49 m51 m52 m53 m54 m56 m57 m58 m59 gf v0 v26 v27 v28 v50 f4 f5 f6 f8 f9 f10 f11 f12 f13 f14 f17 f18 f19 f20 f21 f22 f29 f30 f31 f32 f33 f34 f35 f36 f37 f39 f40 f41 f42 f43 f44 f45 f46 f47 f48 f49 f51 f52 f53 f54 f56 f57 f58 f59 qp pr fp qw wr fw qs sr fs hp90 hp91 hp92 hp93 hp94 hp95 hrl hc ht hp hso hlo htd hmp hmw hav hzm hlb hmt0 hav0 hs0 hs1 hco hra hpp9 hsh9 kI0 tI0 kI1 tI1 kI2 tI2 kI3 tI3 kI4 tI4 kI5 tI5 kI6 tI6 kI7 tI7 kI8 tI8 kI9 tI9 kI10 tI10 kI11 tI11 kI12 tI12 kI13 tI13 kI14 tI14 kI15 tI15 kI16 tI16 kI17 tI17 kI18 tI18 kI19 tI19 kI20 tI20 kI21 tI21 kI22 tI22 kI23 tI23 kI24 tI24 kI25 tI25 kI26 tI26 kI27 tI27 kI28 tI28 kI29 tI29 kI30 tI30 kI31 tI31 kI32 tI32 kI33 tI33 kI34 tI34 kI35 tI35 kI36 tI36 kI37 tI37 kI38 tI38 kI39 tI39 kI40 tI40 kI41 tI41 kI42 tI42 kI43 tI43 kI44 tI44 kI45 tI45 kI46 tI46 kI47 tI47 kI48 tI48 hFPR hFWR hFSR
  refine Ct.mono (m_show l D cy sk sv w tg y m2 m3 m4 m5 m6 m8 m9 m10 m11 m12 m13 m14 m17 m18 m19 m20 m21 m22 m23 m24 m29 m30 m31 m32 m33 m34 m35 m36 m37 m39 m40 m41 m42 m43 m44 m45 m46 m47 m48 m49 m51 m52 m53 m54 m56 m57 m58 m59 pc ac sc ln sh gf v0 td v26 v27 v28 v50 f5 f6 f8 f9 f10 f11 f12 f13 f14 f17 f18 f19 f20 f21 f22 f29 f30 f31 f32 f33 f34 f39 f40 f41 f42 f43 f44 f45 f46 f47 f48 qp pr fp qw wr fw qs sr fs x1 x2 x3 x4 x5 x6 Pm Wm av0 av1 av2 av3 sp0 sp1 zC plv pwo phd pgd pdy pno ptp co ra hto hpp hle ham hhh hdd hru hde hcp hld rt tT kI0 kI4 kI5 kI6 kI7 kI8 kI9 kI10 kI11 kI12 kI13 kI14 kI15 kI16 kI17 kI18 kI21 kI22 kI23 kI24 kI25 kI26 kI30 kI31 kI32 kI33 kI34 kI35 kI36 kI37 kI38 kI39 kI1 kI2 kI19 hFPR hFWR hFSR (fun b => b = y ∨ b = m6 ∨ b = m13 ∨ b = m14 ∨ b = m39 ∨ b = m40 ∨ b = m41 ∨ b = m42 ∨ b = m43 ∨ b = m44 ∨ b = m45 ∨ b = m46 ∨ b = m47 ∨ b = m48) (Or.inl rfl) (Or.inr (Or.inl rfl)) (Or.inr (Or.inr (Or.inl rfl))) (Or.inr (Or.inr (Or.inr (Or.inl rfl)))) (Or.inr (Or.inr (Or.inr (Or.inr (Or.inl rfl))))) (Or.inr (Or.inr (Or.inr (Or.inr (Or.inr (Or.inl rfl)))))) (Or.inr (Or.inr (Or.inr (Or.inr (Or.inr (Or.inr (Or.inl rfl))))))) (Or.inr (Or.inr (Or.inr (Or.inr (Or.inr (Or.inr (Or.inr (Or.inl rfl)))))))) (Or.inr (Or.inr (Or.inr (Or.inr (Or.inr (Or.inr (Or.inr (Or.inr (Or.inl rfl))))))))) (Or.inr (Or.inr (Or.inr (Or.inr (Or.inr (Or.inr (Or.inr (Or.inr (Or.inr (Or.inl rfl)))))))))) (Or.inr (Or.inr (Or.inr (Or.inr (Or.inr (Or.inr (Or.inr (Or.inr (Or.inr (Or.inr (Or.inl rfl))))))))))) (Or.inr (Or.inr (Or.inr (Or.inr (Or.inr (Or.inr (Or.inr (Or.inr (Or.inr (Or.inr (Or.inr (Or.inl rfl)))))))))))) (Or.inr (Or.inr (Or.inr (Or.inr (Or.inr (Or.inr (Or.inr (Or.inr (Or.inr (Or.inr (Or.inr (Or.inr (Or.inl rfl))))))))))))) (Or.inr (Or.inr (Or.inr (Or.inr (Or.inr (Or.inr (Or.inr (Or.inr (Or.inr (Or.inr (Or.inr (Or.inr (Or.inr rfl))))))))))))) tI0 tI4 tI5 tI6 tI7 tI8 tI9 tI10 tI11 tI12 tI13 tI14 tI15 tI16 tI17 tI18 tI21 tI22 tI23 tI24 tI25 tI26 tI30 tI31 tI32 tI33 tI34 tI35 tI36 tI37 tI38 tI39 tI1 tI2 tI19 (by assumption) (by assumption) (by omega) (by omega) (by omega) (by omega) (by assumption) (by assumption) (by assumption) (by assumption) (by assumption) (by assumption) (by assumption) (by assumption) (by assumption) (by assumption) (by assumption) (by assumption) (by assumption) (by assumption) (by assumption)) ?_
  intro v w1 hp
  obtain ⟨shx1, gx2, gx3, gx4, gx5, gx6, gx7, gx8, gx9, gx10, gx11, gx12, gx13, gx14, rx15, rfl, rfl, rfl, hz16, hz17, hz18, hz19, hz20, kq35, k21, k22, k23, k24, k25, k26, k27, k28, k29, k30, k31, k32, k33, k34⟩ := hp
  have k36 := kq35.2 _ _ kI1 (orN (tg_ne tI1 tI0 (by decide)) (orN (tg_ne tI1 tI5 (by decide)) (orN (tg_ne tI1 tI11 (by decide)) (orN (tg_ne tI1 tI12 (by decide)) (orN (tg_ne tI1 tI30 (by decide)) (orN (tg_ne tI1 tI31 (by decide)) (orN (tg_ne tI1 tI32 (by decide)) (orN (tg_ne tI1 tI33 (by decide)) (orN (tg_ne tI1 tI34 (by decide)) (orN (tg_ne tI1 tI35 (by decide)) (orN (tg_ne tI1 tI36 (by decide)) (orN (tg_ne tI1 tI37 (by decide)) (orN (tg_ne tI1 tI38 (by decide)) (tg_ne tI1 tI39 (by decide)))))))))))))))
  have k37 := kq35.2 _ _ kI2 (orN (tg_ne tI2 tI0 (by decide)) (orN (tg_ne tI2 tI5 (by decide)) (orN (tg_ne tI2 tI11 (by decide)) (orN (tg_ne tI2 tI12 (by decide)) (orN (tg_ne tI2 tI30 (by decide)) (orN (tg_ne tI2 tI31 (by decide)) (orN (tg_ne tI2 tI32 (by decide)) (orN (tg_ne tI2 tI33 (by decide)) (orN (tg_ne tI2 tI34 (by decide)) (orN (tg_ne tI2 tI35 (by decide)) (orN (tg_ne tI2 tI36 (by decide)) (orN (tg_ne tI2 tI37 (by decide)) (orN (tg_ne tI2 tI38 (by decide)) (tg_ne tI2 tI39 (by decide)))))))))))))))
  have k38 := kq35.2 _ _ kI3 (orN (tg_ne tI3 tI0 (by decide)) (orN (tg_ne tI3 tI5 (by decide)) (orN (tg_ne tI3 tI11 (by decide)) (orN (tg_ne tI3 tI12 (by decide)) (orN (tg_ne tI3 tI30 (by decide)) (orN (tg_ne tI3 tI31 (by decide)) (orN (tg_ne tI3 tI32 (by decide)) (orN (tg_ne tI3 tI33 (by decide)) (orN (tg_ne tI3 tI34 (by decide)) (orN (tg_ne tI3 tI35 (by decide)) (orN (tg_ne tI3 tI36 (by decide)) (orN (tg_ne tI3 tI37 (by decide)) (orN (tg_ne tI3 tI38 (by decide)) (tg_ne tI3 tI39 (by decide)))))))))))))))
  have k39 := kq35.2 _ _ kI4 (orN (tg_ne tI4 tI0 (by decide)) (orN (tg_ne tI4 tI5 (by decide)) (orN (tg_ne tI4 tI11 (by decide)) (orN (tg_ne tI4 tI12 (by decide)) (orN (tg_ne tI4 tI30 (by decide)) (orN (tg_ne tI4 tI31 (by decide)) (orN (tg_ne tI4 tI32 (by decide)) (orN (tg_ne tI4 tI33 (by decide)) (orN (tg_ne tI4 tI34 (by decide)) (orN (tg_ne tI4 tI35 (by decide)) (orN (tg_ne tI4 tI36 (by decide)) (orN (tg_ne tI4 tI37 (by decide)) (orN (tg_ne tI4 tI38 (by decide)) (tg_ne tI4 tI39 (by decide)))))))))))))))
  have k40 := kq35.2 _ _ kI6 (orN (tg_ne tI6 tI0 (by decide)) (orN (tg_ne tI6 tI5 (by decide)) (orN (tg_ne tI6 tI11 (by decide)) (orN (tg_ne tI6 tI12 (by decide)) (orN (tg_ne tI6 tI30 (by decide)) (orN (tg_ne tI6 tI31 (by decide)) (orN (tg_ne tI6 tI32 (by decide)) (orN (tg_ne tI6 tI33 (by decide)) (orN (tg_ne tI6 tI34 (by decide)) (orN (tg_ne tI6 tI35 (by decide)) (orN (tg_ne tI6 tI36 (by decide)) (orN (tg_ne tI6 tI37 (by decide)) (orN (tg_ne tI6 tI38 (by decide)) (tg_ne tI6 tI39 (by decide)))))))))))))))
  have k41 := kq35.2 _ _ kI7 (orN (tg_ne tI7 tI0 (by decide)) (orN (tg_ne tI7 tI5 (by decide)) (orN (tg_ne tI7 tI11 (by decide)) (orN (tg_ne tI7 tI12 (by decide)) (orN (tg_ne tI7 tI30 (by decide)) (orN (tg_ne tI7 tI31 (by decide)) (orN (tg_ne tI7 tI32 (by decide)) (orN (tg_ne tI7 tI33 (by decide)) (orN (tg_ne tI7 tI34 (by decide)) (orN (tg_ne tI7 tI35 (by decide)) (orN (tg_ne tI7 tI36 (by decide)) (orN (tg_ne tI7 tI37 (by decide)) (orN (tg_ne tI7 tI38 (by decide)) (tg_ne tI7 tI39 (by decide)))))))))))))))
  have k42 := kq35.2 _ _ kI8 (orN (tg_ne tI8 tI0 (by decide)) (orN (tg_ne tI8 tI5 (by decide)) (orN (tg_ne tI8 tI11 (by decide)) (orN (tg_ne tI8 tI12 (by decide)) (orN (tg_ne tI8 tI30 (by decide)) (orN (tg_ne tI8 tI31 (by decide)) (orN (tg_ne tI8 tI32 (by decide)) (orN (tg_ne tI8 tI33 (by decide)) (orN (tg_ne tI8 tI34 (by decide)) (orN (tg_ne tI8 tI35 (by decide)) (orN (tg_ne tI8 tI36 (by decide)) (orN (tg_ne tI8 tI37 (by decide)) (orN (tg_ne tI8 tI38 (by decide)) (tg_ne tI8 tI39 (by decide)))))))))))))))
  have k43 := kq35.2 _ _ kI9 (orN (tg_ne tI9 tI0 (by decide)) (orN (tg_ne tI9 tI5 (by decide)) (orN (tg_ne tI9 tI11 (by decide)) (orN (tg_ne tI9 tI12 (by decide)) (orN (tg_ne tI9 tI30 (by decide)) (orN (tg_ne tI9 tI31 (by decide)) (orN (tg_ne tI9 tI32 (by decide)) (orN (tg_ne tI9 tI33 (by decide)) (orN (tg_ne tI9 tI34 (by decide)) (orN (tg_ne tI9 tI35 (by decide)) (orN (tg_ne tI9 tI36 (by decide)) (orN (tg_ne tI9 tI37 (by decide)) (orN (tg_ne tI9 tI38 (by decide)) (tg_ne tI9 tI39 (by decide)))))))))))))))
  have k44 := kq35.2 _ _ kI10 (orN (tg_ne tI10 tI0 (by decide)) (orN (tg_ne tI10 tI5 (by decide)) (orN (tg_ne tI10 tI11 (by decide)) (orN (tg_ne tI10 tI12 (by decide)) (orN (tg_ne tI10 tI30 (by decide)) (orN (tg_ne tI10 tI31 (by decide)) (orN (tg_ne tI10 tI32 (by decide)) (orN (tg_ne tI10 tI33 (by decide)) (orN (tg_ne tI10 tI34 (by decide)) (orN (tg_ne tI10 tI35 (by decide)) (orN (tg_ne tI10 tI36 (by decide)) (orN (tg_ne tI10 tI37 (by decide)) (orN (tg_ne tI10 tI38 (by decide)) (tg_ne tI10 tI39 (by decide)))))))))))))))
  have k45 := kq35.2 _ _ kI13 (orN (tg_ne tI13 tI0 (by decide)) (orN (tg_ne tI13 tI5 (by decide)) (orN (tg_ne tI13 tI11 (by decide)) (orN (tg_ne tI13 tI12 (by decide)) (orN (tg_ne tI13 tI30 (by decide)) (orN (tg_ne tI13 tI31 (by decide)) (orN (tg_ne tI13 tI32 (by decide)) (orN (tg_ne tI13 tI33 (by decide)) (orN (tg_ne tI13 tI34 (by decide)) (orN (tg_ne tI13 tI35 (by decide)) (orN (tg_ne tI13 tI36 (by decide)) (orN (tg_ne tI13 tI37 (by decide)) (orN (tg_ne tI13 tI38 (by decide)) (tg_ne tI13 tI39 (by decide)))))))))))))))
  have k46 := kq35.2 _ _ kI14 (orN (tg_ne tI14 tI0 (by decide)) (orN (tg_ne tI14 tI5 (by decide)) (orN (tg_ne tI14 tI11 (by decide)) (orN (tg_ne tI14 tI12 (by decide)) (orN (tg_ne tI14 tI30 (by decide)) (orN (tg_ne tI14 tI31 (by decide)) (orN (tg_ne tI14 tI32 (by decide)) (orN (tg_ne tI14 tI33 (by decide)) (orN (tg_ne tI14 tI34 (by decide)) (orN (tg_ne tI14 tI35 (by decide)) (orN (tg_ne tI14 tI36 (by decide)) (orN (tg_ne tI14 tI37 (by decide)) (orN (tg_ne tI14 tI38 (by decide)) (tg_ne tI14 tI39 (by decide)))))))))))))))
  have k47 := kq35.2 _ _ kI15 (orN (tg_ne tI15 tI0 (by decide)) (orN (tg_ne tI15 tI5 (by decide)) (orN (tg_ne tI15 tI11 (by decide)) (orN (tg_ne tI15 tI12 (by decide)) (orN (tg_ne tI15 tI30 (by decide)) (orN (tg_ne tI15 tI31 (by decide)) (orN (tg_ne tI15 tI32 (by decide)) (orN (tg_ne tI15 tI33 (by decide)) (orN (tg_ne tI15 tI34 (by decide)) (orN (tg_ne tI15 tI35 (by decide)) (orN (tg_ne tI15 tI36 (by decide)) (orN (tg_ne tI15 tI37 (by decide)) (orN (tg_ne tI15 tI38 (by decide)) (tg_ne tI15 tI39 (by decide)))))))))))))))
  have k48 := kq35.2 _ _ kI16 (orN (tg_ne tI16 tI0 (by decide)) (orN (tg_ne tI16 tI5 (by decide)) (orN (tg_ne tI16 tI11 (by decide)) (orN (tg_ne tI16 tI12 (by decide)) (orN (tg_ne tI16 tI30 (by decide)) (orN (tg_ne tI16 tI31 (by decide)) (orN (tg_ne tI16 tI32 (by decide)) (orN (tg_ne tI16 tI33 (by decide)) (orN (tg_ne tI16 tI34 (by decide)) (orN (tg_ne tI16 tI35 (by decide)) (orN (tg_ne tI16 tI36 (by decide)) (orN (tg_ne tI16 tI37 (by decide)) (orN (tg_ne tI16 tI38 (by decide)) (tg_ne tI16 tI39 (by decide)))))))))))))))
  have k49 := kq35.2 _ _ kI17 (orN (tg_ne tI17 tI0 (by decide)) (orN (tg_ne tI17 tI5 (by decide)) (orN (tg_ne tI17 tI11 (by decide)) (orN (tg_ne tI17 tI12 (by decide)) (orN (tg_ne tI17 tI30 (by decide)) (orN (tg_ne tI17 tI31 (by decide)) (orN (tg_ne tI17 tI32 (by decide)) (orN (tg_ne tI17 tI33 (by decide)) (orN (tg_ne tI17 tI34 (by decide)) (orN (tg_ne tI17 tI35 (by decide)) (orN (tg_ne tI17 tI36 (by decide)) (orN (tg_ne tI17 tI37 (by decide)) (orN (tg_ne tI17 tI38 (by decide)) (tg_ne tI17 tI39 (by decide)))))))))))))))
  have k50 := kq35.2 _ _ kI18 (orN (tg_ne tI18 tI0 (by decide)) (orN (tg_ne tI18 tI5 (by decide)) (orN (tg_ne tI18 tI11 (by decide)) (orN (tg_ne tI18 tI12 (by decide)) (orN (tg_ne tI18 tI30 (by decide)) (orN (tg_ne tI18 tI31 (by decide)) (orN (tg_ne tI18 tI32 (by decide)) (orN (tg_ne tI18 tI33 (by decide)) (orN (tg_ne tI18 tI34 (by decide)) (orN (tg_ne tI18 tI35 (by decide)) (orN (tg_ne tI18 tI36 (by decide)) (orN (tg_ne tI18 tI37 (by decide)) (orN (tg_ne tI18 tI38 (by decide)) (tg_ne tI18 tI39 (by decide)))))))))))))))
  have k51 := kq35.2 _ _ kI19 (orN (tg_ne tI19 tI0 (by decide)) (orN (tg_ne tI19 tI5 (by decide)) (orN (tg_ne tI19 tI11 (by decide)) (orN (tg_ne tI19 tI12 (by decide)) (orN (tg_ne tI19 tI30 (by decide)) (orN (tg_ne tI19 tI31 (by decide)) (orN (tg_ne tI19 tI32 (by decide)) (orN (tg_ne tI19 tI33 (by decide)) (orN (tg_ne tI19 tI34 (by decide)) (orN (tg_ne tI19 tI35 (by decide)) (orN (tg_ne tI19 tI36 (by decide)) (orN (tg_ne tI19 tI37 (by decide)) (orN (tg_ne tI19 tI38 (by decide)) (tg_ne tI19 tI39 (by decide)))))))))))))))
  have k52 := kq35.2 _ _ kI20 (orN (tg_ne tI20 tI0 (by decide)) (orN (tg_ne tI20 tI5 (by decide)) (orN (tg_ne tI20 tI11 (by decide)) (orN (tg_ne tI20 tI12 (by decide)) (orN (tg_ne tI20 tI30 (by decide)) (orN (tg_ne tI20 tI31 (by decide)) (orN (tg_ne tI20 tI32 (by decide)) (orN (tg_ne tI20 tI33 (by decide)) (orN (tg_ne tI20 tI34 (by decide)) (orN (tg_ne tI20 tI35 (by decide)) (orN (tg_ne tI20 tI36 (by decide)) (orN (tg_ne tI20 tI37 (by decide)) (orN (tg_ne tI20 tI38 (by decide)) (tg_ne tI20 tI39 (by decide)))))))))))))))
  have k53 := kq35.2 _ _ kI21 (orN (tg_ne tI21 tI0 (by decide)) (orN (tg_ne tI21 tI5 (by decide)) (orN (tg_ne tI21 tI11 (by decide)) (orN (tg_ne tI21 tI12 (by decide)) (orN (tg_ne tI21 tI30 (by decide)) (orN (tg_ne tI21 tI31 (by decide)) (orN (tg_ne tI21 tI32 (by decide)) (orN (tg_ne tI21 tI33 (by decide)) (orN (tg_ne tI21 tI34 (by decide)) (orN (tg_ne tI21 tI35 (by decide)) (orN (tg_ne tI21 tI36 (by decide)) (orN (tg_ne tI21 tI37 (by decide)) (orN (tg_ne tI21 tI38 (by decide)) (tg_ne tI21 tI39 (by decide)))))))))))))))
  have k54 := kq35.2 _ _ kI22 (orN (tg_ne tI22 tI0 (by decide)) (orN (tg_ne tI22 tI5 (by decide)) (orN (tg_ne tI22 tI11 (by decide)) (orN (tg_ne tI22 tI12 (by decide)) (orN (tg_ne tI22 tI30 (by decide)) (orN (tg_ne tI22 tI31 (by decide)) (orN (tg_ne tI22 tI32 (by decide)) (orN (tg_ne tI22 tI33 (by decide)) (orN (tg_ne tI22 tI34 (by decide)) (orN (tg_ne tI22 tI35 (by decide)) (orN (tg_ne tI22 tI36 (by decide)) (orN (tg_ne tI22 tI37 (by decide)) (orN (tg_ne tI22 tI38 (by decide)) (tg_ne tI22 tI39 (by decide)))))))))))))))
  have k55 := kq35.2 _ _ kI23 (orN (tg_ne tI23 tI0 (by decide)) (orN (tg_ne tI23 tI5 (by decide)) (orN (tg_ne tI23 tI11 (by decide)) (orN (tg_ne tI23 tI12 (by decide)) (orN (tg_ne tI23 tI30 (by decide)) (orN (tg_ne tI23 tI31 (by decide)) (orN (tg_ne tI23 tI32 (by decide)) (orN (tg_ne tI23 tI33 (by decide)) (orN (tg_ne tI23 tI34 (by decide)) (orN (tg_ne tI23 tI35 (by decide)) (orN (tg_ne tI23 tI36 (by decide)) (orN (tg_ne tI23 tI37 (by decide)) (orN (tg_ne tI23 tI38 (by decide)) (tg_ne tI23 tI39 (by decide)))))))))))))))
  have k56 := kq35.2 _ _ kI24 (orN (tg_ne tI24 tI0 (by decide)) (orN (tg_ne tI24 tI5 (by decide)) (orN (tg_ne tI24 tI11 (by decide)) (orN (tg_ne tI24 tI12 (by decide)) (orN (tg_ne tI24 tI30 (by decide)) (orN (tg_ne tI24 tI31 (by decide)) (orN (tg_ne tI24 tI32 (by decide)) (orN (tg_ne tI24 tI33 (by decide)) (orN (tg_ne tI24 tI34 (by decide)) (orN (tg_ne tI24 tI35 (by decide)) (orN (tg_ne tI24 tI36 (by decide)) (orN (tg_ne tI24 tI37 (by decide)) (orN (tg_ne tI24 tI38 (by decide)) (tg_ne tI24 tI39 (by decide)))))))))))))))
  have k57 := kq35.2 _ _ kI25 (orN (tg_ne tI25 tI0 (by decide)) (orN (tg_ne tI25 tI5 (by decide)) (orN (tg_ne tI25 tI11 (by decide)) (orN (tg_ne tI25 tI12 (by decide)) (orN (tg_ne tI25 tI30 (by decide)) (orN (tg_ne tI25 tI31 (by decide)) (orN (tg_ne tI25 tI32 (by decide)) (orN (tg_ne tI25 tI33 (by decide)) (orN (tg_ne tI25 tI34 (by decide)) (orN (tg_ne tI25 tI35 (by decide)) (orN (tg_ne tI25 tI36 (by decide)) (orN (tg_ne tI25 tI37 (by decide)) (orN (tg_ne tI25 tI38 (by decide)) (tg_ne tI25 tI39 (by decide)))))))))))))))
  have k58 := kq35.2 _ _ kI26 (orN (tg_ne tI26 tI0 (by decide)) (orN (tg_ne tI26 tI5 (by decide)) (orN (tg_ne tI26 tI11 (by decide)) (orN (tg_ne tI26 tI12 (by decide)) (orN (tg_ne tI26 tI30 (by decide)) (orN (tg_ne tI26 tI31 (by decide)) (orN (tg_ne tI26 tI32 (by decide)) (orN (tg_ne tI26 tI33 (by decide)) (orN (tg_ne tI26 tI34 (by decide)) (orN (tg_ne tI26 tI35 (by decide)) (orN (tg_ne tI26 tI36 (by decide)) (orN (tg_ne tI26 tI37 (by decide)) (orN (tg_ne tI26 tI38 (by decide)) (tg_ne tI26 tI39 (by decide)))))))))))))))
  have k59 := kq35.2 _ _ kI27 (orN (tg_ne tI27 tI0 (by decide)) (orN (tg_ne tI27 tI5 (by decide)) (orN (tg_ne tI27 tI11 (by decide)) (orN (tg_ne tI27 tI12 (by decide)) (orN (tg_ne tI27 tI30 (by decide)) (orN (tg_ne tI27 tI31 (by decide)) (orN (tg_ne tI27 tI32 (by decide)) (orN (tg_ne tI27 tI33 (by decide)) (orN (tg_ne tI27 tI34 (by decide)) (orN (tg_ne tI27 tI35 (by decide)) (orN (tg_ne tI27 tI36 (by decide)) (orN (tg_ne tI27 tI37 (by decide)) (orN (tg_ne tI27 tI38 (by decide)) (tg_ne tI27 tI39 (by decide)))))))))))))))
  have k60 := kq35.2 _ _ kI28 (orN (tg_ne tI28 tI0 (by decide)) (orN (tg_ne tI28 tI5 (by decide)) (orN (tg_ne tI28 tI11 (by decide)) (orN (tg_ne tI28 tI12 (by decide)) (orN (tg_ne tI28 tI30 (by decide)) (orN (tg_ne tI28 tI31 (by decide)) (orN (tg_ne tI28 tI32 (by decide)) (orN (tg_ne tI28 tI33 (by decide)) (orN (tg_ne tI28 tI34 (by decide)) (orN (tg_ne tI28 tI35 (by decide)) (orN (tg_ne tI28 tI36 (by decide)) (orN (tg_ne tI28 tI37 (by decide)) (orN (tg_ne tI28 tI38 (by decide)) (tg_ne tI28 tI39 (by decide)))))))))))))))
  have k61 := kq35.2 _ _ kI29 (orN (tg_ne tI29 tI0 (by decide)) (orN (tg_ne tI29 tI5 (by decide)) (orN (tg_ne tI29 tI11 (by decide)) (orN (tg_ne tI29 tI12 (by decide)) (orN (tg_ne tI29 tI30 (by decide)) (orN (tg_ne tI29 tI31 (by decide)) (orN (tg_ne tI29 tI32 (by decide)) (orN (tg_ne tI29 tI33 (by decide)) (orN (tg_ne tI29 tI34 (by decide)) (orN (tg_ne tI29 tI35 (by decide)) (orN (tg_ne tI29 tI36 (by decide)) (orN (tg_ne tI29 tI37 (by decide)) (orN (tg_ne tI29 tI38 (by decide)) (tg_ne tI29 tI39 (by decide)))))))))))))))
  have k62 := kq35.2 _ _ kI40 (orN (tg_ne tI40 tI0 (by decide)) (orN (tg_ne tI40 tI5 (by decide)) (orN (tg_ne tI40 tI11 (by decide)) (orN (tg_ne tI40 tI12 (by decide)) (orN (tg_ne tI40 tI30 (by decide)) (orN (tg_ne tI40 tI31 (by decide)) (orN (tg_ne tI40 tI32 (by decide)) (orN (tg_ne tI40 tI33 (by decide)) (orN (tg_ne tI40 tI34 (by decide)) (orN (tg_ne tI40 tI35 (by decide)) (orN (tg_ne tI40 tI36 (by decide)) (orN (tg_ne tI40 tI37 (by decide)) (orN (tg_ne tI40 tI38 (by decide)) (tg_ne tI40 tI39 (by decide)))))))))))))))
  have k63 := kq35.2 _ _ kI41 (orN (tg_ne tI41 tI0 (by decide)) (orN (tg_ne tI41 tI5 (by decide)) (orN (tg_ne tI41 tI11 (by decide)) (orN (tg_ne tI41 tI12 (by decide)) (orN (tg_ne tI41 tI30 (by decide)) (orN (tg_ne tI41 tI31 (by decide)) (orN (tg_ne tI41 tI32 (by decide)) (orN (tg_ne tI41 tI33 (by decide)) (orN (tg_ne tI41 tI34 (by decide)) (orN (tg_ne tI41 tI35 (by decide)) (orN (tg_ne tI41 tI36 (by decide)) (orN (tg_ne tI41 tI37 (by decide)) (orN (tg_ne tI41 tI38 (by decide)) (tg_ne tI41 tI39 (by decide)))))))))))))))
  have k64 := kq35.2 _ _ kI42 (orN (tg_ne tI42 tI0 (by decide)) (orN (tg_ne tI42 tI5 (by decide)) (orN (tg_ne tI42 tI11 (by decide)) (orN (tg_ne tI42 tI12 (by decide)) (orN (tg_ne tI42 tI30 (by decide)) (orN (tg_ne tI42 tI31 (by decide)) (orN (tg_ne tI42 tI32 (by decide)) (orN (tg_ne tI42 tI33 (by decide)) (orN (tg_ne tI42 tI34 (by decide)) (orN (tg_ne tI42 tI35 (by decide)) (orN (tg_ne tI42 tI36 (by decide)) (orN (tg_ne tI42 tI37 (by decide)) (orN (tg_ne tI42 tI38 (by decide)) (tg_ne tI42 tI39 (by decide)))))))))))))))
  have k65 := kq35.2 _ _ kI43 (orN (tg_ne tI43 tI0 (by decide)) (orN (tg_ne tI43 tI5 (by decide)) (orN (tg_ne tI43 tI11 (by decide)) (orN (tg_ne tI43 tI12 (by decide)) (orN (tg_ne tI43 tI30 (by decide)) (orN (tg_ne tI43 tI31 (by decide)) (orN (tg_ne tI43 tI32 (by decide)) (orN (tg_ne tI43 tI33 (by decide)) (orN (tg_ne tI43 tI34 (by decide)) (orN (tg_ne tI43 tI35 (by decide)) (orN (tg_ne tI43 tI36 (by decide)) (orN (tg_ne tI43 tI37 (by decide)) (orN (tg_ne tI43 tI38 (by decide)) (tg_ne tI43 tI39 (by decide)))))))))))))))
  have k66 := kq35.2 _ _ kI44 (orN (tg_ne tI44 tI0 (by decide)) (orN (tg_ne tI44 tI5 (by decide)) (orN (tg_ne tI44 tI11 (by decide)) (orN (tg_ne tI44 tI12 (by decide)) (orN (tg_ne tI44 tI30 (by decide)) (orN (tg_ne tI44 tI31 (by decide)) (orN (tg_ne tI44 tI32 (by decide)) (orN (tg_ne tI44 tI33 (by decide)) (orN (tg_ne tI44 tI34 (by decide)) (orN (tg_ne tI44 tI35 (by decide)) (orN (tg_ne tI44 tI36 (by decide)) (orN (tg_ne tI44 tI37 (by decide)) (orN (tg_ne tI44 tI38 (by decide)) (tg_ne tI44 tI39 (by decide)))))))))))))))
  have k67 := kq35.2 _ _ kI45 (orN (tg_ne tI45 tI0 (by decide)) (orN (tg_ne tI45 tI5 (by decide)) (orN (tg_ne tI45 tI11 (by decide)) (orN (tg_ne tI45 tI12 (by decide)) (orN (tg_ne tI45 tI30 (by decide)) (orN (tg_ne tI45 tI31 (by decide)) (orN (tg_ne tI45 tI32 (by decide)) (orN (tg_ne tI45 tI33 (by decide)) (orN (tg_ne tI45 tI34 (by decide)) (orN (tg_ne tI45 tI35 (by decide)) (orN (tg_ne tI45 tI36 (by decide)) (orN (tg_ne tI45 tI37 (by decide)) (orN (tg_ne tI45 tI38 (by decide)) (tg_ne tI45 tI39 (by decide)))))))))))))))
  have k68 := kq35.2 _ _ kI46 (orN (tg_ne tI46 tI0 (by decide)) (orN (tg_ne tI46 tI5 (by decide)) (orN (tg_ne tI46 tI11 (by decide)) (orN (tg_ne tI46 tI12 (by decide)) (orN (tg_ne tI46 tI30 (by decide)) (orN (tg_ne tI46 tI31 (by decide)) (orN (tg_ne tI46 tI32 (by decide)) (orN (tg_ne tI46 tI33 (by decide)) (orN (tg_ne tI46 tI34 (by decide)) (orN (tg_ne tI46 tI35 (by decide)) (orN (tg_ne tI46 tI36 (by decide)) (orN (tg_ne tI46 tI37 (by decide)) (orN (tg_ne tI46 tI38 (by decide)) (tg_ne tI46 tI39 (by decide)))))))))))))))
  have k69 := kq35.2 _ _ kI47 (orN (tg_ne tI47 tI0 (by decide)) (orN (tg_ne tI47 tI5 (by decide)) (orN (tg_ne tI47 tI11 (by decide)) (orN (tg_ne tI47 tI12 (by decide)) (orN (tg_ne tI47 tI30 (by decide)) (orN (tg_ne tI47 tI31 (by decide)) (orN (tg_ne tI47 tI32 (by decide)) (orN (tg_ne tI47 tI33 (by decide)) (orN (tg_ne tI47 tI34 (by decide)) (orN (tg_ne tI47 tI35 (by decide)) (orN (tg_ne tI47 tI36 (by decide)) (orN (tg_ne tI47 tI37 (by decide)) (orN (tg_ne tI47 tI38 (by decide)) (tg_ne tI47 tI39 (by decide)))))))))))))))
  have k70 := kq35.2 _ _ kI48 (orN (tg_ne tI48 tI0 (by decide)) (orN (tg_ne tI48 tI5 (by decide)) (orN (tg_ne tI48 tI11 (by decide)) (orN (tg_ne tI48 tI12 (by decide)) (orN (tg_ne tI48 tI30 (by decide)) (orN (tg_ne tI48 tI31 (by decide)) (orN (tg_ne tI48 tI32 (by decide)) (orN (tg_ne tI48 tI33 (by decide)) (orN (tg_ne tI48 tI34 (by decide)) (orN (tg_ne tI48 tI35 (by decide)) (orN (tg_ne tI48 tI36 (by decide)) (orN (tg_ne tI48 tI37 (by decide)) (orN (tg_ne tI48 tI38 (by decide)) (tg_ne tI48 tI39 (by decide)))))))))))))))
  have fm71 : ∀ k9, k9 < 12 → qp k9 = some (pr k9) ∧ wd_at w1 (pr k9) (.inl (cy 2, 12, .inl (fp k9))) ∧ tg (pr k9) = 11000 + k9 := fun k9 hi9 => ⟨(hFPR k9 hi9).1, kq35.2 _ _ (hFPR k9 hi9).2.1 (orN (tg_ne (hFPR k9 hi9).2.2 tI0 (tqA (show 10000 < 11000 by decide))) (orN (tg_ne (hFPR k9 hi9).2.2 tI5 (tqA (show 10106 < 11000 by decide))) (orN (tg_ne (hFPR k9 hi9).2.2 tI11 (tqA (show 10113 < 11000 by decide))) (orN (tg_ne (hFPR k9 hi9).2.2 tI12 (tqA (show 10114 < 11000 by decide))) (orN (tg_ne (hFPR k9 hi9).2.2 tI30 (tqA (show 10139 < 11000 by decide))) (orN (tg_ne (hFPR k9 hi9).2.2 tI31 (tqA (show 10140 < 11000 by decide))) (orN (tg_ne (hFPR k9 hi9).2.2 tI32 (tqA (show 10141 < 11000 by decide))) (orN (tg_ne (hFPR k9 hi9).2.2 tI33 (tqA (show 10142 < 11000 by decide))) (orN (tg_ne (hFPR k9 hi9).2.2 tI34 (tqA (show 10143 < 11000 by decide))) (orN (tg_ne (hFPR k9 hi9).2.2 tI35 (tqA (show 10144 < 11000 by decide))) (orN (tg_ne (hFPR k9 hi9).2.2 tI36 (tqA (show 10145 < 11000 by decide))) (orN (tg_ne (hFPR k9 hi9).2.2 tI37 (tqA (show 10146 < 11000 by decide))) (orN (tg_ne (hFPR k9 hi9).2.2 tI38 (tqA (show 10147 < 11000 by decide))) (tg_ne (hFPR k9 hi9).2.2 tI39 (tqA (show 10148 < 11000 by decide)))))))))))))))), (hFPR k9 hi9).2.2⟩
  have fm72 : ∀ k9, k9 < 12 → qw k9 = some (wr k9) ∧ wd_at w1 (wr k9) (.inl (cy 2, 12, .inl (fw k9))) ∧ tg (wr k9) = 12000 + k9 := fun k9 hi9 => ⟨(hFWR k9 hi9).1, kq35.2 _ _ (hFWR k9 hi9).2.1 (orN (tg_ne (hFWR k9 hi9).2.2 tI0 (tqA (show 10000 < 12000 by decide))) (orN (tg_ne (hFWR k9 hi9).2.2 tI5 (tqA (show 10106 < 12000 by decide))) (orN (tg_ne (hFWR k9 hi9).2.2 tI11 (tqA (show 10113 < 12000 by decide))) (orN (tg_ne (hFWR k9 hi9).2.2 tI12 (tqA (show 10114 < 12000 by decide))) (orN (tg_ne (hFWR k9 hi9).2.2 tI30 (tqA (show 10139 < 12000 by decide))) (orN (tg_ne (hFWR k9 hi9).2.2 tI31 (tqA (show 10140 < 12000 by decide))) (orN (tg_ne (hFWR k9 hi9).2.2 tI32 (tqA (show 10141 < 12000 by decide))) (orN (tg_ne (hFWR k9 hi9).2.2 tI33 (tqA (show 10142 < 12000 by decide))) (orN (tg_ne (hFWR k9 hi9).2.2 tI34 (tqA (show 10143 < 12000 by decide))) (orN (tg_ne (hFWR k9 hi9).2.2 tI35 (tqA (show 10144 < 12000 by decide))) (orN (tg_ne (hFWR k9 hi9).2.2 tI36 (tqA (show 10145 < 12000 by decide))) (orN (tg_ne (hFWR k9 hi9).2.2 tI37 (tqA (show 10146 < 12000 by decide))) (orN (tg_ne (hFWR k9 hi9).2.2 tI38 (tqA (show 10147 < 12000 by decide))) (tg_ne (hFWR k9 hi9).2.2 tI39 (tqA (show 10148 < 12000 by decide)))))))))))))))), (hFWR k9 hi9).2.2⟩
  have fm73 : ∀ k9, k9 < 60 → qs k9 = some (sr k9) ∧ wd_at w1 (sr k9) (.inl (cy 2, 12, .inl (fs k9))) ∧ tg (sr k9) = 13000 + k9 := fun k9 hi9 => ⟨(hFSR k9 hi9).1, kq35.2 _ _ (hFSR k9 hi9).2.1 (orN (tg_ne (hFSR k9 hi9).2.2 tI0 (tqA (show 10000 < 13000 by decide))) (orN (tg_ne (hFSR k9 hi9).2.2 tI5 (tqA (show 10106 < 13000 by decide))) (orN (tg_ne (hFSR k9 hi9).2.2 tI11 (tqA (show 10113 < 13000 by decide))) (orN (tg_ne (hFSR k9 hi9).2.2 tI12 (tqA (show 10114 < 13000 by decide))) (orN (tg_ne (hFSR k9 hi9).2.2 tI30 (tqA (show 10139 < 13000 by decide))) (orN (tg_ne (hFSR k9 hi9).2.2 tI31 (tqA (show 10140 < 13000 by decide))) (orN (tg_ne (hFSR k9 hi9).2.2 tI32 (tqA (show 10141 < 13000 by decide))) (orN (tg_ne (hFSR k9 hi9).2.2 tI33 (tqA (show 10142 < 13000 by decide))) (orN (tg_ne (hFSR k9 hi9).2.2 tI34 (tqA (show 10143 < 13000 by decide))) (orN (tg_ne (hFSR k9 hi9).2.2 tI35 (tqA (show 10144 < 13000 by decide))) (orN (tg_ne (hFSR k9 hi9).2.2 tI36 (tqA (show 10145 < 13000 by decide))) (orN (tg_ne (hFSR k9 hi9).2.2 tI37 (tqA (show 10146 < 13000 by decide))) (orN (tg_ne (hFSR k9 hi9).2.2 tI38 (tqA (show 10147 < 13000 by decide))) (tg_ne (hFSR k9 hi9).2.2 tI39 (tqA (show 10148 < 13000 by decide)))))))))))))))), (hFSR k9 hi9).2.2⟩
  have kp74 := kp0.tr kq35 (fun b9 hm q9 => (fun q9 => Or.elim q9 (fun q9 => q9 ▸ (tgT tI0 (by decide))) (fun q9 => Or.elim q9 (fun q9 => q9 ▸ (tgT tI5 (by decide))) (fun q9 => Or.elim q9 (fun q9 => q9 ▸ (tgT tI11 (by decide))) (fun q9 => Or.elim q9 (fun q9 => q9 ▸ (tgT tI12 (by decide))) (fun q9 => Or.elim q9 (fun q9 => q9 ▸ (tgT tI30 (by decide))) (fun q9 => Or.elim q9 (fun q9 => q9 ▸ (tgT tI31 (by decide))) (fun q9 => Or.elim q9 (fun q9 => q9 ▸ (tgT tI32 (by decide))) (fun q9 => Or.elim q9 (fun q9 => q9 ▸ (tgT tI33 (by decide))) (fun q9 => Or.elim q9 (fun q9 => q9 ▸ (tgT tI34 (by decide))) (fun q9 => Or.elim q9 (fun q9 => q9 ▸ (tgT tI35 (by decide))) (fun q9 => Or.elim q9 (fun q9 => q9 ▸ (tgT tI36 (by decide))) (fun q9 => Or.elim q9 (fun q9 => q9 ▸ (tgT tI37 (by decide))) (fun q9 => Or.elim q9 (fun q9 => q9 ▸ (tgT tI38 (by decide))) (fun q9 => q9 ▸ (tgT tI39 (by decide)))))))))))))))) q9)
  have hX75 : IM cy tg y td pc ac sc ln se plv Pm Wm av1 av2 av3 zC tB lb rt tT av0 sp0 sp1 pwo phd pgd pdy (shN (shB sh pc plv x1 x2 x3 x4 x5) (deI (shF ac sc av0 av1 av2 sp0 sp1 zC plv pwo phd pgd pdy pno td x1 x2 x3 x4 x5) (tT x1.toNatClampNeg) (rt x1.toNatClampNeg)) x6 plv pno x2.toNatClampNeg (amI (plv x2.toNatClampNeg) (pwo x2.toNatClampNeg) x4)) (shT (shB sh pc plv x1 x2 x3 x4 x5) (deI (shF ac sc av0 av1 av2 sp0 sp1 zC plv pwo phd pgd pdy pno td x1 x2 x3 x4 x5) (tT x1.toNatClampNeg) (rt x1.toNatClampNeg)) ptp x2.toNatClampNeg) co ra (if (shB sh pc plv x1 x2 x3 x4 x5) then sh else sh + 1) (shU (shB sh pc plv x1 x2 x3 x4 x5) hto sh x1.toNatClampNeg) (shU (shB sh pc plv x1 x2 x3 x4 x5) hpp sh x2) (shU (shB sh pc plv x1 x2 x3 x4 x5) hle sh x3) (shU (shB sh pc plv x1 x2 x3 x4 x5) ham sh (amI (plv x2.toNatClampNeg) (pwo x2.toNatClampNeg) x4)) (shU (shB sh pc plv x1 x2 x3 x4 x5) hhh sh x5) (shU (shB sh pc plv x1 x2 x3 x4 x5) hdd sh td) (shU (shB sh pc plv x1 x2 x3 x4 x5) hru sh (ruI (shF ac sc av0 av1 av2 sp0 sp1 zC plv pwo phd pgd pdy pno td x1 x2 x3 x4 x5) (tT x1.toNatClampNeg) (rt x1.toNatClampNeg))) (shU (shB sh pc plv x1 x2 x3 x4 x5) hde sh (deI (shF ac sc av0 av1 av2 sp0 sp1 zC plv pwo phd pgd pdy pno td x1 x2 x3 x4 x5) (tT x1.toNatClampNeg) (rt x1.toNatClampNeg))) (shU (shB sh pc plv x1 x2 x3 x4 x5) hcp sh (if (deI (shF ac sc av0 av1 av2 sp0 sp1 zC plv pwo phd pgd pdy pno td x1 x2 x3 x4 x5) (tT x1.toNatClampNeg) (rt x1.toNatClampNeg)) = 0 then (cnL (amI (plv x2.toNatClampNeg) (pwo x2.toNatClampNeg) x4) (ra x1.toNatClampNeg)).toInt32 else 0)) (shU (shB sh pc plv x1 x2 x3 x4 x5) hld sh (if (deI (shF ac sc av0 av1 av2 sp0 sp1 zC plv pwo phd pgd pdy pno td x1 x2 x3 x4 x5) (tT x1.toNatClampNeg) (rt x1.toNatClampNeg)) = 0 then lday (nws 0 Pm Wm) td x1.toNatClampNeg 0 else -1)) w1 := IM.mk m2 m3 m4 m5 m6 m8 m9 m10 m11 m12 m13 m14 m17 m18 m19 m20 m21 m22 m23 m24 m29 m30 m31 m32 m33 m34 m35 m36 m37 m39 m40 m41 m42 m43 m44 m45 m46 m47 m48 m49 m51 m52 m53 m54 m56 m57 m58 m59 gf v0 v26 v27 v28 v50 f4 f5 gx2 f8 f9 f10 f11 f12 gx3 gx4 f17 f18 f19 f20 f21 f22 f29 f30 f31 f32 f33 f34 f35 f36 f37 gx5 gx6 gx7 gx8 gx9 gx10 gx11 gx12 gx13 gx14 f49 f51 f52 f53 f54 f56 f57 f58 f59 qp pr fp qw wr fw qs sr fs (by omega) (by omega) (by omega) (hz18) (by omega) (by omega) hrl hc (hz16) (hz17) hso hlo htd hmp hmw hav hzm hlb hmt0 hav0 hs0 hs1 hco hra (hz19) (hz20) k21 tI0 k36 tI1 k37 tI2 k38 tI3 k39 tI4 k22 tI5 k40 tI6 k41 tI7 k42 tI8 k43 tI9 k44 tI10 k23 tI11 k24 tI12 k45 tI13 k46 tI14 k47 tI15 k48 tI16 k49 tI17 k50 tI18 k51 tI19 k52 tI20 k53 tI21 k54 tI22 k55 tI23 k56 tI24 k57 tI25 k58 tI26 k59 tI27 k60 tI28 k61 tI29 k25 tI30 k26 tI31 k27 tI32 k28 tI33 k29 tI34 k30 tI35 k31 tI36 k32 tI37 k33 tI38 k34 tI39 k62 tI40 k63 tI41 k64 tI42 k65 tI43 k66 tI44 k67 tI45 k68 tI46 k69 tI47 k70 tI48 fm71 fm72 fm73
  exact ⟨rfl, ⟨kp74, hX75⟩⟩
