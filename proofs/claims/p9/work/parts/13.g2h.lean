set_option maxHeartbeats 4000000 in
set_option maxRecDepth 100000 in
theorem g_payOut (l : Launch) (D : va_G) (cy : Nat → ClassId) (sk sv : Nat → Nat) (w : Wd) (x a0 a1 a2 a3 a4 a5 a6 a7 a8 a9 a10 a11 pc ac sc sh : Nat) (td : Int32)(tg : Nat → Nat) (tf : Nat → Option Nat) (tn ag : Nat → Nat) (co ra se : Nat → Int32)(b0 b1 b2 b3 : Nat) (f0 f1 f2 f3 : Nat → Int32)(z tw : Nat) (pp le am hh dd ru de cp ld : Int32)(q : Nat) (lv wo hd gd dy no tp : Int32) (nt : Int32) (c90 : wd_at w x (.inr (10, [.ref a0, .ref a1, .ref a2, .ref a3, .ref a4, .ref a5, .ref a6, .ref a7, .ref a8, .ref a9, .ref a10, .ref a11, .int td, .int (nI pc), .int (nI ac), .int (nI sc), .int (nI sh)]))) (c91 : wd_at w a1 (.inl (cy 9, 12, .inr (.inr (.inr (.inr tf)))))) (c92 : wd_at w a0 (.inr (9, [.ref b0, .ref b1, .ref b2, .ref b3]))) (c93 : wd_at w b0 (.inl (cy 2, 144, .inl f0))) (c94 : wd_at w b1 (.inl (cy 2, 144, .inl f1))) (c95 : wd_at w b2 (.inl (cy 2, 12, .inl f2))) (c96 : wd_at w b3 (.inl (cy 4, 12, .inl f3))) (c97 : wd_at w z (.inr (5, [.int (nI tw), .int pp, .int le, .int am, .int hh, .int dd, .int ru, .int de, .int cp, .int ld]))) (c98 : wd_at w q (.inr (3, [.int lv, .int wo, .int hd, .int gd, .int dy, .int no, .int tp]))) (hT9 : ∀ i9, i9 < 12 → tf i9 = some (tn i9) ∧ wd_at w (tn i9) (.inr (8, [.int (co i9), .int (ra i9), .int (se i9), .ref (ag i9)])) ∧ tg (tn i9) = 100 + i9) (S : Nat → Prop) (s90 : S z) (s91 : S q) (s92 : S b2) (s93 : S b3) (htw : tw < 12) (nb2b3 : b2 ≠ b3) : Ct l D cy sk sv yX10_payOut wsX10_payOut ({ frames := 5, cells := 0, slots := 0, locals := 108 }) [.ref x, .ref z, .ref q, .int nt] w (fun v w1 => ∃ (cp1 : Int32) (ld1 : Int32) (no1 : Int32) (tp1 : Int32) (d1 : Nat → Int32) (p1 : Nat → Int32), v = none ∧ wd_kp S w w1 ∧ wd_at w1 z (.inr (5, [.int (nI tw), .int pp, .int le, .int am, .int hh, .int dd, .int ru, .int de, .int cp1, .int ld1])) ∧ wd_at w1 q (.inr (3, [.int lv, .int wo, .int hd, .int gd, .int dy, .int no1, .int tp1])) ∧ wd_at w1 b2 (.inl (cy 2, 12, .inl d1)) ∧ wd_at w1 b3 (.inl (cy 4, 12, .inl p1))) := by
  refine Ct.by (cc := cX10_payOut) (maxL := 4) (ret := none) (by decide +kernel) rfl (Nat.le_of_ble_eq_true rfl) ?_
  intro p e s m args below meth c A Q F hnm K ls hl
  have F : wd_Fx p s m args meth c cX10_payOut 4 wsX10_payOut RX10 D cy sk sv A := F
  have hl : lv_has ls 4 [(0, .ref x), (1, .ref z), (2, .ref q), (3, .int nt)] := hl
  have hx := F.1.1
  have hb := F.1.2.1
  have hown := F.1.2.2.2.1
  have hts := F.1.2.2.2.2
  intro H locs hP hD hS
  have kp0 : wd_kp S w w := wd_kp.rf
  refine lv_aload_n hx hb dX10_payOut_0 rfl (lv_at hl 1 rfl) ?_
  refine lv_aload_n hx hb dX10_payOut_1 rfl (lv_at hl 1 rfl) ?_
  refine x_get (ref := "NoteHouse$Shown") F hP c97 rfl (fun _ h => List.mem_cons_of_mem _ (List.mem_append_left _ (List.mem_append_left _ (List.mem_append_left _ (List.mem_append_left _ (List.mem_append_right _ (h))))))) 3 (Nat.le_of_ble_eq_true rfl) (List.mem_cons_of_mem _ (List.mem_append_left _ (List.mem_append_left _ (List.mem_append_left _ (List.mem_append_left _ (List.mem_append_left _ (List.mem_append_left _ (List.mem_of_getElem? (i := 0) rfl)))))))) rfl rfl dX10_payOut_2 ?_
  refine lv_i2l (v := am.toInt64) hx hb dX10_payOut_5 (rfl) ?_
  refine lv_aload_n hx hb dX10_payOut_6 rfl (lv_at hl 0 rfl) ?_
  refine x_get (ref := "NoteHouse") F hP c90 rfl (fun _ h => List.mem_cons_of_mem _ (List.mem_append_left _ (List.mem_append_left _ (List.mem_append_left _ (List.mem_append_right _ (h)))))) 1 (Nat.le_of_ble_eq_true rfl) (List.mem_cons_of_mem _ (List.mem_append_left _ (List.mem_append_left _ (List.mem_append_left _ (List.mem_append_left _ (List.mem_append_left _ (List.mem_append_left _ (List.mem_of_getElem? (i := 1) rfl)))))))) rfl rfl dX10_payOut_7 ?_
  refine lv_aload_n hx hb dX10_payOut_10 rfl (lv_at hl 1 rfl) ?_
  refine x_get (ref := "NoteHouse$Shown") F hP c97 rfl (fun _ h => List.mem_cons_of_mem _ (List.mem_append_left _ (List.mem_append_left _ (List.mem_append_left _ (List.mem_append_left _ (List.mem_append_right _ (h))))))) 0 (Nat.le_of_ble_eq_true rfl) (List.mem_cons_of_mem _ (List.mem_append_left _ (List.mem_append_left _ (List.mem_append_left _ (List.mem_append_left _ (List.mem_append_left _ (List.mem_append_left _ (List.mem_of_getElem? (i := 2) rfl)))))))) rfl rfl dX10_payOut_11 ?_
  refine x_aald F hP c91 rfl (vp_in_nI (n := tw) (N := 12) (by omega) (by decide)) dX10_payOut_14 ?_
  rw [nI_clamp (n := tw) (by omega), (hT9 tw (by omega)).1]
  refine W.eq (g2 := F0 m _ ls [.ref (tn tw), .long am.toInt64, .ref z]) rfl ?_
  have k1 := (hT9 tw (by omega)).2.1
  have tz2 := (hT9 tw (by omega)).2.2
  refine x_get (ref := "NoteHouse$Town") F hP k1 rfl (fun _ h => List.mem_cons_of_mem _ (List.mem_append_left _ (List.mem_append_left _ (List.mem_append_right _ (h))))) 1 (Nat.le_of_ble_eq_true rfl) (List.mem_cons_of_mem _ (List.mem_append_left _ (List.mem_append_left _ (List.mem_append_left _ (List.mem_append_left _ (List.mem_append_left _ (List.mem_append_left _ (List.mem_of_getElem? (i := 3) rfl)))))))) rfl rfl dX10_payOut_15 ?_
  refine lv_i2l (v := (ra tw).toInt64) hx hb dX10_payOut_18 (rfl) ?_
  refine lv_lmul hx hb dX10_payOut_19 ?_
  refine lv_ldc2 (v := 1000) hx hb hown (hts _ (List.mem_cons_of_mem _ (List.mem_append_left _ (List.mem_append_left _ (List.mem_append_left _ (List.mem_append_left _ (List.mem_append_left _ (List.mem_append_left _ (List.mem_of_getElem? (i := 4) rfl))))))))) dX10_payOut_20 ?_
  refine lv_ldiv hx hb dX10_payOut_23 (by decide) ?_
  refine lv_l2i (v := ((am.toInt64 * ((ra tw).toInt64)) / 1000).toInt32) hx hb dX10_payOut_24 (rfl) ?_
  refine y_put (ref := "NoteHouse$Shown") F hP hD hS c97 rfl (fun _ h => List.mem_cons_of_mem _ (List.mem_append_left _ (List.mem_append_left _ (List.mem_append_left _ (List.mem_append_left _ (List.mem_append_right _ (h))))))) tyX5_ok nmX5 8 (Nat.le_of_ble_eq_true rfl) (List.mem_cons_of_mem _ (List.mem_append_left _ (List.mem_append_left _ (List.mem_append_left _ (List.mem_append_left _ (List.mem_append_left _ (List.mem_append_left _ (List.mem_of_getElem? (i := 5) rfl)))))))) rfl rfl rfl rfl (Nat.le_of_ble_eq_true rfl) dX10_payOut_25 (fun w3 ew4 H locs hP hD hS => ?_)
  have k5 := wd_at.pt ew4 c90 (wd_nk c90 c97 rfl)
  have k6 := wd_at.pt ew4 c91 (wd_nk c91 c97 rfl)
  have k7 := wd_at.pt ew4 c92 (wd_nk c92 c97 rfl)
  have k8 := wd_at.pt ew4 c93 (wd_nk c93 c97 rfl)
  have k9 := wd_at.pt ew4 c94 (wd_nk c94 c97 rfl)
  have k10 := wd_at.pt ew4 c95 (wd_nk c95 c97 rfl)
  have k11 := wd_at.pt ew4 c96 (wd_nk c96 c97 rfl)
  have k12 : wd_at w3 z (.inr (5, [.int (nI tw), .int pp, .int le, .int am, .int hh, .int dd, .int ru, .int de, .int (((am.toInt64 * ((ra tw).toInt64)) / 1000).toInt32), .int ld])) := wd_at.ps ew4 c97
  have k13 := wd_at.pt ew4 c98 (wd_nk c98 c97 rfl)
  have k14 := wd_at.pt ew4 k1 (wd_nk k1 c97 rfl)
  have fm15 : ∀ i9, i9 < 12 → tf i9 = some (tn i9) ∧ wd_at w3 (tn i9) (.inr (8, [.int (co i9), .int (ra i9), .int (se i9), .ref (ag i9)])) ∧ tg (tn i9) = 100 + i9 := fun i9 hi9 => ⟨(hT9 i9 hi9).1, wd_at.pt ew4 (hT9 i9 hi9).2.1 (wd_nk (hT9 i9 hi9).2.1 c97 rfl), (hT9 i9 hi9).2.2⟩
  have kp16 := kp0.put ew4 s90
  refine lv_aload_n hx hb dX10_payOut_28 rfl (lv_at hl 1 rfl) ?_
  refine lv_aload_n hx hb dX10_payOut_29 rfl (lv_at hl 0 rfl) ?_
  refine lv_aload_n hx hb dX10_payOut_30 rfl (lv_at hl 1 rfl) ?_
  refine x_get (ref := "NoteHouse$Shown") F hP k12 rfl (fun _ h => List.mem_cons_of_mem _ (List.mem_append_left _ (List.mem_append_left _ (List.mem_append_left _ (List.mem_append_left _ (List.mem_append_right _ (h))))))) 0 (Nat.le_of_ble_eq_true rfl) (List.mem_cons_of_mem _ (List.mem_append_left _ (List.mem_append_left _ (List.mem_append_left _ (List.mem_append_left _ (List.mem_append_left _ (List.mem_append_left _ (List.mem_of_getElem? (i := 2) rfl)))))))) rfl rfl dX10_payOut_31 ?_
  refine lv_iconst (v := 0) hx hb dX10_payOut_34 (by decide) ?_
  refine x_callV (n := 2) (As := [.int (nI tw), .int 0]) (rest := [.ref z]) F hP hD hS (g_letterDay l D cy sk sv w3 x a0 a1 a2 a3 a4 a5 a6 a7 a8 a9 a10 a11 pc ac sc sh td b0 b1 b2 b3 f0 f1 f2 f3 0 (nI tw) k5 k7 k8 k9 k10 k11 (fun b => b = b2 ∨ b = b3) (Or.inl rfl) (Or.inr rfl) (by omega) nb2b3) gX10_payOut_X10_letterDay rfl rfl (by decide +kernel) ⟨(Nat.le_of_ble_eq_true rfl), (Nat.le_of_ble_eq_true rfl)⟩ rfl hl.1 (Nat.le_of_ble_eq_true rfl) k5 rfl dX10_payOut_35 rfl ⟨(Nat.le_of_ble_eq_true rfl), (Nat.le_of_ble_eq_true rfl)⟩ (fun v18 w19 hp17 H locs hP hD hS => ?_)
  obtain ⟨dx20, px21, rx22, rfl, kq25, k23, k24⟩ := hp17
  have k26 := kq25.2 _ _ k5 (fun q9 => Or.elim q9 (wd_nk k5 k10 rfl) (fun q9 : x = b3 => (wd_nk k5 k11 rfl) q9))
  have k27 := kq25.2 _ _ k6 (fun q9 => Or.elim q9 (wd_nk k6 k10 rfl) (fun q9 : a1 = b3 => (wd_nk k6 k11 rfl) q9))
  have k28 := kq25.2 _ _ k7 (fun q9 => Or.elim q9 (wd_nk k7 k10 rfl) (fun q9 : a0 = b3 => (wd_nk k7 k11 rfl) q9))
  have k29 := kq25.2 _ _ k8 (fun q9 => Or.elim q9 (wd_nk k8 k10 rfl) (fun q9 : b0 = b3 => (wd_nk k8 k11 rfl) q9))
  have k30 := kq25.2 _ _ k9 (fun q9 => Or.elim q9 (wd_nk k9 k10 rfl) (fun q9 : b1 = b3 => (wd_nk k9 k11 rfl) q9))
  have k31 := kq25.2 _ _ k12 (fun q9 => Or.elim q9 (wd_nk k12 k10 rfl) (fun q9 : z = b3 => (wd_nk k12 k11 rfl) q9))
  have k32 := kq25.2 _ _ k13 (fun q9 => Or.elim q9 (wd_nk k13 k10 rfl) (fun q9 : q = b3 => (wd_nk k13 k11 rfl) q9))
  have fm33 : ∀ i9, i9 < 12 → tf i9 = some (tn i9) ∧ wd_at w19 (tn i9) (.inr (8, [.int (co i9), .int (ra i9), .int (se i9), .ref (ag i9)])) ∧ tg (tn i9) = 100 + i9 := fun i9 hi9 => ⟨(fm15 i9 hi9).1, kq25.2 _ _ (fm15 i9 hi9).2.1 (fun q9 => Or.elim q9 (wd_nk (fm15 i9 hi9).2.1 k10 rfl) (wd_nk (fm15 i9 hi9).2.1 k11 rfl)), (fm15 i9 hi9).2.2⟩
  have kp34 := kp16.tr kq25 (fun b9 hm q9 => (fun q9 => Or.elim q9 (fun q9 => q9 ▸ s92) (fun q9 => q9 ▸ s93)) q9)
  refine W.eq (g2 := F0 m 38 ls [.int rx22, .ref z]) rfl (W.widen (k := 0) (n := 0) (Nat.le_of_ble_eq_true rfl) (Nat.le_of_ble_eq_true rfl) ?_)
  refine y_put (ref := "NoteHouse$Shown") F hP hD hS k31 rfl (fun _ h => List.mem_cons_of_mem _ (List.mem_append_left _ (List.mem_append_left _ (List.mem_append_left _ (List.mem_append_left _ (List.mem_append_right _ (h))))))) tyX5_ok nmX5 9 (Nat.le_of_ble_eq_true rfl) (List.mem_cons_of_mem _ (List.mem_append_left _ (List.mem_append_left _ (List.mem_append_left _ (List.mem_append_left _ (List.mem_append_left _ (List.mem_append_left _ (List.mem_of_getElem? (i := 6) rfl)))))))) rfl rfl rfl rfl (Nat.le_of_ble_eq_true rfl) dX10_payOut_38 (fun w35 ew36 H locs hP hD hS => ?_)
  have k37 := wd_at.pt ew36 k26 (wd_nk k26 k31 rfl)
  have k38 := wd_at.pt ew36 k27 (wd_nk k27 k31 rfl)
  have k39 := wd_at.pt ew36 k28 (wd_nk k28 k31 rfl)
  have k40 := wd_at.pt ew36 k29 (wd_nk k29 k31 rfl)
  have k41 := wd_at.pt ew36 k30 (wd_nk k30 k31 rfl)
  have k42 := wd_at.pt ew36 k23 (wd_nk k23 k31 rfl)
  have k43 := wd_at.pt ew36 k24 (wd_nk k24 k31 rfl)
  have k44 : wd_at w35 z (.inr (5, [.int (nI tw), .int pp, .int le, .int am, .int hh, .int dd, .int ru, .int de, .int (((am.toInt64 * ((ra tw).toInt64)) / 1000).toInt32), .int rx22])) := wd_at.ps ew36 k31
  have k45 := wd_at.pt ew36 k32 (wd_nk k32 k31 rfl)
  have fm46 : ∀ i9, i9 < 12 → tf i9 = some (tn i9) ∧ wd_at w35 (tn i9) (.inr (8, [.int (co i9), .int (ra i9), .int (se i9), .ref (ag i9)])) ∧ tg (tn i9) = 100 + i9 := fun i9 hi9 => ⟨(fm33 i9 hi9).1, wd_at.pt ew36 (fm33 i9 hi9).2.1 (wd_nk (fm33 i9 hi9).2.1 k31 rfl), (fm33 i9 hi9).2.2⟩
  have kp47 := kp34.put ew36 s90
  refine lv_aload_n hx hb dX10_payOut_41 rfl (lv_at hl 2 rfl) ?_
  refine lv_dup hx hb dX10_payOut_42 rfl ?_
  refine x_get (ref := "NoteHouse$Paper") F hP k45 rfl (fun _ h => List.mem_cons_of_mem _ (List.mem_append_left _ (List.mem_append_right _ (h)))) 6 (Nat.le_of_ble_eq_true rfl) (List.mem_cons_of_mem _ (List.mem_append_left _ (List.mem_append_left _ (List.mem_append_left _ (List.mem_append_left _ (List.mem_append_left _ (List.mem_append_left _ (List.mem_of_getElem? (i := 7) rfl)))))))) rfl rfl dX10_payOut_43 ?_
  refine lv_iconst (v := 1) hx hb dX10_payOut_46 (by decide) ?_
  refine lv_iadd hx hb dX10_payOut_47 ?_
  refine y_put (ref := "NoteHouse$Paper") F hP hD hS k45 rfl (fun _ h => List.mem_cons_of_mem _ (List.mem_append_left _ (List.mem_append_right _ (h)))) tyX3_ok nmX3 6 (Nat.le_of_ble_eq_true rfl) (List.mem_cons_of_mem _ (List.mem_append_left _ (List.mem_append_left _ (List.mem_append_left _ (List.mem_append_left _ (List.mem_append_left _ (List.mem_append_left _ (List.mem_of_getElem? (i := 7) rfl)))))))) rfl rfl rfl rfl (Nat.le_of_ble_eq_true rfl) dX10_payOut_48 (fun w48 ew49 H locs hP hD hS => ?_)
  have k50 := wd_at.pt ew49 k37 (wd_nk k37 k45 rfl)
  have k51 := wd_at.pt ew49 k38 (wd_nk k38 k45 rfl)
  have k52 := wd_at.pt ew49 k39 (wd_nk k39 k45 rfl)
  have k53 := wd_at.pt ew49 k40 (wd_nk k40 k45 rfl)
  have k54 := wd_at.pt ew49 k41 (wd_nk k41 k45 rfl)
  have k55 := wd_at.pt ew49 k42 (wd_nk k42 k45 rfl)
  have k56 := wd_at.pt ew49 k43 (wd_nk k43 k45 rfl)
  have k57 := wd_at.pt ew49 k44 (wd_nk k44 k45 rfl)
  have k58 : wd_at w48 q (.inr (3, [.int lv, .int wo, .int hd, .int gd, .int dy, .int no, .int (tp + 1)])) := wd_at.ps ew49 k45
  have fm59 : ∀ i9, i9 < 12 → tf i9 = some (tn i9) ∧ wd_at w48 (tn i9) (.inr (8, [.int (co i9), .int (ra i9), .int (se i9), .ref (ag i9)])) ∧ tg (tn i9) = 100 + i9 := fun i9 hi9 => ⟨(fm46 i9 hi9).1, wd_at.pt ew49 (fm46 i9 hi9).2.1 (wd_nk (fm46 i9 hi9).2.1 k45 rfl), (fm46 i9 hi9).2.2⟩
  have kp60 := kp47.put ew49 s91
  refine lv_iload_n hx hb dX10_payOut_51 rfl (lv_at hl 3 rfl) ?_
  refine lv_if_eq (tgt := 75) hx hb dX10_payOut_52 (by decide) (fun c_61 => ?_) (fun c_61 => ?_)
  · exact y_vr K hP hD hS (Nat.le_of_ble_eq_true rfl) (Nat.le_of_ble_eq_true rfl) rfl dX10_payOut_75 (⟨((am.toInt64 * ((ra tw).toInt64)) / 1000).toInt32, rx22, no, tp + 1, dx20, px21, rfl, kp60, k57, k58, k55, k56⟩)
  · refine lv_aload_n hx hb dX10_payOut_55 rfl (lv_at hl 2 rfl) ?_
    refine x_callV (n := 0) (As := []) (rest := []) F hP hD hS (g_isBook l D cy sk sv w48 q lv wo hd gd dy no (tp + 1) k58) gX10_payOut_X3_isBook rfl rfl (by decide +kernel) ⟨(Nat.le_of_ble_eq_true rfl), (Nat.le_of_ble_eq_true rfl)⟩ rfl hl.1 (Nat.le_of_ble_eq_true rfl) k58 rfl dX10_payOut_56 rfl ⟨(Nat.le_of_ble_eq_true rfl), (Nat.le_of_ble_eq_true rfl)⟩ (fun v63 w64 hp62 H locs hP hD hS => ?_)
    obtain ⟨rx65, rfl, hz66, hz67, hz68, rfl⟩ := hp62
    refine W.eq (g2 := F0 m 59 ls [.int rx65]) rfl (W.widen (k := 0) (n := 0) (Nat.le_of_ble_eq_true rfl) (Nat.le_of_ble_eq_true rfl) ?_)
    refine lv_if_ne (tgt := 75) hx hb dX10_payOut_59 (by decide) (fun c_69 => ?_) (fun c_69 => ?_)
    · exact y_vr K hP hD hS (Nat.le_of_ble_eq_true rfl) (Nat.le_of_ble_eq_true rfl) rfl dX10_payOut_75 (⟨((am.toInt64 * ((ra tw).toInt64)) / 1000).toInt32, rx22, no, tp + 1, dx20, px21, rfl, kp60, k57, k58, k55, k56⟩)
    · refine lv_aload_n hx hb dX10_payOut_62 rfl (lv_at hl 2 rfl) ?_
      refine lv_dup hx hb dX10_payOut_63 rfl ?_
      refine x_get (ref := "NoteHouse$Paper") F hP k58 rfl (fun _ h => List.mem_cons_of_mem _ (List.mem_append_left _ (List.mem_append_right _ (h)))) 5 (Nat.le_of_ble_eq_true rfl) (List.mem_cons_of_mem _ (List.mem_append_left _ (List.mem_append_left _ (List.mem_append_left _ (List.mem_append_left _ (List.mem_append_left _ (List.mem_append_left _ (List.mem_of_getElem? (i := 8) rfl)))))))) rfl rfl dX10_payOut_64 ?_
      refine lv_aload_n hx hb dX10_payOut_67 rfl (lv_at hl 1 rfl) ?_
      refine x_get (ref := "NoteHouse$Shown") F hP k57 rfl (fun _ h => List.mem_cons_of_mem _ (List.mem_append_left _ (List.mem_append_left _ (List.mem_append_left _ (List.mem_append_left _ (List.mem_append_right _ (h))))))) 3 (Nat.le_of_ble_eq_true rfl) (List.mem_cons_of_mem _ (List.mem_append_left _ (List.mem_append_left _ (List.mem_append_left _ (List.mem_append_left _ (List.mem_append_left _ (List.mem_append_left _ (List.mem_of_getElem? (i := 0) rfl)))))))) rfl rfl dX10_payOut_68 ?_
      refine lv_iadd hx hb dX10_payOut_71 ?_
      refine y_put (ref := "NoteHouse$Paper") F hP hD hS k58 rfl (fun _ h => List.mem_cons_of_mem _ (List.mem_append_left _ (List.mem_append_right _ (h)))) tyX3_ok nmX3 5 (Nat.le_of_ble_eq_true rfl) (List.mem_cons_of_mem _ (List.mem_append_left _ (List.mem_append_left _ (List.mem_append_left _ (List.mem_append_left _ (List.mem_append_left _ (List.mem_append_left _ (List.mem_of_getElem? (i := 8) rfl)))))))) rfl rfl rfl rfl (Nat.le_of_ble_eq_true rfl) dX10_payOut_72 (fun w70 ew71 H locs hP hD hS => ?_)
      have k72 := wd_at.pt ew71 k50 (wd_nk k50 k58 rfl)
      have k73 := wd_at.pt ew71 k51 (wd_nk k51 k58 rfl)
      have k74 := wd_at.pt ew71 k52 (wd_nk k52 k58 rfl)
      have k75 := wd_at.pt ew71 k53 (wd_nk k53 k58 rfl)
      have k76 := wd_at.pt ew71 k54 (wd_nk k54 k58 rfl)
      have k77 := wd_at.pt ew71 k55 (wd_nk k55 k58 rfl)
      have k78 := wd_at.pt ew71 k56 (wd_nk k56 k58 rfl)
      have k79 := wd_at.pt ew71 k57 (wd_nk k57 k58 rfl)
      have k80 : wd_at w70 q (.inr (3, [.int lv, .int wo, .int hd, .int gd, .int dy, .int (no + am), .int (tp + 1)])) := wd_at.ps ew71 k58
      have fm81 : ∀ i9, i9 < 12 → tf i9 = some (tn i9) ∧ wd_at w70 (tn i9) (.inr (8, [.int (co i9), .int (ra i9), .int (se i9), .ref (ag i9)])) ∧ tg (tn i9) = 100 + i9 := fun i9 hi9 => ⟨(fm59 i9 hi9).1, wd_at.pt ew71 (fm59 i9 hi9).2.1 (wd_nk (fm59 i9 hi9).2.1 k58 rfl), (fm59 i9 hi9).2.2⟩
      have kp82 := kp60.put ew71 s91
      exact y_vr K hP hD hS (Nat.le_of_ble_eq_true rfl) (Nat.le_of_ble_eq_true rfl) rfl dX10_payOut_75 (⟨((am.toInt64 * ((ra tw).toInt64)) / 1000).toInt32, rx22, no + am, tp + 1, dx20, px21, rfl, kp82, k79, k80, k77, k78⟩)
set_option maxHeartbeats 4000000 in
set_option maxRecDepth 100000 in
theorem g_isSettledAhead (l : Launch) (D : va_G) (cy : Nat → ClassId) (sk sv : Nat → Nat) (w : Wd) (x a0 a1 a2 a3 a4 a5 a6 a7 a8 a9 a10 a11 pc ac sc sh : Nat) (td : Int32)(tg : Nat → Nat)(hf : Nat → Option Nat) (sw hto : Nat → Nat) (hpp hle ham hhh hdd hru hde hcp hld : Nat → Int32)(l0 l1 l2 l3 l4 l5 l6 l7 : Nat) (gc9 sz9 : Int32) (kf : Nat → Int32)(z tw : Nat) (pp le am hh dd ru de cp ld : Int32) (k0 : Nat) (c90 : wd_at w x (.inr (10, [.ref a0, .ref a1, .ref a2, .ref a3, .ref a4, .ref a5, .ref a6, .ref a7, .ref a8, .ref a9, .ref a10, .ref a11, .int td, .int (nI pc), .int (nI ac), .int (nI sc), .int (nI sh)]))) (c91 : wd_at w a5 (.inl (cy 7, 200, .inr (.inr (.inr (.inr hf)))))) (c92 : wd_at w a7 (.inr (4, [.ref l0, .ref l1, .ref l2, .ref l3, .ref l4, .ref l5, .ref l6, .ref l7, .int gc9, .int sz9]))) (c93 : wd_at w l0 (.inl (cy 2, 200, .inl kf))) (c94 : wd_at w z (.inr (5, [.int (nI tw), .int pp, .int le, .int am, .int hh, .int dd, .int ru, .int de, .int cp, .int ld]))) (hH9 : ∀ k9, k9 < sh → (hf k9 = some (sw k9) ∧ hto k9 < 12) ∧ wd_at w (sw k9) (.inr (5, [.int (nI (hto k9)), .int (hpp k9), .int (hle k9), .int (ham k9), .int (hhh k9), .int (hdd k9), .int (hru k9), .int (hde k9), .int (hcp k9), .int (hld k9)])) ∧ tg (sw k9) = 7000 + k9) (hk : k0 ≤ sh) (hsh : sh ≤ 200) : Ct l D cy sk sv yX10_isSettledAhead wsX10_isSettledAhead ({ frames := 1, cells := 0, slots := 0, locals := 21 }) [.ref x, .int (nI k0), .ref z] w (fun v w1 => ∃ (r1 : Int32), v = some (.int r1) ∧ (r1 = 0 ∨ r1 = 1) ∧ w = w1) := by
  refine Ct.by (cc := cX10_isSettledAhead) (maxL := 5) (ret := (some .boolean)) (by decide +kernel) rfl (Nat.le_of_ble_eq_true rfl) ?_
  intro p e s m args below meth c A Q F hnm K ls hl
  have F : wd_Fx p s m args meth c cX10_isSettledAhead 5 wsX10_isSettledAhead RX10 D cy sk sv A := F
  have hl : lv_has ls 5 [(0, .ref x), (1, .int (nI k0)), (2, .ref z)] := hl
  have hx := F.1.1
  have hb := F.1.2.1
  have hown := F.1.2.2.2.1
  have hts := F.1.2.2.2.2
  intro H locs hP hD hS
  refine lv_iconst (v := 0) hx hb dX10_isSettledAhead_0 (by decide) ?_
  refine lv_istore_n (lv' := [(3, .int 0), (0, .ref x), (1, .int (nI k0)), (2, .ref z)]) hx hb dX10_isSettledAhead_1 rfl hl (by decide) rfl (fun ls hl => ?_)
  have lp2 : ∀ (N : Nat) (k : Nat), (k + N = k0) → ∀ (ls : Array Slot), lv_has ls 5 [(0, .ref x), (1, .int (nI k0)), (2, .ref z), (3, .int (nI k))] → Wv p l e ({ frames := 1, cells := 0, slots := 0, locals := 21 }) s m args below meth c D A (0) (0) Q w (F0 m 2 ls []) := by
    intro N
    induction N with
    | zero =>
      intro k hN2 ls hl H locs hP hD hS
      refine lv_iload_n hx hb dX10_isSettledAhead_2 rfl (lv_at hl 3 rfl) ?_
      refine lv_iload_n hx hb dX10_isSettledAhead_3 rfl (lv_at hl 1 rfl) ?_
      refine lv_icmp_ge (tgt := 58) hx hb dX10_isSettledAhead_4 (by decide) (fun c_2 => ?_) (fun c_2 => absurd (nI_le (a := k0) (b := k) (by omega) (by omega)) c_2)
      refine lv_iconst (v := 0) hx hb dX10_isSettledAhead_58 (by decide) ?_
      exact y_ir K hP hD hS (Nat.le_of_ble_eq_true rfl) (Nat.le_of_ble_eq_true rfl) (ty := .boolean) rfl rfl dX10_isSettledAhead_59 (⟨0, rfl, Or.inl rfl, rfl⟩)
    | succ N ih2 =>
      intro k hN2 ls hl H locs hP hD hS
      refine lv_iload_n hx hb dX10_isSettledAhead_2 rfl (lv_at hl 3 rfl) ?_
      refine lv_iload_n hx hb dX10_isSettledAhead_3 rfl (lv_at hl 1 rfl) ?_
      refine lv_icmp_ge (tgt := 58) hx hb dX10_isSettledAhead_4 (by decide) (fun c_3 => absurd c_3 (nI_ge (a := k) (b := k0) (by omega) (by omega))) (fun c_3 => ?_)
      refine lv_aload_n hx hb dX10_isSettledAhead_7 rfl (lv_at hl 0 rfl) ?_
      refine x_get (ref := "NoteHouse") F hP c90 rfl (fun _ h => List.mem_cons_of_mem _ (List.mem_append_left _ (List.mem_append_left _ (List.mem_append_right _ (h))))) 5 (Nat.le_of_ble_eq_true rfl) (List.mem_cons_of_mem _ (List.mem_append_left _ (List.mem_append_left _ (List.mem_append_left _ (List.mem_of_getElem? (i := 0) rfl))))) rfl rfl dX10_isSettledAhead_8 ?_
      refine lv_iload_n hx hb dX10_isSettledAhead_11 rfl (lv_at hl 3 rfl) ?_
      refine x_aald F hP c91 rfl (vp_in_nI (n := k) (N := 200) (by omega) (by decide)) dX10_isSettledAhead_12 ?_
      rw [nI_clamp (n := k) (by omega), ((hH9 k (by omega)).1).1]
      have k4 := (hH9 k (by omega)).2.1
      have tz5 := (hH9 k (by omega)).2.2
      refine W.eq (g2 := F0 m _ ls [.ref (sw k)]) rfl ?_
      refine lv_astore (lv' := [(4, .ref (sw k)), (0, .ref x), (1, .int (nI k0)), (2, .ref z), (3, .int (nI k))]) hx hb dX10_isSettledAhead_13 hl (by decide) rfl (fun ls hl => ?_)
      refine lv_aload_n hx hb dX10_isSettledAhead_15 rfl (lv_at hl 1 rfl) ?_
      refine x_get (ref := "NoteHouse") F hP c90 rfl (fun _ h => List.mem_cons_of_mem _ (List.mem_append_left _ (List.mem_append_left _ (List.mem_append_right _ (h))))) 7 (Nat.le_of_ble_eq_true rfl) (List.mem_cons_of_mem _ (List.mem_append_left _ (List.mem_append_left _ (List.mem_append_left _ (List.mem_of_getElem? (i := 1) rfl))))) rfl rfl dX10_isSettledAhead_16 ?_
      refine lv_iload_n hx hb dX10_isSettledAhead_19 rfl (lv_at hl 4 rfl) ?_
      refine x_callV (n := 1) (As := [.int (nI k)]) (rest := []) F hP hD hS (g_holds l D cy sk sv w a7 l0 l1 l2 l3 l4 l5 l6 l7 gc9 sz9 (nI k) kf c92 c93) gX10_isSettledAhead_X4_holds rfl rfl (by decide +kernel) ⟨(Nat.le_of_ble_eq_true rfl), (Nat.le_of_ble_eq_true rfl)⟩ rfl hl.1 (Nat.le_of_ble_eq_true rfl) c92 rfl dX10_isSettledAhead_20 rfl ⟨(Nat.le_of_ble_eq_true rfl), (Nat.le_of_ble_eq_true rfl)⟩ (fun v7 w8 hp6 H locs hP hD hS => ?_)
      obtain ⟨rx9, rfl, hz10, hz11, rfl⟩ := hp6
      refine W.eq (g2 := F0 m 23 ls [.int rx9]) rfl (W.widen (k := 0) (n := 0) (Nat.le_of_ble_eq_true rfl) (Nat.le_of_ble_eq_true rfl) ?_)
      refine lv_if_eq (tgt := 52) hx hb dX10_isSettledAhead_23 (by decide) (fun c_12 => ?_) (fun c_12 => ?_)
      · refine lv_iinc (v := nI (k + 1)) (lv' := [(3, .int (nI (k + 1))), (4, .ref (sw k)), (0, .ref x), (1, .int (nI k0)), (2, .ref z)]) hx hb dX10_isSettledAhead_52 hl (k := 4) rfl (nI_1 k) (by decide) rfl (fun ls hl => ?_)
        refine lv_goto (tgt := 2) hx hb dX10_isSettledAhead_55 (by decide) ?_
        exact ih2 (k + 1)  (by omega)    ls (lv_sub hl [2, 3, 4, 0] rfl) H locs hP hD hS
      · refine lv_aload hx hb dX10_isSettledAhead_26 (lv_at hl 0 rfl) ?_
        refine x_get (ref := "NoteHouse$Shown") F hP k4 rfl (fun _ h => List.mem_cons_of_mem _ (List.mem_append_left _ (List.mem_append_right _ (h)))) 1 (Nat.le_of_ble_eq_true rfl) (List.mem_cons_of_mem _ (List.mem_append_left _ (List.mem_append_left _ (List.mem_append_left _ (List.mem_of_getElem? (i := 2) rfl))))) rfl rfl dX10_isSettledAhead_28 ?_
        refine lv_aload_n hx hb dX10_isSettledAhead_31 rfl (lv_at hl 3 rfl) ?_
        refine x_get (ref := "NoteHouse$Shown") F hP c94 rfl (fun _ h => List.mem_cons_of_mem _ (List.mem_append_left _ (List.mem_append_right _ (h)))) 1 (Nat.le_of_ble_eq_true rfl) (List.mem_cons_of_mem _ (List.mem_append_left _ (List.mem_append_left _ (List.mem_append_left _ (List.mem_of_getElem? (i := 2) rfl))))) rfl rfl dX10_isSettledAhead_32 ?_
        refine lv_icmp_ne (tgt := 52) hx hb dX10_isSettledAhead_35 (by decide) (fun c_13 => ?_) (fun c_13 => ?_)
        · refine lv_iinc (v := nI (k + 1)) (lv' := [(3, .int (nI (k + 1))), (4, .ref (sw k)), (0, .ref x), (1, .int (nI k0)), (2, .ref z)]) hx hb dX10_isSettledAhead_52 hl (k := 4) rfl (nI_1 k) (by decide) rfl (fun ls hl => ?_)
          refine lv_goto (tgt := 2) hx hb dX10_isSettledAhead_55 (by decide) ?_
          exact ih2 (k + 1)  (by omega)    ls (lv_sub hl [2, 3, 4, 0] rfl) H locs hP hD hS
        · refine lv_aload hx hb dX10_isSettledAhead_38 (lv_at hl 0 rfl) ?_
          refine x_get (ref := "NoteHouse$Shown") F hP k4 rfl (fun _ h => List.mem_cons_of_mem _ (List.mem_append_left _ (List.mem_append_right _ (h)))) 2 (Nat.le_of_ble_eq_true rfl) (List.mem_cons_of_mem _ (List.mem_append_left _ (List.mem_append_left _ (List.mem_append_left _ (List.mem_of_getElem? (i := 3) rfl))))) rfl rfl dX10_isSettledAhead_40 ?_
          refine lv_aload_n hx hb dX10_isSettledAhead_43 rfl (lv_at hl 3 rfl) ?_
          refine x_get (ref := "NoteHouse$Shown") F hP c94 rfl (fun _ h => List.mem_cons_of_mem _ (List.mem_append_left _ (List.mem_append_right _ (h)))) 2 (Nat.le_of_ble_eq_true rfl) (List.mem_cons_of_mem _ (List.mem_append_left _ (List.mem_append_left _ (List.mem_append_left _ (List.mem_of_getElem? (i := 3) rfl))))) rfl rfl dX10_isSettledAhead_44 ?_
          refine lv_icmp_ne (tgt := 52) hx hb dX10_isSettledAhead_47 (by decide) (fun c_14 => ?_) (fun c_14 => ?_)
          · refine lv_iinc (v := nI (k + 1)) (lv' := [(3, .int (nI (k + 1))), (4, .ref (sw k)), (0, .ref x), (1, .int (nI k0)), (2, .ref z)]) hx hb dX10_isSettledAhead_52 hl (k := 4) rfl (nI_1 k) (by decide) rfl (fun ls hl => ?_)
            refine lv_goto (tgt := 2) hx hb dX10_isSettledAhead_55 (by decide) ?_
            exact ih2 (k + 1)  (by omega)    ls (lv_sub hl [2, 3, 4, 0] rfl) H locs hP hD hS
          · refine lv_iconst (v := 1) hx hb dX10_isSettledAhead_50 (by decide) ?_
            exact y_ir K hP hD hS (Nat.le_of_ble_eq_true rfl) (Nat.le_of_ble_eq_true rfl) (ty := .boolean) rfl rfl dX10_isSettledAhead_51 (⟨1, rfl, Or.inr rfl, rfl⟩)
  exact lp2 _ 0  (Nat.zero_add k0)    ls (lv_sub hl [1, 2, 3, 0] rfl) H locs hP hD hS
set_option maxHeartbeats 4000000 in
set_option maxRecDepth 100000 in
theorem g_settledAhead (l : Launch) (D : va_G) (cy : Nat → ClassId) (sk sv : Nat → Nat) (w : Wd) (x a0 a1 a2 a3 a4 a5 a6 a7 a8 a9 a10 a11 pc ac sc sh : Nat) (td : Int32)(tg : Nat → Nat)(hf : Nat → Option Nat) (sw hto : Nat → Nat) (hpp hle ham hhh hdd hru hde hcp hld : Nat → Int32)(l0 l1 l2 l3 l4 l5 l6 l7 : Nat) (gc9 sz9 : Int32) (kf : Nat → Int32)(z tw : Nat) (pp le am hh dd ru de cp ld : Int32) (k0 : Nat) (c90 : wd_at w x (.inr (10, [.ref a0, .ref a1, .ref a2, .ref a3, .ref a4, .ref a5, .ref a6, .ref a7, .ref a8, .ref a9, .ref a10, .ref a11, .int td, .int (nI pc), .int (nI ac), .int (nI sc), .int (nI sh)]))) (c91 : wd_at w a5 (.inl (cy 7, 200, .inr (.inr (.inr (.inr hf)))))) (c92 : wd_at w a7 (.inr (4, [.ref l0, .ref l1, .ref l2, .ref l3, .ref l4, .ref l5, .ref l6, .ref l7, .int gc9, .int sz9]))) (c93 : wd_at w l0 (.inl (cy 2, 200, .inl kf))) (c94 : wd_at w z (.inr (5, [.int (nI tw), .int pp, .int le, .int am, .int hh, .int dd, .int ru, .int de, .int cp, .int ld]))) (hH9 : ∀ k9, k9 < sh → (hf k9 = some (sw k9) ∧ hto k9 < 12) ∧ wd_at w (sw k9) (.inr (5, [.int (nI (hto k9)), .int (hpp k9), .int (hle k9), .int (ham k9), .int (hhh k9), .int (hdd k9), .int (hru k9), .int (hde k9), .int (hcp k9), .int (hld k9)])) ∧ tg (sw k9) = 7000 + k9) (hk : k0 ≤ sh) (hsh : sh ≤ 200) : Ct l D cy sk sv yX10_settledAhead wsX10_settledAhead ({ frames := 1, cells := 0, slots := 0, locals := 21 }) [.ref x, .int (nI k0), .ref z] w (fun v w1 => ∃ (r1 : Int32), v = some (.int r1) ∧ w = w1) := by
  refine Ct.by (cc := cX10_settledAhead) (maxL := 5) (ret := (some .int)) (by decide +kernel) rfl (Nat.le_of_ble_eq_true rfl) ?_
  intro p e s m args below meth c A Q F hnm K ls hl
  have F : wd_Fx p s m args meth c cX10_settledAhead 5 wsX10_settledAhead RX10 D cy sk sv A := F
  have hl : lv_has ls 5 [(0, .ref x), (1, .int (nI k0)), (2, .ref z)] := hl
  have hx := F.1.1
  have hb := F.1.2.1
  have hown := F.1.2.2.2.1
  have hts := F.1.2.2.2.2
  intro H locs hP hD hS
  refine lv_iconst (v := 0) hx hb dX10_settledAhead_0 (by decide) ?_
  refine lv_istore_n (lv' := [(3, .int 0), (0, .ref x), (1, .int (nI k0)), (2, .ref z)]) hx hb dX10_settledAhead_1 rfl hl (by decide) rfl (fun ls hl => ?_)
  refine lv_iconst (v := 0) hx hb dX10_settledAhead_2 (by decide) ?_
  refine lv_istore (lv' := [(4, .int 0), (3, .int 0), (0, .ref x), (1, .int (nI k0)), (2, .ref z)]) hx hb dX10_settledAhead_3 hl (by decide) rfl (fun ls hl => ?_)
  have lp5 : ∀ (N : Nat) (k : Nat) (su : Int32), (k + N = k0) → ∀ (ls : Array Slot), lv_has ls 5 [(0, .ref x), (1, .int (nI k0)), (2, .ref z), (3, .int su), (4, .int (nI k))] → Wv p l e ({ frames := 1, cells := 0, slots := 0, locals := 21 }) s m args below meth c D A (0) (0) Q w (F0 m 5 ls []) := by
    intro N
    induction N with
    | zero =>
      intro k su hN5 ls hl H locs hP hD hS
      refine lv_iload hx hb dX10_settledAhead_5 (lv_at hl 4 rfl) ?_
      refine lv_iload_n hx hb dX10_settledAhead_7 rfl (lv_at hl 1 rfl) ?_
      refine lv_icmp_ge (tgt := 59) hx hb dX10_settledAhead_8 (by decide) (fun c_2 => ?_) (fun c_2 => absurd (nI_le (a := k0) (b := k) (by omega) (by omega)) c_2)
      refine lv_iload_n hx hb dX10_settledAhead_59 rfl (lv_at hl 3 rfl) ?_
      exact y_ir K hP hD hS (Nat.le_of_ble_eq_true rfl) (Nat.le_of_ble_eq_true rfl) (ty := .int) rfl rfl dX10_settledAhead_60 (⟨su, rfl, rfl⟩)
    | succ N ih5 =>
      intro k su hN5 ls hl H locs hP hD hS
      refine lv_iload hx hb dX10_settledAhead_5 (lv_at hl 4 rfl) ?_
      refine lv_iload_n hx hb dX10_settledAhead_7 rfl (lv_at hl 1 rfl) ?_
      refine lv_icmp_ge (tgt := 59) hx hb dX10_settledAhead_8 (by decide) (fun c_3 => absurd c_3 (nI_ge (a := k) (b := k0) (by omega) (by omega))) (fun c_3 => ?_)
      refine lv_aload_n hx hb dX10_settledAhead_11 rfl (lv_at hl 0 rfl) ?_
      refine x_get (ref := "NoteHouse") F hP c90 rfl (fun _ h => List.mem_cons_of_mem _ (List.mem_append_left _ (List.mem_append_left _ (List.mem_append_right _ (h))))) 7 (Nat.le_of_ble_eq_true rfl) (List.mem_cons_of_mem _ (List.mem_append_left _ (List.mem_append_left _ (List.mem_append_left _ (List.mem_of_getElem? (i := 0) rfl))))) rfl rfl dX10_settledAhead_12 ?_
      refine lv_iload hx hb dX10_settledAhead_15 (lv_at hl 4 rfl) ?_
      refine x_callV (n := 1) (As := [.int (nI k)]) (rest := []) F hP hD hS (g_holds l D cy sk sv w a7 l0 l1 l2 l3 l4 l5 l6 l7 gc9 sz9 (nI k) kf c92 c93) gX10_settledAhead_X4_holds rfl rfl (by decide +kernel) ⟨(Nat.le_of_ble_eq_true rfl), (Nat.le_of_ble_eq_true rfl)⟩ rfl hl.1 (Nat.le_of_ble_eq_true rfl) c92 rfl dX10_settledAhead_17 rfl ⟨(Nat.le_of_ble_eq_true rfl), (Nat.le_of_ble_eq_true rfl)⟩ (fun v5 w6 hp4 H locs hP hD hS => ?_)
      obtain ⟨rx7, rfl, hz8, hz9, rfl⟩ := hp4
      refine W.eq (g2 := F0 m 20 ls [.int rx7]) rfl (W.widen (k := 0) (n := 0) (Nat.le_of_ble_eq_true rfl) (Nat.le_of_ble_eq_true rfl) ?_)
      refine lv_if_eq (tgt := 53) hx hb dX10_settledAhead_20 (by decide) (fun c_10 => ?_) (fun c_10 => ?_)
      · refine lv_iinc (v := nI (k + 1)) (lv' := [(4, .int (nI (k + 1))), (0, .ref x), (1, .int (nI k0)), (2, .ref z), (3, .int su)]) hx hb dX10_settledAhead_53 hl (k := 4) rfl (nI_1 k) (by decide) rfl (fun ls hl => ?_)
        refine lv_goto (tgt := 5) hx hb dX10_settledAhead_56 (by decide) ?_
        exact ih5 (k + 1) su  (by omega)    ls (lv_sub hl [1, 2, 3, 4, 0] rfl) H locs hP hD hS
      · refine lv_aload_n hx hb dX10_settledAhead_23 rfl (lv_at hl 0 rfl) ?_
        refine x_get (ref := "NoteHouse") F hP c90 rfl (fun _ h => List.mem_cons_of_mem _ (List.mem_append_left _ (List.mem_append_left _ (List.mem_append_right _ (h))))) 5 (Nat.le_of_ble_eq_true rfl) (List.mem_cons_of_mem _ (List.mem_append_left _ (List.mem_append_left _ (List.mem_append_left _ (List.mem_of_getElem? (i := 1) rfl))))) rfl rfl dX10_settledAhead_24 ?_
        refine lv_iload hx hb dX10_settledAhead_27 (lv_at hl 4 rfl) ?_
        refine x_aald F hP c91 rfl (vp_in_nI (n := k) (N := 200) (by omega) (by decide)) dX10_settledAhead_29 ?_
        rw [nI_clamp (n := k) (by omega), ((hH9 k (by omega)).1).1]
        have k11 := (hH9 k (by omega)).2.1
        have tz12 := (hH9 k (by omega)).2.2
        refine W.eq (g2 := F0 m _ ls [.ref (sw k)]) rfl ?_
        refine x_get (ref := "NoteHouse$Shown") F hP k11 rfl (fun _ h => List.mem_cons_of_mem _ (List.mem_append_left _ (List.mem_append_right _ (h)))) 1 (Nat.le_of_ble_eq_true rfl) (List.mem_cons_of_mem _ (List.mem_append_left _ (List.mem_append_left _ (List.mem_append_left _ (List.mem_of_getElem? (i := 2) rfl))))) rfl rfl dX10_settledAhead_30 ?_
        refine lv_aload_n hx hb dX10_settledAhead_33 rfl (lv_at hl 2 rfl) ?_
        refine x_get (ref := "NoteHouse$Shown") F hP c94 rfl (fun _ h => List.mem_cons_of_mem _ (List.mem_append_left _ (List.mem_append_right _ (h)))) 1 (Nat.le_of_ble_eq_true rfl) (List.mem_cons_of_mem _ (List.mem_append_left _ (List.mem_append_left _ (List.mem_append_left _ (List.mem_of_getElem? (i := 2) rfl))))) rfl rfl dX10_settledAhead_34 ?_
        refine lv_icmp_ne (tgt := 53) hx hb dX10_settledAhead_37 (by decide) (fun c_13 => ?_) (fun c_13 => ?_)
        · refine lv_iinc (v := nI (k + 1)) (lv' := [(4, .int (nI (k + 1))), (0, .ref x), (1, .int (nI k0)), (2, .ref z), (3, .int su)]) hx hb dX10_settledAhead_53 hl (k := 4) rfl (nI_1 k) (by decide) rfl (fun ls hl => ?_)
          refine lv_goto (tgt := 5) hx hb dX10_settledAhead_56 (by decide) ?_
          exact ih5 (k + 1) su  (by omega)    ls (lv_sub hl [1, 2, 3, 4, 0] rfl) H locs hP hD hS
        · refine lv_iload_n hx hb dX10_settledAhead_40 rfl (lv_at hl 3 rfl) ?_
          refine lv_aload_n hx hb dX10_settledAhead_41 rfl (lv_at hl 0 rfl) ?_
          refine x_get (ref := "NoteHouse") F hP c90 rfl (fun _ h => List.mem_cons_of_mem _ (List.mem_append_left _ (List.mem_append_left _ (List.mem_append_right _ (h))))) 5 (Nat.le_of_ble_eq_true rfl) (List.mem_cons_of_mem _ (List.mem_append_left _ (List.mem_append_left _ (List.mem_append_left _ (List.mem_of_getElem? (i := 1) rfl))))) rfl rfl dX10_settledAhead_42 ?_
          refine lv_iload hx hb dX10_settledAhead_45 (lv_at hl 4 rfl) ?_
          refine x_aald F hP c91 rfl (vp_in_nI (n := k) (N := 200) (by omega) (by decide)) dX10_settledAhead_47 ?_
          rw [nI_clamp (n := k) (by omega), ((hH9 k (by omega)).1).1]
          have k14 := (hH9 k (by omega)).2.1
          have tz15 := (hH9 k (by omega)).2.2
          refine W.eq (g2 := F0 m _ ls [.ref (sw k), .int su]) rfl ?_
          refine x_get (ref := "NoteHouse$Shown") F hP k14 rfl (fun _ h => List.mem_cons_of_mem _ (List.mem_append_left _ (List.mem_append_right _ (h)))) 3 (Nat.le_of_ble_eq_true rfl) (List.mem_cons_of_mem _ (List.mem_append_left _ (List.mem_append_left _ (List.mem_append_left _ (List.mem_of_getElem? (i := 3) rfl))))) rfl rfl dX10_settledAhead_48 ?_
          refine lv_iadd hx hb dX10_settledAhead_51 ?_
          refine lv_istore_n (lv' := [(3, .int (su + (ham k))), (0, .ref x), (1, .int (nI k0)), (2, .ref z), (4, .int (nI k))]) hx hb dX10_settledAhead_52 rfl hl (by decide) rfl (fun ls hl => ?_)
          refine lv_iinc (v := nI (k + 1)) (lv' := [(4, .int (nI (k + 1))), (3, .int (su + (ham k))), (0, .ref x), (1, .int (nI k0)), (2, .ref z)]) hx hb dX10_settledAhead_53 hl (k := 4) rfl (nI_1 k) (by decide) rfl (fun ls hl => ?_)
          refine lv_goto (tgt := 5) hx hb dX10_settledAhead_56 (by decide) ?_
          exact ih5 (k + 1) (su + (ham k))  (by omega)    ls (lv_sub hl [2, 3, 4, 1, 0] rfl) H locs hP hD hS
  exact lp5 _ 0 0  (Nat.zero_add k0)    ls (lv_sub hl [2, 3, 4, 1, 0] rfl) H locs hP hD hS
set_option maxHeartbeats 4000000 in
set_option maxRecDepth 100000 in
theorem g_kindOf (l : Launch) (D : va_G) (cy : Nat → ClassId) (sk sv : Nat → Nat) (w : Wd) (x a0 a1 a2 a3 a4 a5 a6 a7 a8 a9 a10 a11 pc ac sc sh : Nat) (td : Int32)(tg : Nat → Nat)(pf : Nat → Option Nat) (pa : Nat → Nat) (plv pwo phd pgd pdy pno ptp : Nat → Int32)(zf : Nat → Option Nat) (so sr : Nat → Nat) (sp0 sp1 : Nat → Int32) (sd : Nat → Nat → Int32)(hf : Nat → Option Nat) (sw hto : Nat → Nat) (hpp hle ham hhh hdd hru hde hcp hld : Nat → Int32)(l0 l1 l2 l3 l4 l5 l6 l7 : Nat) (gc9 sz9 : Int32) (kf : Nat → Int32)(z tw : Nat) (pp le am hh dd ru de cp ld : Int32) (k0 bl : Nat) (ff9 tt9 : Int32) (c90 : wd_at w x (.inr (10, [.ref a0, .ref a1, .ref a2, .ref a3, .ref a4, .ref a5, .ref a6, .ref a7, .ref a8, .ref a9, .ref a10, .ref a11, .int td, .int (nI pc), .int (nI ac), .int (nI sc), .int (nI sh)]))) (c91 : wd_at w a5 (.inl (cy 7, 200, .inr (.inr (.inr (.inr hf)))))) (c92 : wd_at w a7 (.inr (4, [.ref l0, .ref l1, .ref l2, .ref l3, .ref l4, .ref l5, .ref l6, .ref l7, .int gc9, .int sz9]))) (c93 : wd_at w l0 (.inl (cy 2, 200, .inl kf))) (c94 : wd_at w z (.inr (5, [.int (nI tw), .int pp, .int le, .int am, .int hh, .int dd, .int ru, .int de, .int cp, .int ld]))) (c95 : wd_at w a2 (.inl (cy 6, 30, .inr (.inr (.inr (.inr pf)))))) (c96 : wd_at w a4 (.inl (cy 8, 60, .inr (.inr (.inr (.inr zf)))))) (c97 : wd_at w a10 (.inr (2, [.ref bl, .int ff9, .int tt9]))) (hP9 : ∀ k9, k9 < pc → pf k9 = some (pa k9) ∧ wd_at w (pa k9) (.inr (3, [.int (plv k9), .int (pwo k9), .int (phd k9), .int (pgd k9), .int (pdy k9), .int (pno k9), .int (ptp k9)])) ∧ tg (pa k9) = 3000 + k9) (hS9 : ∀ k9, k9 < sc → zf k9 = some (so k9) ∧ wd_at w (so k9) (.inr (6, [.int (sp0 k9), .int (sp1 k9), .ref (sr k9)])) ∧ tg (so k9) = 5000 + k9 ∧ wd_at w (sr k9) (.inl (cy 2, 12, .inl (sd k9))) ∧ tg (sr k9) = 6000 + k9) (hH9 : ∀ k9, k9 < sh → (hf k9 = some (sw k9) ∧ hto k9 < 12) ∧ wd_at w (sw k9) (.inr (5, [.int (nI (hto k9)), .int (hpp k9), .int (hle k9), .int (ham k9), .int (hhh k9), .int (hdd k9), .int (hru k9), .int (hde k9), .int (hcp k9), .int (hld k9)])) ∧ tg (sw k9) = 7000 + k9) (hk : k0 ≤ sh) (hsh : sh ≤ 200) (hpc : pc ≤ 30) (hsc : sc ≤ 60) (htw : tw < 12) : Ct l D cy sk sv yX10_kindOf wsX10_kindOf ({ frames := 3, cells := 0, slots := 0, locals := 64 }) [.ref x, .int (nI k0), .ref z] w (fun v w1 => ∃ (kd : Nat), v = some (.int (nI kd)) ∧ (kd ≤ 4) ∧ w = w1) := by
  refine Ct.by (cc := cX10_kindOf) (maxL := 4) (ret := (some .int)) (by decide +kernel) rfl (Nat.le_of_ble_eq_true rfl) ?_
  intro p e s m args below meth c A Q F hnm K ls hl
  have F : wd_Fx p s m args meth c cX10_kindOf 4 wsX10_kindOf RX10 D cy sk sv A := F
  have hl : lv_has ls 4 [(0, .ref x), (1, .int (nI k0)), (2, .ref z)] := hl
  have hx := F.1.1
  have hb := F.1.2.1
  have hown := F.1.2.2.2.1
  have hts := F.1.2.2.2.2
  intro H locs hP hD hS
  refine lv_aload_n hx hb dX10_kindOf_0 rfl (lv_at hl 0 rfl) ?_
  refine lv_aload_n hx hb dX10_kindOf_1 rfl (lv_at hl 2 rfl) ?_
  refine x_get (ref := "NoteHouse$Shown") F hP c94 rfl (fun _ h => List.mem_cons_of_mem _ (List.mem_append_left _ (List.mem_append_left _ (List.mem_append_left _ (List.mem_append_left _ (List.mem_append_left _ (List.mem_append_right _ (h)))))))) 1 (Nat.le_of_ble_eq_true rfl) (List.mem_cons_of_mem _ (List.mem_append_left _ (List.mem_append_left _ (List.mem_append_left _ (List.mem_append_left _ (List.mem_append_left _ (List.mem_append_left _ (List.mem_append_left _ (List.mem_of_getElem? (i := 0) rfl))))))))) rfl rfl dX10_kindOf_2 ?_
  refine x_callV (n := 1) (As := [.int pp]) (rest := []) F hP hD hS (g_paperAt l D cy sk sv w x a0 a1 a2 a3 a4 a5 a6 a7 a8 a9 a10 a11 pc ac sc sh td pp tg pf pa plv pwo phd pgd pdy pno ptp c90 c95 hP9 (by omega)) gX10_kindOf_X10_paperAt rfl rfl (by decide +kernel) ⟨(Nat.le_of_ble_eq_true rfl), (Nat.le_of_ble_eq_true rfl)⟩ rfl hl.1 (Nat.le_of_ble_eq_true rfl) c90 rfl dX10_kindOf_5 rfl ⟨(Nat.le_of_ble_eq_true rfl), (Nat.le_of_ble_eq_true rfl)⟩ (fun v2 w3 hp1 H locs hP hD hS => ?_)
  obtain ⟨hp1, rfl⟩ := hp1
  rcases hp1 with ⟨rfl, hn5⟩ | ⟨j4, hn5, ej4, rfl⟩
  · refine W.eq (g2 := F0 m 8 ls [.null]) rfl (W.widen (k := 0) (n := 0) (Nat.le_of_ble_eq_true rfl) (Nat.le_of_ble_eq_true rfl) ?_)
    refine lv_astore_nN (lv' := [(3, .null), (0, .ref x), (1, .int (nI k0)), (2, .ref z)]) hx hb dX10_kindOf_8 rfl hl (by decide) rfl (fun ls hl => ?_)
    refine lv_aload_nN hx hb dX10_kindOf_9 rfl (lv_at hl 0 rfl) ?_
    refine lv_ifnonnullN hx hb dX10_kindOf_10 ?_
    refine lv_iconst (v := 0) hx hb dX10_kindOf_13 (by decide) ?_
    exact y_ir K hP hD hS (Nat.le_of_ble_eq_true rfl) (Nat.le_of_ble_eq_true rfl) (ty := .int) rfl rfl dX10_kindOf_14 (⟨0, rfl, by omega, rfl⟩)
  · refine W.eq (g2 := F0 m 8 ls [.ref (pa j4)]) rfl (W.widen (k := 0) (n := 0) (Nat.le_of_ble_eq_true rfl) (Nat.le_of_ble_eq_true rfl) ?_)
    have pr6 := (hP9 j4 hn5).1
    have k7 := (hP9 j4 hn5).2.1
    have tz8 := (hP9 j4 hn5).2.2
    refine lv_astore_n (lv' := [(3, .ref (pa j4)), (0, .ref x), (1, .int (nI k0)), (2, .ref z)]) hx hb dX10_kindOf_8 rfl hl (by decide) rfl (fun ls hl => ?_)
    refine lv_aload_n hx hb dX10_kindOf_9 rfl (lv_at hl 0 rfl) ?_
    refine lv_ifnonnull (tgt := 15) hx hb dX10_kindOf_10 (by decide) ?_
    refine lv_aload_n hx hb dX10_kindOf_15 rfl (lv_at hl 1 rfl) ?_
    refine lv_aload_n hx hb dX10_kindOf_16 rfl (lv_at hl 3 rfl) ?_
    refine x_callV (n := 1) (As := [.ref z]) (rest := []) F hP hD hS (g_isStopped l D cy sk sv w x a0 a1 a2 a3 a4 a5 a6 a7 a8 a9 a10 a11 pc ac sc sh td tg zf so sr sp0 sp1 sd z tw pp le am hh dd ru de cp ld c90 c96 c94 hS9 (by omega) (by omega)) gX10_kindOf_X10_isStopped rfl rfl (by decide +kernel) ⟨(Nat.le_of_ble_eq_true rfl), (Nat.le_of_ble_eq_true rfl)⟩ rfl hl.1 (Nat.le_of_ble_eq_true rfl) c90 rfl dX10_kindOf_17 rfl ⟨(Nat.le_of_ble_eq_true rfl), (Nat.le_of_ble_eq_true rfl)⟩ (fun v10 w11 hp9 H locs hP hD hS => ?_)
    obtain ⟨rx12, rfl, hz13, rfl⟩ := hp9
    refine W.eq (g2 := F0 m 20 ls [.int rx12]) rfl (W.widen (k := 0) (n := 0) (Nat.le_of_ble_eq_true rfl) (Nat.le_of_ble_eq_true rfl) ?_)
    refine lv_if_eq (tgt := 25) hx hb dX10_kindOf_20 (by decide) (fun c_14 => ?_) (fun c_14 => ?_)
    · refine lv_aload_n hx hb dX10_kindOf_25 rfl (lv_at hl 3 rfl) ?_
      refine x_get (ref := "NoteHouse$Shown") F hP c94 rfl (fun _ h => List.mem_cons_of_mem _ (List.mem_append_left _ (List.mem_append_left _ (List.mem_append_left _ (List.mem_append_left _ (List.mem_append_left _ (List.mem_append_right _ (h)))))))) 4 (Nat.le_of_ble_eq_true rfl) (List.mem_cons_of_mem _ (List.mem_append_left _ (List.mem_append_left _ (List.mem_append_left _ (List.mem_append_left _ (List.mem_append_left _ (List.mem_append_left _ (List.mem_append_left _ (List.mem_of_getElem? (i := 1) rfl))))))))) rfl rfl dX10_kindOf_26 ?_
      refine lv_aload_n hx hb dX10_kindOf_29 rfl (lv_at hl 0 rfl) ?_
      refine x_get (ref := "NoteHouse$Paper") F hP k7 rfl (fun _ h => List.mem_cons_of_mem _ (List.mem_append_left _ (List.mem_append_left _ (List.mem_append_left _ (List.mem_append_left _ (List.mem_append_right _ (h))))))) 2 (Nat.le_of_ble_eq_true rfl) (List.mem_cons_of_mem _ (List.mem_append_left _ (List.mem_append_left _ (List.mem_append_left _ (List.mem_append_left _ (List.mem_append_left _ (List.mem_append_left _ (List.mem_append_left _ (List.mem_of_getElem? (i := 2) rfl))))))))) rfl rfl dX10_kindOf_30 ?_
      refine x_callS (n := 2) (As := [.int hh, .int (phd j4)]) (rest := []) F hP hD hS (g_unlikeness l D cy sk sv w hh (phd j4)) gX10_kindOf_X10_unlikeness rfl (by decide +kernel) ⟨(Nat.le_of_ble_eq_true rfl), (Nat.le_of_ble_eq_true rfl)⟩ rfl hl.1 (Nat.le_of_ble_eq_true rfl) dX10_kindOf_33 rfl ⟨(Nat.le_of_ble_eq_true rfl), (Nat.le_of_ble_eq_true rfl)⟩ (fun v16 w17 hp15 H locs hP hD hS => ?_)
      obtain ⟨rx18, rfl, rfl⟩ := hp15
      refine W.eq (g2 := F0 m 36 ls [.int rx18]) rfl (W.widen (k := 0) (n := 0) (Nat.le_of_ble_eq_true rfl) (Nat.le_of_ble_eq_true rfl) ?_)
      refine lv_aload_n hx hb dX10_kindOf_36 rfl (lv_at hl 1 rfl) ?_
      refine x_get (ref := "NoteHouse") F hP c90 rfl (fun _ h => List.mem_cons_of_mem _ (List.mem_append_left _ (List.mem_append_left _ (List.mem_append_left _ (List.mem_append_right _ (h)))))) 10 (Nat.le_of_ble_eq_true rfl) (List.mem_cons_of_mem _ (List.mem_append_left _ (List.mem_append_left _ (List.mem_append_left _ (List.mem_append_left _ (List.mem_append_left _ (List.mem_append_left _ (List.mem_append_left _ (List.mem_of_getElem? (i := 3) rfl))))))))) rfl rfl dX10_kindOf_37 ?_
      refine x_get (ref := "NoteHouse$Law") F hP c97 rfl (fun _ h => List.mem_cons_of_mem _ (List.mem_append_left _ (List.mem_append_left _ (List.mem_append_right _ (h))))) 1 (Nat.le_of_ble_eq_true rfl) (List.mem_cons_of_mem _ (List.mem_append_left _ (List.mem_append_left _ (List.mem_append_left _ (List.mem_append_left _ (List.mem_append_left _ (List.mem_append_left _ (List.mem_append_left _ (List.mem_of_getElem? (i := 4) rfl))))))))) rfl rfl dX10_kindOf_40 ?_
      refine lv_icmp_lt (tgt := 48) hx hb dX10_kindOf_43 (by decide) (fun c_19 => ?_) (fun c_19 => ?_)
      · refine lv_aload_n hx hb dX10_kindOf_48 rfl (lv_at hl 0 rfl) ?_
        refine x_callV (n := 0) (As := []) (rest := []) F hP hD hS (g_isBook l D cy sk sv w (pa j4) (plv j4) (pwo j4) (phd j4) (pgd j4) (pdy j4) (pno j4) (ptp j4) k7) gX10_kindOf_X3_isBook rfl rfl (by decide +kernel) ⟨(Nat.le_of_ble_eq_true rfl), (Nat.le_of_ble_eq_true rfl)⟩ rfl hl.1 (Nat.le_of_ble_eq_true rfl) k7 rfl dX10_kindOf_49 rfl ⟨(Nat.le_of_ble_eq_true rfl), (Nat.le_of_ble_eq_true rfl)⟩ (fun v21 w22 hp20 H locs hP hD hS => ?_)
        obtain ⟨rx23, rfl, hz24, hz25, hz26, rfl⟩ := hp20
        refine W.eq (g2 := F0 m 52 ls [.int rx23]) rfl (W.widen (k := 0) (n := 0) (Nat.le_of_ble_eq_true rfl) (Nat.le_of_ble_eq_true rfl) ?_)
        refine lv_if_eq (tgt := 70) hx hb dX10_kindOf_52 (by decide) (fun c_27 => ?_) (fun c_27 => ?_)
        · refine lv_aload_n hx hb dX10_kindOf_70 rfl (lv_at hl 1 rfl) ?_
          refine lv_iload_n hx hb dX10_kindOf_71 rfl (lv_at hl 2 rfl) ?_
          refine lv_aload_n hx hb dX10_kindOf_72 rfl (lv_at hl 3 rfl) ?_
          refine x_callV (n := 2) (As := [.int (nI k0), .ref z]) (rest := []) F hP hD hS (g_settledAhead l D cy sk sv w x a0 a1 a2 a3 a4 a5 a6 a7 a8 a9 a10 a11 pc ac sc sh td tg hf sw hto hpp hle ham hhh hdd hru hde hcp hld l0 l1 l2 l3 l4 l5 l6 l7 gc9 sz9 kf z tw pp le am hh dd ru de cp ld k0 c90 c91 c92 c93 c94 hH9 (by omega) (by omega)) gX10_kindOf_X10_settledAhead rfl rfl (by decide +kernel) ⟨(Nat.le_of_ble_eq_true rfl), (Nat.le_of_ble_eq_true rfl)⟩ rfl hl.1 (Nat.le_of_ble_eq_true rfl) c90 rfl dX10_kindOf_73 rfl ⟨(Nat.le_of_ble_eq_true rfl), (Nat.le_of_ble_eq_true rfl)⟩ (fun v29 w30 hp28 H locs hP hD hS => ?_)
          obtain ⟨rx31, rfl, rfl⟩ := hp28
          refine W.eq (g2 := F0 m 76 ls [.int rx31]) rfl (W.widen (k := 0) (n := 0) (Nat.le_of_ble_eq_true rfl) (Nat.le_of_ble_eq_true rfl) ?_)
          refine lv_aload_n hx hb dX10_kindOf_76 rfl (lv_at hl 3 rfl) ?_
          refine x_get (ref := "NoteHouse$Shown") F hP c94 rfl (fun _ h => List.mem_cons_of_mem _ (List.mem_append_left _ (List.mem_append_left _ (List.mem_append_left _ (List.mem_append_left _ (List.mem_append_left _ (List.mem_append_right _ (h)))))))) 3 (Nat.le_of_ble_eq_true rfl) (List.mem_cons_of_mem _ (List.mem_append_left _ (List.mem_append_left _ (List.mem_append_left _ (List.mem_append_left _ (List.mem_append_left _ (List.mem_append_left _ (List.mem_append_left _ (List.mem_of_getElem? (i := 5) rfl))))))))) rfl rfl dX10_kindOf_77 ?_
          refine lv_iadd hx hb dX10_kindOf_80 ?_
          refine lv_aload_n hx hb dX10_kindOf_81 rfl (lv_at hl 0 rfl) ?_
          refine x_get (ref := "NoteHouse$Paper") F hP k7 rfl (fun _ h => List.mem_cons_of_mem _ (List.mem_append_left _ (List.mem_append_left _ (List.mem_append_left _ (List.mem_append_left _ (List.mem_append_right _ (h))))))) 1 (Nat.le_of_ble_eq_true rfl) (List.mem_cons_of_mem _ (List.mem_append_left _ (List.mem_append_left _ (List.mem_append_left _ (List.mem_append_left _ (List.mem_append_left _ (List.mem_append_left _ (List.mem_append_left _ (List.mem_of_getElem? (i := 6) rfl))))))))) rfl rfl dX10_kindOf_82 ?_
          refine lv_icmp_le (tgt := 92) hx hb dX10_kindOf_85 (by decide) (fun c_32 => ?_) (fun c_32 => ?_)
          · refine lv_iconst (v := 0) hx hb dX10_kindOf_92 (by decide) ?_
            exact y_ir K hP hD hS (Nat.le_of_ble_eq_true rfl) (Nat.le_of_ble_eq_true rfl) (ty := .int) rfl rfl dX10_kindOf_93 (⟨0, rfl, by omega, rfl⟩)
          · refine lv_iconst (v := 4) hx hb dX10_kindOf_88 (by decide) ?_
            refine lv_goto (tgt := 93) hx hb dX10_kindOf_89 (by decide) ?_
            exact y_ir K hP hD hS (Nat.le_of_ble_eq_true rfl) (Nat.le_of_ble_eq_true rfl) (ty := .int) rfl rfl dX10_kindOf_93 (⟨4, rfl, by omega, rfl⟩)
        · refine lv_aload_n hx hb dX10_kindOf_55 rfl (lv_at hl 1 rfl) ?_
          refine lv_iload_n hx hb dX10_kindOf_56 rfl (lv_at hl 2 rfl) ?_
          refine lv_aload_n hx hb dX10_kindOf_57 rfl (lv_at hl 3 rfl) ?_
          refine x_callV (n := 2) (As := [.int (nI k0), .ref z]) (rest := []) F hP hD hS (g_isSettledAhead l D cy sk sv w x a0 a1 a2 a3 a4 a5 a6 a7 a8 a9 a10 a11 pc ac sc sh td tg hf sw hto hpp hle ham hhh hdd hru hde hcp hld l0 l1 l2 l3 l4 l5 l6 l7 gc9 sz9 kf z tw pp le am hh dd ru de cp ld k0 c90 c91 c92 c93 c94 hH9 (by omega) (by omega)) gX10_kindOf_X10_isSettledAhead rfl rfl (by decide +kernel) ⟨(Nat.le_of_ble_eq_true rfl), (Nat.le_of_ble_eq_true rfl)⟩ rfl hl.1 (Nat.le_of_ble_eq_true rfl) c90 rfl dX10_kindOf_58 rfl ⟨(Nat.le_of_ble_eq_true rfl), (Nat.le_of_ble_eq_true rfl)⟩ (fun v34 w35 hp33 H locs hP hD hS => ?_)
          obtain ⟨rx36, rfl, hz37, rfl⟩ := hp33
          refine W.eq (g2 := F0 m 61 ls [.int rx36]) rfl (W.widen (k := 0) (n := 0) (Nat.le_of_ble_eq_true rfl) (Nat.le_of_ble_eq_true rfl) ?_)
          refine lv_if_eq (tgt := 68) hx hb dX10_kindOf_61 (by decide) (fun c_38 => ?_) (fun c_38 => ?_)
          · refine lv_iconst (v := 0) hx hb dX10_kindOf_68 (by decide) ?_
            exact y_ir K hP hD hS (Nat.le_of_ble_eq_true rfl) (Nat.le_of_ble_eq_true rfl) (ty := .int) rfl rfl dX10_kindOf_69 (⟨0, rfl, by omega, rfl⟩)
          · refine lv_iconst (v := 3) hx hb dX10_kindOf_64 (by decide) ?_
            refine lv_goto (tgt := 69) hx hb dX10_kindOf_65 (by decide) ?_
            exact y_ir K hP hD hS (Nat.le_of_ble_eq_true rfl) (Nat.le_of_ble_eq_true rfl) (ty := .int) rfl rfl dX10_kindOf_69 (⟨3, rfl, by omega, rfl⟩)
      · refine lv_iconst (v := 2) hx hb dX10_kindOf_46 (by decide) ?_
        exact y_ir K hP hD hS (Nat.le_of_ble_eq_true rfl) (Nat.le_of_ble_eq_true rfl) (ty := .int) rfl rfl dX10_kindOf_47 (⟨2, rfl, by omega, rfl⟩)
    · refine lv_iconst (v := 1) hx hb dX10_kindOf_23 (by decide) ?_
      exact y_ir K hP hD hS (Nat.le_of_ble_eq_true rfl) (Nat.le_of_ble_eq_true rfl) (ty := .int) rfl rfl dX10_kindOf_24 (⟨1, rfl, by omega, rfl⟩)
set_option maxHeartbeats 4000000 in
set_option maxRecDepth 100000 in
theorem g_hasRoom (l : Launch) (D : va_G) (cy : Nat → ClassId) (sk sv : Nat → Nat) (w : Wd) (t b n : Nat) (a0 : Int32) (c90 : wd_at w t (.inr (7, [.ref b, .int (nI n), .int a0])))  (hn : n ≤ 300) : Ct l D cy sk sv yX7_hasRoom wsX7_hasRoom ({ frames := 0, cells := 0, slots := 0, locals := 0 }) [.ref t, .int 20] w (fun v w1 => ∃ (r1 : Int32), v = some (.int r1) ∧ (r1 = 0 ∨ r1 = 1) ∧ (r1 = 0 → ¬ n + 20 ≤ 300) ∧ (¬ r1 = 0 → n + 20 ≤ 300) ∧ w = w1) := by
  refine Ct.by (cc := cX7_hasRoom) (maxL := 2) (ret := (some .boolean)) (by decide +kernel) rfl (Nat.le_of_ble_eq_true rfl) ?_
  intro p e s m args below meth c A Q F hnm K ls hl
  have F : wd_Fx p s m args meth c cX7_hasRoom 2 wsX7_hasRoom RX7 D cy sk sv A := F
  have hl : lv_has ls 2 [(0, .ref t), (1, .int 20)] := hl
  have hx := F.1.1
  have hb := F.1.2.1
  have hown := F.1.2.2.2.1
  have hts := F.1.2.2.2.2
  intro H locs hP hD hS
  refine lv_aload_n hx hb dX7_hasRoom_0 rfl (lv_at hl 0 rfl) ?_
  refine x_get (ref := "NoteHouse$Tape") F hP c90 rfl (fun _ h => List.mem_cons_of_mem _ (List.mem_append_right _ (h))) 1 (Nat.le_of_ble_eq_true rfl) (List.mem_cons_of_mem _ (List.mem_append_left _ (List.mem_of_getElem? (i := 0) rfl))) rfl rfl dX7_hasRoom_1 ?_
  refine lv_iload_n hx hb dX7_hasRoom_4 rfl (lv_at hl 1 rfl) ?_
  refine lv_iadd hx hb dX7_hasRoom_5 ?_
  rw [show ((nI n) + 20 : Int32) = nI (n + 20) from nI_add n 20]
  refine lv_sipush (v := 300) hx hb dX7_hasRoom_6 (by decide) ?_
  refine lv_icmp_gt (tgt := 16) hx hb dX7_hasRoom_9 (by decide) (fun c_1 => ?_) (fun c_1 => ?_)
  · refine lv_iconst (v := 0) hx hb dX7_hasRoom_16 (by decide) ?_
    exact y_ir K hP hD hS (Nat.le_of_ble_eq_true rfl) (Nat.le_of_ble_eq_true rfl) (ty := .boolean) rfl rfl dX7_hasRoom_17 (⟨0, rfl, Or.inl rfl, fun _ h => absurd c_1 (nI_nlt (a := 300) (b := n + 20) h (by decide)), fun h => absurd rfl h, rfl⟩)
  · refine lv_iconst (v := 1) hx hb dX7_hasRoom_12 (by decide) ?_
    refine lv_goto (tgt := 17) hx hb dX7_hasRoom_13 (by decide) ?_
    exact y_ir K hP hD hS (Nat.le_of_ble_eq_true rfl) (Nat.le_of_ble_eq_true rfl) (ty := .boolean) rfl rfl dX7_hasRoom_17 (⟨1, rfl, Or.inr rfl, fun h => absurd h (by decide), fun _ => Nat.le_of_not_lt (fun q => c_1 (nI_lt q (by omega))), rfl⟩)
set_option maxHeartbeats 4000000 in
set_option maxRecDepth 100000 in
theorem g_append (l : Launch) (D : va_G) (cy : Nat → ClassId) (sk sv : Nat → Nat) (w : Wd) (t b k : Nat) (a0 x0 : Int32) (f : Nat → Int32) (c90 : wd_at w t (.inr (7, [.ref b, .int (nI k), .int a0]))) (c91 : wd_at w b (.inl (cy 0, 300, .inl f)))  (S : Nat → Prop) (s90 : S t) (s91 : S b) (hk : k + 4 ≤ 300) : Ct l D cy sk sv yX7_append wsX7_append ({ frames := 0, cells := 0, slots := 0, locals := 0 }) [.ref t, .int x0] w (fun v w1 => ∃ (g : Nat → Int32), v = none ∧ wd_kp S w w1 ∧ wd_at w1 t (.inr (7, [.ref b, .int (nI (k + 4)), .int a0])) ∧ wd_at w1 b (.inl (cy 0, 300, .inl g))) := by
  refine Ct.by (cc := cX7_append) (maxL := 3) (ret := none) (by decide +kernel) rfl (Nat.le_of_ble_eq_true rfl) ?_
  intro p e s m args below meth c A Q F hnm K ls hl
  have F : wd_Fx p s m args meth c cX7_append 3 wsX7_append RX7 D cy sk sv A := F
  have hl : lv_has ls 3 [(0, .ref t), (1, .int x0)] := hl
  have hx := F.1.1
  have hb := F.1.2.1
  have hown := F.1.2.2.2.1
  have hts := F.1.2.2.2.2
  intro H locs hP hD hS
  have kp0 : wd_kp S w w := wd_kp.rf
  refine lv_bipush (v := 24) hx hb dX7_append_0 (by decide) ?_
  refine lv_istore_n (lv' := [(2, .int 24), (0, .ref t), (1, .int x0)]) hx hb dX7_append_2 rfl hl (by decide) rfl (fun ls hl => ?_)
  refine lv_iload_n hx hb dX7_append_3 rfl (lv_at hl 0 rfl) ?_
  refine lv_if_lt (tgt := 46) hx hb dX7_append_4 (by decide) (fun c_1 => absurd c_1 (show ¬ (24 : Int32) < (0 : Int32) by decide)) (fun c_1 => ?_)
  refine lv_aload_n hx hb dX7_append_7 rfl (lv_at hl 1 rfl) ?_
  refine x_get (ref := "NoteHouse$Tape") F hP c90 rfl (fun _ h => List.mem_cons_of_mem _ (List.mem_append_right _ (h))) 1 (Nat.le_of_ble_eq_true rfl) (List.mem_cons_of_mem _ (List.mem_append_left _ (List.mem_of_getElem? (i := 0) rfl))) rfl rfl dX7_append_8 ?_
  refine lv_sipush (v := 300) hx hb dX7_append_11 (by decide) ?_
  refine lv_icmp_ge (tgt := 46) hx hb dX7_append_14 (by decide) (fun c_2 => absurd c_2 (nI_ge (a := k) (b := 300) (by omega) (by decide))) (fun c_2 => ?_)
  refine lv_aload_n hx hb dX7_append_17 rfl (lv_at hl 1 rfl) ?_
  refine x_get (ref := "NoteHouse$Tape") F hP c90 rfl (fun _ h => List.mem_cons_of_mem _ (List.mem_append_right _ (h))) 0 (Nat.le_of_ble_eq_true rfl) (List.mem_cons_of_mem _ (List.mem_append_left _ (List.mem_of_getElem? (i := 1) rfl))) rfl rfl dX7_append_18 ?_
  refine lv_aload_n hx hb dX7_append_21 rfl (lv_at hl 1 rfl) ?_
  refine x_get (ref := "NoteHouse$Tape") F hP c90 rfl (fun _ h => List.mem_cons_of_mem _ (List.mem_append_right _ (h))) 1 (Nat.le_of_ble_eq_true rfl) (List.mem_cons_of_mem _ (List.mem_append_left _ (List.mem_of_getElem? (i := 0) rfl))) rfl rfl dX7_append_22 ?_
  refine lv_iload_n hx hb dX7_append_25 rfl (lv_at hl 2 rfl) ?_
  refine lv_iload_n hx hb dX7_append_26 rfl (lv_at hl 0 rfl) ?_
  refine lv_ishr hx hb dX7_append_27 ?_
  refine lv_i2b (v := (x0 >>> (24 &&& 31)).toInt8.toInt32) hx hb dX7_append_28 (rfl) ?_
  refine y_bast F hP hD hS c91 (vp_in_nI (n := k) (by omega) (by decide)) dX7_append_29 (fun w3 ew4 H locs hP hD hS => ?_)
  have k5 := wd_at.pt ew4 c90 (wd_nk c90 c91 rfl)
  have k6 : wd_at w3 b (.inl (cy 0, 300, .inl (upd f (nI k).toNatClampNeg (vp_nar .byte ((x0 >>> (24 &&& 31)).toInt8.toInt32))))) := wd_at.ps ew4 c91
  have kp7 := kp0.put ew4 s91
  refine lv_aload_n hx hb dX7_append_30 rfl (lv_at hl 1 rfl) ?_
  refine lv_dup hx hb dX7_append_31 rfl ?_
  refine x_get (ref := "NoteHouse$Tape") F hP k5 rfl (fun _ h => List.mem_cons_of_mem _ (List.mem_append_right _ (h))) 1 (Nat.le_of_ble_eq_true rfl) (List.mem_cons_of_mem _ (List.mem_append_left _ (List.mem_of_getElem? (i := 0) rfl))) rfl rfl dX7_append_32 ?_
  refine lv_iconst (v := 1) hx hb dX7_append_35 (by decide) ?_
  refine lv_iadd hx hb dX7_append_36 ?_
  rw [show ((nI k) + 1 : Int32) = nI (k + 1) from nI_1 k]
  refine y_put (ref := "NoteHouse$Tape") F hP hD hS k5 rfl (fun _ h => List.mem_cons_of_mem _ (List.mem_append_right _ (h))) tyX7_ok nmX7 1 (Nat.le_of_ble_eq_true rfl) (List.mem_cons_of_mem _ (List.mem_append_left _ (List.mem_of_getElem? (i := 0) rfl))) rfl rfl rfl rfl (Nat.le_of_ble_eq_true rfl) dX7_append_37 (fun w8 ew9 H locs hP hD hS => ?_)
  have k10 : wd_at w8 t (.inr (7, [.ref b, .int (nI (k + 1)), .int a0])) := wd_at.ps ew9 k5
  have k11 := wd_at.pt ew9 k6 (wd_nk k6 k5 rfl)
  have kp12 := kp7.put ew9 s90
  refine lv_iinc (v := 16) (lv' := [(2, .int 16), (0, .ref t), (1, .int x0)]) hx hb dX7_append_40 hl (k := 0) rfl (by decide) (by decide) rfl (fun ls hl => ?_)
  refine lv_goto (tgt := 3) hx hb dX7_append_43 (by decide) ?_
  refine lv_iload_n hx hb dX7_append_3 rfl (lv_at hl 0 rfl) ?_
  refine lv_if_lt (tgt := 46) hx hb dX7_append_4 (by decide) (fun c_13 => absurd c_13 (show ¬ (16 : Int32) < (0 : Int32) by decide)) (fun c_13 => ?_)
  refine lv_aload_n hx hb dX7_append_7 rfl (lv_at hl 1 rfl) ?_
  refine x_get (ref := "NoteHouse$Tape") F hP k10 rfl (fun _ h => List.mem_cons_of_mem _ (List.mem_append_right _ (h))) 1 (Nat.le_of_ble_eq_true rfl) (List.mem_cons_of_mem _ (List.mem_append_left _ (List.mem_of_getElem? (i := 0) rfl))) rfl rfl dX7_append_8 ?_
  refine lv_sipush (v := 300) hx hb dX7_append_11 (by decide) ?_
  refine lv_icmp_ge (tgt := 46) hx hb dX7_append_14 (by decide) (fun c_14 => absurd c_14 (nI_ge (a := (k + 1)) (b := 300) (by omega) (by decide))) (fun c_14 => ?_)
  refine lv_aload_n hx hb dX7_append_17 rfl (lv_at hl 1 rfl) ?_
  refine x_get (ref := "NoteHouse$Tape") F hP k10 rfl (fun _ h => List.mem_cons_of_mem _ (List.mem_append_right _ (h))) 0 (Nat.le_of_ble_eq_true rfl) (List.mem_cons_of_mem _ (List.mem_append_left _ (List.mem_of_getElem? (i := 1) rfl))) rfl rfl dX7_append_18 ?_
  refine lv_aload_n hx hb dX7_append_21 rfl (lv_at hl 1 rfl) ?_
  refine x_get (ref := "NoteHouse$Tape") F hP k10 rfl (fun _ h => List.mem_cons_of_mem _ (List.mem_append_right _ (h))) 1 (Nat.le_of_ble_eq_true rfl) (List.mem_cons_of_mem _ (List.mem_append_left _ (List.mem_of_getElem? (i := 0) rfl))) rfl rfl dX7_append_22 ?_
  refine lv_iload_n hx hb dX7_append_25 rfl (lv_at hl 2 rfl) ?_
  refine lv_iload_n hx hb dX7_append_26 rfl (lv_at hl 0 rfl) ?_
  refine lv_ishr hx hb dX7_append_27 ?_
  refine lv_i2b (v := (x0 >>> (16 &&& 31)).toInt8.toInt32) hx hb dX7_append_28 (rfl) ?_
  refine y_bast F hP hD hS k11 (vp_in_nI (n := (k + 1)) (by omega) (by decide)) dX7_append_29 (fun w15 ew16 H locs hP hD hS => ?_)
  have k17 := wd_at.pt ew16 k10 (wd_nk k10 k11 rfl)
  have k18 : wd_at w15 b (.inl (cy 0, 300, .inl (upd (upd f (nI k).toNatClampNeg (vp_nar .byte ((x0 >>> (24 &&& 31)).toInt8.toInt32))) (nI (k + 1)).toNatClampNeg (vp_nar .byte ((x0 >>> (16 &&& 31)).toInt8.toInt32))))) := wd_at.ps ew16 k11
  have kp19 := kp12.put ew16 s91
  refine lv_aload_n hx hb dX7_append_30 rfl (lv_at hl 1 rfl) ?_
  refine lv_dup hx hb dX7_append_31 rfl ?_
  refine x_get (ref := "NoteHouse$Tape") F hP k17 rfl (fun _ h => List.mem_cons_of_mem _ (List.mem_append_right _ (h))) 1 (Nat.le_of_ble_eq_true rfl) (List.mem_cons_of_mem _ (List.mem_append_left _ (List.mem_of_getElem? (i := 0) rfl))) rfl rfl dX7_append_32 ?_
  refine lv_iconst (v := 1) hx hb dX7_append_35 (by decide) ?_
  refine lv_iadd hx hb dX7_append_36 ?_
  rw [show ((nI (k + 1)) + 1 : Int32) = nI (k + 2) from nI_1 (k + 1)]
  refine y_put (ref := "NoteHouse$Tape") F hP hD hS k17 rfl (fun _ h => List.mem_cons_of_mem _ (List.mem_append_right _ (h))) tyX7_ok nmX7 1 (Nat.le_of_ble_eq_true rfl) (List.mem_cons_of_mem _ (List.mem_append_left _ (List.mem_of_getElem? (i := 0) rfl))) rfl rfl rfl rfl (Nat.le_of_ble_eq_true rfl) dX7_append_37 (fun w20 ew21 H locs hP hD hS => ?_)
  have k22 : wd_at w20 t (.inr (7, [.ref b, .int (nI (k + 2)), .int a0])) := wd_at.ps ew21 k17
  have k23 := wd_at.pt ew21 k18 (wd_nk k18 k17 rfl)
  have kp24 := kp19.put ew21 s90
  refine lv_iinc (v := 8) (lv' := [(2, .int 8), (0, .ref t), (1, .int x0)]) hx hb dX7_append_40 hl (k := 0) rfl (by decide) (by decide) rfl (fun ls hl => ?_)
  refine lv_goto (tgt := 3) hx hb dX7_append_43 (by decide) ?_
  refine lv_iload_n hx hb dX7_append_3 rfl (lv_at hl 0 rfl) ?_
  refine lv_if_lt (tgt := 46) hx hb dX7_append_4 (by decide) (fun c_25 => absurd c_25 (show ¬ (8 : Int32) < (0 : Int32) by decide)) (fun c_25 => ?_)
  refine lv_aload_n hx hb dX7_append_7 rfl (lv_at hl 1 rfl) ?_
  refine x_get (ref := "NoteHouse$Tape") F hP k22 rfl (fun _ h => List.mem_cons_of_mem _ (List.mem_append_right _ (h))) 1 (Nat.le_of_ble_eq_true rfl) (List.mem_cons_of_mem _ (List.mem_append_left _ (List.mem_of_getElem? (i := 0) rfl))) rfl rfl dX7_append_8 ?_
  refine lv_sipush (v := 300) hx hb dX7_append_11 (by decide) ?_
  refine lv_icmp_ge (tgt := 46) hx hb dX7_append_14 (by decide) (fun c_26 => absurd c_26 (nI_ge (a := (k + 2)) (b := 300) (by omega) (by decide))) (fun c_26 => ?_)
  refine lv_aload_n hx hb dX7_append_17 rfl (lv_at hl 1 rfl) ?_
  refine x_get (ref := "NoteHouse$Tape") F hP k22 rfl (fun _ h => List.mem_cons_of_mem _ (List.mem_append_right _ (h))) 0 (Nat.le_of_ble_eq_true rfl) (List.mem_cons_of_mem _ (List.mem_append_left _ (List.mem_of_getElem? (i := 1) rfl))) rfl rfl dX7_append_18 ?_
  refine lv_aload_n hx hb dX7_append_21 rfl (lv_at hl 1 rfl) ?_
  refine x_get (ref := "NoteHouse$Tape") F hP k22 rfl (fun _ h => List.mem_cons_of_mem _ (List.mem_append_right _ (h))) 1 (Nat.le_of_ble_eq_true rfl) (List.mem_cons_of_mem _ (List.mem_append_left _ (List.mem_of_getElem? (i := 0) rfl))) rfl rfl dX7_append_22 ?_
  refine lv_iload_n hx hb dX7_append_25 rfl (lv_at hl 2 rfl) ?_
  refine lv_iload_n hx hb dX7_append_26 rfl (lv_at hl 0 rfl) ?_
  refine lv_ishr hx hb dX7_append_27 ?_
  refine lv_i2b (v := (x0 >>> (8 &&& 31)).toInt8.toInt32) hx hb dX7_append_28 (rfl) ?_
  refine y_bast F hP hD hS k23 (vp_in_nI (n := (k + 2)) (by omega) (by decide)) dX7_append_29 (fun w27 ew28 H locs hP hD hS => ?_)
  have k29 := wd_at.pt ew28 k22 (wd_nk k22 k23 rfl)
  have k30 : wd_at w27 b (.inl (cy 0, 300, .inl (upd (upd (upd f (nI k).toNatClampNeg (vp_nar .byte ((x0 >>> (24 &&& 31)).toInt8.toInt32))) (nI (k + 1)).toNatClampNeg (vp_nar .byte ((x0 >>> (16 &&& 31)).toInt8.toInt32))) (nI (k + 2)).toNatClampNeg (vp_nar .byte ((x0 >>> (8 &&& 31)).toInt8.toInt32))))) := wd_at.ps ew28 k23
  have kp31 := kp24.put ew28 s91
  refine lv_aload_n hx hb dX7_append_30 rfl (lv_at hl 1 rfl) ?_
  refine lv_dup hx hb dX7_append_31 rfl ?_
  refine x_get (ref := "NoteHouse$Tape") F hP k29 rfl (fun _ h => List.mem_cons_of_mem _ (List.mem_append_right _ (h))) 1 (Nat.le_of_ble_eq_true rfl) (List.mem_cons_of_mem _ (List.mem_append_left _ (List.mem_of_getElem? (i := 0) rfl))) rfl rfl dX7_append_32 ?_
  refine lv_iconst (v := 1) hx hb dX7_append_35 (by decide) ?_
  refine lv_iadd hx hb dX7_append_36 ?_
  rw [show ((nI (k + 2)) + 1 : Int32) = nI (k + 3) from nI_1 (k + 2)]
  refine y_put (ref := "NoteHouse$Tape") F hP hD hS k29 rfl (fun _ h => List.mem_cons_of_mem _ (List.mem_append_right _ (h))) tyX7_ok nmX7 1 (Nat.le_of_ble_eq_true rfl) (List.mem_cons_of_mem _ (List.mem_append_left _ (List.mem_of_getElem? (i := 0) rfl))) rfl rfl rfl rfl (Nat.le_of_ble_eq_true rfl) dX7_append_37 (fun w32 ew33 H locs hP hD hS => ?_)
  have k34 : wd_at w32 t (.inr (7, [.ref b, .int (nI (k + 3)), .int a0])) := wd_at.ps ew33 k29
  have k35 := wd_at.pt ew33 k30 (wd_nk k30 k29 rfl)
  have kp36 := kp31.put ew33 s90
  refine lv_iinc (v := 0) (lv' := [(2, .int 0), (0, .ref t), (1, .int x0)]) hx hb dX7_append_40 hl (k := 0) rfl (by decide) (by decide) rfl (fun ls hl => ?_)
  refine lv_goto (tgt := 3) hx hb dX7_append_43 (by decide) ?_
  refine lv_iload_n hx hb dX7_append_3 rfl (lv_at hl 0 rfl) ?_
  refine lv_if_lt (tgt := 46) hx hb dX7_append_4 (by decide) (fun c_37 => absurd c_37 (show ¬ (0 : Int32) < (0 : Int32) by decide)) (fun c_37 => ?_)
  refine lv_aload_n hx hb dX7_append_7 rfl (lv_at hl 1 rfl) ?_
  refine x_get (ref := "NoteHouse$Tape") F hP k34 rfl (fun _ h => List.mem_cons_of_mem _ (List.mem_append_right _ (h))) 1 (Nat.le_of_ble_eq_true rfl) (List.mem_cons_of_mem _ (List.mem_append_left _ (List.mem_of_getElem? (i := 0) rfl))) rfl rfl dX7_append_8 ?_
  refine lv_sipush (v := 300) hx hb dX7_append_11 (by decide) ?_
  refine lv_icmp_ge (tgt := 46) hx hb dX7_append_14 (by decide) (fun c_38 => absurd c_38 (nI_ge (a := (k + 3)) (b := 300) (by omega) (by decide))) (fun c_38 => ?_)
  refine lv_aload_n hx hb dX7_append_17 rfl (lv_at hl 1 rfl) ?_
  refine x_get (ref := "NoteHouse$Tape") F hP k34 rfl (fun _ h => List.mem_cons_of_mem _ (List.mem_append_right _ (h))) 0 (Nat.le_of_ble_eq_true rfl) (List.mem_cons_of_mem _ (List.mem_append_left _ (List.mem_of_getElem? (i := 1) rfl))) rfl rfl dX7_append_18 ?_
  refine lv_aload_n hx hb dX7_append_21 rfl (lv_at hl 1 rfl) ?_
  refine x_get (ref := "NoteHouse$Tape") F hP k34 rfl (fun _ h => List.mem_cons_of_mem _ (List.mem_append_right _ (h))) 1 (Nat.le_of_ble_eq_true rfl) (List.mem_cons_of_mem _ (List.mem_append_left _ (List.mem_of_getElem? (i := 0) rfl))) rfl rfl dX7_append_22 ?_
  refine lv_iload_n hx hb dX7_append_25 rfl (lv_at hl 2 rfl) ?_
  refine lv_iload_n hx hb dX7_append_26 rfl (lv_at hl 0 rfl) ?_
  refine lv_ishr hx hb dX7_append_27 ?_
  refine lv_i2b (v := (x0 >>> (0 &&& 31)).toInt8.toInt32) hx hb dX7_append_28 (rfl) ?_
  refine y_bast F hP hD hS k35 (vp_in_nI (n := (k + 3)) (by omega) (by decide)) dX7_append_29 (fun w39 ew40 H locs hP hD hS => ?_)
  have k41 := wd_at.pt ew40 k34 (wd_nk k34 k35 rfl)
  have k42 : wd_at w39 b (.inl (cy 0, 300, .inl (upd (upd (upd (upd f (nI k).toNatClampNeg (vp_nar .byte ((x0 >>> (24 &&& 31)).toInt8.toInt32))) (nI (k + 1)).toNatClampNeg (vp_nar .byte ((x0 >>> (16 &&& 31)).toInt8.toInt32))) (nI (k + 2)).toNatClampNeg (vp_nar .byte ((x0 >>> (8 &&& 31)).toInt8.toInt32))) (nI (k + 3)).toNatClampNeg (vp_nar .byte ((x0 >>> (0 &&& 31)).toInt8.toInt32))))) := wd_at.ps ew40 k35
  have kp43 := kp36.put ew40 s91
  refine lv_aload_n hx hb dX7_append_30 rfl (lv_at hl 1 rfl) ?_
  refine lv_dup hx hb dX7_append_31 rfl ?_
  refine x_get (ref := "NoteHouse$Tape") F hP k41 rfl (fun _ h => List.mem_cons_of_mem _ (List.mem_append_right _ (h))) 1 (Nat.le_of_ble_eq_true rfl) (List.mem_cons_of_mem _ (List.mem_append_left _ (List.mem_of_getElem? (i := 0) rfl))) rfl rfl dX7_append_32 ?_
  refine lv_iconst (v := 1) hx hb dX7_append_35 (by decide) ?_
  refine lv_iadd hx hb dX7_append_36 ?_
  rw [show ((nI (k + 3)) + 1 : Int32) = nI (k + 4) from nI_1 (k + 3)]
  refine y_put (ref := "NoteHouse$Tape") F hP hD hS k41 rfl (fun _ h => List.mem_cons_of_mem _ (List.mem_append_right _ (h))) tyX7_ok nmX7 1 (Nat.le_of_ble_eq_true rfl) (List.mem_cons_of_mem _ (List.mem_append_left _ (List.mem_of_getElem? (i := 0) rfl))) rfl rfl rfl rfl (Nat.le_of_ble_eq_true rfl) dX7_append_37 (fun w44 ew45 H locs hP hD hS => ?_)
  have k46 : wd_at w44 t (.inr (7, [.ref b, .int (nI (k + 4)), .int a0])) := wd_at.ps ew45 k41
  have k47 := wd_at.pt ew45 k42 (wd_nk k42 k41 rfl)
  have kp48 := kp43.put ew45 s90
  refine lv_iinc (v := (-8)) (lv' := [(2, .int (-8)), (0, .ref t), (1, .int x0)]) hx hb dX7_append_40 hl (k := 0) rfl (by decide) (by decide) rfl (fun ls hl => ?_)
  refine lv_goto (tgt := 3) hx hb dX7_append_43 (by decide) ?_
  refine lv_iload_n hx hb dX7_append_3 rfl (lv_at hl 0 rfl) ?_
  refine lv_if_lt (tgt := 46) hx hb dX7_append_4 (by decide) (fun c_49 => ?_) (fun c_49 => absurd (show (-8 : Int32) < (0 : Int32) by decide) c_49)
  exact y_vr K hP hD hS (Nat.le_of_ble_eq_true rfl) (Nat.le_of_ble_eq_true rfl) rfl dX7_append_46 (⟨upd (upd (upd (upd f (nI k).toNatClampNeg (vp_nar .byte ((x0 >>> (24 &&& 31)).toInt8.toInt32))) (nI (k + 1)).toNatClampNeg (vp_nar .byte ((x0 >>> (16 &&& 31)).toInt8.toInt32))) (nI (k + 2)).toNatClampNeg (vp_nar .byte ((x0 >>> (8 &&& 31)).toInt8.toInt32))) (nI (k + 3)).toNatClampNeg (vp_nar .byte ((x0 >>> (0 &&& 31)).toInt8.toInt32)), rfl, kp48, k46, k47⟩)
