set_option maxHeartbeats 4000000 in
set_option maxRecDepth 100000 in
theorem g_stop_init (l : Launch) (D : va_G) (cy : Nat → ClassId) (sk sv : Nat → Nat) (w : Wd) (q nd : Nat) (x0 y0 z0 : Int32) (g : Nat → Int32) (c90 : wd_at w q (.inr (6, [.int 0, .int 0, .null]))) (c91 : wd_at w nd (.inl (cy 2, 12, .inl g)))  (S : Nat → Prop) (s90 : S q)  : Ct l D cy sk sv yX6_init wsX6_init ({ frames := 1, cells := 1, slots := 12, locals := 12 }) [.ref q, .int x0, .int y0, .ref nd, .int z0] w (fun v w1 => ∃ (ar : Nat) (sd : Nat → Int32), v = none ∧ wd_kp S w w1 ∧ wd_at w1 q (.inr (6, [.int x0, .int y0, .ref ar])) ∧ ar ∉ w.1 ∧ wd_at w1 ar (.inl (cy 2, 12, .inl sd))) := by
  refine Ct.by (cc := cX6_init) (maxL := 6) (ret := none) (by decide +kernel) rfl (Nat.le_of_ble_eq_true rfl) ?_
  intro p e s m args below meth c A Q F hnm K ls hl
  have F : wd_Fx p s m args meth c cX6_init 6 wsX6_init RX6 D cy sk sv A := F
  have hl : lv_has ls 6 [(0, .ref q), (1, .int x0), (2, .int y0), (3, .ref nd), (4, .int z0)] := hl
  have hx := F.1.1
  have hb := F.1.2.1
  have hown := F.1.2.2.2.1
  have hts := F.1.2.2.2.2
  intro H locs hP hD hS
  have kp0 : wd_kp S w w := wd_kp.rf
  refine lv_aload_n hx hb dX6_init_0 rfl (lv_at hl 0 rfl) ?_
  refine x_objInit F (List.mem_cons_of_mem _ (List.mem_append_left _ (List.mem_of_getElem? (i := 0) rfl))) (List.mem_cons_of_mem _ (List.mem_append_left _ (List.mem_of_getElem? (i := 1) rfl))) (List.mem_cons_of_mem _ (List.mem_append_left _ (List.mem_of_getElem? (i := 2) rfl))) hl.1 dX6_init_1 (Nat.le_of_ble_eq_true rfl) (Nat.le_of_ble_eq_true rfl) ?_
  refine lv_aload_n hx hb dX6_init_4 rfl (lv_at hl 0 rfl) ?_
  refine lv_bipush (v := 12) hx hb dX6_init_5 (by decide) ?_
  refine y_newI (N := 12) F hP hD hS (List.mem_cons_of_mem _ (List.mem_append_left _ (List.mem_of_getElem? (i := 3) rfl))) (by decide) (by decide) (by decide) (Nat.le_of_ble_eq_true rfl) (Nat.le_of_ble_eq_true rfl) dX6_init_7 (fun q1 w2 ew3 hq4 H hP hD hS => ?_)
  refine W.widen (k := 1) (n := 12) (Nat.le_of_ble_eq_true rfl) (Nat.le_of_ble_eq_true rfl) ?_
  have k5 := wd_at.ad ew3 hq4 c90
  have k6 := wd_at.ad ew3 hq4 c91
  have k7 : wd_at w2 q1 (.inl (cy 2, 12, .inl (fun _ => 0))) := wd_at.nw ew3
  have kp8 := kp0.add ew3 hq4
  refine y_putF (ref := "NoteHouse$Stop") F hP hD hS k5 rfl (fun _ h => List.mem_cons_of_mem _ (List.mem_append_right _ (h))) tyX6_ok nmX6 hnm 2 (Nat.le_of_ble_eq_true rfl) (List.mem_cons_of_mem _ (List.mem_append_left _ (List.mem_of_getElem? (i := 4) rfl))) rfl rfl rfl rfl rfl (Nat.le_of_ble_eq_true rfl) dX6_init_9 (fun w9 ew10 H locs hP hD hS => ?_)
  have k11 : wd_at w9 q (.inr (6, [.int 0, .int 0, .ref q1])) := wd_at.ps ew10 k5
  have k12 := wd_at.pt ew10 k6 (wd_nk k6 k5 rfl)
  have k13 := wd_at.pt ew10 k7 (Ne.symm (wd_nL hq4 c90))
  have kp14 := kp8.put ew10 s90
  refine lv_aload_n hx hb dX6_init_12 rfl (lv_at hl 0 rfl) ?_
  refine lv_iload_n hx hb dX6_init_13 rfl (lv_at hl 1 rfl) ?_
  refine y_putF (ref := "NoteHouse$Stop") F hP hD hS k11 rfl (fun _ h => List.mem_cons_of_mem _ (List.mem_append_right _ (h))) tyX6_ok nmX6 hnm 0 (Nat.le_of_ble_eq_true rfl) (List.mem_cons_of_mem _ (List.mem_append_left _ (List.mem_of_getElem? (i := 5) rfl))) rfl rfl rfl rfl rfl (Nat.le_of_ble_eq_true rfl) dX6_init_14 (fun w15 ew16 H locs hP hD hS => ?_)
  have k17 : wd_at w15 q (.inr (6, [.int x0, .int 0, .ref q1])) := wd_at.ps ew16 k11
  have k18 := wd_at.pt ew16 k12 (wd_nk k12 k11 rfl)
  have k19 := wd_at.pt ew16 k13 (Ne.symm (wd_nL hq4 c90))
  have kp20 := kp14.put ew16 s90
  refine lv_aload_n hx hb dX6_init_17 rfl (lv_at hl 0 rfl) ?_
  refine lv_iload_n hx hb dX6_init_18 rfl (lv_at hl 2 rfl) ?_
  refine y_putF (ref := "NoteHouse$Stop") F hP hD hS k17 rfl (fun _ h => List.mem_cons_of_mem _ (List.mem_append_right _ (h))) tyX6_ok nmX6 hnm 1 (Nat.le_of_ble_eq_true rfl) (List.mem_cons_of_mem _ (List.mem_append_left _ (List.mem_of_getElem? (i := 6) rfl))) rfl rfl rfl rfl rfl (Nat.le_of_ble_eq_true rfl) dX6_init_19 (fun w21 ew22 H locs hP hD hS => ?_)
  have k23 : wd_at w21 q (.inr (6, [.int x0, .int y0, .ref q1])) := wd_at.ps ew22 k17
  have k24 := wd_at.pt ew22 k18 (wd_nk k18 k17 rfl)
  have k25 := wd_at.pt ew22 k19 (Ne.symm (wd_nL hq4 c90))
  have kp26 := kp20.put ew22 s90
  refine lv_iconst (v := 0) hx hb dX6_init_22 (by decide) ?_
  refine lv_istore (lv' := [(5, .int 0), (0, .ref q), (1, .int x0), (2, .int y0), (3, .ref nd), (4, .int z0)]) hx hb dX6_init_23 hl (by decide) rfl (fun ls hl => ?_)
  have lp25 : ∀ (N : Nat) (j : Nat) (sd9 : Nat → Int32) (w27 : Wd), (j + N = 12) → (wd_at w27 q (.inr (6, [.int x0, .int y0, .ref q1]))) → (wd_at w27 nd (.inl (cy 2, 12, .inl g))) → (wd_at w27 q1 (.inl (cy 2, 12, .inl sd9))) → (wd_kp S w w27) → ∀ (ls : Array Slot), lv_has ls 6 [(0, .ref q), (1, .int x0), (2, .int y0), (3, .ref nd), (4, .int z0), (5, .int (nI j))] → Wv p l e ({ frames := 1, cells := 1, slots := 12, locals := 12 }) s m args below meth c D A (1) (12) Q w27 (F0 m 25 ls []) := by
    intro N
    induction N with
    | zero =>
      intro j sd9 w27 hN25 k28 k29 k30 kp31 ls hl H locs hP hD hS
      refine lv_iload hx hb dX6_init_25 (lv_at hl 5 rfl) ?_
      refine lv_bipush (v := 12) hx hb dX6_init_27 (by decide) ?_
      refine lv_icmp_ge (tgt := 65) hx hb dX6_init_29 (by decide) (fun c_32 => ?_) (fun c_32 => absurd (nI_le (a := 12) (b := j) (by omega) (by omega)) c_32)
      exact y_vr K hP hD hS (Nat.le_of_ble_eq_true rfl) (Nat.le_of_ble_eq_true rfl) rfl dX6_init_65 (⟨q1, sd9, rfl, kp31, k28, (kp0.out hq4), k30⟩)
    | succ N ih25 =>
      intro j sd9 w27 hN25 k28 k29 k30 kp31 ls hl H locs hP hD hS
      refine lv_iload hx hb dX6_init_25 (lv_at hl 5 rfl) ?_
      refine lv_bipush (v := 12) hx hb dX6_init_27 (by decide) ?_
      refine lv_icmp_ge (tgt := 65) hx hb dX6_init_29 (by decide) (fun c_33 => absurd c_33 (nI_ge (a := j) (b := 12) (by omega) (by omega))) (fun c_33 => ?_)
      refine lv_aload_n hx hb dX6_init_32 rfl (lv_at hl 0 rfl) ?_
      refine x_get (ref := "NoteHouse$Stop") F hP k28 rfl (fun _ h => List.mem_cons_of_mem _ (List.mem_append_right _ (h))) 2 (Nat.le_of_ble_eq_true rfl) (List.mem_cons_of_mem _ (List.mem_append_left _ (List.mem_of_getElem? (i := 4) rfl))) rfl rfl dX6_init_33 ?_
      refine lv_iload hx hb dX6_init_36 (lv_at hl 5 rfl) ?_
      refine lv_aload_n hx hb dX6_init_38 rfl (lv_at hl 3 rfl) ?_
      refine lv_iload hx hb dX6_init_39 (lv_at hl 5 rfl) ?_
      refine x_iald F hP k29 (vp_in_nI (n := j) (N := 12) (by omega) (by decide)) dX6_init_41 ?_
      refine lv_ldc (v := 1000000) hx hb hown (hts _ (List.mem_cons_of_mem _ (List.mem_append_left _ (List.mem_of_getElem? (i := 7) rfl)))) dX6_init_42 ?_
      refine lv_icmp_ne (tgt := 51) hx hb dX6_init_44 (by decide) (fun c_34 => ?_) (fun c_34 => ?_)
      · refine lv_iload hx hb dX6_init_51 (lv_at hl 4 rfl) ?_
        refine lv_aload_n hx hb dX6_init_53 rfl (lv_at hl 3 rfl) ?_
        refine lv_iload hx hb dX6_init_54 (lv_at hl 5 rfl) ?_
        refine x_iald F hP k29 (vp_in_nI (n := j) (N := 12) (by omega) (by decide)) dX6_init_56 ?_
        refine lv_iadd hx hb dX6_init_57 ?_
        refine y_iast F hP hD hS k30 (vp_in_nI (n := j) (N := 12) (by omega) (by decide)) dX6_init_58 (fun w35 ew36 H locs hP hD hS => ?_)
        have k37 := wd_at.pt ew36 k28 (wd_nL hq4 c90)
        have k38 := wd_at.pt ew36 k29 (wd_nL hq4 c91)
        have k39 : wd_at w35 q1 (.inl (cy 2, 12, .inl (upd sd9 (nI j).toNatClampNeg (z0 + (g (nI j).toNatClampNeg))))) := wd_at.ps ew36 k30
        have kp40 := kp31.putN ew36 (kp0.out hq4)
        refine lv_iinc (v := nI (j + 1)) (lv' := [(5, .int (nI (j + 1))), (0, .ref q), (1, .int x0), (2, .int y0), (3, .ref nd), (4, .int z0)]) hx hb dX6_init_59 hl (k := 5) rfl (nI_1 j) (by decide) rfl (fun ls hl => ?_)
        refine lv_goto (tgt := 25) hx hb dX6_init_62 (by decide) ?_
        exact ih25 (j + 1) (upd sd9 (nI j).toNatClampNeg (z0 + (g (nI j).toNatClampNeg))) w35 (by omega)  k37 k38 k39 kp40 ls (lv_sub hl [1, 2, 3, 4, 5, 0] rfl) H locs hP hD hS
      · refine lv_iconst (v := (-1)) hx hb dX6_init_47 (by decide) ?_
        refine lv_goto (tgt := 58) hx hb dX6_init_48 (by decide) ?_
        refine y_iast F hP hD hS k30 (vp_in_nI (n := j) (N := 12) (by omega) (by decide)) dX6_init_58 (fun w41 ew42 H locs hP hD hS => ?_)
        have k43 := wd_at.pt ew42 k28 (wd_nL hq4 c90)
        have k44 := wd_at.pt ew42 k29 (wd_nL hq4 c91)
        have k45 : wd_at w41 q1 (.inl (cy 2, 12, .inl (upd sd9 (nI j).toNatClampNeg (-1)))) := wd_at.ps ew42 k30
        have kp46 := kp31.putN ew42 (kp0.out hq4)
        refine lv_iinc (v := nI (j + 1)) (lv' := [(5, .int (nI (j + 1))), (0, .ref q), (1, .int x0), (2, .int y0), (3, .ref nd), (4, .int z0)]) hx hb dX6_init_59 hl (k := 5) rfl (nI_1 j) (by decide) rfl (fun ls hl => ?_)
        refine lv_goto (tgt := 25) hx hb dX6_init_62 (by decide) ?_
        exact ih25 (j + 1) (upd sd9 (nI j).toNatClampNeg (-1)) w41 (by omega)  k43 k44 k45 kp46 ls (lv_sub hl [1, 2, 3, 4, 5, 0] rfl) H locs hP hD hS
  exact lp25 _ 0 (fun _ => 0) w21 (Nat.zero_add 12)  k23 k24 k25 kp26 ls (lv_sub hl [1, 2, 3, 4, 5, 0] rfl) H locs hP hD hS
set_option maxHeartbeats 4000000 in
set_option maxRecDepth 100000 in
theorem g_letterDay (l : Launch) (D : va_G) (cy : Nat → ClassId) (sk sv : Nat → Nat) (w : Wd) (x a0 a1 a2 a3 a4 a5 a6 a7 a8 a9 a10 a11 pc ac sc sh : Nat) (td : Int32)(b0 b1 b2 b3 : Nat) (f0 f1 f2 f3 : Nat → Int32) (j : Nat) (fr : Int32) (c90 : wd_at w x (.inr (10, [.ref a0, .ref a1, .ref a2, .ref a3, .ref a4, .ref a5, .ref a6, .ref a7, .ref a8, .ref a9, .ref a10, .ref a11, .int td, .int (nI pc), .int (nI ac), .int (nI sc), .int (nI sh)]))) (c91 : wd_at w a0 (.inr (9, [.ref b0, .ref b1, .ref b2, .ref b3]))) (c92 : wd_at w b0 (.inl (cy 2, 144, .inl f0))) (c93 : wd_at w b1 (.inl (cy 2, 144, .inl f1))) (c94 : wd_at w b2 (.inl (cy 2, 12, .inl f2))) (c95 : wd_at w b3 (.inl (cy 4, 12, .inl f3)))  (S : Nat → Prop) (s90 : S b2) (s91 : S b3) (hj : j < 12) (nb2b3 : b2 ≠ b3) : Ct l D cy sk sv yX10_letterDay wsX10_letterDay ({ frames := 4, cells := 0, slots := 0, locals := 85 }) [.ref x, .int fr, .int (nI j)] w (fun v w1 => ∃ (d1 : Nat → Int32) (p1 : Nat → Int32) (r1 : Int32), v = some (.int r1) ∧ wd_kp S w w1 ∧ wd_at w1 b2 (.inl (cy 2, 12, .inl d1)) ∧ wd_at w1 b3 (.inl (cy 4, 12, .inl p1))) := by
  refine Ct.by (cc := cX10_letterDay) (maxL := 4) (ret := (some .int)) (by decide +kernel) rfl (Nat.le_of_ble_eq_true rfl) ?_
  intro p e s m args below meth c A Q F hnm K ls hl
  have F : wd_Fx p s m args meth c cX10_letterDay 4 wsX10_letterDay RX10 D cy sk sv A := F
  have hl : lv_has ls 4 [(0, .ref x), (1, .int fr), (2, .int (nI j))] := hl
  have hx := F.1.1
  have hb := F.1.2.1
  have hown := F.1.2.2.2.1
  have hts := F.1.2.2.2.2
  intro H locs hP hD hS
  have kp0 : wd_kp S w w := wd_kp.rf
  refine lv_aload_n hx hb dX10_letterDay_0 rfl (lv_at hl 0 rfl) ?_
  refine x_get (ref := "NoteHouse") F hP c90 rfl (fun _ h => List.mem_cons_of_mem _ (List.mem_append_left _ (List.mem_append_right _ (h)))) 0 (Nat.le_of_ble_eq_true rfl) (List.mem_cons_of_mem _ (List.mem_append_left _ (List.mem_append_left _ (List.mem_append_left _ (List.mem_of_getElem? (i := 0) rfl))))) rfl rfl dX10_letterDay_1 ?_
  refine lv_iload_n hx hb dX10_letterDay_4 rfl (lv_at hl 1 rfl) ?_
  refine x_callV (n := 1) (As := [.int fr]) (rest := []) F hP hD hS (g_letterDays l D cy sk sv w a0 b0 b1 b2 b3 fr f0 f1 f2 f3 c91 c92 c93 c94 c95 (fun b => b = b2 ∨ b = b3) (Or.inl rfl) (Or.inr rfl) nb2b3) gX10_letterDay_X9_letterDays rfl rfl (by decide +kernel) ⟨(Nat.le_of_ble_eq_true rfl), (Nat.le_of_ble_eq_true rfl)⟩ rfl hl.1 (Nat.le_of_ble_eq_true rfl) c91 rfl dX10_letterDay_5 rfl ⟨(Nat.le_of_ble_eq_true rfl), (Nat.le_of_ble_eq_true rfl)⟩ (fun v2 w3 hp1 H locs hP hD hS => ?_)
  obtain ⟨dx4, px5, rfl, kq8, k6, k7⟩ := hp1
  have k9 := kq8.2 _ _ c90 (fun q9 => Or.elim q9 (wd_nk c90 c94 rfl) (fun q9 : x = b3 => (wd_nk c90 c95 rfl) q9))
  have k10 := kq8.2 _ _ c91 (fun q9 => Or.elim q9 (wd_nk c91 c94 rfl) (fun q9 : a0 = b3 => (wd_nk c91 c95 rfl) q9))
  have k11 := kq8.2 _ _ c92 (fun q9 => Or.elim q9 (wd_nk c92 c94 rfl) (fun q9 : b0 = b3 => (wd_nk c92 c95 rfl) q9))
  have k12 := kq8.2 _ _ c93 (fun q9 => Or.elim q9 (wd_nk c93 c94 rfl) (fun q9 : b1 = b3 => (wd_nk c93 c95 rfl) q9))
  have kp13 := kp0.tr kq8 (fun b9 hm q9 => (fun q9 => Or.elim q9 (fun q9 => q9 ▸ s90) (fun q9 => q9 ▸ s91)) q9)
  refine W.eq (g2 := F0 m 8 ls [.ref b2]) rfl (W.widen (k := 0) (n := 0) (Nat.le_of_ble_eq_true rfl) (Nat.le_of_ble_eq_true rfl) ?_)
  refine lv_iload_n hx hb dX10_letterDay_8 rfl (lv_at hl 2 rfl) ?_
  refine x_iald F hP k6 (vp_in_nI (n := j) (N := 12) (by omega) (by decide)) dX10_letterDay_9 ?_
  refine lv_istore_n (lv' := [(3, .int (dx4 (nI j).toNatClampNeg)), (0, .ref x), (1, .int fr), (2, .int (nI j))]) hx hb dX10_letterDay_10 rfl hl (by decide) rfl (fun ls hl => ?_)
  refine lv_iload_n hx hb dX10_letterDay_11 rfl (lv_at hl 0 rfl) ?_
  refine lv_ldc (v := 1000000) hx hb hown (hts _ (List.mem_cons_of_mem _ (List.mem_append_left _ (List.mem_append_left _ (List.mem_append_left _ (List.mem_of_getElem? (i := 1) rfl)))))) dX10_letterDay_12 ?_
  refine lv_icmp_ne (tgt := 21) hx hb dX10_letterDay_14 (by decide) (fun c_14 => ?_) (fun c_14 => ?_)
  · refine lv_aload_n hx hb dX10_letterDay_21 rfl (lv_at hl 1 rfl) ?_
    refine x_get (ref := "NoteHouse") F hP k9 rfl (fun _ h => List.mem_cons_of_mem _ (List.mem_append_left _ (List.mem_append_right _ (h)))) 12 (Nat.le_of_ble_eq_true rfl) (List.mem_cons_of_mem _ (List.mem_append_left _ (List.mem_append_left _ (List.mem_append_left _ (List.mem_of_getElem? (i := 2) rfl))))) rfl rfl dX10_letterDay_22 ?_
    refine lv_iload_n hx hb dX10_letterDay_25 rfl (lv_at hl 0 rfl) ?_
    refine lv_iadd hx hb dX10_letterDay_26 ?_
    exact y_ir K hP hD hS (Nat.le_of_ble_eq_true rfl) (Nat.le_of_ble_eq_true rfl) (ty := .int) rfl rfl dX10_letterDay_27 (⟨dx4, px5, td + (dx4 (nI j).toNatClampNeg), rfl, kp13, k6, k7⟩)
  · refine lv_iconst (v := (-1)) hx hb dX10_letterDay_17 (by decide) ?_
    refine lv_goto (tgt := 27) hx hb dX10_letterDay_18 (by decide) ?_
    exact y_ir K hP hD hS (Nat.le_of_ble_eq_true rfl) (Nat.le_of_ble_eq_true rfl) (ty := .int) rfl rfl dX10_letterDay_27 (⟨dx4, px5, (-1), rfl, kp13, k6, k7⟩)
set_option maxHeartbeats 4000000 in
set_option maxRecDepth 100000 in
theorem g_isAdvised (l : Launch) (D : va_G) (cy : Nat → ClassId) (sk sv : Nat → Nat) (w : Wd) (x a0 a1 a2 a3 a4 a5 a6 a7 a8 a9 a10 a11 pc ac sc sh : Nat) (td : Int32)(tg : Nat → Nat)(af : Nat → Option Nat) (ad : Nat → Nat) (av0 av1 av2 av3 : Nat → Int32)(z tw : Nat) (pp le am hh dd ru de cp ld : Int32) (c90 : wd_at w x (.inr (10, [.ref a0, .ref a1, .ref a2, .ref a3, .ref a4, .ref a5, .ref a6, .ref a7, .ref a8, .ref a9, .ref a10, .ref a11, .int td, .int (nI pc), .int (nI ac), .int (nI sc), .int (nI sh)]))) (c91 : wd_at w a3 (.inl (cy 5, 60, .inr (.inr (.inr (.inr af)))))) (c92 : wd_at w z (.inr (5, [.int (nI tw), .int pp, .int le, .int am, .int hh, .int dd, .int ru, .int de, .int cp, .int ld]))) (hA9 : ∀ k9, k9 < ac → af k9 = some (ad k9) ∧ wd_at w (ad k9) (.inr (0, [.int (av0 k9), .int (av1 k9), .int (av2 k9), .int (av3 k9)])) ∧ tg (ad k9) = 4000 + k9) (hac : ac ≤ 60) : Ct l D cy sk sv yX10_isAdvised wsX10_isAdvised ({ frames := 1, cells := 0, slots := 0, locals := 21 }) [.ref x, .ref z] w (fun v w1 => ∃ (r1 : Int32), v = some (.int r1) ∧ (r1 = 0 ∨ r1 = 1) ∧ w = w1) := by
  refine Ct.by (cc := cX10_isAdvised) (maxL := 4) (ret := (some .boolean)) (by decide +kernel) rfl (Nat.le_of_ble_eq_true rfl) ?_
  intro p e s m args below meth c A Q F hnm K ls hl
  have F : wd_Fx p s m args meth c cX10_isAdvised 4 wsX10_isAdvised RX10 D cy sk sv A := F
  have hl : lv_has ls 4 [(0, .ref x), (1, .ref z)] := hl
  have hx := F.1.1
  have hb := F.1.2.1
  have hown := F.1.2.2.2.1
  have hts := F.1.2.2.2.2
  intro H locs hP hD hS
  refine lv_iconst (v := 0) hx hb dX10_isAdvised_0 (by decide) ?_
  refine lv_istore_n (lv' := [(2, .int 0), (0, .ref x), (1, .ref z)]) hx hb dX10_isAdvised_1 rfl hl (by decide) rfl (fun ls hl => ?_)
  have lp2 : ∀ (N : Nat) (k : Nat), (k + N = ac) → ∀ (ls : Array Slot), lv_has ls 4 [(0, .ref x), (1, .ref z), (2, .int (nI k))] → Wv p l e ({ frames := 1, cells := 0, slots := 0, locals := 21 }) s m args below meth c D A (0) (0) Q w (F0 m 2 ls []) := by
    intro N
    induction N with
    | zero =>
      intro k hN2 ls hl H locs hP hD hS
      refine lv_iload_n hx hb dX10_isAdvised_2 rfl (lv_at hl 2 rfl) ?_
      refine lv_aload_n hx hb dX10_isAdvised_3 rfl (lv_at hl 0 rfl) ?_
      refine x_get (ref := "NoteHouse") F hP c90 rfl (fun _ h => List.mem_cons_of_mem _ (List.mem_append_left _ (List.mem_append_left _ (List.mem_append_right _ (h))))) 14 (Nat.le_of_ble_eq_true rfl) (List.mem_cons_of_mem _ (List.mem_append_left _ (List.mem_append_left _ (List.mem_append_left _ (List.mem_of_getElem? (i := 0) rfl))))) rfl rfl dX10_isAdvised_4 ?_
      refine lv_icmp_ge (tgt := 61) hx hb dX10_isAdvised_7 (by decide) (fun c_2 => ?_) (fun c_2 => absurd (nI_le (a := ac) (b := k) (by omega) (by omega)) c_2)
      refine lv_iconst (v := 0) hx hb dX10_isAdvised_61 (by decide) ?_
      exact y_ir K hP hD hS (Nat.le_of_ble_eq_true rfl) (Nat.le_of_ble_eq_true rfl) (ty := .boolean) rfl rfl dX10_isAdvised_62 (⟨0, rfl, Or.inl rfl, rfl⟩)
    | succ N ih2 =>
      intro k hN2 ls hl H locs hP hD hS
      refine lv_iload_n hx hb dX10_isAdvised_2 rfl (lv_at hl 2 rfl) ?_
      refine lv_aload_n hx hb dX10_isAdvised_3 rfl (lv_at hl 0 rfl) ?_
      refine x_get (ref := "NoteHouse") F hP c90 rfl (fun _ h => List.mem_cons_of_mem _ (List.mem_append_left _ (List.mem_append_left _ (List.mem_append_right _ (h))))) 14 (Nat.le_of_ble_eq_true rfl) (List.mem_cons_of_mem _ (List.mem_append_left _ (List.mem_append_left _ (List.mem_append_left _ (List.mem_of_getElem? (i := 0) rfl))))) rfl rfl dX10_isAdvised_4 ?_
      refine lv_icmp_ge (tgt := 61) hx hb dX10_isAdvised_7 (by decide) (fun c_3 => absurd c_3 (nI_ge (a := k) (b := ac) (by omega) (by omega))) (fun c_3 => ?_)
      refine lv_aload_n hx hb dX10_isAdvised_10 rfl (lv_at hl 0 rfl) ?_
      refine x_get (ref := "NoteHouse") F hP c90 rfl (fun _ h => List.mem_cons_of_mem _ (List.mem_append_left _ (List.mem_append_left _ (List.mem_append_right _ (h))))) 3 (Nat.le_of_ble_eq_true rfl) (List.mem_cons_of_mem _ (List.mem_append_left _ (List.mem_append_left _ (List.mem_append_left _ (List.mem_of_getElem? (i := 1) rfl))))) rfl rfl dX10_isAdvised_11 ?_
      refine lv_iload_n hx hb dX10_isAdvised_14 rfl (lv_at hl 2 rfl) ?_
      refine x_aald F hP c91 rfl (vp_in_nI (n := k) (N := 60) (by omega) (by decide)) dX10_isAdvised_15 ?_
      rw [nI_clamp (n := k) (by omega), (hA9 k (by omega)).1]
      have k4 := (hA9 k (by omega)).2.1
      have tz5 := (hA9 k (by omega)).2.2
      refine W.eq (g2 := F0 m _ ls [.ref (ad k)]) rfl ?_
      refine lv_astore_n (lv' := [(3, .ref (ad k)), (0, .ref x), (1, .ref z), (2, .int (nI k))]) hx hb dX10_isAdvised_16 rfl hl (by decide) rfl (fun ls hl => ?_)
      refine lv_aload_n hx hb dX10_isAdvised_17 rfl (lv_at hl 0 rfl) ?_
      refine x_get (ref := "NoteHouse$Advice") F hP k4 rfl (fun _ h => List.mem_cons_of_mem _ (List.mem_append_left _ (List.mem_append_right _ (h)))) 0 (Nat.le_of_ble_eq_true rfl) (List.mem_cons_of_mem _ (List.mem_append_left _ (List.mem_append_left _ (List.mem_append_left _ (List.mem_of_getElem? (i := 2) rfl))))) rfl rfl dX10_isAdvised_18 ?_
      refine lv_aload_n hx hb dX10_isAdvised_21 rfl (lv_at hl 2 rfl) ?_
      refine x_get (ref := "NoteHouse$Shown") F hP c92 rfl (fun _ h => List.mem_cons_of_mem _ (List.mem_append_right _ (h))) 1 (Nat.le_of_ble_eq_true rfl) (List.mem_cons_of_mem _ (List.mem_append_left _ (List.mem_append_left _ (List.mem_append_left _ (List.mem_of_getElem? (i := 3) rfl))))) rfl rfl dX10_isAdvised_22 ?_
      refine lv_icmp_ne (tgt := 55) hx hb dX10_isAdvised_25 (by decide) (fun c_6 => ?_) (fun c_6 => ?_)
      · refine lv_iinc (v := nI (k + 1)) (lv' := [(2, .int (nI (k + 1))), (3, .ref (ad k)), (0, .ref x), (1, .ref z)]) hx hb dX10_isAdvised_55 hl (k := 3) rfl (nI_1 k) (by decide) rfl (fun ls hl => ?_)
        refine lv_goto (tgt := 2) hx hb dX10_isAdvised_58 (by decide) ?_
        exact ih2 (k + 1)  (by omega)    ls (lv_sub hl [2, 3, 0] rfl) H locs hP hD hS
      · refine lv_aload_n hx hb dX10_isAdvised_28 rfl (lv_at hl 0 rfl) ?_
        refine x_get (ref := "NoteHouse$Advice") F hP k4 rfl (fun _ h => List.mem_cons_of_mem _ (List.mem_append_left _ (List.mem_append_right _ (h)))) 1 (Nat.le_of_ble_eq_true rfl) (List.mem_cons_of_mem _ (List.mem_append_left _ (List.mem_append_left _ (List.mem_append_left _ (List.mem_of_getElem? (i := 4) rfl))))) rfl rfl dX10_isAdvised_29 ?_
        refine lv_aload_n hx hb dX10_isAdvised_32 rfl (lv_at hl 2 rfl) ?_
        refine x_get (ref := "NoteHouse$Shown") F hP c92 rfl (fun _ h => List.mem_cons_of_mem _ (List.mem_append_right _ (h))) 0 (Nat.le_of_ble_eq_true rfl) (List.mem_cons_of_mem _ (List.mem_append_left _ (List.mem_append_left _ (List.mem_append_left _ (List.mem_of_getElem? (i := 5) rfl))))) rfl rfl dX10_isAdvised_33 ?_
        refine lv_icmp_ne (tgt := 55) hx hb dX10_isAdvised_36 (by decide) (fun c_7 => ?_) (fun c_7 => ?_)
        · refine lv_iinc (v := nI (k + 1)) (lv' := [(2, .int (nI (k + 1))), (3, .ref (ad k)), (0, .ref x), (1, .ref z)]) hx hb dX10_isAdvised_55 hl (k := 3) rfl (nI_1 k) (by decide) rfl (fun ls hl => ?_)
          refine lv_goto (tgt := 2) hx hb dX10_isAdvised_58 (by decide) ?_
          exact ih2 (k + 1)  (by omega)    ls (lv_sub hl [2, 3, 0] rfl) H locs hP hD hS
        · refine lv_aload_n hx hb dX10_isAdvised_39 rfl (lv_at hl 0 rfl) ?_
          refine x_get (ref := "NoteHouse$Advice") F hP k4 rfl (fun _ h => List.mem_cons_of_mem _ (List.mem_append_left _ (List.mem_append_right _ (h)))) 2 (Nat.le_of_ble_eq_true rfl) (List.mem_cons_of_mem _ (List.mem_append_left _ (List.mem_append_left _ (List.mem_append_left _ (List.mem_of_getElem? (i := 6) rfl))))) rfl rfl dX10_isAdvised_40 ?_
          refine lv_aload_n hx hb dX10_isAdvised_43 rfl (lv_at hl 2 rfl) ?_
          refine x_get (ref := "NoteHouse$Shown") F hP c92 rfl (fun _ h => List.mem_cons_of_mem _ (List.mem_append_right _ (h))) 5 (Nat.le_of_ble_eq_true rfl) (List.mem_cons_of_mem _ (List.mem_append_left _ (List.mem_append_left _ (List.mem_append_left _ (List.mem_of_getElem? (i := 7) rfl))))) rfl rfl dX10_isAdvised_44 ?_
          refine x_callS (n := 2) (As := [.int (av2 k), .int dd]) (rest := []) F hP hD hS (g_hasCome l D cy sk sv w (av2 k) dd) gX10_isAdvised_X10_hasCome rfl (by decide +kernel) ⟨(Nat.le_of_ble_eq_true rfl), (Nat.le_of_ble_eq_true rfl)⟩ rfl hl.1 (Nat.le_of_ble_eq_true rfl) dX10_isAdvised_47 rfl ⟨(Nat.le_of_ble_eq_true rfl), (Nat.le_of_ble_eq_true rfl)⟩ (fun v9 w10 hp8 H locs hP hD hS => ?_)
          obtain ⟨rx11, rfl, hz12, rfl⟩ := hp8
          refine W.eq (g2 := F0 m 50 ls [.int rx11]) rfl (W.widen (k := 0) (n := 0) (Nat.le_of_ble_eq_true rfl) (Nat.le_of_ble_eq_true rfl) ?_)
          refine lv_if_eq (tgt := 55) hx hb dX10_isAdvised_50 (by decide) (fun c_13 => ?_) (fun c_13 => ?_)
          · refine lv_iinc (v := nI (k + 1)) (lv' := [(2, .int (nI (k + 1))), (3, .ref (ad k)), (0, .ref x), (1, .ref z)]) hx hb dX10_isAdvised_55 hl (k := 3) rfl (nI_1 k) (by decide) rfl (fun ls hl => ?_)
            refine lv_goto (tgt := 2) hx hb dX10_isAdvised_58 (by decide) ?_
            exact ih2 (k + 1)  (by omega)    ls (lv_sub hl [2, 3, 0] rfl) H locs hP hD hS
          · refine lv_iconst (v := 1) hx hb dX10_isAdvised_53 (by decide) ?_
            exact y_ir K hP hD hS (Nat.le_of_ble_eq_true rfl) (Nat.le_of_ble_eq_true rfl) (ty := .boolean) rfl rfl dX10_isAdvised_54 (⟨1, rfl, Or.inr rfl, rfl⟩)
  exact lp2 _ 0  (Nat.zero_add ac)    ls (lv_sub hl [1, 2, 0] rfl) H locs hP hD hS
set_option maxHeartbeats 4000000 in
set_option maxRecDepth 100000 in
theorem g_isStopped (l : Launch) (D : va_G) (cy : Nat → ClassId) (sk sv : Nat → Nat) (w : Wd) (x a0 a1 a2 a3 a4 a5 a6 a7 a8 a9 a10 a11 pc ac sc sh : Nat) (td : Int32)(tg : Nat → Nat)(zf : Nat → Option Nat) (so sr : Nat → Nat) (sp0 sp1 : Nat → Int32) (sd : Nat → Nat → Int32)(z tw : Nat) (pp le am hh dd ru de cp ld : Int32) (c90 : wd_at w x (.inr (10, [.ref a0, .ref a1, .ref a2, .ref a3, .ref a4, .ref a5, .ref a6, .ref a7, .ref a8, .ref a9, .ref a10, .ref a11, .int td, .int (nI pc), .int (nI ac), .int (nI sc), .int (nI sh)]))) (c91 : wd_at w a4 (.inl (cy 8, 60, .inr (.inr (.inr (.inr zf)))))) (c92 : wd_at w z (.inr (5, [.int (nI tw), .int pp, .int le, .int am, .int hh, .int dd, .int ru, .int de, .int cp, .int ld]))) (hS9 : ∀ k9, k9 < sc → zf k9 = some (so k9) ∧ wd_at w (so k9) (.inr (6, [.int (sp0 k9), .int (sp1 k9), .ref (sr k9)])) ∧ tg (so k9) = 5000 + k9 ∧ wd_at w (sr k9) (.inl (cy 2, 12, .inl (sd k9))) ∧ tg (sr k9) = 6000 + k9) (hsc : sc ≤ 60) (htw : tw < 12) : Ct l D cy sk sv yX10_isStopped wsX10_isStopped ({ frames := 2, cells := 0, slots := 0, locals := 42 }) [.ref x, .ref z] w (fun v w1 => ∃ (r1 : Int32), v = some (.int r1) ∧ (r1 = 0 ∨ r1 = 1) ∧ w = w1) := by
  refine Ct.by (cc := cX10_isStopped) (maxL := 3) (ret := (some .boolean)) (by decide +kernel) rfl (Nat.le_of_ble_eq_true rfl) ?_
  intro p e s m args below meth c A Q F hnm K ls hl
  have F : wd_Fx p s m args meth c cX10_isStopped 3 wsX10_isStopped RX10 D cy sk sv A := F
  have hl : lv_has ls 3 [(0, .ref x), (1, .ref z)] := hl
  have hx := F.1.1
  have hb := F.1.2.1
  have hown := F.1.2.2.2.1
  have hts := F.1.2.2.2.2
  intro H locs hP hD hS
  refine lv_iconst (v := 0) hx hb dX10_isStopped_0 (by decide) ?_
  refine lv_istore_n (lv' := [(2, .int 0), (0, .ref x), (1, .ref z)]) hx hb dX10_isStopped_1 rfl hl (by decide) rfl (fun ls hl => ?_)
  have lp2 : ∀ (N : Nat) (k : Nat), (k + N = sc) → ∀ (ls : Array Slot), lv_has ls 3 [(0, .ref x), (1, .ref z), (2, .int (nI k))] → Wv p l e ({ frames := 2, cells := 0, slots := 0, locals := 42 }) s m args below meth c D A (0) (0) Q w (F0 m 2 ls []) := by
    intro N
    induction N with
    | zero =>
      intro k hN2 ls hl H locs hP hD hS
      refine lv_iload_n hx hb dX10_isStopped_2 rfl (lv_at hl 2 rfl) ?_
      refine lv_aload_n hx hb dX10_isStopped_3 rfl (lv_at hl 0 rfl) ?_
      refine x_get (ref := "NoteHouse") F hP c90 rfl (fun _ h => List.mem_cons_of_mem _ (List.mem_append_left _ (List.mem_append_left _ (List.mem_append_right _ (h))))) 15 (Nat.le_of_ble_eq_true rfl) (List.mem_cons_of_mem _ (List.mem_append_left _ (List.mem_append_left _ (List.mem_append_left _ (List.mem_of_getElem? (i := 0) rfl))))) rfl rfl dX10_isStopped_4 ?_
      refine lv_icmp_ge (tgt := 31) hx hb dX10_isStopped_7 (by decide) (fun c_2 => ?_) (fun c_2 => absurd (nI_le (a := sc) (b := k) (by omega) (by omega)) c_2)
      refine lv_iconst (v := 0) hx hb dX10_isStopped_31 (by decide) ?_
      exact y_ir K hP hD hS (Nat.le_of_ble_eq_true rfl) (Nat.le_of_ble_eq_true rfl) (ty := .boolean) rfl rfl dX10_isStopped_32 (⟨0, rfl, Or.inl rfl, rfl⟩)
    | succ N ih2 =>
      intro k hN2 ls hl H locs hP hD hS
      refine lv_iload_n hx hb dX10_isStopped_2 rfl (lv_at hl 2 rfl) ?_
      refine lv_aload_n hx hb dX10_isStopped_3 rfl (lv_at hl 0 rfl) ?_
      refine x_get (ref := "NoteHouse") F hP c90 rfl (fun _ h => List.mem_cons_of_mem _ (List.mem_append_left _ (List.mem_append_left _ (List.mem_append_right _ (h))))) 15 (Nat.le_of_ble_eq_true rfl) (List.mem_cons_of_mem _ (List.mem_append_left _ (List.mem_append_left _ (List.mem_append_left _ (List.mem_of_getElem? (i := 0) rfl))))) rfl rfl dX10_isStopped_4 ?_
      refine lv_icmp_ge (tgt := 31) hx hb dX10_isStopped_7 (by decide) (fun c_3 => absurd c_3 (nI_ge (a := k) (b := sc) (by omega) (by omega))) (fun c_3 => ?_)
      refine lv_aload_n hx hb dX10_isStopped_10 rfl (lv_at hl 0 rfl) ?_
      refine x_get (ref := "NoteHouse") F hP c90 rfl (fun _ h => List.mem_cons_of_mem _ (List.mem_append_left _ (List.mem_append_left _ (List.mem_append_right _ (h))))) 4 (Nat.le_of_ble_eq_true rfl) (List.mem_cons_of_mem _ (List.mem_append_left _ (List.mem_append_left _ (List.mem_append_left _ (List.mem_of_getElem? (i := 1) rfl))))) rfl rfl dX10_isStopped_11 ?_
      refine lv_iload_n hx hb dX10_isStopped_14 rfl (lv_at hl 2 rfl) ?_
      refine x_aald F hP c91 rfl (vp_in_nI (n := k) (N := 60) (by omega) (by decide)) dX10_isStopped_15 ?_
      rw [nI_clamp (n := k) (by omega), (hS9 k (by omega)).1]
      have k4 := (hS9 k (by omega)).2.1
      have tz5 := (hS9 k (by omega)).2.2.1
      have k6 := (hS9 k (by omega)).2.2.2.1
      have tz7 := (hS9 k (by omega)).2.2.2.2
      refine W.eq (g2 := F0 m _ ls [.ref (so k)]) rfl ?_
      refine lv_aload_n hx hb dX10_isStopped_16 rfl (lv_at hl 1 rfl) ?_
      refine x_callV (n := 1) (As := [.ref z]) (rest := []) F hP hD hS (g_holdsAgainst l D cy sk sv w (so k) (sr k) z tw (sp0 k) (sp1 k) pp le am hh dd ru de cp ld (sd k) k4 k6 c92 (by omega)) gX10_isStopped_X6_holdsAgainst rfl rfl (by decide +kernel) ⟨(Nat.le_of_ble_eq_true rfl), (Nat.le_of_ble_eq_true rfl)⟩ rfl hl.1 (Nat.le_of_ble_eq_true rfl) k4 rfl dX10_isStopped_17 rfl ⟨(Nat.le_of_ble_eq_true rfl), (Nat.le_of_ble_eq_true rfl)⟩ (fun v9 w10 hp8 H locs hP hD hS => ?_)
      obtain ⟨rx11, rfl, hz12, rfl⟩ := hp8
      refine W.eq (g2 := F0 m 20 ls [.int rx11]) rfl (W.widen (k := 0) (n := 0) (Nat.le_of_ble_eq_true rfl) (Nat.le_of_ble_eq_true rfl) ?_)
      refine lv_if_eq (tgt := 25) hx hb dX10_isStopped_20 (by decide) (fun c_13 => ?_) (fun c_13 => ?_)
      · refine lv_iinc (v := nI (k + 1)) (lv' := [(2, .int (nI (k + 1))), (0, .ref x), (1, .ref z)]) hx hb dX10_isStopped_25 hl (k := 2) rfl (nI_1 k) (by decide) rfl (fun ls hl => ?_)
        refine lv_goto (tgt := 2) hx hb dX10_isStopped_28 (by decide) ?_
        exact ih2 (k + 1)  (by omega)    ls (lv_sub hl [1, 2, 0] rfl) H locs hP hD hS
      · refine lv_iconst (v := 1) hx hb dX10_isStopped_23 (by decide) ?_
        exact y_ir K hP hD hS (Nat.le_of_ble_eq_true rfl) (Nat.le_of_ble_eq_true rfl) (ty := .boolean) rfl rfl dX10_isStopped_24 (⟨1, rfl, Or.inr rfl, rfl⟩)
  exact lp2 _ 0  (Nat.zero_add sc)    ls (lv_sub hl [1, 2, 0] rfl) H locs hP hD hS
set_option maxHeartbeats 4000000 in
set_option maxRecDepth 100000 in
theorem g_gatherFacts (l : Launch) (D : va_G) (cy : Nat → ClassId) (sk sv : Nat → Nat) (w : Wd) (x a0 a1 a2 a3 a4 a5 a6 a7 a8 a9 a10 a11 pc ac sc sh : Nat) (td : Int32)(tg : Nat → Nat)(af : Nat → Option Nat) (ad : Nat → Nat) (av0 av1 av2 av3 : Nat → Int32)(zf : Nat → Option Nat) (so sr : Nat → Nat) (sp0 sp1 : Nat → Int32) (sd : Nat → Nat → Int32)(z tw : Nat) (pp le am hh dd ru de cp ld : Int32)(q : Nat) (lv wo hd gd dy no tp : Int32) (ff : Nat → Int32) (c90 : wd_at w x (.inr (10, [.ref a0, .ref a1, .ref a2, .ref a3, .ref a4, .ref a5, .ref a6, .ref a7, .ref a8, .ref a9, .ref a10, .ref a11, .int td, .int (nI pc), .int (nI ac), .int (nI sc), .int (nI sh)]))) (c91 : wd_at w a3 (.inl (cy 5, 60, .inr (.inr (.inr (.inr af)))))) (c92 : wd_at w a4 (.inl (cy 8, 60, .inr (.inr (.inr (.inr zf)))))) (c93 : wd_at w a8 (.inl (cy 2, 8, .inl ff))) (c94 : wd_at w z (.inr (5, [.int (nI tw), .int pp, .int le, .int am, .int hh, .int dd, .int ru, .int de, .int cp, .int ld]))) (c95 : wd_at w q (.inr (3, [.int lv, .int wo, .int hd, .int gd, .int dy, .int no, .int tp]))) (hA9 : ∀ k9, k9 < ac → af k9 = some (ad k9) ∧ wd_at w (ad k9) (.inr (0, [.int (av0 k9), .int (av1 k9), .int (av2 k9), .int (av3 k9)])) ∧ tg (ad k9) = 4000 + k9) (hS9 : ∀ k9, k9 < sc → zf k9 = some (so k9) ∧ wd_at w (so k9) (.inr (6, [.int (sp0 k9), .int (sp1 k9), .ref (sr k9)])) ∧ tg (so k9) = 5000 + k9 ∧ wd_at w (sr k9) (.inl (cy 2, 12, .inl (sd k9))) ∧ tg (sr k9) = 6000 + k9) (S : Nat → Prop) (s90 : S a8) (hac : ac ≤ 60) (hsc : sc ≤ 60) (htw : tw < 12) : Ct l D cy sk sv yX10_gatherFacts wsX10_gatherFacts ({ frames := 3, cells := 0, slots := 0, locals := 64 }) [.ref x, .ref z, .ref q] w (fun v w1 => ∃ (ff1 : Nat → Int32), v = none ∧ wd_kp S w w1 ∧ wd_at w1 a8 (.inl (cy 2, 8, .inl ff1))) := by
  refine Ct.by (cc := cX10_gatherFacts) (maxL := 5) (ret := none) (by decide +kernel) rfl (Nat.le_of_ble_eq_true rfl) ?_
  intro p e s m args below meth c A Q F hnm K ls hl
  have F : wd_Fx p s m args meth c cX10_gatherFacts 5 wsX10_gatherFacts RX10 D cy sk sv A := F
  have hl : lv_has ls 5 [(0, .ref x), (1, .ref z), (2, .ref q)] := hl
  have hx := F.1.1
  have hb := F.1.2.1
  have hown := F.1.2.2.2.1
  have hts := F.1.2.2.2.2
  intro H locs hP hD hS
  have kp0 : wd_kp S w w := wd_kp.rf
  refine lv_aload_n hx hb dX10_gatherFacts_0 rfl (lv_at hl 0 rfl) ?_
  refine lv_aload_n hx hb dX10_gatherFacts_1 rfl (lv_at hl 1 rfl) ?_
  refine x_callV (n := 1) (As := [.ref z]) (rest := []) F hP hD hS (g_isAdvised l D cy sk sv w x a0 a1 a2 a3 a4 a5 a6 a7 a8 a9 a10 a11 pc ac sc sh td tg af ad av0 av1 av2 av3 z tw pp le am hh dd ru de cp ld c90 c91 c94 hA9 (by omega)) gX10_gatherFacts_X10_isAdvised rfl rfl (by decide +kernel) ⟨(Nat.le_of_ble_eq_true rfl), (Nat.le_of_ble_eq_true rfl)⟩ rfl hl.1 (Nat.le_of_ble_eq_true rfl) c90 rfl dX10_gatherFacts_2 rfl ⟨(Nat.le_of_ble_eq_true rfl), (Nat.le_of_ble_eq_true rfl)⟩ (fun v2 w3 hp1 H locs hP hD hS => ?_)
  obtain ⟨rx4, rfl, hz5, rfl⟩ := hp1
  refine W.eq (g2 := F0 m 5 ls [.int rx4]) rfl (W.widen (k := 0) (n := 0) (Nat.le_of_ble_eq_true rfl) (Nat.le_of_ble_eq_true rfl) ?_)
  refine lv_istore_n (lv' := [(3, .int rx4), (0, .ref x), (1, .ref z), (2, .ref q)]) hx hb dX10_gatherFacts_5 rfl hl (by decide) rfl (fun ls hl => ?_)
  refine lv_aload_n hx hb dX10_gatherFacts_6 rfl (lv_at hl 2 rfl) ?_
  refine x_get (ref := "NoteHouse$Shown") F hP c94 rfl (fun _ h => List.mem_cons_of_mem _ (List.mem_append_left _ (List.mem_append_left _ (List.mem_append_left _ (List.mem_append_left _ (List.mem_append_right _ (h))))))) 5 (Nat.le_of_ble_eq_true rfl) (List.mem_cons_of_mem _ (List.mem_append_left _ (List.mem_append_left _ (List.mem_append_left _ (List.mem_append_left _ (List.mem_append_left _ (List.mem_append_left _ (List.mem_of_getElem? (i := 0) rfl)))))))) rfl rfl dX10_gatherFacts_7 ?_
  refine lv_aload_n hx hb dX10_gatherFacts_10 rfl (lv_at hl 3 rfl) ?_
  refine x_get (ref := "NoteHouse$Paper") F hP c95 rfl (fun _ h => List.mem_cons_of_mem _ (List.mem_append_left _ (List.mem_append_left _ (List.mem_append_left _ (List.mem_append_right _ (h)))))) 4 (Nat.le_of_ble_eq_true rfl) (List.mem_cons_of_mem _ (List.mem_append_left _ (List.mem_append_left _ (List.mem_append_left _ (List.mem_append_left _ (List.mem_append_left _ (List.mem_append_left _ (List.mem_of_getElem? (i := 1) rfl)))))))) rfl rfl dX10_gatherFacts_11 ?_
  refine lv_isub hx hb dX10_gatherFacts_14 ?_
  refine lv_istore (lv' := [(4, .int (dd - dy)), (3, .int rx4), (0, .ref x), (1, .ref z), (2, .ref q)]) hx hb dX10_gatherFacts_15 hl (by decide) rfl (fun ls hl => ?_)
  refine lv_aload_n hx hb dX10_gatherFacts_17 rfl (lv_at hl 2 rfl) ?_
  refine x_get (ref := "NoteHouse") F hP c90 rfl (fun _ h => List.mem_cons_of_mem _ (List.mem_append_left _ (List.mem_append_left _ (List.mem_append_right _ (h))))) 8 (Nat.le_of_ble_eq_true rfl) (List.mem_cons_of_mem _ (List.mem_append_left _ (List.mem_append_left _ (List.mem_append_left _ (List.mem_append_left _ (List.mem_append_left _ (List.mem_append_left _ (List.mem_of_getElem? (i := 2) rfl)))))))) rfl rfl dX10_gatherFacts_18 ?_
  refine lv_iconst (v := 0) hx hb dX10_gatherFacts_21 (by decide) ?_
  refine lv_iload_n hx hb dX10_gatherFacts_22 rfl (lv_at hl 1 rfl) ?_
  refine lv_if_eq (tgt := 40) hx hb dX10_gatherFacts_23 (by decide) (fun c_6 => ?_) (fun c_6 => ?_)
  · refine lv_bipush (v := 99) hx hb dX10_gatherFacts_40 (by decide) ?_
    refine y_iast F hP hD hS c93 (vp_in_iff.mpr ⟨by decide, by decide⟩) dX10_gatherFacts_42 (fun w7 ew8 H locs hP hD hS => ?_)
    have k9 := wd_at.pt ew8 c90 (wd_nk c90 c93 rfl)
    have k10 := wd_at.pt ew8 c91 (wd_nk c91 c93 rfl)
    have k11 := wd_at.pt ew8 c92 (wd_nk c92 c93 rfl)
    have k12 : wd_at w7 a8 (.inl (cy 2, 8, .inl (upd ff (0 : Int32).toNatClampNeg 99))) := wd_at.ps ew8 c93
    have k13 := wd_at.pt ew8 c94 (wd_nk c94 c93 rfl)
    have k14 := wd_at.pt ew8 c95 (wd_nk c95 c93 rfl)
    have fm15 : ∀ k9, k9 < ac → af k9 = some (ad k9) ∧ wd_at w7 (ad k9) (.inr (0, [.int (av0 k9), .int (av1 k9), .int (av2 k9), .int (av3 k9)])) ∧ tg (ad k9) = 4000 + k9 := fun k9 hi9 => ⟨(hA9 k9 hi9).1, wd_at.pt ew8 (hA9 k9 hi9).2.1 (wd_nk (hA9 k9 hi9).2.1 c93 rfl), (hA9 k9 hi9).2.2⟩
    have fm16 : ∀ k9, k9 < sc → zf k9 = some (so k9) ∧ wd_at w7 (so k9) (.inr (6, [.int (sp0 k9), .int (sp1 k9), .ref (sr k9)])) ∧ tg (so k9) = 5000 + k9 ∧ wd_at w7 (sr k9) (.inl (cy 2, 12, .inl (sd k9))) ∧ tg (sr k9) = 6000 + k9 := fun k9 hi9 => ⟨(hS9 k9 hi9).1, wd_at.pt ew8 (hS9 k9 hi9).2.1 (wd_nk (hS9 k9 hi9).2.1 c93 rfl), (hS9 k9 hi9).2.2.1, wd_at.pt ew8 (hS9 k9 hi9).2.2.2.1 (wd_nk (hS9 k9 hi9).2.2.2.1 c93 rfl), (hS9 k9 hi9).2.2.2.2⟩
    have kp17 := kp0.put ew8 s90
    refine lv_aload_n hx hb dX10_gatherFacts_43 rfl (lv_at hl 2 rfl) ?_
    refine x_get (ref := "NoteHouse") F hP k9 rfl (fun _ h => List.mem_cons_of_mem _ (List.mem_append_left _ (List.mem_append_left _ (List.mem_append_right _ (h))))) 8 (Nat.le_of_ble_eq_true rfl) (List.mem_cons_of_mem _ (List.mem_append_left _ (List.mem_append_left _ (List.mem_append_left _ (List.mem_append_left _ (List.mem_append_left _ (List.mem_append_left _ (List.mem_of_getElem? (i := 2) rfl)))))))) rfl rfl dX10_gatherFacts_44 ?_
    refine lv_iconst (v := 1) hx hb dX10_gatherFacts_47 (by decide) ?_
    refine lv_iload_n hx hb dX10_gatherFacts_48 rfl (lv_at hl 1 rfl) ?_
    refine lv_if_eq (tgt := 56) hx hb dX10_gatherFacts_49 (by decide) (fun c_18 => ?_) (fun c_18 => ?_)
    · refine lv_iconst (v := 0) hx hb dX10_gatherFacts_56 (by decide) ?_
      refine y_iast F hP hD hS k12 (vp_in_iff.mpr ⟨by decide, by decide⟩) dX10_gatherFacts_57 (fun w19 ew20 H locs hP hD hS => ?_)
      have k21 := wd_at.pt ew20 k9 (wd_nk k9 k12 rfl)
      have k22 := wd_at.pt ew20 k10 (wd_nk k10 k12 rfl)
      have k23 := wd_at.pt ew20 k11 (wd_nk k11 k12 rfl)
      have k24 : wd_at w19 a8 (.inl (cy 2, 8, .inl (upd (upd ff (0 : Int32).toNatClampNeg 99) (1 : Int32).toNatClampNeg 0))) := wd_at.ps ew20 k12
      have k25 := wd_at.pt ew20 k13 (wd_nk k13 k12 rfl)
      have k26 := wd_at.pt ew20 k14 (wd_nk k14 k12 rfl)
      have fm27 : ∀ k9, k9 < ac → af k9 = some (ad k9) ∧ wd_at w19 (ad k9) (.inr (0, [.int (av0 k9), .int (av1 k9), .int (av2 k9), .int (av3 k9)])) ∧ tg (ad k9) = 4000 + k9 := fun k9 hi9 => ⟨(fm15 k9 hi9).1, wd_at.pt ew20 (fm15 k9 hi9).2.1 (wd_nk (fm15 k9 hi9).2.1 k12 rfl), (fm15 k9 hi9).2.2⟩
      have fm28 : ∀ k9, k9 < sc → zf k9 = some (so k9) ∧ wd_at w19 (so k9) (.inr (6, [.int (sp0 k9), .int (sp1 k9), .ref (sr k9)])) ∧ tg (so k9) = 5000 + k9 ∧ wd_at w19 (sr k9) (.inl (cy 2, 12, .inl (sd k9))) ∧ tg (sr k9) = 6000 + k9 := fun k9 hi9 => ⟨(fm16 k9 hi9).1, wd_at.pt ew20 (fm16 k9 hi9).2.1 (wd_nk (fm16 k9 hi9).2.1 k12 rfl), (fm16 k9 hi9).2.2.1, wd_at.pt ew20 (fm16 k9 hi9).2.2.2.1 (wd_nk (fm16 k9 hi9).2.2.2.1 k12 rfl), (fm16 k9 hi9).2.2.2.2⟩
      have kp29 := kp17.put ew20 s90
      refine lv_aload_n hx hb dX10_gatherFacts_58 rfl (lv_at hl 2 rfl) ?_
      refine x_get (ref := "NoteHouse") F hP k21 rfl (fun _ h => List.mem_cons_of_mem _ (List.mem_append_left _ (List.mem_append_left _ (List.mem_append_right _ (h))))) 8 (Nat.le_of_ble_eq_true rfl) (List.mem_cons_of_mem _ (List.mem_append_left _ (List.mem_append_left _ (List.mem_append_left _ (List.mem_append_left _ (List.mem_append_left _ (List.mem_append_left _ (List.mem_of_getElem? (i := 2) rfl)))))))) rfl rfl dX10_gatherFacts_59 ?_
      refine lv_iconst (v := 2) hx hb dX10_gatherFacts_62 (by decide) ?_
      refine lv_aload_n hx hb dX10_gatherFacts_63 rfl (lv_at hl 2 rfl) ?_
      refine lv_aload_n hx hb dX10_gatherFacts_64 rfl (lv_at hl 3 rfl) ?_
      refine x_callV (n := 1) (As := [.ref z]) (rest := [.int 2, .ref a8]) F hP hD hS (g_isStopped l D cy sk sv w19 x a0 a1 a2 a3 a4 a5 a6 a7 a8 a9 a10 a11 pc ac sc sh td tg zf so sr sp0 sp1 sd z tw pp le am hh dd ru de cp ld k21 k23 k25 fm28 (by omega) (by omega)) gX10_gatherFacts_X10_isStopped rfl rfl (by decide +kernel) ⟨(Nat.le_of_ble_eq_true rfl), (Nat.le_of_ble_eq_true rfl)⟩ rfl hl.1 (Nat.le_of_ble_eq_true rfl) k21 rfl dX10_gatherFacts_65 rfl ⟨(Nat.le_of_ble_eq_true rfl), (Nat.le_of_ble_eq_true rfl)⟩ (fun v31 w32 hp30 H locs hP hD hS => ?_)
      obtain ⟨rx33, rfl, hz34, rfl⟩ := hp30
      refine W.eq (g2 := F0 m 68 ls [.int rx33, .int 2, .ref a8]) rfl (W.widen (k := 0) (n := 0) (Nat.le_of_ble_eq_true rfl) (Nat.le_of_ble_eq_true rfl) ?_)
      refine lv_if_eq (tgt := 75) hx hb dX10_gatherFacts_68 (by decide) (fun c_35 => ?_) (fun c_35 => ?_)
      · refine lv_iconst (v := 0) hx hb dX10_gatherFacts_75 (by decide) ?_
        refine y_iast F hP hD hS k24 (vp_in_iff.mpr ⟨by decide, by decide⟩) dX10_gatherFacts_76 (fun w36 ew37 H locs hP hD hS => ?_)
        have k38 := wd_at.pt ew37 k21 (wd_nk k21 k24 rfl)
        have k39 := wd_at.pt ew37 k22 (wd_nk k22 k24 rfl)
        have k40 := wd_at.pt ew37 k23 (wd_nk k23 k24 rfl)
        have k41 : wd_at w36 a8 (.inl (cy 2, 8, .inl (upd (upd (upd ff (0 : Int32).toNatClampNeg 99) (1 : Int32).toNatClampNeg 0) (2 : Int32).toNatClampNeg 0))) := wd_at.ps ew37 k24
        have k42 := wd_at.pt ew37 k25 (wd_nk k25 k24 rfl)
        have k43 := wd_at.pt ew37 k26 (wd_nk k26 k24 rfl)
        have fm44 : ∀ k9, k9 < ac → af k9 = some (ad k9) ∧ wd_at w36 (ad k9) (.inr (0, [.int (av0 k9), .int (av1 k9), .int (av2 k9), .int (av3 k9)])) ∧ tg (ad k9) = 4000 + k9 := fun k9 hi9 => ⟨(fm27 k9 hi9).1, wd_at.pt ew37 (fm27 k9 hi9).2.1 (wd_nk (fm27 k9 hi9).2.1 k24 rfl), (fm27 k9 hi9).2.2⟩
        have fm45 : ∀ k9, k9 < sc → zf k9 = some (so k9) ∧ wd_at w36 (so k9) (.inr (6, [.int (sp0 k9), .int (sp1 k9), .ref (sr k9)])) ∧ tg (so k9) = 5000 + k9 ∧ wd_at w36 (sr k9) (.inl (cy 2, 12, .inl (sd k9))) ∧ tg (sr k9) = 6000 + k9 := fun k9 hi9 => ⟨(fm28 k9 hi9).1, wd_at.pt ew37 (fm28 k9 hi9).2.1 (wd_nk (fm28 k9 hi9).2.1 k24 rfl), (fm28 k9 hi9).2.2.1, wd_at.pt ew37 (fm28 k9 hi9).2.2.2.1 (wd_nk (fm28 k9 hi9).2.2.2.1 k24 rfl), (fm28 k9 hi9).2.2.2.2⟩
        have kp46 := kp29.put ew37 s90
        refine lv_aload_n hx hb dX10_gatherFacts_77 rfl (lv_at hl 2 rfl) ?_
        refine x_get (ref := "NoteHouse") F hP k38 rfl (fun _ h => List.mem_cons_of_mem _ (List.mem_append_left _ (List.mem_append_left _ (List.mem_append_right _ (h))))) 8 (Nat.le_of_ble_eq_true rfl) (List.mem_cons_of_mem _ (List.mem_append_left _ (List.mem_append_left _ (List.mem_append_left _ (List.mem_append_left _ (List.mem_append_left _ (List.mem_append_left _ (List.mem_of_getElem? (i := 2) rfl)))))))) rfl rfl dX10_gatherFacts_78 ?_
        refine lv_iconst (v := 3) hx hb dX10_gatherFacts_81 (by decide) ?_
        refine lv_iload hx hb dX10_gatherFacts_82 (lv_at hl 0 rfl) ?_
        refine y_iast F hP hD hS k41 (vp_in_iff.mpr ⟨by decide, by decide⟩) dX10_gatherFacts_84 (fun w47 ew48 H locs hP hD hS => ?_)
        have k49 := wd_at.pt ew48 k38 (wd_nk k38 k41 rfl)
        have k50 := wd_at.pt ew48 k39 (wd_nk k39 k41 rfl)
        have k51 := wd_at.pt ew48 k40 (wd_nk k40 k41 rfl)
        have k52 : wd_at w47 a8 (.inl (cy 2, 8, .inl (upd (upd (upd (upd ff (0 : Int32).toNatClampNeg 99) (1 : Int32).toNatClampNeg 0) (2 : Int32).toNatClampNeg 0) (3 : Int32).toNatClampNeg (dd - dy)))) := wd_at.ps ew48 k41
        have k53 := wd_at.pt ew48 k42 (wd_nk k42 k41 rfl)
        have k54 := wd_at.pt ew48 k43 (wd_nk k43 k41 rfl)
        have fm55 : ∀ k9, k9 < ac → af k9 = some (ad k9) ∧ wd_at w47 (ad k9) (.inr (0, [.int (av0 k9), .int (av1 k9), .int (av2 k9), .int (av3 k9)])) ∧ tg (ad k9) = 4000 + k9 := fun k9 hi9 => ⟨(fm44 k9 hi9).1, wd_at.pt ew48 (fm44 k9 hi9).2.1 (wd_nk (fm44 k9 hi9).2.1 k41 rfl), (fm44 k9 hi9).2.2⟩
        have fm56 : ∀ k9, k9 < sc → zf k9 = some (so k9) ∧ wd_at w47 (so k9) (.inr (6, [.int (sp0 k9), .int (sp1 k9), .ref (sr k9)])) ∧ tg (so k9) = 5000 + k9 ∧ wd_at w47 (sr k9) (.inl (cy 2, 12, .inl (sd k9))) ∧ tg (sr k9) = 6000 + k9 := fun k9 hi9 => ⟨(fm45 k9 hi9).1, wd_at.pt ew48 (fm45 k9 hi9).2.1 (wd_nk (fm45 k9 hi9).2.1 k41 rfl), (fm45 k9 hi9).2.2.1, wd_at.pt ew48 (fm45 k9 hi9).2.2.2.1 (wd_nk (fm45 k9 hi9).2.2.2.1 k41 rfl), (fm45 k9 hi9).2.2.2.2⟩
        have kp57 := kp46.put ew48 s90
        refine lv_aload_n hx hb dX10_gatherFacts_85 rfl (lv_at hl 2 rfl) ?_
        refine x_get (ref := "NoteHouse") F hP k49 rfl (fun _ h => List.mem_cons_of_mem _ (List.mem_append_left _ (List.mem_append_left _ (List.mem_append_right _ (h))))) 8 (Nat.le_of_ble_eq_true rfl) (List.mem_cons_of_mem _ (List.mem_append_left _ (List.mem_append_left _ (List.mem_append_left _ (List.mem_append_left _ (List.mem_append_left _ (List.mem_append_left _ (List.mem_of_getElem? (i := 2) rfl)))))))) rfl rfl dX10_gatherFacts_86 ?_
        refine lv_iconst (v := 4) hx hb dX10_gatherFacts_89 (by decide) ?_
        refine lv_iload hx hb dX10_gatherFacts_90 (lv_at hl 0 rfl) ?_
        refine lv_aload_n hx hb dX10_gatherFacts_92 rfl (lv_at hl 4 rfl) ?_
        refine x_get (ref := "NoteHouse$Paper") F hP k54 rfl (fun _ h => List.mem_cons_of_mem _ (List.mem_append_left _ (List.mem_append_left _ (List.mem_append_left _ (List.mem_append_right _ (h)))))) 3 (Nat.le_of_ble_eq_true rfl) (List.mem_cons_of_mem _ (List.mem_append_left _ (List.mem_append_left _ (List.mem_append_left _ (List.mem_append_left _ (List.mem_append_left _ (List.mem_append_left _ (List.mem_of_getElem? (i := 5) rfl)))))))) rfl rfl dX10_gatherFacts_93 ?_
        refine lv_icmp_le (tgt := 103) hx hb dX10_gatherFacts_96 (by decide) (fun c_58 => ?_) (fun c_58 => ?_)
        · refine lv_iconst (v := 0) hx hb dX10_gatherFacts_103 (by decide) ?_
          refine y_iast F hP hD hS k52 (vp_in_iff.mpr ⟨by decide, by decide⟩) dX10_gatherFacts_104 (fun w59 ew60 H locs hP hD hS => ?_)
          have k61 := wd_at.pt ew60 k49 (wd_nk k49 k52 rfl)
          have k62 := wd_at.pt ew60 k50 (wd_nk k50 k52 rfl)
          have k63 := wd_at.pt ew60 k51 (wd_nk k51 k52 rfl)
          have k64 : wd_at w59 a8 (.inl (cy 2, 8, .inl (upd (upd (upd (upd (upd ff (0 : Int32).toNatClampNeg 99) (1 : Int32).toNatClampNeg 0) (2 : Int32).toNatClampNeg 0) (3 : Int32).toNatClampNeg (dd - dy)) (4 : Int32).toNatClampNeg 0))) := wd_at.ps ew60 k52
          have k65 := wd_at.pt ew60 k53 (wd_nk k53 k52 rfl)
          have k66 := wd_at.pt ew60 k54 (wd_nk k54 k52 rfl)
          have fm67 : ∀ k9, k9 < ac → af k9 = some (ad k9) ∧ wd_at w59 (ad k9) (.inr (0, [.int (av0 k9), .int (av1 k9), .int (av2 k9), .int (av3 k9)])) ∧ tg (ad k9) = 4000 + k9 := fun k9 hi9 => ⟨(fm55 k9 hi9).1, wd_at.pt ew60 (fm55 k9 hi9).2.1 (wd_nk (fm55 k9 hi9).2.1 k52 rfl), (fm55 k9 hi9).2.2⟩
          have fm68 : ∀ k9, k9 < sc → zf k9 = some (so k9) ∧ wd_at w59 (so k9) (.inr (6, [.int (sp0 k9), .int (sp1 k9), .ref (sr k9)])) ∧ tg (so k9) = 5000 + k9 ∧ wd_at w59 (sr k9) (.inl (cy 2, 12, .inl (sd k9))) ∧ tg (sr k9) = 6000 + k9 := fun k9 hi9 => ⟨(fm56 k9 hi9).1, wd_at.pt ew60 (fm56 k9 hi9).2.1 (wd_nk (fm56 k9 hi9).2.1 k52 rfl), (fm56 k9 hi9).2.2.1, wd_at.pt ew60 (fm56 k9 hi9).2.2.2.1 (wd_nk (fm56 k9 hi9).2.2.2.1 k52 rfl), (fm56 k9 hi9).2.2.2.2⟩
          have kp69 := kp57.put ew60 s90
          refine lv_aload_n hx hb dX10_gatherFacts_105 rfl (lv_at hl 2 rfl) ?_
          refine x_get (ref := "NoteHouse") F hP k61 rfl (fun _ h => List.mem_cons_of_mem _ (List.mem_append_left _ (List.mem_append_left _ (List.mem_append_right _ (h))))) 8 (Nat.le_of_ble_eq_true rfl) (List.mem_cons_of_mem _ (List.mem_append_left _ (List.mem_append_left _ (List.mem_append_left _ (List.mem_append_left _ (List.mem_append_left _ (List.mem_append_left _ (List.mem_of_getElem? (i := 2) rfl)))))))) rfl rfl dX10_gatherFacts_106 ?_
          refine lv_iconst (v := 5) hx hb dX10_gatherFacts_109 (by decide) ?_
          refine lv_aload_n hx hb dX10_gatherFacts_110 rfl (lv_at hl 3 rfl) ?_
          refine x_get (ref := "NoteHouse$Shown") F hP k65 rfl (fun _ h => List.mem_cons_of_mem _ (List.mem_append_left _ (List.mem_append_left _ (List.mem_append_left _ (List.mem_append_left _ (List.mem_append_right _ (h))))))) 3 (Nat.le_of_ble_eq_true rfl) (List.mem_cons_of_mem _ (List.mem_append_left _ (List.mem_append_left _ (List.mem_append_left _ (List.mem_append_left _ (List.mem_append_left _ (List.mem_append_left _ (List.mem_of_getElem? (i := 6) rfl)))))))) rfl rfl dX10_gatherFacts_111 ?_
          refine y_iast F hP hD hS k64 (vp_in_iff.mpr ⟨by decide, by decide⟩) dX10_gatherFacts_114 (fun w70 ew71 H locs hP hD hS => ?_)
          have k72 := wd_at.pt ew71 k61 (wd_nk k61 k64 rfl)
          have k73 := wd_at.pt ew71 k62 (wd_nk k62 k64 rfl)
          have k74 := wd_at.pt ew71 k63 (wd_nk k63 k64 rfl)
          have k75 : wd_at w70 a8 (.inl (cy 2, 8, .inl (upd (upd (upd (upd (upd (upd ff (0 : Int32).toNatClampNeg 99) (1 : Int32).toNatClampNeg 0) (2 : Int32).toNatClampNeg 0) (3 : Int32).toNatClampNeg (dd - dy)) (4 : Int32).toNatClampNeg 0) (5 : Int32).toNatClampNeg am))) := wd_at.ps ew71 k64
          have k76 := wd_at.pt ew71 k65 (wd_nk k65 k64 rfl)
          have k77 := wd_at.pt ew71 k66 (wd_nk k66 k64 rfl)
          have fm78 : ∀ k9, k9 < ac → af k9 = some (ad k9) ∧ wd_at w70 (ad k9) (.inr (0, [.int (av0 k9), .int (av1 k9), .int (av2 k9), .int (av3 k9)])) ∧ tg (ad k9) = 4000 + k9 := fun k9 hi9 => ⟨(fm67 k9 hi9).1, wd_at.pt ew71 (fm67 k9 hi9).2.1 (wd_nk (fm67 k9 hi9).2.1 k64 rfl), (fm67 k9 hi9).2.2⟩
          have fm79 : ∀ k9, k9 < sc → zf k9 = some (so k9) ∧ wd_at w70 (so k9) (.inr (6, [.int (sp0 k9), .int (sp1 k9), .ref (sr k9)])) ∧ tg (so k9) = 5000 + k9 ∧ wd_at w70 (sr k9) (.inl (cy 2, 12, .inl (sd k9))) ∧ tg (sr k9) = 6000 + k9 := fun k9 hi9 => ⟨(fm68 k9 hi9).1, wd_at.pt ew71 (fm68 k9 hi9).2.1 (wd_nk (fm68 k9 hi9).2.1 k64 rfl), (fm68 k9 hi9).2.2.1, wd_at.pt ew71 (fm68 k9 hi9).2.2.2.1 (wd_nk (fm68 k9 hi9).2.2.2.1 k64 rfl), (fm68 k9 hi9).2.2.2.2⟩
          have kp80 := kp69.put ew71 s90
          refine lv_aload_n hx hb dX10_gatherFacts_115 rfl (lv_at hl 2 rfl) ?_
          refine x_get (ref := "NoteHouse") F hP k72 rfl (fun _ h => List.mem_cons_of_mem _ (List.mem_append_left _ (List.mem_append_left _ (List.mem_append_right _ (h))))) 8 (Nat.le_of_ble_eq_true rfl) (List.mem_cons_of_mem _ (List.mem_append_left _ (List.mem_append_left _ (List.mem_append_left _ (List.mem_append_left _ (List.mem_append_left _ (List.mem_append_left _ (List.mem_of_getElem? (i := 2) rfl)))))))) rfl rfl dX10_gatherFacts_116 ?_
          refine lv_bipush (v := 6) hx hb dX10_gatherFacts_119 (by decide) ?_
          refine lv_aload_n hx hb dX10_gatherFacts_121 rfl (lv_at hl 4 rfl) ?_
          refine x_get (ref := "NoteHouse$Paper") F hP k77 rfl (fun _ h => List.mem_cons_of_mem _ (List.mem_append_left _ (List.mem_append_left _ (List.mem_append_left _ (List.mem_append_right _ (h)))))) 1 (Nat.le_of_ble_eq_true rfl) (List.mem_cons_of_mem _ (List.mem_append_left _ (List.mem_append_left _ (List.mem_append_left _ (List.mem_append_left _ (List.mem_append_left _ (List.mem_append_left _ (List.mem_of_getElem? (i := 7) rfl)))))))) rfl rfl dX10_gatherFacts_122 ?_
          refine lv_aload_n hx hb dX10_gatherFacts_125 rfl (lv_at hl 4 rfl) ?_
          refine x_get (ref := "NoteHouse$Paper") F hP k77 rfl (fun _ h => List.mem_cons_of_mem _ (List.mem_append_left _ (List.mem_append_left _ (List.mem_append_left _ (List.mem_append_right _ (h)))))) 5 (Nat.le_of_ble_eq_true rfl) (List.mem_cons_of_mem _ (List.mem_append_left _ (List.mem_append_left _ (List.mem_append_left _ (List.mem_append_left _ (List.mem_append_left _ (List.mem_append_left _ (List.mem_of_getElem? (i := 8) rfl)))))))) rfl rfl dX10_gatherFacts_126 ?_
          refine lv_isub hx hb dX10_gatherFacts_129 ?_
          refine y_iast F hP hD hS k75 (vp_in_iff.mpr ⟨by decide, by decide⟩) dX10_gatherFacts_130 (fun w81 ew82 H locs hP hD hS => ?_)
          have k83 := wd_at.pt ew82 k72 (wd_nk k72 k75 rfl)
          have k84 := wd_at.pt ew82 k73 (wd_nk k73 k75 rfl)
          have k85 := wd_at.pt ew82 k74 (wd_nk k74 k75 rfl)
          have k86 : wd_at w81 a8 (.inl (cy 2, 8, .inl (upd (upd (upd (upd (upd (upd (upd ff (0 : Int32).toNatClampNeg 99) (1 : Int32).toNatClampNeg 0) (2 : Int32).toNatClampNeg 0) (3 : Int32).toNatClampNeg (dd - dy)) (4 : Int32).toNatClampNeg 0) (5 : Int32).toNatClampNeg am) (6 : Int32).toNatClampNeg (wo - no)))) := wd_at.ps ew82 k75
          have k87 := wd_at.pt ew82 k76 (wd_nk k76 k75 rfl)
          have k88 := wd_at.pt ew82 k77 (wd_nk k77 k75 rfl)
          have fm89 : ∀ k9, k9 < ac → af k9 = some (ad k9) ∧ wd_at w81 (ad k9) (.inr (0, [.int (av0 k9), .int (av1 k9), .int (av2 k9), .int (av3 k9)])) ∧ tg (ad k9) = 4000 + k9 := fun k9 hi9 => ⟨(fm78 k9 hi9).1, wd_at.pt ew82 (fm78 k9 hi9).2.1 (wd_nk (fm78 k9 hi9).2.1 k75 rfl), (fm78 k9 hi9).2.2⟩
          have fm90 : ∀ k9, k9 < sc → zf k9 = some (so k9) ∧ wd_at w81 (so k9) (.inr (6, [.int (sp0 k9), .int (sp1 k9), .ref (sr k9)])) ∧ tg (so k9) = 5000 + k9 ∧ wd_at w81 (sr k9) (.inl (cy 2, 12, .inl (sd k9))) ∧ tg (sr k9) = 6000 + k9 := fun k9 hi9 => ⟨(fm79 k9 hi9).1, wd_at.pt ew82 (fm79 k9 hi9).2.1 (wd_nk (fm79 k9 hi9).2.1 k75 rfl), (fm79 k9 hi9).2.2.1, wd_at.pt ew82 (fm79 k9 hi9).2.2.2.1 (wd_nk (fm79 k9 hi9).2.2.2.1 k75 rfl), (fm79 k9 hi9).2.2.2.2⟩
          have kp91 := kp80.put ew82 s90
          refine lv_aload_n hx hb dX10_gatherFacts_131 rfl (lv_at hl 2 rfl) ?_
          refine x_get (ref := "NoteHouse") F hP k83 rfl (fun _ h => List.mem_cons_of_mem _ (List.mem_append_left _ (List.mem_append_left _ (List.mem_append_right _ (h))))) 8 (Nat.le_of_ble_eq_true rfl) (List.mem_cons_of_mem _ (List.mem_append_left _ (List.mem_append_left _ (List.mem_append_left _ (List.mem_append_left _ (List.mem_append_left _ (List.mem_append_left _ (List.mem_of_getElem? (i := 2) rfl)))))))) rfl rfl dX10_gatherFacts_132 ?_
          refine lv_bipush (v := 7) hx hb dX10_gatherFacts_135 (by decide) ?_
          refine lv_aload_n hx hb dX10_gatherFacts_137 rfl (lv_at hl 3 rfl) ?_
          refine x_get (ref := "NoteHouse$Shown") F hP k87 rfl (fun _ h => List.mem_cons_of_mem _ (List.mem_append_left _ (List.mem_append_left _ (List.mem_append_left _ (List.mem_append_left _ (List.mem_append_right _ (h))))))) 5 (Nat.le_of_ble_eq_true rfl) (List.mem_cons_of_mem _ (List.mem_append_left _ (List.mem_append_left _ (List.mem_append_left _ (List.mem_append_left _ (List.mem_append_left _ (List.mem_append_left _ (List.mem_of_getElem? (i := 0) rfl)))))))) rfl rfl dX10_gatherFacts_138 ?_
          refine y_iast F hP hD hS k86 (vp_in_iff.mpr ⟨by decide, by decide⟩) dX10_gatherFacts_141 (fun w92 ew93 H locs hP hD hS => ?_)
          have k94 := wd_at.pt ew93 k83 (wd_nk k83 k86 rfl)
          have k95 := wd_at.pt ew93 k84 (wd_nk k84 k86 rfl)
          have k96 := wd_at.pt ew93 k85 (wd_nk k85 k86 rfl)
          have k97 : wd_at w92 a8 (.inl (cy 2, 8, .inl (upd (upd (upd (upd (upd (upd (upd (upd ff (0 : Int32).toNatClampNeg 99) (1 : Int32).toNatClampNeg 0) (2 : Int32).toNatClampNeg 0) (3 : Int32).toNatClampNeg (dd - dy)) (4 : Int32).toNatClampNeg 0) (5 : Int32).toNatClampNeg am) (6 : Int32).toNatClampNeg (wo - no)) (7 : Int32).toNatClampNeg dd))) := wd_at.ps ew93 k86
          have k98 := wd_at.pt ew93 k87 (wd_nk k87 k86 rfl)
          have k99 := wd_at.pt ew93 k88 (wd_nk k88 k86 rfl)
          have fm100 : ∀ k9, k9 < ac → af k9 = some (ad k9) ∧ wd_at w92 (ad k9) (.inr (0, [.int (av0 k9), .int (av1 k9), .int (av2 k9), .int (av3 k9)])) ∧ tg (ad k9) = 4000 + k9 := fun k9 hi9 => ⟨(fm89 k9 hi9).1, wd_at.pt ew93 (fm89 k9 hi9).2.1 (wd_nk (fm89 k9 hi9).2.1 k86 rfl), (fm89 k9 hi9).2.2⟩
          have fm101 : ∀ k9, k9 < sc → zf k9 = some (so k9) ∧ wd_at w92 (so k9) (.inr (6, [.int (sp0 k9), .int (sp1 k9), .ref (sr k9)])) ∧ tg (so k9) = 5000 + k9 ∧ wd_at w92 (sr k9) (.inl (cy 2, 12, .inl (sd k9))) ∧ tg (sr k9) = 6000 + k9 := fun k9 hi9 => ⟨(fm90 k9 hi9).1, wd_at.pt ew93 (fm90 k9 hi9).2.1 (wd_nk (fm90 k9 hi9).2.1 k86 rfl), (fm90 k9 hi9).2.2.1, wd_at.pt ew93 (fm90 k9 hi9).2.2.2.1 (wd_nk (fm90 k9 hi9).2.2.2.1 k86 rfl), (fm90 k9 hi9).2.2.2.2⟩
          have kp102 := kp91.put ew93 s90
          exact y_vr K hP hD hS (Nat.le_of_ble_eq_true rfl) (Nat.le_of_ble_eq_true rfl) rfl dX10_gatherFacts_142 (⟨upd (upd (upd (upd (upd (upd (upd (upd ff (0 : Int32).toNatClampNeg 99) (1 : Int32).toNatClampNeg 0) (2 : Int32).toNatClampNeg 0) (3 : Int32).toNatClampNeg (dd - dy)) (4 : Int32).toNatClampNeg 0) (5 : Int32).toNatClampNeg am) (6 : Int32).toNatClampNeg (wo - no)) (7 : Int32).toNatClampNeg dd, rfl, kp102, k97⟩)
        · refine lv_iconst (v := 1) hx hb dX10_gatherFacts_99 (by decide) ?_
          refine lv_goto (tgt := 104) hx hb dX10_gatherFacts_100 (by decide) ?_
          refine y_iast F hP hD hS k52 (vp_in_iff.mpr ⟨by decide, by decide⟩) dX10_gatherFacts_104 (fun w103 ew104 H locs hP hD hS => ?_)
          have k105 := wd_at.pt ew104 k49 (wd_nk k49 k52 rfl)
          have k106 := wd_at.pt ew104 k50 (wd_nk k50 k52 rfl)
          have k107 := wd_at.pt ew104 k51 (wd_nk k51 k52 rfl)
          have k108 : wd_at w103 a8 (.inl (cy 2, 8, .inl (upd (upd (upd (upd (upd ff (0 : Int32).toNatClampNeg 99) (1 : Int32).toNatClampNeg 0) (2 : Int32).toNatClampNeg 0) (3 : Int32).toNatClampNeg (dd - dy)) (4 : Int32).toNatClampNeg 1))) := wd_at.ps ew104 k52
          have k109 := wd_at.pt ew104 k53 (wd_nk k53 k52 rfl)
          have k110 := wd_at.pt ew104 k54 (wd_nk k54 k52 rfl)
          have fm111 : ∀ k9, k9 < ac → af k9 = some (ad k9) ∧ wd_at w103 (ad k9) (.inr (0, [.int (av0 k9), .int (av1 k9), .int (av2 k9), .int (av3 k9)])) ∧ tg (ad k9) = 4000 + k9 := fun k9 hi9 => ⟨(fm55 k9 hi9).1, wd_at.pt ew104 (fm55 k9 hi9).2.1 (wd_nk (fm55 k9 hi9).2.1 k52 rfl), (fm55 k9 hi9).2.2⟩
          have fm112 : ∀ k9, k9 < sc → zf k9 = some (so k9) ∧ wd_at w103 (so k9) (.inr (6, [.int (sp0 k9), .int (sp1 k9), .ref (sr k9)])) ∧ tg (so k9) = 5000 + k9 ∧ wd_at w103 (sr k9) (.inl (cy 2, 12, .inl (sd k9))) ∧ tg (sr k9) = 6000 + k9 := fun k9 hi9 => ⟨(fm56 k9 hi9).1, wd_at.pt ew104 (fm56 k9 hi9).2.1 (wd_nk (fm56 k9 hi9).2.1 k52 rfl), (fm56 k9 hi9).2.2.1, wd_at.pt ew104 (fm56 k9 hi9).2.2.2.1 (wd_nk (fm56 k9 hi9).2.2.2.1 k52 rfl), (fm56 k9 hi9).2.2.2.2⟩
          have kp113 := kp57.put ew104 s90
          refine lv_aload_n hx hb dX10_gatherFacts_105 rfl (lv_at hl 2 rfl) ?_
          refine x_get (ref := "NoteHouse") F hP k105 rfl (fun _ h => List.mem_cons_of_mem _ (List.mem_append_left _ (List.mem_append_left _ (List.mem_append_right _ (h))))) 8 (Nat.le_of_ble_eq_true rfl) (List.mem_cons_of_mem _ (List.mem_append_left _ (List.mem_append_left _ (List.mem_append_left _ (List.mem_append_left _ (List.mem_append_left _ (List.mem_append_left _ (List.mem_of_getElem? (i := 2) rfl)))))))) rfl rfl dX10_gatherFacts_106 ?_
          refine lv_iconst (v := 5) hx hb dX10_gatherFacts_109 (by decide) ?_
          refine lv_aload_n hx hb dX10_gatherFacts_110 rfl (lv_at hl 3 rfl) ?_
          refine x_get (ref := "NoteHouse$Shown") F hP k109 rfl (fun _ h => List.mem_cons_of_mem _ (List.mem_append_left _ (List.mem_append_left _ (List.mem_append_left _ (List.mem_append_left _ (List.mem_append_right _ (h))))))) 3 (Nat.le_of_ble_eq_true rfl) (List.mem_cons_of_mem _ (List.mem_append_left _ (List.mem_append_left _ (List.mem_append_left _ (List.mem_append_left _ (List.mem_append_left _ (List.mem_append_left _ (List.mem_of_getElem? (i := 6) rfl)))))))) rfl rfl dX10_gatherFacts_111 ?_
          refine y_iast F hP hD hS k108 (vp_in_iff.mpr ⟨by decide, by decide⟩) dX10_gatherFacts_114 (fun w114 ew115 H locs hP hD hS => ?_)
          have k116 := wd_at.pt ew115 k105 (wd_nk k105 k108 rfl)
          have k117 := wd_at.pt ew115 k106 (wd_nk k106 k108 rfl)
          have k118 := wd_at.pt ew115 k107 (wd_nk k107 k108 rfl)
          have k119 : wd_at w114 a8 (.inl (cy 2, 8, .inl (upd (upd (upd (upd (upd (upd ff (0 : Int32).toNatClampNeg 99) (1 : Int32).toNatClampNeg 0) (2 : Int32).toNatClampNeg 0) (3 : Int32).toNatClampNeg (dd - dy)) (4 : Int32).toNatClampNeg 1) (5 : Int32).toNatClampNeg am))) := wd_at.ps ew115 k108
          have k120 := wd_at.pt ew115 k109 (wd_nk k109 k108 rfl)
          have k121 := wd_at.pt ew115 k110 (wd_nk k110 k108 rfl)
          have fm122 : ∀ k9, k9 < ac → af k9 = some (ad k9) ∧ wd_at w114 (ad k9) (.inr (0, [.int (av0 k9), .int (av1 k9), .int (av2 k9), .int (av3 k9)])) ∧ tg (ad k9) = 4000 + k9 := fun k9 hi9 => ⟨(fm111 k9 hi9).1, wd_at.pt ew115 (fm111 k9 hi9).2.1 (wd_nk (fm111 k9 hi9).2.1 k108 rfl), (fm111 k9 hi9).2.2⟩
          have fm123 : ∀ k9, k9 < sc → zf k9 = some (so k9) ∧ wd_at w114 (so k9) (.inr (6, [.int (sp0 k9), .int (sp1 k9), .ref (sr k9)])) ∧ tg (so k9) = 5000 + k9 ∧ wd_at w114 (sr k9) (.inl (cy 2, 12, .inl (sd k9))) ∧ tg (sr k9) = 6000 + k9 := fun k9 hi9 => ⟨(fm112 k9 hi9).1, wd_at.pt ew115 (fm112 k9 hi9).2.1 (wd_nk (fm112 k9 hi9).2.1 k108 rfl), (fm112 k9 hi9).2.2.1, wd_at.pt ew115 (fm112 k9 hi9).2.2.2.1 (wd_nk (fm112 k9 hi9).2.2.2.1 k108 rfl), (fm112 k9 hi9).2.2.2.2⟩
          have kp124 := kp113.put ew115 s90
          refine lv_aload_n hx hb dX10_gatherFacts_115 rfl (lv_at hl 2 rfl) ?_
          refine x_get (ref := "NoteHouse") F hP k116 rfl (fun _ h => List.mem_cons_of_mem _ (List.mem_append_left _ (List.mem_append_left _ (List.mem_append_right _ (h))))) 8 (Nat.le_of_ble_eq_true rfl) (List.mem_cons_of_mem _ (List.mem_append_left _ (List.mem_append_left _ (List.mem_append_left _ (List.mem_append_left _ (List.mem_append_left _ (List.mem_append_left _ (List.mem_of_getElem? (i := 2) rfl)))))))) rfl rfl dX10_gatherFacts_116 ?_
          refine lv_bipush (v := 6) hx hb dX10_gatherFacts_119 (by decide) ?_
          refine lv_aload_n hx hb dX10_gatherFacts_121 rfl (lv_at hl 4 rfl) ?_
          refine x_get (ref := "NoteHouse$Paper") F hP k121 rfl (fun _ h => List.mem_cons_of_mem _ (List.mem_append_left _ (List.mem_append_left _ (List.mem_append_left _ (List.mem_append_right _ (h)))))) 1 (Nat.le_of_ble_eq_true rfl) (List.mem_cons_of_mem _ (List.mem_append_left _ (List.mem_append_left _ (List.mem_append_left _ (List.mem_append_left _ (List.mem_append_left _ (List.mem_append_left _ (List.mem_of_getElem? (i := 7) rfl)))))))) rfl rfl dX10_gatherFacts_122 ?_
          refine lv_aload_n hx hb dX10_gatherFacts_125 rfl (lv_at hl 4 rfl) ?_
          refine x_get (ref := "NoteHouse$Paper") F hP k121 rfl (fun _ h => List.mem_cons_of_mem _ (List.mem_append_left _ (List.mem_append_left _ (List.mem_append_left _ (List.mem_append_right _ (h)))))) 5 (Nat.le_of_ble_eq_true rfl) (List.mem_cons_of_mem _ (List.mem_append_left _ (List.mem_append_left _ (List.mem_append_left _ (List.mem_append_left _ (List.mem_append_left _ (List.mem_append_left _ (List.mem_of_getElem? (i := 8) rfl)))))))) rfl rfl dX10_gatherFacts_126 ?_
          refine lv_isub hx hb dX10_gatherFacts_129 ?_
          refine y_iast F hP hD hS k119 (vp_in_iff.mpr ⟨by decide, by decide⟩) dX10_gatherFacts_130 (fun w125 ew126 H locs hP hD hS => ?_)
          have k127 := wd_at.pt ew126 k116 (wd_nk k116 k119 rfl)
          have k128 := wd_at.pt ew126 k117 (wd_nk k117 k119 rfl)
          have k129 := wd_at.pt ew126 k118 (wd_nk k118 k119 rfl)
          have k130 : wd_at w125 a8 (.inl (cy 2, 8, .inl (upd (upd (upd (upd (upd (upd (upd ff (0 : Int32).toNatClampNeg 99) (1 : Int32).toNatClampNeg 0) (2 : Int32).toNatClampNeg 0) (3 : Int32).toNatClampNeg (dd - dy)) (4 : Int32).toNatClampNeg 1) (5 : Int32).toNatClampNeg am) (6 : Int32).toNatClampNeg (wo - no)))) := wd_at.ps ew126 k119
          have k131 := wd_at.pt ew126 k120 (wd_nk k120 k119 rfl)
          have k132 := wd_at.pt ew126 k121 (wd_nk k121 k119 rfl)
          have fm133 : ∀ k9, k9 < ac → af k9 = some (ad k9) ∧ wd_at w125 (ad k9) (.inr (0, [.int (av0 k9), .int (av1 k9), .int (av2 k9), .int (av3 k9)])) ∧ tg (ad k9) = 4000 + k9 := fun k9 hi9 => ⟨(fm122 k9 hi9).1, wd_at.pt ew126 (fm122 k9 hi9).2.1 (wd_nk (fm122 k9 hi9).2.1 k119 rfl), (fm122 k9 hi9).2.2⟩
          have fm134 : ∀ k9, k9 < sc → zf k9 = some (so k9) ∧ wd_at w125 (so k9) (.inr (6, [.int (sp0 k9), .int (sp1 k9), .ref (sr k9)])) ∧ tg (so k9) = 5000 + k9 ∧ wd_at w125 (sr k9) (.inl (cy 2, 12, .inl (sd k9))) ∧ tg (sr k9) = 6000 + k9 := fun k9 hi9 => ⟨(fm123 k9 hi9).1, wd_at.pt ew126 (fm123 k9 hi9).2.1 (wd_nk (fm123 k9 hi9).2.1 k119 rfl), (fm123 k9 hi9).2.2.1, wd_at.pt ew126 (fm123 k9 hi9).2.2.2.1 (wd_nk (fm123 k9 hi9).2.2.2.1 k119 rfl), (fm123 k9 hi9).2.2.2.2⟩
          have kp135 := kp124.put ew126 s90
          refine lv_aload_n hx hb dX10_gatherFacts_131 rfl (lv_at hl 2 rfl) ?_
          refine x_get (ref := "NoteHouse") F hP k127 rfl (fun _ h => List.mem_cons_of_mem _ (List.mem_append_left _ (List.mem_append_left _ (List.mem_append_right _ (h))))) 8 (Nat.le_of_ble_eq_true rfl) (List.mem_cons_of_mem _ (List.mem_append_left _ (List.mem_append_left _ (List.mem_append_left _ (List.mem_append_left _ (List.mem_append_left _ (List.mem_append_left _ (List.mem_of_getElem? (i := 2) rfl)))))))) rfl rfl dX10_gatherFacts_132 ?_
          refine lv_bipush (v := 7) hx hb dX10_gatherFacts_135 (by decide) ?_
          refine lv_aload_n hx hb dX10_gatherFacts_137 rfl (lv_at hl 3 rfl) ?_
          refine x_get (ref := "NoteHouse$Shown") F hP k131 rfl (fun _ h => List.mem_cons_of_mem _ (List.mem_append_left _ (List.mem_append_left _ (List.mem_append_left _ (List.mem_append_left _ (List.mem_append_right _ (h))))))) 5 (Nat.le_of_ble_eq_true rfl) (List.mem_cons_of_mem _ (List.mem_append_left _ (List.mem_append_left _ (List.mem_append_left _ (List.mem_append_left _ (List.mem_append_left _ (List.mem_append_left _ (List.mem_of_getElem? (i := 0) rfl)))))))) rfl rfl dX10_gatherFacts_138 ?_
          refine y_iast F hP hD hS k130 (vp_in_iff.mpr ⟨by decide, by decide⟩) dX10_gatherFacts_141 (fun w136 ew137 H locs hP hD hS => ?_)
          have k138 := wd_at.pt ew137 k127 (wd_nk k127 k130 rfl)
          have k139 := wd_at.pt ew137 k128 (wd_nk k128 k130 rfl)
          have k140 := wd_at.pt ew137 k129 (wd_nk k129 k130 rfl)
          have k141 : wd_at w136 a8 (.inl (cy 2, 8, .inl (upd (upd (upd (upd (upd (upd (upd (upd ff (0 : Int32).toNatClampNeg 99) (1 : Int32).toNatClampNeg 0) (2 : Int32).toNatClampNeg 0) (3 : Int32).toNatClampNeg (dd - dy)) (4 : Int32).toNatClampNeg 1) (5 : Int32).toNatClampNeg am) (6 : Int32).toNatClampNeg (wo - no)) (7 : Int32).toNatClampNeg dd))) := wd_at.ps ew137 k130
          have k142 := wd_at.pt ew137 k131 (wd_nk k131 k130 rfl)
          have k143 := wd_at.pt ew137 k132 (wd_nk k132 k130 rfl)
          have fm144 : ∀ k9, k9 < ac → af k9 = some (ad k9) ∧ wd_at w136 (ad k9) (.inr (0, [.int (av0 k9), .int (av1 k9), .int (av2 k9), .int (av3 k9)])) ∧ tg (ad k9) = 4000 + k9 := fun k9 hi9 => ⟨(fm133 k9 hi9).1, wd_at.pt ew137 (fm133 k9 hi9).2.1 (wd_nk (fm133 k9 hi9).2.1 k130 rfl), (fm133 k9 hi9).2.2⟩
          have fm145 : ∀ k9, k9 < sc → zf k9 = some (so k9) ∧ wd_at w136 (so k9) (.inr (6, [.int (sp0 k9), .int (sp1 k9), .ref (sr k9)])) ∧ tg (so k9) = 5000 + k9 ∧ wd_at w136 (sr k9) (.inl (cy 2, 12, .inl (sd k9))) ∧ tg (sr k9) = 6000 + k9 := fun k9 hi9 => ⟨(fm134 k9 hi9).1, wd_at.pt ew137 (fm134 k9 hi9).2.1 (wd_nk (fm134 k9 hi9).2.1 k130 rfl), (fm134 k9 hi9).2.2.1, wd_at.pt ew137 (fm134 k9 hi9).2.2.2.1 (wd_nk (fm134 k9 hi9).2.2.2.1 k130 rfl), (fm134 k9 hi9).2.2.2.2⟩
          have kp146 := kp135.put ew137 s90
          exact y_vr K hP hD hS (Nat.le_of_ble_eq_true rfl) (Nat.le_of_ble_eq_true rfl) rfl dX10_gatherFacts_142 (⟨upd (upd (upd (upd (upd (upd (upd (upd ff (0 : Int32).toNatClampNeg 99) (1 : Int32).toNatClampNeg 0) (2 : Int32).toNatClampNeg 0) (3 : Int32).toNatClampNeg (dd - dy)) (4 : Int32).toNatClampNeg 1) (5 : Int32).toNatClampNeg am) (6 : Int32).toNatClampNeg (wo - no)) (7 : Int32).toNatClampNeg dd, rfl, kp146, k141⟩)
      · refine lv_iconst (v := 1) hx hb dX10_gatherFacts_71 (by decide) ?_
        refine lv_goto (tgt := 76) hx hb dX10_gatherFacts_72 (by decide) ?_
        refine y_iast F hP hD hS k24 (vp_in_iff.mpr ⟨by decide, by decide⟩) dX10_gatherFacts_76 (fun w147 ew148 H locs hP hD hS => ?_)
        have k149 := wd_at.pt ew148 k21 (wd_nk k21 k24 rfl)
        have k150 := wd_at.pt ew148 k22 (wd_nk k22 k24 rfl)
        have k151 := wd_at.pt ew148 k23 (wd_nk k23 k24 rfl)
        have k152 : wd_at w147 a8 (.inl (cy 2, 8, .inl (upd (upd (upd ff (0 : Int32).toNatClampNeg 99) (1 : Int32).toNatClampNeg 0) (2 : Int32).toNatClampNeg 1))) := wd_at.ps ew148 k24
        have k153 := wd_at.pt ew148 k25 (wd_nk k25 k24 rfl)
        have k154 := wd_at.pt ew148 k26 (wd_nk k26 k24 rfl)
        have fm155 : ∀ k9, k9 < ac → af k9 = some (ad k9) ∧ wd_at w147 (ad k9) (.inr (0, [.int (av0 k9), .int (av1 k9), .int (av2 k9), .int (av3 k9)])) ∧ tg (ad k9) = 4000 + k9 := fun k9 hi9 => ⟨(fm27 k9 hi9).1, wd_at.pt ew148 (fm27 k9 hi9).2.1 (wd_nk (fm27 k9 hi9).2.1 k24 rfl), (fm27 k9 hi9).2.2⟩
        have fm156 : ∀ k9, k9 < sc → zf k9 = some (so k9) ∧ wd_at w147 (so k9) (.inr (6, [.int (sp0 k9), .int (sp1 k9), .ref (sr k9)])) ∧ tg (so k9) = 5000 + k9 ∧ wd_at w147 (sr k9) (.inl (cy 2, 12, .inl (sd k9))) ∧ tg (sr k9) = 6000 + k9 := fun k9 hi9 => ⟨(fm28 k9 hi9).1, wd_at.pt ew148 (fm28 k9 hi9).2.1 (wd_nk (fm28 k9 hi9).2.1 k24 rfl), (fm28 k9 hi9).2.2.1, wd_at.pt ew148 (fm28 k9 hi9).2.2.2.1 (wd_nk (fm28 k9 hi9).2.2.2.1 k24 rfl), (fm28 k9 hi9).2.2.2.2⟩
        have kp157 := kp29.put ew148 s90
        refine lv_aload_n hx hb dX10_gatherFacts_77 rfl (lv_at hl 2 rfl) ?_
        refine x_get (ref := "NoteHouse") F hP k149 rfl (fun _ h => List.mem_cons_of_mem _ (List.mem_append_left _ (List.mem_append_left _ (List.mem_append_right _ (h))))) 8 (Nat.le_of_ble_eq_true rfl) (List.mem_cons_of_mem _ (List.mem_append_left _ (List.mem_append_left _ (List.mem_append_left _ (List.mem_append_left _ (List.mem_append_left _ (List.mem_append_left _ (List.mem_of_getElem? (i := 2) rfl)))))))) rfl rfl dX10_gatherFacts_78 ?_
        refine lv_iconst (v := 3) hx hb dX10_gatherFacts_81 (by decide) ?_
        refine lv_iload hx hb dX10_gatherFacts_82 (lv_at hl 0 rfl) ?_
        refine y_iast F hP hD hS k152 (vp_in_iff.mpr ⟨by decide, by decide⟩) dX10_gatherFacts_84 (fun w158 ew159 H locs hP hD hS => ?_)
        have k160 := wd_at.pt ew159 k149 (wd_nk k149 k152 rfl)
        have k161 := wd_at.pt ew159 k150 (wd_nk k150 k152 rfl)
        have k162 := wd_at.pt ew159 k151 (wd_nk k151 k152 rfl)
        have k163 : wd_at w158 a8 (.inl (cy 2, 8, .inl (upd (upd (upd (upd ff (0 : Int32).toNatClampNeg 99) (1 : Int32).toNatClampNeg 0) (2 : Int32).toNatClampNeg 1) (3 : Int32).toNatClampNeg (dd - dy)))) := wd_at.ps ew159 k152
        have k164 := wd_at.pt ew159 k153 (wd_nk k153 k152 rfl)
        have k165 := wd_at.pt ew159 k154 (wd_nk k154 k152 rfl)
        have fm166 : ∀ k9, k9 < ac → af k9 = some (ad k9) ∧ wd_at w158 (ad k9) (.inr (0, [.int (av0 k9), .int (av1 k9), .int (av2 k9), .int (av3 k9)])) ∧ tg (ad k9) = 4000 + k9 := fun k9 hi9 => ⟨(fm155 k9 hi9).1, wd_at.pt ew159 (fm155 k9 hi9).2.1 (wd_nk (fm155 k9 hi9).2.1 k152 rfl), (fm155 k9 hi9).2.2⟩
        have fm167 : ∀ k9, k9 < sc → zf k9 = some (so k9) ∧ wd_at w158 (so k9) (.inr (6, [.int (sp0 k9), .int (sp1 k9), .ref (sr k9)])) ∧ tg (so k9) = 5000 + k9 ∧ wd_at w158 (sr k9) (.inl (cy 2, 12, .inl (sd k9))) ∧ tg (sr k9) = 6000 + k9 := fun k9 hi9 => ⟨(fm156 k9 hi9).1, wd_at.pt ew159 (fm156 k9 hi9).2.1 (wd_nk (fm156 k9 hi9).2.1 k152 rfl), (fm156 k9 hi9).2.2.1, wd_at.pt ew159 (fm156 k9 hi9).2.2.2.1 (wd_nk (fm156 k9 hi9).2.2.2.1 k152 rfl), (fm156 k9 hi9).2.2.2.2⟩
        have kp168 := kp157.put ew159 s90
        refine lv_aload_n hx hb dX10_gatherFacts_85 rfl (lv_at hl 2 rfl) ?_
        refine x_get (ref := "NoteHouse") F hP k160 rfl (fun _ h => List.mem_cons_of_mem _ (List.mem_append_left _ (List.mem_append_left _ (List.mem_append_right _ (h))))) 8 (Nat.le_of_ble_eq_true rfl) (List.mem_cons_of_mem _ (List.mem_append_left _ (List.mem_append_left _ (List.mem_append_left _ (List.mem_append_left _ (List.mem_append_left _ (List.mem_append_left _ (List.mem_of_getElem? (i := 2) rfl)))))))) rfl rfl dX10_gatherFacts_86 ?_
        refine lv_iconst (v := 4) hx hb dX10_gatherFacts_89 (by decide) ?_
        refine lv_iload hx hb dX10_gatherFacts_90 (lv_at hl 0 rfl) ?_
        refine lv_aload_n hx hb dX10_gatherFacts_92 rfl (lv_at hl 4 rfl) ?_
        refine x_get (ref := "NoteHouse$Paper") F hP k165 rfl (fun _ h => List.mem_cons_of_mem _ (List.mem_append_left _ (List.mem_append_left _ (List.mem_append_left _ (List.mem_append_right _ (h)))))) 3 (Nat.le_of_ble_eq_true rfl) (List.mem_cons_of_mem _ (List.mem_append_left _ (List.mem_append_left _ (List.mem_append_left _ (List.mem_append_left _ (List.mem_append_left _ (List.mem_append_left _ (List.mem_of_getElem? (i := 5) rfl)))))))) rfl rfl dX10_gatherFacts_93 ?_
        refine lv_icmp_le (tgt := 103) hx hb dX10_gatherFacts_96 (by decide) (fun c_169 => ?_) (fun c_169 => ?_)
        · refine lv_iconst (v := 0) hx hb dX10_gatherFacts_103 (by decide) ?_
          refine y_iast F hP hD hS k163 (vp_in_iff.mpr ⟨by decide, by decide⟩) dX10_gatherFacts_104 (fun w170 ew171 H locs hP hD hS => ?_)
          have k172 := wd_at.pt ew171 k160 (wd_nk k160 k163 rfl)
          have k173 := wd_at.pt ew171 k161 (wd_nk k161 k163 rfl)
          have k174 := wd_at.pt ew171 k162 (wd_nk k162 k163 rfl)
          have k175 : wd_at w170 a8 (.inl (cy 2, 8, .inl (upd (upd (upd (upd (upd ff (0 : Int32).toNatClampNeg 99) (1 : Int32).toNatClampNeg 0) (2 : Int32).toNatClampNeg 1) (3 : Int32).toNatClampNeg (dd - dy)) (4 : Int32).toNatClampNeg 0))) := wd_at.ps ew171 k163
          have k176 := wd_at.pt ew171 k164 (wd_nk k164 k163 rfl)
          have k177 := wd_at.pt ew171 k165 (wd_nk k165 k163 rfl)
          have fm178 : ∀ k9, k9 < ac → af k9 = some (ad k9) ∧ wd_at w170 (ad k9) (.inr (0, [.int (av0 k9), .int (av1 k9), .int (av2 k9), .int (av3 k9)])) ∧ tg (ad k9) = 4000 + k9 := fun k9 hi9 => ⟨(fm166 k9 hi9).1, wd_at.pt ew171 (fm166 k9 hi9).2.1 (wd_nk (fm166 k9 hi9).2.1 k163 rfl), (fm166 k9 hi9).2.2⟩
          have fm179 : ∀ k9, k9 < sc → zf k9 = some (so k9) ∧ wd_at w170 (so k9) (.inr (6, [.int (sp0 k9), .int (sp1 k9), .ref (sr k9)])) ∧ tg (so k9) = 5000 + k9 ∧ wd_at w170 (sr k9) (.inl (cy 2, 12, .inl (sd k9))) ∧ tg (sr k9) = 6000 + k9 := fun k9 hi9 => ⟨(fm167 k9 hi9).1, wd_at.pt ew171 (fm167 k9 hi9).2.1 (wd_nk (fm167 k9 hi9).2.1 k163 rfl), (fm167 k9 hi9).2.2.1, wd_at.pt ew171 (fm167 k9 hi9).2.2.2.1 (wd_nk (fm167 k9 hi9).2.2.2.1 k163 rfl), (fm167 k9 hi9).2.2.2.2⟩
          have kp180 := kp168.put ew171 s90
          refine lv_aload_n hx hb dX10_gatherFacts_105 rfl (lv_at hl 2 rfl) ?_
          refine x_get (ref := "NoteHouse") F hP k172 rfl (fun _ h => List.mem_cons_of_mem _ (List.mem_append_left _ (List.mem_append_left _ (List.mem_append_right _ (h))))) 8 (Nat.le_of_ble_eq_true rfl) (List.mem_cons_of_mem _ (List.mem_append_left _ (List.mem_append_left _ (List.mem_append_left _ (List.mem_append_left _ (List.mem_append_left _ (List.mem_append_left _ (List.mem_of_getElem? (i := 2) rfl)))))))) rfl rfl dX10_gatherFacts_106 ?_
          refine lv_iconst (v := 5) hx hb dX10_gatherFacts_109 (by decide) ?_
          refine lv_aload_n hx hb dX10_gatherFacts_110 rfl (lv_at hl 3 rfl) ?_
          refine x_get (ref := "NoteHouse$Shown") F hP k176 rfl (fun _ h => List.mem_cons_of_mem _ (List.mem_append_left _ (List.mem_append_left _ (List.mem_append_left _ (List.mem_append_left _ (List.mem_append_right _ (h))))))) 3 (Nat.le_of_ble_eq_true rfl) (List.mem_cons_of_mem _ (List.mem_append_left _ (List.mem_append_left _ (List.mem_append_left _ (List.mem_append_left _ (List.mem_append_left _ (List.mem_append_left _ (List.mem_of_getElem? (i := 6) rfl)))))))) rfl rfl dX10_gatherFacts_111 ?_
          refine y_iast F hP hD hS k175 (vp_in_iff.mpr ⟨by decide, by decide⟩) dX10_gatherFacts_114 (fun w181 ew182 H locs hP hD hS => ?_)
          have k183 := wd_at.pt ew182 k172 (wd_nk k172 k175 rfl)
          have k184 := wd_at.pt ew182 k173 (wd_nk k173 k175 rfl)
          have k185 := wd_at.pt ew182 k174 (wd_nk k174 k175 rfl)
          have k186 : wd_at w181 a8 (.inl (cy 2, 8, .inl (upd (upd (upd (upd (upd (upd ff (0 : Int32).toNatClampNeg 99) (1 : Int32).toNatClampNeg 0) (2 : Int32).toNatClampNeg 1) (3 : Int32).toNatClampNeg (dd - dy)) (4 : Int32).toNatClampNeg 0) (5 : Int32).toNatClampNeg am))) := wd_at.ps ew182 k175
          have k187 := wd_at.pt ew182 k176 (wd_nk k176 k175 rfl)
          have k188 := wd_at.pt ew182 k177 (wd_nk k177 k175 rfl)
          have fm189 : ∀ k9, k9 < ac → af k9 = some (ad k9) ∧ wd_at w181 (ad k9) (.inr (0, [.int (av0 k9), .int (av1 k9), .int (av2 k9), .int (av3 k9)])) ∧ tg (ad k9) = 4000 + k9 := fun k9 hi9 => ⟨(fm178 k9 hi9).1, wd_at.pt ew182 (fm178 k9 hi9).2.1 (wd_nk (fm178 k9 hi9).2.1 k175 rfl), (fm178 k9 hi9).2.2⟩
          have fm190 : ∀ k9, k9 < sc → zf k9 = some (so k9) ∧ wd_at w181 (so k9) (.inr (6, [.int (sp0 k9), .int (sp1 k9), .ref (sr k9)])) ∧ tg (so k9) = 5000 + k9 ∧ wd_at w181 (sr k9) (.inl (cy 2, 12, .inl (sd k9))) ∧ tg (sr k9) = 6000 + k9 := fun k9 hi9 => ⟨(fm179 k9 hi9).1, wd_at.pt ew182 (fm179 k9 hi9).2.1 (wd_nk (fm179 k9 hi9).2.1 k175 rfl), (fm179 k9 hi9).2.2.1, wd_at.pt ew182 (fm179 k9 hi9).2.2.2.1 (wd_nk (fm179 k9 hi9).2.2.2.1 k175 rfl), (fm179 k9 hi9).2.2.2.2⟩
          have kp191 := kp180.put ew182 s90
          refine lv_aload_n hx hb dX10_gatherFacts_115 rfl (lv_at hl 2 rfl) ?_
          refine x_get (ref := "NoteHouse") F hP k183 rfl (fun _ h => List.mem_cons_of_mem _ (List.mem_append_left _ (List.mem_append_left _ (List.mem_append_right _ (h))))) 8 (Nat.le_of_ble_eq_true rfl) (List.mem_cons_of_mem _ (List.mem_append_left _ (List.mem_append_left _ (List.mem_append_left _ (List.mem_append_left _ (List.mem_append_left _ (List.mem_append_left _ (List.mem_of_getElem? (i := 2) rfl)))))))) rfl rfl dX10_gatherFacts_116 ?_
          refine lv_bipush (v := 6) hx hb dX10_gatherFacts_119 (by decide) ?_
          refine lv_aload_n hx hb dX10_gatherFacts_121 rfl (lv_at hl 4 rfl) ?_
          refine x_get (ref := "NoteHouse$Paper") F hP k188 rfl (fun _ h => List.mem_cons_of_mem _ (List.mem_append_left _ (List.mem_append_left _ (List.mem_append_left _ (List.mem_append_right _ (h)))))) 1 (Nat.le_of_ble_eq_true rfl) (List.mem_cons_of_mem _ (List.mem_append_left _ (List.mem_append_left _ (List.mem_append_left _ (List.mem_append_left _ (List.mem_append_left _ (List.mem_append_left _ (List.mem_of_getElem? (i := 7) rfl)))))))) rfl rfl dX10_gatherFacts_122 ?_
          refine lv_aload_n hx hb dX10_gatherFacts_125 rfl (lv_at hl 4 rfl) ?_
          refine x_get (ref := "NoteHouse$Paper") F hP k188 rfl (fun _ h => List.mem_cons_of_mem _ (List.mem_append_left _ (List.mem_append_left _ (List.mem_append_left _ (List.mem_append_right _ (h)))))) 5 (Nat.le_of_ble_eq_true rfl) (List.mem_cons_of_mem _ (List.mem_append_left _ (List.mem_append_left _ (List.mem_append_left _ (List.mem_append_left _ (List.mem_append_left _ (List.mem_append_left _ (List.mem_of_getElem? (i := 8) rfl)))))))) rfl rfl dX10_gatherFacts_126 ?_
          refine lv_isub hx hb dX10_gatherFacts_129 ?_
          refine y_iast F hP hD hS k186 (vp_in_iff.mpr ⟨by decide, by decide⟩) dX10_gatherFacts_130 (fun w192 ew193 H locs hP hD hS => ?_)
          have k194 := wd_at.pt ew193 k183 (wd_nk k183 k186 rfl)
          have k195 := wd_at.pt ew193 k184 (wd_nk k184 k186 rfl)
          have k196 := wd_at.pt ew193 k185 (wd_nk k185 k186 rfl)
          have k197 : wd_at w192 a8 (.inl (cy 2, 8, .inl (upd (upd (upd (upd (upd (upd (upd ff (0 : Int32).toNatClampNeg 99) (1 : Int32).toNatClampNeg 0) (2 : Int32).toNatClampNeg 1) (3 : Int32).toNatClampNeg (dd - dy)) (4 : Int32).toNatClampNeg 0) (5 : Int32).toNatClampNeg am) (6 : Int32).toNatClampNeg (wo - no)))) := wd_at.ps ew193 k186
          have k198 := wd_at.pt ew193 k187 (wd_nk k187 k186 rfl)
          have k199 := wd_at.pt ew193 k188 (wd_nk k188 k186 rfl)
          have fm200 : ∀ k9, k9 < ac → af k9 = some (ad k9) ∧ wd_at w192 (ad k9) (.inr (0, [.int (av0 k9), .int (av1 k9), .int (av2 k9), .int (av3 k9)])) ∧ tg (ad k9) = 4000 + k9 := fun k9 hi9 => ⟨(fm189 k9 hi9).1, wd_at.pt ew193 (fm189 k9 hi9).2.1 (wd_nk (fm189 k9 hi9).2.1 k186 rfl), (fm189 k9 hi9).2.2⟩
          have fm201 : ∀ k9, k9 < sc → zf k9 = some (so k9) ∧ wd_at w192 (so k9) (.inr (6, [.int (sp0 k9), .int (sp1 k9), .ref (sr k9)])) ∧ tg (so k9) = 5000 + k9 ∧ wd_at w192 (sr k9) (.inl (cy 2, 12, .inl (sd k9))) ∧ tg (sr k9) = 6000 + k9 := fun k9 hi9 => ⟨(fm190 k9 hi9).1, wd_at.pt ew193 (fm190 k9 hi9).2.1 (wd_nk (fm190 k9 hi9).2.1 k186 rfl), (fm190 k9 hi9).2.2.1, wd_at.pt ew193 (fm190 k9 hi9).2.2.2.1 (wd_nk (fm190 k9 hi9).2.2.2.1 k186 rfl), (fm190 k9 hi9).2.2.2.2⟩
          have kp202 := kp191.put ew193 s90
          refine lv_aload_n hx hb dX10_gatherFacts_131 rfl (lv_at hl 2 rfl) ?_
          refine x_get (ref := "NoteHouse") F hP k194 rfl (fun _ h => List.mem_cons_of_mem _ (List.mem_append_left _ (List.mem_append_left _ (List.mem_append_right _ (h))))) 8 (Nat.le_of_ble_eq_true rfl) (List.mem_cons_of_mem _ (List.mem_append_left _ (List.mem_append_left _ (List.mem_append_left _ (List.mem_append_left _ (List.mem_append_left _ (List.mem_append_left _ (List.mem_of_getElem? (i := 2) rfl)))))))) rfl rfl dX10_gatherFacts_132 ?_
          refine lv_bipush (v := 7) hx hb dX10_gatherFacts_135 (by decide) ?_
          refine lv_aload_n hx hb dX10_gatherFacts_137 rfl (lv_at hl 3 rfl) ?_
          refine x_get (ref := "NoteHouse$Shown") F hP k198 rfl (fun _ h => List.mem_cons_of_mem _ (List.mem_append_left _ (List.mem_append_left _ (List.mem_append_left _ (List.mem_append_left _ (List.mem_append_right _ (h))))))) 5 (Nat.le_of_ble_eq_true rfl) (List.mem_cons_of_mem _ (List.mem_append_left _ (List.mem_append_left _ (List.mem_append_left _ (List.mem_append_left _ (List.mem_append_left _ (List.mem_append_left _ (List.mem_of_getElem? (i := 0) rfl)))))))) rfl rfl dX10_gatherFacts_138 ?_
          refine y_iast F hP hD hS k197 (vp_in_iff.mpr ⟨by decide, by decide⟩) dX10_gatherFacts_141 (fun w203 ew204 H locs hP hD hS => ?_)
          have k205 := wd_at.pt ew204 k194 (wd_nk k194 k197 rfl)
          have k206 := wd_at.pt ew204 k195 (wd_nk k195 k197 rfl)
          have k207 := wd_at.pt ew204 k196 (wd_nk k196 k197 rfl)
          have k208 : wd_at w203 a8 (.inl (cy 2, 8, .inl (upd (upd (upd (upd (upd (upd (upd (upd ff (0 : Int32).toNatClampNeg 99) (1 : Int32).toNatClampNeg 0) (2 : Int32).toNatClampNeg 1) (3 : Int32).toNatClampNeg (dd - dy)) (4 : Int32).toNatClampNeg 0) (5 : Int32).toNatClampNeg am) (6 : Int32).toNatClampNeg (wo - no)) (7 : Int32).toNatClampNeg dd))) := wd_at.ps ew204 k197
          have k209 := wd_at.pt ew204 k198 (wd_nk k198 k197 rfl)
          have k210 := wd_at.pt ew204 k199 (wd_nk k199 k197 rfl)
          have fm211 : ∀ k9, k9 < ac → af k9 = some (ad k9) ∧ wd_at w203 (ad k9) (.inr (0, [.int (av0 k9), .int (av1 k9), .int (av2 k9), .int (av3 k9)])) ∧ tg (ad k9) = 4000 + k9 := fun k9 hi9 => ⟨(fm200 k9 hi9).1, wd_at.pt ew204 (fm200 k9 hi9).2.1 (wd_nk (fm200 k9 hi9).2.1 k197 rfl), (fm200 k9 hi9).2.2⟩
          have fm212 : ∀ k9, k9 < sc → zf k9 = some (so k9) ∧ wd_at w203 (so k9) (.inr (6, [.int (sp0 k9), .int (sp1 k9), .ref (sr k9)])) ∧ tg (so k9) = 5000 + k9 ∧ wd_at w203 (sr k9) (.inl (cy 2, 12, .inl (sd k9))) ∧ tg (sr k9) = 6000 + k9 := fun k9 hi9 => ⟨(fm201 k9 hi9).1, wd_at.pt ew204 (fm201 k9 hi9).2.1 (wd_nk (fm201 k9 hi9).2.1 k197 rfl), (fm201 k9 hi9).2.2.1, wd_at.pt ew204 (fm201 k9 hi9).2.2.2.1 (wd_nk (fm201 k9 hi9).2.2.2.1 k197 rfl), (fm201 k9 hi9).2.2.2.2⟩
          have kp213 := kp202.put ew204 s90
          exact y_vr K hP hD hS (Nat.le_of_ble_eq_true rfl) (Nat.le_of_ble_eq_true rfl) rfl dX10_gatherFacts_142 (⟨upd (upd (upd (upd (upd (upd (upd (upd ff (0 : Int32).toNatClampNeg 99) (1 : Int32).toNatClampNeg 0) (2 : Int32).toNatClampNeg 1) (3 : Int32).toNatClampNeg (dd - dy)) (4 : Int32).toNatClampNeg 0) (5 : Int32).toNatClampNeg am) (6 : Int32).toNatClampNeg (wo - no)) (7 : Int32).toNatClampNeg dd, rfl, kp213, k208⟩)
        · refine lv_iconst (v := 1) hx hb dX10_gatherFacts_99 (by decide) ?_
          refine lv_goto (tgt := 104) hx hb dX10_gatherFacts_100 (by decide) ?_
          refine y_iast F hP hD hS k163 (vp_in_iff.mpr ⟨by decide, by decide⟩) dX10_gatherFacts_104 (fun w214 ew215 H locs hP hD hS => ?_)
          have k216 := wd_at.pt ew215 k160 (wd_nk k160 k163 rfl)
          have k217 := wd_at.pt ew215 k161 (wd_nk k161 k163 rfl)
          have k218 := wd_at.pt ew215 k162 (wd_nk k162 k163 rfl)
          have k219 : wd_at w214 a8 (.inl (cy 2, 8, .inl (upd (upd (upd (upd (upd ff (0 : Int32).toNatClampNeg 99) (1 : Int32).toNatClampNeg 0) (2 : Int32).toNatClampNeg 1) (3 : Int32).toNatClampNeg (dd - dy)) (4 : Int32).toNatClampNeg 1))) := wd_at.ps ew215 k163
          have k220 := wd_at.pt ew215 k164 (wd_nk k164 k163 rfl)
          have k221 := wd_at.pt ew215 k165 (wd_nk k165 k163 rfl)
          have fm222 : ∀ k9, k9 < ac → af k9 = some (ad k9) ∧ wd_at w214 (ad k9) (.inr (0, [.int (av0 k9), .int (av1 k9), .int (av2 k9), .int (av3 k9)])) ∧ tg (ad k9) = 4000 + k9 := fun k9 hi9 => ⟨(fm166 k9 hi9).1, wd_at.pt ew215 (fm166 k9 hi9).2.1 (wd_nk (fm166 k9 hi9).2.1 k163 rfl), (fm166 k9 hi9).2.2⟩
          have fm223 : ∀ k9, k9 < sc → zf k9 = some (so k9) ∧ wd_at w214 (so k9) (.inr (6, [.int (sp0 k9), .int (sp1 k9), .ref (sr k9)])) ∧ tg (so k9) = 5000 + k9 ∧ wd_at w214 (sr k9) (.inl (cy 2, 12, .inl (sd k9))) ∧ tg (sr k9) = 6000 + k9 := fun k9 hi9 => ⟨(fm167 k9 hi9).1, wd_at.pt ew215 (fm167 k9 hi9).2.1 (wd_nk (fm167 k9 hi9).2.1 k163 rfl), (fm167 k9 hi9).2.2.1, wd_at.pt ew215 (fm167 k9 hi9).2.2.2.1 (wd_nk (fm167 k9 hi9).2.2.2.1 k163 rfl), (fm167 k9 hi9).2.2.2.2⟩
          have kp224 := kp168.put ew215 s90
          refine lv_aload_n hx hb dX10_gatherFacts_105 rfl (lv_at hl 2 rfl) ?_
          refine x_get (ref := "NoteHouse") F hP k216 rfl (fun _ h => List.mem_cons_of_mem _ (List.mem_append_left _ (List.mem_append_left _ (List.mem_append_right _ (h))))) 8 (Nat.le_of_ble_eq_true rfl) (List.mem_cons_of_mem _ (List.mem_append_left _ (List.mem_append_left _ (List.mem_append_left _ (List.mem_append_left _ (List.mem_append_left _ (List.mem_append_left _ (List.mem_of_getElem? (i := 2) rfl)))))))) rfl rfl dX10_gatherFacts_106 ?_
          refine lv_iconst (v := 5) hx hb dX10_gatherFacts_109 (by decide) ?_
          refine lv_aload_n hx hb dX10_gatherFacts_110 rfl (lv_at hl 3 rfl) ?_
          refine x_get (ref := "NoteHouse$Shown") F hP k220 rfl (fun _ h => List.mem_cons_of_mem _ (List.mem_append_left _ (List.mem_append_left _ (List.mem_append_left _ (List.mem_append_left _ (List.mem_append_right _ (h))))))) 3 (Nat.le_of_ble_eq_true rfl) (List.mem_cons_of_mem _ (List.mem_append_left _ (List.mem_append_left _ (List.mem_append_left _ (List.mem_append_left _ (List.mem_append_left _ (List.mem_append_left _ (List.mem_of_getElem? (i := 6) rfl)))))))) rfl rfl dX10_gatherFacts_111 ?_
          refine y_iast F hP hD hS k219 (vp_in_iff.mpr ⟨by decide, by decide⟩) dX10_gatherFacts_114 (fun w225 ew226 H locs hP hD hS => ?_)
          have k227 := wd_at.pt ew226 k216 (wd_nk k216 k219 rfl)
          have k228 := wd_at.pt ew226 k217 (wd_nk k217 k219 rfl)
          have k229 := wd_at.pt ew226 k218 (wd_nk k218 k219 rfl)
          have k230 : wd_at w225 a8 (.inl (cy 2, 8, .inl (upd (upd (upd (upd (upd (upd ff (0 : Int32).toNatClampNeg 99) (1 : Int32).toNatClampNeg 0) (2 : Int32).toNatClampNeg 1) (3 : Int32).toNatClampNeg (dd - dy)) (4 : Int32).toNatClampNeg 1) (5 : Int32).toNatClampNeg am))) := wd_at.ps ew226 k219
          have k231 := wd_at.pt ew226 k220 (wd_nk k220 k219 rfl)
          have k232 := wd_at.pt ew226 k221 (wd_nk k221 k219 rfl)
          have fm233 : ∀ k9, k9 < ac → af k9 = some (ad k9) ∧ wd_at w225 (ad k9) (.inr (0, [.int (av0 k9), .int (av1 k9), .int (av2 k9), .int (av3 k9)])) ∧ tg (ad k9) = 4000 + k9 := fun k9 hi9 => ⟨(fm222 k9 hi9).1, wd_at.pt ew226 (fm222 k9 hi9).2.1 (wd_nk (fm222 k9 hi9).2.1 k219 rfl), (fm222 k9 hi9).2.2⟩
          have fm234 : ∀ k9, k9 < sc → zf k9 = some (so k9) ∧ wd_at w225 (so k9) (.inr (6, [.int (sp0 k9), .int (sp1 k9), .ref (sr k9)])) ∧ tg (so k9) = 5000 + k9 ∧ wd_at w225 (sr k9) (.inl (cy 2, 12, .inl (sd k9))) ∧ tg (sr k9) = 6000 + k9 := fun k9 hi9 => ⟨(fm223 k9 hi9).1, wd_at.pt ew226 (fm223 k9 hi9).2.1 (wd_nk (fm223 k9 hi9).2.1 k219 rfl), (fm223 k9 hi9).2.2.1, wd_at.pt ew226 (fm223 k9 hi9).2.2.2.1 (wd_nk (fm223 k9 hi9).2.2.2.1 k219 rfl), (fm223 k9 hi9).2.2.2.2⟩
          have kp235 := kp224.put ew226 s90
          refine lv_aload_n hx hb dX10_gatherFacts_115 rfl (lv_at hl 2 rfl) ?_
          refine x_get (ref := "NoteHouse") F hP k227 rfl (fun _ h => List.mem_cons_of_mem _ (List.mem_append_left _ (List.mem_append_left _ (List.mem_append_right _ (h))))) 8 (Nat.le_of_ble_eq_true rfl) (List.mem_cons_of_mem _ (List.mem_append_left _ (List.mem_append_left _ (List.mem_append_left _ (List.mem_append_left _ (List.mem_append_left _ (List.mem_append_left _ (List.mem_of_getElem? (i := 2) rfl)))))))) rfl rfl dX10_gatherFacts_116 ?_
          refine lv_bipush (v := 6) hx hb dX10_gatherFacts_119 (by decide) ?_
          refine lv_aload_n hx hb dX10_gatherFacts_121 rfl (lv_at hl 4 rfl) ?_
          refine x_get (ref := "NoteHouse$Paper") F hP k232 rfl (fun _ h => List.mem_cons_of_mem _ (List.mem_append_left _ (List.mem_append_left _ (List.mem_append_left _ (List.mem_append_right _ (h)))))) 1 (Nat.le_of_ble_eq_true rfl) (List.mem_cons_of_mem _ (List.mem_append_left _ (List.mem_append_left _ (List.mem_append_left _ (List.mem_append_left _ (List.mem_append_left _ (List.mem_append_left _ (List.mem_of_getElem? (i := 7) rfl)))))))) rfl rfl dX10_gatherFacts_122 ?_
          refine lv_aload_n hx hb dX10_gatherFacts_125 rfl (lv_at hl 4 rfl) ?_
          refine x_get (ref := "NoteHouse$Paper") F hP k232 rfl (fun _ h => List.mem_cons_of_mem _ (List.mem_append_left _ (List.mem_append_left _ (List.mem_append_left _ (List.mem_append_right _ (h)))))) 5 (Nat.le_of_ble_eq_true rfl) (List.mem_cons_of_mem _ (List.mem_append_left _ (List.mem_append_left _ (List.mem_append_left _ (List.mem_append_left _ (List.mem_append_left _ (List.mem_append_left _ (List.mem_of_getElem? (i := 8) rfl)))))))) rfl rfl dX10_gatherFacts_126 ?_
          refine lv_isub hx hb dX10_gatherFacts_129 ?_
          refine y_iast F hP hD hS k230 (vp_in_iff.mpr ⟨by decide, by decide⟩) dX10_gatherFacts_130 (fun w236 ew237 H locs hP hD hS => ?_)
          have k238 := wd_at.pt ew237 k227 (wd_nk k227 k230 rfl)
          have k239 := wd_at.pt ew237 k228 (wd_nk k228 k230 rfl)
          have k240 := wd_at.pt ew237 k229 (wd_nk k229 k230 rfl)
          have k241 : wd_at w236 a8 (.inl (cy 2, 8, .inl (upd (upd (upd (upd (upd (upd (upd ff (0 : Int32).toNatClampNeg 99) (1 : Int32).toNatClampNeg 0) (2 : Int32).toNatClampNeg 1) (3 : Int32).toNatClampNeg (dd - dy)) (4 : Int32).toNatClampNeg 1) (5 : Int32).toNatClampNeg am) (6 : Int32).toNatClampNeg (wo - no)))) := wd_at.ps ew237 k230
          have k242 := wd_at.pt ew237 k231 (wd_nk k231 k230 rfl)
          have k243 := wd_at.pt ew237 k232 (wd_nk k232 k230 rfl)
          have fm244 : ∀ k9, k9 < ac → af k9 = some (ad k9) ∧ wd_at w236 (ad k9) (.inr (0, [.int (av0 k9), .int (av1 k9), .int (av2 k9), .int (av3 k9)])) ∧ tg (ad k9) = 4000 + k9 := fun k9 hi9 => ⟨(fm233 k9 hi9).1, wd_at.pt ew237 (fm233 k9 hi9).2.1 (wd_nk (fm233 k9 hi9).2.1 k230 rfl), (fm233 k9 hi9).2.2⟩
          have fm245 : ∀ k9, k9 < sc → zf k9 = some (so k9) ∧ wd_at w236 (so k9) (.inr (6, [.int (sp0 k9), .int (sp1 k9), .ref (sr k9)])) ∧ tg (so k9) = 5000 + k9 ∧ wd_at w236 (sr k9) (.inl (cy 2, 12, .inl (sd k9))) ∧ tg (sr k9) = 6000 + k9 := fun k9 hi9 => ⟨(fm234 k9 hi9).1, wd_at.pt ew237 (fm234 k9 hi9).2.1 (wd_nk (fm234 k9 hi9).2.1 k230 rfl), (fm234 k9 hi9).2.2.1, wd_at.pt ew237 (fm234 k9 hi9).2.2.2.1 (wd_nk (fm234 k9 hi9).2.2.2.1 k230 rfl), (fm234 k9 hi9).2.2.2.2⟩
          have kp246 := kp235.put ew237 s90
          refine lv_aload_n hx hb dX10_gatherFacts_131 rfl (lv_at hl 2 rfl) ?_
          refine x_get (ref := "NoteHouse") F hP k238 rfl (fun _ h => List.mem_cons_of_mem _ (List.mem_append_left _ (List.mem_append_left _ (List.mem_append_right _ (h))))) 8 (Nat.le_of_ble_eq_true rfl) (List.mem_cons_of_mem _ (List.mem_append_left _ (List.mem_append_left _ (List.mem_append_left _ (List.mem_append_left _ (List.mem_append_left _ (List.mem_append_left _ (List.mem_of_getElem? (i := 2) rfl)))))))) rfl rfl dX10_gatherFacts_132 ?_
          refine lv_bipush (v := 7) hx hb dX10_gatherFacts_135 (by decide) ?_
          refine lv_aload_n hx hb dX10_gatherFacts_137 rfl (lv_at hl 3 rfl) ?_
          refine x_get (ref := "NoteHouse$Shown") F hP k242 rfl (fun _ h => List.mem_cons_of_mem _ (List.mem_append_left _ (List.mem_append_left _ (List.mem_append_left _ (List.mem_append_left _ (List.mem_append_right _ (h))))))) 5 (Nat.le_of_ble_eq_true rfl) (List.mem_cons_of_mem _ (List.mem_append_left _ (List.mem_append_left _ (List.mem_append_left _ (List.mem_append_left _ (List.mem_append_left _ (List.mem_append_left _ (List.mem_of_getElem? (i := 0) rfl)))))))) rfl rfl dX10_gatherFacts_138 ?_
          refine y_iast F hP hD hS k241 (vp_in_iff.mpr ⟨by decide, by decide⟩) dX10_gatherFacts_141 (fun w247 ew248 H locs hP hD hS => ?_)
          have k249 := wd_at.pt ew248 k238 (wd_nk k238 k241 rfl)
          have k250 := wd_at.pt ew248 k239 (wd_nk k239 k241 rfl)
          have k251 := wd_at.pt ew248 k240 (wd_nk k240 k241 rfl)
          have k252 : wd_at w247 a8 (.inl (cy 2, 8, .inl (upd (upd (upd (upd (upd (upd (upd (upd ff (0 : Int32).toNatClampNeg 99) (1 : Int32).toNatClampNeg 0) (2 : Int32).toNatClampNeg 1) (3 : Int32).toNatClampNeg (dd - dy)) (4 : Int32).toNatClampNeg 1) (5 : Int32).toNatClampNeg am) (6 : Int32).toNatClampNeg (wo - no)) (7 : Int32).toNatClampNeg dd))) := wd_at.ps ew248 k241
          have k253 := wd_at.pt ew248 k242 (wd_nk k242 k241 rfl)
          have k254 := wd_at.pt ew248 k243 (wd_nk k243 k241 rfl)
          have fm255 : ∀ k9, k9 < ac → af k9 = some (ad k9) ∧ wd_at w247 (ad k9) (.inr (0, [.int (av0 k9), .int (av1 k9), .int (av2 k9), .int (av3 k9)])) ∧ tg (ad k9) = 4000 + k9 := fun k9 hi9 => ⟨(fm244 k9 hi9).1, wd_at.pt ew248 (fm244 k9 hi9).2.1 (wd_nk (fm244 k9 hi9).2.1 k241 rfl), (fm244 k9 hi9).2.2⟩
          have fm256 : ∀ k9, k9 < sc → zf k9 = some (so k9) ∧ wd_at w247 (so k9) (.inr (6, [.int (sp0 k9), .int (sp1 k9), .ref (sr k9)])) ∧ tg (so k9) = 5000 + k9 ∧ wd_at w247 (sr k9) (.inl (cy 2, 12, .inl (sd k9))) ∧ tg (sr k9) = 6000 + k9 := fun k9 hi9 => ⟨(fm245 k9 hi9).1, wd_at.pt ew248 (fm245 k9 hi9).2.1 (wd_nk (fm245 k9 hi9).2.1 k241 rfl), (fm245 k9 hi9).2.2.1, wd_at.pt ew248 (fm245 k9 hi9).2.2.2.1 (wd_nk (fm245 k9 hi9).2.2.2.1 k241 rfl), (fm245 k9 hi9).2.2.2.2⟩
          have kp257 := kp246.put ew248 s90
          exact y_vr K hP hD hS (Nat.le_of_ble_eq_true rfl) (Nat.le_of_ble_eq_true rfl) rfl dX10_gatherFacts_142 (⟨upd (upd (upd (upd (upd (upd (upd (upd ff (0 : Int32).toNatClampNeg 99) (1 : Int32).toNatClampNeg 0) (2 : Int32).toNatClampNeg 1) (3 : Int32).toNatClampNeg (dd - dy)) (4 : Int32).toNatClampNeg 1) (5 : Int32).toNatClampNeg am) (6 : Int32).toNatClampNeg (wo - no)) (7 : Int32).toNatClampNeg dd, rfl, kp257, k252⟩)
    · refine lv_iconst (v := 1) hx hb dX10_gatherFacts_52 (by decide) ?_
      refine lv_goto (tgt := 57) hx hb dX10_gatherFacts_53 (by decide) ?_
      refine y_iast F hP hD hS k12 (vp_in_iff.mpr ⟨by decide, by decide⟩) dX10_gatherFacts_57 (fun w258 ew259 H locs hP hD hS => ?_)
      have k260 := wd_at.pt ew259 k9 (wd_nk k9 k12 rfl)
      have k261 := wd_at.pt ew259 k10 (wd_nk k10 k12 rfl)
      have k262 := wd_at.pt ew259 k11 (wd_nk k11 k12 rfl)
      have k263 : wd_at w258 a8 (.inl (cy 2, 8, .inl (upd (upd ff (0 : Int32).toNatClampNeg 99) (1 : Int32).toNatClampNeg 1))) := wd_at.ps ew259 k12
      have k264 := wd_at.pt ew259 k13 (wd_nk k13 k12 rfl)
      have k265 := wd_at.pt ew259 k14 (wd_nk k14 k12 rfl)
      have fm266 : ∀ k9, k9 < ac → af k9 = some (ad k9) ∧ wd_at w258 (ad k9) (.inr (0, [.int (av0 k9), .int (av1 k9), .int (av2 k9), .int (av3 k9)])) ∧ tg (ad k9) = 4000 + k9 := fun k9 hi9 => ⟨(fm15 k9 hi9).1, wd_at.pt ew259 (fm15 k9 hi9).2.1 (wd_nk (fm15 k9 hi9).2.1 k12 rfl), (fm15 k9 hi9).2.2⟩
      have fm267 : ∀ k9, k9 < sc → zf k9 = some (so k9) ∧ wd_at w258 (so k9) (.inr (6, [.int (sp0 k9), .int (sp1 k9), .ref (sr k9)])) ∧ tg (so k9) = 5000 + k9 ∧ wd_at w258 (sr k9) (.inl (cy 2, 12, .inl (sd k9))) ∧ tg (sr k9) = 6000 + k9 := fun k9 hi9 => ⟨(fm16 k9 hi9).1, wd_at.pt ew259 (fm16 k9 hi9).2.1 (wd_nk (fm16 k9 hi9).2.1 k12 rfl), (fm16 k9 hi9).2.2.1, wd_at.pt ew259 (fm16 k9 hi9).2.2.2.1 (wd_nk (fm16 k9 hi9).2.2.2.1 k12 rfl), (fm16 k9 hi9).2.2.2.2⟩
      have kp268 := kp17.put ew259 s90
      refine lv_aload_n hx hb dX10_gatherFacts_58 rfl (lv_at hl 2 rfl) ?_
      refine x_get (ref := "NoteHouse") F hP k260 rfl (fun _ h => List.mem_cons_of_mem _ (List.mem_append_left _ (List.mem_append_left _ (List.mem_append_right _ (h))))) 8 (Nat.le_of_ble_eq_true rfl) (List.mem_cons_of_mem _ (List.mem_append_left _ (List.mem_append_left _ (List.mem_append_left _ (List.mem_append_left _ (List.mem_append_left _ (List.mem_append_left _ (List.mem_of_getElem? (i := 2) rfl)))))))) rfl rfl dX10_gatherFacts_59 ?_
      refine lv_iconst (v := 2) hx hb dX10_gatherFacts_62 (by decide) ?_
      refine lv_aload_n hx hb dX10_gatherFacts_63 rfl (lv_at hl 2 rfl) ?_
      refine lv_aload_n hx hb dX10_gatherFacts_64 rfl (lv_at hl 3 rfl) ?_
      refine x_callV (n := 1) (As := [.ref z]) (rest := [.int 2, .ref a8]) F hP hD hS (g_isStopped l D cy sk sv w258 x a0 a1 a2 a3 a4 a5 a6 a7 a8 a9 a10 a11 pc ac sc sh td tg zf so sr sp0 sp1 sd z tw pp le am hh dd ru de cp ld k260 k262 k264 fm267 (by omega) (by omega)) gX10_gatherFacts_X10_isStopped rfl rfl (by decide +kernel) ⟨(Nat.le_of_ble_eq_true rfl), (Nat.le_of_ble_eq_true rfl)⟩ rfl hl.1 (Nat.le_of_ble_eq_true rfl) k260 rfl dX10_gatherFacts_65 rfl ⟨(Nat.le_of_ble_eq_true rfl), (Nat.le_of_ble_eq_true rfl)⟩ (fun v270 w271 hp269 H locs hP hD hS => ?_)
      obtain ⟨rx272, rfl, hz273, rfl⟩ := hp269
      refine W.eq (g2 := F0 m 68 ls [.int rx272, .int 2, .ref a8]) rfl (W.widen (k := 0) (n := 0) (Nat.le_of_ble_eq_true rfl) (Nat.le_of_ble_eq_true rfl) ?_)
      refine lv_if_eq (tgt := 75) hx hb dX10_gatherFacts_68 (by decide) (fun c_274 => ?_) (fun c_274 => ?_)
      · refine lv_iconst (v := 0) hx hb dX10_gatherFacts_75 (by decide) ?_
        refine y_iast F hP hD hS k263 (vp_in_iff.mpr ⟨by decide, by decide⟩) dX10_gatherFacts_76 (fun w275 ew276 H locs hP hD hS => ?_)
        have k277 := wd_at.pt ew276 k260 (wd_nk k260 k263 rfl)
        have k278 := wd_at.pt ew276 k261 (wd_nk k261 k263 rfl)
        have k279 := wd_at.pt ew276 k262 (wd_nk k262 k263 rfl)
        have k280 : wd_at w275 a8 (.inl (cy 2, 8, .inl (upd (upd (upd ff (0 : Int32).toNatClampNeg 99) (1 : Int32).toNatClampNeg 1) (2 : Int32).toNatClampNeg 0))) := wd_at.ps ew276 k263
        have k281 := wd_at.pt ew276 k264 (wd_nk k264 k263 rfl)
        have k282 := wd_at.pt ew276 k265 (wd_nk k265 k263 rfl)
        have fm283 : ∀ k9, k9 < ac → af k9 = some (ad k9) ∧ wd_at w275 (ad k9) (.inr (0, [.int (av0 k9), .int (av1 k9), .int (av2 k9), .int (av3 k9)])) ∧ tg (ad k9) = 4000 + k9 := fun k9 hi9 => ⟨(fm266 k9 hi9).1, wd_at.pt ew276 (fm266 k9 hi9).2.1 (wd_nk (fm266 k9 hi9).2.1 k263 rfl), (fm266 k9 hi9).2.2⟩
        have fm284 : ∀ k9, k9 < sc → zf k9 = some (so k9) ∧ wd_at w275 (so k9) (.inr (6, [.int (sp0 k9), .int (sp1 k9), .ref (sr k9)])) ∧ tg (so k9) = 5000 + k9 ∧ wd_at w275 (sr k9) (.inl (cy 2, 12, .inl (sd k9))) ∧ tg (sr k9) = 6000 + k9 := fun k9 hi9 => ⟨(fm267 k9 hi9).1, wd_at.pt ew276 (fm267 k9 hi9).2.1 (wd_nk (fm267 k9 hi9).2.1 k263 rfl), (fm267 k9 hi9).2.2.1, wd_at.pt ew276 (fm267 k9 hi9).2.2.2.1 (wd_nk (fm267 k9 hi9).2.2.2.1 k263 rfl), (fm267 k9 hi9).2.2.2.2⟩
        have kp285 := kp268.put ew276 s90
        refine lv_aload_n hx hb dX10_gatherFacts_77 rfl (lv_at hl 2 rfl) ?_
        refine x_get (ref := "NoteHouse") F hP k277 rfl (fun _ h => List.mem_cons_of_mem _ (List.mem_append_left _ (List.mem_append_left _ (List.mem_append_right _ (h))))) 8 (Nat.le_of_ble_eq_true rfl) (List.mem_cons_of_mem _ (List.mem_append_left _ (List.mem_append_left _ (List.mem_append_left _ (List.mem_append_left _ (List.mem_append_left _ (List.mem_append_left _ (List.mem_of_getElem? (i := 2) rfl)))))))) rfl rfl dX10_gatherFacts_78 ?_
        refine lv_iconst (v := 3) hx hb dX10_gatherFacts_81 (by decide) ?_
        refine lv_iload hx hb dX10_gatherFacts_82 (lv_at hl 0 rfl) ?_
        refine y_iast F hP hD hS k280 (vp_in_iff.mpr ⟨by decide, by decide⟩) dX10_gatherFacts_84 (fun w286 ew287 H locs hP hD hS => ?_)
        have k288 := wd_at.pt ew287 k277 (wd_nk k277 k280 rfl)
        have k289 := wd_at.pt ew287 k278 (wd_nk k278 k280 rfl)
        have k290 := wd_at.pt ew287 k279 (wd_nk k279 k280 rfl)
        have k291 : wd_at w286 a8 (.inl (cy 2, 8, .inl (upd (upd (upd (upd ff (0 : Int32).toNatClampNeg 99) (1 : Int32).toNatClampNeg 1) (2 : Int32).toNatClampNeg 0) (3 : Int32).toNatClampNeg (dd - dy)))) := wd_at.ps ew287 k280
        have k292 := wd_at.pt ew287 k281 (wd_nk k281 k280 rfl)
        have k293 := wd_at.pt ew287 k282 (wd_nk k282 k280 rfl)
        have fm294 : ∀ k9, k9 < ac → af k9 = some (ad k9) ∧ wd_at w286 (ad k9) (.inr (0, [.int (av0 k9), .int (av1 k9), .int (av2 k9), .int (av3 k9)])) ∧ tg (ad k9) = 4000 + k9 := fun k9 hi9 => ⟨(fm283 k9 hi9).1, wd_at.pt ew287 (fm283 k9 hi9).2.1 (wd_nk (fm283 k9 hi9).2.1 k280 rfl), (fm283 k9 hi9).2.2⟩
        have fm295 : ∀ k9, k9 < sc → zf k9 = some (so k9) ∧ wd_at w286 (so k9) (.inr (6, [.int (sp0 k9), .int (sp1 k9), .ref (sr k9)])) ∧ tg (so k9) = 5000 + k9 ∧ wd_at w286 (sr k9) (.inl (cy 2, 12, .inl (sd k9))) ∧ tg (sr k9) = 6000 + k9 := fun k9 hi9 => ⟨(fm284 k9 hi9).1, wd_at.pt ew287 (fm284 k9 hi9).2.1 (wd_nk (fm284 k9 hi9).2.1 k280 rfl), (fm284 k9 hi9).2.2.1, wd_at.pt ew287 (fm284 k9 hi9).2.2.2.1 (wd_nk (fm284 k9 hi9).2.2.2.1 k280 rfl), (fm284 k9 hi9).2.2.2.2⟩
        have kp296 := kp285.put ew287 s90
        refine lv_aload_n hx hb dX10_gatherFacts_85 rfl (lv_at hl 2 rfl) ?_
        refine x_get (ref := "NoteHouse") F hP k288 rfl (fun _ h => List.mem_cons_of_mem _ (List.mem_append_left _ (List.mem_append_left _ (List.mem_append_right _ (h))))) 8 (Nat.le_of_ble_eq_true rfl) (List.mem_cons_of_mem _ (List.mem_append_left _ (List.mem_append_left _ (List.mem_append_left _ (List.mem_append_left _ (List.mem_append_left _ (List.mem_append_left _ (List.mem_of_getElem? (i := 2) rfl)))))))) rfl rfl dX10_gatherFacts_86 ?_
        refine lv_iconst (v := 4) hx hb dX10_gatherFacts_89 (by decide) ?_
        refine lv_iload hx hb dX10_gatherFacts_90 (lv_at hl 0 rfl) ?_
        refine lv_aload_n hx hb dX10_gatherFacts_92 rfl (lv_at hl 4 rfl) ?_
        refine x_get (ref := "NoteHouse$Paper") F hP k293 rfl (fun _ h => List.mem_cons_of_mem _ (List.mem_append_left _ (List.mem_append_left _ (List.mem_append_left _ (List.mem_append_right _ (h)))))) 3 (Nat.le_of_ble_eq_true rfl) (List.mem_cons_of_mem _ (List.mem_append_left _ (List.mem_append_left _ (List.mem_append_left _ (List.mem_append_left _ (List.mem_append_left _ (List.mem_append_left _ (List.mem_of_getElem? (i := 5) rfl)))))))) rfl rfl dX10_gatherFacts_93 ?_
        refine lv_icmp_le (tgt := 103) hx hb dX10_gatherFacts_96 (by decide) (fun c_297 => ?_) (fun c_297 => ?_)
        · refine lv_iconst (v := 0) hx hb dX10_gatherFacts_103 (by decide) ?_
          refine y_iast F hP hD hS k291 (vp_in_iff.mpr ⟨by decide, by decide⟩) dX10_gatherFacts_104 (fun w298 ew299 H locs hP hD hS => ?_)
          have k300 := wd_at.pt ew299 k288 (wd_nk k288 k291 rfl)
          have k301 := wd_at.pt ew299 k289 (wd_nk k289 k291 rfl)
          have k302 := wd_at.pt ew299 k290 (wd_nk k290 k291 rfl)
          have k303 : wd_at w298 a8 (.inl (cy 2, 8, .inl (upd (upd (upd (upd (upd ff (0 : Int32).toNatClampNeg 99) (1 : Int32).toNatClampNeg 1) (2 : Int32).toNatClampNeg 0) (3 : Int32).toNatClampNeg (dd - dy)) (4 : Int32).toNatClampNeg 0))) := wd_at.ps ew299 k291
          have k304 := wd_at.pt ew299 k292 (wd_nk k292 k291 rfl)
          have k305 := wd_at.pt ew299 k293 (wd_nk k293 k291 rfl)
          have fm306 : ∀ k9, k9 < ac → af k9 = some (ad k9) ∧ wd_at w298 (ad k9) (.inr (0, [.int (av0 k9), .int (av1 k9), .int (av2 k9), .int (av3 k9)])) ∧ tg (ad k9) = 4000 + k9 := fun k9 hi9 => ⟨(fm294 k9 hi9).1, wd_at.pt ew299 (fm294 k9 hi9).2.1 (wd_nk (fm294 k9 hi9).2.1 k291 rfl), (fm294 k9 hi9).2.2⟩
          have fm307 : ∀ k9, k9 < sc → zf k9 = some (so k9) ∧ wd_at w298 (so k9) (.inr (6, [.int (sp0 k9), .int (sp1 k9), .ref (sr k9)])) ∧ tg (so k9) = 5000 + k9 ∧ wd_at w298 (sr k9) (.inl (cy 2, 12, .inl (sd k9))) ∧ tg (sr k9) = 6000 + k9 := fun k9 hi9 => ⟨(fm295 k9 hi9).1, wd_at.pt ew299 (fm295 k9 hi9).2.1 (wd_nk (fm295 k9 hi9).2.1 k291 rfl), (fm295 k9 hi9).2.2.1, wd_at.pt ew299 (fm295 k9 hi9).2.2.2.1 (wd_nk (fm295 k9 hi9).2.2.2.1 k291 rfl), (fm295 k9 hi9).2.2.2.2⟩
          have kp308 := kp296.put ew299 s90
          refine lv_aload_n hx hb dX10_gatherFacts_105 rfl (lv_at hl 2 rfl) ?_
          refine x_get (ref := "NoteHouse") F hP k300 rfl (fun _ h => List.mem_cons_of_mem _ (List.mem_append_left _ (List.mem_append_left _ (List.mem_append_right _ (h))))) 8 (Nat.le_of_ble_eq_true rfl) (List.mem_cons_of_mem _ (List.mem_append_left _ (List.mem_append_left _ (List.mem_append_left _ (List.mem_append_left _ (List.mem_append_left _ (List.mem_append_left _ (List.mem_of_getElem? (i := 2) rfl)))))))) rfl rfl dX10_gatherFacts_106 ?_
          refine lv_iconst (v := 5) hx hb dX10_gatherFacts_109 (by decide) ?_
          refine lv_aload_n hx hb dX10_gatherFacts_110 rfl (lv_at hl 3 rfl) ?_
          refine x_get (ref := "NoteHouse$Shown") F hP k304 rfl (fun _ h => List.mem_cons_of_mem _ (List.mem_append_left _ (List.mem_append_left _ (List.mem_append_left _ (List.mem_append_left _ (List.mem_append_right _ (h))))))) 3 (Nat.le_of_ble_eq_true rfl) (List.mem_cons_of_mem _ (List.mem_append_left _ (List.mem_append_left _ (List.mem_append_left _ (List.mem_append_left _ (List.mem_append_left _ (List.mem_append_left _ (List.mem_of_getElem? (i := 6) rfl)))))))) rfl rfl dX10_gatherFacts_111 ?_
          refine y_iast F hP hD hS k303 (vp_in_iff.mpr ⟨by decide, by decide⟩) dX10_gatherFacts_114 (fun w309 ew310 H locs hP hD hS => ?_)
          have k311 := wd_at.pt ew310 k300 (wd_nk k300 k303 rfl)
          have k312 := wd_at.pt ew310 k301 (wd_nk k301 k303 rfl)
          have k313 := wd_at.pt ew310 k302 (wd_nk k302 k303 rfl)
          have k314 : wd_at w309 a8 (.inl (cy 2, 8, .inl (upd (upd (upd (upd (upd (upd ff (0 : Int32).toNatClampNeg 99) (1 : Int32).toNatClampNeg 1) (2 : Int32).toNatClampNeg 0) (3 : Int32).toNatClampNeg (dd - dy)) (4 : Int32).toNatClampNeg 0) (5 : Int32).toNatClampNeg am))) := wd_at.ps ew310 k303
          have k315 := wd_at.pt ew310 k304 (wd_nk k304 k303 rfl)
          have k316 := wd_at.pt ew310 k305 (wd_nk k305 k303 rfl)
          have fm317 : ∀ k9, k9 < ac → af k9 = some (ad k9) ∧ wd_at w309 (ad k9) (.inr (0, [.int (av0 k9), .int (av1 k9), .int (av2 k9), .int (av3 k9)])) ∧ tg (ad k9) = 4000 + k9 := fun k9 hi9 => ⟨(fm306 k9 hi9).1, wd_at.pt ew310 (fm306 k9 hi9).2.1 (wd_nk (fm306 k9 hi9).2.1 k303 rfl), (fm306 k9 hi9).2.2⟩
          have fm318 : ∀ k9, k9 < sc → zf k9 = some (so k9) ∧ wd_at w309 (so k9) (.inr (6, [.int (sp0 k9), .int (sp1 k9), .ref (sr k9)])) ∧ tg (so k9) = 5000 + k9 ∧ wd_at w309 (sr k9) (.inl (cy 2, 12, .inl (sd k9))) ∧ tg (sr k9) = 6000 + k9 := fun k9 hi9 => ⟨(fm307 k9 hi9).1, wd_at.pt ew310 (fm307 k9 hi9).2.1 (wd_nk (fm307 k9 hi9).2.1 k303 rfl), (fm307 k9 hi9).2.2.1, wd_at.pt ew310 (fm307 k9 hi9).2.2.2.1 (wd_nk (fm307 k9 hi9).2.2.2.1 k303 rfl), (fm307 k9 hi9).2.2.2.2⟩
          have kp319 := kp308.put ew310 s90
          refine lv_aload_n hx hb dX10_gatherFacts_115 rfl (lv_at hl 2 rfl) ?_
          refine x_get (ref := "NoteHouse") F hP k311 rfl (fun _ h => List.mem_cons_of_mem _ (List.mem_append_left _ (List.mem_append_left _ (List.mem_append_right _ (h))))) 8 (Nat.le_of_ble_eq_true rfl) (List.mem_cons_of_mem _ (List.mem_append_left _ (List.mem_append_left _ (List.mem_append_left _ (List.mem_append_left _ (List.mem_append_left _ (List.mem_append_left _ (List.mem_of_getElem? (i := 2) rfl)))))))) rfl rfl dX10_gatherFacts_116 ?_
          refine lv_bipush (v := 6) hx hb dX10_gatherFacts_119 (by decide) ?_
          refine lv_aload_n hx hb dX10_gatherFacts_121 rfl (lv_at hl 4 rfl) ?_
          refine x_get (ref := "NoteHouse$Paper") F hP k316 rfl (fun _ h => List.mem_cons_of_mem _ (List.mem_append_left _ (List.mem_append_left _ (List.mem_append_left _ (List.mem_append_right _ (h)))))) 1 (Nat.le_of_ble_eq_true rfl) (List.mem_cons_of_mem _ (List.mem_append_left _ (List.mem_append_left _ (List.mem_append_left _ (List.mem_append_left _ (List.mem_append_left _ (List.mem_append_left _ (List.mem_of_getElem? (i := 7) rfl)))))))) rfl rfl dX10_gatherFacts_122 ?_
          refine lv_aload_n hx hb dX10_gatherFacts_125 rfl (lv_at hl 4 rfl) ?_
          refine x_get (ref := "NoteHouse$Paper") F hP k316 rfl (fun _ h => List.mem_cons_of_mem _ (List.mem_append_left _ (List.mem_append_left _ (List.mem_append_left _ (List.mem_append_right _ (h)))))) 5 (Nat.le_of_ble_eq_true rfl) (List.mem_cons_of_mem _ (List.mem_append_left _ (List.mem_append_left _ (List.mem_append_left _ (List.mem_append_left _ (List.mem_append_left _ (List.mem_append_left _ (List.mem_of_getElem? (i := 8) rfl)))))))) rfl rfl dX10_gatherFacts_126 ?_
          refine lv_isub hx hb dX10_gatherFacts_129 ?_
          refine y_iast F hP hD hS k314 (vp_in_iff.mpr ⟨by decide, by decide⟩) dX10_gatherFacts_130 (fun w320 ew321 H locs hP hD hS => ?_)
          have k322 := wd_at.pt ew321 k311 (wd_nk k311 k314 rfl)
          have k323 := wd_at.pt ew321 k312 (wd_nk k312 k314 rfl)
          have k324 := wd_at.pt ew321 k313 (wd_nk k313 k314 rfl)
          have k325 : wd_at w320 a8 (.inl (cy 2, 8, .inl (upd (upd (upd (upd (upd (upd (upd ff (0 : Int32).toNatClampNeg 99) (1 : Int32).toNatClampNeg 1) (2 : Int32).toNatClampNeg 0) (3 : Int32).toNatClampNeg (dd - dy)) (4 : Int32).toNatClampNeg 0) (5 : Int32).toNatClampNeg am) (6 : Int32).toNatClampNeg (wo - no)))) := wd_at.ps ew321 k314
          have k326 := wd_at.pt ew321 k315 (wd_nk k315 k314 rfl)
          have k327 := wd_at.pt ew321 k316 (wd_nk k316 k314 rfl)
          have fm328 : ∀ k9, k9 < ac → af k9 = some (ad k9) ∧ wd_at w320 (ad k9) (.inr (0, [.int (av0 k9), .int (av1 k9), .int (av2 k9), .int (av3 k9)])) ∧ tg (ad k9) = 4000 + k9 := fun k9 hi9 => ⟨(fm317 k9 hi9).1, wd_at.pt ew321 (fm317 k9 hi9).2.1 (wd_nk (fm317 k9 hi9).2.1 k314 rfl), (fm317 k9 hi9).2.2⟩
          have fm329 : ∀ k9, k9 < sc → zf k9 = some (so k9) ∧ wd_at w320 (so k9) (.inr (6, [.int (sp0 k9), .int (sp1 k9), .ref (sr k9)])) ∧ tg (so k9) = 5000 + k9 ∧ wd_at w320 (sr k9) (.inl (cy 2, 12, .inl (sd k9))) ∧ tg (sr k9) = 6000 + k9 := fun k9 hi9 => ⟨(fm318 k9 hi9).1, wd_at.pt ew321 (fm318 k9 hi9).2.1 (wd_nk (fm318 k9 hi9).2.1 k314 rfl), (fm318 k9 hi9).2.2.1, wd_at.pt ew321 (fm318 k9 hi9).2.2.2.1 (wd_nk (fm318 k9 hi9).2.2.2.1 k314 rfl), (fm318 k9 hi9).2.2.2.2⟩
          have kp330 := kp319.put ew321 s90
          refine lv_aload_n hx hb dX10_gatherFacts_131 rfl (lv_at hl 2 rfl) ?_
          refine x_get (ref := "NoteHouse") F hP k322 rfl (fun _ h => List.mem_cons_of_mem _ (List.mem_append_left _ (List.mem_append_left _ (List.mem_append_right _ (h))))) 8 (Nat.le_of_ble_eq_true rfl) (List.mem_cons_of_mem _ (List.mem_append_left _ (List.mem_append_left _ (List.mem_append_left _ (List.mem_append_left _ (List.mem_append_left _ (List.mem_append_left _ (List.mem_of_getElem? (i := 2) rfl)))))))) rfl rfl dX10_gatherFacts_132 ?_
          refine lv_bipush (v := 7) hx hb dX10_gatherFacts_135 (by decide) ?_
          refine lv_aload_n hx hb dX10_gatherFacts_137 rfl (lv_at hl 3 rfl) ?_
          refine x_get (ref := "NoteHouse$Shown") F hP k326 rfl (fun _ h => List.mem_cons_of_mem _ (List.mem_append_left _ (List.mem_append_left _ (List.mem_append_left _ (List.mem_append_left _ (List.mem_append_right _ (h))))))) 5 (Nat.le_of_ble_eq_true rfl) (List.mem_cons_of_mem _ (List.mem_append_left _ (List.mem_append_left _ (List.mem_append_left _ (List.mem_append_left _ (List.mem_append_left _ (List.mem_append_left _ (List.mem_of_getElem? (i := 0) rfl)))))))) rfl rfl dX10_gatherFacts_138 ?_
          refine y_iast F hP hD hS k325 (vp_in_iff.mpr ⟨by decide, by decide⟩) dX10_gatherFacts_141 (fun w331 ew332 H locs hP hD hS => ?_)
          have k333 := wd_at.pt ew332 k322 (wd_nk k322 k325 rfl)
          have k334 := wd_at.pt ew332 k323 (wd_nk k323 k325 rfl)
          have k335 := wd_at.pt ew332 k324 (wd_nk k324 k325 rfl)
          have k336 : wd_at w331 a8 (.inl (cy 2, 8, .inl (upd (upd (upd (upd (upd (upd (upd (upd ff (0 : Int32).toNatClampNeg 99) (1 : Int32).toNatClampNeg 1) (2 : Int32).toNatClampNeg 0) (3 : Int32).toNatClampNeg (dd - dy)) (4 : Int32).toNatClampNeg 0) (5 : Int32).toNatClampNeg am) (6 : Int32).toNatClampNeg (wo - no)) (7 : Int32).toNatClampNeg dd))) := wd_at.ps ew332 k325
          have k337 := wd_at.pt ew332 k326 (wd_nk k326 k325 rfl)
          have k338 := wd_at.pt ew332 k327 (wd_nk k327 k325 rfl)
          have fm339 : ∀ k9, k9 < ac → af k9 = some (ad k9) ∧ wd_at w331 (ad k9) (.inr (0, [.int (av0 k9), .int (av1 k9), .int (av2 k9), .int (av3 k9)])) ∧ tg (ad k9) = 4000 + k9 := fun k9 hi9 => ⟨(fm328 k9 hi9).1, wd_at.pt ew332 (fm328 k9 hi9).2.1 (wd_nk (fm328 k9 hi9).2.1 k325 rfl), (fm328 k9 hi9).2.2⟩
          have fm340 : ∀ k9, k9 < sc → zf k9 = some (so k9) ∧ wd_at w331 (so k9) (.inr (6, [.int (sp0 k9), .int (sp1 k9), .ref (sr k9)])) ∧ tg (so k9) = 5000 + k9 ∧ wd_at w331 (sr k9) (.inl (cy 2, 12, .inl (sd k9))) ∧ tg (sr k9) = 6000 + k9 := fun k9 hi9 => ⟨(fm329 k9 hi9).1, wd_at.pt ew332 (fm329 k9 hi9).2.1 (wd_nk (fm329 k9 hi9).2.1 k325 rfl), (fm329 k9 hi9).2.2.1, wd_at.pt ew332 (fm329 k9 hi9).2.2.2.1 (wd_nk (fm329 k9 hi9).2.2.2.1 k325 rfl), (fm329 k9 hi9).2.2.2.2⟩
          have kp341 := kp330.put ew332 s90
          exact y_vr K hP hD hS (Nat.le_of_ble_eq_true rfl) (Nat.le_of_ble_eq_true rfl) rfl dX10_gatherFacts_142 (⟨upd (upd (upd (upd (upd (upd (upd (upd ff (0 : Int32).toNatClampNeg 99) (1 : Int32).toNatClampNeg 1) (2 : Int32).toNatClampNeg 0) (3 : Int32).toNatClampNeg (dd - dy)) (4 : Int32).toNatClampNeg 0) (5 : Int32).toNatClampNeg am) (6 : Int32).toNatClampNeg (wo - no)) (7 : Int32).toNatClampNeg dd, rfl, kp341, k336⟩)
        · refine lv_iconst (v := 1) hx hb dX10_gatherFacts_99 (by decide) ?_
          refine lv_goto (tgt := 104) hx hb dX10_gatherFacts_100 (by decide) ?_
          refine y_iast F hP hD hS k291 (vp_in_iff.mpr ⟨by decide, by decide⟩) dX10_gatherFacts_104 (fun w342 ew343 H locs hP hD hS => ?_)
          have k344 := wd_at.pt ew343 k288 (wd_nk k288 k291 rfl)
          have k345 := wd_at.pt ew343 k289 (wd_nk k289 k291 rfl)
          have k346 := wd_at.pt ew343 k290 (wd_nk k290 k291 rfl)
          have k347 : wd_at w342 a8 (.inl (cy 2, 8, .inl (upd (upd (upd (upd (upd ff (0 : Int32).toNatClampNeg 99) (1 : Int32).toNatClampNeg 1) (2 : Int32).toNatClampNeg 0) (3 : Int32).toNatClampNeg (dd - dy)) (4 : Int32).toNatClampNeg 1))) := wd_at.ps ew343 k291
          have k348 := wd_at.pt ew343 k292 (wd_nk k292 k291 rfl)
          have k349 := wd_at.pt ew343 k293 (wd_nk k293 k291 rfl)
          have fm350 : ∀ k9, k9 < ac → af k9 = some (ad k9) ∧ wd_at w342 (ad k9) (.inr (0, [.int (av0 k9), .int (av1 k9), .int (av2 k9), .int (av3 k9)])) ∧ tg (ad k9) = 4000 + k9 := fun k9 hi9 => ⟨(fm294 k9 hi9).1, wd_at.pt ew343 (fm294 k9 hi9).2.1 (wd_nk (fm294 k9 hi9).2.1 k291 rfl), (fm294 k9 hi9).2.2⟩
          have fm351 : ∀ k9, k9 < sc → zf k9 = some (so k9) ∧ wd_at w342 (so k9) (.inr (6, [.int (sp0 k9), .int (sp1 k9), .ref (sr k9)])) ∧ tg (so k9) = 5000 + k9 ∧ wd_at w342 (sr k9) (.inl (cy 2, 12, .inl (sd k9))) ∧ tg (sr k9) = 6000 + k9 := fun k9 hi9 => ⟨(fm295 k9 hi9).1, wd_at.pt ew343 (fm295 k9 hi9).2.1 (wd_nk (fm295 k9 hi9).2.1 k291 rfl), (fm295 k9 hi9).2.2.1, wd_at.pt ew343 (fm295 k9 hi9).2.2.2.1 (wd_nk (fm295 k9 hi9).2.2.2.1 k291 rfl), (fm295 k9 hi9).2.2.2.2⟩
          have kp352 := kp296.put ew343 s90
          refine lv_aload_n hx hb dX10_gatherFacts_105 rfl (lv_at hl 2 rfl) ?_
          refine x_get (ref := "NoteHouse") F hP k344 rfl (fun _ h => List.mem_cons_of_mem _ (List.mem_append_left _ (List.mem_append_left _ (List.mem_append_right _ (h))))) 8 (Nat.le_of_ble_eq_true rfl) (List.mem_cons_of_mem _ (List.mem_append_left _ (List.mem_append_left _ (List.mem_append_left _ (List.mem_append_left _ (List.mem_append_left _ (List.mem_append_left _ (List.mem_of_getElem? (i := 2) rfl)))))))) rfl rfl dX10_gatherFacts_106 ?_
          refine lv_iconst (v := 5) hx hb dX10_gatherFacts_109 (by decide) ?_
          refine lv_aload_n hx hb dX10_gatherFacts_110 rfl (lv_at hl 3 rfl) ?_
          refine x_get (ref := "NoteHouse$Shown") F hP k348 rfl (fun _ h => List.mem_cons_of_mem _ (List.mem_append_left _ (List.mem_append_left _ (List.mem_append_left _ (List.mem_append_left _ (List.mem_append_right _ (h))))))) 3 (Nat.le_of_ble_eq_true rfl) (List.mem_cons_of_mem _ (List.mem_append_left _ (List.mem_append_left _ (List.mem_append_left _ (List.mem_append_left _ (List.mem_append_left _ (List.mem_append_left _ (List.mem_of_getElem? (i := 6) rfl)))))))) rfl rfl dX10_gatherFacts_111 ?_
          refine y_iast F hP hD hS k347 (vp_in_iff.mpr ⟨by decide, by decide⟩) dX10_gatherFacts_114 (fun w353 ew354 H locs hP hD hS => ?_)
          have k355 := wd_at.pt ew354 k344 (wd_nk k344 k347 rfl)
          have k356 := wd_at.pt ew354 k345 (wd_nk k345 k347 rfl)
          have k357 := wd_at.pt ew354 k346 (wd_nk k346 k347 rfl)
          have k358 : wd_at w353 a8 (.inl (cy 2, 8, .inl (upd (upd (upd (upd (upd (upd ff (0 : Int32).toNatClampNeg 99) (1 : Int32).toNatClampNeg 1) (2 : Int32).toNatClampNeg 0) (3 : Int32).toNatClampNeg (dd - dy)) (4 : Int32).toNatClampNeg 1) (5 : Int32).toNatClampNeg am))) := wd_at.ps ew354 k347
          have k359 := wd_at.pt ew354 k348 (wd_nk k348 k347 rfl)
          have k360 := wd_at.pt ew354 k349 (wd_nk k349 k347 rfl)
          have fm361 : ∀ k9, k9 < ac → af k9 = some (ad k9) ∧ wd_at w353 (ad k9) (.inr (0, [.int (av0 k9), .int (av1 k9), .int (av2 k9), .int (av3 k9)])) ∧ tg (ad k9) = 4000 + k9 := fun k9 hi9 => ⟨(fm350 k9 hi9).1, wd_at.pt ew354 (fm350 k9 hi9).2.1 (wd_nk (fm350 k9 hi9).2.1 k347 rfl), (fm350 k9 hi9).2.2⟩
          have fm362 : ∀ k9, k9 < sc → zf k9 = some (so k9) ∧ wd_at w353 (so k9) (.inr (6, [.int (sp0 k9), .int (sp1 k9), .ref (sr k9)])) ∧ tg (so k9) = 5000 + k9 ∧ wd_at w353 (sr k9) (.inl (cy 2, 12, .inl (sd k9))) ∧ tg (sr k9) = 6000 + k9 := fun k9 hi9 => ⟨(fm351 k9 hi9).1, wd_at.pt ew354 (fm351 k9 hi9).2.1 (wd_nk (fm351 k9 hi9).2.1 k347 rfl), (fm351 k9 hi9).2.2.1, wd_at.pt ew354 (fm351 k9 hi9).2.2.2.1 (wd_nk (fm351 k9 hi9).2.2.2.1 k347 rfl), (fm351 k9 hi9).2.2.2.2⟩
          have kp363 := kp352.put ew354 s90
          refine lv_aload_n hx hb dX10_gatherFacts_115 rfl (lv_at hl 2 rfl) ?_
          refine x_get (ref := "NoteHouse") F hP k355 rfl (fun _ h => List.mem_cons_of_mem _ (List.mem_append_left _ (List.mem_append_left _ (List.mem_append_right _ (h))))) 8 (Nat.le_of_ble_eq_true rfl) (List.mem_cons_of_mem _ (List.mem_append_left _ (List.mem_append_left _ (List.mem_append_left _ (List.mem_append_left _ (List.mem_append_left _ (List.mem_append_left _ (List.mem_of_getElem? (i := 2) rfl)))))))) rfl rfl dX10_gatherFacts_116 ?_
          refine lv_bipush (v := 6) hx hb dX10_gatherFacts_119 (by decide) ?_
          refine lv_aload_n hx hb dX10_gatherFacts_121 rfl (lv_at hl 4 rfl) ?_
          refine x_get (ref := "NoteHouse$Paper") F hP k360 rfl (fun _ h => List.mem_cons_of_mem _ (List.mem_append_left _ (List.mem_append_left _ (List.mem_append_left _ (List.mem_append_right _ (h)))))) 1 (Nat.le_of_ble_eq_true rfl) (List.mem_cons_of_mem _ (List.mem_append_left _ (List.mem_append_left _ (List.mem_append_left _ (List.mem_append_left _ (List.mem_append_left _ (List.mem_append_left _ (List.mem_of_getElem? (i := 7) rfl)))))))) rfl rfl dX10_gatherFacts_122 ?_
          refine lv_aload_n hx hb dX10_gatherFacts_125 rfl (lv_at hl 4 rfl) ?_
          refine x_get (ref := "NoteHouse$Paper") F hP k360 rfl (fun _ h => List.mem_cons_of_mem _ (List.mem_append_left _ (List.mem_append_left _ (List.mem_append_left _ (List.mem_append_right _ (h)))))) 5 (Nat.le_of_ble_eq_true rfl) (List.mem_cons_of_mem _ (List.mem_append_left _ (List.mem_append_left _ (List.mem_append_left _ (List.mem_append_left _ (List.mem_append_left _ (List.mem_append_left _ (List.mem_of_getElem? (i := 8) rfl)))))))) rfl rfl dX10_gatherFacts_126 ?_
          refine lv_isub hx hb dX10_gatherFacts_129 ?_
          refine y_iast F hP hD hS k358 (vp_in_iff.mpr ⟨by decide, by decide⟩) dX10_gatherFacts_130 (fun w364 ew365 H locs hP hD hS => ?_)
          have k366 := wd_at.pt ew365 k355 (wd_nk k355 k358 rfl)
          have k367 := wd_at.pt ew365 k356 (wd_nk k356 k358 rfl)
          have k368 := wd_at.pt ew365 k357 (wd_nk k357 k358 rfl)
          have k369 : wd_at w364 a8 (.inl (cy 2, 8, .inl (upd (upd (upd (upd (upd (upd (upd ff (0 : Int32).toNatClampNeg 99) (1 : Int32).toNatClampNeg 1) (2 : Int32).toNatClampNeg 0) (3 : Int32).toNatClampNeg (dd - dy)) (4 : Int32).toNatClampNeg 1) (5 : Int32).toNatClampNeg am) (6 : Int32).toNatClampNeg (wo - no)))) := wd_at.ps ew365 k358
          have k370 := wd_at.pt ew365 k359 (wd_nk k359 k358 rfl)
          have k371 := wd_at.pt ew365 k360 (wd_nk k360 k358 rfl)
          have fm372 : ∀ k9, k9 < ac → af k9 = some (ad k9) ∧ wd_at w364 (ad k9) (.inr (0, [.int (av0 k9), .int (av1 k9), .int (av2 k9), .int (av3 k9)])) ∧ tg (ad k9) = 4000 + k9 := fun k9 hi9 => ⟨(fm361 k9 hi9).1, wd_at.pt ew365 (fm361 k9 hi9).2.1 (wd_nk (fm361 k9 hi9).2.1 k358 rfl), (fm361 k9 hi9).2.2⟩
          have fm373 : ∀ k9, k9 < sc → zf k9 = some (so k9) ∧ wd_at w364 (so k9) (.inr (6, [.int (sp0 k9), .int (sp1 k9), .ref (sr k9)])) ∧ tg (so k9) = 5000 + k9 ∧ wd_at w364 (sr k9) (.inl (cy 2, 12, .inl (sd k9))) ∧ tg (sr k9) = 6000 + k9 := fun k9 hi9 => ⟨(fm362 k9 hi9).1, wd_at.pt ew365 (fm362 k9 hi9).2.1 (wd_nk (fm362 k9 hi9).2.1 k358 rfl), (fm362 k9 hi9).2.2.1, wd_at.pt ew365 (fm362 k9 hi9).2.2.2.1 (wd_nk (fm362 k9 hi9).2.2.2.1 k358 rfl), (fm362 k9 hi9).2.2.2.2⟩
          have kp374 := kp363.put ew365 s90
          refine lv_aload_n hx hb dX10_gatherFacts_131 rfl (lv_at hl 2 rfl) ?_
          refine x_get (ref := "NoteHouse") F hP k366 rfl (fun _ h => List.mem_cons_of_mem _ (List.mem_append_left _ (List.mem_append_left _ (List.mem_append_right _ (h))))) 8 (Nat.le_of_ble_eq_true rfl) (List.mem_cons_of_mem _ (List.mem_append_left _ (List.mem_append_left _ (List.mem_append_left _ (List.mem_append_left _ (List.mem_append_left _ (List.mem_append_left _ (List.mem_of_getElem? (i := 2) rfl)))))))) rfl rfl dX10_gatherFacts_132 ?_
          refine lv_bipush (v := 7) hx hb dX10_gatherFacts_135 (by decide) ?_
          refine lv_aload_n hx hb dX10_gatherFacts_137 rfl (lv_at hl 3 rfl) ?_
          refine x_get (ref := "NoteHouse$Shown") F hP k370 rfl (fun _ h => List.mem_cons_of_mem _ (List.mem_append_left _ (List.mem_append_left _ (List.mem_append_left _ (List.mem_append_left _ (List.mem_append_right _ (h))))))) 5 (Nat.le_of_ble_eq_true rfl) (List.mem_cons_of_mem _ (List.mem_append_left _ (List.mem_append_left _ (List.mem_append_left _ (List.mem_append_left _ (List.mem_append_left _ (List.mem_append_left _ (List.mem_of_getElem? (i := 0) rfl)))))))) rfl rfl dX10_gatherFacts_138 ?_
          refine y_iast F hP hD hS k369 (vp_in_iff.mpr ⟨by decide, by decide⟩) dX10_gatherFacts_141 (fun w375 ew376 H locs hP hD hS => ?_)
          have k377 := wd_at.pt ew376 k366 (wd_nk k366 k369 rfl)
          have k378 := wd_at.pt ew376 k367 (wd_nk k367 k369 rfl)
          have k379 := wd_at.pt ew376 k368 (wd_nk k368 k369 rfl)
          have k380 : wd_at w375 a8 (.inl (cy 2, 8, .inl (upd (upd (upd (upd (upd (upd (upd (upd ff (0 : Int32).toNatClampNeg 99) (1 : Int32).toNatClampNeg 1) (2 : Int32).toNatClampNeg 0) (3 : Int32).toNatClampNeg (dd - dy)) (4 : Int32).toNatClampNeg 1) (5 : Int32).toNatClampNeg am) (6 : Int32).toNatClampNeg (wo - no)) (7 : Int32).toNatClampNeg dd))) := wd_at.ps ew376 k369
          have k381 := wd_at.pt ew376 k370 (wd_nk k370 k369 rfl)
          have k382 := wd_at.pt ew376 k371 (wd_nk k371 k369 rfl)
          have fm383 : ∀ k9, k9 < ac → af k9 = some (ad k9) ∧ wd_at w375 (ad k9) (.inr (0, [.int (av0 k9), .int (av1 k9), .int (av2 k9), .int (av3 k9)])) ∧ tg (ad k9) = 4000 + k9 := fun k9 hi9 => ⟨(fm372 k9 hi9).1, wd_at.pt ew376 (fm372 k9 hi9).2.1 (wd_nk (fm372 k9 hi9).2.1 k369 rfl), (fm372 k9 hi9).2.2⟩
          have fm384 : ∀ k9, k9 < sc → zf k9 = some (so k9) ∧ wd_at w375 (so k9) (.inr (6, [.int (sp0 k9), .int (sp1 k9), .ref (sr k9)])) ∧ tg (so k9) = 5000 + k9 ∧ wd_at w375 (sr k9) (.inl (cy 2, 12, .inl (sd k9))) ∧ tg (sr k9) = 6000 + k9 := fun k9 hi9 => ⟨(fm373 k9 hi9).1, wd_at.pt ew376 (fm373 k9 hi9).2.1 (wd_nk (fm373 k9 hi9).2.1 k369 rfl), (fm373 k9 hi9).2.2.1, wd_at.pt ew376 (fm373 k9 hi9).2.2.2.1 (wd_nk (fm373 k9 hi9).2.2.2.1 k369 rfl), (fm373 k9 hi9).2.2.2.2⟩
          have kp385 := kp374.put ew376 s90
          exact y_vr K hP hD hS (Nat.le_of_ble_eq_true rfl) (Nat.le_of_ble_eq_true rfl) rfl dX10_gatherFacts_142 (⟨upd (upd (upd (upd (upd (upd (upd (upd ff (0 : Int32).toNatClampNeg 99) (1 : Int32).toNatClampNeg 1) (2 : Int32).toNatClampNeg 0) (3 : Int32).toNatClampNeg (dd - dy)) (4 : Int32).toNatClampNeg 1) (5 : Int32).toNatClampNeg am) (6 : Int32).toNatClampNeg (wo - no)) (7 : Int32).toNatClampNeg dd, rfl, kp385, k380⟩)
      · refine lv_iconst (v := 1) hx hb dX10_gatherFacts_71 (by decide) ?_
        refine lv_goto (tgt := 76) hx hb dX10_gatherFacts_72 (by decide) ?_
        refine y_iast F hP hD hS k263 (vp_in_iff.mpr ⟨by decide, by decide⟩) dX10_gatherFacts_76 (fun w386 ew387 H locs hP hD hS => ?_)
        have k388 := wd_at.pt ew387 k260 (wd_nk k260 k263 rfl)
        have k389 := wd_at.pt ew387 k261 (wd_nk k261 k263 rfl)
        have k390 := wd_at.pt ew387 k262 (wd_nk k262 k263 rfl)
        have k391 : wd_at w386 a8 (.inl (cy 2, 8, .inl (upd (upd (upd ff (0 : Int32).toNatClampNeg 99) (1 : Int32).toNatClampNeg 1) (2 : Int32).toNatClampNeg 1))) := wd_at.ps ew387 k263
        have k392 := wd_at.pt ew387 k264 (wd_nk k264 k263 rfl)
        have k393 := wd_at.pt ew387 k265 (wd_nk k265 k263 rfl)
        have fm394 : ∀ k9, k9 < ac → af k9 = some (ad k9) ∧ wd_at w386 (ad k9) (.inr (0, [.int (av0 k9), .int (av1 k9), .int (av2 k9), .int (av3 k9)])) ∧ tg (ad k9) = 4000 + k9 := fun k9 hi9 => ⟨(fm266 k9 hi9).1, wd_at.pt ew387 (fm266 k9 hi9).2.1 (wd_nk (fm266 k9 hi9).2.1 k263 rfl), (fm266 k9 hi9).2.2⟩
        have fm395 : ∀ k9, k9 < sc → zf k9 = some (so k9) ∧ wd_at w386 (so k9) (.inr (6, [.int (sp0 k9), .int (sp1 k9), .ref (sr k9)])) ∧ tg (so k9) = 5000 + k9 ∧ wd_at w386 (sr k9) (.inl (cy 2, 12, .inl (sd k9))) ∧ tg (sr k9) = 6000 + k9 := fun k9 hi9 => ⟨(fm267 k9 hi9).1, wd_at.pt ew387 (fm267 k9 hi9).2.1 (wd_nk (fm267 k9 hi9).2.1 k263 rfl), (fm267 k9 hi9).2.2.1, wd_at.pt ew387 (fm267 k9 hi9).2.2.2.1 (wd_nk (fm267 k9 hi9).2.2.2.1 k263 rfl), (fm267 k9 hi9).2.2.2.2⟩
        have kp396 := kp268.put ew387 s90
        refine lv_aload_n hx hb dX10_gatherFacts_77 rfl (lv_at hl 2 rfl) ?_
        refine x_get (ref := "NoteHouse") F hP k388 rfl (fun _ h => List.mem_cons_of_mem _ (List.mem_append_left _ (List.mem_append_left _ (List.mem_append_right _ (h))))) 8 (Nat.le_of_ble_eq_true rfl) (List.mem_cons_of_mem _ (List.mem_append_left _ (List.mem_append_left _ (List.mem_append_left _ (List.mem_append_left _ (List.mem_append_left _ (List.mem_append_left _ (List.mem_of_getElem? (i := 2) rfl)))))))) rfl rfl dX10_gatherFacts_78 ?_
        refine lv_iconst (v := 3) hx hb dX10_gatherFacts_81 (by decide) ?_
        refine lv_iload hx hb dX10_gatherFacts_82 (lv_at hl 0 rfl) ?_
        refine y_iast F hP hD hS k391 (vp_in_iff.mpr ⟨by decide, by decide⟩) dX10_gatherFacts_84 (fun w397 ew398 H locs hP hD hS => ?_)
        have k399 := wd_at.pt ew398 k388 (wd_nk k388 k391 rfl)
        have k400 := wd_at.pt ew398 k389 (wd_nk k389 k391 rfl)
        have k401 := wd_at.pt ew398 k390 (wd_nk k390 k391 rfl)
        have k402 : wd_at w397 a8 (.inl (cy 2, 8, .inl (upd (upd (upd (upd ff (0 : Int32).toNatClampNeg 99) (1 : Int32).toNatClampNeg 1) (2 : Int32).toNatClampNeg 1) (3 : Int32).toNatClampNeg (dd - dy)))) := wd_at.ps ew398 k391
        have k403 := wd_at.pt ew398 k392 (wd_nk k392 k391 rfl)
        have k404 := wd_at.pt ew398 k393 (wd_nk k393 k391 rfl)
        have fm405 : ∀ k9, k9 < ac → af k9 = some (ad k9) ∧ wd_at w397 (ad k9) (.inr (0, [.int (av0 k9), .int (av1 k9), .int (av2 k9), .int (av3 k9)])) ∧ tg (ad k9) = 4000 + k9 := fun k9 hi9 => ⟨(fm394 k9 hi9).1, wd_at.pt ew398 (fm394 k9 hi9).2.1 (wd_nk (fm394 k9 hi9).2.1 k391 rfl), (fm394 k9 hi9).2.2⟩
        have fm406 : ∀ k9, k9 < sc → zf k9 = some (so k9) ∧ wd_at w397 (so k9) (.inr (6, [.int (sp0 k9), .int (sp1 k9), .ref (sr k9)])) ∧ tg (so k9) = 5000 + k9 ∧ wd_at w397 (sr k9) (.inl (cy 2, 12, .inl (sd k9))) ∧ tg (sr k9) = 6000 + k9 := fun k9 hi9 => ⟨(fm395 k9 hi9).1, wd_at.pt ew398 (fm395 k9 hi9).2.1 (wd_nk (fm395 k9 hi9).2.1 k391 rfl), (fm395 k9 hi9).2.2.1, wd_at.pt ew398 (fm395 k9 hi9).2.2.2.1 (wd_nk (fm395 k9 hi9).2.2.2.1 k391 rfl), (fm395 k9 hi9).2.2.2.2⟩
        have kp407 := kp396.put ew398 s90
        refine lv_aload_n hx hb dX10_gatherFacts_85 rfl (lv_at hl 2 rfl) ?_
        refine x_get (ref := "NoteHouse") F hP k399 rfl (fun _ h => List.mem_cons_of_mem _ (List.mem_append_left _ (List.mem_append_left _ (List.mem_append_right _ (h))))) 8 (Nat.le_of_ble_eq_true rfl) (List.mem_cons_of_mem _ (List.mem_append_left _ (List.mem_append_left _ (List.mem_append_left _ (List.mem_append_left _ (List.mem_append_left _ (List.mem_append_left _ (List.mem_of_getElem? (i := 2) rfl)))))))) rfl rfl dX10_gatherFacts_86 ?_
        refine lv_iconst (v := 4) hx hb dX10_gatherFacts_89 (by decide) ?_
        refine lv_iload hx hb dX10_gatherFacts_90 (lv_at hl 0 rfl) ?_
        refine lv_aload_n hx hb dX10_gatherFacts_92 rfl (lv_at hl 4 rfl) ?_
        refine x_get (ref := "NoteHouse$Paper") F hP k404 rfl (fun _ h => List.mem_cons_of_mem _ (List.mem_append_left _ (List.mem_append_left _ (List.mem_append_left _ (List.mem_append_right _ (h)))))) 3 (Nat.le_of_ble_eq_true rfl) (List.mem_cons_of_mem _ (List.mem_append_left _ (List.mem_append_left _ (List.mem_append_left _ (List.mem_append_left _ (List.mem_append_left _ (List.mem_append_left _ (List.mem_of_getElem? (i := 5) rfl)))))))) rfl rfl dX10_gatherFacts_93 ?_
        refine lv_icmp_le (tgt := 103) hx hb dX10_gatherFacts_96 (by decide) (fun c_408 => ?_) (fun c_408 => ?_)
        · refine lv_iconst (v := 0) hx hb dX10_gatherFacts_103 (by decide) ?_
          refine y_iast F hP hD hS k402 (vp_in_iff.mpr ⟨by decide, by decide⟩) dX10_gatherFacts_104 (fun w409 ew410 H locs hP hD hS => ?_)
          have k411 := wd_at.pt ew410 k399 (wd_nk k399 k402 rfl)
          have k412 := wd_at.pt ew410 k400 (wd_nk k400 k402 rfl)
          have k413 := wd_at.pt ew410 k401 (wd_nk k401 k402 rfl)
          have k414 : wd_at w409 a8 (.inl (cy 2, 8, .inl (upd (upd (upd (upd (upd ff (0 : Int32).toNatClampNeg 99) (1 : Int32).toNatClampNeg 1) (2 : Int32).toNatClampNeg 1) (3 : Int32).toNatClampNeg (dd - dy)) (4 : Int32).toNatClampNeg 0))) := wd_at.ps ew410 k402
          have k415 := wd_at.pt ew410 k403 (wd_nk k403 k402 rfl)
          have k416 := wd_at.pt ew410 k404 (wd_nk k404 k402 rfl)
          have fm417 : ∀ k9, k9 < ac → af k9 = some (ad k9) ∧ wd_at w409 (ad k9) (.inr (0, [.int (av0 k9), .int (av1 k9), .int (av2 k9), .int (av3 k9)])) ∧ tg (ad k9) = 4000 + k9 := fun k9 hi9 => ⟨(fm405 k9 hi9).1, wd_at.pt ew410 (fm405 k9 hi9).2.1 (wd_nk (fm405 k9 hi9).2.1 k402 rfl), (fm405 k9 hi9).2.2⟩
          have fm418 : ∀ k9, k9 < sc → zf k9 = some (so k9) ∧ wd_at w409 (so k9) (.inr (6, [.int (sp0 k9), .int (sp1 k9), .ref (sr k9)])) ∧ tg (so k9) = 5000 + k9 ∧ wd_at w409 (sr k9) (.inl (cy 2, 12, .inl (sd k9))) ∧ tg (sr k9) = 6000 + k9 := fun k9 hi9 => ⟨(fm406 k9 hi9).1, wd_at.pt ew410 (fm406 k9 hi9).2.1 (wd_nk (fm406 k9 hi9).2.1 k402 rfl), (fm406 k9 hi9).2.2.1, wd_at.pt ew410 (fm406 k9 hi9).2.2.2.1 (wd_nk (fm406 k9 hi9).2.2.2.1 k402 rfl), (fm406 k9 hi9).2.2.2.2⟩
          have kp419 := kp407.put ew410 s90
          refine lv_aload_n hx hb dX10_gatherFacts_105 rfl (lv_at hl 2 rfl) ?_
          refine x_get (ref := "NoteHouse") F hP k411 rfl (fun _ h => List.mem_cons_of_mem _ (List.mem_append_left _ (List.mem_append_left _ (List.mem_append_right _ (h))))) 8 (Nat.le_of_ble_eq_true rfl) (List.mem_cons_of_mem _ (List.mem_append_left _ (List.mem_append_left _ (List.mem_append_left _ (List.mem_append_left _ (List.mem_append_left _ (List.mem_append_left _ (List.mem_of_getElem? (i := 2) rfl)))))))) rfl rfl dX10_gatherFacts_106 ?_
          refine lv_iconst (v := 5) hx hb dX10_gatherFacts_109 (by decide) ?_
          refine lv_aload_n hx hb dX10_gatherFacts_110 rfl (lv_at hl 3 rfl) ?_
          refine x_get (ref := "NoteHouse$Shown") F hP k415 rfl (fun _ h => List.mem_cons_of_mem _ (List.mem_append_left _ (List.mem_append_left _ (List.mem_append_left _ (List.mem_append_left _ (List.mem_append_right _ (h))))))) 3 (Nat.le_of_ble_eq_true rfl) (List.mem_cons_of_mem _ (List.mem_append_left _ (List.mem_append_left _ (List.mem_append_left _ (List.mem_append_left _ (List.mem_append_left _ (List.mem_append_left _ (List.mem_of_getElem? (i := 6) rfl)))))))) rfl rfl dX10_gatherFacts_111 ?_
          refine y_iast F hP hD hS k414 (vp_in_iff.mpr ⟨by decide, by decide⟩) dX10_gatherFacts_114 (fun w420 ew421 H locs hP hD hS => ?_)
          have k422 := wd_at.pt ew421 k411 (wd_nk k411 k414 rfl)
          have k423 := wd_at.pt ew421 k412 (wd_nk k412 k414 rfl)
          have k424 := wd_at.pt ew421 k413 (wd_nk k413 k414 rfl)
          have k425 : wd_at w420 a8 (.inl (cy 2, 8, .inl (upd (upd (upd (upd (upd (upd ff (0 : Int32).toNatClampNeg 99) (1 : Int32).toNatClampNeg 1) (2 : Int32).toNatClampNeg 1) (3 : Int32).toNatClampNeg (dd - dy)) (4 : Int32).toNatClampNeg 0) (5 : Int32).toNatClampNeg am))) := wd_at.ps ew421 k414
          have k426 := wd_at.pt ew421 k415 (wd_nk k415 k414 rfl)
          have k427 := wd_at.pt ew421 k416 (wd_nk k416 k414 rfl)
          have fm428 : ∀ k9, k9 < ac → af k9 = some (ad k9) ∧ wd_at w420 (ad k9) (.inr (0, [.int (av0 k9), .int (av1 k9), .int (av2 k9), .int (av3 k9)])) ∧ tg (ad k9) = 4000 + k9 := fun k9 hi9 => ⟨(fm417 k9 hi9).1, wd_at.pt ew421 (fm417 k9 hi9).2.1 (wd_nk (fm417 k9 hi9).2.1 k414 rfl), (fm417 k9 hi9).2.2⟩
          have fm429 : ∀ k9, k9 < sc → zf k9 = some (so k9) ∧ wd_at w420 (so k9) (.inr (6, [.int (sp0 k9), .int (sp1 k9), .ref (sr k9)])) ∧ tg (so k9) = 5000 + k9 ∧ wd_at w420 (sr k9) (.inl (cy 2, 12, .inl (sd k9))) ∧ tg (sr k9) = 6000 + k9 := fun k9 hi9 => ⟨(fm418 k9 hi9).1, wd_at.pt ew421 (fm418 k9 hi9).2.1 (wd_nk (fm418 k9 hi9).2.1 k414 rfl), (fm418 k9 hi9).2.2.1, wd_at.pt ew421 (fm418 k9 hi9).2.2.2.1 (wd_nk (fm418 k9 hi9).2.2.2.1 k414 rfl), (fm418 k9 hi9).2.2.2.2⟩
          have kp430 := kp419.put ew421 s90
          refine lv_aload_n hx hb dX10_gatherFacts_115 rfl (lv_at hl 2 rfl) ?_
          refine x_get (ref := "NoteHouse") F hP k422 rfl (fun _ h => List.mem_cons_of_mem _ (List.mem_append_left _ (List.mem_append_left _ (List.mem_append_right _ (h))))) 8 (Nat.le_of_ble_eq_true rfl) (List.mem_cons_of_mem _ (List.mem_append_left _ (List.mem_append_left _ (List.mem_append_left _ (List.mem_append_left _ (List.mem_append_left _ (List.mem_append_left _ (List.mem_of_getElem? (i := 2) rfl)))))))) rfl rfl dX10_gatherFacts_116 ?_
          refine lv_bipush (v := 6) hx hb dX10_gatherFacts_119 (by decide) ?_
          refine lv_aload_n hx hb dX10_gatherFacts_121 rfl (lv_at hl 4 rfl) ?_
          refine x_get (ref := "NoteHouse$Paper") F hP k427 rfl (fun _ h => List.mem_cons_of_mem _ (List.mem_append_left _ (List.mem_append_left _ (List.mem_append_left _ (List.mem_append_right _ (h)))))) 1 (Nat.le_of_ble_eq_true rfl) (List.mem_cons_of_mem _ (List.mem_append_left _ (List.mem_append_left _ (List.mem_append_left _ (List.mem_append_left _ (List.mem_append_left _ (List.mem_append_left _ (List.mem_of_getElem? (i := 7) rfl)))))))) rfl rfl dX10_gatherFacts_122 ?_
          refine lv_aload_n hx hb dX10_gatherFacts_125 rfl (lv_at hl 4 rfl) ?_
          refine x_get (ref := "NoteHouse$Paper") F hP k427 rfl (fun _ h => List.mem_cons_of_mem _ (List.mem_append_left _ (List.mem_append_left _ (List.mem_append_left _ (List.mem_append_right _ (h)))))) 5 (Nat.le_of_ble_eq_true rfl) (List.mem_cons_of_mem _ (List.mem_append_left _ (List.mem_append_left _ (List.mem_append_left _ (List.mem_append_left _ (List.mem_append_left _ (List.mem_append_left _ (List.mem_of_getElem? (i := 8) rfl)))))))) rfl rfl dX10_gatherFacts_126 ?_
          refine lv_isub hx hb dX10_gatherFacts_129 ?_
          refine y_iast F hP hD hS k425 (vp_in_iff.mpr ⟨by decide, by decide⟩) dX10_gatherFacts_130 (fun w431 ew432 H locs hP hD hS => ?_)
          have k433 := wd_at.pt ew432 k422 (wd_nk k422 k425 rfl)
          have k434 := wd_at.pt ew432 k423 (wd_nk k423 k425 rfl)
          have k435 := wd_at.pt ew432 k424 (wd_nk k424 k425 rfl)
          have k436 : wd_at w431 a8 (.inl (cy 2, 8, .inl (upd (upd (upd (upd (upd (upd (upd ff (0 : Int32).toNatClampNeg 99) (1 : Int32).toNatClampNeg 1) (2 : Int32).toNatClampNeg 1) (3 : Int32).toNatClampNeg (dd - dy)) (4 : Int32).toNatClampNeg 0) (5 : Int32).toNatClampNeg am) (6 : Int32).toNatClampNeg (wo - no)))) := wd_at.ps ew432 k425
          have k437 := wd_at.pt ew432 k426 (wd_nk k426 k425 rfl)
          have k438 := wd_at.pt ew432 k427 (wd_nk k427 k425 rfl)
          have fm439 : ∀ k9, k9 < ac → af k9 = some (ad k9) ∧ wd_at w431 (ad k9) (.inr (0, [.int (av0 k9), .int (av1 k9), .int (av2 k9), .int (av3 k9)])) ∧ tg (ad k9) = 4000 + k9 := fun k9 hi9 => ⟨(fm428 k9 hi9).1, wd_at.pt ew432 (fm428 k9 hi9).2.1 (wd_nk (fm428 k9 hi9).2.1 k425 rfl), (fm428 k9 hi9).2.2⟩
          have fm440 : ∀ k9, k9 < sc → zf k9 = some (so k9) ∧ wd_at w431 (so k9) (.inr (6, [.int (sp0 k9), .int (sp1 k9), .ref (sr k9)])) ∧ tg (so k9) = 5000 + k9 ∧ wd_at w431 (sr k9) (.inl (cy 2, 12, .inl (sd k9))) ∧ tg (sr k9) = 6000 + k9 := fun k9 hi9 => ⟨(fm429 k9 hi9).1, wd_at.pt ew432 (fm429 k9 hi9).2.1 (wd_nk (fm429 k9 hi9).2.1 k425 rfl), (fm429 k9 hi9).2.2.1, wd_at.pt ew432 (fm429 k9 hi9).2.2.2.1 (wd_nk (fm429 k9 hi9).2.2.2.1 k425 rfl), (fm429 k9 hi9).2.2.2.2⟩
          have kp441 := kp430.put ew432 s90
          refine lv_aload_n hx hb dX10_gatherFacts_131 rfl (lv_at hl 2 rfl) ?_
          refine x_get (ref := "NoteHouse") F hP k433 rfl (fun _ h => List.mem_cons_of_mem _ (List.mem_append_left _ (List.mem_append_left _ (List.mem_append_right _ (h))))) 8 (Nat.le_of_ble_eq_true rfl) (List.mem_cons_of_mem _ (List.mem_append_left _ (List.mem_append_left _ (List.mem_append_left _ (List.mem_append_left _ (List.mem_append_left _ (List.mem_append_left _ (List.mem_of_getElem? (i := 2) rfl)))))))) rfl rfl dX10_gatherFacts_132 ?_
          refine lv_bipush (v := 7) hx hb dX10_gatherFacts_135 (by decide) ?_
          refine lv_aload_n hx hb dX10_gatherFacts_137 rfl (lv_at hl 3 rfl) ?_
          refine x_get (ref := "NoteHouse$Shown") F hP k437 rfl (fun _ h => List.mem_cons_of_mem _ (List.mem_append_left _ (List.mem_append_left _ (List.mem_append_left _ (List.mem_append_left _ (List.mem_append_right _ (h))))))) 5 (Nat.le_of_ble_eq_true rfl) (List.mem_cons_of_mem _ (List.mem_append_left _ (List.mem_append_left _ (List.mem_append_left _ (List.mem_append_left _ (List.mem_append_left _ (List.mem_append_left _ (List.mem_of_getElem? (i := 0) rfl)))))))) rfl rfl dX10_gatherFacts_138 ?_
          refine y_iast F hP hD hS k436 (vp_in_iff.mpr ⟨by decide, by decide⟩) dX10_gatherFacts_141 (fun w442 ew443 H locs hP hD hS => ?_)
          have k444 := wd_at.pt ew443 k433 (wd_nk k433 k436 rfl)
          have k445 := wd_at.pt ew443 k434 (wd_nk k434 k436 rfl)
          have k446 := wd_at.pt ew443 k435 (wd_nk k435 k436 rfl)
          have k447 : wd_at w442 a8 (.inl (cy 2, 8, .inl (upd (upd (upd (upd (upd (upd (upd (upd ff (0 : Int32).toNatClampNeg 99) (1 : Int32).toNatClampNeg 1) (2 : Int32).toNatClampNeg 1) (3 : Int32).toNatClampNeg (dd - dy)) (4 : Int32).toNatClampNeg 0) (5 : Int32).toNatClampNeg am) (6 : Int32).toNatClampNeg (wo - no)) (7 : Int32).toNatClampNeg dd))) := wd_at.ps ew443 k436
          have k448 := wd_at.pt ew443 k437 (wd_nk k437 k436 rfl)
          have k449 := wd_at.pt ew443 k438 (wd_nk k438 k436 rfl)
          have fm450 : ∀ k9, k9 < ac → af k9 = some (ad k9) ∧ wd_at w442 (ad k9) (.inr (0, [.int (av0 k9), .int (av1 k9), .int (av2 k9), .int (av3 k9)])) ∧ tg (ad k9) = 4000 + k9 := fun k9 hi9 => ⟨(fm439 k9 hi9).1, wd_at.pt ew443 (fm439 k9 hi9).2.1 (wd_nk (fm439 k9 hi9).2.1 k436 rfl), (fm439 k9 hi9).2.2⟩
          have fm451 : ∀ k9, k9 < sc → zf k9 = some (so k9) ∧ wd_at w442 (so k9) (.inr (6, [.int (sp0 k9), .int (sp1 k9), .ref (sr k9)])) ∧ tg (so k9) = 5000 + k9 ∧ wd_at w442 (sr k9) (.inl (cy 2, 12, .inl (sd k9))) ∧ tg (sr k9) = 6000 + k9 := fun k9 hi9 => ⟨(fm440 k9 hi9).1, wd_at.pt ew443 (fm440 k9 hi9).2.1 (wd_nk (fm440 k9 hi9).2.1 k436 rfl), (fm440 k9 hi9).2.2.1, wd_at.pt ew443 (fm440 k9 hi9).2.2.2.1 (wd_nk (fm440 k9 hi9).2.2.2.1 k436 rfl), (fm440 k9 hi9).2.2.2.2⟩
          have kp452 := kp441.put ew443 s90
          exact y_vr K hP hD hS (Nat.le_of_ble_eq_true rfl) (Nat.le_of_ble_eq_true rfl) rfl dX10_gatherFacts_142 (⟨upd (upd (upd (upd (upd (upd (upd (upd ff (0 : Int32).toNatClampNeg 99) (1 : Int32).toNatClampNeg 1) (2 : Int32).toNatClampNeg 1) (3 : Int32).toNatClampNeg (dd - dy)) (4 : Int32).toNatClampNeg 0) (5 : Int32).toNatClampNeg am) (6 : Int32).toNatClampNeg (wo - no)) (7 : Int32).toNatClampNeg dd, rfl, kp452, k447⟩)
        · refine lv_iconst (v := 1) hx hb dX10_gatherFacts_99 (by decide) ?_
          refine lv_goto (tgt := 104) hx hb dX10_gatherFacts_100 (by decide) ?_
          refine y_iast F hP hD hS k402 (vp_in_iff.mpr ⟨by decide, by decide⟩) dX10_gatherFacts_104 (fun w453 ew454 H locs hP hD hS => ?_)
          have k455 := wd_at.pt ew454 k399 (wd_nk k399 k402 rfl)
          have k456 := wd_at.pt ew454 k400 (wd_nk k400 k402 rfl)
          have k457 := wd_at.pt ew454 k401 (wd_nk k401 k402 rfl)
          have k458 : wd_at w453 a8 (.inl (cy 2, 8, .inl (upd (upd (upd (upd (upd ff (0 : Int32).toNatClampNeg 99) (1 : Int32).toNatClampNeg 1) (2 : Int32).toNatClampNeg 1) (3 : Int32).toNatClampNeg (dd - dy)) (4 : Int32).toNatClampNeg 1))) := wd_at.ps ew454 k402
          have k459 := wd_at.pt ew454 k403 (wd_nk k403 k402 rfl)
          have k460 := wd_at.pt ew454 k404 (wd_nk k404 k402 rfl)
          have fm461 : ∀ k9, k9 < ac → af k9 = some (ad k9) ∧ wd_at w453 (ad k9) (.inr (0, [.int (av0 k9), .int (av1 k9), .int (av2 k9), .int (av3 k9)])) ∧ tg (ad k9) = 4000 + k9 := fun k9 hi9 => ⟨(fm405 k9 hi9).1, wd_at.pt ew454 (fm405 k9 hi9).2.1 (wd_nk (fm405 k9 hi9).2.1 k402 rfl), (fm405 k9 hi9).2.2⟩
          have fm462 : ∀ k9, k9 < sc → zf k9 = some (so k9) ∧ wd_at w453 (so k9) (.inr (6, [.int (sp0 k9), .int (sp1 k9), .ref (sr k9)])) ∧ tg (so k9) = 5000 + k9 ∧ wd_at w453 (sr k9) (.inl (cy 2, 12, .inl (sd k9))) ∧ tg (sr k9) = 6000 + k9 := fun k9 hi9 => ⟨(fm406 k9 hi9).1, wd_at.pt ew454 (fm406 k9 hi9).2.1 (wd_nk (fm406 k9 hi9).2.1 k402 rfl), (fm406 k9 hi9).2.2.1, wd_at.pt ew454 (fm406 k9 hi9).2.2.2.1 (wd_nk (fm406 k9 hi9).2.2.2.1 k402 rfl), (fm406 k9 hi9).2.2.2.2⟩
          have kp463 := kp407.put ew454 s90
          refine lv_aload_n hx hb dX10_gatherFacts_105 rfl (lv_at hl 2 rfl) ?_
          refine x_get (ref := "NoteHouse") F hP k455 rfl (fun _ h => List.mem_cons_of_mem _ (List.mem_append_left _ (List.mem_append_left _ (List.mem_append_right _ (h))))) 8 (Nat.le_of_ble_eq_true rfl) (List.mem_cons_of_mem _ (List.mem_append_left _ (List.mem_append_left _ (List.mem_append_left _ (List.mem_append_left _ (List.mem_append_left _ (List.mem_append_left _ (List.mem_of_getElem? (i := 2) rfl)))))))) rfl rfl dX10_gatherFacts_106 ?_
          refine lv_iconst (v := 5) hx hb dX10_gatherFacts_109 (by decide) ?_
          refine lv_aload_n hx hb dX10_gatherFacts_110 rfl (lv_at hl 3 rfl) ?_
          refine x_get (ref := "NoteHouse$Shown") F hP k459 rfl (fun _ h => List.mem_cons_of_mem _ (List.mem_append_left _ (List.mem_append_left _ (List.mem_append_left _ (List.mem_append_left _ (List.mem_append_right _ (h))))))) 3 (Nat.le_of_ble_eq_true rfl) (List.mem_cons_of_mem _ (List.mem_append_left _ (List.mem_append_left _ (List.mem_append_left _ (List.mem_append_left _ (List.mem_append_left _ (List.mem_append_left _ (List.mem_of_getElem? (i := 6) rfl)))))))) rfl rfl dX10_gatherFacts_111 ?_
          refine y_iast F hP hD hS k458 (vp_in_iff.mpr ⟨by decide, by decide⟩) dX10_gatherFacts_114 (fun w464 ew465 H locs hP hD hS => ?_)
          have k466 := wd_at.pt ew465 k455 (wd_nk k455 k458 rfl)
          have k467 := wd_at.pt ew465 k456 (wd_nk k456 k458 rfl)
          have k468 := wd_at.pt ew465 k457 (wd_nk k457 k458 rfl)
          have k469 : wd_at w464 a8 (.inl (cy 2, 8, .inl (upd (upd (upd (upd (upd (upd ff (0 : Int32).toNatClampNeg 99) (1 : Int32).toNatClampNeg 1) (2 : Int32).toNatClampNeg 1) (3 : Int32).toNatClampNeg (dd - dy)) (4 : Int32).toNatClampNeg 1) (5 : Int32).toNatClampNeg am))) := wd_at.ps ew465 k458
          have k470 := wd_at.pt ew465 k459 (wd_nk k459 k458 rfl)
          have k471 := wd_at.pt ew465 k460 (wd_nk k460 k458 rfl)
          have fm472 : ∀ k9, k9 < ac → af k9 = some (ad k9) ∧ wd_at w464 (ad k9) (.inr (0, [.int (av0 k9), .int (av1 k9), .int (av2 k9), .int (av3 k9)])) ∧ tg (ad k9) = 4000 + k9 := fun k9 hi9 => ⟨(fm461 k9 hi9).1, wd_at.pt ew465 (fm461 k9 hi9).2.1 (wd_nk (fm461 k9 hi9).2.1 k458 rfl), (fm461 k9 hi9).2.2⟩
          have fm473 : ∀ k9, k9 < sc → zf k9 = some (so k9) ∧ wd_at w464 (so k9) (.inr (6, [.int (sp0 k9), .int (sp1 k9), .ref (sr k9)])) ∧ tg (so k9) = 5000 + k9 ∧ wd_at w464 (sr k9) (.inl (cy 2, 12, .inl (sd k9))) ∧ tg (sr k9) = 6000 + k9 := fun k9 hi9 => ⟨(fm462 k9 hi9).1, wd_at.pt ew465 (fm462 k9 hi9).2.1 (wd_nk (fm462 k9 hi9).2.1 k458 rfl), (fm462 k9 hi9).2.2.1, wd_at.pt ew465 (fm462 k9 hi9).2.2.2.1 (wd_nk (fm462 k9 hi9).2.2.2.1 k458 rfl), (fm462 k9 hi9).2.2.2.2⟩
          have kp474 := kp463.put ew465 s90
          refine lv_aload_n hx hb dX10_gatherFacts_115 rfl (lv_at hl 2 rfl) ?_
          refine x_get (ref := "NoteHouse") F hP k466 rfl (fun _ h => List.mem_cons_of_mem _ (List.mem_append_left _ (List.mem_append_left _ (List.mem_append_right _ (h))))) 8 (Nat.le_of_ble_eq_true rfl) (List.mem_cons_of_mem _ (List.mem_append_left _ (List.mem_append_left _ (List.mem_append_left _ (List.mem_append_left _ (List.mem_append_left _ (List.mem_append_left _ (List.mem_of_getElem? (i := 2) rfl)))))))) rfl rfl dX10_gatherFacts_116 ?_
          refine lv_bipush (v := 6) hx hb dX10_gatherFacts_119 (by decide) ?_
          refine lv_aload_n hx hb dX10_gatherFacts_121 rfl (lv_at hl 4 rfl) ?_
          refine x_get (ref := "NoteHouse$Paper") F hP k471 rfl (fun _ h => List.mem_cons_of_mem _ (List.mem_append_left _ (List.mem_append_left _ (List.mem_append_left _ (List.mem_append_right _ (h)))))) 1 (Nat.le_of_ble_eq_true rfl) (List.mem_cons_of_mem _ (List.mem_append_left _ (List.mem_append_left _ (List.mem_append_left _ (List.mem_append_left _ (List.mem_append_left _ (List.mem_append_left _ (List.mem_of_getElem? (i := 7) rfl)))))))) rfl rfl dX10_gatherFacts_122 ?_
          refine lv_aload_n hx hb dX10_gatherFacts_125 rfl (lv_at hl 4 rfl) ?_
          refine x_get (ref := "NoteHouse$Paper") F hP k471 rfl (fun _ h => List.mem_cons_of_mem _ (List.mem_append_left _ (List.mem_append_left _ (List.mem_append_left _ (List.mem_append_right _ (h)))))) 5 (Nat.le_of_ble_eq_true rfl) (List.mem_cons_of_mem _ (List.mem_append_left _ (List.mem_append_left _ (List.mem_append_left _ (List.mem_append_left _ (List.mem_append_left _ (List.mem_append_left _ (List.mem_of_getElem? (i := 8) rfl)))))))) rfl rfl dX10_gatherFacts_126 ?_
          refine lv_isub hx hb dX10_gatherFacts_129 ?_
          refine y_iast F hP hD hS k469 (vp_in_iff.mpr ⟨by decide, by decide⟩) dX10_gatherFacts_130 (fun w475 ew476 H locs hP hD hS => ?_)
          have k477 := wd_at.pt ew476 k466 (wd_nk k466 k469 rfl)
          have k478 := wd_at.pt ew476 k467 (wd_nk k467 k469 rfl)
          have k479 := wd_at.pt ew476 k468 (wd_nk k468 k469 rfl)
          have k480 : wd_at w475 a8 (.inl (cy 2, 8, .inl (upd (upd (upd (upd (upd (upd (upd ff (0 : Int32).toNatClampNeg 99) (1 : Int32).toNatClampNeg 1) (2 : Int32).toNatClampNeg 1) (3 : Int32).toNatClampNeg (dd - dy)) (4 : Int32).toNatClampNeg 1) (5 : Int32).toNatClampNeg am) (6 : Int32).toNatClampNeg (wo - no)))) := wd_at.ps ew476 k469
          have k481 := wd_at.pt ew476 k470 (wd_nk k470 k469 rfl)
          have k482 := wd_at.pt ew476 k471 (wd_nk k471 k469 rfl)
          have fm483 : ∀ k9, k9 < ac → af k9 = some (ad k9) ∧ wd_at w475 (ad k9) (.inr (0, [.int (av0 k9), .int (av1 k9), .int (av2 k9), .int (av3 k9)])) ∧ tg (ad k9) = 4000 + k9 := fun k9 hi9 => ⟨(fm472 k9 hi9).1, wd_at.pt ew476 (fm472 k9 hi9).2.1 (wd_nk (fm472 k9 hi9).2.1 k469 rfl), (fm472 k9 hi9).2.2⟩
          have fm484 : ∀ k9, k9 < sc → zf k9 = some (so k9) ∧ wd_at w475 (so k9) (.inr (6, [.int (sp0 k9), .int (sp1 k9), .ref (sr k9)])) ∧ tg (so k9) = 5000 + k9 ∧ wd_at w475 (sr k9) (.inl (cy 2, 12, .inl (sd k9))) ∧ tg (sr k9) = 6000 + k9 := fun k9 hi9 => ⟨(fm473 k9 hi9).1, wd_at.pt ew476 (fm473 k9 hi9).2.1 (wd_nk (fm473 k9 hi9).2.1 k469 rfl), (fm473 k9 hi9).2.2.1, wd_at.pt ew476 (fm473 k9 hi9).2.2.2.1 (wd_nk (fm473 k9 hi9).2.2.2.1 k469 rfl), (fm473 k9 hi9).2.2.2.2⟩
          have kp485 := kp474.put ew476 s90
          refine lv_aload_n hx hb dX10_gatherFacts_131 rfl (lv_at hl 2 rfl) ?_
          refine x_get (ref := "NoteHouse") F hP k477 rfl (fun _ h => List.mem_cons_of_mem _ (List.mem_append_left _ (List.mem_append_left _ (List.mem_append_right _ (h))))) 8 (Nat.le_of_ble_eq_true rfl) (List.mem_cons_of_mem _ (List.mem_append_left _ (List.mem_append_left _ (List.mem_append_left _ (List.mem_append_left _ (List.mem_append_left _ (List.mem_append_left _ (List.mem_of_getElem? (i := 2) rfl)))))))) rfl rfl dX10_gatherFacts_132 ?_
          refine lv_bipush (v := 7) hx hb dX10_gatherFacts_135 (by decide) ?_
          refine lv_aload_n hx hb dX10_gatherFacts_137 rfl (lv_at hl 3 rfl) ?_
          refine x_get (ref := "NoteHouse$Shown") F hP k481 rfl (fun _ h => List.mem_cons_of_mem _ (List.mem_append_left _ (List.mem_append_left _ (List.mem_append_left _ (List.mem_append_left _ (List.mem_append_right _ (h))))))) 5 (Nat.le_of_ble_eq_true rfl) (List.mem_cons_of_mem _ (List.mem_append_left _ (List.mem_append_left _ (List.mem_append_left _ (List.mem_append_left _ (List.mem_append_left _ (List.mem_append_left _ (List.mem_of_getElem? (i := 0) rfl)))))))) rfl rfl dX10_gatherFacts_138 ?_
          refine y_iast F hP hD hS k480 (vp_in_iff.mpr ⟨by decide, by decide⟩) dX10_gatherFacts_141 (fun w486 ew487 H locs hP hD hS => ?_)
          have k488 := wd_at.pt ew487 k477 (wd_nk k477 k480 rfl)
          have k489 := wd_at.pt ew487 k478 (wd_nk k478 k480 rfl)
          have k490 := wd_at.pt ew487 k479 (wd_nk k479 k480 rfl)
          have k491 : wd_at w486 a8 (.inl (cy 2, 8, .inl (upd (upd (upd (upd (upd (upd (upd (upd ff (0 : Int32).toNatClampNeg 99) (1 : Int32).toNatClampNeg 1) (2 : Int32).toNatClampNeg 1) (3 : Int32).toNatClampNeg (dd - dy)) (4 : Int32).toNatClampNeg 1) (5 : Int32).toNatClampNeg am) (6 : Int32).toNatClampNeg (wo - no)) (7 : Int32).toNatClampNeg dd))) := wd_at.ps ew487 k480
          have k492 := wd_at.pt ew487 k481 (wd_nk k481 k480 rfl)
          have k493 := wd_at.pt ew487 k482 (wd_nk k482 k480 rfl)
          have fm494 : ∀ k9, k9 < ac → af k9 = some (ad k9) ∧ wd_at w486 (ad k9) (.inr (0, [.int (av0 k9), .int (av1 k9), .int (av2 k9), .int (av3 k9)])) ∧ tg (ad k9) = 4000 + k9 := fun k9 hi9 => ⟨(fm483 k9 hi9).1, wd_at.pt ew487 (fm483 k9 hi9).2.1 (wd_nk (fm483 k9 hi9).2.1 k480 rfl), (fm483 k9 hi9).2.2⟩
          have fm495 : ∀ k9, k9 < sc → zf k9 = some (so k9) ∧ wd_at w486 (so k9) (.inr (6, [.int (sp0 k9), .int (sp1 k9), .ref (sr k9)])) ∧ tg (so k9) = 5000 + k9 ∧ wd_at w486 (sr k9) (.inl (cy 2, 12, .inl (sd k9))) ∧ tg (sr k9) = 6000 + k9 := fun k9 hi9 => ⟨(fm484 k9 hi9).1, wd_at.pt ew487 (fm484 k9 hi9).2.1 (wd_nk (fm484 k9 hi9).2.1 k480 rfl), (fm484 k9 hi9).2.2.1, wd_at.pt ew487 (fm484 k9 hi9).2.2.2.1 (wd_nk (fm484 k9 hi9).2.2.2.1 k480 rfl), (fm484 k9 hi9).2.2.2.2⟩
          have kp496 := kp485.put ew487 s90
          exact y_vr K hP hD hS (Nat.le_of_ble_eq_true rfl) (Nat.le_of_ble_eq_true rfl) rfl dX10_gatherFacts_142 (⟨upd (upd (upd (upd (upd (upd (upd (upd ff (0 : Int32).toNatClampNeg 99) (1 : Int32).toNatClampNeg 1) (2 : Int32).toNatClampNeg 1) (3 : Int32).toNatClampNeg (dd - dy)) (4 : Int32).toNatClampNeg 1) (5 : Int32).toNatClampNeg am) (6 : Int32).toNatClampNeg (wo - no)) (7 : Int32).toNatClampNeg dd, rfl, kp496, k491⟩)
  · refine lv_aload_n hx hb dX10_gatherFacts_26 rfl (lv_at hl 3 rfl) ?_
    refine x_get (ref := "NoteHouse$Shown") F hP c94 rfl (fun _ h => List.mem_cons_of_mem _ (List.mem_append_left _ (List.mem_append_left _ (List.mem_append_left _ (List.mem_append_left _ (List.mem_append_right _ (h))))))) 4 (Nat.le_of_ble_eq_true rfl) (List.mem_cons_of_mem _ (List.mem_append_left _ (List.mem_append_left _ (List.mem_append_left _ (List.mem_append_left _ (List.mem_append_left _ (List.mem_append_left _ (List.mem_of_getElem? (i := 3) rfl)))))))) rfl rfl dX10_gatherFacts_27 ?_
    refine lv_aload_n hx hb dX10_gatherFacts_30 rfl (lv_at hl 4 rfl) ?_
    refine x_get (ref := "NoteHouse$Paper") F hP c95 rfl (fun _ h => List.mem_cons_of_mem _ (List.mem_append_left _ (List.mem_append_left _ (List.mem_append_left _ (List.mem_append_right _ (h)))))) 2 (Nat.le_of_ble_eq_true rfl) (List.mem_cons_of_mem _ (List.mem_append_left _ (List.mem_append_left _ (List.mem_append_left _ (List.mem_append_left _ (List.mem_append_left _ (List.mem_append_left _ (List.mem_of_getElem? (i := 4) rfl)))))))) rfl rfl dX10_gatherFacts_31 ?_
    refine x_callS (n := 2) (As := [.int hh, .int hd]) (rest := [.int 0, .ref a8]) F hP hD hS (g_unlikeness l D cy sk sv w hh hd) gX10_gatherFacts_X10_unlikeness rfl (by decide +kernel) ⟨(Nat.le_of_ble_eq_true rfl), (Nat.le_of_ble_eq_true rfl)⟩ rfl hl.1 (Nat.le_of_ble_eq_true rfl) dX10_gatherFacts_34 rfl ⟨(Nat.le_of_ble_eq_true rfl), (Nat.le_of_ble_eq_true rfl)⟩ (fun v498 w499 hp497 H locs hP hD hS => ?_)
    obtain ⟨rx500, rfl, rfl⟩ := hp497
    refine W.eq (g2 := F0 m 37 ls [.int rx500, .int 0, .ref a8]) rfl (W.widen (k := 0) (n := 0) (Nat.le_of_ble_eq_true rfl) (Nat.le_of_ble_eq_true rfl) ?_)
    refine lv_goto (tgt := 42) hx hb dX10_gatherFacts_37 (by decide) ?_
    refine y_iast F hP hD hS c93 (vp_in_iff.mpr ⟨by decide, by decide⟩) dX10_gatherFacts_42 (fun w501 ew502 H locs hP hD hS => ?_)
    have k503 := wd_at.pt ew502 c90 (wd_nk c90 c93 rfl)
    have k504 := wd_at.pt ew502 c91 (wd_nk c91 c93 rfl)
    have k505 := wd_at.pt ew502 c92 (wd_nk c92 c93 rfl)
    have k506 : wd_at w501 a8 (.inl (cy 2, 8, .inl (upd ff (0 : Int32).toNatClampNeg rx500))) := wd_at.ps ew502 c93
    have k507 := wd_at.pt ew502 c94 (wd_nk c94 c93 rfl)
    have k508 := wd_at.pt ew502 c95 (wd_nk c95 c93 rfl)
    have fm509 : ∀ k9, k9 < ac → af k9 = some (ad k9) ∧ wd_at w501 (ad k9) (.inr (0, [.int (av0 k9), .int (av1 k9), .int (av2 k9), .int (av3 k9)])) ∧ tg (ad k9) = 4000 + k9 := fun k9 hi9 => ⟨(hA9 k9 hi9).1, wd_at.pt ew502 (hA9 k9 hi9).2.1 (wd_nk (hA9 k9 hi9).2.1 c93 rfl), (hA9 k9 hi9).2.2⟩
    have fm510 : ∀ k9, k9 < sc → zf k9 = some (so k9) ∧ wd_at w501 (so k9) (.inr (6, [.int (sp0 k9), .int (sp1 k9), .ref (sr k9)])) ∧ tg (so k9) = 5000 + k9 ∧ wd_at w501 (sr k9) (.inl (cy 2, 12, .inl (sd k9))) ∧ tg (sr k9) = 6000 + k9 := fun k9 hi9 => ⟨(hS9 k9 hi9).1, wd_at.pt ew502 (hS9 k9 hi9).2.1 (wd_nk (hS9 k9 hi9).2.1 c93 rfl), (hS9 k9 hi9).2.2.1, wd_at.pt ew502 (hS9 k9 hi9).2.2.2.1 (wd_nk (hS9 k9 hi9).2.2.2.1 c93 rfl), (hS9 k9 hi9).2.2.2.2⟩
    have kp511 := kp0.put ew502 s90
    refine lv_aload_n hx hb dX10_gatherFacts_43 rfl (lv_at hl 2 rfl) ?_
    refine x_get (ref := "NoteHouse") F hP k503 rfl (fun _ h => List.mem_cons_of_mem _ (List.mem_append_left _ (List.mem_append_left _ (List.mem_append_right _ (h))))) 8 (Nat.le_of_ble_eq_true rfl) (List.mem_cons_of_mem _ (List.mem_append_left _ (List.mem_append_left _ (List.mem_append_left _ (List.mem_append_left _ (List.mem_append_left _ (List.mem_append_left _ (List.mem_of_getElem? (i := 2) rfl)))))))) rfl rfl dX10_gatherFacts_44 ?_
    refine lv_iconst (v := 1) hx hb dX10_gatherFacts_47 (by decide) ?_
    refine lv_iload_n hx hb dX10_gatherFacts_48 rfl (lv_at hl 1 rfl) ?_
    refine lv_if_eq (tgt := 56) hx hb dX10_gatherFacts_49 (by decide) (fun c_512 => ?_) (fun c_512 => ?_)
    · refine lv_iconst (v := 0) hx hb dX10_gatherFacts_56 (by decide) ?_
      refine y_iast F hP hD hS k506 (vp_in_iff.mpr ⟨by decide, by decide⟩) dX10_gatherFacts_57 (fun w513 ew514 H locs hP hD hS => ?_)
      have k515 := wd_at.pt ew514 k503 (wd_nk k503 k506 rfl)
      have k516 := wd_at.pt ew514 k504 (wd_nk k504 k506 rfl)
      have k517 := wd_at.pt ew514 k505 (wd_nk k505 k506 rfl)
      have k518 : wd_at w513 a8 (.inl (cy 2, 8, .inl (upd (upd ff (0 : Int32).toNatClampNeg rx500) (1 : Int32).toNatClampNeg 0))) := wd_at.ps ew514 k506
      have k519 := wd_at.pt ew514 k507 (wd_nk k507 k506 rfl)
      have k520 := wd_at.pt ew514 k508 (wd_nk k508 k506 rfl)
      have fm521 : ∀ k9, k9 < ac → af k9 = some (ad k9) ∧ wd_at w513 (ad k9) (.inr (0, [.int (av0 k9), .int (av1 k9), .int (av2 k9), .int (av3 k9)])) ∧ tg (ad k9) = 4000 + k9 := fun k9 hi9 => ⟨(fm509 k9 hi9).1, wd_at.pt ew514 (fm509 k9 hi9).2.1 (wd_nk (fm509 k9 hi9).2.1 k506 rfl), (fm509 k9 hi9).2.2⟩
      have fm522 : ∀ k9, k9 < sc → zf k9 = some (so k9) ∧ wd_at w513 (so k9) (.inr (6, [.int (sp0 k9), .int (sp1 k9), .ref (sr k9)])) ∧ tg (so k9) = 5000 + k9 ∧ wd_at w513 (sr k9) (.inl (cy 2, 12, .inl (sd k9))) ∧ tg (sr k9) = 6000 + k9 := fun k9 hi9 => ⟨(fm510 k9 hi9).1, wd_at.pt ew514 (fm510 k9 hi9).2.1 (wd_nk (fm510 k9 hi9).2.1 k506 rfl), (fm510 k9 hi9).2.2.1, wd_at.pt ew514 (fm510 k9 hi9).2.2.2.1 (wd_nk (fm510 k9 hi9).2.2.2.1 k506 rfl), (fm510 k9 hi9).2.2.2.2⟩
      have kp523 := kp511.put ew514 s90
      refine lv_aload_n hx hb dX10_gatherFacts_58 rfl (lv_at hl 2 rfl) ?_
      refine x_get (ref := "NoteHouse") F hP k515 rfl (fun _ h => List.mem_cons_of_mem _ (List.mem_append_left _ (List.mem_append_left _ (List.mem_append_right _ (h))))) 8 (Nat.le_of_ble_eq_true rfl) (List.mem_cons_of_mem _ (List.mem_append_left _ (List.mem_append_left _ (List.mem_append_left _ (List.mem_append_left _ (List.mem_append_left _ (List.mem_append_left _ (List.mem_of_getElem? (i := 2) rfl)))))))) rfl rfl dX10_gatherFacts_59 ?_
      refine lv_iconst (v := 2) hx hb dX10_gatherFacts_62 (by decide) ?_
      refine lv_aload_n hx hb dX10_gatherFacts_63 rfl (lv_at hl 2 rfl) ?_
      refine lv_aload_n hx hb dX10_gatherFacts_64 rfl (lv_at hl 3 rfl) ?_
      refine x_callV (n := 1) (As := [.ref z]) (rest := [.int 2, .ref a8]) F hP hD hS (g_isStopped l D cy sk sv w513 x a0 a1 a2 a3 a4 a5 a6 a7 a8 a9 a10 a11 pc ac sc sh td tg zf so sr sp0 sp1 sd z tw pp le am hh dd ru de cp ld k515 k517 k519 fm522 (by omega) (by omega)) gX10_gatherFacts_X10_isStopped rfl rfl (by decide +kernel) ⟨(Nat.le_of_ble_eq_true rfl), (Nat.le_of_ble_eq_true rfl)⟩ rfl hl.1 (Nat.le_of_ble_eq_true rfl) k515 rfl dX10_gatherFacts_65 rfl ⟨(Nat.le_of_ble_eq_true rfl), (Nat.le_of_ble_eq_true rfl)⟩ (fun v525 w526 hp524 H locs hP hD hS => ?_)
      obtain ⟨rx527, rfl, hz528, rfl⟩ := hp524
      refine W.eq (g2 := F0 m 68 ls [.int rx527, .int 2, .ref a8]) rfl (W.widen (k := 0) (n := 0) (Nat.le_of_ble_eq_true rfl) (Nat.le_of_ble_eq_true rfl) ?_)
      refine lv_if_eq (tgt := 75) hx hb dX10_gatherFacts_68 (by decide) (fun c_529 => ?_) (fun c_529 => ?_)
      · refine lv_iconst (v := 0) hx hb dX10_gatherFacts_75 (by decide) ?_
        refine y_iast F hP hD hS k518 (vp_in_iff.mpr ⟨by decide, by decide⟩) dX10_gatherFacts_76 (fun w530 ew531 H locs hP hD hS => ?_)
        have k532 := wd_at.pt ew531 k515 (wd_nk k515 k518 rfl)
        have k533 := wd_at.pt ew531 k516 (wd_nk k516 k518 rfl)
        have k534 := wd_at.pt ew531 k517 (wd_nk k517 k518 rfl)
        have k535 : wd_at w530 a8 (.inl (cy 2, 8, .inl (upd (upd (upd ff (0 : Int32).toNatClampNeg rx500) (1 : Int32).toNatClampNeg 0) (2 : Int32).toNatClampNeg 0))) := wd_at.ps ew531 k518
        have k536 := wd_at.pt ew531 k519 (wd_nk k519 k518 rfl)
        have k537 := wd_at.pt ew531 k520 (wd_nk k520 k518 rfl)
        have fm538 : ∀ k9, k9 < ac → af k9 = some (ad k9) ∧ wd_at w530 (ad k9) (.inr (0, [.int (av0 k9), .int (av1 k9), .int (av2 k9), .int (av3 k9)])) ∧ tg (ad k9) = 4000 + k9 := fun k9 hi9 => ⟨(fm521 k9 hi9).1, wd_at.pt ew531 (fm521 k9 hi9).2.1 (wd_nk (fm521 k9 hi9).2.1 k518 rfl), (fm521 k9 hi9).2.2⟩
        have fm539 : ∀ k9, k9 < sc → zf k9 = some (so k9) ∧ wd_at w530 (so k9) (.inr (6, [.int (sp0 k9), .int (sp1 k9), .ref (sr k9)])) ∧ tg (so k9) = 5000 + k9 ∧ wd_at w530 (sr k9) (.inl (cy 2, 12, .inl (sd k9))) ∧ tg (sr k9) = 6000 + k9 := fun k9 hi9 => ⟨(fm522 k9 hi9).1, wd_at.pt ew531 (fm522 k9 hi9).2.1 (wd_nk (fm522 k9 hi9).2.1 k518 rfl), (fm522 k9 hi9).2.2.1, wd_at.pt ew531 (fm522 k9 hi9).2.2.2.1 (wd_nk (fm522 k9 hi9).2.2.2.1 k518 rfl), (fm522 k9 hi9).2.2.2.2⟩
        have kp540 := kp523.put ew531 s90
        refine lv_aload_n hx hb dX10_gatherFacts_77 rfl (lv_at hl 2 rfl) ?_
        refine x_get (ref := "NoteHouse") F hP k532 rfl (fun _ h => List.mem_cons_of_mem _ (List.mem_append_left _ (List.mem_append_left _ (List.mem_append_right _ (h))))) 8 (Nat.le_of_ble_eq_true rfl) (List.mem_cons_of_mem _ (List.mem_append_left _ (List.mem_append_left _ (List.mem_append_left _ (List.mem_append_left _ (List.mem_append_left _ (List.mem_append_left _ (List.mem_of_getElem? (i := 2) rfl)))))))) rfl rfl dX10_gatherFacts_78 ?_
        refine lv_iconst (v := 3) hx hb dX10_gatherFacts_81 (by decide) ?_
        refine lv_iload hx hb dX10_gatherFacts_82 (lv_at hl 0 rfl) ?_
        refine y_iast F hP hD hS k535 (vp_in_iff.mpr ⟨by decide, by decide⟩) dX10_gatherFacts_84 (fun w541 ew542 H locs hP hD hS => ?_)
        have k543 := wd_at.pt ew542 k532 (wd_nk k532 k535 rfl)
        have k544 := wd_at.pt ew542 k533 (wd_nk k533 k535 rfl)
        have k545 := wd_at.pt ew542 k534 (wd_nk k534 k535 rfl)
        have k546 : wd_at w541 a8 (.inl (cy 2, 8, .inl (upd (upd (upd (upd ff (0 : Int32).toNatClampNeg rx500) (1 : Int32).toNatClampNeg 0) (2 : Int32).toNatClampNeg 0) (3 : Int32).toNatClampNeg (dd - dy)))) := wd_at.ps ew542 k535
        have k547 := wd_at.pt ew542 k536 (wd_nk k536 k535 rfl)
        have k548 := wd_at.pt ew542 k537 (wd_nk k537 k535 rfl)
        have fm549 : ∀ k9, k9 < ac → af k9 = some (ad k9) ∧ wd_at w541 (ad k9) (.inr (0, [.int (av0 k9), .int (av1 k9), .int (av2 k9), .int (av3 k9)])) ∧ tg (ad k9) = 4000 + k9 := fun k9 hi9 => ⟨(fm538 k9 hi9).1, wd_at.pt ew542 (fm538 k9 hi9).2.1 (wd_nk (fm538 k9 hi9).2.1 k535 rfl), (fm538 k9 hi9).2.2⟩
        have fm550 : ∀ k9, k9 < sc → zf k9 = some (so k9) ∧ wd_at w541 (so k9) (.inr (6, [.int (sp0 k9), .int (sp1 k9), .ref (sr k9)])) ∧ tg (so k9) = 5000 + k9 ∧ wd_at w541 (sr k9) (.inl (cy 2, 12, .inl (sd k9))) ∧ tg (sr k9) = 6000 + k9 := fun k9 hi9 => ⟨(fm539 k9 hi9).1, wd_at.pt ew542 (fm539 k9 hi9).2.1 (wd_nk (fm539 k9 hi9).2.1 k535 rfl), (fm539 k9 hi9).2.2.1, wd_at.pt ew542 (fm539 k9 hi9).2.2.2.1 (wd_nk (fm539 k9 hi9).2.2.2.1 k535 rfl), (fm539 k9 hi9).2.2.2.2⟩
        have kp551 := kp540.put ew542 s90
        refine lv_aload_n hx hb dX10_gatherFacts_85 rfl (lv_at hl 2 rfl) ?_
        refine x_get (ref := "NoteHouse") F hP k543 rfl (fun _ h => List.mem_cons_of_mem _ (List.mem_append_left _ (List.mem_append_left _ (List.mem_append_right _ (h))))) 8 (Nat.le_of_ble_eq_true rfl) (List.mem_cons_of_mem _ (List.mem_append_left _ (List.mem_append_left _ (List.mem_append_left _ (List.mem_append_left _ (List.mem_append_left _ (List.mem_append_left _ (List.mem_of_getElem? (i := 2) rfl)))))))) rfl rfl dX10_gatherFacts_86 ?_
        refine lv_iconst (v := 4) hx hb dX10_gatherFacts_89 (by decide) ?_
        refine lv_iload hx hb dX10_gatherFacts_90 (lv_at hl 0 rfl) ?_
        refine lv_aload_n hx hb dX10_gatherFacts_92 rfl (lv_at hl 4 rfl) ?_
        refine x_get (ref := "NoteHouse$Paper") F hP k548 rfl (fun _ h => List.mem_cons_of_mem _ (List.mem_append_left _ (List.mem_append_left _ (List.mem_append_left _ (List.mem_append_right _ (h)))))) 3 (Nat.le_of_ble_eq_true rfl) (List.mem_cons_of_mem _ (List.mem_append_left _ (List.mem_append_left _ (List.mem_append_left _ (List.mem_append_left _ (List.mem_append_left _ (List.mem_append_left _ (List.mem_of_getElem? (i := 5) rfl)))))))) rfl rfl dX10_gatherFacts_93 ?_
        refine lv_icmp_le (tgt := 103) hx hb dX10_gatherFacts_96 (by decide) (fun c_552 => ?_) (fun c_552 => ?_)
        · refine lv_iconst (v := 0) hx hb dX10_gatherFacts_103 (by decide) ?_
          refine y_iast F hP hD hS k546 (vp_in_iff.mpr ⟨by decide, by decide⟩) dX10_gatherFacts_104 (fun w553 ew554 H locs hP hD hS => ?_)
          have k555 := wd_at.pt ew554 k543 (wd_nk k543 k546 rfl)
          have k556 := wd_at.pt ew554 k544 (wd_nk k544 k546 rfl)
          have k557 := wd_at.pt ew554 k545 (wd_nk k545 k546 rfl)
          have k558 : wd_at w553 a8 (.inl (cy 2, 8, .inl (upd (upd (upd (upd (upd ff (0 : Int32).toNatClampNeg rx500) (1 : Int32).toNatClampNeg 0) (2 : Int32).toNatClampNeg 0) (3 : Int32).toNatClampNeg (dd - dy)) (4 : Int32).toNatClampNeg 0))) := wd_at.ps ew554 k546
          have k559 := wd_at.pt ew554 k547 (wd_nk k547 k546 rfl)
          have k560 := wd_at.pt ew554 k548 (wd_nk k548 k546 rfl)
          have fm561 : ∀ k9, k9 < ac → af k9 = some (ad k9) ∧ wd_at w553 (ad k9) (.inr (0, [.int (av0 k9), .int (av1 k9), .int (av2 k9), .int (av3 k9)])) ∧ tg (ad k9) = 4000 + k9 := fun k9 hi9 => ⟨(fm549 k9 hi9).1, wd_at.pt ew554 (fm549 k9 hi9).2.1 (wd_nk (fm549 k9 hi9).2.1 k546 rfl), (fm549 k9 hi9).2.2⟩
          have fm562 : ∀ k9, k9 < sc → zf k9 = some (so k9) ∧ wd_at w553 (so k9) (.inr (6, [.int (sp0 k9), .int (sp1 k9), .ref (sr k9)])) ∧ tg (so k9) = 5000 + k9 ∧ wd_at w553 (sr k9) (.inl (cy 2, 12, .inl (sd k9))) ∧ tg (sr k9) = 6000 + k9 := fun k9 hi9 => ⟨(fm550 k9 hi9).1, wd_at.pt ew554 (fm550 k9 hi9).2.1 (wd_nk (fm550 k9 hi9).2.1 k546 rfl), (fm550 k9 hi9).2.2.1, wd_at.pt ew554 (fm550 k9 hi9).2.2.2.1 (wd_nk (fm550 k9 hi9).2.2.2.1 k546 rfl), (fm550 k9 hi9).2.2.2.2⟩
          have kp563 := kp551.put ew554 s90
          refine lv_aload_n hx hb dX10_gatherFacts_105 rfl (lv_at hl 2 rfl) ?_
          refine x_get (ref := "NoteHouse") F hP k555 rfl (fun _ h => List.mem_cons_of_mem _ (List.mem_append_left _ (List.mem_append_left _ (List.mem_append_right _ (h))))) 8 (Nat.le_of_ble_eq_true rfl) (List.mem_cons_of_mem _ (List.mem_append_left _ (List.mem_append_left _ (List.mem_append_left _ (List.mem_append_left _ (List.mem_append_left _ (List.mem_append_left _ (List.mem_of_getElem? (i := 2) rfl)))))))) rfl rfl dX10_gatherFacts_106 ?_
          refine lv_iconst (v := 5) hx hb dX10_gatherFacts_109 (by decide) ?_
          refine lv_aload_n hx hb dX10_gatherFacts_110 rfl (lv_at hl 3 rfl) ?_
          refine x_get (ref := "NoteHouse$Shown") F hP k559 rfl (fun _ h => List.mem_cons_of_mem _ (List.mem_append_left _ (List.mem_append_left _ (List.mem_append_left _ (List.mem_append_left _ (List.mem_append_right _ (h))))))) 3 (Nat.le_of_ble_eq_true rfl) (List.mem_cons_of_mem _ (List.mem_append_left _ (List.mem_append_left _ (List.mem_append_left _ (List.mem_append_left _ (List.mem_append_left _ (List.mem_append_left _ (List.mem_of_getElem? (i := 6) rfl)))))))) rfl rfl dX10_gatherFacts_111 ?_
          refine y_iast F hP hD hS k558 (vp_in_iff.mpr ⟨by decide, by decide⟩) dX10_gatherFacts_114 (fun w564 ew565 H locs hP hD hS => ?_)
          have k566 := wd_at.pt ew565 k555 (wd_nk k555 k558 rfl)
          have k567 := wd_at.pt ew565 k556 (wd_nk k556 k558 rfl)
          have k568 := wd_at.pt ew565 k557 (wd_nk k557 k558 rfl)
          have k569 : wd_at w564 a8 (.inl (cy 2, 8, .inl (upd (upd (upd (upd (upd (upd ff (0 : Int32).toNatClampNeg rx500) (1 : Int32).toNatClampNeg 0) (2 : Int32).toNatClampNeg 0) (3 : Int32).toNatClampNeg (dd - dy)) (4 : Int32).toNatClampNeg 0) (5 : Int32).toNatClampNeg am))) := wd_at.ps ew565 k558
          have k570 := wd_at.pt ew565 k559 (wd_nk k559 k558 rfl)
          have k571 := wd_at.pt ew565 k560 (wd_nk k560 k558 rfl)
          have fm572 : ∀ k9, k9 < ac → af k9 = some (ad k9) ∧ wd_at w564 (ad k9) (.inr (0, [.int (av0 k9), .int (av1 k9), .int (av2 k9), .int (av3 k9)])) ∧ tg (ad k9) = 4000 + k9 := fun k9 hi9 => ⟨(fm561 k9 hi9).1, wd_at.pt ew565 (fm561 k9 hi9).2.1 (wd_nk (fm561 k9 hi9).2.1 k558 rfl), (fm561 k9 hi9).2.2⟩
          have fm573 : ∀ k9, k9 < sc → zf k9 = some (so k9) ∧ wd_at w564 (so k9) (.inr (6, [.int (sp0 k9), .int (sp1 k9), .ref (sr k9)])) ∧ tg (so k9) = 5000 + k9 ∧ wd_at w564 (sr k9) (.inl (cy 2, 12, .inl (sd k9))) ∧ tg (sr k9) = 6000 + k9 := fun k9 hi9 => ⟨(fm562 k9 hi9).1, wd_at.pt ew565 (fm562 k9 hi9).2.1 (wd_nk (fm562 k9 hi9).2.1 k558 rfl), (fm562 k9 hi9).2.2.1, wd_at.pt ew565 (fm562 k9 hi9).2.2.2.1 (wd_nk (fm562 k9 hi9).2.2.2.1 k558 rfl), (fm562 k9 hi9).2.2.2.2⟩
          have kp574 := kp563.put ew565 s90
          refine lv_aload_n hx hb dX10_gatherFacts_115 rfl (lv_at hl 2 rfl) ?_
          refine x_get (ref := "NoteHouse") F hP k566 rfl (fun _ h => List.mem_cons_of_mem _ (List.mem_append_left _ (List.mem_append_left _ (List.mem_append_right _ (h))))) 8 (Nat.le_of_ble_eq_true rfl) (List.mem_cons_of_mem _ (List.mem_append_left _ (List.mem_append_left _ (List.mem_append_left _ (List.mem_append_left _ (List.mem_append_left _ (List.mem_append_left _ (List.mem_of_getElem? (i := 2) rfl)))))))) rfl rfl dX10_gatherFacts_116 ?_
          refine lv_bipush (v := 6) hx hb dX10_gatherFacts_119 (by decide) ?_
          refine lv_aload_n hx hb dX10_gatherFacts_121 rfl (lv_at hl 4 rfl) ?_
          refine x_get (ref := "NoteHouse$Paper") F hP k571 rfl (fun _ h => List.mem_cons_of_mem _ (List.mem_append_left _ (List.mem_append_left _ (List.mem_append_left _ (List.mem_append_right _ (h)))))) 1 (Nat.le_of_ble_eq_true rfl) (List.mem_cons_of_mem _ (List.mem_append_left _ (List.mem_append_left _ (List.mem_append_left _ (List.mem_append_left _ (List.mem_append_left _ (List.mem_append_left _ (List.mem_of_getElem? (i := 7) rfl)))))))) rfl rfl dX10_gatherFacts_122 ?_
          refine lv_aload_n hx hb dX10_gatherFacts_125 rfl (lv_at hl 4 rfl) ?_
          refine x_get (ref := "NoteHouse$Paper") F hP k571 rfl (fun _ h => List.mem_cons_of_mem _ (List.mem_append_left _ (List.mem_append_left _ (List.mem_append_left _ (List.mem_append_right _ (h)))))) 5 (Nat.le_of_ble_eq_true rfl) (List.mem_cons_of_mem _ (List.mem_append_left _ (List.mem_append_left _ (List.mem_append_left _ (List.mem_append_left _ (List.mem_append_left _ (List.mem_append_left _ (List.mem_of_getElem? (i := 8) rfl)))))))) rfl rfl dX10_gatherFacts_126 ?_
          refine lv_isub hx hb dX10_gatherFacts_129 ?_
          refine y_iast F hP hD hS k569 (vp_in_iff.mpr ⟨by decide, by decide⟩) dX10_gatherFacts_130 (fun w575 ew576 H locs hP hD hS => ?_)
          have k577 := wd_at.pt ew576 k566 (wd_nk k566 k569 rfl)
          have k578 := wd_at.pt ew576 k567 (wd_nk k567 k569 rfl)
          have k579 := wd_at.pt ew576 k568 (wd_nk k568 k569 rfl)
          have k580 : wd_at w575 a8 (.inl (cy 2, 8, .inl (upd (upd (upd (upd (upd (upd (upd ff (0 : Int32).toNatClampNeg rx500) (1 : Int32).toNatClampNeg 0) (2 : Int32).toNatClampNeg 0) (3 : Int32).toNatClampNeg (dd - dy)) (4 : Int32).toNatClampNeg 0) (5 : Int32).toNatClampNeg am) (6 : Int32).toNatClampNeg (wo - no)))) := wd_at.ps ew576 k569
          have k581 := wd_at.pt ew576 k570 (wd_nk k570 k569 rfl)
          have k582 := wd_at.pt ew576 k571 (wd_nk k571 k569 rfl)
          have fm583 : ∀ k9, k9 < ac → af k9 = some (ad k9) ∧ wd_at w575 (ad k9) (.inr (0, [.int (av0 k9), .int (av1 k9), .int (av2 k9), .int (av3 k9)])) ∧ tg (ad k9) = 4000 + k9 := fun k9 hi9 => ⟨(fm572 k9 hi9).1, wd_at.pt ew576 (fm572 k9 hi9).2.1 (wd_nk (fm572 k9 hi9).2.1 k569 rfl), (fm572 k9 hi9).2.2⟩
          have fm584 : ∀ k9, k9 < sc → zf k9 = some (so k9) ∧ wd_at w575 (so k9) (.inr (6, [.int (sp0 k9), .int (sp1 k9), .ref (sr k9)])) ∧ tg (so k9) = 5000 + k9 ∧ wd_at w575 (sr k9) (.inl (cy 2, 12, .inl (sd k9))) ∧ tg (sr k9) = 6000 + k9 := fun k9 hi9 => ⟨(fm573 k9 hi9).1, wd_at.pt ew576 (fm573 k9 hi9).2.1 (wd_nk (fm573 k9 hi9).2.1 k569 rfl), (fm573 k9 hi9).2.2.1, wd_at.pt ew576 (fm573 k9 hi9).2.2.2.1 (wd_nk (fm573 k9 hi9).2.2.2.1 k569 rfl), (fm573 k9 hi9).2.2.2.2⟩
          have kp585 := kp574.put ew576 s90
          refine lv_aload_n hx hb dX10_gatherFacts_131 rfl (lv_at hl 2 rfl) ?_
          refine x_get (ref := "NoteHouse") F hP k577 rfl (fun _ h => List.mem_cons_of_mem _ (List.mem_append_left _ (List.mem_append_left _ (List.mem_append_right _ (h))))) 8 (Nat.le_of_ble_eq_true rfl) (List.mem_cons_of_mem _ (List.mem_append_left _ (List.mem_append_left _ (List.mem_append_left _ (List.mem_append_left _ (List.mem_append_left _ (List.mem_append_left _ (List.mem_of_getElem? (i := 2) rfl)))))))) rfl rfl dX10_gatherFacts_132 ?_
          refine lv_bipush (v := 7) hx hb dX10_gatherFacts_135 (by decide) ?_
          refine lv_aload_n hx hb dX10_gatherFacts_137 rfl (lv_at hl 3 rfl) ?_
          refine x_get (ref := "NoteHouse$Shown") F hP k581 rfl (fun _ h => List.mem_cons_of_mem _ (List.mem_append_left _ (List.mem_append_left _ (List.mem_append_left _ (List.mem_append_left _ (List.mem_append_right _ (h))))))) 5 (Nat.le_of_ble_eq_true rfl) (List.mem_cons_of_mem _ (List.mem_append_left _ (List.mem_append_left _ (List.mem_append_left _ (List.mem_append_left _ (List.mem_append_left _ (List.mem_append_left _ (List.mem_of_getElem? (i := 0) rfl)))))))) rfl rfl dX10_gatherFacts_138 ?_
          refine y_iast F hP hD hS k580 (vp_in_iff.mpr ⟨by decide, by decide⟩) dX10_gatherFacts_141 (fun w586 ew587 H locs hP hD hS => ?_)
          have k588 := wd_at.pt ew587 k577 (wd_nk k577 k580 rfl)
          have k589 := wd_at.pt ew587 k578 (wd_nk k578 k580 rfl)
          have k590 := wd_at.pt ew587 k579 (wd_nk k579 k580 rfl)
          have k591 : wd_at w586 a8 (.inl (cy 2, 8, .inl (upd (upd (upd (upd (upd (upd (upd (upd ff (0 : Int32).toNatClampNeg rx500) (1 : Int32).toNatClampNeg 0) (2 : Int32).toNatClampNeg 0) (3 : Int32).toNatClampNeg (dd - dy)) (4 : Int32).toNatClampNeg 0) (5 : Int32).toNatClampNeg am) (6 : Int32).toNatClampNeg (wo - no)) (7 : Int32).toNatClampNeg dd))) := wd_at.ps ew587 k580
          have k592 := wd_at.pt ew587 k581 (wd_nk k581 k580 rfl)
          have k593 := wd_at.pt ew587 k582 (wd_nk k582 k580 rfl)
          have fm594 : ∀ k9, k9 < ac → af k9 = some (ad k9) ∧ wd_at w586 (ad k9) (.inr (0, [.int (av0 k9), .int (av1 k9), .int (av2 k9), .int (av3 k9)])) ∧ tg (ad k9) = 4000 + k9 := fun k9 hi9 => ⟨(fm583 k9 hi9).1, wd_at.pt ew587 (fm583 k9 hi9).2.1 (wd_nk (fm583 k9 hi9).2.1 k580 rfl), (fm583 k9 hi9).2.2⟩
          have fm595 : ∀ k9, k9 < sc → zf k9 = some (so k9) ∧ wd_at w586 (so k9) (.inr (6, [.int (sp0 k9), .int (sp1 k9), .ref (sr k9)])) ∧ tg (so k9) = 5000 + k9 ∧ wd_at w586 (sr k9) (.inl (cy 2, 12, .inl (sd k9))) ∧ tg (sr k9) = 6000 + k9 := fun k9 hi9 => ⟨(fm584 k9 hi9).1, wd_at.pt ew587 (fm584 k9 hi9).2.1 (wd_nk (fm584 k9 hi9).2.1 k580 rfl), (fm584 k9 hi9).2.2.1, wd_at.pt ew587 (fm584 k9 hi9).2.2.2.1 (wd_nk (fm584 k9 hi9).2.2.2.1 k580 rfl), (fm584 k9 hi9).2.2.2.2⟩
          have kp596 := kp585.put ew587 s90
          exact y_vr K hP hD hS (Nat.le_of_ble_eq_true rfl) (Nat.le_of_ble_eq_true rfl) rfl dX10_gatherFacts_142 (⟨upd (upd (upd (upd (upd (upd (upd (upd ff (0 : Int32).toNatClampNeg rx500) (1 : Int32).toNatClampNeg 0) (2 : Int32).toNatClampNeg 0) (3 : Int32).toNatClampNeg (dd - dy)) (4 : Int32).toNatClampNeg 0) (5 : Int32).toNatClampNeg am) (6 : Int32).toNatClampNeg (wo - no)) (7 : Int32).toNatClampNeg dd, rfl, kp596, k591⟩)
        · refine lv_iconst (v := 1) hx hb dX10_gatherFacts_99 (by decide) ?_
          refine lv_goto (tgt := 104) hx hb dX10_gatherFacts_100 (by decide) ?_
          refine y_iast F hP hD hS k546 (vp_in_iff.mpr ⟨by decide, by decide⟩) dX10_gatherFacts_104 (fun w597 ew598 H locs hP hD hS => ?_)
          have k599 := wd_at.pt ew598 k543 (wd_nk k543 k546 rfl)
          have k600 := wd_at.pt ew598 k544 (wd_nk k544 k546 rfl)
          have k601 := wd_at.pt ew598 k545 (wd_nk k545 k546 rfl)
          have k602 : wd_at w597 a8 (.inl (cy 2, 8, .inl (upd (upd (upd (upd (upd ff (0 : Int32).toNatClampNeg rx500) (1 : Int32).toNatClampNeg 0) (2 : Int32).toNatClampNeg 0) (3 : Int32).toNatClampNeg (dd - dy)) (4 : Int32).toNatClampNeg 1))) := wd_at.ps ew598 k546
          have k603 := wd_at.pt ew598 k547 (wd_nk k547 k546 rfl)
          have k604 := wd_at.pt ew598 k548 (wd_nk k548 k546 rfl)
          have fm605 : ∀ k9, k9 < ac → af k9 = some (ad k9) ∧ wd_at w597 (ad k9) (.inr (0, [.int (av0 k9), .int (av1 k9), .int (av2 k9), .int (av3 k9)])) ∧ tg (ad k9) = 4000 + k9 := fun k9 hi9 => ⟨(fm549 k9 hi9).1, wd_at.pt ew598 (fm549 k9 hi9).2.1 (wd_nk (fm549 k9 hi9).2.1 k546 rfl), (fm549 k9 hi9).2.2⟩
          have fm606 : ∀ k9, k9 < sc → zf k9 = some (so k9) ∧ wd_at w597 (so k9) (.inr (6, [.int (sp0 k9), .int (sp1 k9), .ref (sr k9)])) ∧ tg (so k9) = 5000 + k9 ∧ wd_at w597 (sr k9) (.inl (cy 2, 12, .inl (sd k9))) ∧ tg (sr k9) = 6000 + k9 := fun k9 hi9 => ⟨(fm550 k9 hi9).1, wd_at.pt ew598 (fm550 k9 hi9).2.1 (wd_nk (fm550 k9 hi9).2.1 k546 rfl), (fm550 k9 hi9).2.2.1, wd_at.pt ew598 (fm550 k9 hi9).2.2.2.1 (wd_nk (fm550 k9 hi9).2.2.2.1 k546 rfl), (fm550 k9 hi9).2.2.2.2⟩
          have kp607 := kp551.put ew598 s90
          refine lv_aload_n hx hb dX10_gatherFacts_105 rfl (lv_at hl 2 rfl) ?_
          refine x_get (ref := "NoteHouse") F hP k599 rfl (fun _ h => List.mem_cons_of_mem _ (List.mem_append_left _ (List.mem_append_left _ (List.mem_append_right _ (h))))) 8 (Nat.le_of_ble_eq_true rfl) (List.mem_cons_of_mem _ (List.mem_append_left _ (List.mem_append_left _ (List.mem_append_left _ (List.mem_append_left _ (List.mem_append_left _ (List.mem_append_left _ (List.mem_of_getElem? (i := 2) rfl)))))))) rfl rfl dX10_gatherFacts_106 ?_
          refine lv_iconst (v := 5) hx hb dX10_gatherFacts_109 (by decide) ?_
          refine lv_aload_n hx hb dX10_gatherFacts_110 rfl (lv_at hl 3 rfl) ?_
          refine x_get (ref := "NoteHouse$Shown") F hP k603 rfl (fun _ h => List.mem_cons_of_mem _ (List.mem_append_left _ (List.mem_append_left _ (List.mem_append_left _ (List.mem_append_left _ (List.mem_append_right _ (h))))))) 3 (Nat.le_of_ble_eq_true rfl) (List.mem_cons_of_mem _ (List.mem_append_left _ (List.mem_append_left _ (List.mem_append_left _ (List.mem_append_left _ (List.mem_append_left _ (List.mem_append_left _ (List.mem_of_getElem? (i := 6) rfl)))))))) rfl rfl dX10_gatherFacts_111 ?_
          refine y_iast F hP hD hS k602 (vp_in_iff.mpr ⟨by decide, by decide⟩) dX10_gatherFacts_114 (fun w608 ew609 H locs hP hD hS => ?_)
          have k610 := wd_at.pt ew609 k599 (wd_nk k599 k602 rfl)
          have k611 := wd_at.pt ew609 k600 (wd_nk k600 k602 rfl)
          have k612 := wd_at.pt ew609 k601 (wd_nk k601 k602 rfl)
          have k613 : wd_at w608 a8 (.inl (cy 2, 8, .inl (upd (upd (upd (upd (upd (upd ff (0 : Int32).toNatClampNeg rx500) (1 : Int32).toNatClampNeg 0) (2 : Int32).toNatClampNeg 0) (3 : Int32).toNatClampNeg (dd - dy)) (4 : Int32).toNatClampNeg 1) (5 : Int32).toNatClampNeg am))) := wd_at.ps ew609 k602
          have k614 := wd_at.pt ew609 k603 (wd_nk k603 k602 rfl)
          have k615 := wd_at.pt ew609 k604 (wd_nk k604 k602 rfl)
          have fm616 : ∀ k9, k9 < ac → af k9 = some (ad k9) ∧ wd_at w608 (ad k9) (.inr (0, [.int (av0 k9), .int (av1 k9), .int (av2 k9), .int (av3 k9)])) ∧ tg (ad k9) = 4000 + k9 := fun k9 hi9 => ⟨(fm605 k9 hi9).1, wd_at.pt ew609 (fm605 k9 hi9).2.1 (wd_nk (fm605 k9 hi9).2.1 k602 rfl), (fm605 k9 hi9).2.2⟩
          have fm617 : ∀ k9, k9 < sc → zf k9 = some (so k9) ∧ wd_at w608 (so k9) (.inr (6, [.int (sp0 k9), .int (sp1 k9), .ref (sr k9)])) ∧ tg (so k9) = 5000 + k9 ∧ wd_at w608 (sr k9) (.inl (cy 2, 12, .inl (sd k9))) ∧ tg (sr k9) = 6000 + k9 := fun k9 hi9 => ⟨(fm606 k9 hi9).1, wd_at.pt ew609 (fm606 k9 hi9).2.1 (wd_nk (fm606 k9 hi9).2.1 k602 rfl), (fm606 k9 hi9).2.2.1, wd_at.pt ew609 (fm606 k9 hi9).2.2.2.1 (wd_nk (fm606 k9 hi9).2.2.2.1 k602 rfl), (fm606 k9 hi9).2.2.2.2⟩
          have kp618 := kp607.put ew609 s90
          refine lv_aload_n hx hb dX10_gatherFacts_115 rfl (lv_at hl 2 rfl) ?_
          refine x_get (ref := "NoteHouse") F hP k610 rfl (fun _ h => List.mem_cons_of_mem _ (List.mem_append_left _ (List.mem_append_left _ (List.mem_append_right _ (h))))) 8 (Nat.le_of_ble_eq_true rfl) (List.mem_cons_of_mem _ (List.mem_append_left _ (List.mem_append_left _ (List.mem_append_left _ (List.mem_append_left _ (List.mem_append_left _ (List.mem_append_left _ (List.mem_of_getElem? (i := 2) rfl)))))))) rfl rfl dX10_gatherFacts_116 ?_
          refine lv_bipush (v := 6) hx hb dX10_gatherFacts_119 (by decide) ?_
          refine lv_aload_n hx hb dX10_gatherFacts_121 rfl (lv_at hl 4 rfl) ?_
          refine x_get (ref := "NoteHouse$Paper") F hP k615 rfl (fun _ h => List.mem_cons_of_mem _ (List.mem_append_left _ (List.mem_append_left _ (List.mem_append_left _ (List.mem_append_right _ (h)))))) 1 (Nat.le_of_ble_eq_true rfl) (List.mem_cons_of_mem _ (List.mem_append_left _ (List.mem_append_left _ (List.mem_append_left _ (List.mem_append_left _ (List.mem_append_left _ (List.mem_append_left _ (List.mem_of_getElem? (i := 7) rfl)))))))) rfl rfl dX10_gatherFacts_122 ?_
          refine lv_aload_n hx hb dX10_gatherFacts_125 rfl (lv_at hl 4 rfl) ?_
          refine x_get (ref := "NoteHouse$Paper") F hP k615 rfl (fun _ h => List.mem_cons_of_mem _ (List.mem_append_left _ (List.mem_append_left _ (List.mem_append_left _ (List.mem_append_right _ (h)))))) 5 (Nat.le_of_ble_eq_true rfl) (List.mem_cons_of_mem _ (List.mem_append_left _ (List.mem_append_left _ (List.mem_append_left _ (List.mem_append_left _ (List.mem_append_left _ (List.mem_append_left _ (List.mem_of_getElem? (i := 8) rfl)))))))) rfl rfl dX10_gatherFacts_126 ?_
          refine lv_isub hx hb dX10_gatherFacts_129 ?_
          refine y_iast F hP hD hS k613 (vp_in_iff.mpr ⟨by decide, by decide⟩) dX10_gatherFacts_130 (fun w619 ew620 H locs hP hD hS => ?_)
          have k621 := wd_at.pt ew620 k610 (wd_nk k610 k613 rfl)
          have k622 := wd_at.pt ew620 k611 (wd_nk k611 k613 rfl)
          have k623 := wd_at.pt ew620 k612 (wd_nk k612 k613 rfl)
          have k624 : wd_at w619 a8 (.inl (cy 2, 8, .inl (upd (upd (upd (upd (upd (upd (upd ff (0 : Int32).toNatClampNeg rx500) (1 : Int32).toNatClampNeg 0) (2 : Int32).toNatClampNeg 0) (3 : Int32).toNatClampNeg (dd - dy)) (4 : Int32).toNatClampNeg 1) (5 : Int32).toNatClampNeg am) (6 : Int32).toNatClampNeg (wo - no)))) := wd_at.ps ew620 k613
          have k625 := wd_at.pt ew620 k614 (wd_nk k614 k613 rfl)
          have k626 := wd_at.pt ew620 k615 (wd_nk k615 k613 rfl)
          have fm627 : ∀ k9, k9 < ac → af k9 = some (ad k9) ∧ wd_at w619 (ad k9) (.inr (0, [.int (av0 k9), .int (av1 k9), .int (av2 k9), .int (av3 k9)])) ∧ tg (ad k9) = 4000 + k9 := fun k9 hi9 => ⟨(fm616 k9 hi9).1, wd_at.pt ew620 (fm616 k9 hi9).2.1 (wd_nk (fm616 k9 hi9).2.1 k613 rfl), (fm616 k9 hi9).2.2⟩
          have fm628 : ∀ k9, k9 < sc → zf k9 = some (so k9) ∧ wd_at w619 (so k9) (.inr (6, [.int (sp0 k9), .int (sp1 k9), .ref (sr k9)])) ∧ tg (so k9) = 5000 + k9 ∧ wd_at w619 (sr k9) (.inl (cy 2, 12, .inl (sd k9))) ∧ tg (sr k9) = 6000 + k9 := fun k9 hi9 => ⟨(fm617 k9 hi9).1, wd_at.pt ew620 (fm617 k9 hi9).2.1 (wd_nk (fm617 k9 hi9).2.1 k613 rfl), (fm617 k9 hi9).2.2.1, wd_at.pt ew620 (fm617 k9 hi9).2.2.2.1 (wd_nk (fm617 k9 hi9).2.2.2.1 k613 rfl), (fm617 k9 hi9).2.2.2.2⟩
          have kp629 := kp618.put ew620 s90
          refine lv_aload_n hx hb dX10_gatherFacts_131 rfl (lv_at hl 2 rfl) ?_
          refine x_get (ref := "NoteHouse") F hP k621 rfl (fun _ h => List.mem_cons_of_mem _ (List.mem_append_left _ (List.mem_append_left _ (List.mem_append_right _ (h))))) 8 (Nat.le_of_ble_eq_true rfl) (List.mem_cons_of_mem _ (List.mem_append_left _ (List.mem_append_left _ (List.mem_append_left _ (List.mem_append_left _ (List.mem_append_left _ (List.mem_append_left _ (List.mem_of_getElem? (i := 2) rfl)))))))) rfl rfl dX10_gatherFacts_132 ?_
          refine lv_bipush (v := 7) hx hb dX10_gatherFacts_135 (by decide) ?_
          refine lv_aload_n hx hb dX10_gatherFacts_137 rfl (lv_at hl 3 rfl) ?_
          refine x_get (ref := "NoteHouse$Shown") F hP k625 rfl (fun _ h => List.mem_cons_of_mem _ (List.mem_append_left _ (List.mem_append_left _ (List.mem_append_left _ (List.mem_append_left _ (List.mem_append_right _ (h))))))) 5 (Nat.le_of_ble_eq_true rfl) (List.mem_cons_of_mem _ (List.mem_append_left _ (List.mem_append_left _ (List.mem_append_left _ (List.mem_append_left _ (List.mem_append_left _ (List.mem_append_left _ (List.mem_of_getElem? (i := 0) rfl)))))))) rfl rfl dX10_gatherFacts_138 ?_
          refine y_iast F hP hD hS k624 (vp_in_iff.mpr ⟨by decide, by decide⟩) dX10_gatherFacts_141 (fun w630 ew631 H locs hP hD hS => ?_)
          have k632 := wd_at.pt ew631 k621 (wd_nk k621 k624 rfl)
          have k633 := wd_at.pt ew631 k622 (wd_nk k622 k624 rfl)
          have k634 := wd_at.pt ew631 k623 (wd_nk k623 k624 rfl)
          have k635 : wd_at w630 a8 (.inl (cy 2, 8, .inl (upd (upd (upd (upd (upd (upd (upd (upd ff (0 : Int32).toNatClampNeg rx500) (1 : Int32).toNatClampNeg 0) (2 : Int32).toNatClampNeg 0) (3 : Int32).toNatClampNeg (dd - dy)) (4 : Int32).toNatClampNeg 1) (5 : Int32).toNatClampNeg am) (6 : Int32).toNatClampNeg (wo - no)) (7 : Int32).toNatClampNeg dd))) := wd_at.ps ew631 k624
          have k636 := wd_at.pt ew631 k625 (wd_nk k625 k624 rfl)
          have k637 := wd_at.pt ew631 k626 (wd_nk k626 k624 rfl)
          have fm638 : ∀ k9, k9 < ac → af k9 = some (ad k9) ∧ wd_at w630 (ad k9) (.inr (0, [.int (av0 k9), .int (av1 k9), .int (av2 k9), .int (av3 k9)])) ∧ tg (ad k9) = 4000 + k9 := fun k9 hi9 => ⟨(fm627 k9 hi9).1, wd_at.pt ew631 (fm627 k9 hi9).2.1 (wd_nk (fm627 k9 hi9).2.1 k624 rfl), (fm627 k9 hi9).2.2⟩
          have fm639 : ∀ k9, k9 < sc → zf k9 = some (so k9) ∧ wd_at w630 (so k9) (.inr (6, [.int (sp0 k9), .int (sp1 k9), .ref (sr k9)])) ∧ tg (so k9) = 5000 + k9 ∧ wd_at w630 (sr k9) (.inl (cy 2, 12, .inl (sd k9))) ∧ tg (sr k9) = 6000 + k9 := fun k9 hi9 => ⟨(fm628 k9 hi9).1, wd_at.pt ew631 (fm628 k9 hi9).2.1 (wd_nk (fm628 k9 hi9).2.1 k624 rfl), (fm628 k9 hi9).2.2.1, wd_at.pt ew631 (fm628 k9 hi9).2.2.2.1 (wd_nk (fm628 k9 hi9).2.2.2.1 k624 rfl), (fm628 k9 hi9).2.2.2.2⟩
          have kp640 := kp629.put ew631 s90
          exact y_vr K hP hD hS (Nat.le_of_ble_eq_true rfl) (Nat.le_of_ble_eq_true rfl) rfl dX10_gatherFacts_142 (⟨upd (upd (upd (upd (upd (upd (upd (upd ff (0 : Int32).toNatClampNeg rx500) (1 : Int32).toNatClampNeg 0) (2 : Int32).toNatClampNeg 0) (3 : Int32).toNatClampNeg (dd - dy)) (4 : Int32).toNatClampNeg 1) (5 : Int32).toNatClampNeg am) (6 : Int32).toNatClampNeg (wo - no)) (7 : Int32).toNatClampNeg dd, rfl, kp640, k635⟩)
      · refine lv_iconst (v := 1) hx hb dX10_gatherFacts_71 (by decide) ?_
        refine lv_goto (tgt := 76) hx hb dX10_gatherFacts_72 (by decide) ?_
        refine y_iast F hP hD hS k518 (vp_in_iff.mpr ⟨by decide, by decide⟩) dX10_gatherFacts_76 (fun w641 ew642 H locs hP hD hS => ?_)
        have k643 := wd_at.pt ew642 k515 (wd_nk k515 k518 rfl)
        have k644 := wd_at.pt ew642 k516 (wd_nk k516 k518 rfl)
        have k645 := wd_at.pt ew642 k517 (wd_nk k517 k518 rfl)
        have k646 : wd_at w641 a8 (.inl (cy 2, 8, .inl (upd (upd (upd ff (0 : Int32).toNatClampNeg rx500) (1 : Int32).toNatClampNeg 0) (2 : Int32).toNatClampNeg 1))) := wd_at.ps ew642 k518
        have k647 := wd_at.pt ew642 k519 (wd_nk k519 k518 rfl)
        have k648 := wd_at.pt ew642 k520 (wd_nk k520 k518 rfl)
        have fm649 : ∀ k9, k9 < ac → af k9 = some (ad k9) ∧ wd_at w641 (ad k9) (.inr (0, [.int (av0 k9), .int (av1 k9), .int (av2 k9), .int (av3 k9)])) ∧ tg (ad k9) = 4000 + k9 := fun k9 hi9 => ⟨(fm521 k9 hi9).1, wd_at.pt ew642 (fm521 k9 hi9).2.1 (wd_nk (fm521 k9 hi9).2.1 k518 rfl), (fm521 k9 hi9).2.2⟩
        have fm650 : ∀ k9, k9 < sc → zf k9 = some (so k9) ∧ wd_at w641 (so k9) (.inr (6, [.int (sp0 k9), .int (sp1 k9), .ref (sr k9)])) ∧ tg (so k9) = 5000 + k9 ∧ wd_at w641 (sr k9) (.inl (cy 2, 12, .inl (sd k9))) ∧ tg (sr k9) = 6000 + k9 := fun k9 hi9 => ⟨(fm522 k9 hi9).1, wd_at.pt ew642 (fm522 k9 hi9).2.1 (wd_nk (fm522 k9 hi9).2.1 k518 rfl), (fm522 k9 hi9).2.2.1, wd_at.pt ew642 (fm522 k9 hi9).2.2.2.1 (wd_nk (fm522 k9 hi9).2.2.2.1 k518 rfl), (fm522 k9 hi9).2.2.2.2⟩
        have kp651 := kp523.put ew642 s90
        refine lv_aload_n hx hb dX10_gatherFacts_77 rfl (lv_at hl 2 rfl) ?_
        refine x_get (ref := "NoteHouse") F hP k643 rfl (fun _ h => List.mem_cons_of_mem _ (List.mem_append_left _ (List.mem_append_left _ (List.mem_append_right _ (h))))) 8 (Nat.le_of_ble_eq_true rfl) (List.mem_cons_of_mem _ (List.mem_append_left _ (List.mem_append_left _ (List.mem_append_left _ (List.mem_append_left _ (List.mem_append_left _ (List.mem_append_left _ (List.mem_of_getElem? (i := 2) rfl)))))))) rfl rfl dX10_gatherFacts_78 ?_
        refine lv_iconst (v := 3) hx hb dX10_gatherFacts_81 (by decide) ?_
        refine lv_iload hx hb dX10_gatherFacts_82 (lv_at hl 0 rfl) ?_
        refine y_iast F hP hD hS k646 (vp_in_iff.mpr ⟨by decide, by decide⟩) dX10_gatherFacts_84 (fun w652 ew653 H locs hP hD hS => ?_)
        have k654 := wd_at.pt ew653 k643 (wd_nk k643 k646 rfl)
        have k655 := wd_at.pt ew653 k644 (wd_nk k644 k646 rfl)
        have k656 := wd_at.pt ew653 k645 (wd_nk k645 k646 rfl)
        have k657 : wd_at w652 a8 (.inl (cy 2, 8, .inl (upd (upd (upd (upd ff (0 : Int32).toNatClampNeg rx500) (1 : Int32).toNatClampNeg 0) (2 : Int32).toNatClampNeg 1) (3 : Int32).toNatClampNeg (dd - dy)))) := wd_at.ps ew653 k646
        have k658 := wd_at.pt ew653 k647 (wd_nk k647 k646 rfl)
        have k659 := wd_at.pt ew653 k648 (wd_nk k648 k646 rfl)
        have fm660 : ∀ k9, k9 < ac → af k9 = some (ad k9) ∧ wd_at w652 (ad k9) (.inr (0, [.int (av0 k9), .int (av1 k9), .int (av2 k9), .int (av3 k9)])) ∧ tg (ad k9) = 4000 + k9 := fun k9 hi9 => ⟨(fm649 k9 hi9).1, wd_at.pt ew653 (fm649 k9 hi9).2.1 (wd_nk (fm649 k9 hi9).2.1 k646 rfl), (fm649 k9 hi9).2.2⟩
        have fm661 : ∀ k9, k9 < sc → zf k9 = some (so k9) ∧ wd_at w652 (so k9) (.inr (6, [.int (sp0 k9), .int (sp1 k9), .ref (sr k9)])) ∧ tg (so k9) = 5000 + k9 ∧ wd_at w652 (sr k9) (.inl (cy 2, 12, .inl (sd k9))) ∧ tg (sr k9) = 6000 + k9 := fun k9 hi9 => ⟨(fm650 k9 hi9).1, wd_at.pt ew653 (fm650 k9 hi9).2.1 (wd_nk (fm650 k9 hi9).2.1 k646 rfl), (fm650 k9 hi9).2.2.1, wd_at.pt ew653 (fm650 k9 hi9).2.2.2.1 (wd_nk (fm650 k9 hi9).2.2.2.1 k646 rfl), (fm650 k9 hi9).2.2.2.2⟩
        have kp662 := kp651.put ew653 s90
        refine lv_aload_n hx hb dX10_gatherFacts_85 rfl (lv_at hl 2 rfl) ?_
        refine x_get (ref := "NoteHouse") F hP k654 rfl (fun _ h => List.mem_cons_of_mem _ (List.mem_append_left _ (List.mem_append_left _ (List.mem_append_right _ (h))))) 8 (Nat.le_of_ble_eq_true rfl) (List.mem_cons_of_mem _ (List.mem_append_left _ (List.mem_append_left _ (List.mem_append_left _ (List.mem_append_left _ (List.mem_append_left _ (List.mem_append_left _ (List.mem_of_getElem? (i := 2) rfl)))))))) rfl rfl dX10_gatherFacts_86 ?_
        refine lv_iconst (v := 4) hx hb dX10_gatherFacts_89 (by decide) ?_
        refine lv_iload hx hb dX10_gatherFacts_90 (lv_at hl 0 rfl) ?_
        refine lv_aload_n hx hb dX10_gatherFacts_92 rfl (lv_at hl 4 rfl) ?_
        refine x_get (ref := "NoteHouse$Paper") F hP k659 rfl (fun _ h => List.mem_cons_of_mem _ (List.mem_append_left _ (List.mem_append_left _ (List.mem_append_left _ (List.mem_append_right _ (h)))))) 3 (Nat.le_of_ble_eq_true rfl) (List.mem_cons_of_mem _ (List.mem_append_left _ (List.mem_append_left _ (List.mem_append_left _ (List.mem_append_left _ (List.mem_append_left _ (List.mem_append_left _ (List.mem_of_getElem? (i := 5) rfl)))))))) rfl rfl dX10_gatherFacts_93 ?_
        refine lv_icmp_le (tgt := 103) hx hb dX10_gatherFacts_96 (by decide) (fun c_663 => ?_) (fun c_663 => ?_)
        · refine lv_iconst (v := 0) hx hb dX10_gatherFacts_103 (by decide) ?_
          refine y_iast F hP hD hS k657 (vp_in_iff.mpr ⟨by decide, by decide⟩) dX10_gatherFacts_104 (fun w664 ew665 H locs hP hD hS => ?_)
          have k666 := wd_at.pt ew665 k654 (wd_nk k654 k657 rfl)
          have k667 := wd_at.pt ew665 k655 (wd_nk k655 k657 rfl)
          have k668 := wd_at.pt ew665 k656 (wd_nk k656 k657 rfl)
          have k669 : wd_at w664 a8 (.inl (cy 2, 8, .inl (upd (upd (upd (upd (upd ff (0 : Int32).toNatClampNeg rx500) (1 : Int32).toNatClampNeg 0) (2 : Int32).toNatClampNeg 1) (3 : Int32).toNatClampNeg (dd - dy)) (4 : Int32).toNatClampNeg 0))) := wd_at.ps ew665 k657
          have k670 := wd_at.pt ew665 k658 (wd_nk k658 k657 rfl)
          have k671 := wd_at.pt ew665 k659 (wd_nk k659 k657 rfl)
          have fm672 : ∀ k9, k9 < ac → af k9 = some (ad k9) ∧ wd_at w664 (ad k9) (.inr (0, [.int (av0 k9), .int (av1 k9), .int (av2 k9), .int (av3 k9)])) ∧ tg (ad k9) = 4000 + k9 := fun k9 hi9 => ⟨(fm660 k9 hi9).1, wd_at.pt ew665 (fm660 k9 hi9).2.1 (wd_nk (fm660 k9 hi9).2.1 k657 rfl), (fm660 k9 hi9).2.2⟩
          have fm673 : ∀ k9, k9 < sc → zf k9 = some (so k9) ∧ wd_at w664 (so k9) (.inr (6, [.int (sp0 k9), .int (sp1 k9), .ref (sr k9)])) ∧ tg (so k9) = 5000 + k9 ∧ wd_at w664 (sr k9) (.inl (cy 2, 12, .inl (sd k9))) ∧ tg (sr k9) = 6000 + k9 := fun k9 hi9 => ⟨(fm661 k9 hi9).1, wd_at.pt ew665 (fm661 k9 hi9).2.1 (wd_nk (fm661 k9 hi9).2.1 k657 rfl), (fm661 k9 hi9).2.2.1, wd_at.pt ew665 (fm661 k9 hi9).2.2.2.1 (wd_nk (fm661 k9 hi9).2.2.2.1 k657 rfl), (fm661 k9 hi9).2.2.2.2⟩
          have kp674 := kp662.put ew665 s90
          refine lv_aload_n hx hb dX10_gatherFacts_105 rfl (lv_at hl 2 rfl) ?_
          refine x_get (ref := "NoteHouse") F hP k666 rfl (fun _ h => List.mem_cons_of_mem _ (List.mem_append_left _ (List.mem_append_left _ (List.mem_append_right _ (h))))) 8 (Nat.le_of_ble_eq_true rfl) (List.mem_cons_of_mem _ (List.mem_append_left _ (List.mem_append_left _ (List.mem_append_left _ (List.mem_append_left _ (List.mem_append_left _ (List.mem_append_left _ (List.mem_of_getElem? (i := 2) rfl)))))))) rfl rfl dX10_gatherFacts_106 ?_
          refine lv_iconst (v := 5) hx hb dX10_gatherFacts_109 (by decide) ?_
          refine lv_aload_n hx hb dX10_gatherFacts_110 rfl (lv_at hl 3 rfl) ?_
          refine x_get (ref := "NoteHouse$Shown") F hP k670 rfl (fun _ h => List.mem_cons_of_mem _ (List.mem_append_left _ (List.mem_append_left _ (List.mem_append_left _ (List.mem_append_left _ (List.mem_append_right _ (h))))))) 3 (Nat.le_of_ble_eq_true rfl) (List.mem_cons_of_mem _ (List.mem_append_left _ (List.mem_append_left _ (List.mem_append_left _ (List.mem_append_left _ (List.mem_append_left _ (List.mem_append_left _ (List.mem_of_getElem? (i := 6) rfl)))))))) rfl rfl dX10_gatherFacts_111 ?_
          refine y_iast F hP hD hS k669 (vp_in_iff.mpr ⟨by decide, by decide⟩) dX10_gatherFacts_114 (fun w675 ew676 H locs hP hD hS => ?_)
          have k677 := wd_at.pt ew676 k666 (wd_nk k666 k669 rfl)
          have k678 := wd_at.pt ew676 k667 (wd_nk k667 k669 rfl)
          have k679 := wd_at.pt ew676 k668 (wd_nk k668 k669 rfl)
          have k680 : wd_at w675 a8 (.inl (cy 2, 8, .inl (upd (upd (upd (upd (upd (upd ff (0 : Int32).toNatClampNeg rx500) (1 : Int32).toNatClampNeg 0) (2 : Int32).toNatClampNeg 1) (3 : Int32).toNatClampNeg (dd - dy)) (4 : Int32).toNatClampNeg 0) (5 : Int32).toNatClampNeg am))) := wd_at.ps ew676 k669
          have k681 := wd_at.pt ew676 k670 (wd_nk k670 k669 rfl)
          have k682 := wd_at.pt ew676 k671 (wd_nk k671 k669 rfl)
          have fm683 : ∀ k9, k9 < ac → af k9 = some (ad k9) ∧ wd_at w675 (ad k9) (.inr (0, [.int (av0 k9), .int (av1 k9), .int (av2 k9), .int (av3 k9)])) ∧ tg (ad k9) = 4000 + k9 := fun k9 hi9 => ⟨(fm672 k9 hi9).1, wd_at.pt ew676 (fm672 k9 hi9).2.1 (wd_nk (fm672 k9 hi9).2.1 k669 rfl), (fm672 k9 hi9).2.2⟩
          have fm684 : ∀ k9, k9 < sc → zf k9 = some (so k9) ∧ wd_at w675 (so k9) (.inr (6, [.int (sp0 k9), .int (sp1 k9), .ref (sr k9)])) ∧ tg (so k9) = 5000 + k9 ∧ wd_at w675 (sr k9) (.inl (cy 2, 12, .inl (sd k9))) ∧ tg (sr k9) = 6000 + k9 := fun k9 hi9 => ⟨(fm673 k9 hi9).1, wd_at.pt ew676 (fm673 k9 hi9).2.1 (wd_nk (fm673 k9 hi9).2.1 k669 rfl), (fm673 k9 hi9).2.2.1, wd_at.pt ew676 (fm673 k9 hi9).2.2.2.1 (wd_nk (fm673 k9 hi9).2.2.2.1 k669 rfl), (fm673 k9 hi9).2.2.2.2⟩
          have kp685 := kp674.put ew676 s90
          refine lv_aload_n hx hb dX10_gatherFacts_115 rfl (lv_at hl 2 rfl) ?_
          refine x_get (ref := "NoteHouse") F hP k677 rfl (fun _ h => List.mem_cons_of_mem _ (List.mem_append_left _ (List.mem_append_left _ (List.mem_append_right _ (h))))) 8 (Nat.le_of_ble_eq_true rfl) (List.mem_cons_of_mem _ (List.mem_append_left _ (List.mem_append_left _ (List.mem_append_left _ (List.mem_append_left _ (List.mem_append_left _ (List.mem_append_left _ (List.mem_of_getElem? (i := 2) rfl)))))))) rfl rfl dX10_gatherFacts_116 ?_
          refine lv_bipush (v := 6) hx hb dX10_gatherFacts_119 (by decide) ?_
          refine lv_aload_n hx hb dX10_gatherFacts_121 rfl (lv_at hl 4 rfl) ?_
          refine x_get (ref := "NoteHouse$Paper") F hP k682 rfl (fun _ h => List.mem_cons_of_mem _ (List.mem_append_left _ (List.mem_append_left _ (List.mem_append_left _ (List.mem_append_right _ (h)))))) 1 (Nat.le_of_ble_eq_true rfl) (List.mem_cons_of_mem _ (List.mem_append_left _ (List.mem_append_left _ (List.mem_append_left _ (List.mem_append_left _ (List.mem_append_left _ (List.mem_append_left _ (List.mem_of_getElem? (i := 7) rfl)))))))) rfl rfl dX10_gatherFacts_122 ?_
          refine lv_aload_n hx hb dX10_gatherFacts_125 rfl (lv_at hl 4 rfl) ?_
          refine x_get (ref := "NoteHouse$Paper") F hP k682 rfl (fun _ h => List.mem_cons_of_mem _ (List.mem_append_left _ (List.mem_append_left _ (List.mem_append_left _ (List.mem_append_right _ (h)))))) 5 (Nat.le_of_ble_eq_true rfl) (List.mem_cons_of_mem _ (List.mem_append_left _ (List.mem_append_left _ (List.mem_append_left _ (List.mem_append_left _ (List.mem_append_left _ (List.mem_append_left _ (List.mem_of_getElem? (i := 8) rfl)))))))) rfl rfl dX10_gatherFacts_126 ?_
          refine lv_isub hx hb dX10_gatherFacts_129 ?_
          refine y_iast F hP hD hS k680 (vp_in_iff.mpr ⟨by decide, by decide⟩) dX10_gatherFacts_130 (fun w686 ew687 H locs hP hD hS => ?_)
          have k688 := wd_at.pt ew687 k677 (wd_nk k677 k680 rfl)
          have k689 := wd_at.pt ew687 k678 (wd_nk k678 k680 rfl)
          have k690 := wd_at.pt ew687 k679 (wd_nk k679 k680 rfl)
          have k691 : wd_at w686 a8 (.inl (cy 2, 8, .inl (upd (upd (upd (upd (upd (upd (upd ff (0 : Int32).toNatClampNeg rx500) (1 : Int32).toNatClampNeg 0) (2 : Int32).toNatClampNeg 1) (3 : Int32).toNatClampNeg (dd - dy)) (4 : Int32).toNatClampNeg 0) (5 : Int32).toNatClampNeg am) (6 : Int32).toNatClampNeg (wo - no)))) := wd_at.ps ew687 k680
          have k692 := wd_at.pt ew687 k681 (wd_nk k681 k680 rfl)
          have k693 := wd_at.pt ew687 k682 (wd_nk k682 k680 rfl)
          have fm694 : ∀ k9, k9 < ac → af k9 = some (ad k9) ∧ wd_at w686 (ad k9) (.inr (0, [.int (av0 k9), .int (av1 k9), .int (av2 k9), .int (av3 k9)])) ∧ tg (ad k9) = 4000 + k9 := fun k9 hi9 => ⟨(fm683 k9 hi9).1, wd_at.pt ew687 (fm683 k9 hi9).2.1 (wd_nk (fm683 k9 hi9).2.1 k680 rfl), (fm683 k9 hi9).2.2⟩
          have fm695 : ∀ k9, k9 < sc → zf k9 = some (so k9) ∧ wd_at w686 (so k9) (.inr (6, [.int (sp0 k9), .int (sp1 k9), .ref (sr k9)])) ∧ tg (so k9) = 5000 + k9 ∧ wd_at w686 (sr k9) (.inl (cy 2, 12, .inl (sd k9))) ∧ tg (sr k9) = 6000 + k9 := fun k9 hi9 => ⟨(fm684 k9 hi9).1, wd_at.pt ew687 (fm684 k9 hi9).2.1 (wd_nk (fm684 k9 hi9).2.1 k680 rfl), (fm684 k9 hi9).2.2.1, wd_at.pt ew687 (fm684 k9 hi9).2.2.2.1 (wd_nk (fm684 k9 hi9).2.2.2.1 k680 rfl), (fm684 k9 hi9).2.2.2.2⟩
          have kp696 := kp685.put ew687 s90
          refine lv_aload_n hx hb dX10_gatherFacts_131 rfl (lv_at hl 2 rfl) ?_
          refine x_get (ref := "NoteHouse") F hP k688 rfl (fun _ h => List.mem_cons_of_mem _ (List.mem_append_left _ (List.mem_append_left _ (List.mem_append_right _ (h))))) 8 (Nat.le_of_ble_eq_true rfl) (List.mem_cons_of_mem _ (List.mem_append_left _ (List.mem_append_left _ (List.mem_append_left _ (List.mem_append_left _ (List.mem_append_left _ (List.mem_append_left _ (List.mem_of_getElem? (i := 2) rfl)))))))) rfl rfl dX10_gatherFacts_132 ?_
          refine lv_bipush (v := 7) hx hb dX10_gatherFacts_135 (by decide) ?_
          refine lv_aload_n hx hb dX10_gatherFacts_137 rfl (lv_at hl 3 rfl) ?_
          refine x_get (ref := "NoteHouse$Shown") F hP k692 rfl (fun _ h => List.mem_cons_of_mem _ (List.mem_append_left _ (List.mem_append_left _ (List.mem_append_left _ (List.mem_append_left _ (List.mem_append_right _ (h))))))) 5 (Nat.le_of_ble_eq_true rfl) (List.mem_cons_of_mem _ (List.mem_append_left _ (List.mem_append_left _ (List.mem_append_left _ (List.mem_append_left _ (List.mem_append_left _ (List.mem_append_left _ (List.mem_of_getElem? (i := 0) rfl)))))))) rfl rfl dX10_gatherFacts_138 ?_
          refine y_iast F hP hD hS k691 (vp_in_iff.mpr ⟨by decide, by decide⟩) dX10_gatherFacts_141 (fun w697 ew698 H locs hP hD hS => ?_)
          have k699 := wd_at.pt ew698 k688 (wd_nk k688 k691 rfl)
          have k700 := wd_at.pt ew698 k689 (wd_nk k689 k691 rfl)
          have k701 := wd_at.pt ew698 k690 (wd_nk k690 k691 rfl)
          have k702 : wd_at w697 a8 (.inl (cy 2, 8, .inl (upd (upd (upd (upd (upd (upd (upd (upd ff (0 : Int32).toNatClampNeg rx500) (1 : Int32).toNatClampNeg 0) (2 : Int32).toNatClampNeg 1) (3 : Int32).toNatClampNeg (dd - dy)) (4 : Int32).toNatClampNeg 0) (5 : Int32).toNatClampNeg am) (6 : Int32).toNatClampNeg (wo - no)) (7 : Int32).toNatClampNeg dd))) := wd_at.ps ew698 k691
          have k703 := wd_at.pt ew698 k692 (wd_nk k692 k691 rfl)
          have k704 := wd_at.pt ew698 k693 (wd_nk k693 k691 rfl)
          have fm705 : ∀ k9, k9 < ac → af k9 = some (ad k9) ∧ wd_at w697 (ad k9) (.inr (0, [.int (av0 k9), .int (av1 k9), .int (av2 k9), .int (av3 k9)])) ∧ tg (ad k9) = 4000 + k9 := fun k9 hi9 => ⟨(fm694 k9 hi9).1, wd_at.pt ew698 (fm694 k9 hi9).2.1 (wd_nk (fm694 k9 hi9).2.1 k691 rfl), (fm694 k9 hi9).2.2⟩
          have fm706 : ∀ k9, k9 < sc → zf k9 = some (so k9) ∧ wd_at w697 (so k9) (.inr (6, [.int (sp0 k9), .int (sp1 k9), .ref (sr k9)])) ∧ tg (so k9) = 5000 + k9 ∧ wd_at w697 (sr k9) (.inl (cy 2, 12, .inl (sd k9))) ∧ tg (sr k9) = 6000 + k9 := fun k9 hi9 => ⟨(fm695 k9 hi9).1, wd_at.pt ew698 (fm695 k9 hi9).2.1 (wd_nk (fm695 k9 hi9).2.1 k691 rfl), (fm695 k9 hi9).2.2.1, wd_at.pt ew698 (fm695 k9 hi9).2.2.2.1 (wd_nk (fm695 k9 hi9).2.2.2.1 k691 rfl), (fm695 k9 hi9).2.2.2.2⟩
          have kp707 := kp696.put ew698 s90
          exact y_vr K hP hD hS (Nat.le_of_ble_eq_true rfl) (Nat.le_of_ble_eq_true rfl) rfl dX10_gatherFacts_142 (⟨upd (upd (upd (upd (upd (upd (upd (upd ff (0 : Int32).toNatClampNeg rx500) (1 : Int32).toNatClampNeg 0) (2 : Int32).toNatClampNeg 1) (3 : Int32).toNatClampNeg (dd - dy)) (4 : Int32).toNatClampNeg 0) (5 : Int32).toNatClampNeg am) (6 : Int32).toNatClampNeg (wo - no)) (7 : Int32).toNatClampNeg dd, rfl, kp707, k702⟩)
        · refine lv_iconst (v := 1) hx hb dX10_gatherFacts_99 (by decide) ?_
          refine lv_goto (tgt := 104) hx hb dX10_gatherFacts_100 (by decide) ?_
          refine y_iast F hP hD hS k657 (vp_in_iff.mpr ⟨by decide, by decide⟩) dX10_gatherFacts_104 (fun w708 ew709 H locs hP hD hS => ?_)
          have k710 := wd_at.pt ew709 k654 (wd_nk k654 k657 rfl)
          have k711 := wd_at.pt ew709 k655 (wd_nk k655 k657 rfl)
          have k712 := wd_at.pt ew709 k656 (wd_nk k656 k657 rfl)
          have k713 : wd_at w708 a8 (.inl (cy 2, 8, .inl (upd (upd (upd (upd (upd ff (0 : Int32).toNatClampNeg rx500) (1 : Int32).toNatClampNeg 0) (2 : Int32).toNatClampNeg 1) (3 : Int32).toNatClampNeg (dd - dy)) (4 : Int32).toNatClampNeg 1))) := wd_at.ps ew709 k657
          have k714 := wd_at.pt ew709 k658 (wd_nk k658 k657 rfl)
          have k715 := wd_at.pt ew709 k659 (wd_nk k659 k657 rfl)
          have fm716 : ∀ k9, k9 < ac → af k9 = some (ad k9) ∧ wd_at w708 (ad k9) (.inr (0, [.int (av0 k9), .int (av1 k9), .int (av2 k9), .int (av3 k9)])) ∧ tg (ad k9) = 4000 + k9 := fun k9 hi9 => ⟨(fm660 k9 hi9).1, wd_at.pt ew709 (fm660 k9 hi9).2.1 (wd_nk (fm660 k9 hi9).2.1 k657 rfl), (fm660 k9 hi9).2.2⟩
          have fm717 : ∀ k9, k9 < sc → zf k9 = some (so k9) ∧ wd_at w708 (so k9) (.inr (6, [.int (sp0 k9), .int (sp1 k9), .ref (sr k9)])) ∧ tg (so k9) = 5000 + k9 ∧ wd_at w708 (sr k9) (.inl (cy 2, 12, .inl (sd k9))) ∧ tg (sr k9) = 6000 + k9 := fun k9 hi9 => ⟨(fm661 k9 hi9).1, wd_at.pt ew709 (fm661 k9 hi9).2.1 (wd_nk (fm661 k9 hi9).2.1 k657 rfl), (fm661 k9 hi9).2.2.1, wd_at.pt ew709 (fm661 k9 hi9).2.2.2.1 (wd_nk (fm661 k9 hi9).2.2.2.1 k657 rfl), (fm661 k9 hi9).2.2.2.2⟩
          have kp718 := kp662.put ew709 s90
          refine lv_aload_n hx hb dX10_gatherFacts_105 rfl (lv_at hl 2 rfl) ?_
          refine x_get (ref := "NoteHouse") F hP k710 rfl (fun _ h => List.mem_cons_of_mem _ (List.mem_append_left _ (List.mem_append_left _ (List.mem_append_right _ (h))))) 8 (Nat.le_of_ble_eq_true rfl) (List.mem_cons_of_mem _ (List.mem_append_left _ (List.mem_append_left _ (List.mem_append_left _ (List.mem_append_left _ (List.mem_append_left _ (List.mem_append_left _ (List.mem_of_getElem? (i := 2) rfl)))))))) rfl rfl dX10_gatherFacts_106 ?_
          refine lv_iconst (v := 5) hx hb dX10_gatherFacts_109 (by decide) ?_
          refine lv_aload_n hx hb dX10_gatherFacts_110 rfl (lv_at hl 3 rfl) ?_
          refine x_get (ref := "NoteHouse$Shown") F hP k714 rfl (fun _ h => List.mem_cons_of_mem _ (List.mem_append_left _ (List.mem_append_left _ (List.mem_append_left _ (List.mem_append_left _ (List.mem_append_right _ (h))))))) 3 (Nat.le_of_ble_eq_true rfl) (List.mem_cons_of_mem _ (List.mem_append_left _ (List.mem_append_left _ (List.mem_append_left _ (List.mem_append_left _ (List.mem_append_left _ (List.mem_append_left _ (List.mem_of_getElem? (i := 6) rfl)))))))) rfl rfl dX10_gatherFacts_111 ?_
          refine y_iast F hP hD hS k713 (vp_in_iff.mpr ⟨by decide, by decide⟩) dX10_gatherFacts_114 (fun w719 ew720 H locs hP hD hS => ?_)
          have k721 := wd_at.pt ew720 k710 (wd_nk k710 k713 rfl)
          have k722 := wd_at.pt ew720 k711 (wd_nk k711 k713 rfl)
          have k723 := wd_at.pt ew720 k712 (wd_nk k712 k713 rfl)
          have k724 : wd_at w719 a8 (.inl (cy 2, 8, .inl (upd (upd (upd (upd (upd (upd ff (0 : Int32).toNatClampNeg rx500) (1 : Int32).toNatClampNeg 0) (2 : Int32).toNatClampNeg 1) (3 : Int32).toNatClampNeg (dd - dy)) (4 : Int32).toNatClampNeg 1) (5 : Int32).toNatClampNeg am))) := wd_at.ps ew720 k713
          have k725 := wd_at.pt ew720 k714 (wd_nk k714 k713 rfl)
          have k726 := wd_at.pt ew720 k715 (wd_nk k715 k713 rfl)
          have fm727 : ∀ k9, k9 < ac → af k9 = some (ad k9) ∧ wd_at w719 (ad k9) (.inr (0, [.int (av0 k9), .int (av1 k9), .int (av2 k9), .int (av3 k9)])) ∧ tg (ad k9) = 4000 + k9 := fun k9 hi9 => ⟨(fm716 k9 hi9).1, wd_at.pt ew720 (fm716 k9 hi9).2.1 (wd_nk (fm716 k9 hi9).2.1 k713 rfl), (fm716 k9 hi9).2.2⟩
          have fm728 : ∀ k9, k9 < sc → zf k9 = some (so k9) ∧ wd_at w719 (so k9) (.inr (6, [.int (sp0 k9), .int (sp1 k9), .ref (sr k9)])) ∧ tg (so k9) = 5000 + k9 ∧ wd_at w719 (sr k9) (.inl (cy 2, 12, .inl (sd k9))) ∧ tg (sr k9) = 6000 + k9 := fun k9 hi9 => ⟨(fm717 k9 hi9).1, wd_at.pt ew720 (fm717 k9 hi9).2.1 (wd_nk (fm717 k9 hi9).2.1 k713 rfl), (fm717 k9 hi9).2.2.1, wd_at.pt ew720 (fm717 k9 hi9).2.2.2.1 (wd_nk (fm717 k9 hi9).2.2.2.1 k713 rfl), (fm717 k9 hi9).2.2.2.2⟩
          have kp729 := kp718.put ew720 s90
          refine lv_aload_n hx hb dX10_gatherFacts_115 rfl (lv_at hl 2 rfl) ?_
          refine x_get (ref := "NoteHouse") F hP k721 rfl (fun _ h => List.mem_cons_of_mem _ (List.mem_append_left _ (List.mem_append_left _ (List.mem_append_right _ (h))))) 8 (Nat.le_of_ble_eq_true rfl) (List.mem_cons_of_mem _ (List.mem_append_left _ (List.mem_append_left _ (List.mem_append_left _ (List.mem_append_left _ (List.mem_append_left _ (List.mem_append_left _ (List.mem_of_getElem? (i := 2) rfl)))))))) rfl rfl dX10_gatherFacts_116 ?_
          refine lv_bipush (v := 6) hx hb dX10_gatherFacts_119 (by decide) ?_
          refine lv_aload_n hx hb dX10_gatherFacts_121 rfl (lv_at hl 4 rfl) ?_
          refine x_get (ref := "NoteHouse$Paper") F hP k726 rfl (fun _ h => List.mem_cons_of_mem _ (List.mem_append_left _ (List.mem_append_left _ (List.mem_append_left _ (List.mem_append_right _ (h)))))) 1 (Nat.le_of_ble_eq_true rfl) (List.mem_cons_of_mem _ (List.mem_append_left _ (List.mem_append_left _ (List.mem_append_left _ (List.mem_append_left _ (List.mem_append_left _ (List.mem_append_left _ (List.mem_of_getElem? (i := 7) rfl)))))))) rfl rfl dX10_gatherFacts_122 ?_
          refine lv_aload_n hx hb dX10_gatherFacts_125 rfl (lv_at hl 4 rfl) ?_
          refine x_get (ref := "NoteHouse$Paper") F hP k726 rfl (fun _ h => List.mem_cons_of_mem _ (List.mem_append_left _ (List.mem_append_left _ (List.mem_append_left _ (List.mem_append_right _ (h)))))) 5 (Nat.le_of_ble_eq_true rfl) (List.mem_cons_of_mem _ (List.mem_append_left _ (List.mem_append_left _ (List.mem_append_left _ (List.mem_append_left _ (List.mem_append_left _ (List.mem_append_left _ (List.mem_of_getElem? (i := 8) rfl)))))))) rfl rfl dX10_gatherFacts_126 ?_
          refine lv_isub hx hb dX10_gatherFacts_129 ?_
          refine y_iast F hP hD hS k724 (vp_in_iff.mpr ⟨by decide, by decide⟩) dX10_gatherFacts_130 (fun w730 ew731 H locs hP hD hS => ?_)
          have k732 := wd_at.pt ew731 k721 (wd_nk k721 k724 rfl)
          have k733 := wd_at.pt ew731 k722 (wd_nk k722 k724 rfl)
          have k734 := wd_at.pt ew731 k723 (wd_nk k723 k724 rfl)
          have k735 : wd_at w730 a8 (.inl (cy 2, 8, .inl (upd (upd (upd (upd (upd (upd (upd ff (0 : Int32).toNatClampNeg rx500) (1 : Int32).toNatClampNeg 0) (2 : Int32).toNatClampNeg 1) (3 : Int32).toNatClampNeg (dd - dy)) (4 : Int32).toNatClampNeg 1) (5 : Int32).toNatClampNeg am) (6 : Int32).toNatClampNeg (wo - no)))) := wd_at.ps ew731 k724
          have k736 := wd_at.pt ew731 k725 (wd_nk k725 k724 rfl)
          have k737 := wd_at.pt ew731 k726 (wd_nk k726 k724 rfl)
          have fm738 : ∀ k9, k9 < ac → af k9 = some (ad k9) ∧ wd_at w730 (ad k9) (.inr (0, [.int (av0 k9), .int (av1 k9), .int (av2 k9), .int (av3 k9)])) ∧ tg (ad k9) = 4000 + k9 := fun k9 hi9 => ⟨(fm727 k9 hi9).1, wd_at.pt ew731 (fm727 k9 hi9).2.1 (wd_nk (fm727 k9 hi9).2.1 k724 rfl), (fm727 k9 hi9).2.2⟩
          have fm739 : ∀ k9, k9 < sc → zf k9 = some (so k9) ∧ wd_at w730 (so k9) (.inr (6, [.int (sp0 k9), .int (sp1 k9), .ref (sr k9)])) ∧ tg (so k9) = 5000 + k9 ∧ wd_at w730 (sr k9) (.inl (cy 2, 12, .inl (sd k9))) ∧ tg (sr k9) = 6000 + k9 := fun k9 hi9 => ⟨(fm728 k9 hi9).1, wd_at.pt ew731 (fm728 k9 hi9).2.1 (wd_nk (fm728 k9 hi9).2.1 k724 rfl), (fm728 k9 hi9).2.2.1, wd_at.pt ew731 (fm728 k9 hi9).2.2.2.1 (wd_nk (fm728 k9 hi9).2.2.2.1 k724 rfl), (fm728 k9 hi9).2.2.2.2⟩
          have kp740 := kp729.put ew731 s90
          refine lv_aload_n hx hb dX10_gatherFacts_131 rfl (lv_at hl 2 rfl) ?_
          refine x_get (ref := "NoteHouse") F hP k732 rfl (fun _ h => List.mem_cons_of_mem _ (List.mem_append_left _ (List.mem_append_left _ (List.mem_append_right _ (h))))) 8 (Nat.le_of_ble_eq_true rfl) (List.mem_cons_of_mem _ (List.mem_append_left _ (List.mem_append_left _ (List.mem_append_left _ (List.mem_append_left _ (List.mem_append_left _ (List.mem_append_left _ (List.mem_of_getElem? (i := 2) rfl)))))))) rfl rfl dX10_gatherFacts_132 ?_
          refine lv_bipush (v := 7) hx hb dX10_gatherFacts_135 (by decide) ?_
          refine lv_aload_n hx hb dX10_gatherFacts_137 rfl (lv_at hl 3 rfl) ?_
          refine x_get (ref := "NoteHouse$Shown") F hP k736 rfl (fun _ h => List.mem_cons_of_mem _ (List.mem_append_left _ (List.mem_append_left _ (List.mem_append_left _ (List.mem_append_left _ (List.mem_append_right _ (h))))))) 5 (Nat.le_of_ble_eq_true rfl) (List.mem_cons_of_mem _ (List.mem_append_left _ (List.mem_append_left _ (List.mem_append_left _ (List.mem_append_left _ (List.mem_append_left _ (List.mem_append_left _ (List.mem_of_getElem? (i := 0) rfl)))))))) rfl rfl dX10_gatherFacts_138 ?_
          refine y_iast F hP hD hS k735 (vp_in_iff.mpr ⟨by decide, by decide⟩) dX10_gatherFacts_141 (fun w741 ew742 H locs hP hD hS => ?_)
          have k743 := wd_at.pt ew742 k732 (wd_nk k732 k735 rfl)
          have k744 := wd_at.pt ew742 k733 (wd_nk k733 k735 rfl)
          have k745 := wd_at.pt ew742 k734 (wd_nk k734 k735 rfl)
          have k746 : wd_at w741 a8 (.inl (cy 2, 8, .inl (upd (upd (upd (upd (upd (upd (upd (upd ff (0 : Int32).toNatClampNeg rx500) (1 : Int32).toNatClampNeg 0) (2 : Int32).toNatClampNeg 1) (3 : Int32).toNatClampNeg (dd - dy)) (4 : Int32).toNatClampNeg 1) (5 : Int32).toNatClampNeg am) (6 : Int32).toNatClampNeg (wo - no)) (7 : Int32).toNatClampNeg dd))) := wd_at.ps ew742 k735
          have k747 := wd_at.pt ew742 k736 (wd_nk k736 k735 rfl)
          have k748 := wd_at.pt ew742 k737 (wd_nk k737 k735 rfl)
          have fm749 : ∀ k9, k9 < ac → af k9 = some (ad k9) ∧ wd_at w741 (ad k9) (.inr (0, [.int (av0 k9), .int (av1 k9), .int (av2 k9), .int (av3 k9)])) ∧ tg (ad k9) = 4000 + k9 := fun k9 hi9 => ⟨(fm738 k9 hi9).1, wd_at.pt ew742 (fm738 k9 hi9).2.1 (wd_nk (fm738 k9 hi9).2.1 k735 rfl), (fm738 k9 hi9).2.2⟩
          have fm750 : ∀ k9, k9 < sc → zf k9 = some (so k9) ∧ wd_at w741 (so k9) (.inr (6, [.int (sp0 k9), .int (sp1 k9), .ref (sr k9)])) ∧ tg (so k9) = 5000 + k9 ∧ wd_at w741 (sr k9) (.inl (cy 2, 12, .inl (sd k9))) ∧ tg (sr k9) = 6000 + k9 := fun k9 hi9 => ⟨(fm739 k9 hi9).1, wd_at.pt ew742 (fm739 k9 hi9).2.1 (wd_nk (fm739 k9 hi9).2.1 k735 rfl), (fm739 k9 hi9).2.2.1, wd_at.pt ew742 (fm739 k9 hi9).2.2.2.1 (wd_nk (fm739 k9 hi9).2.2.2.1 k735 rfl), (fm739 k9 hi9).2.2.2.2⟩
          have kp751 := kp740.put ew742 s90
          exact y_vr K hP hD hS (Nat.le_of_ble_eq_true rfl) (Nat.le_of_ble_eq_true rfl) rfl dX10_gatherFacts_142 (⟨upd (upd (upd (upd (upd (upd (upd (upd ff (0 : Int32).toNatClampNeg rx500) (1 : Int32).toNatClampNeg 0) (2 : Int32).toNatClampNeg 1) (3 : Int32).toNatClampNeg (dd - dy)) (4 : Int32).toNatClampNeg 1) (5 : Int32).toNatClampNeg am) (6 : Int32).toNatClampNeg (wo - no)) (7 : Int32).toNatClampNeg dd, rfl, kp751, k746⟩)
    · refine lv_iconst (v := 1) hx hb dX10_gatherFacts_52 (by decide) ?_
      refine lv_goto (tgt := 57) hx hb dX10_gatherFacts_53 (by decide) ?_
      refine y_iast F hP hD hS k506 (vp_in_iff.mpr ⟨by decide, by decide⟩) dX10_gatherFacts_57 (fun w752 ew753 H locs hP hD hS => ?_)
      have k754 := wd_at.pt ew753 k503 (wd_nk k503 k506 rfl)
      have k755 := wd_at.pt ew753 k504 (wd_nk k504 k506 rfl)
      have k756 := wd_at.pt ew753 k505 (wd_nk k505 k506 rfl)
      have k757 : wd_at w752 a8 (.inl (cy 2, 8, .inl (upd (upd ff (0 : Int32).toNatClampNeg rx500) (1 : Int32).toNatClampNeg 1))) := wd_at.ps ew753 k506
      have k758 := wd_at.pt ew753 k507 (wd_nk k507 k506 rfl)
      have k759 := wd_at.pt ew753 k508 (wd_nk k508 k506 rfl)
      have fm760 : ∀ k9, k9 < ac → af k9 = some (ad k9) ∧ wd_at w752 (ad k9) (.inr (0, [.int (av0 k9), .int (av1 k9), .int (av2 k9), .int (av3 k9)])) ∧ tg (ad k9) = 4000 + k9 := fun k9 hi9 => ⟨(fm509 k9 hi9).1, wd_at.pt ew753 (fm509 k9 hi9).2.1 (wd_nk (fm509 k9 hi9).2.1 k506 rfl), (fm509 k9 hi9).2.2⟩
      have fm761 : ∀ k9, k9 < sc → zf k9 = some (so k9) ∧ wd_at w752 (so k9) (.inr (6, [.int (sp0 k9), .int (sp1 k9), .ref (sr k9)])) ∧ tg (so k9) = 5000 + k9 ∧ wd_at w752 (sr k9) (.inl (cy 2, 12, .inl (sd k9))) ∧ tg (sr k9) = 6000 + k9 := fun k9 hi9 => ⟨(fm510 k9 hi9).1, wd_at.pt ew753 (fm510 k9 hi9).2.1 (wd_nk (fm510 k9 hi9).2.1 k506 rfl), (fm510 k9 hi9).2.2.1, wd_at.pt ew753 (fm510 k9 hi9).2.2.2.1 (wd_nk (fm510 k9 hi9).2.2.2.1 k506 rfl), (fm510 k9 hi9).2.2.2.2⟩
      have kp762 := kp511.put ew753 s90
      refine lv_aload_n hx hb dX10_gatherFacts_58 rfl (lv_at hl 2 rfl) ?_
      refine x_get (ref := "NoteHouse") F hP k754 rfl (fun _ h => List.mem_cons_of_mem _ (List.mem_append_left _ (List.mem_append_left _ (List.mem_append_right _ (h))))) 8 (Nat.le_of_ble_eq_true rfl) (List.mem_cons_of_mem _ (List.mem_append_left _ (List.mem_append_left _ (List.mem_append_left _ (List.mem_append_left _ (List.mem_append_left _ (List.mem_append_left _ (List.mem_of_getElem? (i := 2) rfl)))))))) rfl rfl dX10_gatherFacts_59 ?_
      refine lv_iconst (v := 2) hx hb dX10_gatherFacts_62 (by decide) ?_
      refine lv_aload_n hx hb dX10_gatherFacts_63 rfl (lv_at hl 2 rfl) ?_
      refine lv_aload_n hx hb dX10_gatherFacts_64 rfl (lv_at hl 3 rfl) ?_
      refine x_callV (n := 1) (As := [.ref z]) (rest := [.int 2, .ref a8]) F hP hD hS (g_isStopped l D cy sk sv w752 x a0 a1 a2 a3 a4 a5 a6 a7 a8 a9 a10 a11 pc ac sc sh td tg zf so sr sp0 sp1 sd z tw pp le am hh dd ru de cp ld k754 k756 k758 fm761 (by omega) (by omega)) gX10_gatherFacts_X10_isStopped rfl rfl (by decide +kernel) ⟨(Nat.le_of_ble_eq_true rfl), (Nat.le_of_ble_eq_true rfl)⟩ rfl hl.1 (Nat.le_of_ble_eq_true rfl) k754 rfl dX10_gatherFacts_65 rfl ⟨(Nat.le_of_ble_eq_true rfl), (Nat.le_of_ble_eq_true rfl)⟩ (fun v764 w765 hp763 H locs hP hD hS => ?_)
      obtain ⟨rx766, rfl, hz767, rfl⟩ := hp763
      refine W.eq (g2 := F0 m 68 ls [.int rx766, .int 2, .ref a8]) rfl (W.widen (k := 0) (n := 0) (Nat.le_of_ble_eq_true rfl) (Nat.le_of_ble_eq_true rfl) ?_)
      refine lv_if_eq (tgt := 75) hx hb dX10_gatherFacts_68 (by decide) (fun c_768 => ?_) (fun c_768 => ?_)
      · refine lv_iconst (v := 0) hx hb dX10_gatherFacts_75 (by decide) ?_
        refine y_iast F hP hD hS k757 (vp_in_iff.mpr ⟨by decide, by decide⟩) dX10_gatherFacts_76 (fun w769 ew770 H locs hP hD hS => ?_)
        have k771 := wd_at.pt ew770 k754 (wd_nk k754 k757 rfl)
        have k772 := wd_at.pt ew770 k755 (wd_nk k755 k757 rfl)
        have k773 := wd_at.pt ew770 k756 (wd_nk k756 k757 rfl)
        have k774 : wd_at w769 a8 (.inl (cy 2, 8, .inl (upd (upd (upd ff (0 : Int32).toNatClampNeg rx500) (1 : Int32).toNatClampNeg 1) (2 : Int32).toNatClampNeg 0))) := wd_at.ps ew770 k757
        have k775 := wd_at.pt ew770 k758 (wd_nk k758 k757 rfl)
        have k776 := wd_at.pt ew770 k759 (wd_nk k759 k757 rfl)
        have fm777 : ∀ k9, k9 < ac → af k9 = some (ad k9) ∧ wd_at w769 (ad k9) (.inr (0, [.int (av0 k9), .int (av1 k9), .int (av2 k9), .int (av3 k9)])) ∧ tg (ad k9) = 4000 + k9 := fun k9 hi9 => ⟨(fm760 k9 hi9).1, wd_at.pt ew770 (fm760 k9 hi9).2.1 (wd_nk (fm760 k9 hi9).2.1 k757 rfl), (fm760 k9 hi9).2.2⟩
        have fm778 : ∀ k9, k9 < sc → zf k9 = some (so k9) ∧ wd_at w769 (so k9) (.inr (6, [.int (sp0 k9), .int (sp1 k9), .ref (sr k9)])) ∧ tg (so k9) = 5000 + k9 ∧ wd_at w769 (sr k9) (.inl (cy 2, 12, .inl (sd k9))) ∧ tg (sr k9) = 6000 + k9 := fun k9 hi9 => ⟨(fm761 k9 hi9).1, wd_at.pt ew770 (fm761 k9 hi9).2.1 (wd_nk (fm761 k9 hi9).2.1 k757 rfl), (fm761 k9 hi9).2.2.1, wd_at.pt ew770 (fm761 k9 hi9).2.2.2.1 (wd_nk (fm761 k9 hi9).2.2.2.1 k757 rfl), (fm761 k9 hi9).2.2.2.2⟩
        have kp779 := kp762.put ew770 s90
        refine lv_aload_n hx hb dX10_gatherFacts_77 rfl (lv_at hl 2 rfl) ?_
        refine x_get (ref := "NoteHouse") F hP k771 rfl (fun _ h => List.mem_cons_of_mem _ (List.mem_append_left _ (List.mem_append_left _ (List.mem_append_right _ (h))))) 8 (Nat.le_of_ble_eq_true rfl) (List.mem_cons_of_mem _ (List.mem_append_left _ (List.mem_append_left _ (List.mem_append_left _ (List.mem_append_left _ (List.mem_append_left _ (List.mem_append_left _ (List.mem_of_getElem? (i := 2) rfl)))))))) rfl rfl dX10_gatherFacts_78 ?_
        refine lv_iconst (v := 3) hx hb dX10_gatherFacts_81 (by decide) ?_
        refine lv_iload hx hb dX10_gatherFacts_82 (lv_at hl 0 rfl) ?_
        refine y_iast F hP hD hS k774 (vp_in_iff.mpr ⟨by decide, by decide⟩) dX10_gatherFacts_84 (fun w780 ew781 H locs hP hD hS => ?_)
        have k782 := wd_at.pt ew781 k771 (wd_nk k771 k774 rfl)
        have k783 := wd_at.pt ew781 k772 (wd_nk k772 k774 rfl)
        have k784 := wd_at.pt ew781 k773 (wd_nk k773 k774 rfl)
        have k785 : wd_at w780 a8 (.inl (cy 2, 8, .inl (upd (upd (upd (upd ff (0 : Int32).toNatClampNeg rx500) (1 : Int32).toNatClampNeg 1) (2 : Int32).toNatClampNeg 0) (3 : Int32).toNatClampNeg (dd - dy)))) := wd_at.ps ew781 k774
        have k786 := wd_at.pt ew781 k775 (wd_nk k775 k774 rfl)
        have k787 := wd_at.pt ew781 k776 (wd_nk k776 k774 rfl)
        have fm788 : ∀ k9, k9 < ac → af k9 = some (ad k9) ∧ wd_at w780 (ad k9) (.inr (0, [.int (av0 k9), .int (av1 k9), .int (av2 k9), .int (av3 k9)])) ∧ tg (ad k9) = 4000 + k9 := fun k9 hi9 => ⟨(fm777 k9 hi9).1, wd_at.pt ew781 (fm777 k9 hi9).2.1 (wd_nk (fm777 k9 hi9).2.1 k774 rfl), (fm777 k9 hi9).2.2⟩
        have fm789 : ∀ k9, k9 < sc → zf k9 = some (so k9) ∧ wd_at w780 (so k9) (.inr (6, [.int (sp0 k9), .int (sp1 k9), .ref (sr k9)])) ∧ tg (so k9) = 5000 + k9 ∧ wd_at w780 (sr k9) (.inl (cy 2, 12, .inl (sd k9))) ∧ tg (sr k9) = 6000 + k9 := fun k9 hi9 => ⟨(fm778 k9 hi9).1, wd_at.pt ew781 (fm778 k9 hi9).2.1 (wd_nk (fm778 k9 hi9).2.1 k774 rfl), (fm778 k9 hi9).2.2.1, wd_at.pt ew781 (fm778 k9 hi9).2.2.2.1 (wd_nk (fm778 k9 hi9).2.2.2.1 k774 rfl), (fm778 k9 hi9).2.2.2.2⟩
        have kp790 := kp779.put ew781 s90
        refine lv_aload_n hx hb dX10_gatherFacts_85 rfl (lv_at hl 2 rfl) ?_
        refine x_get (ref := "NoteHouse") F hP k782 rfl (fun _ h => List.mem_cons_of_mem _ (List.mem_append_left _ (List.mem_append_left _ (List.mem_append_right _ (h))))) 8 (Nat.le_of_ble_eq_true rfl) (List.mem_cons_of_mem _ (List.mem_append_left _ (List.mem_append_left _ (List.mem_append_left _ (List.mem_append_left _ (List.mem_append_left _ (List.mem_append_left _ (List.mem_of_getElem? (i := 2) rfl)))))))) rfl rfl dX10_gatherFacts_86 ?_
        refine lv_iconst (v := 4) hx hb dX10_gatherFacts_89 (by decide) ?_
        refine lv_iload hx hb dX10_gatherFacts_90 (lv_at hl 0 rfl) ?_
        refine lv_aload_n hx hb dX10_gatherFacts_92 rfl (lv_at hl 4 rfl) ?_
        refine x_get (ref := "NoteHouse$Paper") F hP k787 rfl (fun _ h => List.mem_cons_of_mem _ (List.mem_append_left _ (List.mem_append_left _ (List.mem_append_left _ (List.mem_append_right _ (h)))))) 3 (Nat.le_of_ble_eq_true rfl) (List.mem_cons_of_mem _ (List.mem_append_left _ (List.mem_append_left _ (List.mem_append_left _ (List.mem_append_left _ (List.mem_append_left _ (List.mem_append_left _ (List.mem_of_getElem? (i := 5) rfl)))))))) rfl rfl dX10_gatherFacts_93 ?_
        refine lv_icmp_le (tgt := 103) hx hb dX10_gatherFacts_96 (by decide) (fun c_791 => ?_) (fun c_791 => ?_)
        · refine lv_iconst (v := 0) hx hb dX10_gatherFacts_103 (by decide) ?_
          refine y_iast F hP hD hS k785 (vp_in_iff.mpr ⟨by decide, by decide⟩) dX10_gatherFacts_104 (fun w792 ew793 H locs hP hD hS => ?_)
          have k794 := wd_at.pt ew793 k782 (wd_nk k782 k785 rfl)
          have k795 := wd_at.pt ew793 k783 (wd_nk k783 k785 rfl)
          have k796 := wd_at.pt ew793 k784 (wd_nk k784 k785 rfl)
          have k797 : wd_at w792 a8 (.inl (cy 2, 8, .inl (upd (upd (upd (upd (upd ff (0 : Int32).toNatClampNeg rx500) (1 : Int32).toNatClampNeg 1) (2 : Int32).toNatClampNeg 0) (3 : Int32).toNatClampNeg (dd - dy)) (4 : Int32).toNatClampNeg 0))) := wd_at.ps ew793 k785
          have k798 := wd_at.pt ew793 k786 (wd_nk k786 k785 rfl)
          have k799 := wd_at.pt ew793 k787 (wd_nk k787 k785 rfl)
          have fm800 : ∀ k9, k9 < ac → af k9 = some (ad k9) ∧ wd_at w792 (ad k9) (.inr (0, [.int (av0 k9), .int (av1 k9), .int (av2 k9), .int (av3 k9)])) ∧ tg (ad k9) = 4000 + k9 := fun k9 hi9 => ⟨(fm788 k9 hi9).1, wd_at.pt ew793 (fm788 k9 hi9).2.1 (wd_nk (fm788 k9 hi9).2.1 k785 rfl), (fm788 k9 hi9).2.2⟩
          have fm801 : ∀ k9, k9 < sc → zf k9 = some (so k9) ∧ wd_at w792 (so k9) (.inr (6, [.int (sp0 k9), .int (sp1 k9), .ref (sr k9)])) ∧ tg (so k9) = 5000 + k9 ∧ wd_at w792 (sr k9) (.inl (cy 2, 12, .inl (sd k9))) ∧ tg (sr k9) = 6000 + k9 := fun k9 hi9 => ⟨(fm789 k9 hi9).1, wd_at.pt ew793 (fm789 k9 hi9).2.1 (wd_nk (fm789 k9 hi9).2.1 k785 rfl), (fm789 k9 hi9).2.2.1, wd_at.pt ew793 (fm789 k9 hi9).2.2.2.1 (wd_nk (fm789 k9 hi9).2.2.2.1 k785 rfl), (fm789 k9 hi9).2.2.2.2⟩
          have kp802 := kp790.put ew793 s90
          refine lv_aload_n hx hb dX10_gatherFacts_105 rfl (lv_at hl 2 rfl) ?_
          refine x_get (ref := "NoteHouse") F hP k794 rfl (fun _ h => List.mem_cons_of_mem _ (List.mem_append_left _ (List.mem_append_left _ (List.mem_append_right _ (h))))) 8 (Nat.le_of_ble_eq_true rfl) (List.mem_cons_of_mem _ (List.mem_append_left _ (List.mem_append_left _ (List.mem_append_left _ (List.mem_append_left _ (List.mem_append_left _ (List.mem_append_left _ (List.mem_of_getElem? (i := 2) rfl)))))))) rfl rfl dX10_gatherFacts_106 ?_
          refine lv_iconst (v := 5) hx hb dX10_gatherFacts_109 (by decide) ?_
          refine lv_aload_n hx hb dX10_gatherFacts_110 rfl (lv_at hl 3 rfl) ?_
          refine x_get (ref := "NoteHouse$Shown") F hP k798 rfl (fun _ h => List.mem_cons_of_mem _ (List.mem_append_left _ (List.mem_append_left _ (List.mem_append_left _ (List.mem_append_left _ (List.mem_append_right _ (h))))))) 3 (Nat.le_of_ble_eq_true rfl) (List.mem_cons_of_mem _ (List.mem_append_left _ (List.mem_append_left _ (List.mem_append_left _ (List.mem_append_left _ (List.mem_append_left _ (List.mem_append_left _ (List.mem_of_getElem? (i := 6) rfl)))))))) rfl rfl dX10_gatherFacts_111 ?_
          refine y_iast F hP hD hS k797 (vp_in_iff.mpr ⟨by decide, by decide⟩) dX10_gatherFacts_114 (fun w803 ew804 H locs hP hD hS => ?_)
          have k805 := wd_at.pt ew804 k794 (wd_nk k794 k797 rfl)
          have k806 := wd_at.pt ew804 k795 (wd_nk k795 k797 rfl)
          have k807 := wd_at.pt ew804 k796 (wd_nk k796 k797 rfl)
          have k808 : wd_at w803 a8 (.inl (cy 2, 8, .inl (upd (upd (upd (upd (upd (upd ff (0 : Int32).toNatClampNeg rx500) (1 : Int32).toNatClampNeg 1) (2 : Int32).toNatClampNeg 0) (3 : Int32).toNatClampNeg (dd - dy)) (4 : Int32).toNatClampNeg 0) (5 : Int32).toNatClampNeg am))) := wd_at.ps ew804 k797
          have k809 := wd_at.pt ew804 k798 (wd_nk k798 k797 rfl)
          have k810 := wd_at.pt ew804 k799 (wd_nk k799 k797 rfl)
          have fm811 : ∀ k9, k9 < ac → af k9 = some (ad k9) ∧ wd_at w803 (ad k9) (.inr (0, [.int (av0 k9), .int (av1 k9), .int (av2 k9), .int (av3 k9)])) ∧ tg (ad k9) = 4000 + k9 := fun k9 hi9 => ⟨(fm800 k9 hi9).1, wd_at.pt ew804 (fm800 k9 hi9).2.1 (wd_nk (fm800 k9 hi9).2.1 k797 rfl), (fm800 k9 hi9).2.2⟩
          have fm812 : ∀ k9, k9 < sc → zf k9 = some (so k9) ∧ wd_at w803 (so k9) (.inr (6, [.int (sp0 k9), .int (sp1 k9), .ref (sr k9)])) ∧ tg (so k9) = 5000 + k9 ∧ wd_at w803 (sr k9) (.inl (cy 2, 12, .inl (sd k9))) ∧ tg (sr k9) = 6000 + k9 := fun k9 hi9 => ⟨(fm801 k9 hi9).1, wd_at.pt ew804 (fm801 k9 hi9).2.1 (wd_nk (fm801 k9 hi9).2.1 k797 rfl), (fm801 k9 hi9).2.2.1, wd_at.pt ew804 (fm801 k9 hi9).2.2.2.1 (wd_nk (fm801 k9 hi9).2.2.2.1 k797 rfl), (fm801 k9 hi9).2.2.2.2⟩
          have kp813 := kp802.put ew804 s90
          refine lv_aload_n hx hb dX10_gatherFacts_115 rfl (lv_at hl 2 rfl) ?_
          refine x_get (ref := "NoteHouse") F hP k805 rfl (fun _ h => List.mem_cons_of_mem _ (List.mem_append_left _ (List.mem_append_left _ (List.mem_append_right _ (h))))) 8 (Nat.le_of_ble_eq_true rfl) (List.mem_cons_of_mem _ (List.mem_append_left _ (List.mem_append_left _ (List.mem_append_left _ (List.mem_append_left _ (List.mem_append_left _ (List.mem_append_left _ (List.mem_of_getElem? (i := 2) rfl)))))))) rfl rfl dX10_gatherFacts_116 ?_
          refine lv_bipush (v := 6) hx hb dX10_gatherFacts_119 (by decide) ?_
          refine lv_aload_n hx hb dX10_gatherFacts_121 rfl (lv_at hl 4 rfl) ?_
          refine x_get (ref := "NoteHouse$Paper") F hP k810 rfl (fun _ h => List.mem_cons_of_mem _ (List.mem_append_left _ (List.mem_append_left _ (List.mem_append_left _ (List.mem_append_right _ (h)))))) 1 (Nat.le_of_ble_eq_true rfl) (List.mem_cons_of_mem _ (List.mem_append_left _ (List.mem_append_left _ (List.mem_append_left _ (List.mem_append_left _ (List.mem_append_left _ (List.mem_append_left _ (List.mem_of_getElem? (i := 7) rfl)))))))) rfl rfl dX10_gatherFacts_122 ?_
          refine lv_aload_n hx hb dX10_gatherFacts_125 rfl (lv_at hl 4 rfl) ?_
          refine x_get (ref := "NoteHouse$Paper") F hP k810 rfl (fun _ h => List.mem_cons_of_mem _ (List.mem_append_left _ (List.mem_append_left _ (List.mem_append_left _ (List.mem_append_right _ (h)))))) 5 (Nat.le_of_ble_eq_true rfl) (List.mem_cons_of_mem _ (List.mem_append_left _ (List.mem_append_left _ (List.mem_append_left _ (List.mem_append_left _ (List.mem_append_left _ (List.mem_append_left _ (List.mem_of_getElem? (i := 8) rfl)))))))) rfl rfl dX10_gatherFacts_126 ?_
          refine lv_isub hx hb dX10_gatherFacts_129 ?_
          refine y_iast F hP hD hS k808 (vp_in_iff.mpr ⟨by decide, by decide⟩) dX10_gatherFacts_130 (fun w814 ew815 H locs hP hD hS => ?_)
          have k816 := wd_at.pt ew815 k805 (wd_nk k805 k808 rfl)
          have k817 := wd_at.pt ew815 k806 (wd_nk k806 k808 rfl)
          have k818 := wd_at.pt ew815 k807 (wd_nk k807 k808 rfl)
          have k819 : wd_at w814 a8 (.inl (cy 2, 8, .inl (upd (upd (upd (upd (upd (upd (upd ff (0 : Int32).toNatClampNeg rx500) (1 : Int32).toNatClampNeg 1) (2 : Int32).toNatClampNeg 0) (3 : Int32).toNatClampNeg (dd - dy)) (4 : Int32).toNatClampNeg 0) (5 : Int32).toNatClampNeg am) (6 : Int32).toNatClampNeg (wo - no)))) := wd_at.ps ew815 k808
          have k820 := wd_at.pt ew815 k809 (wd_nk k809 k808 rfl)
          have k821 := wd_at.pt ew815 k810 (wd_nk k810 k808 rfl)
          have fm822 : ∀ k9, k9 < ac → af k9 = some (ad k9) ∧ wd_at w814 (ad k9) (.inr (0, [.int (av0 k9), .int (av1 k9), .int (av2 k9), .int (av3 k9)])) ∧ tg (ad k9) = 4000 + k9 := fun k9 hi9 => ⟨(fm811 k9 hi9).1, wd_at.pt ew815 (fm811 k9 hi9).2.1 (wd_nk (fm811 k9 hi9).2.1 k808 rfl), (fm811 k9 hi9).2.2⟩
          have fm823 : ∀ k9, k9 < sc → zf k9 = some (so k9) ∧ wd_at w814 (so k9) (.inr (6, [.int (sp0 k9), .int (sp1 k9), .ref (sr k9)])) ∧ tg (so k9) = 5000 + k9 ∧ wd_at w814 (sr k9) (.inl (cy 2, 12, .inl (sd k9))) ∧ tg (sr k9) = 6000 + k9 := fun k9 hi9 => ⟨(fm812 k9 hi9).1, wd_at.pt ew815 (fm812 k9 hi9).2.1 (wd_nk (fm812 k9 hi9).2.1 k808 rfl), (fm812 k9 hi9).2.2.1, wd_at.pt ew815 (fm812 k9 hi9).2.2.2.1 (wd_nk (fm812 k9 hi9).2.2.2.1 k808 rfl), (fm812 k9 hi9).2.2.2.2⟩
          have kp824 := kp813.put ew815 s90
          refine lv_aload_n hx hb dX10_gatherFacts_131 rfl (lv_at hl 2 rfl) ?_
          refine x_get (ref := "NoteHouse") F hP k816 rfl (fun _ h => List.mem_cons_of_mem _ (List.mem_append_left _ (List.mem_append_left _ (List.mem_append_right _ (h))))) 8 (Nat.le_of_ble_eq_true rfl) (List.mem_cons_of_mem _ (List.mem_append_left _ (List.mem_append_left _ (List.mem_append_left _ (List.mem_append_left _ (List.mem_append_left _ (List.mem_append_left _ (List.mem_of_getElem? (i := 2) rfl)))))))) rfl rfl dX10_gatherFacts_132 ?_
          refine lv_bipush (v := 7) hx hb dX10_gatherFacts_135 (by decide) ?_
          refine lv_aload_n hx hb dX10_gatherFacts_137 rfl (lv_at hl 3 rfl) ?_
          refine x_get (ref := "NoteHouse$Shown") F hP k820 rfl (fun _ h => List.mem_cons_of_mem _ (List.mem_append_left _ (List.mem_append_left _ (List.mem_append_left _ (List.mem_append_left _ (List.mem_append_right _ (h))))))) 5 (Nat.le_of_ble_eq_true rfl) (List.mem_cons_of_mem _ (List.mem_append_left _ (List.mem_append_left _ (List.mem_append_left _ (List.mem_append_left _ (List.mem_append_left _ (List.mem_append_left _ (List.mem_of_getElem? (i := 0) rfl)))))))) rfl rfl dX10_gatherFacts_138 ?_
          refine y_iast F hP hD hS k819 (vp_in_iff.mpr ⟨by decide, by decide⟩) dX10_gatherFacts_141 (fun w825 ew826 H locs hP hD hS => ?_)
          have k827 := wd_at.pt ew826 k816 (wd_nk k816 k819 rfl)
          have k828 := wd_at.pt ew826 k817 (wd_nk k817 k819 rfl)
          have k829 := wd_at.pt ew826 k818 (wd_nk k818 k819 rfl)
          have k830 : wd_at w825 a8 (.inl (cy 2, 8, .inl (upd (upd (upd (upd (upd (upd (upd (upd ff (0 : Int32).toNatClampNeg rx500) (1 : Int32).toNatClampNeg 1) (2 : Int32).toNatClampNeg 0) (3 : Int32).toNatClampNeg (dd - dy)) (4 : Int32).toNatClampNeg 0) (5 : Int32).toNatClampNeg am) (6 : Int32).toNatClampNeg (wo - no)) (7 : Int32).toNatClampNeg dd))) := wd_at.ps ew826 k819
          have k831 := wd_at.pt ew826 k820 (wd_nk k820 k819 rfl)
          have k832 := wd_at.pt ew826 k821 (wd_nk k821 k819 rfl)
          have fm833 : ∀ k9, k9 < ac → af k9 = some (ad k9) ∧ wd_at w825 (ad k9) (.inr (0, [.int (av0 k9), .int (av1 k9), .int (av2 k9), .int (av3 k9)])) ∧ tg (ad k9) = 4000 + k9 := fun k9 hi9 => ⟨(fm822 k9 hi9).1, wd_at.pt ew826 (fm822 k9 hi9).2.1 (wd_nk (fm822 k9 hi9).2.1 k819 rfl), (fm822 k9 hi9).2.2⟩
          have fm834 : ∀ k9, k9 < sc → zf k9 = some (so k9) ∧ wd_at w825 (so k9) (.inr (6, [.int (sp0 k9), .int (sp1 k9), .ref (sr k9)])) ∧ tg (so k9) = 5000 + k9 ∧ wd_at w825 (sr k9) (.inl (cy 2, 12, .inl (sd k9))) ∧ tg (sr k9) = 6000 + k9 := fun k9 hi9 => ⟨(fm823 k9 hi9).1, wd_at.pt ew826 (fm823 k9 hi9).2.1 (wd_nk (fm823 k9 hi9).2.1 k819 rfl), (fm823 k9 hi9).2.2.1, wd_at.pt ew826 (fm823 k9 hi9).2.2.2.1 (wd_nk (fm823 k9 hi9).2.2.2.1 k819 rfl), (fm823 k9 hi9).2.2.2.2⟩
          have kp835 := kp824.put ew826 s90
          exact y_vr K hP hD hS (Nat.le_of_ble_eq_true rfl) (Nat.le_of_ble_eq_true rfl) rfl dX10_gatherFacts_142 (⟨upd (upd (upd (upd (upd (upd (upd (upd ff (0 : Int32).toNatClampNeg rx500) (1 : Int32).toNatClampNeg 1) (2 : Int32).toNatClampNeg 0) (3 : Int32).toNatClampNeg (dd - dy)) (4 : Int32).toNatClampNeg 0) (5 : Int32).toNatClampNeg am) (6 : Int32).toNatClampNeg (wo - no)) (7 : Int32).toNatClampNeg dd, rfl, kp835, k830⟩)
        · refine lv_iconst (v := 1) hx hb dX10_gatherFacts_99 (by decide) ?_
          refine lv_goto (tgt := 104) hx hb dX10_gatherFacts_100 (by decide) ?_
          refine y_iast F hP hD hS k785 (vp_in_iff.mpr ⟨by decide, by decide⟩) dX10_gatherFacts_104 (fun w836 ew837 H locs hP hD hS => ?_)
          have k838 := wd_at.pt ew837 k782 (wd_nk k782 k785 rfl)
          have k839 := wd_at.pt ew837 k783 (wd_nk k783 k785 rfl)
          have k840 := wd_at.pt ew837 k784 (wd_nk k784 k785 rfl)
          have k841 : wd_at w836 a8 (.inl (cy 2, 8, .inl (upd (upd (upd (upd (upd ff (0 : Int32).toNatClampNeg rx500) (1 : Int32).toNatClampNeg 1) (2 : Int32).toNatClampNeg 0) (3 : Int32).toNatClampNeg (dd - dy)) (4 : Int32).toNatClampNeg 1))) := wd_at.ps ew837 k785
          have k842 := wd_at.pt ew837 k786 (wd_nk k786 k785 rfl)
          have k843 := wd_at.pt ew837 k787 (wd_nk k787 k785 rfl)
          have fm844 : ∀ k9, k9 < ac → af k9 = some (ad k9) ∧ wd_at w836 (ad k9) (.inr (0, [.int (av0 k9), .int (av1 k9), .int (av2 k9), .int (av3 k9)])) ∧ tg (ad k9) = 4000 + k9 := fun k9 hi9 => ⟨(fm788 k9 hi9).1, wd_at.pt ew837 (fm788 k9 hi9).2.1 (wd_nk (fm788 k9 hi9).2.1 k785 rfl), (fm788 k9 hi9).2.2⟩
          have fm845 : ∀ k9, k9 < sc → zf k9 = some (so k9) ∧ wd_at w836 (so k9) (.inr (6, [.int (sp0 k9), .int (sp1 k9), .ref (sr k9)])) ∧ tg (so k9) = 5000 + k9 ∧ wd_at w836 (sr k9) (.inl (cy 2, 12, .inl (sd k9))) ∧ tg (sr k9) = 6000 + k9 := fun k9 hi9 => ⟨(fm789 k9 hi9).1, wd_at.pt ew837 (fm789 k9 hi9).2.1 (wd_nk (fm789 k9 hi9).2.1 k785 rfl), (fm789 k9 hi9).2.2.1, wd_at.pt ew837 (fm789 k9 hi9).2.2.2.1 (wd_nk (fm789 k9 hi9).2.2.2.1 k785 rfl), (fm789 k9 hi9).2.2.2.2⟩
          have kp846 := kp790.put ew837 s90
          refine lv_aload_n hx hb dX10_gatherFacts_105 rfl (lv_at hl 2 rfl) ?_
          refine x_get (ref := "NoteHouse") F hP k838 rfl (fun _ h => List.mem_cons_of_mem _ (List.mem_append_left _ (List.mem_append_left _ (List.mem_append_right _ (h))))) 8 (Nat.le_of_ble_eq_true rfl) (List.mem_cons_of_mem _ (List.mem_append_left _ (List.mem_append_left _ (List.mem_append_left _ (List.mem_append_left _ (List.mem_append_left _ (List.mem_append_left _ (List.mem_of_getElem? (i := 2) rfl)))))))) rfl rfl dX10_gatherFacts_106 ?_
          refine lv_iconst (v := 5) hx hb dX10_gatherFacts_109 (by decide) ?_
          refine lv_aload_n hx hb dX10_gatherFacts_110 rfl (lv_at hl 3 rfl) ?_
          refine x_get (ref := "NoteHouse$Shown") F hP k842 rfl (fun _ h => List.mem_cons_of_mem _ (List.mem_append_left _ (List.mem_append_left _ (List.mem_append_left _ (List.mem_append_left _ (List.mem_append_right _ (h))))))) 3 (Nat.le_of_ble_eq_true rfl) (List.mem_cons_of_mem _ (List.mem_append_left _ (List.mem_append_left _ (List.mem_append_left _ (List.mem_append_left _ (List.mem_append_left _ (List.mem_append_left _ (List.mem_of_getElem? (i := 6) rfl)))))))) rfl rfl dX10_gatherFacts_111 ?_
          refine y_iast F hP hD hS k841 (vp_in_iff.mpr ⟨by decide, by decide⟩) dX10_gatherFacts_114 (fun w847 ew848 H locs hP hD hS => ?_)
          have k849 := wd_at.pt ew848 k838 (wd_nk k838 k841 rfl)
          have k850 := wd_at.pt ew848 k839 (wd_nk k839 k841 rfl)
          have k851 := wd_at.pt ew848 k840 (wd_nk k840 k841 rfl)
          have k852 : wd_at w847 a8 (.inl (cy 2, 8, .inl (upd (upd (upd (upd (upd (upd ff (0 : Int32).toNatClampNeg rx500) (1 : Int32).toNatClampNeg 1) (2 : Int32).toNatClampNeg 0) (3 : Int32).toNatClampNeg (dd - dy)) (4 : Int32).toNatClampNeg 1) (5 : Int32).toNatClampNeg am))) := wd_at.ps ew848 k841
          have k853 := wd_at.pt ew848 k842 (wd_nk k842 k841 rfl)
          have k854 := wd_at.pt ew848 k843 (wd_nk k843 k841 rfl)
          have fm855 : ∀ k9, k9 < ac → af k9 = some (ad k9) ∧ wd_at w847 (ad k9) (.inr (0, [.int (av0 k9), .int (av1 k9), .int (av2 k9), .int (av3 k9)])) ∧ tg (ad k9) = 4000 + k9 := fun k9 hi9 => ⟨(fm844 k9 hi9).1, wd_at.pt ew848 (fm844 k9 hi9).2.1 (wd_nk (fm844 k9 hi9).2.1 k841 rfl), (fm844 k9 hi9).2.2⟩
          have fm856 : ∀ k9, k9 < sc → zf k9 = some (so k9) ∧ wd_at w847 (so k9) (.inr (6, [.int (sp0 k9), .int (sp1 k9), .ref (sr k9)])) ∧ tg (so k9) = 5000 + k9 ∧ wd_at w847 (sr k9) (.inl (cy 2, 12, .inl (sd k9))) ∧ tg (sr k9) = 6000 + k9 := fun k9 hi9 => ⟨(fm845 k9 hi9).1, wd_at.pt ew848 (fm845 k9 hi9).2.1 (wd_nk (fm845 k9 hi9).2.1 k841 rfl), (fm845 k9 hi9).2.2.1, wd_at.pt ew848 (fm845 k9 hi9).2.2.2.1 (wd_nk (fm845 k9 hi9).2.2.2.1 k841 rfl), (fm845 k9 hi9).2.2.2.2⟩
          have kp857 := kp846.put ew848 s90
          refine lv_aload_n hx hb dX10_gatherFacts_115 rfl (lv_at hl 2 rfl) ?_
          refine x_get (ref := "NoteHouse") F hP k849 rfl (fun _ h => List.mem_cons_of_mem _ (List.mem_append_left _ (List.mem_append_left _ (List.mem_append_right _ (h))))) 8 (Nat.le_of_ble_eq_true rfl) (List.mem_cons_of_mem _ (List.mem_append_left _ (List.mem_append_left _ (List.mem_append_left _ (List.mem_append_left _ (List.mem_append_left _ (List.mem_append_left _ (List.mem_of_getElem? (i := 2) rfl)))))))) rfl rfl dX10_gatherFacts_116 ?_
          refine lv_bipush (v := 6) hx hb dX10_gatherFacts_119 (by decide) ?_
          refine lv_aload_n hx hb dX10_gatherFacts_121 rfl (lv_at hl 4 rfl) ?_
          refine x_get (ref := "NoteHouse$Paper") F hP k854 rfl (fun _ h => List.mem_cons_of_mem _ (List.mem_append_left _ (List.mem_append_left _ (List.mem_append_left _ (List.mem_append_right _ (h)))))) 1 (Nat.le_of_ble_eq_true rfl) (List.mem_cons_of_mem _ (List.mem_append_left _ (List.mem_append_left _ (List.mem_append_left _ (List.mem_append_left _ (List.mem_append_left _ (List.mem_append_left _ (List.mem_of_getElem? (i := 7) rfl)))))))) rfl rfl dX10_gatherFacts_122 ?_
          refine lv_aload_n hx hb dX10_gatherFacts_125 rfl (lv_at hl 4 rfl) ?_
          refine x_get (ref := "NoteHouse$Paper") F hP k854 rfl (fun _ h => List.mem_cons_of_mem _ (List.mem_append_left _ (List.mem_append_left _ (List.mem_append_left _ (List.mem_append_right _ (h)))))) 5 (Nat.le_of_ble_eq_true rfl) (List.mem_cons_of_mem _ (List.mem_append_left _ (List.mem_append_left _ (List.mem_append_left _ (List.mem_append_left _ (List.mem_append_left _ (List.mem_append_left _ (List.mem_of_getElem? (i := 8) rfl)))))))) rfl rfl dX10_gatherFacts_126 ?_
          refine lv_isub hx hb dX10_gatherFacts_129 ?_
          refine y_iast F hP hD hS k852 (vp_in_iff.mpr ⟨by decide, by decide⟩) dX10_gatherFacts_130 (fun w858 ew859 H locs hP hD hS => ?_)
          have k860 := wd_at.pt ew859 k849 (wd_nk k849 k852 rfl)
          have k861 := wd_at.pt ew859 k850 (wd_nk k850 k852 rfl)
          have k862 := wd_at.pt ew859 k851 (wd_nk k851 k852 rfl)
          have k863 : wd_at w858 a8 (.inl (cy 2, 8, .inl (upd (upd (upd (upd (upd (upd (upd ff (0 : Int32).toNatClampNeg rx500) (1 : Int32).toNatClampNeg 1) (2 : Int32).toNatClampNeg 0) (3 : Int32).toNatClampNeg (dd - dy)) (4 : Int32).toNatClampNeg 1) (5 : Int32).toNatClampNeg am) (6 : Int32).toNatClampNeg (wo - no)))) := wd_at.ps ew859 k852
          have k864 := wd_at.pt ew859 k853 (wd_nk k853 k852 rfl)
          have k865 := wd_at.pt ew859 k854 (wd_nk k854 k852 rfl)
          have fm866 : ∀ k9, k9 < ac → af k9 = some (ad k9) ∧ wd_at w858 (ad k9) (.inr (0, [.int (av0 k9), .int (av1 k9), .int (av2 k9), .int (av3 k9)])) ∧ tg (ad k9) = 4000 + k9 := fun k9 hi9 => ⟨(fm855 k9 hi9).1, wd_at.pt ew859 (fm855 k9 hi9).2.1 (wd_nk (fm855 k9 hi9).2.1 k852 rfl), (fm855 k9 hi9).2.2⟩
          have fm867 : ∀ k9, k9 < sc → zf k9 = some (so k9) ∧ wd_at w858 (so k9) (.inr (6, [.int (sp0 k9), .int (sp1 k9), .ref (sr k9)])) ∧ tg (so k9) = 5000 + k9 ∧ wd_at w858 (sr k9) (.inl (cy 2, 12, .inl (sd k9))) ∧ tg (sr k9) = 6000 + k9 := fun k9 hi9 => ⟨(fm856 k9 hi9).1, wd_at.pt ew859 (fm856 k9 hi9).2.1 (wd_nk (fm856 k9 hi9).2.1 k852 rfl), (fm856 k9 hi9).2.2.1, wd_at.pt ew859 (fm856 k9 hi9).2.2.2.1 (wd_nk (fm856 k9 hi9).2.2.2.1 k852 rfl), (fm856 k9 hi9).2.2.2.2⟩
          have kp868 := kp857.put ew859 s90
          refine lv_aload_n hx hb dX10_gatherFacts_131 rfl (lv_at hl 2 rfl) ?_
          refine x_get (ref := "NoteHouse") F hP k860 rfl (fun _ h => List.mem_cons_of_mem _ (List.mem_append_left _ (List.mem_append_left _ (List.mem_append_right _ (h))))) 8 (Nat.le_of_ble_eq_true rfl) (List.mem_cons_of_mem _ (List.mem_append_left _ (List.mem_append_left _ (List.mem_append_left _ (List.mem_append_left _ (List.mem_append_left _ (List.mem_append_left _ (List.mem_of_getElem? (i := 2) rfl)))))))) rfl rfl dX10_gatherFacts_132 ?_
          refine lv_bipush (v := 7) hx hb dX10_gatherFacts_135 (by decide) ?_
          refine lv_aload_n hx hb dX10_gatherFacts_137 rfl (lv_at hl 3 rfl) ?_
          refine x_get (ref := "NoteHouse$Shown") F hP k864 rfl (fun _ h => List.mem_cons_of_mem _ (List.mem_append_left _ (List.mem_append_left _ (List.mem_append_left _ (List.mem_append_left _ (List.mem_append_right _ (h))))))) 5 (Nat.le_of_ble_eq_true rfl) (List.mem_cons_of_mem _ (List.mem_append_left _ (List.mem_append_left _ (List.mem_append_left _ (List.mem_append_left _ (List.mem_append_left _ (List.mem_append_left _ (List.mem_of_getElem? (i := 0) rfl)))))))) rfl rfl dX10_gatherFacts_138 ?_
          refine y_iast F hP hD hS k863 (vp_in_iff.mpr ⟨by decide, by decide⟩) dX10_gatherFacts_141 (fun w869 ew870 H locs hP hD hS => ?_)
          have k871 := wd_at.pt ew870 k860 (wd_nk k860 k863 rfl)
          have k872 := wd_at.pt ew870 k861 (wd_nk k861 k863 rfl)
          have k873 := wd_at.pt ew870 k862 (wd_nk k862 k863 rfl)
          have k874 : wd_at w869 a8 (.inl (cy 2, 8, .inl (upd (upd (upd (upd (upd (upd (upd (upd ff (0 : Int32).toNatClampNeg rx500) (1 : Int32).toNatClampNeg 1) (2 : Int32).toNatClampNeg 0) (3 : Int32).toNatClampNeg (dd - dy)) (4 : Int32).toNatClampNeg 1) (5 : Int32).toNatClampNeg am) (6 : Int32).toNatClampNeg (wo - no)) (7 : Int32).toNatClampNeg dd))) := wd_at.ps ew870 k863
          have k875 := wd_at.pt ew870 k864 (wd_nk k864 k863 rfl)
          have k876 := wd_at.pt ew870 k865 (wd_nk k865 k863 rfl)
          have fm877 : ∀ k9, k9 < ac → af k9 = some (ad k9) ∧ wd_at w869 (ad k9) (.inr (0, [.int (av0 k9), .int (av1 k9), .int (av2 k9), .int (av3 k9)])) ∧ tg (ad k9) = 4000 + k9 := fun k9 hi9 => ⟨(fm866 k9 hi9).1, wd_at.pt ew870 (fm866 k9 hi9).2.1 (wd_nk (fm866 k9 hi9).2.1 k863 rfl), (fm866 k9 hi9).2.2⟩
          have fm878 : ∀ k9, k9 < sc → zf k9 = some (so k9) ∧ wd_at w869 (so k9) (.inr (6, [.int (sp0 k9), .int (sp1 k9), .ref (sr k9)])) ∧ tg (so k9) = 5000 + k9 ∧ wd_at w869 (sr k9) (.inl (cy 2, 12, .inl (sd k9))) ∧ tg (sr k9) = 6000 + k9 := fun k9 hi9 => ⟨(fm867 k9 hi9).1, wd_at.pt ew870 (fm867 k9 hi9).2.1 (wd_nk (fm867 k9 hi9).2.1 k863 rfl), (fm867 k9 hi9).2.2.1, wd_at.pt ew870 (fm867 k9 hi9).2.2.2.1 (wd_nk (fm867 k9 hi9).2.2.2.1 k863 rfl), (fm867 k9 hi9).2.2.2.2⟩
          have kp879 := kp868.put ew870 s90
          exact y_vr K hP hD hS (Nat.le_of_ble_eq_true rfl) (Nat.le_of_ble_eq_true rfl) rfl dX10_gatherFacts_142 (⟨upd (upd (upd (upd (upd (upd (upd (upd ff (0 : Int32).toNatClampNeg rx500) (1 : Int32).toNatClampNeg 1) (2 : Int32).toNatClampNeg 0) (3 : Int32).toNatClampNeg (dd - dy)) (4 : Int32).toNatClampNeg 1) (5 : Int32).toNatClampNeg am) (6 : Int32).toNatClampNeg (wo - no)) (7 : Int32).toNatClampNeg dd, rfl, kp879, k874⟩)
      · refine lv_iconst (v := 1) hx hb dX10_gatherFacts_71 (by decide) ?_
        refine lv_goto (tgt := 76) hx hb dX10_gatherFacts_72 (by decide) ?_
        refine y_iast F hP hD hS k757 (vp_in_iff.mpr ⟨by decide, by decide⟩) dX10_gatherFacts_76 (fun w880 ew881 H locs hP hD hS => ?_)
        have k882 := wd_at.pt ew881 k754 (wd_nk k754 k757 rfl)
        have k883 := wd_at.pt ew881 k755 (wd_nk k755 k757 rfl)
        have k884 := wd_at.pt ew881 k756 (wd_nk k756 k757 rfl)
        have k885 : wd_at w880 a8 (.inl (cy 2, 8, .inl (upd (upd (upd ff (0 : Int32).toNatClampNeg rx500) (1 : Int32).toNatClampNeg 1) (2 : Int32).toNatClampNeg 1))) := wd_at.ps ew881 k757
        have k886 := wd_at.pt ew881 k758 (wd_nk k758 k757 rfl)
        have k887 := wd_at.pt ew881 k759 (wd_nk k759 k757 rfl)
        have fm888 : ∀ k9, k9 < ac → af k9 = some (ad k9) ∧ wd_at w880 (ad k9) (.inr (0, [.int (av0 k9), .int (av1 k9), .int (av2 k9), .int (av3 k9)])) ∧ tg (ad k9) = 4000 + k9 := fun k9 hi9 => ⟨(fm760 k9 hi9).1, wd_at.pt ew881 (fm760 k9 hi9).2.1 (wd_nk (fm760 k9 hi9).2.1 k757 rfl), (fm760 k9 hi9).2.2⟩
        have fm889 : ∀ k9, k9 < sc → zf k9 = some (so k9) ∧ wd_at w880 (so k9) (.inr (6, [.int (sp0 k9), .int (sp1 k9), .ref (sr k9)])) ∧ tg (so k9) = 5000 + k9 ∧ wd_at w880 (sr k9) (.inl (cy 2, 12, .inl (sd k9))) ∧ tg (sr k9) = 6000 + k9 := fun k9 hi9 => ⟨(fm761 k9 hi9).1, wd_at.pt ew881 (fm761 k9 hi9).2.1 (wd_nk (fm761 k9 hi9).2.1 k757 rfl), (fm761 k9 hi9).2.2.1, wd_at.pt ew881 (fm761 k9 hi9).2.2.2.1 (wd_nk (fm761 k9 hi9).2.2.2.1 k757 rfl), (fm761 k9 hi9).2.2.2.2⟩
        have kp890 := kp762.put ew881 s90
        refine lv_aload_n hx hb dX10_gatherFacts_77 rfl (lv_at hl 2 rfl) ?_
        refine x_get (ref := "NoteHouse") F hP k882 rfl (fun _ h => List.mem_cons_of_mem _ (List.mem_append_left _ (List.mem_append_left _ (List.mem_append_right _ (h))))) 8 (Nat.le_of_ble_eq_true rfl) (List.mem_cons_of_mem _ (List.mem_append_left _ (List.mem_append_left _ (List.mem_append_left _ (List.mem_append_left _ (List.mem_append_left _ (List.mem_append_left _ (List.mem_of_getElem? (i := 2) rfl)))))))) rfl rfl dX10_gatherFacts_78 ?_
        refine lv_iconst (v := 3) hx hb dX10_gatherFacts_81 (by decide) ?_
        refine lv_iload hx hb dX10_gatherFacts_82 (lv_at hl 0 rfl) ?_
        refine y_iast F hP hD hS k885 (vp_in_iff.mpr ⟨by decide, by decide⟩) dX10_gatherFacts_84 (fun w891 ew892 H locs hP hD hS => ?_)
        have k893 := wd_at.pt ew892 k882 (wd_nk k882 k885 rfl)
        have k894 := wd_at.pt ew892 k883 (wd_nk k883 k885 rfl)
        have k895 := wd_at.pt ew892 k884 (wd_nk k884 k885 rfl)
        have k896 : wd_at w891 a8 (.inl (cy 2, 8, .inl (upd (upd (upd (upd ff (0 : Int32).toNatClampNeg rx500) (1 : Int32).toNatClampNeg 1) (2 : Int32).toNatClampNeg 1) (3 : Int32).toNatClampNeg (dd - dy)))) := wd_at.ps ew892 k885
        have k897 := wd_at.pt ew892 k886 (wd_nk k886 k885 rfl)
        have k898 := wd_at.pt ew892 k887 (wd_nk k887 k885 rfl)
        have fm899 : ∀ k9, k9 < ac → af k9 = some (ad k9) ∧ wd_at w891 (ad k9) (.inr (0, [.int (av0 k9), .int (av1 k9), .int (av2 k9), .int (av3 k9)])) ∧ tg (ad k9) = 4000 + k9 := fun k9 hi9 => ⟨(fm888 k9 hi9).1, wd_at.pt ew892 (fm888 k9 hi9).2.1 (wd_nk (fm888 k9 hi9).2.1 k885 rfl), (fm888 k9 hi9).2.2⟩
        have fm900 : ∀ k9, k9 < sc → zf k9 = some (so k9) ∧ wd_at w891 (so k9) (.inr (6, [.int (sp0 k9), .int (sp1 k9), .ref (sr k9)])) ∧ tg (so k9) = 5000 + k9 ∧ wd_at w891 (sr k9) (.inl (cy 2, 12, .inl (sd k9))) ∧ tg (sr k9) = 6000 + k9 := fun k9 hi9 => ⟨(fm889 k9 hi9).1, wd_at.pt ew892 (fm889 k9 hi9).2.1 (wd_nk (fm889 k9 hi9).2.1 k885 rfl), (fm889 k9 hi9).2.2.1, wd_at.pt ew892 (fm889 k9 hi9).2.2.2.1 (wd_nk (fm889 k9 hi9).2.2.2.1 k885 rfl), (fm889 k9 hi9).2.2.2.2⟩
        have kp901 := kp890.put ew892 s90
        refine lv_aload_n hx hb dX10_gatherFacts_85 rfl (lv_at hl 2 rfl) ?_
        refine x_get (ref := "NoteHouse") F hP k893 rfl (fun _ h => List.mem_cons_of_mem _ (List.mem_append_left _ (List.mem_append_left _ (List.mem_append_right _ (h))))) 8 (Nat.le_of_ble_eq_true rfl) (List.mem_cons_of_mem _ (List.mem_append_left _ (List.mem_append_left _ (List.mem_append_left _ (List.mem_append_left _ (List.mem_append_left _ (List.mem_append_left _ (List.mem_of_getElem? (i := 2) rfl)))))))) rfl rfl dX10_gatherFacts_86 ?_
        refine lv_iconst (v := 4) hx hb dX10_gatherFacts_89 (by decide) ?_
        refine lv_iload hx hb dX10_gatherFacts_90 (lv_at hl 0 rfl) ?_
        refine lv_aload_n hx hb dX10_gatherFacts_92 rfl (lv_at hl 4 rfl) ?_
        refine x_get (ref := "NoteHouse$Paper") F hP k898 rfl (fun _ h => List.mem_cons_of_mem _ (List.mem_append_left _ (List.mem_append_left _ (List.mem_append_left _ (List.mem_append_right _ (h)))))) 3 (Nat.le_of_ble_eq_true rfl) (List.mem_cons_of_mem _ (List.mem_append_left _ (List.mem_append_left _ (List.mem_append_left _ (List.mem_append_left _ (List.mem_append_left _ (List.mem_append_left _ (List.mem_of_getElem? (i := 5) rfl)))))))) rfl rfl dX10_gatherFacts_93 ?_
        refine lv_icmp_le (tgt := 103) hx hb dX10_gatherFacts_96 (by decide) (fun c_902 => ?_) (fun c_902 => ?_)
        · refine lv_iconst (v := 0) hx hb dX10_gatherFacts_103 (by decide) ?_
          refine y_iast F hP hD hS k896 (vp_in_iff.mpr ⟨by decide, by decide⟩) dX10_gatherFacts_104 (fun w903 ew904 H locs hP hD hS => ?_)
          have k905 := wd_at.pt ew904 k893 (wd_nk k893 k896 rfl)
          have k906 := wd_at.pt ew904 k894 (wd_nk k894 k896 rfl)
          have k907 := wd_at.pt ew904 k895 (wd_nk k895 k896 rfl)
          have k908 : wd_at w903 a8 (.inl (cy 2, 8, .inl (upd (upd (upd (upd (upd ff (0 : Int32).toNatClampNeg rx500) (1 : Int32).toNatClampNeg 1) (2 : Int32).toNatClampNeg 1) (3 : Int32).toNatClampNeg (dd - dy)) (4 : Int32).toNatClampNeg 0))) := wd_at.ps ew904 k896
          have k909 := wd_at.pt ew904 k897 (wd_nk k897 k896 rfl)
          have k910 := wd_at.pt ew904 k898 (wd_nk k898 k896 rfl)
          have fm911 : ∀ k9, k9 < ac → af k9 = some (ad k9) ∧ wd_at w903 (ad k9) (.inr (0, [.int (av0 k9), .int (av1 k9), .int (av2 k9), .int (av3 k9)])) ∧ tg (ad k9) = 4000 + k9 := fun k9 hi9 => ⟨(fm899 k9 hi9).1, wd_at.pt ew904 (fm899 k9 hi9).2.1 (wd_nk (fm899 k9 hi9).2.1 k896 rfl), (fm899 k9 hi9).2.2⟩
          have fm912 : ∀ k9, k9 < sc → zf k9 = some (so k9) ∧ wd_at w903 (so k9) (.inr (6, [.int (sp0 k9), .int (sp1 k9), .ref (sr k9)])) ∧ tg (so k9) = 5000 + k9 ∧ wd_at w903 (sr k9) (.inl (cy 2, 12, .inl (sd k9))) ∧ tg (sr k9) = 6000 + k9 := fun k9 hi9 => ⟨(fm900 k9 hi9).1, wd_at.pt ew904 (fm900 k9 hi9).2.1 (wd_nk (fm900 k9 hi9).2.1 k896 rfl), (fm900 k9 hi9).2.2.1, wd_at.pt ew904 (fm900 k9 hi9).2.2.2.1 (wd_nk (fm900 k9 hi9).2.2.2.1 k896 rfl), (fm900 k9 hi9).2.2.2.2⟩
          have kp913 := kp901.put ew904 s90
          refine lv_aload_n hx hb dX10_gatherFacts_105 rfl (lv_at hl 2 rfl) ?_
          refine x_get (ref := "NoteHouse") F hP k905 rfl (fun _ h => List.mem_cons_of_mem _ (List.mem_append_left _ (List.mem_append_left _ (List.mem_append_right _ (h))))) 8 (Nat.le_of_ble_eq_true rfl) (List.mem_cons_of_mem _ (List.mem_append_left _ (List.mem_append_left _ (List.mem_append_left _ (List.mem_append_left _ (List.mem_append_left _ (List.mem_append_left _ (List.mem_of_getElem? (i := 2) rfl)))))))) rfl rfl dX10_gatherFacts_106 ?_
          refine lv_iconst (v := 5) hx hb dX10_gatherFacts_109 (by decide) ?_
          refine lv_aload_n hx hb dX10_gatherFacts_110 rfl (lv_at hl 3 rfl) ?_
          refine x_get (ref := "NoteHouse$Shown") F hP k909 rfl (fun _ h => List.mem_cons_of_mem _ (List.mem_append_left _ (List.mem_append_left _ (List.mem_append_left _ (List.mem_append_left _ (List.mem_append_right _ (h))))))) 3 (Nat.le_of_ble_eq_true rfl) (List.mem_cons_of_mem _ (List.mem_append_left _ (List.mem_append_left _ (List.mem_append_left _ (List.mem_append_left _ (List.mem_append_left _ (List.mem_append_left _ (List.mem_of_getElem? (i := 6) rfl)))))))) rfl rfl dX10_gatherFacts_111 ?_
          refine y_iast F hP hD hS k908 (vp_in_iff.mpr ⟨by decide, by decide⟩) dX10_gatherFacts_114 (fun w914 ew915 H locs hP hD hS => ?_)
          have k916 := wd_at.pt ew915 k905 (wd_nk k905 k908 rfl)
          have k917 := wd_at.pt ew915 k906 (wd_nk k906 k908 rfl)
          have k918 := wd_at.pt ew915 k907 (wd_nk k907 k908 rfl)
          have k919 : wd_at w914 a8 (.inl (cy 2, 8, .inl (upd (upd (upd (upd (upd (upd ff (0 : Int32).toNatClampNeg rx500) (1 : Int32).toNatClampNeg 1) (2 : Int32).toNatClampNeg 1) (3 : Int32).toNatClampNeg (dd - dy)) (4 : Int32).toNatClampNeg 0) (5 : Int32).toNatClampNeg am))) := wd_at.ps ew915 k908
          have k920 := wd_at.pt ew915 k909 (wd_nk k909 k908 rfl)
          have k921 := wd_at.pt ew915 k910 (wd_nk k910 k908 rfl)
          have fm922 : ∀ k9, k9 < ac → af k9 = some (ad k9) ∧ wd_at w914 (ad k9) (.inr (0, [.int (av0 k9), .int (av1 k9), .int (av2 k9), .int (av3 k9)])) ∧ tg (ad k9) = 4000 + k9 := fun k9 hi9 => ⟨(fm911 k9 hi9).1, wd_at.pt ew915 (fm911 k9 hi9).2.1 (wd_nk (fm911 k9 hi9).2.1 k908 rfl), (fm911 k9 hi9).2.2⟩
          have fm923 : ∀ k9, k9 < sc → zf k9 = some (so k9) ∧ wd_at w914 (so k9) (.inr (6, [.int (sp0 k9), .int (sp1 k9), .ref (sr k9)])) ∧ tg (so k9) = 5000 + k9 ∧ wd_at w914 (sr k9) (.inl (cy 2, 12, .inl (sd k9))) ∧ tg (sr k9) = 6000 + k9 := fun k9 hi9 => ⟨(fm912 k9 hi9).1, wd_at.pt ew915 (fm912 k9 hi9).2.1 (wd_nk (fm912 k9 hi9).2.1 k908 rfl), (fm912 k9 hi9).2.2.1, wd_at.pt ew915 (fm912 k9 hi9).2.2.2.1 (wd_nk (fm912 k9 hi9).2.2.2.1 k908 rfl), (fm912 k9 hi9).2.2.2.2⟩
          have kp924 := kp913.put ew915 s90
          refine lv_aload_n hx hb dX10_gatherFacts_115 rfl (lv_at hl 2 rfl) ?_
          refine x_get (ref := "NoteHouse") F hP k916 rfl (fun _ h => List.mem_cons_of_mem _ (List.mem_append_left _ (List.mem_append_left _ (List.mem_append_right _ (h))))) 8 (Nat.le_of_ble_eq_true rfl) (List.mem_cons_of_mem _ (List.mem_append_left _ (List.mem_append_left _ (List.mem_append_left _ (List.mem_append_left _ (List.mem_append_left _ (List.mem_append_left _ (List.mem_of_getElem? (i := 2) rfl)))))))) rfl rfl dX10_gatherFacts_116 ?_
          refine lv_bipush (v := 6) hx hb dX10_gatherFacts_119 (by decide) ?_
          refine lv_aload_n hx hb dX10_gatherFacts_121 rfl (lv_at hl 4 rfl) ?_
          refine x_get (ref := "NoteHouse$Paper") F hP k921 rfl (fun _ h => List.mem_cons_of_mem _ (List.mem_append_left _ (List.mem_append_left _ (List.mem_append_left _ (List.mem_append_right _ (h)))))) 1 (Nat.le_of_ble_eq_true rfl) (List.mem_cons_of_mem _ (List.mem_append_left _ (List.mem_append_left _ (List.mem_append_left _ (List.mem_append_left _ (List.mem_append_left _ (List.mem_append_left _ (List.mem_of_getElem? (i := 7) rfl)))))))) rfl rfl dX10_gatherFacts_122 ?_
          refine lv_aload_n hx hb dX10_gatherFacts_125 rfl (lv_at hl 4 rfl) ?_
          refine x_get (ref := "NoteHouse$Paper") F hP k921 rfl (fun _ h => List.mem_cons_of_mem _ (List.mem_append_left _ (List.mem_append_left _ (List.mem_append_left _ (List.mem_append_right _ (h)))))) 5 (Nat.le_of_ble_eq_true rfl) (List.mem_cons_of_mem _ (List.mem_append_left _ (List.mem_append_left _ (List.mem_append_left _ (List.mem_append_left _ (List.mem_append_left _ (List.mem_append_left _ (List.mem_of_getElem? (i := 8) rfl)))))))) rfl rfl dX10_gatherFacts_126 ?_
          refine lv_isub hx hb dX10_gatherFacts_129 ?_
          refine y_iast F hP hD hS k919 (vp_in_iff.mpr ⟨by decide, by decide⟩) dX10_gatherFacts_130 (fun w925 ew926 H locs hP hD hS => ?_)
          have k927 := wd_at.pt ew926 k916 (wd_nk k916 k919 rfl)
          have k928 := wd_at.pt ew926 k917 (wd_nk k917 k919 rfl)
          have k929 := wd_at.pt ew926 k918 (wd_nk k918 k919 rfl)
          have k930 : wd_at w925 a8 (.inl (cy 2, 8, .inl (upd (upd (upd (upd (upd (upd (upd ff (0 : Int32).toNatClampNeg rx500) (1 : Int32).toNatClampNeg 1) (2 : Int32).toNatClampNeg 1) (3 : Int32).toNatClampNeg (dd - dy)) (4 : Int32).toNatClampNeg 0) (5 : Int32).toNatClampNeg am) (6 : Int32).toNatClampNeg (wo - no)))) := wd_at.ps ew926 k919
          have k931 := wd_at.pt ew926 k920 (wd_nk k920 k919 rfl)
          have k932 := wd_at.pt ew926 k921 (wd_nk k921 k919 rfl)
          have fm933 : ∀ k9, k9 < ac → af k9 = some (ad k9) ∧ wd_at w925 (ad k9) (.inr (0, [.int (av0 k9), .int (av1 k9), .int (av2 k9), .int (av3 k9)])) ∧ tg (ad k9) = 4000 + k9 := fun k9 hi9 => ⟨(fm922 k9 hi9).1, wd_at.pt ew926 (fm922 k9 hi9).2.1 (wd_nk (fm922 k9 hi9).2.1 k919 rfl), (fm922 k9 hi9).2.2⟩
          have fm934 : ∀ k9, k9 < sc → zf k9 = some (so k9) ∧ wd_at w925 (so k9) (.inr (6, [.int (sp0 k9), .int (sp1 k9), .ref (sr k9)])) ∧ tg (so k9) = 5000 + k9 ∧ wd_at w925 (sr k9) (.inl (cy 2, 12, .inl (sd k9))) ∧ tg (sr k9) = 6000 + k9 := fun k9 hi9 => ⟨(fm923 k9 hi9).1, wd_at.pt ew926 (fm923 k9 hi9).2.1 (wd_nk (fm923 k9 hi9).2.1 k919 rfl), (fm923 k9 hi9).2.2.1, wd_at.pt ew926 (fm923 k9 hi9).2.2.2.1 (wd_nk (fm923 k9 hi9).2.2.2.1 k919 rfl), (fm923 k9 hi9).2.2.2.2⟩
          have kp935 := kp924.put ew926 s90
          refine lv_aload_n hx hb dX10_gatherFacts_131 rfl (lv_at hl 2 rfl) ?_
          refine x_get (ref := "NoteHouse") F hP k927 rfl (fun _ h => List.mem_cons_of_mem _ (List.mem_append_left _ (List.mem_append_left _ (List.mem_append_right _ (h))))) 8 (Nat.le_of_ble_eq_true rfl) (List.mem_cons_of_mem _ (List.mem_append_left _ (List.mem_append_left _ (List.mem_append_left _ (List.mem_append_left _ (List.mem_append_left _ (List.mem_append_left _ (List.mem_of_getElem? (i := 2) rfl)))))))) rfl rfl dX10_gatherFacts_132 ?_
          refine lv_bipush (v := 7) hx hb dX10_gatherFacts_135 (by decide) ?_
          refine lv_aload_n hx hb dX10_gatherFacts_137 rfl (lv_at hl 3 rfl) ?_
          refine x_get (ref := "NoteHouse$Shown") F hP k931 rfl (fun _ h => List.mem_cons_of_mem _ (List.mem_append_left _ (List.mem_append_left _ (List.mem_append_left _ (List.mem_append_left _ (List.mem_append_right _ (h))))))) 5 (Nat.le_of_ble_eq_true rfl) (List.mem_cons_of_mem _ (List.mem_append_left _ (List.mem_append_left _ (List.mem_append_left _ (List.mem_append_left _ (List.mem_append_left _ (List.mem_append_left _ (List.mem_of_getElem? (i := 0) rfl)))))))) rfl rfl dX10_gatherFacts_138 ?_
          refine y_iast F hP hD hS k930 (vp_in_iff.mpr ⟨by decide, by decide⟩) dX10_gatherFacts_141 (fun w936 ew937 H locs hP hD hS => ?_)
          have k938 := wd_at.pt ew937 k927 (wd_nk k927 k930 rfl)
          have k939 := wd_at.pt ew937 k928 (wd_nk k928 k930 rfl)
          have k940 := wd_at.pt ew937 k929 (wd_nk k929 k930 rfl)
          have k941 : wd_at w936 a8 (.inl (cy 2, 8, .inl (upd (upd (upd (upd (upd (upd (upd (upd ff (0 : Int32).toNatClampNeg rx500) (1 : Int32).toNatClampNeg 1) (2 : Int32).toNatClampNeg 1) (3 : Int32).toNatClampNeg (dd - dy)) (4 : Int32).toNatClampNeg 0) (5 : Int32).toNatClampNeg am) (6 : Int32).toNatClampNeg (wo - no)) (7 : Int32).toNatClampNeg dd))) := wd_at.ps ew937 k930
          have k942 := wd_at.pt ew937 k931 (wd_nk k931 k930 rfl)
          have k943 := wd_at.pt ew937 k932 (wd_nk k932 k930 rfl)
          have fm944 : ∀ k9, k9 < ac → af k9 = some (ad k9) ∧ wd_at w936 (ad k9) (.inr (0, [.int (av0 k9), .int (av1 k9), .int (av2 k9), .int (av3 k9)])) ∧ tg (ad k9) = 4000 + k9 := fun k9 hi9 => ⟨(fm933 k9 hi9).1, wd_at.pt ew937 (fm933 k9 hi9).2.1 (wd_nk (fm933 k9 hi9).2.1 k930 rfl), (fm933 k9 hi9).2.2⟩
          have fm945 : ∀ k9, k9 < sc → zf k9 = some (so k9) ∧ wd_at w936 (so k9) (.inr (6, [.int (sp0 k9), .int (sp1 k9), .ref (sr k9)])) ∧ tg (so k9) = 5000 + k9 ∧ wd_at w936 (sr k9) (.inl (cy 2, 12, .inl (sd k9))) ∧ tg (sr k9) = 6000 + k9 := fun k9 hi9 => ⟨(fm934 k9 hi9).1, wd_at.pt ew937 (fm934 k9 hi9).2.1 (wd_nk (fm934 k9 hi9).2.1 k930 rfl), (fm934 k9 hi9).2.2.1, wd_at.pt ew937 (fm934 k9 hi9).2.2.2.1 (wd_nk (fm934 k9 hi9).2.2.2.1 k930 rfl), (fm934 k9 hi9).2.2.2.2⟩
          have kp946 := kp935.put ew937 s90
          exact y_vr K hP hD hS (Nat.le_of_ble_eq_true rfl) (Nat.le_of_ble_eq_true rfl) rfl dX10_gatherFacts_142 (⟨upd (upd (upd (upd (upd (upd (upd (upd ff (0 : Int32).toNatClampNeg rx500) (1 : Int32).toNatClampNeg 1) (2 : Int32).toNatClampNeg 1) (3 : Int32).toNatClampNeg (dd - dy)) (4 : Int32).toNatClampNeg 0) (5 : Int32).toNatClampNeg am) (6 : Int32).toNatClampNeg (wo - no)) (7 : Int32).toNatClampNeg dd, rfl, kp946, k941⟩)
        · refine lv_iconst (v := 1) hx hb dX10_gatherFacts_99 (by decide) ?_
          refine lv_goto (tgt := 104) hx hb dX10_gatherFacts_100 (by decide) ?_
          refine y_iast F hP hD hS k896 (vp_in_iff.mpr ⟨by decide, by decide⟩) dX10_gatherFacts_104 (fun w947 ew948 H locs hP hD hS => ?_)
          have k949 := wd_at.pt ew948 k893 (wd_nk k893 k896 rfl)
          have k950 := wd_at.pt ew948 k894 (wd_nk k894 k896 rfl)
          have k951 := wd_at.pt ew948 k895 (wd_nk k895 k896 rfl)
          have k952 : wd_at w947 a8 (.inl (cy 2, 8, .inl (upd (upd (upd (upd (upd ff (0 : Int32).toNatClampNeg rx500) (1 : Int32).toNatClampNeg 1) (2 : Int32).toNatClampNeg 1) (3 : Int32).toNatClampNeg (dd - dy)) (4 : Int32).toNatClampNeg 1))) := wd_at.ps ew948 k896
          have k953 := wd_at.pt ew948 k897 (wd_nk k897 k896 rfl)
          have k954 := wd_at.pt ew948 k898 (wd_nk k898 k896 rfl)
          have fm955 : ∀ k9, k9 < ac → af k9 = some (ad k9) ∧ wd_at w947 (ad k9) (.inr (0, [.int (av0 k9), .int (av1 k9), .int (av2 k9), .int (av3 k9)])) ∧ tg (ad k9) = 4000 + k9 := fun k9 hi9 => ⟨(fm899 k9 hi9).1, wd_at.pt ew948 (fm899 k9 hi9).2.1 (wd_nk (fm899 k9 hi9).2.1 k896 rfl), (fm899 k9 hi9).2.2⟩
          have fm956 : ∀ k9, k9 < sc → zf k9 = some (so k9) ∧ wd_at w947 (so k9) (.inr (6, [.int (sp0 k9), .int (sp1 k9), .ref (sr k9)])) ∧ tg (so k9) = 5000 + k9 ∧ wd_at w947 (sr k9) (.inl (cy 2, 12, .inl (sd k9))) ∧ tg (sr k9) = 6000 + k9 := fun k9 hi9 => ⟨(fm900 k9 hi9).1, wd_at.pt ew948 (fm900 k9 hi9).2.1 (wd_nk (fm900 k9 hi9).2.1 k896 rfl), (fm900 k9 hi9).2.2.1, wd_at.pt ew948 (fm900 k9 hi9).2.2.2.1 (wd_nk (fm900 k9 hi9).2.2.2.1 k896 rfl), (fm900 k9 hi9).2.2.2.2⟩
          have kp957 := kp901.put ew948 s90
          refine lv_aload_n hx hb dX10_gatherFacts_105 rfl (lv_at hl 2 rfl) ?_
          refine x_get (ref := "NoteHouse") F hP k949 rfl (fun _ h => List.mem_cons_of_mem _ (List.mem_append_left _ (List.mem_append_left _ (List.mem_append_right _ (h))))) 8 (Nat.le_of_ble_eq_true rfl) (List.mem_cons_of_mem _ (List.mem_append_left _ (List.mem_append_left _ (List.mem_append_left _ (List.mem_append_left _ (List.mem_append_left _ (List.mem_append_left _ (List.mem_of_getElem? (i := 2) rfl)))))))) rfl rfl dX10_gatherFacts_106 ?_
          refine lv_iconst (v := 5) hx hb dX10_gatherFacts_109 (by decide) ?_
          refine lv_aload_n hx hb dX10_gatherFacts_110 rfl (lv_at hl 3 rfl) ?_
          refine x_get (ref := "NoteHouse$Shown") F hP k953 rfl (fun _ h => List.mem_cons_of_mem _ (List.mem_append_left _ (List.mem_append_left _ (List.mem_append_left _ (List.mem_append_left _ (List.mem_append_right _ (h))))))) 3 (Nat.le_of_ble_eq_true rfl) (List.mem_cons_of_mem _ (List.mem_append_left _ (List.mem_append_left _ (List.mem_append_left _ (List.mem_append_left _ (List.mem_append_left _ (List.mem_append_left _ (List.mem_of_getElem? (i := 6) rfl)))))))) rfl rfl dX10_gatherFacts_111 ?_
          refine y_iast F hP hD hS k952 (vp_in_iff.mpr ⟨by decide, by decide⟩) dX10_gatherFacts_114 (fun w958 ew959 H locs hP hD hS => ?_)
          have k960 := wd_at.pt ew959 k949 (wd_nk k949 k952 rfl)
          have k961 := wd_at.pt ew959 k950 (wd_nk k950 k952 rfl)
          have k962 := wd_at.pt ew959 k951 (wd_nk k951 k952 rfl)
          have k963 : wd_at w958 a8 (.inl (cy 2, 8, .inl (upd (upd (upd (upd (upd (upd ff (0 : Int32).toNatClampNeg rx500) (1 : Int32).toNatClampNeg 1) (2 : Int32).toNatClampNeg 1) (3 : Int32).toNatClampNeg (dd - dy)) (4 : Int32).toNatClampNeg 1) (5 : Int32).toNatClampNeg am))) := wd_at.ps ew959 k952
          have k964 := wd_at.pt ew959 k953 (wd_nk k953 k952 rfl)
          have k965 := wd_at.pt ew959 k954 (wd_nk k954 k952 rfl)
          have fm966 : ∀ k9, k9 < ac → af k9 = some (ad k9) ∧ wd_at w958 (ad k9) (.inr (0, [.int (av0 k9), .int (av1 k9), .int (av2 k9), .int (av3 k9)])) ∧ tg (ad k9) = 4000 + k9 := fun k9 hi9 => ⟨(fm955 k9 hi9).1, wd_at.pt ew959 (fm955 k9 hi9).2.1 (wd_nk (fm955 k9 hi9).2.1 k952 rfl), (fm955 k9 hi9).2.2⟩
          have fm967 : ∀ k9, k9 < sc → zf k9 = some (so k9) ∧ wd_at w958 (so k9) (.inr (6, [.int (sp0 k9), .int (sp1 k9), .ref (sr k9)])) ∧ tg (so k9) = 5000 + k9 ∧ wd_at w958 (sr k9) (.inl (cy 2, 12, .inl (sd k9))) ∧ tg (sr k9) = 6000 + k9 := fun k9 hi9 => ⟨(fm956 k9 hi9).1, wd_at.pt ew959 (fm956 k9 hi9).2.1 (wd_nk (fm956 k9 hi9).2.1 k952 rfl), (fm956 k9 hi9).2.2.1, wd_at.pt ew959 (fm956 k9 hi9).2.2.2.1 (wd_nk (fm956 k9 hi9).2.2.2.1 k952 rfl), (fm956 k9 hi9).2.2.2.2⟩
          have kp968 := kp957.put ew959 s90
          refine lv_aload_n hx hb dX10_gatherFacts_115 rfl (lv_at hl 2 rfl) ?_
          refine x_get (ref := "NoteHouse") F hP k960 rfl (fun _ h => List.mem_cons_of_mem _ (List.mem_append_left _ (List.mem_append_left _ (List.mem_append_right _ (h))))) 8 (Nat.le_of_ble_eq_true rfl) (List.mem_cons_of_mem _ (List.mem_append_left _ (List.mem_append_left _ (List.mem_append_left _ (List.mem_append_left _ (List.mem_append_left _ (List.mem_append_left _ (List.mem_of_getElem? (i := 2) rfl)))))))) rfl rfl dX10_gatherFacts_116 ?_
          refine lv_bipush (v := 6) hx hb dX10_gatherFacts_119 (by decide) ?_
          refine lv_aload_n hx hb dX10_gatherFacts_121 rfl (lv_at hl 4 rfl) ?_
          refine x_get (ref := "NoteHouse$Paper") F hP k965 rfl (fun _ h => List.mem_cons_of_mem _ (List.mem_append_left _ (List.mem_append_left _ (List.mem_append_left _ (List.mem_append_right _ (h)))))) 1 (Nat.le_of_ble_eq_true rfl) (List.mem_cons_of_mem _ (List.mem_append_left _ (List.mem_append_left _ (List.mem_append_left _ (List.mem_append_left _ (List.mem_append_left _ (List.mem_append_left _ (List.mem_of_getElem? (i := 7) rfl)))))))) rfl rfl dX10_gatherFacts_122 ?_
          refine lv_aload_n hx hb dX10_gatherFacts_125 rfl (lv_at hl 4 rfl) ?_
          refine x_get (ref := "NoteHouse$Paper") F hP k965 rfl (fun _ h => List.mem_cons_of_mem _ (List.mem_append_left _ (List.mem_append_left _ (List.mem_append_left _ (List.mem_append_right _ (h)))))) 5 (Nat.le_of_ble_eq_true rfl) (List.mem_cons_of_mem _ (List.mem_append_left _ (List.mem_append_left _ (List.mem_append_left _ (List.mem_append_left _ (List.mem_append_left _ (List.mem_append_left _ (List.mem_of_getElem? (i := 8) rfl)))))))) rfl rfl dX10_gatherFacts_126 ?_
          refine lv_isub hx hb dX10_gatherFacts_129 ?_
          refine y_iast F hP hD hS k963 (vp_in_iff.mpr ⟨by decide, by decide⟩) dX10_gatherFacts_130 (fun w969 ew970 H locs hP hD hS => ?_)
          have k971 := wd_at.pt ew970 k960 (wd_nk k960 k963 rfl)
          have k972 := wd_at.pt ew970 k961 (wd_nk k961 k963 rfl)
          have k973 := wd_at.pt ew970 k962 (wd_nk k962 k963 rfl)
          have k974 : wd_at w969 a8 (.inl (cy 2, 8, .inl (upd (upd (upd (upd (upd (upd (upd ff (0 : Int32).toNatClampNeg rx500) (1 : Int32).toNatClampNeg 1) (2 : Int32).toNatClampNeg 1) (3 : Int32).toNatClampNeg (dd - dy)) (4 : Int32).toNatClampNeg 1) (5 : Int32).toNatClampNeg am) (6 : Int32).toNatClampNeg (wo - no)))) := wd_at.ps ew970 k963
          have k975 := wd_at.pt ew970 k964 (wd_nk k964 k963 rfl)
          have k976 := wd_at.pt ew970 k965 (wd_nk k965 k963 rfl)
          have fm977 : ∀ k9, k9 < ac → af k9 = some (ad k9) ∧ wd_at w969 (ad k9) (.inr (0, [.int (av0 k9), .int (av1 k9), .int (av2 k9), .int (av3 k9)])) ∧ tg (ad k9) = 4000 + k9 := fun k9 hi9 => ⟨(fm966 k9 hi9).1, wd_at.pt ew970 (fm966 k9 hi9).2.1 (wd_nk (fm966 k9 hi9).2.1 k963 rfl), (fm966 k9 hi9).2.2⟩
          have fm978 : ∀ k9, k9 < sc → zf k9 = some (so k9) ∧ wd_at w969 (so k9) (.inr (6, [.int (sp0 k9), .int (sp1 k9), .ref (sr k9)])) ∧ tg (so k9) = 5000 + k9 ∧ wd_at w969 (sr k9) (.inl (cy 2, 12, .inl (sd k9))) ∧ tg (sr k9) = 6000 + k9 := fun k9 hi9 => ⟨(fm967 k9 hi9).1, wd_at.pt ew970 (fm967 k9 hi9).2.1 (wd_nk (fm967 k9 hi9).2.1 k963 rfl), (fm967 k9 hi9).2.2.1, wd_at.pt ew970 (fm967 k9 hi9).2.2.2.1 (wd_nk (fm967 k9 hi9).2.2.2.1 k963 rfl), (fm967 k9 hi9).2.2.2.2⟩
          have kp979 := kp968.put ew970 s90
          refine lv_aload_n hx hb dX10_gatherFacts_131 rfl (lv_at hl 2 rfl) ?_
          refine x_get (ref := "NoteHouse") F hP k971 rfl (fun _ h => List.mem_cons_of_mem _ (List.mem_append_left _ (List.mem_append_left _ (List.mem_append_right _ (h))))) 8 (Nat.le_of_ble_eq_true rfl) (List.mem_cons_of_mem _ (List.mem_append_left _ (List.mem_append_left _ (List.mem_append_left _ (List.mem_append_left _ (List.mem_append_left _ (List.mem_append_left _ (List.mem_of_getElem? (i := 2) rfl)))))))) rfl rfl dX10_gatherFacts_132 ?_
          refine lv_bipush (v := 7) hx hb dX10_gatherFacts_135 (by decide) ?_
          refine lv_aload_n hx hb dX10_gatherFacts_137 rfl (lv_at hl 3 rfl) ?_
          refine x_get (ref := "NoteHouse$Shown") F hP k975 rfl (fun _ h => List.mem_cons_of_mem _ (List.mem_append_left _ (List.mem_append_left _ (List.mem_append_left _ (List.mem_append_left _ (List.mem_append_right _ (h))))))) 5 (Nat.le_of_ble_eq_true rfl) (List.mem_cons_of_mem _ (List.mem_append_left _ (List.mem_append_left _ (List.mem_append_left _ (List.mem_append_left _ (List.mem_append_left _ (List.mem_append_left _ (List.mem_of_getElem? (i := 0) rfl)))))))) rfl rfl dX10_gatherFacts_138 ?_
          refine y_iast F hP hD hS k974 (vp_in_iff.mpr ⟨by decide, by decide⟩) dX10_gatherFacts_141 (fun w980 ew981 H locs hP hD hS => ?_)
          have k982 := wd_at.pt ew981 k971 (wd_nk k971 k974 rfl)
          have k983 := wd_at.pt ew981 k972 (wd_nk k972 k974 rfl)
          have k984 := wd_at.pt ew981 k973 (wd_nk k973 k974 rfl)
          have k985 : wd_at w980 a8 (.inl (cy 2, 8, .inl (upd (upd (upd (upd (upd (upd (upd (upd ff (0 : Int32).toNatClampNeg rx500) (1 : Int32).toNatClampNeg 1) (2 : Int32).toNatClampNeg 1) (3 : Int32).toNatClampNeg (dd - dy)) (4 : Int32).toNatClampNeg 1) (5 : Int32).toNatClampNeg am) (6 : Int32).toNatClampNeg (wo - no)) (7 : Int32).toNatClampNeg dd))) := wd_at.ps ew981 k974
          have k986 := wd_at.pt ew981 k975 (wd_nk k975 k974 rfl)
          have k987 := wd_at.pt ew981 k976 (wd_nk k976 k974 rfl)
          have fm988 : ∀ k9, k9 < ac → af k9 = some (ad k9) ∧ wd_at w980 (ad k9) (.inr (0, [.int (av0 k9), .int (av1 k9), .int (av2 k9), .int (av3 k9)])) ∧ tg (ad k9) = 4000 + k9 := fun k9 hi9 => ⟨(fm977 k9 hi9).1, wd_at.pt ew981 (fm977 k9 hi9).2.1 (wd_nk (fm977 k9 hi9).2.1 k974 rfl), (fm977 k9 hi9).2.2⟩
          have fm989 : ∀ k9, k9 < sc → zf k9 = some (so k9) ∧ wd_at w980 (so k9) (.inr (6, [.int (sp0 k9), .int (sp1 k9), .ref (sr k9)])) ∧ tg (so k9) = 5000 + k9 ∧ wd_at w980 (sr k9) (.inl (cy 2, 12, .inl (sd k9))) ∧ tg (sr k9) = 6000 + k9 := fun k9 hi9 => ⟨(fm978 k9 hi9).1, wd_at.pt ew981 (fm978 k9 hi9).2.1 (wd_nk (fm978 k9 hi9).2.1 k974 rfl), (fm978 k9 hi9).2.2.1, wd_at.pt ew981 (fm978 k9 hi9).2.2.2.1 (wd_nk (fm978 k9 hi9).2.2.2.1 k974 rfl), (fm978 k9 hi9).2.2.2.2⟩
          have kp990 := kp979.put ew981 s90
          exact y_vr K hP hD hS (Nat.le_of_ble_eq_true rfl) (Nat.le_of_ble_eq_true rfl) rfl dX10_gatherFacts_142 (⟨upd (upd (upd (upd (upd (upd (upd (upd ff (0 : Int32).toNatClampNeg rx500) (1 : Int32).toNatClampNeg 1) (2 : Int32).toNatClampNeg 1) (3 : Int32).toNatClampNeg (dd - dy)) (4 : Int32).toNatClampNeg 1) (5 : Int32).toNatClampNeg am) (6 : Int32).toNatClampNeg (wo - no)) (7 : Int32).toNatClampNeg dd, rfl, kp990, k985⟩)
