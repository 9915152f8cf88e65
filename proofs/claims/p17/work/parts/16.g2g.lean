theorem dst_le (W : Nat → Nat → Nat) (s t : Nat) (ht : t < 12) : dst W s t ≤ 1000000 := ((dst_ok W s).2.1 t ht).1
set_option maxHeartbeats 4000000 in
set_option maxRecDepth 100000 in
theorem g_stop_init (l : Launch) (D : va_G) (cy : Nat → ClassId) (sk sv : Nat → Nat) (w : Wd) (q nd : Nat) (x0 y0 z0 : Int32) (g : Nat → Int32) (E : Nat → Nat) (c90 : wd_at w q (.inr (6, [.int 0, .int 0, .null]))) (c91 : wd_at w nd (.inl (cy 2, 12, .inl g)))  (S : Nat → Prop) (s90 : S q) (hE : ∀ t, t < 12 → g t = nI (E t) ∧ E t ≤ 1000000) : Ct l D cy sk sv yX6_init wsX6_init ({ frames := 1, cells := 1, slots := 12, locals := 12 }) [.ref q, .int x0, .int y0, .ref nd, .int z0] w (fun v w1 => ∃ (ar : Nat) (sd : Nat → Int32), v = none ∧ (∀ z, z < 12 → sd z = if E z = 1000000 then -1 else z0 + nI (E z)) ∧ wd_kp S w w1 ∧ wd_at w1 q (.inr (6, [.int x0, .int y0, .ref ar])) ∧ ar ∉ w.1 ∧ wd_at w1 ar (.inl (cy 2, 12, .inl sd))) := by
  refine Ct.by (cc := cX6_init) (maxL := 6) (ret := none) (by decide +kernel) rfl (Nat.le_of_ble_eq_true rfl) ?_
  intro p e s m args below meth c A Q F hnm K ls hl
  have F : wd_Fx p s m args meth c cX6_init 6 wsX6_init RX6 D cy sk sv A := F
  have hl : lv_has ls 6 [(0, .ref q), (1, .int x0), (2, .int y0), (3, .ref nd), (4, .int z0)] := hl
  have hx := F.1.1
  have hb := F.1.2.1
  have hown := F.1.2.2.2.1
  have hts := F.1.2.2.2.2
  intro H locs hP hD hS
  have kp0 : wd_kp S w w := wd_kp.rf
  refine lv_aload_n hx hb dX6_init_0 rfl (lv_at hl 0 rfl) ?_
  refine x_objInit F (List.mem_cons_of_mem _ (List.mem_append_left _ (List.mem_of_getElem? (i := 0) rfl))) (List.mem_cons_of_mem _ (List.mem_append_left _ (List.mem_of_getElem? (i := 1) rfl))) (List.mem_cons_of_mem _ (List.mem_append_left _ (List.mem_of_getElem? (i := 2) rfl))) hl.1 dX6_init_1 (Nat.le_of_ble_eq_true rfl) (Nat.le_of_ble_eq_true rfl) ?_
  refine lv_aload_n hx hb dX6_init_4 rfl (lv_at hl 0 rfl) ?_
  refine lv_bipush (v := 12) hx hb dX6_init_5 (by decide) ?_
  refine y_newI (N := 12) F hP hD hS (List.mem_cons_of_mem _ (List.mem_append_left _ (List.mem_of_getElem? (i := 3) rfl))) (by decide) (by decide) (by decide) (Nat.le_of_ble_eq_true rfl) (Nat.le_of_ble_eq_true rfl) dX6_init_7 (fun q1 w2 ew3 hq4 H hP hD hS => ?_)
  refine W.widen (k := 1) (n := 12) (Nat.le_of_ble_eq_true rfl) (Nat.le_of_ble_eq_true rfl) ?_
  have k5 := wd_at.ad ew3 hq4 c90
  have k6 := wd_at.ad ew3 hq4 c91
  have k7 : wd_at w2 q1 (.inl (cy 2, 12, .inl (fun _ => 0))) := wd_at.nw ew3
  have kp8 := kp0.add ew3 hq4
  refine y_putF (ref := "NoteHouse$Stop") F hP hD hS k5 rfl (fun _ h => List.mem_cons_of_mem _ (List.mem_append_right _ (h))) tyX6_ok nmX6 hnm 2 (Nat.le_of_ble_eq_true rfl) (List.mem_cons_of_mem _ (List.mem_append_left _ (List.mem_of_getElem? (i := 4) rfl))) rfl rfl rfl rfl rfl (Nat.le_of_ble_eq_true rfl) dX6_init_9 (fun w9 ew10 H locs hP hD hS => ?_)
  have k11 : wd_at w9 q (.inr (6, [.int 0, .int 0, .ref q1])) := wd_at.ps ew10 k5
  have k12 := wd_at.pt ew10 k6 (wd_nk k6 k5 rfl)
  have k13 := wd_at.pt ew10 k7 (Ne.symm (wd_nL hq4 c90))
  have kp14 := kp8.put ew10 s90
  refine lv_aload_n hx hb dX6_init_12 rfl (lv_at hl 0 rfl) ?_
  refine lv_iload_n hx hb dX6_init_13 rfl (lv_at hl 1 rfl) ?_
  refine y_putF (ref := "NoteHouse$Stop") F hP hD hS k11 rfl (fun _ h => List.mem_cons_of_mem _ (List.mem_append_right _ (h))) tyX6_ok nmX6 hnm 0 (Nat.le_of_ble_eq_true rfl) (List.mem_cons_of_mem _ (List.mem_append_left _ (List.mem_of_getElem? (i := 5) rfl))) rfl rfl rfl rfl rfl (Nat.le_of_ble_eq_true rfl) dX6_init_14 (fun w15 ew16 H locs hP hD hS => ?_)
  have k17 : wd_at w15 q (.inr (6, [.int x0, .int 0, .ref q1])) := wd_at.ps ew16 k11
  have k18 := wd_at.pt ew16 k12 (wd_nk k12 k11 rfl)
  have k19 := wd_at.pt ew16 k13 (Ne.symm (wd_nL hq4 c90))
  have kp20 := kp14.put ew16 s90
  refine lv_aload_n hx hb dX6_init_17 rfl (lv_at hl 0 rfl) ?_
  refine lv_iload_n hx hb dX6_init_18 rfl (lv_at hl 2 rfl) ?_
  refine y_putF (ref := "NoteHouse$Stop") F hP hD hS k17 rfl (fun _ h => List.mem_cons_of_mem _ (List.mem_append_right _ (h))) tyX6_ok nmX6 hnm 1 (Nat.le_of_ble_eq_true rfl) (List.mem_cons_of_mem _ (List.mem_append_left _ (List.mem_of_getElem? (i := 6) rfl))) rfl rfl rfl rfl rfl (Nat.le_of_ble_eq_true rfl) dX6_init_19 (fun w21 ew22 H locs hP hD hS => ?_)
  have k23 : wd_at w21 q (.inr (6, [.int x0, .int y0, .ref q1])) := wd_at.ps ew22 k17
  have k24 := wd_at.pt ew22 k18 (wd_nk k18 k17 rfl)
  have k25 := wd_at.pt ew22 k19 (Ne.symm (wd_nL hq4 c90))
  have kp26 := kp20.put ew22 s90
  refine lv_iconst (v := 0) hx hb dX6_init_22 (by decide) ?_
  refine lv_istore (lv' := [(5, .int 0), (0, .ref q), (1, .int x0), (2, .int y0), (3, .ref nd), (4, .int z0)]) hx hb dX6_init_23 hl (by decide) rfl (fun ls hl => ?_)
  have lp25 : ∀ (N : Nat) (j : Nat) (sd9 : Nat → Int32) (w27 : Wd), (j + N = 12) → (∀ z, z < j → sd9 z = if E z = 1000000 then -1 else z0 + nI (E z)) → (wd_at w27 q (.inr (6, [.int x0, .int y0, .ref q1]))) → (wd_at w27 nd (.inl (cy 2, 12, .inl g))) → (wd_at w27 q1 (.inl (cy 2, 12, .inl sd9))) → (wd_kp S w w27) → ∀ (ls : Array Slot), lv_has ls 6 [(0, .ref q), (1, .int x0), (2, .int y0), (3, .ref nd), (4, .int z0), (5, .int (nI j))] → Wv p l e ({ frames := 1, cells := 1, slots := 12, locals := 12 }) s m args below meth c D A (1) (12) Q w27 (F0 m 25 ls []) := by
    intro N
    induction N with
    | zero =>
      intro j sd9 w27 hN25 hsd k28 k29 k30 kp31 ls hl H locs hP hD hS
      refine lv_iload hx hb dX6_init_25 (lv_at hl 5 rfl) ?_
      refine lv_bipush (v := 12) hx hb dX6_init_27 (by decide) ?_
      refine lv_icmp_ge (tgt := 65) hx hb dX6_init_29 (by decide) (fun c_32 => ?_) (fun c_32 => absurd (nI_le (a := 12) (b := j) (by omega) (by omega)) c_32)
      exact y_vr K hP hD hS (Nat.le_of_ble_eq_true rfl) (Nat.le_of_ble_eq_true rfl) rfl dX6_init_65 (⟨q1, sd9, rfl, fun z hz => hsd z (by omega), kp31, k28, (kp0.out hq4), k30⟩)
    | succ N ih25 =>
      intro j sd9 w27 hN25 hsd k28 k29 k30 kp31 ls hl H locs hP hD hS
      refine lv_iload hx hb dX6_init_25 (lv_at hl 5 rfl) ?_
      refine lv_bipush (v := 12) hx hb dX6_init_27 (by decide) ?_
      refine lv_icmp_ge (tgt := 65) hx hb dX6_init_29 (by decide) (fun c_33 => absurd c_33 (nI_ge (a := j) (b := 12) (by omega) (by omega))) (fun c_33 => ?_)
      refine lv_aload_n hx hb dX6_init_32 rfl (lv_at hl 0 rfl) ?_
      refine x_get (ref := "NoteHouse$Stop") F hP k28 rfl (fun _ h => List.mem_cons_of_mem _ (List.mem_append_right _ (h))) 2 (Nat.le_of_ble_eq_true rfl) (List.mem_cons_of_mem _ (List.mem_append_left _ (List.mem_of_getElem? (i := 4) rfl))) rfl rfl dX6_init_33 ?_
      refine lv_iload hx hb dX6_init_36 (lv_at hl 5 rfl) ?_
      refine lv_aload_n hx hb dX6_init_38 rfl (lv_at hl 3 rfl) ?_
      refine lv_iload hx hb dX6_init_39 (lv_at hl 5 rfl) ?_
      refine x_iald F hP k29 (vp_in_nI (n := j) (N := 12) (by omega) (by decide)) dX6_init_41 ?_
      rw [nI_clamp (n := j) (by omega), (hE j (by omega)).1]
      refine lv_ldc (v := 1000000) hx hb hown (hts _ (List.mem_cons_of_mem _ (List.mem_append_left _ (List.mem_of_getElem? (i := 7) rfl)))) dX6_init_42 ?_
      refine lv_icmp_ne (tgt := 51) hx hb dX6_init_44 (by decide) (fun cz => ?_) (fun cz => ?_)
      · refine lv_iload hx hb dX6_init_51 (lv_at hl 4 rfl) ?_
        refine lv_aload_n hx hb dX6_init_53 rfl (lv_at hl 3 rfl) ?_
        refine lv_iload hx hb dX6_init_54 (lv_at hl 5 rfl) ?_
        refine x_iald F hP k29 (vp_in_nI (n := j) (N := 12) (by omega) (by decide)) dX6_init_56 ?_
        rw [nI_clamp (n := j) (by omega), (hE j (by omega)).1]
        refine lv_iadd hx hb dX6_init_57 ?_
        refine y_iast F hP hD hS k30 (vp_in_nI (n := j) (N := 12) (by omega) (by decide)) dX6_init_58 (fun w34 ew35 H locs hP hD hS => ?_)
        have k36 := wd_at.pt ew35 k28 (wd_nL hq4 c90)
        have k37 := wd_at.pt ew35 k29 (wd_nL hq4 c91)
        have k38 : wd_at w34 q1 (.inl (cy 2, 12, .inl (upd sd9 (nI j).toNatClampNeg (z0 + (nI (E j)))))) := wd_at.ps ew35 k30
        have kp39 := kp31.putN ew35 (kp0.out hq4)
        refine lv_iinc (v := nI (j + 1)) (lv' := [(5, .int (nI (j + 1))), (0, .ref q), (1, .int x0), (2, .int y0), (3, .ref nd), (4, .int z0)]) hx hb dX6_init_59 hl (k := 5) rfl (nI_1 j) (by decide) rfl (fun ls hl => ?_)
        refine lv_goto (tgt := 25) hx hb dX6_init_62 (by decide) ?_
        exact ih25 (j + 1) (upd sd9 (nI j).toNatClampNeg (z0 + (nI (E j)))) w34 (by omega) (upAll9 (P := fun z x => x = if E z = 1000000 then -1 else z0 + nI (E z)) (n := 12) (by omega) (by decide) hsd (show z0 + nI (E j) = _ from by rw [if_neg (fun q => cz (by rw [q]; rfl))])) k36 k37 k38 kp39 ls (lv_sub hl [1, 2, 3, 4, 5, 0] rfl) H locs hP hD hS
      · refine lv_iconst (v := (-1)) hx hb dX6_init_47 (by decide) ?_
        refine lv_goto (tgt := 58) hx hb dX6_init_48 (by decide) ?_
        refine y_iast F hP hD hS k30 (vp_in_nI (n := j) (N := 12) (by omega) (by decide)) dX6_init_58 (fun w40 ew41 H locs hP hD hS => ?_)
        have k42 := wd_at.pt ew41 k28 (wd_nL hq4 c90)
        have k43 := wd_at.pt ew41 k29 (wd_nL hq4 c91)
        have k44 : wd_at w40 q1 (.inl (cy 2, 12, .inl (upd sd9 (nI j).toNatClampNeg (-1)))) := wd_at.ps ew41 k30
        have kp45 := kp31.putN ew41 (kp0.out hq4)
        refine lv_iinc (v := nI (j + 1)) (lv' := [(5, .int (nI (j + 1))), (0, .ref q), (1, .int x0), (2, .int y0), (3, .ref nd), (4, .int z0)]) hx hb dX6_init_59 hl (k := 5) rfl (nI_1 j) (by decide) rfl (fun ls hl => ?_)
        refine lv_goto (tgt := 25) hx hb dX6_init_62 (by decide) ?_
        exact ih25 (j + 1) (upd sd9 (nI j).toNatClampNeg (-1)) w40 (by omega) (upAll9 (P := fun z x => x = if E z = 1000000 then -1 else z0 + nI (E z)) (n := 12) (by omega) (by decide) hsd (show (-1 : Int32) = _ from by rw [if_pos ((nI_eq (b := 1000000) (by have := (hE j (by omega)).2; omega) (by omega)).mp cz)])) k42 k43 k44 kp45 ls (lv_sub hl [1, 2, 3, 4, 5, 0] rfl) H locs hP hD hS
  exact lp25 _ 0 (fun _ => 0) w21 (Nat.zero_add 12) (fun z hz => absurd hz (Nat.not_lt_zero z)) k23 k24 k25 kp26 ls (lv_sub hl [1, 2, 3, 4, 5, 0] rfl) H locs hP hD hS
set_option maxHeartbeats 4000000 in
set_option maxRecDepth 100000 in
theorem g_letterDay (l : Launch) (D : va_G) (cy : Nat → ClassId) (sk sv : Nat → Nat) (w : Wd) (x a0 a1 a2 a3 a4 a5 a6 a7 a8 a9 a10 a11 pc ac sc sh : Nat) (td : Int32)(b0 b1 b2 b3 : Nat) (f0 f1 f2 f3 : Nat → Int32) (j s0 : Nat) (Pm Wm : Nat → Nat → Nat) (c90 : wd_at w x (.inr (10, [.ref a0, .ref a1, .ref a2, .ref a3, .ref a4, .ref a5, .ref a6, .ref a7, .ref a8, .ref a9, .ref a10, .ref a11, .int td, .int (nI pc), .int (nI ac), .int (nI sc), .int (nI sh)]))) (c91 : wd_at w a0 (.inr (9, [.ref b0, .ref b1, .ref b2, .ref b3]))) (c92 : wd_at w b0 (.inl (cy 2, 144, .inl f0))) (c93 : wd_at w b1 (.inl (cy 2, 144, .inl f1))) (c94 : wd_at w b2 (.inl (cy 2, 12, .inl f2))) (c95 : wd_at w b3 (.inl (cy 4, 12, .inl f3)))  (S : Nat → Prop) (s90 : S b2) (s91 : S b3) (hj : j < 12) (hs0 : s0 < 12) (hw0 : wOK f0 Pm) (hw1 : wOK f1 Wm) (nb2b3 : b2 ≠ b3) : Ct l D cy sk sv yX10_letterDay wsX10_letterDay ({ frames := 4, cells := 0, slots := 0, locals := 85 }) [.ref x, .int (nI s0), .int (nI j)] w (fun v w1 => ∃ (d1 : Nat → Int32) (p1 : Nat → Int32) (r1 : Int32), v = some (.int r1) ∧ (r1 = lday (nws 0 Pm Wm) td s0 j) ∧ wd_kp S w w1 ∧ wd_at w1 b2 (.inl (cy 2, 12, .inl d1)) ∧ wd_at w1 b3 (.inl (cy 4, 12, .inl p1))) := by
  refine Ct.by (cc := cX10_letterDay) (maxL := 4) (ret := (some .int)) (by decide +kernel) rfl (Nat.le_of_ble_eq_true rfl) ?_
  intro p e s m args below meth c A Q F hnm K ls hl
  have F : wd_Fx p s m args meth c cX10_letterDay 4 wsX10_letterDay RX10 D cy sk sv A := F
  have hl : lv_has ls 4 [(0, .ref x), (1, .int (nI s0)), (2, .int (nI j))] := hl
  have hx := F.1.1
  have hb := F.1.2.1
  have hown := F.1.2.2.2.1
  have hts := F.1.2.2.2.2
  intro H locs hP hD hS
  have kp0 : wd_kp S w w := wd_kp.rf
  refine lv_aload_n hx hb dX10_letterDay_0 rfl (lv_at hl 0 rfl) ?_
  refine x_get (ref := "NoteHouse") F hP c90 rfl (fun _ h => List.mem_cons_of_mem _ (List.mem_append_left _ (List.mem_append_right _ (h)))) 0 (Nat.le_of_ble_eq_true rfl) (List.mem_cons_of_mem _ (List.mem_append_left _ (List.mem_append_left _ (List.mem_append_left _ (List.mem_of_getElem? (i := 0) rfl))))) rfl rfl dX10_letterDay_1 ?_
  refine lv_iload_n hx hb dX10_letterDay_4 rfl (lv_at hl 1 rfl) ?_
  refine x_callV (n := 1) (As := [.int (nI s0)]) (rest := []) F hP hD hS (g_letterDays l D cy sk sv w a0 b0 b1 b2 b3 s0 f0 f1 f2 f3 Pm Wm c91 c92 c93 c94 c95 (fun b => b = b2 ∨ b = b3) (Or.inl rfl) (Or.inr rfl) (by omega) (by assumption) (by assumption) nb2b3) gX10_letterDay_X9_letterDays rfl rfl (by decide +kernel) ⟨(Nat.le_of_ble_eq_true rfl), (Nat.le_of_ble_eq_true rfl)⟩ rfl hl.1 (Nat.le_of_ble_eq_true rfl) c91 rfl dX10_letterDay_5 rfl ⟨(Nat.le_of_ble_eq_true rfl), (Nat.le_of_ble_eq_true rfl)⟩ (fun v2 w3 hp1 H locs hP hD hS => ?_)
  obtain ⟨dx4, px5, rfl, hz6, kq9, k7, k8⟩ := hp1
  have k10 := kq9.2 _ _ c90 (fun q9 => Or.elim q9 (wd_nk c90 c94 rfl) (fun q9 : x = b3 => (wd_nk c90 c95 rfl) q9))
  have k11 := kq9.2 _ _ c91 (fun q9 => Or.elim q9 (wd_nk c91 c94 rfl) (fun q9 : a0 = b3 => (wd_nk c91 c95 rfl) q9))
  have k12 := kq9.2 _ _ c92 (fun q9 => Or.elim q9 (wd_nk c92 c94 rfl) (fun q9 : b0 = b3 => (wd_nk c92 c95 rfl) q9))
  have k13 := kq9.2 _ _ c93 (fun q9 => Or.elim q9 (wd_nk c93 c94 rfl) (fun q9 : b1 = b3 => (wd_nk c93 c95 rfl) q9))
  have kp14 := kp0.tr kq9 (fun b9 hm q9 => (fun q9 => Or.elim q9 (fun q9 => q9 ▸ s90) (fun q9 => q9 ▸ s91)) q9)
  refine W.eq (g2 := F0 m 8 ls [.ref b2]) rfl (W.widen (k := 0) (n := 0) (Nat.le_of_ble_eq_true rfl) (Nat.le_of_ble_eq_true rfl) ?_)
  refine lv_iload_n hx hb dX10_letterDay_8 rfl (lv_at hl 2 rfl) ?_
  refine x_iald F hP k7 (vp_in_nI (n := j) (N := 12) (by omega) (by decide)) dX10_letterDay_9 ?_
  rw [nI_clamp (n := j) (by omega), hz6 j hj]
  refine lv_istore_n (lv' := [(3, .int (nI (dst (nws 0 Pm Wm) s0 j))), (0, .ref x), (1, .int (nI s0)), (2, .int (nI j))]) hx hb dX10_letterDay_10 rfl hl (by decide) rfl (fun ls hl => ?_)
  refine lv_iload_n hx hb dX10_letterDay_11 rfl (lv_at hl 0 rfl) ?_
  refine lv_ldc (v := 1000000) hx hb hown (hts _ (List.mem_cons_of_mem _ (List.mem_append_left _ (List.mem_append_left _ (List.mem_append_left _ (List.mem_of_getElem? (i := 1) rfl)))))) dX10_letterDay_12 ?_
  refine lv_icmp_ne (tgt := 21) hx hb dX10_letterDay_14 (by decide) (fun cz => ?_) (fun cz => ?_)
  · refine lv_aload_n hx hb dX10_letterDay_21 rfl (lv_at hl 1 rfl) ?_
    refine x_get (ref := "NoteHouse") F hP k10 rfl (fun _ h => List.mem_cons_of_mem _ (List.mem_append_left _ (List.mem_append_right _ (h)))) 12 (Nat.le_of_ble_eq_true rfl) (List.mem_cons_of_mem _ (List.mem_append_left _ (List.mem_append_left _ (List.mem_append_left _ (List.mem_of_getElem? (i := 2) rfl))))) rfl rfl dX10_letterDay_22 ?_
    refine lv_iload_n hx hb dX10_letterDay_25 rfl (lv_at hl 0 rfl) ?_
    refine lv_iadd hx hb dX10_letterDay_26 ?_
    exact y_ir K hP hD hS (Nat.le_of_ble_eq_true rfl) (Nat.le_of_ble_eq_true rfl) (ty := .int) rfl rfl dX10_letterDay_27 (⟨dx4, px5, td + (nI (dst (nws 0 Pm Wm) s0 j)), rfl, by unfold lday; rw [if_neg (fun q => cz (by rw [q]; rfl))], kp14, k7, k8⟩)
  · refine lv_iconst (v := (-1)) hx hb dX10_letterDay_17 (by decide) ?_
    refine lv_goto (tgt := 27) hx hb dX10_letterDay_18 (by decide) ?_
    exact y_ir K hP hD hS (Nat.le_of_ble_eq_true rfl) (Nat.le_of_ble_eq_true rfl) (ty := .int) rfl rfl dX10_letterDay_27 (⟨dx4, px5, (-1), rfl, by unfold lday; rw [if_pos ((nI_eq (b := 1000000) (by have := dst_le (nws 0 Pm Wm) s0 j hj; omega) (by omega)).mp cz)], kp14, k7, k8⟩)
set_option maxHeartbeats 4000000 in
set_option maxRecDepth 100000 in
theorem g_isAdvised (l : Launch) (D : va_G) (cy : Nat → ClassId) (sk sv : Nat → Nat) (w : Wd) (x a0 a1 a2 a3 a4 a5 a6 a7 a8 a9 a10 a11 pc ac sc sh : Nat) (td : Int32)(tg : Nat → Nat)(af : Nat → Option Nat) (ad : Nat → Nat) (av0 av1 av2 av3 : Nat → Int32)(z tw : Nat) (pp le am hh dd ru de cp ld : Int32) (c90 : wd_at w x (.inr (10, [.ref a0, .ref a1, .ref a2, .ref a3, .ref a4, .ref a5, .ref a6, .ref a7, .ref a8, .ref a9, .ref a10, .ref a11, .int td, .int (nI pc), .int (nI ac), .int (nI sc), .int (nI sh)]))) (c91 : wd_at w a3 (.inl (cy 5, 60, .inr (.inr (.inr (.inr af)))))) (c92 : wd_at w z (.inr (5, [.int (nI tw), .int pp, .int le, .int am, .int hh, .int dd, .int ru, .int de, .int cp, .int ld]))) (hA9 : ∀ k9, k9 < ac → af k9 = some (ad k9) ∧ wd_at w (ad k9) (.inr (0, [.int (av0 k9), .int (av1 k9), .int (av2 k9), .int (av3 k9)])) ∧ tg (ad k9) = 4000 + k9) (hac : ac ≤ 60) : Ct l D cy sk sv yX10_isAdvised wsX10_isAdvised ({ frames := 1, cells := 0, slots := 0, locals := 21 }) [.ref x, .ref z] w (fun v w1 => ∃ (r1 : Int32), v = some (.int r1) ∧ (r1 = b01 (adB ac av0 av1 av2 pp (nI tw) dd)) ∧ (r1 = 0 ∨ r1 = 1) ∧ w = w1) := by
  refine Ct.by (cc := cX10_isAdvised) (maxL := 4) (ret := (some .boolean)) (by decide +kernel) rfl (Nat.le_of_ble_eq_true rfl) ?_
  intro p e s m args below meth c A Q F hnm K ls hl
  have F : wd_Fx p s m args meth c cX10_isAdvised 4 wsX10_isAdvised RX10 D cy sk sv A := F
  have hl : lv_has ls 4 [(0, .ref x), (1, .ref z)] := hl
  have hx := F.1.1
  have hb := F.1.2.1
  have hown := F.1.2.2.2.1
  have hts := F.1.2.2.2.2
  intro H locs hP hD hS
  refine lv_iconst (v := 0) hx hb dX10_isAdvised_0 (by decide) ?_
  refine lv_istore_n (lv' := [(2, .int 0), (0, .ref x), (1, .ref z)]) hx hb dX10_isAdvised_1 rfl hl (by decide) rfl (fun ls hl => ?_)
  have lp2 : ∀ (N : Nat) (k : Nat), (k + N = ac) → (∀ z, z < k → adC av0 av1 av2 pp (nI tw) dd z = false) → ∀ (ls : Array Slot), lv_has ls 4 [(0, .ref x), (1, .ref z), (2, .int (nI k))] → Wv p l e ({ frames := 1, cells := 0, slots := 0, locals := 21 }) s m args below meth c D A (0) (0) Q w (F0 m 2 ls []) := by
    intro N
    induction N with
    | zero =>
      intro k hN2 had ls hl H locs hP hD hS
      refine lv_iload_n hx hb dX10_isAdvised_2 rfl (lv_at hl 2 rfl) ?_
      refine lv_aload_n hx hb dX10_isAdvised_3 rfl (lv_at hl 0 rfl) ?_
      refine x_get (ref := "NoteHouse") F hP c90 rfl (fun _ h => List.mem_cons_of_mem _ (List.mem_append_left _ (List.mem_append_left _ (List.mem_append_right _ (h))))) 14 (Nat.le_of_ble_eq_true rfl) (List.mem_cons_of_mem _ (List.mem_append_left _ (List.mem_append_left _ (List.mem_append_left _ (List.mem_of_getElem? (i := 0) rfl))))) rfl rfl dX10_isAdvised_4 ?_
      refine lv_icmp_ge (tgt := 61) hx hb dX10_isAdvised_7 (by decide) (fun c_2 => ?_) (fun c_2 => absurd (nI_le (a := ac) (b := k) (by omega) (by omega)) c_2)
      refine lv_iconst (v := 0) hx hb dX10_isAdvised_61 (by decide) ?_
      exact y_ir K hP hD hS (Nat.le_of_ble_eq_true rfl) (Nat.le_of_ble_eq_true rfl) (ty := .boolean) rfl rfl dX10_isAdvised_62 (⟨0, rfl, by rw [show adB ac av0 av1 av2 pp (nI tw) dd = false from anyB_f _ (fun z hz => had z (by omega))]; rfl, Or.inl rfl, rfl⟩)
    | succ N ih2 =>
      intro k hN2 had ls hl H locs hP hD hS
      refine lv_iload_n hx hb dX10_isAdvised_2 rfl (lv_at hl 2 rfl) ?_
      refine lv_aload_n hx hb dX10_isAdvised_3 rfl (lv_at hl 0 rfl) ?_
      refine x_get (ref := "NoteHouse") F hP c90 rfl (fun _ h => List.mem_cons_of_mem _ (List.mem_append_left _ (List.mem_append_left _ (List.mem_append_right _ (h))))) 14 (Nat.le_of_ble_eq_true rfl) (List.mem_cons_of_mem _ (List.mem_append_left _ (List.mem_append_left _ (List.mem_append_left _ (List.mem_of_getElem? (i := 0) rfl))))) rfl rfl dX10_isAdvised_4 ?_
      refine lv_icmp_ge (tgt := 61) hx hb dX10_isAdvised_7 (by decide) (fun c_3 => absurd c_3 (nI_ge (a := k) (b := ac) (by omega) (by omega))) (fun c_3 => ?_)
      refine lv_aload_n hx hb dX10_isAdvised_10 rfl (lv_at hl 0 rfl) ?_
      refine x_get (ref := "NoteHouse") F hP c90 rfl (fun _ h => List.mem_cons_of_mem _ (List.mem_append_left _ (List.mem_append_left _ (List.mem_append_right _ (h))))) 3 (Nat.le_of_ble_eq_true rfl) (List.mem_cons_of_mem _ (List.mem_append_left _ (List.mem_append_left _ (List.mem_append_left _ (List.mem_of_getElem? (i := 1) rfl))))) rfl rfl dX10_isAdvised_11 ?_
      refine lv_iload_n hx hb dX10_isAdvised_14 rfl (lv_at hl 2 rfl) ?_
      refine x_aald F hP c91 rfl (vp_in_nI (n := k) (N := 60) (by omega) (by decide)) dX10_isAdvised_15 ?_
      rw [nI_clamp (n := k) (by omega), (hA9 k (by omega)).1]
      have k4 := (hA9 k (by omega)).2.1
      have tz5 := (hA9 k (by omega)).2.2
      refine W.eq (g2 := F0 m _ ls [.ref (ad k)]) rfl ?_
      refine lv_astore_n (lv' := [(3, .ref (ad k)), (0, .ref x), (1, .ref z), (2, .int (nI k))]) hx hb dX10_isAdvised_16 rfl hl (by decide) rfl (fun ls hl => ?_)
      refine lv_aload_n hx hb dX10_isAdvised_17 rfl (lv_at hl 0 rfl) ?_
      refine x_get (ref := "NoteHouse$Advice") F hP k4 rfl (fun _ h => List.mem_cons_of_mem _ (List.mem_append_left _ (List.mem_append_right _ (h)))) 0 (Nat.le_of_ble_eq_true rfl) (List.mem_cons_of_mem _ (List.mem_append_left _ (List.mem_append_left _ (List.mem_append_left _ (List.mem_of_getElem? (i := 2) rfl))))) rfl rfl dX10_isAdvised_18 ?_
      refine lv_aload_n hx hb dX10_isAdvised_21 rfl (lv_at hl 2 rfl) ?_
      refine x_get (ref := "NoteHouse$Shown") F hP c92 rfl (fun _ h => List.mem_cons_of_mem _ (List.mem_append_right _ (h))) 1 (Nat.le_of_ble_eq_true rfl) (List.mem_cons_of_mem _ (List.mem_append_left _ (List.mem_append_left _ (List.mem_append_left _ (List.mem_of_getElem? (i := 3) rfl))))) rfl rfl dX10_isAdvised_22 ?_
      refine lv_icmp_ne (tgt := 55) hx hb dX10_isAdvised_25 (by decide) (fun ca1 => ?_) (fun ca1 => ?_)
      · refine lv_iinc (v := nI (k + 1)) (lv' := [(2, .int (nI (k + 1))), (3, .ref (ad k)), (0, .ref x), (1, .ref z)]) hx hb dX10_isAdvised_55 hl (k := 3) rfl (nI_1 k) (by decide) rfl (fun ls hl => ?_)
        refine lv_goto (tgt := 2) hx hb dX10_isAdvised_58 (by decide) ?_
        exact ih2 (k + 1)  (by omega) (lt_s (p := fun z => adC av0 av1 av2 pp (nI tw) dd z = false) had (by simp [adC, ca1]))   ls (lv_sub hl [2, 3, 0] rfl) H locs hP hD hS
      · refine lv_aload_n hx hb dX10_isAdvised_28 rfl (lv_at hl 0 rfl) ?_
        refine x_get (ref := "NoteHouse$Advice") F hP k4 rfl (fun _ h => List.mem_cons_of_mem _ (List.mem_append_left _ (List.mem_append_right _ (h)))) 1 (Nat.le_of_ble_eq_true rfl) (List.mem_cons_of_mem _ (List.mem_append_left _ (List.mem_append_left _ (List.mem_append_left _ (List.mem_of_getElem? (i := 4) rfl))))) rfl rfl dX10_isAdvised_29 ?_
        refine lv_aload_n hx hb dX10_isAdvised_32 rfl (lv_at hl 2 rfl) ?_
        refine x_get (ref := "NoteHouse$Shown") F hP c92 rfl (fun _ h => List.mem_cons_of_mem _ (List.mem_append_right _ (h))) 0 (Nat.le_of_ble_eq_true rfl) (List.mem_cons_of_mem _ (List.mem_append_left _ (List.mem_append_left _ (List.mem_append_left _ (List.mem_of_getElem? (i := 5) rfl))))) rfl rfl dX10_isAdvised_33 ?_
        refine lv_icmp_ne (tgt := 55) hx hb dX10_isAdvised_36 (by decide) (fun ca2 => ?_) (fun ca2 => ?_)
        · refine lv_iinc (v := nI (k + 1)) (lv' := [(2, .int (nI (k + 1))), (3, .ref (ad k)), (0, .ref x), (1, .ref z)]) hx hb dX10_isAdvised_55 hl (k := 3) rfl (nI_1 k) (by decide) rfl (fun ls hl => ?_)
          refine lv_goto (tgt := 2) hx hb dX10_isAdvised_58 (by decide) ?_
          exact ih2 (k + 1)  (by omega) (lt_s (p := fun z => adC av0 av1 av2 pp (nI tw) dd z = false) had (by simp [adC, ca1, ca2]))   ls (lv_sub hl [2, 3, 0] rfl) H locs hP hD hS
        · refine lv_aload_n hx hb dX10_isAdvised_39 rfl (lv_at hl 0 rfl) ?_
          refine x_get (ref := "NoteHouse$Advice") F hP k4 rfl (fun _ h => List.mem_cons_of_mem _ (List.mem_append_left _ (List.mem_append_right _ (h)))) 2 (Nat.le_of_ble_eq_true rfl) (List.mem_cons_of_mem _ (List.mem_append_left _ (List.mem_append_left _ (List.mem_append_left _ (List.mem_of_getElem? (i := 6) rfl))))) rfl rfl dX10_isAdvised_40 ?_
          refine lv_aload_n hx hb dX10_isAdvised_43 rfl (lv_at hl 2 rfl) ?_
          refine x_get (ref := "NoteHouse$Shown") F hP c92 rfl (fun _ h => List.mem_cons_of_mem _ (List.mem_append_right _ (h))) 5 (Nat.le_of_ble_eq_true rfl) (List.mem_cons_of_mem _ (List.mem_append_left _ (List.mem_append_left _ (List.mem_append_left _ (List.mem_of_getElem? (i := 7) rfl))))) rfl rfl dX10_isAdvised_44 ?_
          refine x_callS (n := 2) (As := [.int (av2 k), .int dd]) (rest := []) F hP hD hS (g_hasCome l D cy sk sv w (av2 k) dd) gX10_isAdvised_X10_hasCome rfl (by decide +kernel) ⟨(Nat.le_of_ble_eq_true rfl), (Nat.le_of_ble_eq_true rfl)⟩ rfl hl.1 (Nat.le_of_ble_eq_true rfl) dX10_isAdvised_47 rfl ⟨(Nat.le_of_ble_eq_true rfl), (Nat.le_of_ble_eq_true rfl)⟩ (fun v7 w8 hp6 H locs hP hD hS => ?_)
          obtain ⟨rfl, rfl⟩ := hp6
          refine W.eq (g2 := F0 m 50 ls [.int (hcI (av2 k) dd)]) rfl (W.widen (k := 0) (n := 0) (Nat.le_of_ble_eq_true rfl) (Nat.le_of_ble_eq_true rfl) ?_)
          refine lv_if_eq (tgt := 55) hx hb dX10_isAdvised_50 (by decide) (fun ca3 => ?_) (fun ca3 => ?_)
          · refine lv_iinc (v := nI (k + 1)) (lv' := [(2, .int (nI (k + 1))), (3, .ref (ad k)), (0, .ref x), (1, .ref z)]) hx hb dX10_isAdvised_55 hl (k := 3) rfl (nI_1 k) (by decide) rfl (fun ls hl => ?_)
            refine lv_goto (tgt := 2) hx hb dX10_isAdvised_58 (by decide) ?_
            exact ih2 (k + 1)  (by omega) (lt_s (p := fun z => adC av0 av1 av2 pp (nI tw) dd z = false) had (by simp [adC, ca1, ca2, ca3]))   ls (lv_sub hl [2, 3, 0] rfl) H locs hP hD hS
          · refine lv_iconst (v := 1) hx hb dX10_isAdvised_53 (by decide) ?_
            exact y_ir K hP hD hS (Nat.le_of_ble_eq_true rfl) (Nat.le_of_ble_eq_true rfl) (ty := .boolean) rfl rfl dX10_isAdvised_54 (⟨1, rfl, by rw [show adB ac av0 av1 av2 pp (nI tw) dd = true from anyB_t (k := k) (by simp [adC, ca1, ca2, ca3]) _ (by omega)]; rfl, Or.inr rfl, rfl⟩)
  exact lp2 _ 0  (Nat.zero_add ac) (fun z hz => absurd hz (Nat.not_lt_zero z))   ls (lv_sub hl [1, 2, 0] rfl) H locs hP hD hS
set_option maxHeartbeats 4000000 in
set_option maxRecDepth 100000 in
theorem g_isStopped (l : Launch) (D : va_G) (cy : Nat → ClassId) (sk sv : Nat → Nat) (w : Wd) (x a0 a1 a2 a3 a4 a5 a6 a7 a8 a9 a10 a11 pc ac sc sh : Nat) (td : Int32)(tg : Nat → Nat)(zf : Nat → Option Nat) (so sr : Nat → Nat) (sp0 sp1 : Nat → Int32) (sd : Nat → Nat → Int32)(z tw : Nat) (pp le am hh dd ru de cp ld : Int32) (c90 : wd_at w x (.inr (10, [.ref a0, .ref a1, .ref a2, .ref a3, .ref a4, .ref a5, .ref a6, .ref a7, .ref a8, .ref a9, .ref a10, .ref a11, .int td, .int (nI pc), .int (nI ac), .int (nI sc), .int (nI sh)]))) (c91 : wd_at w a4 (.inl (cy 8, 60, .inr (.inr (.inr (.inr zf)))))) (c92 : wd_at w z (.inr (5, [.int (nI tw), .int pp, .int le, .int am, .int hh, .int dd, .int ru, .int de, .int cp, .int ld]))) (hS9 : ∀ k9, k9 < sc → zf k9 = some (so k9) ∧ wd_at w (so k9) (.inr (6, [.int (sp0 k9), .int (sp1 k9), .ref (sr k9)])) ∧ tg (so k9) = 5000 + k9 ∧ wd_at w (sr k9) (.inl (cy 2, 12, .inl (sd k9))) ∧ tg (sr k9) = 6000 + k9) (hsc : sc ≤ 60) (htw : tw < 12) : Ct l D cy sk sv yX10_isStopped wsX10_isStopped ({ frames := 2, cells := 0, slots := 0, locals := 42 }) [.ref x, .ref z] w (fun v w1 => ∃ (r1 : Int32), v = some (.int r1) ∧ (r1 = b01 (stB sc sp0 sp1 sd pp le tw dd)) ∧ (r1 = 0 ∨ r1 = 1) ∧ w = w1) := by
  refine Ct.by (cc := cX10_isStopped) (maxL := 3) (ret := (some .boolean)) (by decide +kernel) rfl (Nat.le_of_ble_eq_true rfl) ?_
  intro p e s m args below meth c A Q F hnm K ls hl
  have F : wd_Fx p s m args meth c cX10_isStopped 3 wsX10_isStopped RX10 D cy sk sv A := F
  have hl : lv_has ls 3 [(0, .ref x), (1, .ref z)] := hl
  have hx := F.1.1
  have hb := F.1.2.1
  have hown := F.1.2.2.2.1
  have hts := F.1.2.2.2.2
  intro H locs hP hD hS
  refine lv_iconst (v := 0) hx hb dX10_isStopped_0 (by decide) ?_
  refine lv_istore_n (lv' := [(2, .int 0), (0, .ref x), (1, .ref z)]) hx hb dX10_isStopped_1 rfl hl (by decide) rfl (fun ls hl => ?_)
  have lp2 : ∀ (N : Nat) (k : Nat), (k + N = sc) → (∀ z, z < k → stC sp0 sp1 sd pp le tw dd z = false) → ∀ (ls : Array Slot), lv_has ls 3 [(0, .ref x), (1, .ref z), (2, .int (nI k))] → Wv p l e ({ frames := 2, cells := 0, slots := 0, locals := 42 }) s m args below meth c D A (0) (0) Q w (F0 m 2 ls []) := by
    intro N
    induction N with
    | zero =>
      intro k hN2 had ls hl H locs hP hD hS
      refine lv_iload_n hx hb dX10_isStopped_2 rfl (lv_at hl 2 rfl) ?_
      refine lv_aload_n hx hb dX10_isStopped_3 rfl (lv_at hl 0 rfl) ?_
      refine x_get (ref := "NoteHouse") F hP c90 rfl (fun _ h => List.mem_cons_of_mem _ (List.mem_append_left _ (List.mem_append_left _ (List.mem_append_right _ (h))))) 15 (Nat.le_of_ble_eq_true rfl) (List.mem_cons_of_mem _ (List.mem_append_left _ (List.mem_append_left _ (List.mem_append_left _ (List.mem_of_getElem? (i := 0) rfl))))) rfl rfl dX10_isStopped_4 ?_
      refine lv_icmp_ge (tgt := 31) hx hb dX10_isStopped_7 (by decide) (fun c_2 => ?_) (fun c_2 => absurd (nI_le (a := sc) (b := k) (by omega) (by omega)) c_2)
      refine lv_iconst (v := 0) hx hb dX10_isStopped_31 (by decide) ?_
      exact y_ir K hP hD hS (Nat.le_of_ble_eq_true rfl) (Nat.le_of_ble_eq_true rfl) (ty := .boolean) rfl rfl dX10_isStopped_32 (⟨0, rfl, by rw [show stB sc sp0 sp1 sd pp le tw dd = false from anyB_f _ (fun z hz => had z (by omega))]; rfl, Or.inl rfl, rfl⟩)
    | succ N ih2 =>
      intro k hN2 had ls hl H locs hP hD hS
      refine lv_iload_n hx hb dX10_isStopped_2 rfl (lv_at hl 2 rfl) ?_
      refine lv_aload_n hx hb dX10_isStopped_3 rfl (lv_at hl 0 rfl) ?_
      refine x_get (ref := "NoteHouse") F hP c90 rfl (fun _ h => List.mem_cons_of_mem _ (List.mem_append_left _ (List.mem_append_left _ (List.mem_append_right _ (h))))) 15 (Nat.le_of_ble_eq_true rfl) (List.mem_cons_of_mem _ (List.mem_append_left _ (List.mem_append_left _ (List.mem_append_left _ (List.mem_of_getElem? (i := 0) rfl))))) rfl rfl dX10_isStopped_4 ?_
      refine lv_icmp_ge (tgt := 31) hx hb dX10_isStopped_7 (by decide) (fun c_3 => absurd c_3 (nI_ge (a := k) (b := sc) (by omega) (by omega))) (fun c_3 => ?_)
      refine lv_aload_n hx hb dX10_isStopped_10 rfl (lv_at hl 0 rfl) ?_
      refine x_get (ref := "NoteHouse") F hP c90 rfl (fun _ h => List.mem_cons_of_mem _ (List.mem_append_left _ (List.mem_append_left _ (List.mem_append_right _ (h))))) 4 (Nat.le_of_ble_eq_true rfl) (List.mem_cons_of_mem _ (List.mem_append_left _ (List.mem_append_left _ (List.mem_append_left _ (List.mem_of_getElem? (i := 1) rfl))))) rfl rfl dX10_isStopped_11 ?_
      refine lv_iload_n hx hb dX10_isStopped_14 rfl (lv_at hl 2 rfl) ?_
      refine x_aald F hP c91 rfl (vp_in_nI (n := k) (N := 60) (by omega) (by decide)) dX10_isStopped_15 ?_
      rw [nI_clamp (n := k) (by omega), (hS9 k (by omega)).1]
      have k4 := (hS9 k (by omega)).2.1
      have tz5 := (hS9 k (by omega)).2.2.1
      have k6 := (hS9 k (by omega)).2.2.2.1
      have tz7 := (hS9 k (by omega)).2.2.2.2
      refine W.eq (g2 := F0 m _ ls [.ref (so k)]) rfl ?_
      refine lv_aload_n hx hb dX10_isStopped_16 rfl (lv_at hl 1 rfl) ?_
      refine x_callV (n := 1) (As := [.ref z]) (rest := []) F hP hD hS (g_holdsAgainst l D cy sk sv w (so k) (sr k) z tw (sp0 k) (sp1 k) pp le am hh dd ru de cp ld (sd k) k4 k6 c92 (by omega)) gX10_isStopped_X6_holdsAgainst rfl rfl (by decide +kernel) ⟨(Nat.le_of_ble_eq_true rfl), (Nat.le_of_ble_eq_true rfl)⟩ rfl hl.1 (Nat.le_of_ble_eq_true rfl) k4 rfl dX10_isStopped_17 rfl ⟨(Nat.le_of_ble_eq_true rfl), (Nat.le_of_ble_eq_true rfl)⟩ (fun v9 w10 hp8 H locs hP hD hS => ?_)
      obtain ⟨rx11, rfl, rfl, hz12, rfl⟩ := hp8
      refine W.eq (g2 := F0 m 20 ls [.int (b01 (hsB (sp0 k) (sp1 k) ((sd k) tw) pp le dd))]) rfl (W.widen (k := 0) (n := 0) (Nat.le_of_ble_eq_true rfl) (Nat.le_of_ble_eq_true rfl) ?_)
      refine lv_if_eq (tgt := 25) hx hb dX10_isStopped_20 (by decide) (fun cs1 => ?_) (fun cs1 => ?_)
      · refine lv_iinc (v := nI (k + 1)) (lv' := [(2, .int (nI (k + 1))), (0, .ref x), (1, .ref z)]) hx hb dX10_isStopped_25 hl (k := 2) rfl (nI_1 k) (by decide) rfl (fun ls hl => ?_)
        refine lv_goto (tgt := 2) hx hb dX10_isStopped_28 (by decide) ?_
        exact ih2 (k + 1)  (by omega) (lt_s (p := fun z => stC sp0 sp1 sd pp le tw dd z = false) had (b01_0.mp cs1))   ls (lv_sub hl [1, 2, 0] rfl) H locs hP hD hS
      · refine lv_iconst (v := 1) hx hb dX10_isStopped_23 (by decide) ?_
        exact y_ir K hP hD hS (Nat.le_of_ble_eq_true rfl) (Nat.le_of_ble_eq_true rfl) (ty := .boolean) rfl rfl dX10_isStopped_24 (⟨1, rfl, by rw [show stB sc sp0 sp1 sd pp le tw dd = true from anyB_t (k := k) (show stC sp0 sp1 sd pp le tw dd k = true from b01_n cs1) _ (by omega)]; rfl, Or.inr rfl, rfl⟩)
  exact lp2 _ 0  (Nat.zero_add sc) (fun z hz => absurd hz (Nat.not_lt_zero z))   ls (lv_sub hl [1, 2, 0] rfl) H locs hP hD hS
theorem fc8 {f : Nat → Int32} {a s : Bool} {u g gd am lf d x0 x1 x2 x4 : Int32} (h0 : x0 = if a then u else 99) (h1 : x1 = b01 a) (h2 : x2 = b01 s) (h4 : x4 = if gd < g then 1 else 0) : ∀ i, i < 8 → upd (upd (upd (upd (upd (upd (upd (upd f (0 : Int32).toNatClampNeg x0) (1 : Int32).toNatClampNeg x1) (2 : Int32).toNatClampNeg x2) (3 : Int32).toNatClampNeg g) (4 : Int32).toNatClampNeg x4) (5 : Int32).toNatClampNeg am) (6 : Int32).toNatClampNeg lf) (7 : Int32).toNatClampNeg d i = fcV a s u g gd am lf d i := by
  rw [show (0 : Int32).toNatClampNeg = 0 from by decide, show (1 : Int32).toNatClampNeg = 1 from by decide, show (2 : Int32).toNatClampNeg = 2 from by decide, show (3 : Int32).toNatClampNeg = 3 from by decide, show (4 : Int32).toNatClampNeg = 4 from by decide, show (5 : Int32).toNatClampNeg = 5 from by decide, show (6 : Int32).toNatClampNeg = 6 from by decide, show (7 : Int32).toNatClampNeg = 7 from by decide]
  subst h0 h1 h2 h4
  intro i hi
  match i, hi with
  | 0, _ => rfl
  | 1, _ => rfl
  | 2, _ => rfl
  | 3, _ => rfl
  | 4, _ => rfl
  | 5, _ => rfl
  | 6, _ => rfl
  | 7, _ => rfl
  | i + 8, hi => exact absurd hi (by omega)
set_option maxHeartbeats 4000000 in
set_option maxRecDepth 100000 in
theorem g_gatherFacts (l : Launch) (D : va_G) (cy : Nat → ClassId) (sk sv : Nat → Nat) (w : Wd) (x a0 a1 a2 a3 a4 a5 a6 a7 a8 a9 a10 a11 pc ac sc sh : Nat) (td : Int32)(tg : Nat → Nat)(af : Nat → Option Nat) (ad : Nat → Nat) (av0 av1 av2 av3 : Nat → Int32)(zf : Nat → Option Nat) (so sr : Nat → Nat) (sp0 sp1 : Nat → Int32) (sd : Nat → Nat → Int32)(z tw : Nat) (pp le am hh dd ru de cp ld : Int32)(q : Nat) (lv wo hd gd dy no tp : Int32) (ff : Nat → Int32) (c90 : wd_at w x (.inr (10, [.ref a0, .ref a1, .ref a2, .ref a3, .ref a4, .ref a5, .ref a6, .ref a7, .ref a8, .ref a9, .ref a10, .ref a11, .int td, .int (nI pc), .int (nI ac), .int (nI sc), .int (nI sh)]))) (c91 : wd_at w a3 (.inl (cy 5, 60, .inr (.inr (.inr (.inr af)))))) (c92 : wd_at w a4 (.inl (cy 8, 60, .inr (.inr (.inr (.inr zf)))))) (c93 : wd_at w a8 (.inl (cy 2, 8, .inl ff))) (c94 : wd_at w z (.inr (5, [.int (nI tw), .int pp, .int le, .int am, .int hh, .int dd, .int ru, .int de, .int cp, .int ld]))) (c95 : wd_at w q (.inr (3, [.int lv, .int wo, .int hd, .int gd, .int dy, .int no, .int tp]))) (hA9 : ∀ k9, k9 < ac → af k9 = some (ad k9) ∧ wd_at w (ad k9) (.inr (0, [.int (av0 k9), .int (av1 k9), .int (av2 k9), .int (av3 k9)])) ∧ tg (ad k9) = 4000 + k9) (hS9 : ∀ k9, k9 < sc → zf k9 = some (so k9) ∧ wd_at w (so k9) (.inr (6, [.int (sp0 k9), .int (sp1 k9), .ref (sr k9)])) ∧ tg (so k9) = 5000 + k9 ∧ wd_at w (sr k9) (.inl (cy 2, 12, .inl (sd k9))) ∧ tg (sr k9) = 6000 + k9) (S : Nat → Prop) (s90 : S a8) (hac : ac ≤ 60) (hsc : sc ≤ 60) (htw : tw < 12) : Ct l D cy sk sv yX10_gatherFacts wsX10_gatherFacts ({ frames := 3, cells := 0, slots := 0, locals := 64 }) [.ref x, .ref z, .ref q] w (fun v w1 => ∃ (ff1 : Nat → Int32), v = none ∧ (∀ i, i < 8 → ff1 i = fcV (adB ac av0 av1 av2 pp (nI tw) dd) (stB sc sp0 sp1 sd pp le tw dd) (unlI hh hd) (dd - dy) gd am (wo - no) dd i) ∧ wd_kp S w w1 ∧ wd_at w1 a8 (.inl (cy 2, 8, .inl ff1))) := by
  refine Ct.by (cc := cX10_gatherFacts) (maxL := 5) (ret := none) (by decide +kernel) rfl (Nat.le_of_ble_eq_true rfl) ?_
  intro p e s m args below meth c A Q F hnm K ls hl
  have F : wd_Fx p s m args meth c cX10_gatherFacts 5 wsX10_gatherFacts RX10 D cy sk sv A := F
  have hl : lv_has ls 5 [(0, .ref x), (1, .ref z), (2, .ref q)] := hl
  have hx := F.1.1
  have hb := F.1.2.1
  have hown := F.1.2.2.2.1
  have hts := F.1.2.2.2.2
  intro H locs hP hD hS
  have kp0 : wd_kp S w w := wd_kp.rf
  refine lv_aload_n hx hb dX10_gatherFacts_0 rfl (lv_at hl 0 rfl) ?_
  refine lv_aload_n hx hb dX10_gatherFacts_1 rfl (lv_at hl 1 rfl) ?_
  refine x_callV (n := 1) (As := [.ref z]) (rest := []) F hP hD hS (g_isAdvised l D cy sk sv w x a0 a1 a2 a3 a4 a5 a6 a7 a8 a9 a10 a11 pc ac sc sh td tg af ad av0 av1 av2 av3 z tw pp le am hh dd ru de cp ld c90 c91 c94 hA9 (by omega)) gX10_gatherFacts_X10_isAdvised rfl rfl (by decide +kernel) ⟨(Nat.le_of_ble_eq_true rfl), (Nat.le_of_ble_eq_true rfl)⟩ rfl hl.1 (Nat.le_of_ble_eq_true rfl) c90 rfl dX10_gatherFacts_2 rfl ⟨(Nat.le_of_ble_eq_true rfl), (Nat.le_of_ble_eq_true rfl)⟩ (fun v2 w3 hp1 H locs hP hD hS => ?_)
  obtain ⟨rx4, rfl, rfl, hz5, rfl⟩ := hp1
  refine W.eq (g2 := F0 m 5 ls [.int (b01 (adB ac av0 av1 av2 pp (nI tw) dd))]) rfl (W.widen (k := 0) (n := 0) (Nat.le_of_ble_eq_true rfl) (Nat.le_of_ble_eq_true rfl) ?_)
  refine lv_istore_n (lv' := [(3, .int (b01 (adB ac av0 av1 av2 pp (nI tw) dd))), (0, .ref x), (1, .ref z), (2, .ref q)]) hx hb dX10_gatherFacts_5 rfl hl (by decide) rfl (fun ls hl => ?_)
  refine lv_aload_n hx hb dX10_gatherFacts_6 rfl (lv_at hl 2 rfl) ?_
  refine x_get (ref := "NoteHouse$Shown") F hP c94 rfl (fun _ h => List.mem_cons_of_mem _ (List.mem_append_left _ (List.mem_append_left _ (List.mem_append_left _ (List.mem_append_left _ (List.mem_append_right _ (h))))))) 5 (Nat.le_of_ble_eq_true rfl) (List.mem_cons_of_mem _ (List.mem_append_left _ (List.mem_append_left _ (List.mem_append_left _ (List.mem_append_left _ (List.mem_append_left _ (List.mem_append_left _ (List.mem_of_getElem? (i := 0) rfl)))))))) rfl rfl dX10_gatherFacts_7 ?_
  refine lv_aload_n hx hb dX10_gatherFacts_10 rfl (lv_at hl 3 rfl) ?_
  refine x_get (ref := "NoteHouse$Paper") F hP c95 rfl (fun _ h => List.mem_cons_of_mem _ (List.mem_append_left _ (List.mem_append_left _ (List.mem_append_left _ (List.mem_append_right _ (h)))))) 4 (Nat.le_of_ble_eq_true rfl) (List.mem_cons_of_mem _ (List.mem_append_left _ (List.mem_append_left _ (List.mem_append_left _ (List.mem_append_left _ (List.mem_append_left _ (List.mem_append_left _ (List.mem_of_getElem? (i := 1) rfl)))))))) rfl rfl dX10_gatherFacts_11 ?_
  refine lv_isub hx hb dX10_gatherFacts_14 ?_
  refine lv_istore (lv' := [(4, .int (dd - dy)), (3, .int (b01 (adB ac av0 av1 av2 pp (nI tw) dd))), (0, .ref x), (1, .ref z), (2, .ref q)]) hx hb dX10_gatherFacts_15 hl (by decide) rfl (fun ls hl => ?_)
  refine lv_aload_n hx hb dX10_gatherFacts_17 rfl (lv_at hl 2 rfl) ?_
  refine x_get (ref := "NoteHouse") F hP c90 rfl (fun _ h => List.mem_cons_of_mem _ (List.mem_append_left _ (List.mem_append_left _ (List.mem_append_right _ (h))))) 8 (Nat.le_of_ble_eq_true rfl) (List.mem_cons_of_mem _ (List.mem_append_left _ (List.mem_append_left _ (List.mem_append_left _ (List.mem_append_left _ (List.mem_append_left _ (List.mem_append_left _ (List.mem_of_getElem? (i := 2) rfl)))))))) rfl rfl dX10_gatherFacts_18 ?_
  refine lv_iconst (v := 0) hx hb dX10_gatherFacts_21 (by decide) ?_
  refine lv_iload_n hx hb dX10_gatherFacts_22 rfl (lv_at hl 1 rfl) ?_
  refine lv_if_eq (tgt := 40) hx hb dX10_gatherFacts_23 (by decide) (fun cA => ?_) (fun cA => ?_)
  · refine lv_bipush (v := 99) hx hb dX10_gatherFacts_40 (by decide) ?_
    refine y_iast F hP hD hS c93 (vp_in_iff.mpr ⟨by decide, by decide⟩) dX10_gatherFacts_42 (fun w6 ew7 H locs hP hD hS => ?_)
    have k8 := wd_at.pt ew7 c90 (wd_nk c90 c93 rfl)
    have k9 := wd_at.pt ew7 c91 (wd_nk c91 c93 rfl)
    have k10 := wd_at.pt ew7 c92 (wd_nk c92 c93 rfl)
    have k11 : wd_at w6 a8 (.inl (cy 2, 8, .inl (upd ff (0 : Int32).toNatClampNeg 99))) := wd_at.ps ew7 c93
    have k12 := wd_at.pt ew7 c94 (wd_nk c94 c93 rfl)
    have k13 := wd_at.pt ew7 c95 (wd_nk c95 c93 rfl)
    have fm14 : ∀ k9, k9 < ac → af k9 = some (ad k9) ∧ wd_at w6 (ad k9) (.inr (0, [.int (av0 k9), .int (av1 k9), .int (av2 k9), .int (av3 k9)])) ∧ tg (ad k9) = 4000 + k9 := fun k9 hi9 => ⟨(hA9 k9 hi9).1, wd_at.pt ew7 (hA9 k9 hi9).2.1 (wd_nk (hA9 k9 hi9).2.1 c93 rfl), (hA9 k9 hi9).2.2⟩
    have fm15 : ∀ k9, k9 < sc → zf k9 = some (so k9) ∧ wd_at w6 (so k9) (.inr (6, [.int (sp0 k9), .int (sp1 k9), .ref (sr k9)])) ∧ tg (so k9) = 5000 + k9 ∧ wd_at w6 (sr k9) (.inl (cy 2, 12, .inl (sd k9))) ∧ tg (sr k9) = 6000 + k9 := fun k9 hi9 => ⟨(hS9 k9 hi9).1, wd_at.pt ew7 (hS9 k9 hi9).2.1 (wd_nk (hS9 k9 hi9).2.1 c93 rfl), (hS9 k9 hi9).2.2.1, wd_at.pt ew7 (hS9 k9 hi9).2.2.2.1 (wd_nk (hS9 k9 hi9).2.2.2.1 c93 rfl), (hS9 k9 hi9).2.2.2.2⟩
    have kp16 := kp0.put ew7 s90
    refine lv_aload_n hx hb dX10_gatherFacts_43 rfl (lv_at hl 2 rfl) ?_
    refine x_get (ref := "NoteHouse") F hP k8 rfl (fun _ h => List.mem_cons_of_mem _ (List.mem_append_left _ (List.mem_append_left _ (List.mem_append_right _ (h))))) 8 (Nat.le_of_ble_eq_true rfl) (List.mem_cons_of_mem _ (List.mem_append_left _ (List.mem_append_left _ (List.mem_append_left _ (List.mem_append_left _ (List.mem_append_left _ (List.mem_append_left _ (List.mem_of_getElem? (i := 2) rfl)))))))) rfl rfl dX10_gatherFacts_44 ?_
    refine lv_iconst (v := 1) hx hb dX10_gatherFacts_47 (by decide) ?_
    refine lv_iload_n hx hb dX10_gatherFacts_48 rfl (lv_at hl 1 rfl) ?_
    refine lv_if_eq (tgt := 56) hx hb dX10_gatherFacts_49 (by decide) (fun c_17 => ?_) (fun c_17 => absurd cA c_17)
    refine lv_iconst (v := 0) hx hb dX10_gatherFacts_56 (by decide) ?_
    refine y_iast F hP hD hS k11 (vp_in_iff.mpr ⟨by decide, by decide⟩) dX10_gatherFacts_57 (fun w18 ew19 H locs hP hD hS => ?_)
    have k20 := wd_at.pt ew19 k8 (wd_nk k8 k11 rfl)
    have k21 := wd_at.pt ew19 k9 (wd_nk k9 k11 rfl)
    have k22 := wd_at.pt ew19 k10 (wd_nk k10 k11 rfl)
    have k23 : wd_at w18 a8 (.inl (cy 2, 8, .inl (upd (upd ff (0 : Int32).toNatClampNeg 99) (1 : Int32).toNatClampNeg 0))) := wd_at.ps ew19 k11
    have k24 := wd_at.pt ew19 k12 (wd_nk k12 k11 rfl)
    have k25 := wd_at.pt ew19 k13 (wd_nk k13 k11 rfl)
    have fm26 : ∀ k9, k9 < ac → af k9 = some (ad k9) ∧ wd_at w18 (ad k9) (.inr (0, [.int (av0 k9), .int (av1 k9), .int (av2 k9), .int (av3 k9)])) ∧ tg (ad k9) = 4000 + k9 := fun k9 hi9 => ⟨(fm14 k9 hi9).1, wd_at.pt ew19 (fm14 k9 hi9).2.1 (wd_nk (fm14 k9 hi9).2.1 k11 rfl), (fm14 k9 hi9).2.2⟩
    have fm27 : ∀ k9, k9 < sc → zf k9 = some (so k9) ∧ wd_at w18 (so k9) (.inr (6, [.int (sp0 k9), .int (sp1 k9), .ref (sr k9)])) ∧ tg (so k9) = 5000 + k9 ∧ wd_at w18 (sr k9) (.inl (cy 2, 12, .inl (sd k9))) ∧ tg (sr k9) = 6000 + k9 := fun k9 hi9 => ⟨(fm15 k9 hi9).1, wd_at.pt ew19 (fm15 k9 hi9).2.1 (wd_nk (fm15 k9 hi9).2.1 k11 rfl), (fm15 k9 hi9).2.2.1, wd_at.pt ew19 (fm15 k9 hi9).2.2.2.1 (wd_nk (fm15 k9 hi9).2.2.2.1 k11 rfl), (fm15 k9 hi9).2.2.2.2⟩
    have kp28 := kp16.put ew19 s90
    refine lv_aload_n hx hb dX10_gatherFacts_58 rfl (lv_at hl 2 rfl) ?_
    refine x_get (ref := "NoteHouse") F hP k20 rfl (fun _ h => List.mem_cons_of_mem _ (List.mem_append_left _ (List.mem_append_left _ (List.mem_append_right _ (h))))) 8 (Nat.le_of_ble_eq_true rfl) (List.mem_cons_of_mem _ (List.mem_append_left _ (List.mem_append_left _ (List.mem_append_left _ (List.mem_append_left _ (List.mem_append_left _ (List.mem_append_left _ (List.mem_of_getElem? (i := 2) rfl)))))))) rfl rfl dX10_gatherFacts_59 ?_
    refine lv_iconst (v := 2) hx hb dX10_gatherFacts_62 (by decide) ?_
    refine lv_aload_n hx hb dX10_gatherFacts_63 rfl (lv_at hl 2 rfl) ?_
    refine lv_aload_n hx hb dX10_gatherFacts_64 rfl (lv_at hl 3 rfl) ?_
    refine x_callV (n := 1) (As := [.ref z]) (rest := [.int 2, .ref a8]) F hP hD hS (g_isStopped l D cy sk sv w18 x a0 a1 a2 a3 a4 a5 a6 a7 a8 a9 a10 a11 pc ac sc sh td tg zf so sr sp0 sp1 sd z tw pp le am hh dd ru de cp ld k20 k22 k24 fm27 (by omega) (by omega)) gX10_gatherFacts_X10_isStopped rfl rfl (by decide +kernel) ⟨(Nat.le_of_ble_eq_true rfl), (Nat.le_of_ble_eq_true rfl)⟩ rfl hl.1 (Nat.le_of_ble_eq_true rfl) k20 rfl dX10_gatherFacts_65 rfl ⟨(Nat.le_of_ble_eq_true rfl), (Nat.le_of_ble_eq_true rfl)⟩ (fun v30 w31 hp29 H locs hP hD hS => ?_)
    obtain ⟨rx32, rfl, rfl, hz33, rfl⟩ := hp29
    refine W.eq (g2 := F0 m 68 ls [.int (b01 (stB sc sp0 sp1 sd pp le tw dd)), .int 2, .ref a8]) rfl (W.widen (k := 0) (n := 0) (Nat.le_of_ble_eq_true rfl) (Nat.le_of_ble_eq_true rfl) ?_)
    refine lv_if_eq (tgt := 75) hx hb dX10_gatherFacts_68 (by decide) (fun cS => ?_) (fun cS => ?_)
    · refine lv_iconst (v := 0) hx hb dX10_gatherFacts_75 (by decide) ?_
      refine y_iast F hP hD hS k23 (vp_in_iff.mpr ⟨by decide, by decide⟩) dX10_gatherFacts_76 (fun w34 ew35 H locs hP hD hS => ?_)
      have k36 := wd_at.pt ew35 k20 (wd_nk k20 k23 rfl)
      have k37 := wd_at.pt ew35 k21 (wd_nk k21 k23 rfl)
      have k38 := wd_at.pt ew35 k22 (wd_nk k22 k23 rfl)
      have k39 : wd_at w34 a8 (.inl (cy 2, 8, .inl (upd (upd (upd ff (0 : Int32).toNatClampNeg 99) (1 : Int32).toNatClampNeg 0) (2 : Int32).toNatClampNeg 0))) := wd_at.ps ew35 k23
      have k40 := wd_at.pt ew35 k24 (wd_nk k24 k23 rfl)
      have k41 := wd_at.pt ew35 k25 (wd_nk k25 k23 rfl)
      have fm42 : ∀ k9, k9 < ac → af k9 = some (ad k9) ∧ wd_at w34 (ad k9) (.inr (0, [.int (av0 k9), .int (av1 k9), .int (av2 k9), .int (av3 k9)])) ∧ tg (ad k9) = 4000 + k9 := fun k9 hi9 => ⟨(fm26 k9 hi9).1, wd_at.pt ew35 (fm26 k9 hi9).2.1 (wd_nk (fm26 k9 hi9).2.1 k23 rfl), (fm26 k9 hi9).2.2⟩
      have fm43 : ∀ k9, k9 < sc → zf k9 = some (so k9) ∧ wd_at w34 (so k9) (.inr (6, [.int (sp0 k9), .int (sp1 k9), .ref (sr k9)])) ∧ tg (so k9) = 5000 + k9 ∧ wd_at w34 (sr k9) (.inl (cy 2, 12, .inl (sd k9))) ∧ tg (sr k9) = 6000 + k9 := fun k9 hi9 => ⟨(fm27 k9 hi9).1, wd_at.pt ew35 (fm27 k9 hi9).2.1 (wd_nk (fm27 k9 hi9).2.1 k23 rfl), (fm27 k9 hi9).2.2.1, wd_at.pt ew35 (fm27 k9 hi9).2.2.2.1 (wd_nk (fm27 k9 hi9).2.2.2.1 k23 rfl), (fm27 k9 hi9).2.2.2.2⟩
      have kp44 := kp28.put ew35 s90
      refine lv_aload_n hx hb dX10_gatherFacts_77 rfl (lv_at hl 2 rfl) ?_
      refine x_get (ref := "NoteHouse") F hP k36 rfl (fun _ h => List.mem_cons_of_mem _ (List.mem_append_left _ (List.mem_append_left _ (List.mem_append_right _ (h))))) 8 (Nat.le_of_ble_eq_true rfl) (List.mem_cons_of_mem _ (List.mem_append_left _ (List.mem_append_left _ (List.mem_append_left _ (List.mem_append_left _ (List.mem_append_left _ (List.mem_append_left _ (List.mem_of_getElem? (i := 2) rfl)))))))) rfl rfl dX10_gatherFacts_78 ?_
      refine lv_iconst (v := 3) hx hb dX10_gatherFacts_81 (by decide) ?_
      refine lv_iload hx hb dX10_gatherFacts_82 (lv_at hl 0 rfl) ?_
      refine y_iast F hP hD hS k39 (vp_in_iff.mpr ⟨by decide, by decide⟩) dX10_gatherFacts_84 (fun w45 ew46 H locs hP hD hS => ?_)
      have k47 := wd_at.pt ew46 k36 (wd_nk k36 k39 rfl)
      have k48 := wd_at.pt ew46 k37 (wd_nk k37 k39 rfl)
      have k49 := wd_at.pt ew46 k38 (wd_nk k38 k39 rfl)
      have k50 : wd_at w45 a8 (.inl (cy 2, 8, .inl (upd (upd (upd (upd ff (0 : Int32).toNatClampNeg 99) (1 : Int32).toNatClampNeg 0) (2 : Int32).toNatClampNeg 0) (3 : Int32).toNatClampNeg (dd - dy)))) := wd_at.ps ew46 k39
      have k51 := wd_at.pt ew46 k40 (wd_nk k40 k39 rfl)
      have k52 := wd_at.pt ew46 k41 (wd_nk k41 k39 rfl)
      have fm53 : ∀ k9, k9 < ac → af k9 = some (ad k9) ∧ wd_at w45 (ad k9) (.inr (0, [.int (av0 k9), .int (av1 k9), .int (av2 k9), .int (av3 k9)])) ∧ tg (ad k9) = 4000 + k9 := fun k9 hi9 => ⟨(fm42 k9 hi9).1, wd_at.pt ew46 (fm42 k9 hi9).2.1 (wd_nk (fm42 k9 hi9).2.1 k39 rfl), (fm42 k9 hi9).2.2⟩
      have fm54 : ∀ k9, k9 < sc → zf k9 = some (so k9) ∧ wd_at w45 (so k9) (.inr (6, [.int (sp0 k9), .int (sp1 k9), .ref (sr k9)])) ∧ tg (so k9) = 5000 + k9 ∧ wd_at w45 (sr k9) (.inl (cy 2, 12, .inl (sd k9))) ∧ tg (sr k9) = 6000 + k9 := fun k9 hi9 => ⟨(fm43 k9 hi9).1, wd_at.pt ew46 (fm43 k9 hi9).2.1 (wd_nk (fm43 k9 hi9).2.1 k39 rfl), (fm43 k9 hi9).2.2.1, wd_at.pt ew46 (fm43 k9 hi9).2.2.2.1 (wd_nk (fm43 k9 hi9).2.2.2.1 k39 rfl), (fm43 k9 hi9).2.2.2.2⟩
      have kp55 := kp44.put ew46 s90
      refine lv_aload_n hx hb dX10_gatherFacts_85 rfl (lv_at hl 2 rfl) ?_
      refine x_get (ref := "NoteHouse") F hP k47 rfl (fun _ h => List.mem_cons_of_mem _ (List.mem_append_left _ (List.mem_append_left _ (List.mem_append_right _ (h))))) 8 (Nat.le_of_ble_eq_true rfl) (List.mem_cons_of_mem _ (List.mem_append_left _ (List.mem_append_left _ (List.mem_append_left _ (List.mem_append_left _ (List.mem_append_left _ (List.mem_append_left _ (List.mem_of_getElem? (i := 2) rfl)))))))) rfl rfl dX10_gatherFacts_86 ?_
      refine lv_iconst (v := 4) hx hb dX10_gatherFacts_89 (by decide) ?_
      refine lv_iload hx hb dX10_gatherFacts_90 (lv_at hl 0 rfl) ?_
      refine lv_aload_n hx hb dX10_gatherFacts_92 rfl (lv_at hl 4 rfl) ?_
      refine x_get (ref := "NoteHouse$Paper") F hP k52 rfl (fun _ h => List.mem_cons_of_mem _ (List.mem_append_left _ (List.mem_append_left _ (List.mem_append_left _ (List.mem_append_right _ (h)))))) 3 (Nat.le_of_ble_eq_true rfl) (List.mem_cons_of_mem _ (List.mem_append_left _ (List.mem_append_left _ (List.mem_append_left _ (List.mem_append_left _ (List.mem_append_left _ (List.mem_append_left _ (List.mem_of_getElem? (i := 5) rfl)))))))) rfl rfl dX10_gatherFacts_93 ?_
      refine lv_icmp_le (tgt := 103) hx hb dX10_gatherFacts_96 (by decide) (fun cG => ?_) (fun cG => ?_)
      · refine lv_iconst (v := 0) hx hb dX10_gatherFacts_103 (by decide) ?_
        refine y_iast F hP hD hS k50 (vp_in_iff.mpr ⟨by decide, by decide⟩) dX10_gatherFacts_104 (fun w56 ew57 H locs hP hD hS => ?_)
        have k58 := wd_at.pt ew57 k47 (wd_nk k47 k50 rfl)
        have k59 := wd_at.pt ew57 k48 (wd_nk k48 k50 rfl)
        have k60 := wd_at.pt ew57 k49 (wd_nk k49 k50 rfl)
        have k61 : wd_at w56 a8 (.inl (cy 2, 8, .inl (upd (upd (upd (upd (upd ff (0 : Int32).toNatClampNeg 99) (1 : Int32).toNatClampNeg 0) (2 : Int32).toNatClampNeg 0) (3 : Int32).toNatClampNeg (dd - dy)) (4 : Int32).toNatClampNeg 0))) := wd_at.ps ew57 k50
        have k62 := wd_at.pt ew57 k51 (wd_nk k51 k50 rfl)
        have k63 := wd_at.pt ew57 k52 (wd_nk k52 k50 rfl)
        have fm64 : ∀ k9, k9 < ac → af k9 = some (ad k9) ∧ wd_at w56 (ad k9) (.inr (0, [.int (av0 k9), .int (av1 k9), .int (av2 k9), .int (av3 k9)])) ∧ tg (ad k9) = 4000 + k9 := fun k9 hi9 => ⟨(fm53 k9 hi9).1, wd_at.pt ew57 (fm53 k9 hi9).2.1 (wd_nk (fm53 k9 hi9).2.1 k50 rfl), (fm53 k9 hi9).2.2⟩
        have fm65 : ∀ k9, k9 < sc → zf k9 = some (so k9) ∧ wd_at w56 (so k9) (.inr (6, [.int (sp0 k9), .int (sp1 k9), .ref (sr k9)])) ∧ tg (so k9) = 5000 + k9 ∧ wd_at w56 (sr k9) (.inl (cy 2, 12, .inl (sd k9))) ∧ tg (sr k9) = 6000 + k9 := fun k9 hi9 => ⟨(fm54 k9 hi9).1, wd_at.pt ew57 (fm54 k9 hi9).2.1 (wd_nk (fm54 k9 hi9).2.1 k50 rfl), (fm54 k9 hi9).2.2.1, wd_at.pt ew57 (fm54 k9 hi9).2.2.2.1 (wd_nk (fm54 k9 hi9).2.2.2.1 k50 rfl), (fm54 k9 hi9).2.2.2.2⟩
        have kp66 := kp55.put ew57 s90
        refine lv_aload_n hx hb dX10_gatherFacts_105 rfl (lv_at hl 2 rfl) ?_
        refine x_get (ref := "NoteHouse") F hP k58 rfl (fun _ h => List.mem_cons_of_mem _ (List.mem_append_left _ (List.mem_append_left _ (List.mem_append_right _ (h))))) 8 (Nat.le_of_ble_eq_true rfl) (List.mem_cons_of_mem _ (List.mem_append_left _ (List.mem_append_left _ (List.mem_append_left _ (List.mem_append_left _ (List.mem_append_left _ (List.mem_append_left _ (List.mem_of_getElem? (i := 2) rfl)))))))) rfl rfl dX10_gatherFacts_106 ?_
        refine lv_iconst (v := 5) hx hb dX10_gatherFacts_109 (by decide) ?_
        refine lv_aload_n hx hb dX10_gatherFacts_110 rfl (lv_at hl 3 rfl) ?_
        refine x_get (ref := "NoteHouse$Shown") F hP k62 rfl (fun _ h => List.mem_cons_of_mem _ (List.mem_append_left _ (List.mem_append_left _ (List.mem_append_left _ (List.mem_append_left _ (List.mem_append_right _ (h))))))) 3 (Nat.le_of_ble_eq_true rfl) (List.mem_cons_of_mem _ (List.mem_append_left _ (List.mem_append_left _ (List.mem_append_left _ (List.mem_append_left _ (List.mem_append_left _ (List.mem_append_left _ (List.mem_of_getElem? (i := 6) rfl)))))))) rfl rfl dX10_gatherFacts_111 ?_
        refine y_iast F hP hD hS k61 (vp_in_iff.mpr ⟨by decide, by decide⟩) dX10_gatherFacts_114 (fun w67 ew68 H locs hP hD hS => ?_)
        have k69 := wd_at.pt ew68 k58 (wd_nk k58 k61 rfl)
        have k70 := wd_at.pt ew68 k59 (wd_nk k59 k61 rfl)
        have k71 := wd_at.pt ew68 k60 (wd_nk k60 k61 rfl)
        have k72 : wd_at w67 a8 (.inl (cy 2, 8, .inl (upd (upd (upd (upd (upd (upd ff (0 : Int32).toNatClampNeg 99) (1 : Int32).toNatClampNeg 0) (2 : Int32).toNatClampNeg 0) (3 : Int32).toNatClampNeg (dd - dy)) (4 : Int32).toNatClampNeg 0) (5 : Int32).toNatClampNeg am))) := wd_at.ps ew68 k61
        have k73 := wd_at.pt ew68 k62 (wd_nk k62 k61 rfl)
        have k74 := wd_at.pt ew68 k63 (wd_nk k63 k61 rfl)
        have fm75 : ∀ k9, k9 < ac → af k9 = some (ad k9) ∧ wd_at w67 (ad k9) (.inr (0, [.int (av0 k9), .int (av1 k9), .int (av2 k9), .int (av3 k9)])) ∧ tg (ad k9) = 4000 + k9 := fun k9 hi9 => ⟨(fm64 k9 hi9).1, wd_at.pt ew68 (fm64 k9 hi9).2.1 (wd_nk (fm64 k9 hi9).2.1 k61 rfl), (fm64 k9 hi9).2.2⟩
        have fm76 : ∀ k9, k9 < sc → zf k9 = some (so k9) ∧ wd_at w67 (so k9) (.inr (6, [.int (sp0 k9), .int (sp1 k9), .ref (sr k9)])) ∧ tg (so k9) = 5000 + k9 ∧ wd_at w67 (sr k9) (.inl (cy 2, 12, .inl (sd k9))) ∧ tg (sr k9) = 6000 + k9 := fun k9 hi9 => ⟨(fm65 k9 hi9).1, wd_at.pt ew68 (fm65 k9 hi9).2.1 (wd_nk (fm65 k9 hi9).2.1 k61 rfl), (fm65 k9 hi9).2.2.1, wd_at.pt ew68 (fm65 k9 hi9).2.2.2.1 (wd_nk (fm65 k9 hi9).2.2.2.1 k61 rfl), (fm65 k9 hi9).2.2.2.2⟩
        have kp77 := kp66.put ew68 s90
        refine lv_aload_n hx hb dX10_gatherFacts_115 rfl (lv_at hl 2 rfl) ?_
        refine x_get (ref := "NoteHouse") F hP k69 rfl (fun _ h => List.mem_cons_of_mem _ (List.mem_append_left _ (List.mem_append_left _ (List.mem_append_right _ (h))))) 8 (Nat.le_of_ble_eq_true rfl) (List.mem_cons_of_mem _ (List.mem_append_left _ (List.mem_append_left _ (List.mem_append_left _ (List.mem_append_left _ (List.mem_append_left _ (List.mem_append_left _ (List.mem_of_getElem? (i := 2) rfl)))))))) rfl rfl dX10_gatherFacts_116 ?_
        refine lv_bipush (v := 6) hx hb dX10_gatherFacts_119 (by decide) ?_
        refine lv_aload_n hx hb dX10_gatherFacts_121 rfl (lv_at hl 4 rfl) ?_
        refine x_get (ref := "NoteHouse$Paper") F hP k74 rfl (fun _ h => List.mem_cons_of_mem _ (List.mem_append_left _ (List.mem_append_left _ (List.mem_append_left _ (List.mem_append_right _ (h)))))) 1 (Nat.le_of_ble_eq_true rfl) (List.mem_cons_of_mem _ (List.mem_append_left _ (List.mem_append_left _ (List.mem_append_left _ (List.mem_append_left _ (List.mem_append_left _ (List.mem_append_left _ (List.mem_of_getElem? (i := 7) rfl)))))))) rfl rfl dX10_gatherFacts_122 ?_
        refine lv_aload_n hx hb dX10_gatherFacts_125 rfl (lv_at hl 4 rfl) ?_
        refine x_get (ref := "NoteHouse$Paper") F hP k74 rfl (fun _ h => List.mem_cons_of_mem _ (List.mem_append_left _ (List.mem_append_left _ (List.mem_append_left _ (List.mem_append_right _ (h)))))) 5 (Nat.le_of_ble_eq_true rfl) (List.mem_cons_of_mem _ (List.mem_append_left _ (List.mem_append_left _ (List.mem_append_left _ (List.mem_append_left _ (List.mem_append_left _ (List.mem_append_left _ (List.mem_of_getElem? (i := 8) rfl)))))))) rfl rfl dX10_gatherFacts_126 ?_
        refine lv_isub hx hb dX10_gatherFacts_129 ?_
        refine y_iast F hP hD hS k72 (vp_in_iff.mpr ⟨by decide, by decide⟩) dX10_gatherFacts_130 (fun w78 ew79 H locs hP hD hS => ?_)
        have k80 := wd_at.pt ew79 k69 (wd_nk k69 k72 rfl)
        have k81 := wd_at.pt ew79 k70 (wd_nk k70 k72 rfl)
        have k82 := wd_at.pt ew79 k71 (wd_nk k71 k72 rfl)
        have k83 : wd_at w78 a8 (.inl (cy 2, 8, .inl (upd (upd (upd (upd (upd (upd (upd ff (0 : Int32).toNatClampNeg 99) (1 : Int32).toNatClampNeg 0) (2 : Int32).toNatClampNeg 0) (3 : Int32).toNatClampNeg (dd - dy)) (4 : Int32).toNatClampNeg 0) (5 : Int32).toNatClampNeg am) (6 : Int32).toNatClampNeg (wo - no)))) := wd_at.ps ew79 k72
        have k84 := wd_at.pt ew79 k73 (wd_nk k73 k72 rfl)
        have k85 := wd_at.pt ew79 k74 (wd_nk k74 k72 rfl)
        have fm86 : ∀ k9, k9 < ac → af k9 = some (ad k9) ∧ wd_at w78 (ad k9) (.inr (0, [.int (av0 k9), .int (av1 k9), .int (av2 k9), .int (av3 k9)])) ∧ tg (ad k9) = 4000 + k9 := fun k9 hi9 => ⟨(fm75 k9 hi9).1, wd_at.pt ew79 (fm75 k9 hi9).2.1 (wd_nk (fm75 k9 hi9).2.1 k72 rfl), (fm75 k9 hi9).2.2⟩
        have fm87 : ∀ k9, k9 < sc → zf k9 = some (so k9) ∧ wd_at w78 (so k9) (.inr (6, [.int (sp0 k9), .int (sp1 k9), .ref (sr k9)])) ∧ tg (so k9) = 5000 + k9 ∧ wd_at w78 (sr k9) (.inl (cy 2, 12, .inl (sd k9))) ∧ tg (sr k9) = 6000 + k9 := fun k9 hi9 => ⟨(fm76 k9 hi9).1, wd_at.pt ew79 (fm76 k9 hi9).2.1 (wd_nk (fm76 k9 hi9).2.1 k72 rfl), (fm76 k9 hi9).2.2.1, wd_at.pt ew79 (fm76 k9 hi9).2.2.2.1 (wd_nk (fm76 k9 hi9).2.2.2.1 k72 rfl), (fm76 k9 hi9).2.2.2.2⟩
        have kp88 := kp77.put ew79 s90
        refine lv_aload_n hx hb dX10_gatherFacts_131 rfl (lv_at hl 2 rfl) ?_
        refine x_get (ref := "NoteHouse") F hP k80 rfl (fun _ h => List.mem_cons_of_mem _ (List.mem_append_left _ (List.mem_append_left _ (List.mem_append_right _ (h))))) 8 (Nat.le_of_ble_eq_true rfl) (List.mem_cons_of_mem _ (List.mem_append_left _ (List.mem_append_left _ (List.mem_append_left _ (List.mem_append_left _ (List.mem_append_left _ (List.mem_append_left _ (List.mem_of_getElem? (i := 2) rfl)))))))) rfl rfl dX10_gatherFacts_132 ?_
        refine lv_bipush (v := 7) hx hb dX10_gatherFacts_135 (by decide) ?_
        refine lv_aload_n hx hb dX10_gatherFacts_137 rfl (lv_at hl 3 rfl) ?_
        refine x_get (ref := "NoteHouse$Shown") F hP k84 rfl (fun _ h => List.mem_cons_of_mem _ (List.mem_append_left _ (List.mem_append_left _ (List.mem_append_left _ (List.mem_append_left _ (List.mem_append_right _ (h))))))) 5 (Nat.le_of_ble_eq_true rfl) (List.mem_cons_of_mem _ (List.mem_append_left _ (List.mem_append_left _ (List.mem_append_left _ (List.mem_append_left _ (List.mem_append_left _ (List.mem_append_left _ (List.mem_of_getElem? (i := 0) rfl)))))))) rfl rfl dX10_gatherFacts_138 ?_
        refine y_iast F hP hD hS k83 (vp_in_iff.mpr ⟨by decide, by decide⟩) dX10_gatherFacts_141 (fun w89 ew90 H locs hP hD hS => ?_)
        have k91 := wd_at.pt ew90 k80 (wd_nk k80 k83 rfl)
        have k92 := wd_at.pt ew90 k81 (wd_nk k81 k83 rfl)
        have k93 := wd_at.pt ew90 k82 (wd_nk k82 k83 rfl)
        have k94 : wd_at w89 a8 (.inl (cy 2, 8, .inl (upd (upd (upd (upd (upd (upd (upd (upd ff (0 : Int32).toNatClampNeg 99) (1 : Int32).toNatClampNeg 0) (2 : Int32).toNatClampNeg 0) (3 : Int32).toNatClampNeg (dd - dy)) (4 : Int32).toNatClampNeg 0) (5 : Int32).toNatClampNeg am) (6 : Int32).toNatClampNeg (wo - no)) (7 : Int32).toNatClampNeg dd))) := wd_at.ps ew90 k83
        have k95 := wd_at.pt ew90 k84 (wd_nk k84 k83 rfl)
        have k96 := wd_at.pt ew90 k85 (wd_nk k85 k83 rfl)
        have fm97 : ∀ k9, k9 < ac → af k9 = some (ad k9) ∧ wd_at w89 (ad k9) (.inr (0, [.int (av0 k9), .int (av1 k9), .int (av2 k9), .int (av3 k9)])) ∧ tg (ad k9) = 4000 + k9 := fun k9 hi9 => ⟨(fm86 k9 hi9).1, wd_at.pt ew90 (fm86 k9 hi9).2.1 (wd_nk (fm86 k9 hi9).2.1 k83 rfl), (fm86 k9 hi9).2.2⟩
        have fm98 : ∀ k9, k9 < sc → zf k9 = some (so k9) ∧ wd_at w89 (so k9) (.inr (6, [.int (sp0 k9), .int (sp1 k9), .ref (sr k9)])) ∧ tg (so k9) = 5000 + k9 ∧ wd_at w89 (sr k9) (.inl (cy 2, 12, .inl (sd k9))) ∧ tg (sr k9) = 6000 + k9 := fun k9 hi9 => ⟨(fm87 k9 hi9).1, wd_at.pt ew90 (fm87 k9 hi9).2.1 (wd_nk (fm87 k9 hi9).2.1 k83 rfl), (fm87 k9 hi9).2.2.1, wd_at.pt ew90 (fm87 k9 hi9).2.2.2.1 (wd_nk (fm87 k9 hi9).2.2.2.1 k83 rfl), (fm87 k9 hi9).2.2.2.2⟩
        have kp99 := kp88.put ew90 s90
        exact y_vr K hP hD hS (Nat.le_of_ble_eq_true rfl) (Nat.le_of_ble_eq_true rfl) rfl dX10_gatherFacts_142 (⟨upd (upd (upd (upd (upd (upd (upd (upd ff (0 : Int32).toNatClampNeg 99) (1 : Int32).toNatClampNeg 0) (2 : Int32).toNatClampNeg 0) (3 : Int32).toNatClampNeg (dd - dy)) (4 : Int32).toNatClampNeg 0) (5 : Int32).toNatClampNeg am) (6 : Int32).toNatClampNeg (wo - no)) (7 : Int32).toNatClampNeg dd, rfl, fc8 (by rw [b01_0.mp cA]; rfl) (by rw [b01_0.mp cA]; rfl) (by rw [b01_0.mp cS]; rfl) (by rw [if_neg (Int32.not_lt.mpr cG)]), kp99, k94⟩)
      · refine lv_iconst (v := 1) hx hb dX10_gatherFacts_99 (by decide) ?_
        refine lv_goto (tgt := 104) hx hb dX10_gatherFacts_100 (by decide) ?_
        refine y_iast F hP hD hS k50 (vp_in_iff.mpr ⟨by decide, by decide⟩) dX10_gatherFacts_104 (fun w100 ew101 H locs hP hD hS => ?_)
        have k102 := wd_at.pt ew101 k47 (wd_nk k47 k50 rfl)
        have k103 := wd_at.pt ew101 k48 (wd_nk k48 k50 rfl)
        have k104 := wd_at.pt ew101 k49 (wd_nk k49 k50 rfl)
        have k105 : wd_at w100 a8 (.inl (cy 2, 8, .inl (upd (upd (upd (upd (upd ff (0 : Int32).toNatClampNeg 99) (1 : Int32).toNatClampNeg 0) (2 : Int32).toNatClampNeg 0) (3 : Int32).toNatClampNeg (dd - dy)) (4 : Int32).toNatClampNeg 1))) := wd_at.ps ew101 k50
        have k106 := wd_at.pt ew101 k51 (wd_nk k51 k50 rfl)
        have k107 := wd_at.pt ew101 k52 (wd_nk k52 k50 rfl)
        have fm108 : ∀ k9, k9 < ac → af k9 = some (ad k9) ∧ wd_at w100 (ad k9) (.inr (0, [.int (av0 k9), .int (av1 k9), .int (av2 k9), .int (av3 k9)])) ∧ tg (ad k9) = 4000 + k9 := fun k9 hi9 => ⟨(fm53 k9 hi9).1, wd_at.pt ew101 (fm53 k9 hi9).2.1 (wd_nk (fm53 k9 hi9).2.1 k50 rfl), (fm53 k9 hi9).2.2⟩
        have fm109 : ∀ k9, k9 < sc → zf k9 = some (so k9) ∧ wd_at w100 (so k9) (.inr (6, [.int (sp0 k9), .int (sp1 k9), .ref (sr k9)])) ∧ tg (so k9) = 5000 + k9 ∧ wd_at w100 (sr k9) (.inl (cy 2, 12, .inl (sd k9))) ∧ tg (sr k9) = 6000 + k9 := fun k9 hi9 => ⟨(fm54 k9 hi9).1, wd_at.pt ew101 (fm54 k9 hi9).2.1 (wd_nk (fm54 k9 hi9).2.1 k50 rfl), (fm54 k9 hi9).2.2.1, wd_at.pt ew101 (fm54 k9 hi9).2.2.2.1 (wd_nk (fm54 k9 hi9).2.2.2.1 k50 rfl), (fm54 k9 hi9).2.2.2.2⟩
        have kp110 := kp55.put ew101 s90
        refine lv_aload_n hx hb dX10_gatherFacts_105 rfl (lv_at hl 2 rfl) ?_
        refine x_get (ref := "NoteHouse") F hP k102 rfl (fun _ h => List.mem_cons_of_mem _ (List.mem_append_left _ (List.mem_append_left _ (List.mem_append_right _ (h))))) 8 (Nat.le_of_ble_eq_true rfl) (List.mem_cons_of_mem _ (List.mem_append_left _ (List.mem_append_left _ (List.mem_append_left _ (List.mem_append_left _ (List.mem_append_left _ (List.mem_append_left _ (List.mem_of_getElem? (i := 2) rfl)))))))) rfl rfl dX10_gatherFacts_106 ?_
        refine lv_iconst (v := 5) hx hb dX10_gatherFacts_109 (by decide) ?_
        refine lv_aload_n hx hb dX10_gatherFacts_110 rfl (lv_at hl 3 rfl) ?_
        refine x_get (ref := "NoteHouse$Shown") F hP k106 rfl (fun _ h => List.mem_cons_of_mem _ (List.mem_append_left _ (List.mem_append_left _ (List.mem_append_left _ (List.mem_append_left _ (List.mem_append_right _ (h))))))) 3 (Nat.le_of_ble_eq_true rfl) (List.mem_cons_of_mem _ (List.mem_append_left _ (List.mem_append_left _ (List.mem_append_left _ (List.mem_append_left _ (List.mem_append_left _ (List.mem_append_left _ (List.mem_of_getElem? (i := 6) rfl)))))))) rfl rfl dX10_gatherFacts_111 ?_
        refine y_iast F hP hD hS k105 (vp_in_iff.mpr ⟨by decide, by decide⟩) dX10_gatherFacts_114 (fun w111 ew112 H locs hP hD hS => ?_)
        have k113 := wd_at.pt ew112 k102 (wd_nk k102 k105 rfl)
        have k114 := wd_at.pt ew112 k103 (wd_nk k103 k105 rfl)
        have k115 := wd_at.pt ew112 k104 (wd_nk k104 k105 rfl)
        have k116 : wd_at w111 a8 (.inl (cy 2, 8, .inl (upd (upd (upd (upd (upd (upd ff (0 : Int32).toNatClampNeg 99) (1 : Int32).toNatClampNeg 0) (2 : Int32).toNatClampNeg 0) (3 : Int32).toNatClampNeg (dd - dy)) (4 : Int32).toNatClampNeg 1) (5 : Int32).toNatClampNeg am))) := wd_at.ps ew112 k105
        have k117 := wd_at.pt ew112 k106 (wd_nk k106 k105 rfl)
        have k118 := wd_at.pt ew112 k107 (wd_nk k107 k105 rfl)
        have fm119 : ∀ k9, k9 < ac → af k9 = some (ad k9) ∧ wd_at w111 (ad k9) (.inr (0, [.int (av0 k9), .int (av1 k9), .int (av2 k9), .int (av3 k9)])) ∧ tg (ad k9) = 4000 + k9 := fun k9 hi9 => ⟨(fm108 k9 hi9).1, wd_at.pt ew112 (fm108 k9 hi9).2.1 (wd_nk (fm108 k9 hi9).2.1 k105 rfl), (fm108 k9 hi9).2.2⟩
        have fm120 : ∀ k9, k9 < sc → zf k9 = some (so k9) ∧ wd_at w111 (so k9) (.inr (6, [.int (sp0 k9), .int (sp1 k9), .ref (sr k9)])) ∧ tg (so k9) = 5000 + k9 ∧ wd_at w111 (sr k9) (.inl (cy 2, 12, .inl (sd k9))) ∧ tg (sr k9) = 6000 + k9 := fun k9 hi9 => ⟨(fm109 k9 hi9).1, wd_at.pt ew112 (fm109 k9 hi9).2.1 (wd_nk (fm109 k9 hi9).2.1 k105 rfl), (fm109 k9 hi9).2.2.1, wd_at.pt ew112 (fm109 k9 hi9).2.2.2.1 (wd_nk (fm109 k9 hi9).2.2.2.1 k105 rfl), (fm109 k9 hi9).2.2.2.2⟩
        have kp121 := kp110.put ew112 s90
        refine lv_aload_n hx hb dX10_gatherFacts_115 rfl (lv_at hl 2 rfl) ?_
        refine x_get (ref := "NoteHouse") F hP k113 rfl (fun _ h => List.mem_cons_of_mem _ (List.mem_append_left _ (List.mem_append_left _ (List.mem_append_right _ (h))))) 8 (Nat.le_of_ble_eq_true rfl) (List.mem_cons_of_mem _ (List.mem_append_left _ (List.mem_append_left _ (List.mem_append_left _ (List.mem_append_left _ (List.mem_append_left _ (List.mem_append_left _ (List.mem_of_getElem? (i := 2) rfl)))))))) rfl rfl dX10_gatherFacts_116 ?_
        refine lv_bipush (v := 6) hx hb dX10_gatherFacts_119 (by decide) ?_
        refine lv_aload_n hx hb dX10_gatherFacts_121 rfl (lv_at hl 4 rfl) ?_
        refine x_get (ref := "NoteHouse$Paper") F hP k118 rfl (fun _ h => List.mem_cons_of_mem _ (List.mem_append_left _ (List.mem_append_left _ (List.mem_append_left _ (List.mem_append_right _ (h)))))) 1 (Nat.le_of_ble_eq_true rfl) (List.mem_cons_of_mem _ (List.mem_append_left _ (List.mem_append_left _ (List.mem_append_left _ (List.mem_append_left _ (List.mem_append_left _ (List.mem_append_left _ (List.mem_of_getElem? (i := 7) rfl)))))))) rfl rfl dX10_gatherFacts_122 ?_
        refine lv_aload_n hx hb dX10_gatherFacts_125 rfl (lv_at hl 4 rfl) ?_
        refine x_get (ref := "NoteHouse$Paper") F hP k118 rfl (fun _ h => List.mem_cons_of_mem _ (List.mem_append_left _ (List.mem_append_left _ (List.mem_append_left _ (List.mem_append_right _ (h)))))) 5 (Nat.le_of_ble_eq_true rfl) (List.mem_cons_of_mem _ (List.mem_append_left _ (List.mem_append_left _ (List.mem_append_left _ (List.mem_append_left _ (List.mem_append_left _ (List.mem_append_left _ (List.mem_of_getElem? (i := 8) rfl)))))))) rfl rfl dX10_gatherFacts_126 ?_
        refine lv_isub hx hb dX10_gatherFacts_129 ?_
        refine y_iast F hP hD hS k116 (vp_in_iff.mpr ⟨by decide, by decide⟩) dX10_gatherFacts_130 (fun w122 ew123 H locs hP hD hS => ?_)
        have k124 := wd_at.pt ew123 k113 (wd_nk k113 k116 rfl)
        have k125 := wd_at.pt ew123 k114 (wd_nk k114 k116 rfl)
        have k126 := wd_at.pt ew123 k115 (wd_nk k115 k116 rfl)
        have k127 : wd_at w122 a8 (.inl (cy 2, 8, .inl (upd (upd (upd (upd (upd (upd (upd ff (0 : Int32).toNatClampNeg 99) (1 : Int32).toNatClampNeg 0) (2 : Int32).toNatClampNeg 0) (3 : Int32).toNatClampNeg (dd - dy)) (4 : Int32).toNatClampNeg 1) (5 : Int32).toNatClampNeg am) (6 : Int32).toNatClampNeg (wo - no)))) := wd_at.ps ew123 k116
        have k128 := wd_at.pt ew123 k117 (wd_nk k117 k116 rfl)
        have k129 := wd_at.pt ew123 k118 (wd_nk k118 k116 rfl)
        have fm130 : ∀ k9, k9 < ac → af k9 = some (ad k9) ∧ wd_at w122 (ad k9) (.inr (0, [.int (av0 k9), .int (av1 k9), .int (av2 k9), .int (av3 k9)])) ∧ tg (ad k9) = 4000 + k9 := fun k9 hi9 => ⟨(fm119 k9 hi9).1, wd_at.pt ew123 (fm119 k9 hi9).2.1 (wd_nk (fm119 k9 hi9).2.1 k116 rfl), (fm119 k9 hi9).2.2⟩
        have fm131 : ∀ k9, k9 < sc → zf k9 = some (so k9) ∧ wd_at w122 (so k9) (.inr (6, [.int (sp0 k9), .int (sp1 k9), .ref (sr k9)])) ∧ tg (so k9) = 5000 + k9 ∧ wd_at w122 (sr k9) (.inl (cy 2, 12, .inl (sd k9))) ∧ tg (sr k9) = 6000 + k9 := fun k9 hi9 => ⟨(fm120 k9 hi9).1, wd_at.pt ew123 (fm120 k9 hi9).2.1 (wd_nk (fm120 k9 hi9).2.1 k116 rfl), (fm120 k9 hi9).2.2.1, wd_at.pt ew123 (fm120 k9 hi9).2.2.2.1 (wd_nk (fm120 k9 hi9).2.2.2.1 k116 rfl), (fm120 k9 hi9).2.2.2.2⟩
        have kp132 := kp121.put ew123 s90
        refine lv_aload_n hx hb dX10_gatherFacts_131 rfl (lv_at hl 2 rfl) ?_
        refine x_get (ref := "NoteHouse") F hP k124 rfl (fun _ h => List.mem_cons_of_mem _ (List.mem_append_left _ (List.mem_append_left _ (List.mem_append_right _ (h))))) 8 (Nat.le_of_ble_eq_true rfl) (List.mem_cons_of_mem _ (List.mem_append_left _ (List.mem_append_left _ (List.mem_append_left _ (List.mem_append_left _ (List.mem_append_left _ (List.mem_append_left _ (List.mem_of_getElem? (i := 2) rfl)))))))) rfl rfl dX10_gatherFacts_132 ?_
        refine lv_bipush (v := 7) hx hb dX10_gatherFacts_135 (by decide) ?_
        refine lv_aload_n hx hb dX10_gatherFacts_137 rfl (lv_at hl 3 rfl) ?_
        refine x_get (ref := "NoteHouse$Shown") F hP k128 rfl (fun _ h => List.mem_cons_of_mem _ (List.mem_append_left _ (List.mem_append_left _ (List.mem_append_left _ (List.mem_append_left _ (List.mem_append_right _ (h))))))) 5 (Nat.le_of_ble_eq_true rfl) (List.mem_cons_of_mem _ (List.mem_append_left _ (List.mem_append_left _ (List.mem_append_left _ (List.mem_append_left _ (List.mem_append_left _ (List.mem_append_left _ (List.mem_of_getElem? (i := 0) rfl)))))))) rfl rfl dX10_gatherFacts_138 ?_
        refine y_iast F hP hD hS k127 (vp_in_iff.mpr ⟨by decide, by decide⟩) dX10_gatherFacts_141 (fun w133 ew134 H locs hP hD hS => ?_)
        have k135 := wd_at.pt ew134 k124 (wd_nk k124 k127 rfl)
        have k136 := wd_at.pt ew134 k125 (wd_nk k125 k127 rfl)
        have k137 := wd_at.pt ew134 k126 (wd_nk k126 k127 rfl)
        have k138 : wd_at w133 a8 (.inl (cy 2, 8, .inl (upd (upd (upd (upd (upd (upd (upd (upd ff (0 : Int32).toNatClampNeg 99) (1 : Int32).toNatClampNeg 0) (2 : Int32).toNatClampNeg 0) (3 : Int32).toNatClampNeg (dd - dy)) (4 : Int32).toNatClampNeg 1) (5 : Int32).toNatClampNeg am) (6 : Int32).toNatClampNeg (wo - no)) (7 : Int32).toNatClampNeg dd))) := wd_at.ps ew134 k127
        have k139 := wd_at.pt ew134 k128 (wd_nk k128 k127 rfl)
        have k140 := wd_at.pt ew134 k129 (wd_nk k129 k127 rfl)
        have fm141 : ∀ k9, k9 < ac → af k9 = some (ad k9) ∧ wd_at w133 (ad k9) (.inr (0, [.int (av0 k9), .int (av1 k9), .int (av2 k9), .int (av3 k9)])) ∧ tg (ad k9) = 4000 + k9 := fun k9 hi9 => ⟨(fm130 k9 hi9).1, wd_at.pt ew134 (fm130 k9 hi9).2.1 (wd_nk (fm130 k9 hi9).2.1 k127 rfl), (fm130 k9 hi9).2.2⟩
        have fm142 : ∀ k9, k9 < sc → zf k9 = some (so k9) ∧ wd_at w133 (so k9) (.inr (6, [.int (sp0 k9), .int (sp1 k9), .ref (sr k9)])) ∧ tg (so k9) = 5000 + k9 ∧ wd_at w133 (sr k9) (.inl (cy 2, 12, .inl (sd k9))) ∧ tg (sr k9) = 6000 + k9 := fun k9 hi9 => ⟨(fm131 k9 hi9).1, wd_at.pt ew134 (fm131 k9 hi9).2.1 (wd_nk (fm131 k9 hi9).2.1 k127 rfl), (fm131 k9 hi9).2.2.1, wd_at.pt ew134 (fm131 k9 hi9).2.2.2.1 (wd_nk (fm131 k9 hi9).2.2.2.1 k127 rfl), (fm131 k9 hi9).2.2.2.2⟩
        have kp143 := kp132.put ew134 s90
        exact y_vr K hP hD hS (Nat.le_of_ble_eq_true rfl) (Nat.le_of_ble_eq_true rfl) rfl dX10_gatherFacts_142 (⟨upd (upd (upd (upd (upd (upd (upd (upd ff (0 : Int32).toNatClampNeg 99) (1 : Int32).toNatClampNeg 0) (2 : Int32).toNatClampNeg 0) (3 : Int32).toNatClampNeg (dd - dy)) (4 : Int32).toNatClampNeg 1) (5 : Int32).toNatClampNeg am) (6 : Int32).toNatClampNeg (wo - no)) (7 : Int32).toNatClampNeg dd, rfl, fc8 (by rw [b01_0.mp cA]; rfl) (by rw [b01_0.mp cA]; rfl) (by rw [b01_0.mp cS]; rfl) (by rw [if_pos (Int32.not_le.mp cG)]), kp143, k138⟩)
    · refine lv_iconst (v := 1) hx hb dX10_gatherFacts_71 (by decide) ?_
      refine lv_goto (tgt := 76) hx hb dX10_gatherFacts_72 (by decide) ?_
      refine y_iast F hP hD hS k23 (vp_in_iff.mpr ⟨by decide, by decide⟩) dX10_gatherFacts_76 (fun w144 ew145 H locs hP hD hS => ?_)
      have k146 := wd_at.pt ew145 k20 (wd_nk k20 k23 rfl)
      have k147 := wd_at.pt ew145 k21 (wd_nk k21 k23 rfl)
      have k148 := wd_at.pt ew145 k22 (wd_nk k22 k23 rfl)
      have k149 : wd_at w144 a8 (.inl (cy 2, 8, .inl (upd (upd (upd ff (0 : Int32).toNatClampNeg 99) (1 : Int32).toNatClampNeg 0) (2 : Int32).toNatClampNeg 1))) := wd_at.ps ew145 k23
      have k150 := wd_at.pt ew145 k24 (wd_nk k24 k23 rfl)
      have k151 := wd_at.pt ew145 k25 (wd_nk k25 k23 rfl)
      have fm152 : ∀ k9, k9 < ac → af k9 = some (ad k9) ∧ wd_at w144 (ad k9) (.inr (0, [.int (av0 k9), .int (av1 k9), .int (av2 k9), .int (av3 k9)])) ∧ tg (ad k9) = 4000 + k9 := fun k9 hi9 => ⟨(fm26 k9 hi9).1, wd_at.pt ew145 (fm26 k9 hi9).2.1 (wd_nk (fm26 k9 hi9).2.1 k23 rfl), (fm26 k9 hi9).2.2⟩
      have fm153 : ∀ k9, k9 < sc → zf k9 = some (so k9) ∧ wd_at w144 (so k9) (.inr (6, [.int (sp0 k9), .int (sp1 k9), .ref (sr k9)])) ∧ tg (so k9) = 5000 + k9 ∧ wd_at w144 (sr k9) (.inl (cy 2, 12, .inl (sd k9))) ∧ tg (sr k9) = 6000 + k9 := fun k9 hi9 => ⟨(fm27 k9 hi9).1, wd_at.pt ew145 (fm27 k9 hi9).2.1 (wd_nk (fm27 k9 hi9).2.1 k23 rfl), (fm27 k9 hi9).2.2.1, wd_at.pt ew145 (fm27 k9 hi9).2.2.2.1 (wd_nk (fm27 k9 hi9).2.2.2.1 k23 rfl), (fm27 k9 hi9).2.2.2.2⟩
      have kp154 := kp28.put ew145 s90
      refine lv_aload_n hx hb dX10_gatherFacts_77 rfl (lv_at hl 2 rfl) ?_
      refine x_get (ref := "NoteHouse") F hP k146 rfl (fun _ h => List.mem_cons_of_mem _ (List.mem_append_left _ (List.mem_append_left _ (List.mem_append_right _ (h))))) 8 (Nat.le_of_ble_eq_true rfl) (List.mem_cons_of_mem _ (List.mem_append_left _ (List.mem_append_left _ (List.mem_append_left _ (List.mem_append_left _ (List.mem_append_left _ (List.mem_append_left _ (List.mem_of_getElem? (i := 2) rfl)))))))) rfl rfl dX10_gatherFacts_78 ?_
      refine lv_iconst (v := 3) hx hb dX10_gatherFacts_81 (by decide) ?_
      refine lv_iload hx hb dX10_gatherFacts_82 (lv_at hl 0 rfl) ?_
      refine y_iast F hP hD hS k149 (vp_in_iff.mpr ⟨by decide, by decide⟩) dX10_gatherFacts_84 (fun w155 ew156 H locs hP hD hS => ?_)
      have k157 := wd_at.pt ew156 k146 (wd_nk k146 k149 rfl)
      have k158 := wd_at.pt ew156 k147 (wd_nk k147 k149 rfl)
      have k159 := wd_at.pt ew156 k148 (wd_nk k148 k149 rfl)
      have k160 : wd_at w155 a8 (.inl (cy 2, 8, .inl (upd (upd (upd (upd ff (0 : Int32).toNatClampNeg 99) (1 : Int32).toNatClampNeg 0) (2 : Int32).toNatClampNeg 1) (3 : Int32).toNatClampNeg (dd - dy)))) := wd_at.ps ew156 k149
      have k161 := wd_at.pt ew156 k150 (wd_nk k150 k149 rfl)
      have k162 := wd_at.pt ew156 k151 (wd_nk k151 k149 rfl)
      have fm163 : ∀ k9, k9 < ac → af k9 = some (ad k9) ∧ wd_at w155 (ad k9) (.inr (0, [.int (av0 k9), .int (av1 k9), .int (av2 k9), .int (av3 k9)])) ∧ tg (ad k9) = 4000 + k9 := fun k9 hi9 => ⟨(fm152 k9 hi9).1, wd_at.pt ew156 (fm152 k9 hi9).2.1 (wd_nk (fm152 k9 hi9).2.1 k149 rfl), (fm152 k9 hi9).2.2⟩
      have fm164 : ∀ k9, k9 < sc → zf k9 = some (so k9) ∧ wd_at w155 (so k9) (.inr (6, [.int (sp0 k9), .int (sp1 k9), .ref (sr k9)])) ∧ tg (so k9) = 5000 + k9 ∧ wd_at w155 (sr k9) (.inl (cy 2, 12, .inl (sd k9))) ∧ tg (sr k9) = 6000 + k9 := fun k9 hi9 => ⟨(fm153 k9 hi9).1, wd_at.pt ew156 (fm153 k9 hi9).2.1 (wd_nk (fm153 k9 hi9).2.1 k149 rfl), (fm153 k9 hi9).2.2.1, wd_at.pt ew156 (fm153 k9 hi9).2.2.2.1 (wd_nk (fm153 k9 hi9).2.2.2.1 k149 rfl), (fm153 k9 hi9).2.2.2.2⟩
      have kp165 := kp154.put ew156 s90
      refine lv_aload_n hx hb dX10_gatherFacts_85 rfl (lv_at hl 2 rfl) ?_
      refine x_get (ref := "NoteHouse") F hP k157 rfl (fun _ h => List.mem_cons_of_mem _ (List.mem_append_left _ (List.mem_append_left _ (List.mem_append_right _ (h))))) 8 (Nat.le_of_ble_eq_true rfl) (List.mem_cons_of_mem _ (List.mem_append_left _ (List.mem_append_left _ (List.mem_append_left _ (List.mem_append_left _ (List.mem_append_left _ (List.mem_append_left _ (List.mem_of_getElem? (i := 2) rfl)))))))) rfl rfl dX10_gatherFacts_86 ?_
      refine lv_iconst (v := 4) hx hb dX10_gatherFacts_89 (by decide) ?_
      refine lv_iload hx hb dX10_gatherFacts_90 (lv_at hl 0 rfl) ?_
      refine lv_aload_n hx hb dX10_gatherFacts_92 rfl (lv_at hl 4 rfl) ?_
      refine x_get (ref := "NoteHouse$Paper") F hP k162 rfl (fun _ h => List.mem_cons_of_mem _ (List.mem_append_left _ (List.mem_append_left _ (List.mem_append_left _ (List.mem_append_right _ (h)))))) 3 (Nat.le_of_ble_eq_true rfl) (List.mem_cons_of_mem _ (List.mem_append_left _ (List.mem_append_left _ (List.mem_append_left _ (List.mem_append_left _ (List.mem_append_left _ (List.mem_append_left _ (List.mem_of_getElem? (i := 5) rfl)))))))) rfl rfl dX10_gatherFacts_93 ?_
      refine lv_icmp_le (tgt := 103) hx hb dX10_gatherFacts_96 (by decide) (fun cG => ?_) (fun cG => ?_)
      · refine lv_iconst (v := 0) hx hb dX10_gatherFacts_103 (by decide) ?_
        refine y_iast F hP hD hS k160 (vp_in_iff.mpr ⟨by decide, by decide⟩) dX10_gatherFacts_104 (fun w166 ew167 H locs hP hD hS => ?_)
        have k168 := wd_at.pt ew167 k157 (wd_nk k157 k160 rfl)
        have k169 := wd_at.pt ew167 k158 (wd_nk k158 k160 rfl)
        have k170 := wd_at.pt ew167 k159 (wd_nk k159 k160 rfl)
        have k171 : wd_at w166 a8 (.inl (cy 2, 8, .inl (upd (upd (upd (upd (upd ff (0 : Int32).toNatClampNeg 99) (1 : Int32).toNatClampNeg 0) (2 : Int32).toNatClampNeg 1) (3 : Int32).toNatClampNeg (dd - dy)) (4 : Int32).toNatClampNeg 0))) := wd_at.ps ew167 k160
        have k172 := wd_at.pt ew167 k161 (wd_nk k161 k160 rfl)
        have k173 := wd_at.pt ew167 k162 (wd_nk k162 k160 rfl)
        have fm174 : ∀ k9, k9 < ac → af k9 = some (ad k9) ∧ wd_at w166 (ad k9) (.inr (0, [.int (av0 k9), .int (av1 k9), .int (av2 k9), .int (av3 k9)])) ∧ tg (ad k9) = 4000 + k9 := fun k9 hi9 => ⟨(fm163 k9 hi9).1, wd_at.pt ew167 (fm163 k9 hi9).2.1 (wd_nk (fm163 k9 hi9).2.1 k160 rfl), (fm163 k9 hi9).2.2⟩
        have fm175 : ∀ k9, k9 < sc → zf k9 = some (so k9) ∧ wd_at w166 (so k9) (.inr (6, [.int (sp0 k9), .int (sp1 k9), .ref (sr k9)])) ∧ tg (so k9) = 5000 + k9 ∧ wd_at w166 (sr k9) (.inl (cy 2, 12, .inl (sd k9))) ∧ tg (sr k9) = 6000 + k9 := fun k9 hi9 => ⟨(fm164 k9 hi9).1, wd_at.pt ew167 (fm164 k9 hi9).2.1 (wd_nk (fm164 k9 hi9).2.1 k160 rfl), (fm164 k9 hi9).2.2.1, wd_at.pt ew167 (fm164 k9 hi9).2.2.2.1 (wd_nk (fm164 k9 hi9).2.2.2.1 k160 rfl), (fm164 k9 hi9).2.2.2.2⟩
        have kp176 := kp165.put ew167 s90
        refine lv_aload_n hx hb dX10_gatherFacts_105 rfl (lv_at hl 2 rfl) ?_
        refine x_get (ref := "NoteHouse") F hP k168 rfl (fun _ h => List.mem_cons_of_mem _ (List.mem_append_left _ (List.mem_append_left _ (List.mem_append_right _ (h))))) 8 (Nat.le_of_ble_eq_true rfl) (List.mem_cons_of_mem _ (List.mem_append_left _ (List.mem_append_left _ (List.mem_append_left _ (List.mem_append_left _ (List.mem_append_left _ (List.mem_append_left _ (List.mem_of_getElem? (i := 2) rfl)))))))) rfl rfl dX10_gatherFacts_106 ?_
        refine lv_iconst (v := 5) hx hb dX10_gatherFacts_109 (by decide) ?_
        refine lv_aload_n hx hb dX10_gatherFacts_110 rfl (lv_at hl 3 rfl) ?_
        refine x_get (ref := "NoteHouse$Shown") F hP k172 rfl (fun _ h => List.mem_cons_of_mem _ (List.mem_append_left _ (List.mem_append_left _ (List.mem_append_left _ (List.mem_append_left _ (List.mem_append_right _ (h))))))) 3 (Nat.le_of_ble_eq_true rfl) (List.mem_cons_of_mem _ (List.mem_append_left _ (List.mem_append_left _ (List.mem_append_left _ (List.mem_append_left _ (List.mem_append_left _ (List.mem_append_left _ (List.mem_of_getElem? (i := 6) rfl)))))))) rfl rfl dX10_gatherFacts_111 ?_
        refine y_iast F hP hD hS k171 (vp_in_iff.mpr ⟨by decide, by decide⟩) dX10_gatherFacts_114 (fun w177 ew178 H locs hP hD hS => ?_)
        have k179 := wd_at.pt ew178 k168 (wd_nk k168 k171 rfl)
        have k180 := wd_at.pt ew178 k169 (wd_nk k169 k171 rfl)
        have k181 := wd_at.pt ew178 k170 (wd_nk k170 k171 rfl)
        have k182 : wd_at w177 a8 (.inl (cy 2, 8, .inl (upd (upd (upd (upd (upd (upd ff (0 : Int32).toNatClampNeg 99) (1 : Int32).toNatClampNeg 0) (2 : Int32).toNatClampNeg 1) (3 : Int32).toNatClampNeg (dd - dy)) (4 : Int32).toNatClampNeg 0) (5 : Int32).toNatClampNeg am))) := wd_at.ps ew178 k171
        have k183 := wd_at.pt ew178 k172 (wd_nk k172 k171 rfl)
        have k184 := wd_at.pt ew178 k173 (wd_nk k173 k171 rfl)
        have fm185 : ∀ k9, k9 < ac → af k9 = some (ad k9) ∧ wd_at w177 (ad k9) (.inr (0, [.int (av0 k9), .int (av1 k9), .int (av2 k9), .int (av3 k9)])) ∧ tg (ad k9) = 4000 + k9 := fun k9 hi9 => ⟨(fm174 k9 hi9).1, wd_at.pt ew178 (fm174 k9 hi9).2.1 (wd_nk (fm174 k9 hi9).2.1 k171 rfl), (fm174 k9 hi9).2.2⟩
        have fm186 : ∀ k9, k9 < sc → zf k9 = some (so k9) ∧ wd_at w177 (so k9) (.inr (6, [.int (sp0 k9), .int (sp1 k9), .ref (sr k9)])) ∧ tg (so k9) = 5000 + k9 ∧ wd_at w177 (sr k9) (.inl (cy 2, 12, .inl (sd k9))) ∧ tg (sr k9) = 6000 + k9 := fun k9 hi9 => ⟨(fm175 k9 hi9).1, wd_at.pt ew178 (fm175 k9 hi9).2.1 (wd_nk (fm175 k9 hi9).2.1 k171 rfl), (fm175 k9 hi9).2.2.1, wd_at.pt ew178 (fm175 k9 hi9).2.2.2.1 (wd_nk (fm175 k9 hi9).2.2.2.1 k171 rfl), (fm175 k9 hi9).2.2.2.2⟩
        have kp187 := kp176.put ew178 s90
        refine lv_aload_n hx hb dX10_gatherFacts_115 rfl (lv_at hl 2 rfl) ?_
        refine x_get (ref := "NoteHouse") F hP k179 rfl (fun _ h => List.mem_cons_of_mem _ (List.mem_append_left _ (List.mem_append_left _ (List.mem_append_right _ (h))))) 8 (Nat.le_of_ble_eq_true rfl) (List.mem_cons_of_mem _ (List.mem_append_left _ (List.mem_append_left _ (List.mem_append_left _ (List.mem_append_left _ (List.mem_append_left _ (List.mem_append_left _ (List.mem_of_getElem? (i := 2) rfl)))))))) rfl rfl dX10_gatherFacts_116 ?_
        refine lv_bipush (v := 6) hx hb dX10_gatherFacts_119 (by decide) ?_
        refine lv_aload_n hx hb dX10_gatherFacts_121 rfl (lv_at hl 4 rfl) ?_
        refine x_get (ref := "NoteHouse$Paper") F hP k184 rfl (fun _ h => List.mem_cons_of_mem _ (List.mem_append_left _ (List.mem_append_left _ (List.mem_append_left _ (List.mem_append_right _ (h)))))) 1 (Nat.le_of_ble_eq_true rfl) (List.mem_cons_of_mem _ (List.mem_append_left _ (List.mem_append_left _ (List.mem_append_left _ (List.mem_append_left _ (List.mem_append_left _ (List.mem_append_left _ (List.mem_of_getElem? (i := 7) rfl)))))))) rfl rfl dX10_gatherFacts_122 ?_
        refine lv_aload_n hx hb dX10_gatherFacts_125 rfl (lv_at hl 4 rfl) ?_
        refine x_get (ref := "NoteHouse$Paper") F hP k184 rfl (fun _ h => List.mem_cons_of_mem _ (List.mem_append_left _ (List.mem_append_left _ (List.mem_append_left _ (List.mem_append_right _ (h)))))) 5 (Nat.le_of_ble_eq_true rfl) (List.mem_cons_of_mem _ (List.mem_append_left _ (List.mem_append_left _ (List.mem_append_left _ (List.mem_append_left _ (List.mem_append_left _ (List.mem_append_left _ (List.mem_of_getElem? (i := 8) rfl)))))))) rfl rfl dX10_gatherFacts_126 ?_
        refine lv_isub hx hb dX10_gatherFacts_129 ?_
        refine y_iast F hP hD hS k182 (vp_in_iff.mpr ⟨by decide, by decide⟩) dX10_gatherFacts_130 (fun w188 ew189 H locs hP hD hS => ?_)
        have k190 := wd_at.pt ew189 k179 (wd_nk k179 k182 rfl)
        have k191 := wd_at.pt ew189 k180 (wd_nk k180 k182 rfl)
        have k192 := wd_at.pt ew189 k181 (wd_nk k181 k182 rfl)
        have k193 : wd_at w188 a8 (.inl (cy 2, 8, .inl (upd (upd (upd (upd (upd (upd (upd ff (0 : Int32).toNatClampNeg 99) (1 : Int32).toNatClampNeg 0) (2 : Int32).toNatClampNeg 1) (3 : Int32).toNatClampNeg (dd - dy)) (4 : Int32).toNatClampNeg 0) (5 : Int32).toNatClampNeg am) (6 : Int32).toNatClampNeg (wo - no)))) := wd_at.ps ew189 k182
        have k194 := wd_at.pt ew189 k183 (wd_nk k183 k182 rfl)
        have k195 := wd_at.pt ew189 k184 (wd_nk k184 k182 rfl)
        have fm196 : ∀ k9, k9 < ac → af k9 = some (ad k9) ∧ wd_at w188 (ad k9) (.inr (0, [.int (av0 k9), .int (av1 k9), .int (av2 k9), .int (av3 k9)])) ∧ tg (ad k9) = 4000 + k9 := fun k9 hi9 => ⟨(fm185 k9 hi9).1, wd_at.pt ew189 (fm185 k9 hi9).2.1 (wd_nk (fm185 k9 hi9).2.1 k182 rfl), (fm185 k9 hi9).2.2⟩
        have fm197 : ∀ k9, k9 < sc → zf k9 = some (so k9) ∧ wd_at w188 (so k9) (.inr (6, [.int (sp0 k9), .int (sp1 k9), .ref (sr k9)])) ∧ tg (so k9) = 5000 + k9 ∧ wd_at w188 (sr k9) (.inl (cy 2, 12, .inl (sd k9))) ∧ tg (sr k9) = 6000 + k9 := fun k9 hi9 => ⟨(fm186 k9 hi9).1, wd_at.pt ew189 (fm186 k9 hi9).2.1 (wd_nk (fm186 k9 hi9).2.1 k182 rfl), (fm186 k9 hi9).2.2.1, wd_at.pt ew189 (fm186 k9 hi9).2.2.2.1 (wd_nk (fm186 k9 hi9).2.2.2.1 k182 rfl), (fm186 k9 hi9).2.2.2.2⟩
        have kp198 := kp187.put ew189 s90
        refine lv_aload_n hx hb dX10_gatherFacts_131 rfl (lv_at hl 2 rfl) ?_
        refine x_get (ref := "NoteHouse") F hP k190 rfl (fun _ h => List.mem_cons_of_mem _ (List.mem_append_left _ (List.mem_append_left _ (List.mem_append_right _ (h))))) 8 (Nat.le_of_ble_eq_true rfl) (List.mem_cons_of_mem _ (List.mem_append_left _ (List.mem_append_left _ (List.mem_append_left _ (List.mem_append_left _ (List.mem_append_left _ (List.mem_append_left _ (List.mem_of_getElem? (i := 2) rfl)))))))) rfl rfl dX10_gatherFacts_132 ?_
        refine lv_bipush (v := 7) hx hb dX10_gatherFacts_135 (by decide) ?_
        refine lv_aload_n hx hb dX10_gatherFacts_137 rfl (lv_at hl 3 rfl) ?_
        refine x_get (ref := "NoteHouse$Shown") F hP k194 rfl (fun _ h => List.mem_cons_of_mem _ (List.mem_append_left _ (List.mem_append_left _ (List.mem_append_left _ (List.mem_append_left _ (List.mem_append_right _ (h))))))) 5 (Nat.le_of_ble_eq_true rfl) (List.mem_cons_of_mem _ (List.mem_append_left _ (List.mem_append_left _ (List.mem_append_left _ (List.mem_append_left _ (List.mem_append_left _ (List.mem_append_left _ (List.mem_of_getElem? (i := 0) rfl)))))))) rfl rfl dX10_gatherFacts_138 ?_
        refine y_iast F hP hD hS k193 (vp_in_iff.mpr ⟨by decide, by decide⟩) dX10_gatherFacts_141 (fun w199 ew200 H locs hP hD hS => ?_)
        have k201 := wd_at.pt ew200 k190 (wd_nk k190 k193 rfl)
        have k202 := wd_at.pt ew200 k191 (wd_nk k191 k193 rfl)
        have k203 := wd_at.pt ew200 k192 (wd_nk k192 k193 rfl)
        have k204 : wd_at w199 a8 (.inl (cy 2, 8, .inl (upd (upd (upd (upd (upd (upd (upd (upd ff (0 : Int32).toNatClampNeg 99) (1 : Int32).toNatClampNeg 0) (2 : Int32).toNatClampNeg 1) (3 : Int32).toNatClampNeg (dd - dy)) (4 : Int32).toNatClampNeg 0) (5 : Int32).toNatClampNeg am) (6 : Int32).toNatClampNeg (wo - no)) (7 : Int32).toNatClampNeg dd))) := wd_at.ps ew200 k193
        have k205 := wd_at.pt ew200 k194 (wd_nk k194 k193 rfl)
        have k206 := wd_at.pt ew200 k195 (wd_nk k195 k193 rfl)
        have fm207 : ∀ k9, k9 < ac → af k9 = some (ad k9) ∧ wd_at w199 (ad k9) (.inr (0, [.int (av0 k9), .int (av1 k9), .int (av2 k9), .int (av3 k9)])) ∧ tg (ad k9) = 4000 + k9 := fun k9 hi9 => ⟨(fm196 k9 hi9).1, wd_at.pt ew200 (fm196 k9 hi9).2.1 (wd_nk (fm196 k9 hi9).2.1 k193 rfl), (fm196 k9 hi9).2.2⟩
        have fm208 : ∀ k9, k9 < sc → zf k9 = some (so k9) ∧ wd_at w199 (so k9) (.inr (6, [.int (sp0 k9), .int (sp1 k9), .ref (sr k9)])) ∧ tg (so k9) = 5000 + k9 ∧ wd_at w199 (sr k9) (.inl (cy 2, 12, .inl (sd k9))) ∧ tg (sr k9) = 6000 + k9 := fun k9 hi9 => ⟨(fm197 k9 hi9).1, wd_at.pt ew200 (fm197 k9 hi9).2.1 (wd_nk (fm197 k9 hi9).2.1 k193 rfl), (fm197 k9 hi9).2.2.1, wd_at.pt ew200 (fm197 k9 hi9).2.2.2.1 (wd_nk (fm197 k9 hi9).2.2.2.1 k193 rfl), (fm197 k9 hi9).2.2.2.2⟩
        have kp209 := kp198.put ew200 s90
        exact y_vr K hP hD hS (Nat.le_of_ble_eq_true rfl) (Nat.le_of_ble_eq_true rfl) rfl dX10_gatherFacts_142 (⟨upd (upd (upd (upd (upd (upd (upd (upd ff (0 : Int32).toNatClampNeg 99) (1 : Int32).toNatClampNeg 0) (2 : Int32).toNatClampNeg 1) (3 : Int32).toNatClampNeg (dd - dy)) (4 : Int32).toNatClampNeg 0) (5 : Int32).toNatClampNeg am) (6 : Int32).toNatClampNeg (wo - no)) (7 : Int32).toNatClampNeg dd, rfl, fc8 (by rw [b01_0.mp cA]; rfl) (by rw [b01_0.mp cA]; rfl) (by rw [b01_n cS]; rfl) (by rw [if_neg (Int32.not_lt.mpr cG)]), kp209, k204⟩)
      · refine lv_iconst (v := 1) hx hb dX10_gatherFacts_99 (by decide) ?_
        refine lv_goto (tgt := 104) hx hb dX10_gatherFacts_100 (by decide) ?_
        refine y_iast F hP hD hS k160 (vp_in_iff.mpr ⟨by decide, by decide⟩) dX10_gatherFacts_104 (fun w210 ew211 H locs hP hD hS => ?_)
        have k212 := wd_at.pt ew211 k157 (wd_nk k157 k160 rfl)
        have k213 := wd_at.pt ew211 k158 (wd_nk k158 k160 rfl)
        have k214 := wd_at.pt ew211 k159 (wd_nk k159 k160 rfl)
        have k215 : wd_at w210 a8 (.inl (cy 2, 8, .inl (upd (upd (upd (upd (upd ff (0 : Int32).toNatClampNeg 99) (1 : Int32).toNatClampNeg 0) (2 : Int32).toNatClampNeg 1) (3 : Int32).toNatClampNeg (dd - dy)) (4 : Int32).toNatClampNeg 1))) := wd_at.ps ew211 k160
        have k216 := wd_at.pt ew211 k161 (wd_nk k161 k160 rfl)
        have k217 := wd_at.pt ew211 k162 (wd_nk k162 k160 rfl)
        have fm218 : ∀ k9, k9 < ac → af k9 = some (ad k9) ∧ wd_at w210 (ad k9) (.inr (0, [.int (av0 k9), .int (av1 k9), .int (av2 k9), .int (av3 k9)])) ∧ tg (ad k9) = 4000 + k9 := fun k9 hi9 => ⟨(fm163 k9 hi9).1, wd_at.pt ew211 (fm163 k9 hi9).2.1 (wd_nk (fm163 k9 hi9).2.1 k160 rfl), (fm163 k9 hi9).2.2⟩
        have fm219 : ∀ k9, k9 < sc → zf k9 = some (so k9) ∧ wd_at w210 (so k9) (.inr (6, [.int (sp0 k9), .int (sp1 k9), .ref (sr k9)])) ∧ tg (so k9) = 5000 + k9 ∧ wd_at w210 (sr k9) (.inl (cy 2, 12, .inl (sd k9))) ∧ tg (sr k9) = 6000 + k9 := fun k9 hi9 => ⟨(fm164 k9 hi9).1, wd_at.pt ew211 (fm164 k9 hi9).2.1 (wd_nk (fm164 k9 hi9).2.1 k160 rfl), (fm164 k9 hi9).2.2.1, wd_at.pt ew211 (fm164 k9 hi9).2.2.2.1 (wd_nk (fm164 k9 hi9).2.2.2.1 k160 rfl), (fm164 k9 hi9).2.2.2.2⟩
        have kp220 := kp165.put ew211 s90
        refine lv_aload_n hx hb dX10_gatherFacts_105 rfl (lv_at hl 2 rfl) ?_
        refine x_get (ref := "NoteHouse") F hP k212 rfl (fun _ h => List.mem_cons_of_mem _ (List.mem_append_left _ (List.mem_append_left _ (List.mem_append_right _ (h))))) 8 (Nat.le_of_ble_eq_true rfl) (List.mem_cons_of_mem _ (List.mem_append_left _ (List.mem_append_left _ (List.mem_append_left _ (List.mem_append_left _ (List.mem_append_left _ (List.mem_append_left _ (List.mem_of_getElem? (i := 2) rfl)))))))) rfl rfl dX10_gatherFacts_106 ?_
        refine lv_iconst (v := 5) hx hb dX10_gatherFacts_109 (by decide) ?_
        refine lv_aload_n hx hb dX10_gatherFacts_110 rfl (lv_at hl 3 rfl) ?_
        refine x_get (ref := "NoteHouse$Shown") F hP k216 rfl (fun _ h => List.mem_cons_of_mem _ (List.mem_append_left _ (List.mem_append_left _ (List.mem_append_left _ (List.mem_append_left _ (List.mem_append_right _ (h))))))) 3 (Nat.le_of_ble_eq_true rfl) (List.mem_cons_of_mem _ (List.mem_append_left _ (List.mem_append_left _ (List.mem_append_left _ (List.mem_append_left _ (List.mem_append_left _ (List.mem_append_left _ (List.mem_of_getElem? (i := 6) rfl)))))))) rfl rfl dX10_gatherFacts_111 ?_
        refine y_iast F hP hD hS k215 (vp_in_iff.mpr ⟨by decide, by decide⟩) dX10_gatherFacts_114 (fun w221 ew222 H locs hP hD hS => ?_)
        have k223 := wd_at.pt ew222 k212 (wd_nk k212 k215 rfl)
        have k224 := wd_at.pt ew222 k213 (wd_nk k213 k215 rfl)
        have k225 := wd_at.pt ew222 k214 (wd_nk k214 k215 rfl)
        have k226 : wd_at w221 a8 (.inl (cy 2, 8, .inl (upd (upd (upd (upd (upd (upd ff (0 : Int32).toNatClampNeg 99) (1 : Int32).toNatClampNeg 0) (2 : Int32).toNatClampNeg 1) (3 : Int32).toNatClampNeg (dd - dy)) (4 : Int32).toNatClampNeg 1) (5 : Int32).toNatClampNeg am))) := wd_at.ps ew222 k215
        have k227 := wd_at.pt ew222 k216 (wd_nk k216 k215 rfl)
        have k228 := wd_at.pt ew222 k217 (wd_nk k217 k215 rfl)
        have fm229 : ∀ k9, k9 < ac → af k9 = some (ad k9) ∧ wd_at w221 (ad k9) (.inr (0, [.int (av0 k9), .int (av1 k9), .int (av2 k9), .int (av3 k9)])) ∧ tg (ad k9) = 4000 + k9 := fun k9 hi9 => ⟨(fm218 k9 hi9).1, wd_at.pt ew222 (fm218 k9 hi9).2.1 (wd_nk (fm218 k9 hi9).2.1 k215 rfl), (fm218 k9 hi9).2.2⟩
        have fm230 : ∀ k9, k9 < sc → zf k9 = some (so k9) ∧ wd_at w221 (so k9) (.inr (6, [.int (sp0 k9), .int (sp1 k9), .ref (sr k9)])) ∧ tg (so k9) = 5000 + k9 ∧ wd_at w221 (sr k9) (.inl (cy 2, 12, .inl (sd k9))) ∧ tg (sr k9) = 6000 + k9 := fun k9 hi9 => ⟨(fm219 k9 hi9).1, wd_at.pt ew222 (fm219 k9 hi9).2.1 (wd_nk (fm219 k9 hi9).2.1 k215 rfl), (fm219 k9 hi9).2.2.1, wd_at.pt ew222 (fm219 k9 hi9).2.2.2.1 (wd_nk (fm219 k9 hi9).2.2.2.1 k215 rfl), (fm219 k9 hi9).2.2.2.2⟩
        have kp231 := kp220.put ew222 s90
        refine lv_aload_n hx hb dX10_gatherFacts_115 rfl (lv_at hl 2 rfl) ?_
        refine x_get (ref := "NoteHouse") F hP k223 rfl (fun _ h => List.mem_cons_of_mem _ (List.mem_append_left _ (List.mem_append_left _ (List.mem_append_right _ (h))))) 8 (Nat.le_of_ble_eq_true rfl) (List.mem_cons_of_mem _ (List.mem_append_left _ (List.mem_append_left _ (List.mem_append_left _ (List.mem_append_left _ (List.mem_append_left _ (List.mem_append_left _ (List.mem_of_getElem? (i := 2) rfl)))))))) rfl rfl dX10_gatherFacts_116 ?_
        refine lv_bipush (v := 6) hx hb dX10_gatherFacts_119 (by decide) ?_
        refine lv_aload_n hx hb dX10_gatherFacts_121 rfl (lv_at hl 4 rfl) ?_
        refine x_get (ref := "NoteHouse$Paper") F hP k228 rfl (fun _ h => List.mem_cons_of_mem _ (List.mem_append_left _ (List.mem_append_left _ (List.mem_append_left _ (List.mem_append_right _ (h)))))) 1 (Nat.le_of_ble_eq_true rfl) (List.mem_cons_of_mem _ (List.mem_append_left _ (List.mem_append_left _ (List.mem_append_left _ (List.mem_append_left _ (List.mem_append_left _ (List.mem_append_left _ (List.mem_of_getElem? (i := 7) rfl)))))))) rfl rfl dX10_gatherFacts_122 ?_
        refine lv_aload_n hx hb dX10_gatherFacts_125 rfl (lv_at hl 4 rfl) ?_
        refine x_get (ref := "NoteHouse$Paper") F hP k228 rfl (fun _ h => List.mem_cons_of_mem _ (List.mem_append_left _ (List.mem_append_left _ (List.mem_append_left _ (List.mem_append_right _ (h)))))) 5 (Nat.le_of_ble_eq_true rfl) (List.mem_cons_of_mem _ (List.mem_append_left _ (List.mem_append_left _ (List.mem_append_left _ (List.mem_append_left _ (List.mem_append_left _ (List.mem_append_left _ (List.mem_of_getElem? (i := 8) rfl)))))))) rfl rfl dX10_gatherFacts_126 ?_
        refine lv_isub hx hb dX10_gatherFacts_129 ?_
        refine y_iast F hP hD hS k226 (vp_in_iff.mpr ⟨by decide, by decide⟩) dX10_gatherFacts_130 (fun w232 ew233 H locs hP hD hS => ?_)
        have k234 := wd_at.pt ew233 k223 (wd_nk k223 k226 rfl)
        have k235 := wd_at.pt ew233 k224 (wd_nk k224 k226 rfl)
        have k236 := wd_at.pt ew233 k225 (wd_nk k225 k226 rfl)
        have k237 : wd_at w232 a8 (.inl (cy 2, 8, .inl (upd (upd (upd (upd (upd (upd (upd ff (0 : Int32).toNatClampNeg 99) (1 : Int32).toNatClampNeg 0) (2 : Int32).toNatClampNeg 1) (3 : Int32).toNatClampNeg (dd - dy)) (4 : Int32).toNatClampNeg 1) (5 : Int32).toNatClampNeg am) (6 : Int32).toNatClampNeg (wo - no)))) := wd_at.ps ew233 k226
        have k238 := wd_at.pt ew233 k227 (wd_nk k227 k226 rfl)
        have k239 := wd_at.pt ew233 k228 (wd_nk k228 k226 rfl)
        have fm240 : ∀ k9, k9 < ac → af k9 = some (ad k9) ∧ wd_at w232 (ad k9) (.inr (0, [.int (av0 k9), .int (av1 k9), .int (av2 k9), .int (av3 k9)])) ∧ tg (ad k9) = 4000 + k9 := fun k9 hi9 => ⟨(fm229 k9 hi9).1, wd_at.pt ew233 (fm229 k9 hi9).2.1 (wd_nk (fm229 k9 hi9).2.1 k226 rfl), (fm229 k9 hi9).2.2⟩
        have fm241 : ∀ k9, k9 < sc → zf k9 = some (so k9) ∧ wd_at w232 (so k9) (.inr (6, [.int (sp0 k9), .int (sp1 k9), .ref (sr k9)])) ∧ tg (so k9) = 5000 + k9 ∧ wd_at w232 (sr k9) (.inl (cy 2, 12, .inl (sd k9))) ∧ tg (sr k9) = 6000 + k9 := fun k9 hi9 => ⟨(fm230 k9 hi9).1, wd_at.pt ew233 (fm230 k9 hi9).2.1 (wd_nk (fm230 k9 hi9).2.1 k226 rfl), (fm230 k9 hi9).2.2.1, wd_at.pt ew233 (fm230 k9 hi9).2.2.2.1 (wd_nk (fm230 k9 hi9).2.2.2.1 k226 rfl), (fm230 k9 hi9).2.2.2.2⟩
        have kp242 := kp231.put ew233 s90
        refine lv_aload_n hx hb dX10_gatherFacts_131 rfl (lv_at hl 2 rfl) ?_
        refine x_get (ref := "NoteHouse") F hP k234 rfl (fun _ h => List.mem_cons_of_mem _ (List.mem_append_left _ (List.mem_append_left _ (List.mem_append_right _ (h))))) 8 (Nat.le_of_ble_eq_true rfl) (List.mem_cons_of_mem _ (List.mem_append_left _ (List.mem_append_left _ (List.mem_append_left _ (List.mem_append_left _ (List.mem_append_left _ (List.mem_append_left _ (List.mem_of_getElem? (i := 2) rfl)))))))) rfl rfl dX10_gatherFacts_132 ?_
        refine lv_bipush (v := 7) hx hb dX10_gatherFacts_135 (by decide) ?_
        refine lv_aload_n hx hb dX10_gatherFacts_137 rfl (lv_at hl 3 rfl) ?_
        refine x_get (ref := "NoteHouse$Shown") F hP k238 rfl (fun _ h => List.mem_cons_of_mem _ (List.mem_append_left _ (List.mem_append_left _ (List.mem_append_left _ (List.mem_append_left _ (List.mem_append_right _ (h))))))) 5 (Nat.le_of_ble_eq_true rfl) (List.mem_cons_of_mem _ (List.mem_append_left _ (List.mem_append_left _ (List.mem_append_left _ (List.mem_append_left _ (List.mem_append_left _ (List.mem_append_left _ (List.mem_of_getElem? (i := 0) rfl)))))))) rfl rfl dX10_gatherFacts_138 ?_
        refine y_iast F hP hD hS k237 (vp_in_iff.mpr ⟨by decide, by decide⟩) dX10_gatherFacts_141 (fun w243 ew244 H locs hP hD hS => ?_)
        have k245 := wd_at.pt ew244 k234 (wd_nk k234 k237 rfl)
        have k246 := wd_at.pt ew244 k235 (wd_nk k235 k237 rfl)
        have k247 := wd_at.pt ew244 k236 (wd_nk k236 k237 rfl)
        have k248 : wd_at w243 a8 (.inl (cy 2, 8, .inl (upd (upd (upd (upd (upd (upd (upd (upd ff (0 : Int32).toNatClampNeg 99) (1 : Int32).toNatClampNeg 0) (2 : Int32).toNatClampNeg 1) (3 : Int32).toNatClampNeg (dd - dy)) (4 : Int32).toNatClampNeg 1) (5 : Int32).toNatClampNeg am) (6 : Int32).toNatClampNeg (wo - no)) (7 : Int32).toNatClampNeg dd))) := wd_at.ps ew244 k237
        have k249 := wd_at.pt ew244 k238 (wd_nk k238 k237 rfl)
        have k250 := wd_at.pt ew244 k239 (wd_nk k239 k237 rfl)
        have fm251 : ∀ k9, k9 < ac → af k9 = some (ad k9) ∧ wd_at w243 (ad k9) (.inr (0, [.int (av0 k9), .int (av1 k9), .int (av2 k9), .int (av3 k9)])) ∧ tg (ad k9) = 4000 + k9 := fun k9 hi9 => ⟨(fm240 k9 hi9).1, wd_at.pt ew244 (fm240 k9 hi9).2.1 (wd_nk (fm240 k9 hi9).2.1 k237 rfl), (fm240 k9 hi9).2.2⟩
        have fm252 : ∀ k9, k9 < sc → zf k9 = some (so k9) ∧ wd_at w243 (so k9) (.inr (6, [.int (sp0 k9), .int (sp1 k9), .ref (sr k9)])) ∧ tg (so k9) = 5000 + k9 ∧ wd_at w243 (sr k9) (.inl (cy 2, 12, .inl (sd k9))) ∧ tg (sr k9) = 6000 + k9 := fun k9 hi9 => ⟨(fm241 k9 hi9).1, wd_at.pt ew244 (fm241 k9 hi9).2.1 (wd_nk (fm241 k9 hi9).2.1 k237 rfl), (fm241 k9 hi9).2.2.1, wd_at.pt ew244 (fm241 k9 hi9).2.2.2.1 (wd_nk (fm241 k9 hi9).2.2.2.1 k237 rfl), (fm241 k9 hi9).2.2.2.2⟩
        have kp253 := kp242.put ew244 s90
        exact y_vr K hP hD hS (Nat.le_of_ble_eq_true rfl) (Nat.le_of_ble_eq_true rfl) rfl dX10_gatherFacts_142 (⟨upd (upd (upd (upd (upd (upd (upd (upd ff (0 : Int32).toNatClampNeg 99) (1 : Int32).toNatClampNeg 0) (2 : Int32).toNatClampNeg 1) (3 : Int32).toNatClampNeg (dd - dy)) (4 : Int32).toNatClampNeg 1) (5 : Int32).toNatClampNeg am) (6 : Int32).toNatClampNeg (wo - no)) (7 : Int32).toNatClampNeg dd, rfl, fc8 (by rw [b01_0.mp cA]; rfl) (by rw [b01_0.mp cA]; rfl) (by rw [b01_n cS]; rfl) (by rw [if_pos (Int32.not_le.mp cG)]), kp253, k248⟩)
  · refine lv_aload_n hx hb dX10_gatherFacts_26 rfl (lv_at hl 3 rfl) ?_
    refine x_get (ref := "NoteHouse$Shown") F hP c94 rfl (fun _ h => List.mem_cons_of_mem _ (List.mem_append_left _ (List.mem_append_left _ (List.mem_append_left _ (List.mem_append_left _ (List.mem_append_right _ (h))))))) 4 (Nat.le_of_ble_eq_true rfl) (List.mem_cons_of_mem _ (List.mem_append_left _ (List.mem_append_left _ (List.mem_append_left _ (List.mem_append_left _ (List.mem_append_left _ (List.mem_append_left _ (List.mem_of_getElem? (i := 3) rfl)))))))) rfl rfl dX10_gatherFacts_27 ?_
    refine lv_aload_n hx hb dX10_gatherFacts_30 rfl (lv_at hl 4 rfl) ?_
    refine x_get (ref := "NoteHouse$Paper") F hP c95 rfl (fun _ h => List.mem_cons_of_mem _ (List.mem_append_left _ (List.mem_append_left _ (List.mem_append_left _ (List.mem_append_right _ (h)))))) 2 (Nat.le_of_ble_eq_true rfl) (List.mem_cons_of_mem _ (List.mem_append_left _ (List.mem_append_left _ (List.mem_append_left _ (List.mem_append_left _ (List.mem_append_left _ (List.mem_append_left _ (List.mem_of_getElem? (i := 4) rfl)))))))) rfl rfl dX10_gatherFacts_31 ?_
    refine x_callS (n := 2) (As := [.int hh, .int hd]) (rest := [.int 0, .ref a8]) F hP hD hS (g_unlikeness l D cy sk sv w hh hd) gX10_gatherFacts_X10_unlikeness rfl (by decide +kernel) ⟨(Nat.le_of_ble_eq_true rfl), (Nat.le_of_ble_eq_true rfl)⟩ rfl hl.1 (Nat.le_of_ble_eq_true rfl) dX10_gatherFacts_34 rfl ⟨(Nat.le_of_ble_eq_true rfl), (Nat.le_of_ble_eq_true rfl)⟩ (fun v255 w256 hp254 H locs hP hD hS => ?_)
    obtain ⟨rx257, rfl, rfl, rfl⟩ := hp254
    refine W.eq (g2 := F0 m 37 ls [.int (unlI hh hd), .int 0, .ref a8]) rfl (W.widen (k := 0) (n := 0) (Nat.le_of_ble_eq_true rfl) (Nat.le_of_ble_eq_true rfl) ?_)
    refine lv_goto (tgt := 42) hx hb dX10_gatherFacts_37 (by decide) ?_
    refine y_iast F hP hD hS c93 (vp_in_iff.mpr ⟨by decide, by decide⟩) dX10_gatherFacts_42 (fun w258 ew259 H locs hP hD hS => ?_)
    have k260 := wd_at.pt ew259 c90 (wd_nk c90 c93 rfl)
    have k261 := wd_at.pt ew259 c91 (wd_nk c91 c93 rfl)
    have k262 := wd_at.pt ew259 c92 (wd_nk c92 c93 rfl)
    have k263 : wd_at w258 a8 (.inl (cy 2, 8, .inl (upd ff (0 : Int32).toNatClampNeg (unlI hh hd)))) := wd_at.ps ew259 c93
    have k264 := wd_at.pt ew259 c94 (wd_nk c94 c93 rfl)
    have k265 := wd_at.pt ew259 c95 (wd_nk c95 c93 rfl)
    have fm266 : ∀ k9, k9 < ac → af k9 = some (ad k9) ∧ wd_at w258 (ad k9) (.inr (0, [.int (av0 k9), .int (av1 k9), .int (av2 k9), .int (av3 k9)])) ∧ tg (ad k9) = 4000 + k9 := fun k9 hi9 => ⟨(hA9 k9 hi9).1, wd_at.pt ew259 (hA9 k9 hi9).2.1 (wd_nk (hA9 k9 hi9).2.1 c93 rfl), (hA9 k9 hi9).2.2⟩
    have fm267 : ∀ k9, k9 < sc → zf k9 = some (so k9) ∧ wd_at w258 (so k9) (.inr (6, [.int (sp0 k9), .int (sp1 k9), .ref (sr k9)])) ∧ tg (so k9) = 5000 + k9 ∧ wd_at w258 (sr k9) (.inl (cy 2, 12, .inl (sd k9))) ∧ tg (sr k9) = 6000 + k9 := fun k9 hi9 => ⟨(hS9 k9 hi9).1, wd_at.pt ew259 (hS9 k9 hi9).2.1 (wd_nk (hS9 k9 hi9).2.1 c93 rfl), (hS9 k9 hi9).2.2.1, wd_at.pt ew259 (hS9 k9 hi9).2.2.2.1 (wd_nk (hS9 k9 hi9).2.2.2.1 c93 rfl), (hS9 k9 hi9).2.2.2.2⟩
    have kp268 := kp0.put ew259 s90
    refine lv_aload_n hx hb dX10_gatherFacts_43 rfl (lv_at hl 2 rfl) ?_
    refine x_get (ref := "NoteHouse") F hP k260 rfl (fun _ h => List.mem_cons_of_mem _ (List.mem_append_left _ (List.mem_append_left _ (List.mem_append_right _ (h))))) 8 (Nat.le_of_ble_eq_true rfl) (List.mem_cons_of_mem _ (List.mem_append_left _ (List.mem_append_left _ (List.mem_append_left _ (List.mem_append_left _ (List.mem_append_left _ (List.mem_append_left _ (List.mem_of_getElem? (i := 2) rfl)))))))) rfl rfl dX10_gatherFacts_44 ?_
    refine lv_iconst (v := 1) hx hb dX10_gatherFacts_47 (by decide) ?_
    refine lv_iload_n hx hb dX10_gatherFacts_48 rfl (lv_at hl 1 rfl) ?_
    refine lv_if_eq (tgt := 56) hx hb dX10_gatherFacts_49 (by decide) (fun c_269 => absurd c_269 cA) (fun c_269 => ?_)
    refine lv_iconst (v := 1) hx hb dX10_gatherFacts_52 (by decide) ?_
    refine lv_goto (tgt := 57) hx hb dX10_gatherFacts_53 (by decide) ?_
    refine y_iast F hP hD hS k263 (vp_in_iff.mpr ⟨by decide, by decide⟩) dX10_gatherFacts_57 (fun w270 ew271 H locs hP hD hS => ?_)
    have k272 := wd_at.pt ew271 k260 (wd_nk k260 k263 rfl)
    have k273 := wd_at.pt ew271 k261 (wd_nk k261 k263 rfl)
    have k274 := wd_at.pt ew271 k262 (wd_nk k262 k263 rfl)
    have k275 : wd_at w270 a8 (.inl (cy 2, 8, .inl (upd (upd ff (0 : Int32).toNatClampNeg (unlI hh hd)) (1 : Int32).toNatClampNeg 1))) := wd_at.ps ew271 k263
    have k276 := wd_at.pt ew271 k264 (wd_nk k264 k263 rfl)
    have k277 := wd_at.pt ew271 k265 (wd_nk k265 k263 rfl)
    have fm278 : ∀ k9, k9 < ac → af k9 = some (ad k9) ∧ wd_at w270 (ad k9) (.inr (0, [.int (av0 k9), .int (av1 k9), .int (av2 k9), .int (av3 k9)])) ∧ tg (ad k9) = 4000 + k9 := fun k9 hi9 => ⟨(fm266 k9 hi9).1, wd_at.pt ew271 (fm266 k9 hi9).2.1 (wd_nk (fm266 k9 hi9).2.1 k263 rfl), (fm266 k9 hi9).2.2⟩
    have fm279 : ∀ k9, k9 < sc → zf k9 = some (so k9) ∧ wd_at w270 (so k9) (.inr (6, [.int (sp0 k9), .int (sp1 k9), .ref (sr k9)])) ∧ tg (so k9) = 5000 + k9 ∧ wd_at w270 (sr k9) (.inl (cy 2, 12, .inl (sd k9))) ∧ tg (sr k9) = 6000 + k9 := fun k9 hi9 => ⟨(fm267 k9 hi9).1, wd_at.pt ew271 (fm267 k9 hi9).2.1 (wd_nk (fm267 k9 hi9).2.1 k263 rfl), (fm267 k9 hi9).2.2.1, wd_at.pt ew271 (fm267 k9 hi9).2.2.2.1 (wd_nk (fm267 k9 hi9).2.2.2.1 k263 rfl), (fm267 k9 hi9).2.2.2.2⟩
    have kp280 := kp268.put ew271 s90
    refine lv_aload_n hx hb dX10_gatherFacts_58 rfl (lv_at hl 2 rfl) ?_
    refine x_get (ref := "NoteHouse") F hP k272 rfl (fun _ h => List.mem_cons_of_mem _ (List.mem_append_left _ (List.mem_append_left _ (List.mem_append_right _ (h))))) 8 (Nat.le_of_ble_eq_true rfl) (List.mem_cons_of_mem _ (List.mem_append_left _ (List.mem_append_left _ (List.mem_append_left _ (List.mem_append_left _ (List.mem_append_left _ (List.mem_append_left _ (List.mem_of_getElem? (i := 2) rfl)))))))) rfl rfl dX10_gatherFacts_59 ?_
    refine lv_iconst (v := 2) hx hb dX10_gatherFacts_62 (by decide) ?_
    refine lv_aload_n hx hb dX10_gatherFacts_63 rfl (lv_at hl 2 rfl) ?_
    refine lv_aload_n hx hb dX10_gatherFacts_64 rfl (lv_at hl 3 rfl) ?_
    refine x_callV (n := 1) (As := [.ref z]) (rest := [.int 2, .ref a8]) F hP hD hS (g_isStopped l D cy sk sv w270 x a0 a1 a2 a3 a4 a5 a6 a7 a8 a9 a10 a11 pc ac sc sh td tg zf so sr sp0 sp1 sd z tw pp le am hh dd ru de cp ld k272 k274 k276 fm279 (by omega) (by omega)) gX10_gatherFacts_X10_isStopped rfl rfl (by decide +kernel) ⟨(Nat.le_of_ble_eq_true rfl), (Nat.le_of_ble_eq_true rfl)⟩ rfl hl.1 (Nat.le_of_ble_eq_true rfl) k272 rfl dX10_gatherFacts_65 rfl ⟨(Nat.le_of_ble_eq_true rfl), (Nat.le_of_ble_eq_true rfl)⟩ (fun v282 w283 hp281 H locs hP hD hS => ?_)
    obtain ⟨rx284, rfl, rfl, hz285, rfl⟩ := hp281
    refine W.eq (g2 := F0 m 68 ls [.int (b01 (stB sc sp0 sp1 sd pp le tw dd)), .int 2, .ref a8]) rfl (W.widen (k := 0) (n := 0) (Nat.le_of_ble_eq_true rfl) (Nat.le_of_ble_eq_true rfl) ?_)
    refine lv_if_eq (tgt := 75) hx hb dX10_gatherFacts_68 (by decide) (fun cS => ?_) (fun cS => ?_)
    · refine lv_iconst (v := 0) hx hb dX10_gatherFacts_75 (by decide) ?_
      refine y_iast F hP hD hS k275 (vp_in_iff.mpr ⟨by decide, by decide⟩) dX10_gatherFacts_76 (fun w286 ew287 H locs hP hD hS => ?_)
      have k288 := wd_at.pt ew287 k272 (wd_nk k272 k275 rfl)
      have k289 := wd_at.pt ew287 k273 (wd_nk k273 k275 rfl)
      have k290 := wd_at.pt ew287 k274 (wd_nk k274 k275 rfl)
      have k291 : wd_at w286 a8 (.inl (cy 2, 8, .inl (upd (upd (upd ff (0 : Int32).toNatClampNeg (unlI hh hd)) (1 : Int32).toNatClampNeg 1) (2 : Int32).toNatClampNeg 0))) := wd_at.ps ew287 k275
      have k292 := wd_at.pt ew287 k276 (wd_nk k276 k275 rfl)
      have k293 := wd_at.pt ew287 k277 (wd_nk k277 k275 rfl)
      have fm294 : ∀ k9, k9 < ac → af k9 = some (ad k9) ∧ wd_at w286 (ad k9) (.inr (0, [.int (av0 k9), .int (av1 k9), .int (av2 k9), .int (av3 k9)])) ∧ tg (ad k9) = 4000 + k9 := fun k9 hi9 => ⟨(fm278 k9 hi9).1, wd_at.pt ew287 (fm278 k9 hi9).2.1 (wd_nk (fm278 k9 hi9).2.1 k275 rfl), (fm278 k9 hi9).2.2⟩
      have fm295 : ∀ k9, k9 < sc → zf k9 = some (so k9) ∧ wd_at w286 (so k9) (.inr (6, [.int (sp0 k9), .int (sp1 k9), .ref (sr k9)])) ∧ tg (so k9) = 5000 + k9 ∧ wd_at w286 (sr k9) (.inl (cy 2, 12, .inl (sd k9))) ∧ tg (sr k9) = 6000 + k9 := fun k9 hi9 => ⟨(fm279 k9 hi9).1, wd_at.pt ew287 (fm279 k9 hi9).2.1 (wd_nk (fm279 k9 hi9).2.1 k275 rfl), (fm279 k9 hi9).2.2.1, wd_at.pt ew287 (fm279 k9 hi9).2.2.2.1 (wd_nk (fm279 k9 hi9).2.2.2.1 k275 rfl), (fm279 k9 hi9).2.2.2.2⟩
      have kp296 := kp280.put ew287 s90
      refine lv_aload_n hx hb dX10_gatherFacts_77 rfl (lv_at hl 2 rfl) ?_
      refine x_get (ref := "NoteHouse") F hP k288 rfl (fun _ h => List.mem_cons_of_mem _ (List.mem_append_left _ (List.mem_append_left _ (List.mem_append_right _ (h))))) 8 (Nat.le_of_ble_eq_true rfl) (List.mem_cons_of_mem _ (List.mem_append_left _ (List.mem_append_left _ (List.mem_append_left _ (List.mem_append_left _ (List.mem_append_left _ (List.mem_append_left _ (List.mem_of_getElem? (i := 2) rfl)))))))) rfl rfl dX10_gatherFacts_78 ?_
      refine lv_iconst (v := 3) hx hb dX10_gatherFacts_81 (by decide) ?_
      refine lv_iload hx hb dX10_gatherFacts_82 (lv_at hl 0 rfl) ?_
      refine y_iast F hP hD hS k291 (vp_in_iff.mpr ⟨by decide, by decide⟩) dX10_gatherFacts_84 (fun w297 ew298 H locs hP hD hS => ?_)
      have k299 := wd_at.pt ew298 k288 (wd_nk k288 k291 rfl)
      have k300 := wd_at.pt ew298 k289 (wd_nk k289 k291 rfl)
      have k301 := wd_at.pt ew298 k290 (wd_nk k290 k291 rfl)
      have k302 : wd_at w297 a8 (.inl (cy 2, 8, .inl (upd (upd (upd (upd ff (0 : Int32).toNatClampNeg (unlI hh hd)) (1 : Int32).toNatClampNeg 1) (2 : Int32).toNatClampNeg 0) (3 : Int32).toNatClampNeg (dd - dy)))) := wd_at.ps ew298 k291
      have k303 := wd_at.pt ew298 k292 (wd_nk k292 k291 rfl)
      have k304 := wd_at.pt ew298 k293 (wd_nk k293 k291 rfl)
      have fm305 : ∀ k9, k9 < ac → af k9 = some (ad k9) ∧ wd_at w297 (ad k9) (.inr (0, [.int (av0 k9), .int (av1 k9), .int (av2 k9), .int (av3 k9)])) ∧ tg (ad k9) = 4000 + k9 := fun k9 hi9 => ⟨(fm294 k9 hi9).1, wd_at.pt ew298 (fm294 k9 hi9).2.1 (wd_nk (fm294 k9 hi9).2.1 k291 rfl), (fm294 k9 hi9).2.2⟩
      have fm306 : ∀ k9, k9 < sc → zf k9 = some (so k9) ∧ wd_at w297 (so k9) (.inr (6, [.int (sp0 k9), .int (sp1 k9), .ref (sr k9)])) ∧ tg (so k9) = 5000 + k9 ∧ wd_at w297 (sr k9) (.inl (cy 2, 12, .inl (sd k9))) ∧ tg (sr k9) = 6000 + k9 := fun k9 hi9 => ⟨(fm295 k9 hi9).1, wd_at.pt ew298 (fm295 k9 hi9).2.1 (wd_nk (fm295 k9 hi9).2.1 k291 rfl), (fm295 k9 hi9).2.2.1, wd_at.pt ew298 (fm295 k9 hi9).2.2.2.1 (wd_nk (fm295 k9 hi9).2.2.2.1 k291 rfl), (fm295 k9 hi9).2.2.2.2⟩
      have kp307 := kp296.put ew298 s90
      refine lv_aload_n hx hb dX10_gatherFacts_85 rfl (lv_at hl 2 rfl) ?_
      refine x_get (ref := "NoteHouse") F hP k299 rfl (fun _ h => List.mem_cons_of_mem _ (List.mem_append_left _ (List.mem_append_left _ (List.mem_append_right _ (h))))) 8 (Nat.le_of_ble_eq_true rfl) (List.mem_cons_of_mem _ (List.mem_append_left _ (List.mem_append_left _ (List.mem_append_left _ (List.mem_append_left _ (List.mem_append_left _ (List.mem_append_left _ (List.mem_of_getElem? (i := 2) rfl)))))))) rfl rfl dX10_gatherFacts_86 ?_
      refine lv_iconst (v := 4) hx hb dX10_gatherFacts_89 (by decide) ?_
      refine lv_iload hx hb dX10_gatherFacts_90 (lv_at hl 0 rfl) ?_
      refine lv_aload_n hx hb dX10_gatherFacts_92 rfl (lv_at hl 4 rfl) ?_
      refine x_get (ref := "NoteHouse$Paper") F hP k304 rfl (fun _ h => List.mem_cons_of_mem _ (List.mem_append_left _ (List.mem_append_left _ (List.mem_append_left _ (List.mem_append_right _ (h)))))) 3 (Nat.le_of_ble_eq_true rfl) (List.mem_cons_of_mem _ (List.mem_append_left _ (List.mem_append_left _ (List.mem_append_left _ (List.mem_append_left _ (List.mem_append_left _ (List.mem_append_left _ (List.mem_of_getElem? (i := 5) rfl)))))))) rfl rfl dX10_gatherFacts_93 ?_
      refine lv_icmp_le (tgt := 103) hx hb dX10_gatherFacts_96 (by decide) (fun cG => ?_) (fun cG => ?_)
      · refine lv_iconst (v := 0) hx hb dX10_gatherFacts_103 (by decide) ?_
        refine y_iast F hP hD hS k302 (vp_in_iff.mpr ⟨by decide, by decide⟩) dX10_gatherFacts_104 (fun w308 ew309 H locs hP hD hS => ?_)
        have k310 := wd_at.pt ew309 k299 (wd_nk k299 k302 rfl)
        have k311 := wd_at.pt ew309 k300 (wd_nk k300 k302 rfl)
        have k312 := wd_at.pt ew309 k301 (wd_nk k301 k302 rfl)
        have k313 : wd_at w308 a8 (.inl (cy 2, 8, .inl (upd (upd (upd (upd (upd ff (0 : Int32).toNatClampNeg (unlI hh hd)) (1 : Int32).toNatClampNeg 1) (2 : Int32).toNatClampNeg 0) (3 : Int32).toNatClampNeg (dd - dy)) (4 : Int32).toNatClampNeg 0))) := wd_at.ps ew309 k302
        have k314 := wd_at.pt ew309 k303 (wd_nk k303 k302 rfl)
        have k315 := wd_at.pt ew309 k304 (wd_nk k304 k302 rfl)
        have fm316 : ∀ k9, k9 < ac → af k9 = some (ad k9) ∧ wd_at w308 (ad k9) (.inr (0, [.int (av0 k9), .int (av1 k9), .int (av2 k9), .int (av3 k9)])) ∧ tg (ad k9) = 4000 + k9 := fun k9 hi9 => ⟨(fm305 k9 hi9).1, wd_at.pt ew309 (fm305 k9 hi9).2.1 (wd_nk (fm305 k9 hi9).2.1 k302 rfl), (fm305 k9 hi9).2.2⟩
        have fm317 : ∀ k9, k9 < sc → zf k9 = some (so k9) ∧ wd_at w308 (so k9) (.inr (6, [.int (sp0 k9), .int (sp1 k9), .ref (sr k9)])) ∧ tg (so k9) = 5000 + k9 ∧ wd_at w308 (sr k9) (.inl (cy 2, 12, .inl (sd k9))) ∧ tg (sr k9) = 6000 + k9 := fun k9 hi9 => ⟨(fm306 k9 hi9).1, wd_at.pt ew309 (fm306 k9 hi9).2.1 (wd_nk (fm306 k9 hi9).2.1 k302 rfl), (fm306 k9 hi9).2.2.1, wd_at.pt ew309 (fm306 k9 hi9).2.2.2.1 (wd_nk (fm306 k9 hi9).2.2.2.1 k302 rfl), (fm306 k9 hi9).2.2.2.2⟩
        have kp318 := kp307.put ew309 s90
        refine lv_aload_n hx hb dX10_gatherFacts_105 rfl (lv_at hl 2 rfl) ?_
        refine x_get (ref := "NoteHouse") F hP k310 rfl (fun _ h => List.mem_cons_of_mem _ (List.mem_append_left _ (List.mem_append_left _ (List.mem_append_right _ (h))))) 8 (Nat.le_of_ble_eq_true rfl) (List.mem_cons_of_mem _ (List.mem_append_left _ (List.mem_append_left _ (List.mem_append_left _ (List.mem_append_left _ (List.mem_append_left _ (List.mem_append_left _ (List.mem_of_getElem? (i := 2) rfl)))))))) rfl rfl dX10_gatherFacts_106 ?_
        refine lv_iconst (v := 5) hx hb dX10_gatherFacts_109 (by decide) ?_
        refine lv_aload_n hx hb dX10_gatherFacts_110 rfl (lv_at hl 3 rfl) ?_
        refine x_get (ref := "NoteHouse$Shown") F hP k314 rfl (fun _ h => List.mem_cons_of_mem _ (List.mem_append_left _ (List.mem_append_left _ (List.mem_append_left _ (List.mem_append_left _ (List.mem_append_right _ (h))))))) 3 (Nat.le_of_ble_eq_true rfl) (List.mem_cons_of_mem _ (List.mem_append_left _ (List.mem_append_left _ (List.mem_append_left _ (List.mem_append_left _ (List.mem_append_left _ (List.mem_append_left _ (List.mem_of_getElem? (i := 6) rfl)))))))) rfl rfl dX10_gatherFacts_111 ?_
        refine y_iast F hP hD hS k313 (vp_in_iff.mpr ⟨by decide, by decide⟩) dX10_gatherFacts_114 (fun w319 ew320 H locs hP hD hS => ?_)
        have k321 := wd_at.pt ew320 k310 (wd_nk k310 k313 rfl)
        have k322 := wd_at.pt ew320 k311 (wd_nk k311 k313 rfl)
        have k323 := wd_at.pt ew320 k312 (wd_nk k312 k313 rfl)
        have k324 : wd_at w319 a8 (.inl (cy 2, 8, .inl (upd (upd (upd (upd (upd (upd ff (0 : Int32).toNatClampNeg (unlI hh hd)) (1 : Int32).toNatClampNeg 1) (2 : Int32).toNatClampNeg 0) (3 : Int32).toNatClampNeg (dd - dy)) (4 : Int32).toNatClampNeg 0) (5 : Int32).toNatClampNeg am))) := wd_at.ps ew320 k313
        have k325 := wd_at.pt ew320 k314 (wd_nk k314 k313 rfl)
        have k326 := wd_at.pt ew320 k315 (wd_nk k315 k313 rfl)
        have fm327 : ∀ k9, k9 < ac → af k9 = some (ad k9) ∧ wd_at w319 (ad k9) (.inr (0, [.int (av0 k9), .int (av1 k9), .int (av2 k9), .int (av3 k9)])) ∧ tg (ad k9) = 4000 + k9 := fun k9 hi9 => ⟨(fm316 k9 hi9).1, wd_at.pt ew320 (fm316 k9 hi9).2.1 (wd_nk (fm316 k9 hi9).2.1 k313 rfl), (fm316 k9 hi9).2.2⟩
        have fm328 : ∀ k9, k9 < sc → zf k9 = some (so k9) ∧ wd_at w319 (so k9) (.inr (6, [.int (sp0 k9), .int (sp1 k9), .ref (sr k9)])) ∧ tg (so k9) = 5000 + k9 ∧ wd_at w319 (sr k9) (.inl (cy 2, 12, .inl (sd k9))) ∧ tg (sr k9) = 6000 + k9 := fun k9 hi9 => ⟨(fm317 k9 hi9).1, wd_at.pt ew320 (fm317 k9 hi9).2.1 (wd_nk (fm317 k9 hi9).2.1 k313 rfl), (fm317 k9 hi9).2.2.1, wd_at.pt ew320 (fm317 k9 hi9).2.2.2.1 (wd_nk (fm317 k9 hi9).2.2.2.1 k313 rfl), (fm317 k9 hi9).2.2.2.2⟩
        have kp329 := kp318.put ew320 s90
        refine lv_aload_n hx hb dX10_gatherFacts_115 rfl (lv_at hl 2 rfl) ?_
        refine x_get (ref := "NoteHouse") F hP k321 rfl (fun _ h => List.mem_cons_of_mem _ (List.mem_append_left _ (List.mem_append_left _ (List.mem_append_right _ (h))))) 8 (Nat.le_of_ble_eq_true rfl) (List.mem_cons_of_mem _ (List.mem_append_left _ (List.mem_append_left _ (List.mem_append_left _ (List.mem_append_left _ (List.mem_append_left _ (List.mem_append_left _ (List.mem_of_getElem? (i := 2) rfl)))))))) rfl rfl dX10_gatherFacts_116 ?_
        refine lv_bipush (v := 6) hx hb dX10_gatherFacts_119 (by decide) ?_
        refine lv_aload_n hx hb dX10_gatherFacts_121 rfl (lv_at hl 4 rfl) ?_
        refine x_get (ref := "NoteHouse$Paper") F hP k326 rfl (fun _ h => List.mem_cons_of_mem _ (List.mem_append_left _ (List.mem_append_left _ (List.mem_append_left _ (List.mem_append_right _ (h)))))) 1 (Nat.le_of_ble_eq_true rfl) (List.mem_cons_of_mem _ (List.mem_append_left _ (List.mem_append_left _ (List.mem_append_left _ (List.mem_append_left _ (List.mem_append_left _ (List.mem_append_left _ (List.mem_of_getElem? (i := 7) rfl)))))))) rfl rfl dX10_gatherFacts_122 ?_
        refine lv_aload_n hx hb dX10_gatherFacts_125 rfl (lv_at hl 4 rfl) ?_
        refine x_get (ref := "NoteHouse$Paper") F hP k326 rfl (fun _ h => List.mem_cons_of_mem _ (List.mem_append_left _ (List.mem_append_left _ (List.mem_append_left _ (List.mem_append_right _ (h)))))) 5 (Nat.le_of_ble_eq_true rfl) (List.mem_cons_of_mem _ (List.mem_append_left _ (List.mem_append_left _ (List.mem_append_left _ (List.mem_append_left _ (List.mem_append_left _ (List.mem_append_left _ (List.mem_of_getElem? (i := 8) rfl)))))))) rfl rfl dX10_gatherFacts_126 ?_
        refine lv_isub hx hb dX10_gatherFacts_129 ?_
        refine y_iast F hP hD hS k324 (vp_in_iff.mpr ⟨by decide, by decide⟩) dX10_gatherFacts_130 (fun w330 ew331 H locs hP hD hS => ?_)
        have k332 := wd_at.pt ew331 k321 (wd_nk k321 k324 rfl)
        have k333 := wd_at.pt ew331 k322 (wd_nk k322 k324 rfl)
        have k334 := wd_at.pt ew331 k323 (wd_nk k323 k324 rfl)
        have k335 : wd_at w330 a8 (.inl (cy 2, 8, .inl (upd (upd (upd (upd (upd (upd (upd ff (0 : Int32).toNatClampNeg (unlI hh hd)) (1 : Int32).toNatClampNeg 1) (2 : Int32).toNatClampNeg 0) (3 : Int32).toNatClampNeg (dd - dy)) (4 : Int32).toNatClampNeg 0) (5 : Int32).toNatClampNeg am) (6 : Int32).toNatClampNeg (wo - no)))) := wd_at.ps ew331 k324
        have k336 := wd_at.pt ew331 k325 (wd_nk k325 k324 rfl)
        have k337 := wd_at.pt ew331 k326 (wd_nk k326 k324 rfl)
        have fm338 : ∀ k9, k9 < ac → af k9 = some (ad k9) ∧ wd_at w330 (ad k9) (.inr (0, [.int (av0 k9), .int (av1 k9), .int (av2 k9), .int (av3 k9)])) ∧ tg (ad k9) = 4000 + k9 := fun k9 hi9 => ⟨(fm327 k9 hi9).1, wd_at.pt ew331 (fm327 k9 hi9).2.1 (wd_nk (fm327 k9 hi9).2.1 k324 rfl), (fm327 k9 hi9).2.2⟩
        have fm339 : ∀ k9, k9 < sc → zf k9 = some (so k9) ∧ wd_at w330 (so k9) (.inr (6, [.int (sp0 k9), .int (sp1 k9), .ref (sr k9)])) ∧ tg (so k9) = 5000 + k9 ∧ wd_at w330 (sr k9) (.inl (cy 2, 12, .inl (sd k9))) ∧ tg (sr k9) = 6000 + k9 := fun k9 hi9 => ⟨(fm328 k9 hi9).1, wd_at.pt ew331 (fm328 k9 hi9).2.1 (wd_nk (fm328 k9 hi9).2.1 k324 rfl), (fm328 k9 hi9).2.2.1, wd_at.pt ew331 (fm328 k9 hi9).2.2.2.1 (wd_nk (fm328 k9 hi9).2.2.2.1 k324 rfl), (fm328 k9 hi9).2.2.2.2⟩
        have kp340 := kp329.put ew331 s90
        refine lv_aload_n hx hb dX10_gatherFacts_131 rfl (lv_at hl 2 rfl) ?_
        refine x_get (ref := "NoteHouse") F hP k332 rfl (fun _ h => List.mem_cons_of_mem _ (List.mem_append_left _ (List.mem_append_left _ (List.mem_append_right _ (h))))) 8 (Nat.le_of_ble_eq_true rfl) (List.mem_cons_of_mem _ (List.mem_append_left _ (List.mem_append_left _ (List.mem_append_left _ (List.mem_append_left _ (List.mem_append_left _ (List.mem_append_left _ (List.mem_of_getElem? (i := 2) rfl)))))))) rfl rfl dX10_gatherFacts_132 ?_
        refine lv_bipush (v := 7) hx hb dX10_gatherFacts_135 (by decide) ?_
        refine lv_aload_n hx hb dX10_gatherFacts_137 rfl (lv_at hl 3 rfl) ?_
        refine x_get (ref := "NoteHouse$Shown") F hP k336 rfl (fun _ h => List.mem_cons_of_mem _ (List.mem_append_left _ (List.mem_append_left _ (List.mem_append_left _ (List.mem_append_left _ (List.mem_append_right _ (h))))))) 5 (Nat.le_of_ble_eq_true rfl) (List.mem_cons_of_mem _ (List.mem_append_left _ (List.mem_append_left _ (List.mem_append_left _ (List.mem_append_left _ (List.mem_append_left _ (List.mem_append_left _ (List.mem_of_getElem? (i := 0) rfl)))))))) rfl rfl dX10_gatherFacts_138 ?_
        refine y_iast F hP hD hS k335 (vp_in_iff.mpr ⟨by decide, by decide⟩) dX10_gatherFacts_141 (fun w341 ew342 H locs hP hD hS => ?_)
        have k343 := wd_at.pt ew342 k332 (wd_nk k332 k335 rfl)
        have k344 := wd_at.pt ew342 k333 (wd_nk k333 k335 rfl)
        have k345 := wd_at.pt ew342 k334 (wd_nk k334 k335 rfl)
        have k346 : wd_at w341 a8 (.inl (cy 2, 8, .inl (upd (upd (upd (upd (upd (upd (upd (upd ff (0 : Int32).toNatClampNeg (unlI hh hd)) (1 : Int32).toNatClampNeg 1) (2 : Int32).toNatClampNeg 0) (3 : Int32).toNatClampNeg (dd - dy)) (4 : Int32).toNatClampNeg 0) (5 : Int32).toNatClampNeg am) (6 : Int32).toNatClampNeg (wo - no)) (7 : Int32).toNatClampNeg dd))) := wd_at.ps ew342 k335
        have k347 := wd_at.pt ew342 k336 (wd_nk k336 k335 rfl)
        have k348 := wd_at.pt ew342 k337 (wd_nk k337 k335 rfl)
        have fm349 : ∀ k9, k9 < ac → af k9 = some (ad k9) ∧ wd_at w341 (ad k9) (.inr (0, [.int (av0 k9), .int (av1 k9), .int (av2 k9), .int (av3 k9)])) ∧ tg (ad k9) = 4000 + k9 := fun k9 hi9 => ⟨(fm338 k9 hi9).1, wd_at.pt ew342 (fm338 k9 hi9).2.1 (wd_nk (fm338 k9 hi9).2.1 k335 rfl), (fm338 k9 hi9).2.2⟩
        have fm350 : ∀ k9, k9 < sc → zf k9 = some (so k9) ∧ wd_at w341 (so k9) (.inr (6, [.int (sp0 k9), .int (sp1 k9), .ref (sr k9)])) ∧ tg (so k9) = 5000 + k9 ∧ wd_at w341 (sr k9) (.inl (cy 2, 12, .inl (sd k9))) ∧ tg (sr k9) = 6000 + k9 := fun k9 hi9 => ⟨(fm339 k9 hi9).1, wd_at.pt ew342 (fm339 k9 hi9).2.1 (wd_nk (fm339 k9 hi9).2.1 k335 rfl), (fm339 k9 hi9).2.2.1, wd_at.pt ew342 (fm339 k9 hi9).2.2.2.1 (wd_nk (fm339 k9 hi9).2.2.2.1 k335 rfl), (fm339 k9 hi9).2.2.2.2⟩
        have kp351 := kp340.put ew342 s90
        exact y_vr K hP hD hS (Nat.le_of_ble_eq_true rfl) (Nat.le_of_ble_eq_true rfl) rfl dX10_gatherFacts_142 (⟨upd (upd (upd (upd (upd (upd (upd (upd ff (0 : Int32).toNatClampNeg (unlI hh hd)) (1 : Int32).toNatClampNeg 1) (2 : Int32).toNatClampNeg 0) (3 : Int32).toNatClampNeg (dd - dy)) (4 : Int32).toNatClampNeg 0) (5 : Int32).toNatClampNeg am) (6 : Int32).toNatClampNeg (wo - no)) (7 : Int32).toNatClampNeg dd, rfl, fc8 (by rw [b01_n cA]; rfl) (by rw [b01_n cA]; rfl) (by rw [b01_0.mp cS]; rfl) (by rw [if_neg (Int32.not_lt.mpr cG)]), kp351, k346⟩)
      · refine lv_iconst (v := 1) hx hb dX10_gatherFacts_99 (by decide) ?_
        refine lv_goto (tgt := 104) hx hb dX10_gatherFacts_100 (by decide) ?_
        refine y_iast F hP hD hS k302 (vp_in_iff.mpr ⟨by decide, by decide⟩) dX10_gatherFacts_104 (fun w352 ew353 H locs hP hD hS => ?_)
        have k354 := wd_at.pt ew353 k299 (wd_nk k299 k302 rfl)
        have k355 := wd_at.pt ew353 k300 (wd_nk k300 k302 rfl)
        have k356 := wd_at.pt ew353 k301 (wd_nk k301 k302 rfl)
        have k357 : wd_at w352 a8 (.inl (cy 2, 8, .inl (upd (upd (upd (upd (upd ff (0 : Int32).toNatClampNeg (unlI hh hd)) (1 : Int32).toNatClampNeg 1) (2 : Int32).toNatClampNeg 0) (3 : Int32).toNatClampNeg (dd - dy)) (4 : Int32).toNatClampNeg 1))) := wd_at.ps ew353 k302
        have k358 := wd_at.pt ew353 k303 (wd_nk k303 k302 rfl)
        have k359 := wd_at.pt ew353 k304 (wd_nk k304 k302 rfl)
        have fm360 : ∀ k9, k9 < ac → af k9 = some (ad k9) ∧ wd_at w352 (ad k9) (.inr (0, [.int (av0 k9), .int (av1 k9), .int (av2 k9), .int (av3 k9)])) ∧ tg (ad k9) = 4000 + k9 := fun k9 hi9 => ⟨(fm305 k9 hi9).1, wd_at.pt ew353 (fm305 k9 hi9).2.1 (wd_nk (fm305 k9 hi9).2.1 k302 rfl), (fm305 k9 hi9).2.2⟩
        have fm361 : ∀ k9, k9 < sc → zf k9 = some (so k9) ∧ wd_at w352 (so k9) (.inr (6, [.int (sp0 k9), .int (sp1 k9), .ref (sr k9)])) ∧ tg (so k9) = 5000 + k9 ∧ wd_at w352 (sr k9) (.inl (cy 2, 12, .inl (sd k9))) ∧ tg (sr k9) = 6000 + k9 := fun k9 hi9 => ⟨(fm306 k9 hi9).1, wd_at.pt ew353 (fm306 k9 hi9).2.1 (wd_nk (fm306 k9 hi9).2.1 k302 rfl), (fm306 k9 hi9).2.2.1, wd_at.pt ew353 (fm306 k9 hi9).2.2.2.1 (wd_nk (fm306 k9 hi9).2.2.2.1 k302 rfl), (fm306 k9 hi9).2.2.2.2⟩
        have kp362 := kp307.put ew353 s90
        refine lv_aload_n hx hb dX10_gatherFacts_105 rfl (lv_at hl 2 rfl) ?_
        refine x_get (ref := "NoteHouse") F hP k354 rfl (fun _ h => List.mem_cons_of_mem _ (List.mem_append_left _ (List.mem_append_left _ (List.mem_append_right _ (h))))) 8 (Nat.le_of_ble_eq_true rfl) (List.mem_cons_of_mem _ (List.mem_append_left _ (List.mem_append_left _ (List.mem_append_left _ (List.mem_append_left _ (List.mem_append_left _ (List.mem_append_left _ (List.mem_of_getElem? (i := 2) rfl)))))))) rfl rfl dX10_gatherFacts_106 ?_
        refine lv_iconst (v := 5) hx hb dX10_gatherFacts_109 (by decide) ?_
        refine lv_aload_n hx hb dX10_gatherFacts_110 rfl (lv_at hl 3 rfl) ?_
        refine x_get (ref := "NoteHouse$Shown") F hP k358 rfl (fun _ h => List.mem_cons_of_mem _ (List.mem_append_left _ (List.mem_append_left _ (List.mem_append_left _ (List.mem_append_left _ (List.mem_append_right _ (h))))))) 3 (Nat.le_of_ble_eq_true rfl) (List.mem_cons_of_mem _ (List.mem_append_left _ (List.mem_append_left _ (List.mem_append_left _ (List.mem_append_left _ (List.mem_append_left _ (List.mem_append_left _ (List.mem_of_getElem? (i := 6) rfl)))))))) rfl rfl dX10_gatherFacts_111 ?_
        refine y_iast F hP hD hS k357 (vp_in_iff.mpr ⟨by decide, by decide⟩) dX10_gatherFacts_114 (fun w363 ew364 H locs hP hD hS => ?_)
        have k365 := wd_at.pt ew364 k354 (wd_nk k354 k357 rfl)
        have k366 := wd_at.pt ew364 k355 (wd_nk k355 k357 rfl)
        have k367 := wd_at.pt ew364 k356 (wd_nk k356 k357 rfl)
        have k368 : wd_at w363 a8 (.inl (cy 2, 8, .inl (upd (upd (upd (upd (upd (upd ff (0 : Int32).toNatClampNeg (unlI hh hd)) (1 : Int32).toNatClampNeg 1) (2 : Int32).toNatClampNeg 0) (3 : Int32).toNatClampNeg (dd - dy)) (4 : Int32).toNatClampNeg 1) (5 : Int32).toNatClampNeg am))) := wd_at.ps ew364 k357
        have k369 := wd_at.pt ew364 k358 (wd_nk k358 k357 rfl)
        have k370 := wd_at.pt ew364 k359 (wd_nk k359 k357 rfl)
        have fm371 : ∀ k9, k9 < ac → af k9 = some (ad k9) ∧ wd_at w363 (ad k9) (.inr (0, [.int (av0 k9), .int (av1 k9), .int (av2 k9), .int (av3 k9)])) ∧ tg (ad k9) = 4000 + k9 := fun k9 hi9 => ⟨(fm360 k9 hi9).1, wd_at.pt ew364 (fm360 k9 hi9).2.1 (wd_nk (fm360 k9 hi9).2.1 k357 rfl), (fm360 k9 hi9).2.2⟩
        have fm372 : ∀ k9, k9 < sc → zf k9 = some (so k9) ∧ wd_at w363 (so k9) (.inr (6, [.int (sp0 k9), .int (sp1 k9), .ref (sr k9)])) ∧ tg (so k9) = 5000 + k9 ∧ wd_at w363 (sr k9) (.inl (cy 2, 12, .inl (sd k9))) ∧ tg (sr k9) = 6000 + k9 := fun k9 hi9 => ⟨(fm361 k9 hi9).1, wd_at.pt ew364 (fm361 k9 hi9).2.1 (wd_nk (fm361 k9 hi9).2.1 k357 rfl), (fm361 k9 hi9).2.2.1, wd_at.pt ew364 (fm361 k9 hi9).2.2.2.1 (wd_nk (fm361 k9 hi9).2.2.2.1 k357 rfl), (fm361 k9 hi9).2.2.2.2⟩
        have kp373 := kp362.put ew364 s90
        refine lv_aload_n hx hb dX10_gatherFacts_115 rfl (lv_at hl 2 rfl) ?_
        refine x_get (ref := "NoteHouse") F hP k365 rfl (fun _ h => List.mem_cons_of_mem _ (List.mem_append_left _ (List.mem_append_left _ (List.mem_append_right _ (h))))) 8 (Nat.le_of_ble_eq_true rfl) (List.mem_cons_of_mem _ (List.mem_append_left _ (List.mem_append_left _ (List.mem_append_left _ (List.mem_append_left _ (List.mem_append_left _ (List.mem_append_left _ (List.mem_of_getElem? (i := 2) rfl)))))))) rfl rfl dX10_gatherFacts_116 ?_
        refine lv_bipush (v := 6) hx hb dX10_gatherFacts_119 (by decide) ?_
        refine lv_aload_n hx hb dX10_gatherFacts_121 rfl (lv_at hl 4 rfl) ?_
        refine x_get (ref := "NoteHouse$Paper") F hP k370 rfl (fun _ h => List.mem_cons_of_mem _ (List.mem_append_left _ (List.mem_append_left _ (List.mem_append_left _ (List.mem_append_right _ (h)))))) 1 (Nat.le_of_ble_eq_true rfl) (List.mem_cons_of_mem _ (List.mem_append_left _ (List.mem_append_left _ (List.mem_append_left _ (List.mem_append_left _ (List.mem_append_left _ (List.mem_append_left _ (List.mem_of_getElem? (i := 7) rfl)))))))) rfl rfl dX10_gatherFacts_122 ?_
        refine lv_aload_n hx hb dX10_gatherFacts_125 rfl (lv_at hl 4 rfl) ?_
        refine x_get (ref := "NoteHouse$Paper") F hP k370 rfl (fun _ h => List.mem_cons_of_mem _ (List.mem_append_left _ (List.mem_append_left _ (List.mem_append_left _ (List.mem_append_right _ (h)))))) 5 (Nat.le_of_ble_eq_true rfl) (List.mem_cons_of_mem _ (List.mem_append_left _ (List.mem_append_left _ (List.mem_append_left _ (List.mem_append_left _ (List.mem_append_left _ (List.mem_append_left _ (List.mem_of_getElem? (i := 8) rfl)))))))) rfl rfl dX10_gatherFacts_126 ?_
        refine lv_isub hx hb dX10_gatherFacts_129 ?_
        refine y_iast F hP hD hS k368 (vp_in_iff.mpr ⟨by decide, by decide⟩) dX10_gatherFacts_130 (fun w374 ew375 H locs hP hD hS => ?_)
        have k376 := wd_at.pt ew375 k365 (wd_nk k365 k368 rfl)
        have k377 := wd_at.pt ew375 k366 (wd_nk k366 k368 rfl)
        have k378 := wd_at.pt ew375 k367 (wd_nk k367 k368 rfl)
        have k379 : wd_at w374 a8 (.inl (cy 2, 8, .inl (upd (upd (upd (upd (upd (upd (upd ff (0 : Int32).toNatClampNeg (unlI hh hd)) (1 : Int32).toNatClampNeg 1) (2 : Int32).toNatClampNeg 0) (3 : Int32).toNatClampNeg (dd - dy)) (4 : Int32).toNatClampNeg 1) (5 : Int32).toNatClampNeg am) (6 : Int32).toNatClampNeg (wo - no)))) := wd_at.ps ew375 k368
        have k380 := wd_at.pt ew375 k369 (wd_nk k369 k368 rfl)
        have k381 := wd_at.pt ew375 k370 (wd_nk k370 k368 rfl)
        have fm382 : ∀ k9, k9 < ac → af k9 = some (ad k9) ∧ wd_at w374 (ad k9) (.inr (0, [.int (av0 k9), .int (av1 k9), .int (av2 k9), .int (av3 k9)])) ∧ tg (ad k9) = 4000 + k9 := fun k9 hi9 => ⟨(fm371 k9 hi9).1, wd_at.pt ew375 (fm371 k9 hi9).2.1 (wd_nk (fm371 k9 hi9).2.1 k368 rfl), (fm371 k9 hi9).2.2⟩
        have fm383 : ∀ k9, k9 < sc → zf k9 = some (so k9) ∧ wd_at w374 (so k9) (.inr (6, [.int (sp0 k9), .int (sp1 k9), .ref (sr k9)])) ∧ tg (so k9) = 5000 + k9 ∧ wd_at w374 (sr k9) (.inl (cy 2, 12, .inl (sd k9))) ∧ tg (sr k9) = 6000 + k9 := fun k9 hi9 => ⟨(fm372 k9 hi9).1, wd_at.pt ew375 (fm372 k9 hi9).2.1 (wd_nk (fm372 k9 hi9).2.1 k368 rfl), (fm372 k9 hi9).2.2.1, wd_at.pt ew375 (fm372 k9 hi9).2.2.2.1 (wd_nk (fm372 k9 hi9).2.2.2.1 k368 rfl), (fm372 k9 hi9).2.2.2.2⟩
        have kp384 := kp373.put ew375 s90
        refine lv_aload_n hx hb dX10_gatherFacts_131 rfl (lv_at hl 2 rfl) ?_
        refine x_get (ref := "NoteHouse") F hP k376 rfl (fun _ h => List.mem_cons_of_mem _ (List.mem_append_left _ (List.mem_append_left _ (List.mem_append_right _ (h))))) 8 (Nat.le_of_ble_eq_true rfl) (List.mem_cons_of_mem _ (List.mem_append_left _ (List.mem_append_left _ (List.mem_append_left _ (List.mem_append_left _ (List.mem_append_left _ (List.mem_append_left _ (List.mem_of_getElem? (i := 2) rfl)))))))) rfl rfl dX10_gatherFacts_132 ?_
        refine lv_bipush (v := 7) hx hb dX10_gatherFacts_135 (by decide) ?_
        refine lv_aload_n hx hb dX10_gatherFacts_137 rfl (lv_at hl 3 rfl) ?_
        refine x_get (ref := "NoteHouse$Shown") F hP k380 rfl (fun _ h => List.mem_cons_of_mem _ (List.mem_append_left _ (List.mem_append_left _ (List.mem_append_left _ (List.mem_append_left _ (List.mem_append_right _ (h))))))) 5 (Nat.le_of_ble_eq_true rfl) (List.mem_cons_of_mem _ (List.mem_append_left _ (List.mem_append_left _ (List.mem_append_left _ (List.mem_append_left _ (List.mem_append_left _ (List.mem_append_left _ (List.mem_of_getElem? (i := 0) rfl)))))))) rfl rfl dX10_gatherFacts_138 ?_
        refine y_iast F hP hD hS k379 (vp_in_iff.mpr ⟨by decide, by decide⟩) dX10_gatherFacts_141 (fun w385 ew386 H locs hP hD hS => ?_)
        have k387 := wd_at.pt ew386 k376 (wd_nk k376 k379 rfl)
        have k388 := wd_at.pt ew386 k377 (wd_nk k377 k379 rfl)
        have k389 := wd_at.pt ew386 k378 (wd_nk k378 k379 rfl)
        have k390 : wd_at w385 a8 (.inl (cy 2, 8, .inl (upd (upd (upd (upd (upd (upd (upd (upd ff (0 : Int32).toNatClampNeg (unlI hh hd)) (1 : Int32).toNatClampNeg 1) (2 : Int32).toNatClampNeg 0) (3 : Int32).toNatClampNeg (dd - dy)) (4 : Int32).toNatClampNeg 1) (5 : Int32).toNatClampNeg am) (6 : Int32).toNatClampNeg (wo - no)) (7 : Int32).toNatClampNeg dd))) := wd_at.ps ew386 k379
        have k391 := wd_at.pt ew386 k380 (wd_nk k380 k379 rfl)
        have k392 := wd_at.pt ew386 k381 (wd_nk k381 k379 rfl)
        have fm393 : ∀ k9, k9 < ac → af k9 = some (ad k9) ∧ wd_at w385 (ad k9) (.inr (0, [.int (av0 k9), .int (av1 k9), .int (av2 k9), .int (av3 k9)])) ∧ tg (ad k9) = 4000 + k9 := fun k9 hi9 => ⟨(fm382 k9 hi9).1, wd_at.pt ew386 (fm382 k9 hi9).2.1 (wd_nk (fm382 k9 hi9).2.1 k379 rfl), (fm382 k9 hi9).2.2⟩
        have fm394 : ∀ k9, k9 < sc → zf k9 = some (so k9) ∧ wd_at w385 (so k9) (.inr (6, [.int (sp0 k9), .int (sp1 k9), .ref (sr k9)])) ∧ tg (so k9) = 5000 + k9 ∧ wd_at w385 (sr k9) (.inl (cy 2, 12, .inl (sd k9))) ∧ tg (sr k9) = 6000 + k9 := fun k9 hi9 => ⟨(fm383 k9 hi9).1, wd_at.pt ew386 (fm383 k9 hi9).2.1 (wd_nk (fm383 k9 hi9).2.1 k379 rfl), (fm383 k9 hi9).2.2.1, wd_at.pt ew386 (fm383 k9 hi9).2.2.2.1 (wd_nk (fm383 k9 hi9).2.2.2.1 k379 rfl), (fm383 k9 hi9).2.2.2.2⟩
        have kp395 := kp384.put ew386 s90
        exact y_vr K hP hD hS (Nat.le_of_ble_eq_true rfl) (Nat.le_of_ble_eq_true rfl) rfl dX10_gatherFacts_142 (⟨upd (upd (upd (upd (upd (upd (upd (upd ff (0 : Int32).toNatClampNeg (unlI hh hd)) (1 : Int32).toNatClampNeg 1) (2 : Int32).toNatClampNeg 0) (3 : Int32).toNatClampNeg (dd - dy)) (4 : Int32).toNatClampNeg 1) (5 : Int32).toNatClampNeg am) (6 : Int32).toNatClampNeg (wo - no)) (7 : Int32).toNatClampNeg dd, rfl, fc8 (by rw [b01_n cA]; rfl) (by rw [b01_n cA]; rfl) (by rw [b01_0.mp cS]; rfl) (by rw [if_pos (Int32.not_le.mp cG)]), kp395, k390⟩)
    · refine lv_iconst (v := 1) hx hb dX10_gatherFacts_71 (by decide) ?_
      refine lv_goto (tgt := 76) hx hb dX10_gatherFacts_72 (by decide) ?_
      refine y_iast F hP hD hS k275 (vp_in_iff.mpr ⟨by decide, by decide⟩) dX10_gatherFacts_76 (fun w396 ew397 H locs hP hD hS => ?_)
      have k398 := wd_at.pt ew397 k272 (wd_nk k272 k275 rfl)
      have k399 := wd_at.pt ew397 k273 (wd_nk k273 k275 rfl)
      have k400 := wd_at.pt ew397 k274 (wd_nk k274 k275 rfl)
      have k401 : wd_at w396 a8 (.inl (cy 2, 8, .inl (upd (upd (upd ff (0 : Int32).toNatClampNeg (unlI hh hd)) (1 : Int32).toNatClampNeg 1) (2 : Int32).toNatClampNeg 1))) := wd_at.ps ew397 k275
      have k402 := wd_at.pt ew397 k276 (wd_nk k276 k275 rfl)
      have k403 := wd_at.pt ew397 k277 (wd_nk k277 k275 rfl)
      have fm404 : ∀ k9, k9 < ac → af k9 = some (ad k9) ∧ wd_at w396 (ad k9) (.inr (0, [.int (av0 k9), .int (av1 k9), .int (av2 k9), .int (av3 k9)])) ∧ tg (ad k9) = 4000 + k9 := fun k9 hi9 => ⟨(fm278 k9 hi9).1, wd_at.pt ew397 (fm278 k9 hi9).2.1 (wd_nk (fm278 k9 hi9).2.1 k275 rfl), (fm278 k9 hi9).2.2⟩
      have fm405 : ∀ k9, k9 < sc → zf k9 = some (so k9) ∧ wd_at w396 (so k9) (.inr (6, [.int (sp0 k9), .int (sp1 k9), .ref (sr k9)])) ∧ tg (so k9) = 5000 + k9 ∧ wd_at w396 (sr k9) (.inl (cy 2, 12, .inl (sd k9))) ∧ tg (sr k9) = 6000 + k9 := fun k9 hi9 => ⟨(fm279 k9 hi9).1, wd_at.pt ew397 (fm279 k9 hi9).2.1 (wd_nk (fm279 k9 hi9).2.1 k275 rfl), (fm279 k9 hi9).2.2.1, wd_at.pt ew397 (fm279 k9 hi9).2.2.2.1 (wd_nk (fm279 k9 hi9).2.2.2.1 k275 rfl), (fm279 k9 hi9).2.2.2.2⟩
      have kp406 := kp280.put ew397 s90
      refine lv_aload_n hx hb dX10_gatherFacts_77 rfl (lv_at hl 2 rfl) ?_
      refine x_get (ref := "NoteHouse") F hP k398 rfl (fun _ h => List.mem_cons_of_mem _ (List.mem_append_left _ (List.mem_append_left _ (List.mem_append_right _ (h))))) 8 (Nat.le_of_ble_eq_true rfl) (List.mem_cons_of_mem _ (List.mem_append_left _ (List.mem_append_left _ (List.mem_append_left _ (List.mem_append_left _ (List.mem_append_left _ (List.mem_append_left _ (List.mem_of_getElem? (i := 2) rfl)))))))) rfl rfl dX10_gatherFacts_78 ?_
      refine lv_iconst (v := 3) hx hb dX10_gatherFacts_81 (by decide) ?_
      refine lv_iload hx hb dX10_gatherFacts_82 (lv_at hl 0 rfl) ?_
      refine y_iast F hP hD hS k401 (vp_in_iff.mpr ⟨by decide, by decide⟩) dX10_gatherFacts_84 (fun w407 ew408 H locs hP hD hS => ?_)
      have k409 := wd_at.pt ew408 k398 (wd_nk k398 k401 rfl)
      have k410 := wd_at.pt ew408 k399 (wd_nk k399 k401 rfl)
      have k411 := wd_at.pt ew408 k400 (wd_nk k400 k401 rfl)
      have k412 : wd_at w407 a8 (.inl (cy 2, 8, .inl (upd (upd (upd (upd ff (0 : Int32).toNatClampNeg (unlI hh hd)) (1 : Int32).toNatClampNeg 1) (2 : Int32).toNatClampNeg 1) (3 : Int32).toNatClampNeg (dd - dy)))) := wd_at.ps ew408 k401
      have k413 := wd_at.pt ew408 k402 (wd_nk k402 k401 rfl)
      have k414 := wd_at.pt ew408 k403 (wd_nk k403 k401 rfl)
      have fm415 : ∀ k9, k9 < ac → af k9 = some (ad k9) ∧ wd_at w407 (ad k9) (.inr (0, [.int (av0 k9), .int (av1 k9), .int (av2 k9), .int (av3 k9)])) ∧ tg (ad k9) = 4000 + k9 := fun k9 hi9 => ⟨(fm404 k9 hi9).1, wd_at.pt ew408 (fm404 k9 hi9).2.1 (wd_nk (fm404 k9 hi9).2.1 k401 rfl), (fm404 k9 hi9).2.2⟩
      have fm416 : ∀ k9, k9 < sc → zf k9 = some (so k9) ∧ wd_at w407 (so k9) (.inr (6, [.int (sp0 k9), .int (sp1 k9), .ref (sr k9)])) ∧ tg (so k9) = 5000 + k9 ∧ wd_at w407 (sr k9) (.inl (cy 2, 12, .inl (sd k9))) ∧ tg (sr k9) = 6000 + k9 := fun k9 hi9 => ⟨(fm405 k9 hi9).1, wd_at.pt ew408 (fm405 k9 hi9).2.1 (wd_nk (fm405 k9 hi9).2.1 k401 rfl), (fm405 k9 hi9).2.2.1, wd_at.pt ew408 (fm405 k9 hi9).2.2.2.1 (wd_nk (fm405 k9 hi9).2.2.2.1 k401 rfl), (fm405 k9 hi9).2.2.2.2⟩
      have kp417 := kp406.put ew408 s90
      refine lv_aload_n hx hb dX10_gatherFacts_85 rfl (lv_at hl 2 rfl) ?_
      refine x_get (ref := "NoteHouse") F hP k409 rfl (fun _ h => List.mem_cons_of_mem _ (List.mem_append_left _ (List.mem_append_left _ (List.mem_append_right _ (h))))) 8 (Nat.le_of_ble_eq_true rfl) (List.mem_cons_of_mem _ (List.mem_append_left _ (List.mem_append_left _ (List.mem_append_left _ (List.mem_append_left _ (List.mem_append_left _ (List.mem_append_left _ (List.mem_of_getElem? (i := 2) rfl)))))))) rfl rfl dX10_gatherFacts_86 ?_
      refine lv_iconst (v := 4) hx hb dX10_gatherFacts_89 (by decide) ?_
      refine lv_iload hx hb dX10_gatherFacts_90 (lv_at hl 0 rfl) ?_
      refine lv_aload_n hx hb dX10_gatherFacts_92 rfl (lv_at hl 4 rfl) ?_
      refine x_get (ref := "NoteHouse$Paper") F hP k414 rfl (fun _ h => List.mem_cons_of_mem _ (List.mem_append_left _ (List.mem_append_left _ (List.mem_append_left _ (List.mem_append_right _ (h)))))) 3 (Nat.le_of_ble_eq_true rfl) (List.mem_cons_of_mem _ (List.mem_append_left _ (List.mem_append_left _ (List.mem_append_left _ (List.mem_append_left _ (List.mem_append_left _ (List.mem_append_left _ (List.mem_of_getElem? (i := 5) rfl)))))))) rfl rfl dX10_gatherFacts_93 ?_
      refine lv_icmp_le (tgt := 103) hx hb dX10_gatherFacts_96 (by decide) (fun cG => ?_) (fun cG => ?_)
      · refine lv_iconst (v := 0) hx hb dX10_gatherFacts_103 (by decide) ?_
        refine y_iast F hP hD hS k412 (vp_in_iff.mpr ⟨by decide, by decide⟩) dX10_gatherFacts_104 (fun w418 ew419 H locs hP hD hS => ?_)
        have k420 := wd_at.pt ew419 k409 (wd_nk k409 k412 rfl)
        have k421 := wd_at.pt ew419 k410 (wd_nk k410 k412 rfl)
        have k422 := wd_at.pt ew419 k411 (wd_nk k411 k412 rfl)
        have k423 : wd_at w418 a8 (.inl (cy 2, 8, .inl (upd (upd (upd (upd (upd ff (0 : Int32).toNatClampNeg (unlI hh hd)) (1 : Int32).toNatClampNeg 1) (2 : Int32).toNatClampNeg 1) (3 : Int32).toNatClampNeg (dd - dy)) (4 : Int32).toNatClampNeg 0))) := wd_at.ps ew419 k412
        have k424 := wd_at.pt ew419 k413 (wd_nk k413 k412 rfl)
        have k425 := wd_at.pt ew419 k414 (wd_nk k414 k412 rfl)
        have fm426 : ∀ k9, k9 < ac → af k9 = some (ad k9) ∧ wd_at w418 (ad k9) (.inr (0, [.int (av0 k9), .int (av1 k9), .int (av2 k9), .int (av3 k9)])) ∧ tg (ad k9) = 4000 + k9 := fun k9 hi9 => ⟨(fm415 k9 hi9).1, wd_at.pt ew419 (fm415 k9 hi9).2.1 (wd_nk (fm415 k9 hi9).2.1 k412 rfl), (fm415 k9 hi9).2.2⟩
        have fm427 : ∀ k9, k9 < sc → zf k9 = some (so k9) ∧ wd_at w418 (so k9) (.inr (6, [.int (sp0 k9), .int (sp1 k9), .ref (sr k9)])) ∧ tg (so k9) = 5000 + k9 ∧ wd_at w418 (sr k9) (.inl (cy 2, 12, .inl (sd k9))) ∧ tg (sr k9) = 6000 + k9 := fun k9 hi9 => ⟨(fm416 k9 hi9).1, wd_at.pt ew419 (fm416 k9 hi9).2.1 (wd_nk (fm416 k9 hi9).2.1 k412 rfl), (fm416 k9 hi9).2.2.1, wd_at.pt ew419 (fm416 k9 hi9).2.2.2.1 (wd_nk (fm416 k9 hi9).2.2.2.1 k412 rfl), (fm416 k9 hi9).2.2.2.2⟩
        have kp428 := kp417.put ew419 s90
        refine lv_aload_n hx hb dX10_gatherFacts_105 rfl (lv_at hl 2 rfl) ?_
        refine x_get (ref := "NoteHouse") F hP k420 rfl (fun _ h => List.mem_cons_of_mem _ (List.mem_append_left _ (List.mem_append_left _ (List.mem_append_right _ (h))))) 8 (Nat.le_of_ble_eq_true rfl) (List.mem_cons_of_mem _ (List.mem_append_left _ (List.mem_append_left _ (List.mem_append_left _ (List.mem_append_left _ (List.mem_append_left _ (List.mem_append_left _ (List.mem_of_getElem? (i := 2) rfl)))))))) rfl rfl dX10_gatherFacts_106 ?_
        refine lv_iconst (v := 5) hx hb dX10_gatherFacts_109 (by decide) ?_
        refine lv_aload_n hx hb dX10_gatherFacts_110 rfl (lv_at hl 3 rfl) ?_
        refine x_get (ref := "NoteHouse$Shown") F hP k424 rfl (fun _ h => List.mem_cons_of_mem _ (List.mem_append_left _ (List.mem_append_left _ (List.mem_append_left _ (List.mem_append_left _ (List.mem_append_right _ (h))))))) 3 (Nat.le_of_ble_eq_true rfl) (List.mem_cons_of_mem _ (List.mem_append_left _ (List.mem_append_left _ (List.mem_append_left _ (List.mem_append_left _ (List.mem_append_left _ (List.mem_append_left _ (List.mem_of_getElem? (i := 6) rfl)))))))) rfl rfl dX10_gatherFacts_111 ?_
        refine y_iast F hP hD hS k423 (vp_in_iff.mpr ⟨by decide, by decide⟩) dX10_gatherFacts_114 (fun w429 ew430 H locs hP hD hS => ?_)
        have k431 := wd_at.pt ew430 k420 (wd_nk k420 k423 rfl)
        have k432 := wd_at.pt ew430 k421 (wd_nk k421 k423 rfl)
        have k433 := wd_at.pt ew430 k422 (wd_nk k422 k423 rfl)
        have k434 : wd_at w429 a8 (.inl (cy 2, 8, .inl (upd (upd (upd (upd (upd (upd ff (0 : Int32).toNatClampNeg (unlI hh hd)) (1 : Int32).toNatClampNeg 1) (2 : Int32).toNatClampNeg 1) (3 : Int32).toNatClampNeg (dd - dy)) (4 : Int32).toNatClampNeg 0) (5 : Int32).toNatClampNeg am))) := wd_at.ps ew430 k423
        have k435 := wd_at.pt ew430 k424 (wd_nk k424 k423 rfl)
        have k436 := wd_at.pt ew430 k425 (wd_nk k425 k423 rfl)
        have fm437 : ∀ k9, k9 < ac → af k9 = some (ad k9) ∧ wd_at w429 (ad k9) (.inr (0, [.int (av0 k9), .int (av1 k9), .int (av2 k9), .int (av3 k9)])) ∧ tg (ad k9) = 4000 + k9 := fun k9 hi9 => ⟨(fm426 k9 hi9).1, wd_at.pt ew430 (fm426 k9 hi9).2.1 (wd_nk (fm426 k9 hi9).2.1 k423 rfl), (fm426 k9 hi9).2.2⟩
        have fm438 : ∀ k9, k9 < sc → zf k9 = some (so k9) ∧ wd_at w429 (so k9) (.inr (6, [.int (sp0 k9), .int (sp1 k9), .ref (sr k9)])) ∧ tg (so k9) = 5000 + k9 ∧ wd_at w429 (sr k9) (.inl (cy 2, 12, .inl (sd k9))) ∧ tg (sr k9) = 6000 + k9 := fun k9 hi9 => ⟨(fm427 k9 hi9).1, wd_at.pt ew430 (fm427 k9 hi9).2.1 (wd_nk (fm427 k9 hi9).2.1 k423 rfl), (fm427 k9 hi9).2.2.1, wd_at.pt ew430 (fm427 k9 hi9).2.2.2.1 (wd_nk (fm427 k9 hi9).2.2.2.1 k423 rfl), (fm427 k9 hi9).2.2.2.2⟩
        have kp439 := kp428.put ew430 s90
        refine lv_aload_n hx hb dX10_gatherFacts_115 rfl (lv_at hl 2 rfl) ?_
        refine x_get (ref := "NoteHouse") F hP k431 rfl (fun _ h => List.mem_cons_of_mem _ (List.mem_append_left _ (List.mem_append_left _ (List.mem_append_right _ (h))))) 8 (Nat.le_of_ble_eq_true rfl) (List.mem_cons_of_mem _ (List.mem_append_left _ (List.mem_append_left _ (List.mem_append_left _ (List.mem_append_left _ (List.mem_append_left _ (List.mem_append_left _ (List.mem_of_getElem? (i := 2) rfl)))))))) rfl rfl dX10_gatherFacts_116 ?_
        refine lv_bipush (v := 6) hx hb dX10_gatherFacts_119 (by decide) ?_
        refine lv_aload_n hx hb dX10_gatherFacts_121 rfl (lv_at hl 4 rfl) ?_
        refine x_get (ref := "NoteHouse$Paper") F hP k436 rfl (fun _ h => List.mem_cons_of_mem _ (List.mem_append_left _ (List.mem_append_left _ (List.mem_append_left _ (List.mem_append_right _ (h)))))) 1 (Nat.le_of_ble_eq_true rfl) (List.mem_cons_of_mem _ (List.mem_append_left _ (List.mem_append_left _ (List.mem_append_left _ (List.mem_append_left _ (List.mem_append_left _ (List.mem_append_left _ (List.mem_of_getElem? (i := 7) rfl)))))))) rfl rfl dX10_gatherFacts_122 ?_
        refine lv_aload_n hx hb dX10_gatherFacts_125 rfl (lv_at hl 4 rfl) ?_
        refine x_get (ref := "NoteHouse$Paper") F hP k436 rfl (fun _ h => List.mem_cons_of_mem _ (List.mem_append_left _ (List.mem_append_left _ (List.mem_append_left _ (List.mem_append_right _ (h)))))) 5 (Nat.le_of_ble_eq_true rfl) (List.mem_cons_of_mem _ (List.mem_append_left _ (List.mem_append_left _ (List.mem_append_left _ (List.mem_append_left _ (List.mem_append_left _ (List.mem_append_left _ (List.mem_of_getElem? (i := 8) rfl)))))))) rfl rfl dX10_gatherFacts_126 ?_
        refine lv_isub hx hb dX10_gatherFacts_129 ?_
        refine y_iast F hP hD hS k434 (vp_in_iff.mpr ⟨by decide, by decide⟩) dX10_gatherFacts_130 (fun w440 ew441 H locs hP hD hS => ?_)
        have k442 := wd_at.pt ew441 k431 (wd_nk k431 k434 rfl)
        have k443 := wd_at.pt ew441 k432 (wd_nk k432 k434 rfl)
        have k444 := wd_at.pt ew441 k433 (wd_nk k433 k434 rfl)
        have k445 : wd_at w440 a8 (.inl (cy 2, 8, .inl (upd (upd (upd (upd (upd (upd (upd ff (0 : Int32).toNatClampNeg (unlI hh hd)) (1 : Int32).toNatClampNeg 1) (2 : Int32).toNatClampNeg 1) (3 : Int32).toNatClampNeg (dd - dy)) (4 : Int32).toNatClampNeg 0) (5 : Int32).toNatClampNeg am) (6 : Int32).toNatClampNeg (wo - no)))) := wd_at.ps ew441 k434
        have k446 := wd_at.pt ew441 k435 (wd_nk k435 k434 rfl)
        have k447 := wd_at.pt ew441 k436 (wd_nk k436 k434 rfl)
        have fm448 : ∀ k9, k9 < ac → af k9 = some (ad k9) ∧ wd_at w440 (ad k9) (.inr (0, [.int (av0 k9), .int (av1 k9), .int (av2 k9), .int (av3 k9)])) ∧ tg (ad k9) = 4000 + k9 := fun k9 hi9 => ⟨(fm437 k9 hi9).1, wd_at.pt ew441 (fm437 k9 hi9).2.1 (wd_nk (fm437 k9 hi9).2.1 k434 rfl), (fm437 k9 hi9).2.2⟩
        have fm449 : ∀ k9, k9 < sc → zf k9 = some (so k9) ∧ wd_at w440 (so k9) (.inr (6, [.int (sp0 k9), .int (sp1 k9), .ref (sr k9)])) ∧ tg (so k9) = 5000 + k9 ∧ wd_at w440 (sr k9) (.inl (cy 2, 12, .inl (sd k9))) ∧ tg (sr k9) = 6000 + k9 := fun k9 hi9 => ⟨(fm438 k9 hi9).1, wd_at.pt ew441 (fm438 k9 hi9).2.1 (wd_nk (fm438 k9 hi9).2.1 k434 rfl), (fm438 k9 hi9).2.2.1, wd_at.pt ew441 (fm438 k9 hi9).2.2.2.1 (wd_nk (fm438 k9 hi9).2.2.2.1 k434 rfl), (fm438 k9 hi9).2.2.2.2⟩
        have kp450 := kp439.put ew441 s90
        refine lv_aload_n hx hb dX10_gatherFacts_131 rfl (lv_at hl 2 rfl) ?_
        refine x_get (ref := "NoteHouse") F hP k442 rfl (fun _ h => List.mem_cons_of_mem _ (List.mem_append_left _ (List.mem_append_left _ (List.mem_append_right _ (h))))) 8 (Nat.le_of_ble_eq_true rfl) (List.mem_cons_of_mem _ (List.mem_append_left _ (List.mem_append_left _ (List.mem_append_left _ (List.mem_append_left _ (List.mem_append_left _ (List.mem_append_left _ (List.mem_of_getElem? (i := 2) rfl)))))))) rfl rfl dX10_gatherFacts_132 ?_
        refine lv_bipush (v := 7) hx hb dX10_gatherFacts_135 (by decide) ?_
        refine lv_aload_n hx hb dX10_gatherFacts_137 rfl (lv_at hl 3 rfl) ?_
        refine x_get (ref := "NoteHouse$Shown") F hP k446 rfl (fun _ h => List.mem_cons_of_mem _ (List.mem_append_left _ (List.mem_append_left _ (List.mem_append_left _ (List.mem_append_left _ (List.mem_append_right _ (h))))))) 5 (Nat.le_of_ble_eq_true rfl) (List.mem_cons_of_mem _ (List.mem_append_left _ (List.mem_append_left _ (List.mem_append_left _ (List.mem_append_left _ (List.mem_append_left _ (List.mem_append_left _ (List.mem_of_getElem? (i := 0) rfl)))))))) rfl rfl dX10_gatherFacts_138 ?_
        refine y_iast F hP hD hS k445 (vp_in_iff.mpr ⟨by decide, by decide⟩) dX10_gatherFacts_141 (fun w451 ew452 H locs hP hD hS => ?_)
        have k453 := wd_at.pt ew452 k442 (wd_nk k442 k445 rfl)
        have k454 := wd_at.pt ew452 k443 (wd_nk k443 k445 rfl)
        have k455 := wd_at.pt ew452 k444 (wd_nk k444 k445 rfl)
        have k456 : wd_at w451 a8 (.inl (cy 2, 8, .inl (upd (upd (upd (upd (upd (upd (upd (upd ff (0 : Int32).toNatClampNeg (unlI hh hd)) (1 : Int32).toNatClampNeg 1) (2 : Int32).toNatClampNeg 1) (3 : Int32).toNatClampNeg (dd - dy)) (4 : Int32).toNatClampNeg 0) (5 : Int32).toNatClampNeg am) (6 : Int32).toNatClampNeg (wo - no)) (7 : Int32).toNatClampNeg dd))) := wd_at.ps ew452 k445
        have k457 := wd_at.pt ew452 k446 (wd_nk k446 k445 rfl)
        have k458 := wd_at.pt ew452 k447 (wd_nk k447 k445 rfl)
        have fm459 : ∀ k9, k9 < ac → af k9 = some (ad k9) ∧ wd_at w451 (ad k9) (.inr (0, [.int (av0 k9), .int (av1 k9), .int (av2 k9), .int (av3 k9)])) ∧ tg (ad k9) = 4000 + k9 := fun k9 hi9 => ⟨(fm448 k9 hi9).1, wd_at.pt ew452 (fm448 k9 hi9).2.1 (wd_nk (fm448 k9 hi9).2.1 k445 rfl), (fm448 k9 hi9).2.2⟩
        have fm460 : ∀ k9, k9 < sc → zf k9 = some (so k9) ∧ wd_at w451 (so k9) (.inr (6, [.int (sp0 k9), .int (sp1 k9), .ref (sr k9)])) ∧ tg (so k9) = 5000 + k9 ∧ wd_at w451 (sr k9) (.inl (cy 2, 12, .inl (sd k9))) ∧ tg (sr k9) = 6000 + k9 := fun k9 hi9 => ⟨(fm449 k9 hi9).1, wd_at.pt ew452 (fm449 k9 hi9).2.1 (wd_nk (fm449 k9 hi9).2.1 k445 rfl), (fm449 k9 hi9).2.2.1, wd_at.pt ew452 (fm449 k9 hi9).2.2.2.1 (wd_nk (fm449 k9 hi9).2.2.2.1 k445 rfl), (fm449 k9 hi9).2.2.2.2⟩
        have kp461 := kp450.put ew452 s90
        exact y_vr K hP hD hS (Nat.le_of_ble_eq_true rfl) (Nat.le_of_ble_eq_true rfl) rfl dX10_gatherFacts_142 (⟨upd (upd (upd (upd (upd (upd (upd (upd ff (0 : Int32).toNatClampNeg (unlI hh hd)) (1 : Int32).toNatClampNeg 1) (2 : Int32).toNatClampNeg 1) (3 : Int32).toNatClampNeg (dd - dy)) (4 : Int32).toNatClampNeg 0) (5 : Int32).toNatClampNeg am) (6 : Int32).toNatClampNeg (wo - no)) (7 : Int32).toNatClampNeg dd, rfl, fc8 (by rw [b01_n cA]; rfl) (by rw [b01_n cA]; rfl) (by rw [b01_n cS]; rfl) (by rw [if_neg (Int32.not_lt.mpr cG)]), kp461, k456⟩)
      · refine lv_iconst (v := 1) hx hb dX10_gatherFacts_99 (by decide) ?_
        refine lv_goto (tgt := 104) hx hb dX10_gatherFacts_100 (by decide) ?_
        refine y_iast F hP hD hS k412 (vp_in_iff.mpr ⟨by decide, by decide⟩) dX10_gatherFacts_104 (fun w462 ew463 H locs hP hD hS => ?_)
        have k464 := wd_at.pt ew463 k409 (wd_nk k409 k412 rfl)
        have k465 := wd_at.pt ew463 k410 (wd_nk k410 k412 rfl)
        have k466 := wd_at.pt ew463 k411 (wd_nk k411 k412 rfl)
        have k467 : wd_at w462 a8 (.inl (cy 2, 8, .inl (upd (upd (upd (upd (upd ff (0 : Int32).toNatClampNeg (unlI hh hd)) (1 : Int32).toNatClampNeg 1) (2 : Int32).toNatClampNeg 1) (3 : Int32).toNatClampNeg (dd - dy)) (4 : Int32).toNatClampNeg 1))) := wd_at.ps ew463 k412
        have k468 := wd_at.pt ew463 k413 (wd_nk k413 k412 rfl)
        have k469 := wd_at.pt ew463 k414 (wd_nk k414 k412 rfl)
        have fm470 : ∀ k9, k9 < ac → af k9 = some (ad k9) ∧ wd_at w462 (ad k9) (.inr (0, [.int (av0 k9), .int (av1 k9), .int (av2 k9), .int (av3 k9)])) ∧ tg (ad k9) = 4000 + k9 := fun k9 hi9 => ⟨(fm415 k9 hi9).1, wd_at.pt ew463 (fm415 k9 hi9).2.1 (wd_nk (fm415 k9 hi9).2.1 k412 rfl), (fm415 k9 hi9).2.2⟩
        have fm471 : ∀ k9, k9 < sc → zf k9 = some (so k9) ∧ wd_at w462 (so k9) (.inr (6, [.int (sp0 k9), .int (sp1 k9), .ref (sr k9)])) ∧ tg (so k9) = 5000 + k9 ∧ wd_at w462 (sr k9) (.inl (cy 2, 12, .inl (sd k9))) ∧ tg (sr k9) = 6000 + k9 := fun k9 hi9 => ⟨(fm416 k9 hi9).1, wd_at.pt ew463 (fm416 k9 hi9).2.1 (wd_nk (fm416 k9 hi9).2.1 k412 rfl), (fm416 k9 hi9).2.2.1, wd_at.pt ew463 (fm416 k9 hi9).2.2.2.1 (wd_nk (fm416 k9 hi9).2.2.2.1 k412 rfl), (fm416 k9 hi9).2.2.2.2⟩
        have kp472 := kp417.put ew463 s90
        refine lv_aload_n hx hb dX10_gatherFacts_105 rfl (lv_at hl 2 rfl) ?_
        refine x_get (ref := "NoteHouse") F hP k464 rfl (fun _ h => List.mem_cons_of_mem _ (List.mem_append_left _ (List.mem_append_left _ (List.mem_append_right _ (h))))) 8 (Nat.le_of_ble_eq_true rfl) (List.mem_cons_of_mem _ (List.mem_append_left _ (List.mem_append_left _ (List.mem_append_left _ (List.mem_append_left _ (List.mem_append_left _ (List.mem_append_left _ (List.mem_of_getElem? (i := 2) rfl)))))))) rfl rfl dX10_gatherFacts_106 ?_
        refine lv_iconst (v := 5) hx hb dX10_gatherFacts_109 (by decide) ?_
        refine lv_aload_n hx hb dX10_gatherFacts_110 rfl (lv_at hl 3 rfl) ?_
        refine x_get (ref := "NoteHouse$Shown") F hP k468 rfl (fun _ h => List.mem_cons_of_mem _ (List.mem_append_left _ (List.mem_append_left _ (List.mem_append_left _ (List.mem_append_left _ (List.mem_append_right _ (h))))))) 3 (Nat.le_of_ble_eq_true rfl) (List.mem_cons_of_mem _ (List.mem_append_left _ (List.mem_append_left _ (List.mem_append_left _ (List.mem_append_left _ (List.mem_append_left _ (List.mem_append_left _ (List.mem_of_getElem? (i := 6) rfl)))))))) rfl rfl dX10_gatherFacts_111 ?_
        refine y_iast F hP hD hS k467 (vp_in_iff.mpr ⟨by decide, by decide⟩) dX10_gatherFacts_114 (fun w473 ew474 H locs hP hD hS => ?_)
        have k475 := wd_at.pt ew474 k464 (wd_nk k464 k467 rfl)
        have k476 := wd_at.pt ew474 k465 (wd_nk k465 k467 rfl)
        have k477 := wd_at.pt ew474 k466 (wd_nk k466 k467 rfl)
        have k478 : wd_at w473 a8 (.inl (cy 2, 8, .inl (upd (upd (upd (upd (upd (upd ff (0 : Int32).toNatClampNeg (unlI hh hd)) (1 : Int32).toNatClampNeg 1) (2 : Int32).toNatClampNeg 1) (3 : Int32).toNatClampNeg (dd - dy)) (4 : Int32).toNatClampNeg 1) (5 : Int32).toNatClampNeg am))) := wd_at.ps ew474 k467
        have k479 := wd_at.pt ew474 k468 (wd_nk k468 k467 rfl)
        have k480 := wd_at.pt ew474 k469 (wd_nk k469 k467 rfl)
        have fm481 : ∀ k9, k9 < ac → af k9 = some (ad k9) ∧ wd_at w473 (ad k9) (.inr (0, [.int (av0 k9), .int (av1 k9), .int (av2 k9), .int (av3 k9)])) ∧ tg (ad k9) = 4000 + k9 := fun k9 hi9 => ⟨(fm470 k9 hi9).1, wd_at.pt ew474 (fm470 k9 hi9).2.1 (wd_nk (fm470 k9 hi9).2.1 k467 rfl), (fm470 k9 hi9).2.2⟩
        have fm482 : ∀ k9, k9 < sc → zf k9 = some (so k9) ∧ wd_at w473 (so k9) (.inr (6, [.int (sp0 k9), .int (sp1 k9), .ref (sr k9)])) ∧ tg (so k9) = 5000 + k9 ∧ wd_at w473 (sr k9) (.inl (cy 2, 12, .inl (sd k9))) ∧ tg (sr k9) = 6000 + k9 := fun k9 hi9 => ⟨(fm471 k9 hi9).1, wd_at.pt ew474 (fm471 k9 hi9).2.1 (wd_nk (fm471 k9 hi9).2.1 k467 rfl), (fm471 k9 hi9).2.2.1, wd_at.pt ew474 (fm471 k9 hi9).2.2.2.1 (wd_nk (fm471 k9 hi9).2.2.2.1 k467 rfl), (fm471 k9 hi9).2.2.2.2⟩
        have kp483 := kp472.put ew474 s90
        refine lv_aload_n hx hb dX10_gatherFacts_115 rfl (lv_at hl 2 rfl) ?_
        refine x_get (ref := "NoteHouse") F hP k475 rfl (fun _ h => List.mem_cons_of_mem _ (List.mem_append_left _ (List.mem_append_left _ (List.mem_append_right _ (h))))) 8 (Nat.le_of_ble_eq_true rfl) (List.mem_cons_of_mem _ (List.mem_append_left _ (List.mem_append_left _ (List.mem_append_left _ (List.mem_append_left _ (List.mem_append_left _ (List.mem_append_left _ (List.mem_of_getElem? (i := 2) rfl)))))))) rfl rfl dX10_gatherFacts_116 ?_
        refine lv_bipush (v := 6) hx hb dX10_gatherFacts_119 (by decide) ?_
        refine lv_aload_n hx hb dX10_gatherFacts_121 rfl (lv_at hl 4 rfl) ?_
        refine x_get (ref := "NoteHouse$Paper") F hP k480 rfl (fun _ h => List.mem_cons_of_mem _ (List.mem_append_left _ (List.mem_append_left _ (List.mem_append_left _ (List.mem_append_right _ (h)))))) 1 (Nat.le_of_ble_eq_true rfl) (List.mem_cons_of_mem _ (List.mem_append_left _ (List.mem_append_left _ (List.mem_append_left _ (List.mem_append_left _ (List.mem_append_left _ (List.mem_append_left _ (List.mem_of_getElem? (i := 7) rfl)))))))) rfl rfl dX10_gatherFacts_122 ?_
        refine lv_aload_n hx hb dX10_gatherFacts_125 rfl (lv_at hl 4 rfl) ?_
        refine x_get (ref := "NoteHouse$Paper") F hP k480 rfl (fun _ h => List.mem_cons_of_mem _ (List.mem_append_left _ (List.mem_append_left _ (List.mem_append_left _ (List.mem_append_right _ (h)))))) 5 (Nat.le_of_ble_eq_true rfl) (List.mem_cons_of_mem _ (List.mem_append_left _ (List.mem_append_left _ (List.mem_append_left _ (List.mem_append_left _ (List.mem_append_left _ (List.mem_append_left _ (List.mem_of_getElem? (i := 8) rfl)))))))) rfl rfl dX10_gatherFacts_126 ?_
        refine lv_isub hx hb dX10_gatherFacts_129 ?_
        refine y_iast F hP hD hS k478 (vp_in_iff.mpr ⟨by decide, by decide⟩) dX10_gatherFacts_130 (fun w484 ew485 H locs hP hD hS => ?_)
        have k486 := wd_at.pt ew485 k475 (wd_nk k475 k478 rfl)
        have k487 := wd_at.pt ew485 k476 (wd_nk k476 k478 rfl)
        have k488 := wd_at.pt ew485 k477 (wd_nk k477 k478 rfl)
        have k489 : wd_at w484 a8 (.inl (cy 2, 8, .inl (upd (upd (upd (upd (upd (upd (upd ff (0 : Int32).toNatClampNeg (unlI hh hd)) (1 : Int32).toNatClampNeg 1) (2 : Int32).toNatClampNeg 1) (3 : Int32).toNatClampNeg (dd - dy)) (4 : Int32).toNatClampNeg 1) (5 : Int32).toNatClampNeg am) (6 : Int32).toNatClampNeg (wo - no)))) := wd_at.ps ew485 k478
        have k490 := wd_at.pt ew485 k479 (wd_nk k479 k478 rfl)
        have k491 := wd_at.pt ew485 k480 (wd_nk k480 k478 rfl)
        have fm492 : ∀ k9, k9 < ac → af k9 = some (ad k9) ∧ wd_at w484 (ad k9) (.inr (0, [.int (av0 k9), .int (av1 k9), .int (av2 k9), .int (av3 k9)])) ∧ tg (ad k9) = 4000 + k9 := fun k9 hi9 => ⟨(fm481 k9 hi9).1, wd_at.pt ew485 (fm481 k9 hi9).2.1 (wd_nk (fm481 k9 hi9).2.1 k478 rfl), (fm481 k9 hi9).2.2⟩
        have fm493 : ∀ k9, k9 < sc → zf k9 = some (so k9) ∧ wd_at w484 (so k9) (.inr (6, [.int (sp0 k9), .int (sp1 k9), .ref (sr k9)])) ∧ tg (so k9) = 5000 + k9 ∧ wd_at w484 (sr k9) (.inl (cy 2, 12, .inl (sd k9))) ∧ tg (sr k9) = 6000 + k9 := fun k9 hi9 => ⟨(fm482 k9 hi9).1, wd_at.pt ew485 (fm482 k9 hi9).2.1 (wd_nk (fm482 k9 hi9).2.1 k478 rfl), (fm482 k9 hi9).2.2.1, wd_at.pt ew485 (fm482 k9 hi9).2.2.2.1 (wd_nk (fm482 k9 hi9).2.2.2.1 k478 rfl), (fm482 k9 hi9).2.2.2.2⟩
        have kp494 := kp483.put ew485 s90
        refine lv_aload_n hx hb dX10_gatherFacts_131 rfl (lv_at hl 2 rfl) ?_
        refine x_get (ref := "NoteHouse") F hP k486 rfl (fun _ h => List.mem_cons_of_mem _ (List.mem_append_left _ (List.mem_append_left _ (List.mem_append_right _ (h))))) 8 (Nat.le_of_ble_eq_true rfl) (List.mem_cons_of_mem _ (List.mem_append_left _ (List.mem_append_left _ (List.mem_append_left _ (List.mem_append_left _ (List.mem_append_left _ (List.mem_append_left _ (List.mem_of_getElem? (i := 2) rfl)))))))) rfl rfl dX10_gatherFacts_132 ?_
        refine lv_bipush (v := 7) hx hb dX10_gatherFacts_135 (by decide) ?_
        refine lv_aload_n hx hb dX10_gatherFacts_137 rfl (lv_at hl 3 rfl) ?_
        refine x_get (ref := "NoteHouse$Shown") F hP k490 rfl (fun _ h => List.mem_cons_of_mem _ (List.mem_append_left _ (List.mem_append_left _ (List.mem_append_left _ (List.mem_append_left _ (List.mem_append_right _ (h))))))) 5 (Nat.le_of_ble_eq_true rfl) (List.mem_cons_of_mem _ (List.mem_append_left _ (List.mem_append_left _ (List.mem_append_left _ (List.mem_append_left _ (List.mem_append_left _ (List.mem_append_left _ (List.mem_of_getElem? (i := 0) rfl)))))))) rfl rfl dX10_gatherFacts_138 ?_
        refine y_iast F hP hD hS k489 (vp_in_iff.mpr ⟨by decide, by decide⟩) dX10_gatherFacts_141 (fun w495 ew496 H locs hP hD hS => ?_)
        have k497 := wd_at.pt ew496 k486 (wd_nk k486 k489 rfl)
        have k498 := wd_at.pt ew496 k487 (wd_nk k487 k489 rfl)
        have k499 := wd_at.pt ew496 k488 (wd_nk k488 k489 rfl)
        have k500 : wd_at w495 a8 (.inl (cy 2, 8, .inl (upd (upd (upd (upd (upd (upd (upd (upd ff (0 : Int32).toNatClampNeg (unlI hh hd)) (1 : Int32).toNatClampNeg 1) (2 : Int32).toNatClampNeg 1) (3 : Int32).toNatClampNeg (dd - dy)) (4 : Int32).toNatClampNeg 1) (5 : Int32).toNatClampNeg am) (6 : Int32).toNatClampNeg (wo - no)) (7 : Int32).toNatClampNeg dd))) := wd_at.ps ew496 k489
        have k501 := wd_at.pt ew496 k490 (wd_nk k490 k489 rfl)
        have k502 := wd_at.pt ew496 k491 (wd_nk k491 k489 rfl)
        have fm503 : ∀ k9, k9 < ac → af k9 = some (ad k9) ∧ wd_at w495 (ad k9) (.inr (0, [.int (av0 k9), .int (av1 k9), .int (av2 k9), .int (av3 k9)])) ∧ tg (ad k9) = 4000 + k9 := fun k9 hi9 => ⟨(fm492 k9 hi9).1, wd_at.pt ew496 (fm492 k9 hi9).2.1 (wd_nk (fm492 k9 hi9).2.1 k489 rfl), (fm492 k9 hi9).2.2⟩
        have fm504 : ∀ k9, k9 < sc → zf k9 = some (so k9) ∧ wd_at w495 (so k9) (.inr (6, [.int (sp0 k9), .int (sp1 k9), .ref (sr k9)])) ∧ tg (so k9) = 5000 + k9 ∧ wd_at w495 (sr k9) (.inl (cy 2, 12, .inl (sd k9))) ∧ tg (sr k9) = 6000 + k9 := fun k9 hi9 => ⟨(fm493 k9 hi9).1, wd_at.pt ew496 (fm493 k9 hi9).2.1 (wd_nk (fm493 k9 hi9).2.1 k489 rfl), (fm493 k9 hi9).2.2.1, wd_at.pt ew496 (fm493 k9 hi9).2.2.2.1 (wd_nk (fm493 k9 hi9).2.2.2.1 k489 rfl), (fm493 k9 hi9).2.2.2.2⟩
        have kp505 := kp494.put ew496 s90
        exact y_vr K hP hD hS (Nat.le_of_ble_eq_true rfl) (Nat.le_of_ble_eq_true rfl) rfl dX10_gatherFacts_142 (⟨upd (upd (upd (upd (upd (upd (upd (upd ff (0 : Int32).toNatClampNeg (unlI hh hd)) (1 : Int32).toNatClampNeg 1) (2 : Int32).toNatClampNeg 1) (3 : Int32).toNatClampNeg (dd - dy)) (4 : Int32).toNatClampNeg 1) (5 : Int32).toNatClampNeg am) (6 : Int32).toNatClampNeg (wo - no)) (7 : Int32).toNatClampNeg dd, rfl, fc8 (by rw [b01_n cA]; rfl) (by rw [b01_n cA]; rfl) (by rw [b01_n cS]; rfl) (by rw [if_pos (Int32.not_le.mp cG)]), kp505, k500⟩)
