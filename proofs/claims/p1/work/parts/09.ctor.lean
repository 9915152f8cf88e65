set_option maxHeartbeats 4000000 in
set_option maxRecDepth 100000 in
theorem c_X1_init (l : Launch) (D : va_G) (cy : Nat → ClassId) (w : Wd) (y : Nat) (hy : wd_at w y (.inr (1, [.null, .null, .null, .null, .null, .int 0])))  (S : Nat → Prop) (sy : S y)  : Ct l D cy yX1_init wsX1_init ({ frames := 1, cells := 5, slots := 240, locals := 12 }) [.ref y] w (fun v w1 => v = none ∧ wd_kp S w w1 ∧ ∃ g0 g1 g2 g3 g4 : Nat, wd_at w1 y (.inr (1, [.ref g0, .ref g1, .ref g2, .ref g3, .ref g4, .int 0])) ∧ wd_at w1 g0 (.inl (cy 2, 12, .inl (fun _ => 0))) ∧ wd_at w1 g1 (.inl (cy 2, 12, .inl (fun _ => 0))) ∧ wd_at w1 g2 (.inl (cy 2, 72, .inl (fun _ => 0))) ∧ wd_at w1 g3 (.inl (cy 1, 72, .inl (fun _ => 0))) ∧ wd_at w1 g4 (.inl (cy 2, 72, .inl (fun _ => 0)))) := by
  refine Ct.by (cc := cX1_init) (maxL := 1) (ret := none) (by decide +kernel) rfl (Nat.le_of_ble_eq_true rfl) ?_
  intro p e s m args below meth c A Q F hnm K ls hl
  have F : wd_Fx p s m args meth c cX1_init 1 wsX1_init RX1 D cy A := F
  have hl : lv_has ls 1 [(0, .ref y)] := hl
  have hx := F.1.1
  have hb := F.1.2.1
  have hown := F.1.2.2.2.1
  have hts := F.1.2.2.2.2
  intro H locs hP hD hS
  have kp0 : wd_kp S w w := wd_kp.rf
  refine lv_aload_n hx hb dX1_init_0 rfl (lv_at hl 0 rfl) ?_
  refine x_objInit F (List.mem_cons_of_mem _ (List.mem_append_left _ (List.mem_of_getElem? (i := 0) rfl))) (List.mem_cons_of_mem _ (List.mem_append_left _ (List.mem_of_getElem? (i := 1) rfl))) (List.mem_cons_of_mem _ (List.mem_append_left _ (List.mem_of_getElem? (i := 2) rfl))) hl.1 dX1_init_1 (Nat.le_of_ble_eq_true rfl) (Nat.le_of_ble_eq_true rfl) ?_
  refine lv_aload_n hx hb dX1_init_4 rfl (lv_at hl 0 rfl) ?_
  refine lv_bipush (v := 12) hx hb dX1_init_5 (by decide) ?_
  refine y_newI (N := 12) F hP hD hS (List.mem_cons_of_mem _ (List.mem_append_left _ (List.mem_of_getElem? (i := 3) rfl))) (by decide) (by decide) (by decide) (Nat.le_of_ble_eq_true rfl) (Nat.le_of_ble_eq_true rfl) dX1_init_7 (fun q1 w2 ew3 hq4 H hP hD hS => ?_)
  refine W.widen (k := 1) (n := 12) (Nat.le_of_ble_eq_true rfl) (Nat.le_of_ble_eq_true rfl) ?_
  have k5 := wd_at.ad ew3 hq4 hy
  have k6 : wd_at w2 q1 (.inl (cy 2, 12, .inl (fun _ => 0))) := wd_at.nw ew3
  have kp7 := kp0.add ew3 hq4
  refine y_putF (ref := "NoteHouse$Agent") F hP hD hS k5 rfl (fun _ h => List.mem_cons_of_mem _ (List.mem_append_right _ (h))) tyX1_ok nmX1 hnm 0 (Nat.le_of_ble_eq_true rfl) (List.mem_cons_of_mem _ (List.mem_append_left _ (List.mem_of_getElem? (i := 4) rfl))) rfl rfl rfl rfl rfl (Nat.le_of_ble_eq_true rfl) dX1_init_9 (fun w8 ew9 H locs hP hD hS => ?_)
  have k10 : wd_at w8 y (.inr (1, [.ref q1, .null, .null, .null, .null, .int 0])) := wd_at.ps ew9 k5
  have k11 := wd_at.pt ew9 k6 (Ne.symm (wd_nL hq4 hy))
  have kp12 := kp7.put ew9 sy
  refine lv_aload_n hx hb dX1_init_12 rfl (lv_at hl 0 rfl) ?_
  refine lv_bipush (v := 12) hx hb dX1_init_13 (by decide) ?_
  refine y_newI (N := 12) F hP hD hS (List.mem_cons_of_mem _ (List.mem_append_left _ (List.mem_of_getElem? (i := 3) rfl))) (by decide) (by decide) (by decide) (Nat.le_of_ble_eq_true rfl) (Nat.le_of_ble_eq_true rfl) dX1_init_15 (fun q13 w14 ew15 hq16 H hP hD hS => ?_)
  refine W.widen (k := 2) (n := 24) (Nat.le_of_ble_eq_true rfl) (Nat.le_of_ble_eq_true rfl) ?_
  have k17 := wd_at.ad ew15 hq16 k10
  have k18 := wd_at.ad ew15 hq16 k11
  have k19 : wd_at w14 q13 (.inl (cy 2, 12, .inl (fun _ => 0))) := wd_at.nw ew15
  have kp20 := kp12.add ew15 hq16
  refine y_putF (ref := "NoteHouse$Agent") F hP hD hS k17 rfl (fun _ h => List.mem_cons_of_mem _ (List.mem_append_right _ (h))) tyX1_ok nmX1 hnm 1 (Nat.le_of_ble_eq_true rfl) (List.mem_cons_of_mem _ (List.mem_append_left _ (List.mem_of_getElem? (i := 5) rfl))) rfl rfl rfl rfl rfl (Nat.le_of_ble_eq_true rfl) dX1_init_17 (fun w21 ew22 H locs hP hD hS => ?_)
  have k23 : wd_at w21 y (.inr (1, [.ref q1, .ref q13, .null, .null, .null, .int 0])) := wd_at.ps ew22 k17
  have k24 := wd_at.pt ew22 k18 (Ne.symm (wd_nL hq4 hy))
  have k25 := wd_at.pt ew22 k19 (Ne.symm (wd_nL hq16 k10))
  have kp26 := kp20.put ew22 sy
  refine lv_aload_n hx hb dX1_init_20 rfl (lv_at hl 0 rfl) ?_
  refine lv_bipush (v := 72) hx hb dX1_init_21 (by decide) ?_
  refine y_newI (N := 72) F hP hD hS (List.mem_cons_of_mem _ (List.mem_append_left _ (List.mem_of_getElem? (i := 3) rfl))) (by decide) (by decide) (by decide) (Nat.le_of_ble_eq_true rfl) (Nat.le_of_ble_eq_true rfl) dX1_init_23 (fun q27 w28 ew29 hq30 H hP hD hS => ?_)
  refine W.widen (k := 3) (n := 96) (Nat.le_of_ble_eq_true rfl) (Nat.le_of_ble_eq_true rfl) ?_
  have k31 := wd_at.ad ew29 hq30 k23
  have k32 := wd_at.ad ew29 hq30 k24
  have k33 := wd_at.ad ew29 hq30 k25
  have k34 : wd_at w28 q27 (.inl (cy 2, 72, .inl (fun _ => 0))) := wd_at.nw ew29
  have kp35 := kp26.add ew29 hq30
  refine y_putF (ref := "NoteHouse$Agent") F hP hD hS k31 rfl (fun _ h => List.mem_cons_of_mem _ (List.mem_append_right _ (h))) tyX1_ok nmX1 hnm 2 (Nat.le_of_ble_eq_true rfl) (List.mem_cons_of_mem _ (List.mem_append_left _ (List.mem_of_getElem? (i := 6) rfl))) rfl rfl rfl rfl rfl (Nat.le_of_ble_eq_true rfl) dX1_init_25 (fun w36 ew37 H locs hP hD hS => ?_)
  have k38 : wd_at w36 y (.inr (1, [.ref q1, .ref q13, .ref q27, .null, .null, .int 0])) := wd_at.ps ew37 k31
  have k39 := wd_at.pt ew37 k32 (Ne.symm (wd_nL hq4 hy))
  have k40 := wd_at.pt ew37 k33 (Ne.symm (wd_nL hq16 k10))
  have k41 := wd_at.pt ew37 k34 (Ne.symm (wd_nL hq30 k23))
  have kp42 := kp35.put ew37 sy
  refine lv_aload_n hx hb dX1_init_28 rfl (lv_at hl 0 rfl) ?_
  refine lv_bipush (v := 72) hx hb dX1_init_29 (by decide) ?_
  refine y_newC (N := 72) F hP hD hS (List.mem_cons_of_mem _ (List.mem_append_left _ (List.mem_of_getElem? (i := 7) rfl))) (by decide) (by decide) (by decide) (Nat.le_of_ble_eq_true rfl) (Nat.le_of_ble_eq_true rfl) dX1_init_31 (fun q43 w44 ew45 hq46 H hP hD hS => ?_)
  refine W.widen (k := 4) (n := 168) (Nat.le_of_ble_eq_true rfl) (Nat.le_of_ble_eq_true rfl) ?_
  have k47 := wd_at.ad ew45 hq46 k38
  have k48 := wd_at.ad ew45 hq46 k39
  have k49 := wd_at.ad ew45 hq46 k40
  have k50 := wd_at.ad ew45 hq46 k41
  have k51 : wd_at w44 q43 (.inl (cy 1, 72, .inl (fun _ => 0))) := wd_at.nw ew45
  have kp52 := kp42.add ew45 hq46
  refine y_putF (ref := "NoteHouse$Agent") F hP hD hS k47 rfl (fun _ h => List.mem_cons_of_mem _ (List.mem_append_right _ (h))) tyX1_ok nmX1 hnm 3 (Nat.le_of_ble_eq_true rfl) (List.mem_cons_of_mem _ (List.mem_append_left _ (List.mem_of_getElem? (i := 8) rfl))) rfl rfl rfl rfl rfl (Nat.le_of_ble_eq_true rfl) dX1_init_33 (fun w53 ew54 H locs hP hD hS => ?_)
  have k55 : wd_at w53 y (.inr (1, [.ref q1, .ref q13, .ref q27, .ref q43, .null, .int 0])) := wd_at.ps ew54 k47
  have k56 := wd_at.pt ew54 k48 (Ne.symm (wd_nL hq4 hy))
  have k57 := wd_at.pt ew54 k49 (Ne.symm (wd_nL hq16 k10))
  have k58 := wd_at.pt ew54 k50 (Ne.symm (wd_nL hq30 k23))
  have k59 := wd_at.pt ew54 k51 (Ne.symm (wd_nL hq46 k38))
  have kp60 := kp52.put ew54 sy
  refine lv_aload_n hx hb dX1_init_36 rfl (lv_at hl 0 rfl) ?_
  refine lv_bipush (v := 72) hx hb dX1_init_37 (by decide) ?_
  refine y_newI (N := 72) F hP hD hS (List.mem_cons_of_mem _ (List.mem_append_left _ (List.mem_of_getElem? (i := 3) rfl))) (by decide) (by decide) (by decide) (Nat.le_of_ble_eq_true rfl) (Nat.le_of_ble_eq_true rfl) dX1_init_39 (fun q61 w62 ew63 hq64 H hP hD hS => ?_)
  refine W.widen (k := 5) (n := 240) (Nat.le_of_ble_eq_true rfl) (Nat.le_of_ble_eq_true rfl) ?_
  have k65 := wd_at.ad ew63 hq64 k55
  have k66 := wd_at.ad ew63 hq64 k56
  have k67 := wd_at.ad ew63 hq64 k57
  have k68 := wd_at.ad ew63 hq64 k58
  have k69 := wd_at.ad ew63 hq64 k59
  have k70 : wd_at w62 q61 (.inl (cy 2, 72, .inl (fun _ => 0))) := wd_at.nw ew63
  have kp71 := kp60.add ew63 hq64
  refine y_putF (ref := "NoteHouse$Agent") F hP hD hS k65 rfl (fun _ h => List.mem_cons_of_mem _ (List.mem_append_right _ (h))) tyX1_ok nmX1 hnm 4 (Nat.le_of_ble_eq_true rfl) (List.mem_cons_of_mem _ (List.mem_append_left _ (List.mem_of_getElem? (i := 9) rfl))) rfl rfl rfl rfl rfl (Nat.le_of_ble_eq_true rfl) dX1_init_41 (fun w72 ew73 H locs hP hD hS => ?_)
  have k74 : wd_at w72 y (.inr (1, [.ref q1, .ref q13, .ref q27, .ref q43, .ref q61, .int 0])) := wd_at.ps ew73 k65
  have k75 := wd_at.pt ew73 k66 (Ne.symm (wd_nL hq4 hy))
  have k76 := wd_at.pt ew73 k67 (Ne.symm (wd_nL hq16 k10))
  have k77 := wd_at.pt ew73 k68 (Ne.symm (wd_nL hq30 k23))
  have k78 := wd_at.pt ew73 k69 (Ne.symm (wd_nL hq46 k38))
  have k79 := wd_at.pt ew73 k70 (Ne.symm (wd_nL hq64 k55))
  have kp80 := kp71.put ew73 sy
  refine lv_aload_n hx hb dX1_init_44 rfl (lv_at hl 0 rfl) ?_
  refine lv_iconst (v := 0) hx hb dX1_init_45 (by decide) ?_
  refine y_put (ref := "NoteHouse$Agent") F hP hD hS k74 rfl (fun _ h => List.mem_cons_of_mem _ (List.mem_append_right _ (h))) tyX1_ok nmX1 5 (Nat.le_of_ble_eq_true rfl) (List.mem_cons_of_mem _ (List.mem_append_left _ (List.mem_of_getElem? (i := 10) rfl))) rfl rfl rfl rfl (Nat.le_of_ble_eq_true rfl) dX1_init_46 (fun w81 ew82 H locs hP hD hS => ?_)
  have k83 : wd_at w81 y (.inr (1, [.ref q1, .ref q13, .ref q27, .ref q43, .ref q61, .int 0])) := wd_at.ps ew82 k74
  have k84 := wd_at.pt ew82 k75 (Ne.symm (wd_nL hq4 hy))
  have k85 := wd_at.pt ew82 k76 (Ne.symm (wd_nL hq16 k10))
  have k86 := wd_at.pt ew82 k77 (Ne.symm (wd_nL hq30 k23))
  have k87 := wd_at.pt ew82 k78 (Ne.symm (wd_nL hq46 k38))
  have k88 := wd_at.pt ew82 k79 (Ne.symm (wd_nL hq64 k55))
  have kp89 := kp80.put ew82 sy
  exact y_vr K hP hD hS (Nat.le_of_ble_eq_true rfl) (Nat.le_of_ble_eq_true rfl) rfl dX1_init_49 (⟨rfl, kp89, q1, q13, q27, q43, q61, k83, k84, k85, k86, k87, k88⟩)
set_option maxHeartbeats 4000000 in
set_option maxRecDepth 100000 in
theorem c_X8_init (l : Launch) (D : va_G) (cy : Nat → ClassId) (w : Wd) (y : Nat) (hy : wd_at w y (.inr (8, [.int 0, .int 0, .int 0, .null])))  (S : Nat → Prop) (sy : S y)  : Ct l D cy yX8_init wsX8_init ({ frames := 2, cells := 6, slots := 246, locals := 32 }) [.ref y] w (fun v w1 => v = none ∧ wd_kp S w w1 ∧ ∃ ag g0 g1 g2 g3 g4 : Nat, wd_at w1 y (.inr (8, [.int 0, .int 1000, .int 0, .ref ag])) ∧ wd_at w1 ag (.inr (1, [.ref g0, .ref g1, .ref g2, .ref g3, .ref g4, .int 0]))) := by
  refine Ct.by (cc := cX8_init) (maxL := 1) (ret := none) (by decide +kernel) rfl (Nat.le_of_ble_eq_true rfl) ?_
  intro p e s m args below meth c A Q F hnm K ls hl
  have F : wd_Fx p s m args meth c cX8_init 1 wsX8_init RX8 D cy A := F
  have hl : lv_has ls 1 [(0, .ref y)] := hl
  have hx := F.1.1
  have hb := F.1.2.1
  have hown := F.1.2.2.2.1
  have hts := F.1.2.2.2.2
  intro H locs hP hD hS
  have kp0 : wd_kp S w w := wd_kp.rf
  refine lv_aload_n hx hb dX8_init_0 rfl (lv_at hl 0 rfl) ?_
  refine x_objInit F (List.mem_cons_of_mem _ (List.mem_append_left _ (List.mem_append_left _ (List.mem_of_getElem? (i := 0) rfl)))) (List.mem_cons_of_mem _ (List.mem_append_left _ (List.mem_append_left _ (List.mem_of_getElem? (i := 1) rfl)))) (List.mem_cons_of_mem _ (List.mem_append_left _ (List.mem_append_left _ (List.mem_of_getElem? (i := 2) rfl)))) hl.1 dX8_init_1 (Nat.le_of_ble_eq_true rfl) (Nat.le_of_ble_eq_true rfl) ?_
  refine lv_aload_n hx hb dX8_init_4 rfl (lv_at hl 0 rfl) ?_
  refine lv_iconst (v := 0) hx hb dX8_init_5 (by decide) ?_
  refine y_put (ref := "NoteHouse$Town") F hP hD hS hy rfl (fun _ h => List.mem_cons_of_mem _ (List.mem_append_left _ (List.mem_append_right _ (h)))) tyX8_ok nmX8 0 (Nat.le_of_ble_eq_true rfl) (List.mem_cons_of_mem _ (List.mem_append_left _ (List.mem_append_left _ (List.mem_of_getElem? (i := 3) rfl)))) rfl rfl rfl rfl (Nat.le_of_ble_eq_true rfl) dX8_init_6 (fun w1 ew2 H locs hP hD hS => ?_)
  have k3 : wd_at w1 y (.inr (8, [.int 0, .int 0, .int 0, .null])) := wd_at.ps ew2 hy
  have kp4 := kp0.put ew2 sy
  refine lv_aload_n hx hb dX8_init_9 rfl (lv_at hl 0 rfl) ?_
  refine lv_sipush (v := 1000) hx hb dX8_init_10 (by decide) ?_
  refine y_put (ref := "NoteHouse$Town") F hP hD hS k3 rfl (fun _ h => List.mem_cons_of_mem _ (List.mem_append_left _ (List.mem_append_right _ (h)))) tyX8_ok nmX8 1 (Nat.le_of_ble_eq_true rfl) (List.mem_cons_of_mem _ (List.mem_append_left _ (List.mem_append_left _ (List.mem_of_getElem? (i := 4) rfl)))) rfl rfl rfl rfl (Nat.le_of_ble_eq_true rfl) dX8_init_13 (fun w5 ew6 H locs hP hD hS => ?_)
  have k7 : wd_at w5 y (.inr (8, [.int 0, .int 1000, .int 0, .null])) := wd_at.ps ew6 k3
  have kp8 := kp4.put ew6 sy
  refine lv_aload_n hx hb dX8_init_16 rfl (lv_at hl 0 rfl) ?_
  refine lv_iconst (v := 0) hx hb dX8_init_17 (by decide) ?_
  refine y_put (ref := "NoteHouse$Town") F hP hD hS k7 rfl (fun _ h => List.mem_cons_of_mem _ (List.mem_append_left _ (List.mem_append_right _ (h)))) tyX8_ok nmX8 2 (Nat.le_of_ble_eq_true rfl) (List.mem_cons_of_mem _ (List.mem_append_left _ (List.mem_append_left _ (List.mem_of_getElem? (i := 5) rfl)))) rfl rfl rfl rfl (Nat.le_of_ble_eq_true rfl) dX8_init_18 (fun w9 ew10 H locs hP hD hS => ?_)
  have k11 : wd_at w9 y (.inr (8, [.int 0, .int 1000, .int 0, .null])) := wd_at.ps ew10 k7
  have kp12 := kp8.put ew10 sy
  refine lv_aload_n hx hb dX8_init_21 rfl (lv_at hl 0 rfl) ?_
  refine y_new (fs := [.null, .null, .null, .null, .null, .int 0]) F hP hD hS (ci := 1) rfl (fun _ h => List.mem_cons_of_mem _ (List.mem_append_right _ (h))) tyX1_ok (List.mem_cons_of_mem _ (List.mem_append_left _ (List.mem_append_left _ (List.mem_of_getElem? (i := 6) rfl)))) (List.mem_cons_of_mem _ (List.mem_append_left _ (List.mem_append_left _ (List.mem_of_getElem? (i := 7) rfl)))) (List.mem_cons_of_mem _ (List.mem_append_left _ (List.mem_append_left _ (List.mem_of_getElem? (i := 8) rfl)))) df_1 (Nat.le_of_ble_eq_true rfl) (Nat.le_of_ble_eq_true rfl) dX8_init_22 (fun q13 w14 ew15 hq16 H hP hD hS => ?_)
  refine W.widen (k := 1) (n := 6) (Nat.le_of_ble_eq_true rfl) (Nat.le_of_ble_eq_true rfl) ?_
  have k17 := wd_at.ad ew15 hq16 k11
  have k18 : wd_at w14 q13 (.inr (1, [.null, .null, .null, .null, .null, .int 0])) := wd_at.nw ew15
  have kp19 := kp12.add ew15 hq16
  refine lv_dup hx hb dX8_init_25 rfl ?_
  refine x_callIN (ret := none) (host := RX10) (n := 0) (As := []) (rest := [.ref q13, .ref y]) F hP hD hS (c_X1_init l D cy w14 q13 k18 (fun b => b = q13) rfl) gX8_init_X1_init_n23 rfl (by decide +kernel) (List.mem_cons_of_mem _ (List.mem_append_left _ (List.mem_append_left _ (List.mem_of_getElem? (i := 8) rfl)))) (List.mem_cons_of_mem _ (List.mem_append_left _ (List.mem_append_left _ (List.mem_of_getElem? (i := 10) rfl)))) rfl (by decide +kernel) ⟨(Nat.le_of_ble_eq_true rfl), (Nat.le_of_ble_eq_true rfl)⟩ rfl hl.1 (Nat.le_of_ble_eq_true rfl) dX8_init_26 rfl ⟨(Nat.le_of_ble_eq_true rfl), (Nat.le_of_ble_eq_true rfl)⟩ (fun v21 w22 hp20 H locs hP hD hS => ?_)
  obtain ⟨rfl, hp20, g23, g24, g25, g26, g27, k28, k29, k30, k31, k32, k33⟩ := hp20
  have k34 := hp20.2 _ _ k17 (fun q : y = q13 => (wd_nL hq16 k11) q)
  have kp35 := kp19.tr hp20 (fun b hm q => (fun q => absurd (q ▸ hm) (kp12.out hq16)) q)
  refine W.eq (g2 := F0 m 29 ls [.ref q13, .ref y]) rfl (W.widen (k := 6) (n := 246) (Nat.le_of_ble_eq_true rfl) (Nat.le_of_ble_eq_true rfl) ?_)
  refine y_put (ref := "NoteHouse$Town") F hP hD hS k34 rfl (fun _ h => List.mem_cons_of_mem _ (List.mem_append_left _ (List.mem_append_right _ (h)))) tyX8_ok nmX8 3 (Nat.le_of_ble_eq_true rfl) (List.mem_cons_of_mem _ (List.mem_append_left _ (List.mem_append_left _ (List.mem_of_getElem? (i := 9) rfl)))) rfl rfl rfl rfl (Nat.le_of_ble_eq_true rfl) dX8_init_29 (fun w36 ew37 H locs hP hD hS => ?_)
  have k38 : wd_at w36 y (.inr (8, [.int 0, .int 1000, .int 0, .ref q13])) := wd_at.ps ew37 k34
  have k39 := wd_at.pt ew37 k28 (Ne.symm (wd_nL hq16 k11))
  have kp40 := kp35.put ew37 sy
  exact y_vr K hP hD hS (Nat.le_of_ble_eq_true rfl) (Nat.le_of_ble_eq_true rfl) rfl dX8_init_32 (⟨rfl, kp40, q13, g23, g24, g25, g26, g27, k38, k39⟩)
set_option maxHeartbeats 4000000 in
set_option maxRecDepth 100000 in
theorem c_X7_init (l : Launch) (D : va_G) (cy : Nat → ClassId) (w : Wd) (y : Nat) (hy : wd_at w y (.inr (7, [.null, .int 0, .int 0])))  (S : Nat → Prop) (sy : S y)  : Ct l D cy yX7_init wsX7_init ({ frames := 1, cells := 1, slots := 300, locals := 12 }) [.ref y] w (fun v w1 => v = none ∧ wd_kp S w w1 ∧ ∃ b : Nat, wd_at w1 y (.inr (7, [.ref b, .int 0, .int 0])) ∧ wd_at w1 b (.inl (cy 0, 300, .inl (fun _ => 0)))) := by
  refine Ct.by (cc := cX7_init) (maxL := 1) (ret := none) (by decide +kernel) rfl (Nat.le_of_ble_eq_true rfl) ?_
  intro p e s m args below meth c A Q F hnm K ls hl
  have F : wd_Fx p s m args meth c cX7_init 1 wsX7_init RX7 D cy A := F
  have hl : lv_has ls 1 [(0, .ref y)] := hl
  have hx := F.1.1
  have hb := F.1.2.1
  have hown := F.1.2.2.2.1
  have hts := F.1.2.2.2.2
  intro H locs hP hD hS
  have kp0 : wd_kp S w w := wd_kp.rf
  refine lv_aload_n hx hb dX7_init_0 rfl (lv_at hl 0 rfl) ?_
  refine x_objInit F (List.mem_cons_of_mem _ (List.mem_append_left _ (List.mem_of_getElem? (i := 0) rfl))) (List.mem_cons_of_mem _ (List.mem_append_left _ (List.mem_of_getElem? (i := 1) rfl))) (List.mem_cons_of_mem _ (List.mem_append_left _ (List.mem_of_getElem? (i := 2) rfl))) hl.1 dX7_init_1 (Nat.le_of_ble_eq_true rfl) (Nat.le_of_ble_eq_true rfl) ?_
  refine lv_aload_n hx hb dX7_init_4 rfl (lv_at hl 0 rfl) ?_
  refine lv_sipush (v := 300) hx hb dX7_init_5 (by decide) ?_
  refine y_newB (N := 300) F hP hD hS (List.mem_cons_of_mem _ (List.mem_append_left _ (List.mem_of_getElem? (i := 3) rfl))) (by decide) (by decide) (by decide) (Nat.le_of_ble_eq_true rfl) (Nat.le_of_ble_eq_true rfl) dX7_init_8 (fun q1 w2 ew3 hq4 H hP hD hS => ?_)
  refine W.widen (k := 1) (n := 300) (Nat.le_of_ble_eq_true rfl) (Nat.le_of_ble_eq_true rfl) ?_
  have k5 := wd_at.ad ew3 hq4 hy
  have k6 : wd_at w2 q1 (.inl (cy 0, 300, .inl (fun _ => 0))) := wd_at.nw ew3
  have kp7 := kp0.add ew3 hq4
  refine y_putF (ref := "NoteHouse$Tape") F hP hD hS k5 rfl (fun _ h => List.mem_cons_of_mem _ (List.mem_append_right _ (h))) tyX7_ok nmX7 hnm 0 (Nat.le_of_ble_eq_true rfl) (List.mem_cons_of_mem _ (List.mem_append_left _ (List.mem_of_getElem? (i := 4) rfl))) rfl rfl rfl rfl rfl (Nat.le_of_ble_eq_true rfl) dX7_init_10 (fun w8 ew9 H locs hP hD hS => ?_)
  have k10 : wd_at w8 y (.inr (7, [.ref q1, .int 0, .int 0])) := wd_at.ps ew9 k5
  have k11 := wd_at.pt ew9 k6 (Ne.symm (wd_nL hq4 hy))
  have kp12 := kp7.put ew9 sy
  refine lv_aload_n hx hb dX7_init_13 rfl (lv_at hl 0 rfl) ?_
  refine lv_iconst (v := 0) hx hb dX7_init_14 (by decide) ?_
  refine y_put (ref := "NoteHouse$Tape") F hP hD hS k10 rfl (fun _ h => List.mem_cons_of_mem _ (List.mem_append_right _ (h))) tyX7_ok nmX7 1 (Nat.le_of_ble_eq_true rfl) (List.mem_cons_of_mem _ (List.mem_append_left _ (List.mem_of_getElem? (i := 5) rfl))) rfl rfl rfl rfl (Nat.le_of_ble_eq_true rfl) dX7_init_15 (fun w13 ew14 H locs hP hD hS => ?_)
  have k15 : wd_at w13 y (.inr (7, [.ref q1, .int 0, .int 0])) := wd_at.ps ew14 k10
  have k16 := wd_at.pt ew14 k11 (Ne.symm (wd_nL hq4 hy))
  have kp17 := kp12.put ew14 sy
  refine lv_aload_n hx hb dX7_init_18 rfl (lv_at hl 0 rfl) ?_
  refine lv_iconst (v := 0) hx hb dX7_init_19 (by decide) ?_
  refine y_put (ref := "NoteHouse$Tape") F hP hD hS k15 rfl (fun _ h => List.mem_cons_of_mem _ (List.mem_append_right _ (h))) tyX7_ok nmX7 2 (Nat.le_of_ble_eq_true rfl) (List.mem_cons_of_mem _ (List.mem_append_left _ (List.mem_of_getElem? (i := 6) rfl))) rfl rfl rfl rfl (Nat.le_of_ble_eq_true rfl) dX7_init_20 (fun w18 ew19 H locs hP hD hS => ?_)
  have k20 : wd_at w18 y (.inr (7, [.ref q1, .int 0, .int 0])) := wd_at.ps ew19 k15
  have k21 := wd_at.pt ew19 k16 (Ne.symm (wd_nL hq4 hy))
  have kp22 := kp17.put ew19 sy
  exact y_vr K hP hD hS (Nat.le_of_ble_eq_true rfl) (Nat.le_of_ble_eq_true rfl) rfl dX7_init_23 (⟨rfl, kp22, q1, k20, k21⟩)
set_option maxHeartbeats 4000000 in
set_option maxRecDepth 100000 in
theorem c_X2_init (l : Launch) (D : va_G) (cy : Nat → ClassId) (w : Wd) (y : Nat) (hy : wd_at w y (.inr (2, [.null, .int 0, .int 0])))  (S : Nat → Prop) (sy : S y)  : Ct l D cy yX2_init wsX2_init ({ frames := 1, cells := 1, slots := 4, locals := 20 }) [.ref y] w (fun v w1 => v = none ∧ wd_kp S w w1 ∧ ∃ (b : Nat) (g : Nat → Int32), (g 0 = 1 ∧ g 1 = 1 ∧ g 2 = 0 ∧ g 3 = 2) ∧ wd_at w1 y (.inr (2, [.ref b, .int 10, .int 0])) ∧ wd_at w1 b (.inl (cy 2, 4, .inl g))) := by
  refine Ct.by (cc := cX2_init) (maxL := 1) (ret := none) (by decide +kernel) rfl (Nat.le_of_ble_eq_true rfl) ?_
  intro p e s m args below meth c A Q F hnm K ls hl
  have F : wd_Fx p s m args meth c cX2_init 1 wsX2_init RX2 D cy A := F
  have hl : lv_has ls 1 [(0, .ref y)] := hl
  have hx := F.1.1
  have hb := F.1.2.1
  have hown := F.1.2.2.2.1
  have hts := F.1.2.2.2.2
  intro H locs hP hD hS
  have kp0 : wd_kp S w w := wd_kp.rf
  refine lv_aload_n hx hb dX2_init_0 rfl (lv_at hl 0 rfl) ?_
  refine x_objInit F (List.mem_cons_of_mem _ (List.mem_append_left _ (List.mem_of_getElem? (i := 0) rfl))) (List.mem_cons_of_mem _ (List.mem_append_left _ (List.mem_of_getElem? (i := 1) rfl))) (List.mem_cons_of_mem _ (List.mem_append_left _ (List.mem_of_getElem? (i := 2) rfl))) hl.1 dX2_init_1 (Nat.le_of_ble_eq_true rfl) (Nat.le_of_ble_eq_true rfl) ?_
  refine lv_aload_n hx hb dX2_init_4 rfl (lv_at hl 0 rfl) ?_
  refine lv_iconst (v := 4) hx hb dX2_init_5 (by decide) ?_
  refine y_newI (N := 4) F hP hD hS (List.mem_cons_of_mem _ (List.mem_append_left _ (List.mem_of_getElem? (i := 3) rfl))) (by decide) (by decide) (by decide) (Nat.le_of_ble_eq_true rfl) (Nat.le_of_ble_eq_true rfl) dX2_init_6 (fun q1 w2 ew3 hq4 H hP hD hS => ?_)
  refine W.widen (k := 1) (n := 4) (Nat.le_of_ble_eq_true rfl) (Nat.le_of_ble_eq_true rfl) ?_
  have k5 := wd_at.ad ew3 hq4 hy
  have k6 : wd_at w2 q1 (.inl (cy 2, 4, .inl (fun _ => 0))) := wd_at.nw ew3
  have kp7 := kp0.add ew3 hq4
  refine y_putF (ref := "NoteHouse$Law") F hP hD hS k5 rfl (fun _ h => List.mem_cons_of_mem _ (List.mem_append_right _ (h))) tyX2_ok nmX2 hnm 0 (Nat.le_of_ble_eq_true rfl) (List.mem_cons_of_mem _ (List.mem_append_left _ (List.mem_of_getElem? (i := 4) rfl))) rfl rfl rfl rfl rfl (Nat.le_of_ble_eq_true rfl) dX2_init_8 (fun w8 ew9 H locs hP hD hS => ?_)
  have k10 : wd_at w8 y (.inr (2, [.ref q1, .int 0, .int 0])) := wd_at.ps ew9 k5
  have k11 := wd_at.pt ew9 k6 (Ne.symm (wd_nL hq4 hy))
  have kp12 := kp7.put ew9 sy
  refine lv_aload_n hx hb dX2_init_11 rfl (lv_at hl 0 rfl) ?_
  refine x_callV (n := 0) (As := []) (rest := []) F hP hD hS (c_X2_forget l D cy w8 y q1 (fun _ => 0) 0 0 k10 k11 (fun b => b = y ∨ b = q1) (Or.inl rfl) (Or.inr rfl)) gX2_init_X2_forget rfl rfl (by decide +kernel) ⟨(Nat.le_of_ble_eq_true rfl), (Nat.le_of_ble_eq_true rfl)⟩ rfl hl.1 (Nat.le_of_ble_eq_true rfl) k10 rfl dX2_init_12 rfl ⟨(Nat.le_of_ble_eq_true rfl), (Nat.le_of_ble_eq_true rfl)⟩ (fun v14 w15 hp13 H locs hP hD hS => ?_)
  obtain ⟨rfl, hp13, k18, g16, hg17, k19⟩ := hp13
  have kp20 := kp12.tr hp13 (fun b hm q => (fun q => Or.elim q (fun q => q ▸ sy) (fun q => absurd (q ▸ hm) (kp0.out hq4))) q)
  refine W.eq (g2 := F0 m 15 ls []) rfl (W.widen (k := 1) (n := 4) (Nat.le_of_ble_eq_true rfl) (Nat.le_of_ble_eq_true rfl) ?_)
  exact y_vr K hP hD hS (Nat.le_of_ble_eq_true rfl) (Nat.le_of_ble_eq_true rfl) rfl dX2_init_15 (⟨rfl, kp20, q1, g16, hg17, k18, k19⟩)
set_option maxHeartbeats 4000000 in
set_option maxRecDepth 100000 in
theorem c_X9_init (l : Launch) (D : va_G) (cy : Nat → ClassId) (w : Wd) (y : Nat) (hy : wd_at w y (.inr (9, [.null, .null, .null, .null])))  (S : Nat → Prop) (sy : S y)  : Ct l D cy yX9_init wsX9_init ({ frames := 1, cells := 4, slots := 312, locals := 23 }) [.ref y] w (fun v w1 => v = none ∧ wd_kp S w w1 ∧ ∃ (b0 b1 b2 b3 : Nat) (f g : Nat → Int32), b0 ≠ b1 ∧ (∀ j, j < 144 → f j = 1000000) ∧ (∀ j, j < 144 → g j = 1000000) ∧ wd_at w1 y (.inr (9, [.ref b0, .ref b1, .ref b2, .ref b3])) ∧ wd_at w1 b0 (.inl (cy 2, 144, .inl f)) ∧ wd_at w1 b1 (.inl (cy 2, 144, .inl g)) ∧ wd_at w1 b2 (.inl (cy 2, 12, .inl (fun _ => 0))) ∧ wd_at w1 b3 (.inl (cy 4, 12, .inl (fun _ => 0)))) := by
  refine Ct.by (cc := cX9_init) (maxL := 1) (ret := none) (by decide +kernel) rfl (Nat.le_of_ble_eq_true rfl) ?_
  intro p e s m args below meth c A Q F hnm K ls hl
  have F : wd_Fx p s m args meth c cX9_init 1 wsX9_init RX9 D cy A := F
  have hl : lv_has ls 1 [(0, .ref y)] := hl
  have hx := F.1.1
  have hb := F.1.2.1
  have hown := F.1.2.2.2.1
  have hts := F.1.2.2.2.2
  intro H locs hP hD hS
  have kp0 : wd_kp S w w := wd_kp.rf
  refine lv_aload_n hx hb dX9_init_0 rfl (lv_at hl 0 rfl) ?_
  refine x_objInit F (List.mem_cons_of_mem _ (List.mem_append_left _ (List.mem_of_getElem? (i := 0) rfl))) (List.mem_cons_of_mem _ (List.mem_append_left _ (List.mem_of_getElem? (i := 1) rfl))) (List.mem_cons_of_mem _ (List.mem_append_left _ (List.mem_of_getElem? (i := 2) rfl))) hl.1 dX9_init_1 (Nat.le_of_ble_eq_true rfl) (Nat.le_of_ble_eq_true rfl) ?_
  refine lv_aload_n hx hb dX9_init_4 rfl (lv_at hl 0 rfl) ?_
  refine lv_sipush (v := 144) hx hb dX9_init_5 (by decide) ?_
  refine y_newI (N := 144) F hP hD hS (List.mem_cons_of_mem _ (List.mem_append_left _ (List.mem_of_getElem? (i := 3) rfl))) (by decide) (by decide) (by decide) (Nat.le_of_ble_eq_true rfl) (Nat.le_of_ble_eq_true rfl) dX9_init_8 (fun q1 w2 ew3 hq4 H hP hD hS => ?_)
  refine W.widen (k := 1) (n := 144) (Nat.le_of_ble_eq_true rfl) (Nat.le_of_ble_eq_true rfl) ?_
  have k5 := wd_at.ad ew3 hq4 hy
  have k6 : wd_at w2 q1 (.inl (cy 2, 144, .inl (fun _ => 0))) := wd_at.nw ew3
  have kp7 := kp0.add ew3 hq4
  refine y_putF (ref := "NoteHouse$Ways") F hP hD hS k5 rfl (fun _ h => List.mem_cons_of_mem _ (List.mem_append_right _ (h))) tyX9_ok nmX9 hnm 0 (Nat.le_of_ble_eq_true rfl) (List.mem_cons_of_mem _ (List.mem_append_left _ (List.mem_of_getElem? (i := 4) rfl))) rfl rfl rfl rfl rfl (Nat.le_of_ble_eq_true rfl) dX9_init_10 (fun w8 ew9 H locs hP hD hS => ?_)
  have k10 : wd_at w8 y (.inr (9, [.ref q1, .null, .null, .null])) := wd_at.ps ew9 k5
  have k11 := wd_at.pt ew9 k6 (Ne.symm (wd_nL hq4 hy))
  have kp12 := kp7.put ew9 sy
  refine lv_aload_n hx hb dX9_init_13 rfl (lv_at hl 0 rfl) ?_
  refine lv_sipush (v := 144) hx hb dX9_init_14 (by decide) ?_
  refine y_newI (N := 144) F hP hD hS (List.mem_cons_of_mem _ (List.mem_append_left _ (List.mem_of_getElem? (i := 3) rfl))) (by decide) (by decide) (by decide) (Nat.le_of_ble_eq_true rfl) (Nat.le_of_ble_eq_true rfl) dX9_init_17 (fun q13 w14 ew15 hq16 H hP hD hS => ?_)
  refine W.widen (k := 2) (n := 288) (Nat.le_of_ble_eq_true rfl) (Nat.le_of_ble_eq_true rfl) ?_
  have k17 := wd_at.ad ew15 hq16 k10
  have k18 := wd_at.ad ew15 hq16 k11
  have k19 : wd_at w14 q13 (.inl (cy 2, 144, .inl (fun _ => 0))) := wd_at.nw ew15
  have kp20 := kp12.add ew15 hq16
  refine y_putF (ref := "NoteHouse$Ways") F hP hD hS k17 rfl (fun _ h => List.mem_cons_of_mem _ (List.mem_append_right _ (h))) tyX9_ok nmX9 hnm 1 (Nat.le_of_ble_eq_true rfl) (List.mem_cons_of_mem _ (List.mem_append_left _ (List.mem_of_getElem? (i := 5) rfl))) rfl rfl rfl rfl rfl (Nat.le_of_ble_eq_true rfl) dX9_init_19 (fun w21 ew22 H locs hP hD hS => ?_)
  have k23 : wd_at w21 y (.inr (9, [.ref q1, .ref q13, .null, .null])) := wd_at.ps ew22 k17
  have k24 := wd_at.pt ew22 k18 (Ne.symm (wd_nL hq4 hy))
  have k25 := wd_at.pt ew22 k19 (Ne.symm (wd_nL hq16 k10))
  have kp26 := kp20.put ew22 sy
  refine lv_aload_n hx hb dX9_init_22 rfl (lv_at hl 0 rfl) ?_
  refine lv_bipush (v := 12) hx hb dX9_init_23 (by decide) ?_
  refine y_newI (N := 12) F hP hD hS (List.mem_cons_of_mem _ (List.mem_append_left _ (List.mem_of_getElem? (i := 3) rfl))) (by decide) (by decide) (by decide) (Nat.le_of_ble_eq_true rfl) (Nat.le_of_ble_eq_true rfl) dX9_init_25 (fun q27 w28 ew29 hq30 H hP hD hS => ?_)
  refine W.widen (k := 3) (n := 300) (Nat.le_of_ble_eq_true rfl) (Nat.le_of_ble_eq_true rfl) ?_
  have k31 := wd_at.ad ew29 hq30 k23
  have k32 := wd_at.ad ew29 hq30 k24
  have k33 := wd_at.ad ew29 hq30 k25
  have k34 : wd_at w28 q27 (.inl (cy 2, 12, .inl (fun _ => 0))) := wd_at.nw ew29
  have kp35 := kp26.add ew29 hq30
  refine y_putF (ref := "NoteHouse$Ways") F hP hD hS k31 rfl (fun _ h => List.mem_cons_of_mem _ (List.mem_append_right _ (h))) tyX9_ok nmX9 hnm 2 (Nat.le_of_ble_eq_true rfl) (List.mem_cons_of_mem _ (List.mem_append_left _ (List.mem_of_getElem? (i := 6) rfl))) rfl rfl rfl rfl rfl (Nat.le_of_ble_eq_true rfl) dX9_init_27 (fun w36 ew37 H locs hP hD hS => ?_)
  have k38 : wd_at w36 y (.inr (9, [.ref q1, .ref q13, .ref q27, .null])) := wd_at.ps ew37 k31
  have k39 := wd_at.pt ew37 k32 (Ne.symm (wd_nL hq4 hy))
  have k40 := wd_at.pt ew37 k33 (Ne.symm (wd_nL hq16 k10))
  have k41 := wd_at.pt ew37 k34 (Ne.symm (wd_nL hq30 k23))
  have kp42 := kp35.put ew37 sy
  refine lv_aload_n hx hb dX9_init_30 rfl (lv_at hl 0 rfl) ?_
  refine lv_bipush (v := 12) hx hb dX9_init_31 (by decide) ?_
  refine y_newZ (N := 12) F hP hD hS (List.mem_cons_of_mem _ (List.mem_append_left _ (List.mem_of_getElem? (i := 7) rfl))) (by decide) (by decide) (by decide) (Nat.le_of_ble_eq_true rfl) (Nat.le_of_ble_eq_true rfl) dX9_init_33 (fun q43 w44 ew45 hq46 H hP hD hS => ?_)
  refine W.widen (k := 4) (n := 312) (Nat.le_of_ble_eq_true rfl) (Nat.le_of_ble_eq_true rfl) ?_
  have k47 := wd_at.ad ew45 hq46 k38
  have k48 := wd_at.ad ew45 hq46 k39
  have k49 := wd_at.ad ew45 hq46 k40
  have k50 := wd_at.ad ew45 hq46 k41
  have k51 : wd_at w44 q43 (.inl (cy 4, 12, .inl (fun _ => 0))) := wd_at.nw ew45
  have kp52 := kp42.add ew45 hq46
  refine y_putF (ref := "NoteHouse$Ways") F hP hD hS k47 rfl (fun _ h => List.mem_cons_of_mem _ (List.mem_append_right _ (h))) tyX9_ok nmX9 hnm 3 (Nat.le_of_ble_eq_true rfl) (List.mem_cons_of_mem _ (List.mem_append_left _ (List.mem_of_getElem? (i := 8) rfl))) rfl rfl rfl rfl rfl (Nat.le_of_ble_eq_true rfl) dX9_init_35 (fun w53 ew54 H locs hP hD hS => ?_)
  have k55 : wd_at w53 y (.inr (9, [.ref q1, .ref q13, .ref q27, .ref q43])) := wd_at.ps ew54 k47
  have k56 := wd_at.pt ew54 k48 (Ne.symm (wd_nL hq4 hy))
  have k57 := wd_at.pt ew54 k49 (Ne.symm (wd_nL hq16 k10))
  have k58 := wd_at.pt ew54 k50 (Ne.symm (wd_nL hq30 k23))
  have k59 := wd_at.pt ew54 k51 (Ne.symm (wd_nL hq46 k38))
  have kp60 := kp52.put ew54 sy
  refine lv_aload_n hx hb dX9_init_38 rfl (lv_at hl 0 rfl) ?_
  refine x_get (ref := "NoteHouse$Ways") F hP k55 rfl (fun _ h => List.mem_cons_of_mem _ (List.mem_append_right _ (h))) 0 (Nat.le_of_ble_eq_true rfl) (List.mem_cons_of_mem _ (List.mem_append_left _ (List.mem_of_getElem? (i := 4) rfl))) rfl rfl dX9_init_39 ?_
  refine lv_ldc (v := 1000000) hx hb hown (hts _ (List.mem_cons_of_mem _ (List.mem_append_left _ (List.mem_of_getElem? (i := 9) rfl)))) dX9_init_42 ?_
  refine x_callS (n := 2) (As := [.ref q1, .int 1000000]) (rest := []) F hP hD hS (c_J7_fill_53178 l D cy w53 q1 144 (fun _ => 0) 1000000 k56 (fun b => b = q1) rfl (by decide)) gX9_init_J7_fill_53178 rfl (by decide +kernel) ⟨(Nat.le_of_ble_eq_true rfl), (Nat.le_of_ble_eq_true rfl)⟩ rfl hl.1 (Nat.le_of_ble_eq_true rfl) dX9_init_44 rfl ⟨(Nat.le_of_ble_eq_true rfl), (Nat.le_of_ble_eq_true rfl)⟩ (fun v62 w63 hp61 H locs hP hD hS => ?_)
  obtain ⟨rfl, hp61, g64, hg65, k66⟩ := hp61
  have k67 := hp61.2 _ _ k55 (fun q : y = q1 => (wd_nL hq4 hy) q)
  have k68 := hp61.2 _ _ k57 (fun q : q13 = q1 => (Ne.symm (wd_nL hq16 k11)) q)
  have k69 := hp61.2 _ _ k58 (fun q : q27 = q1 => (Ne.symm (wd_nL hq30 k24)) q)
  have k70 := hp61.2 _ _ k59 (fun q : q43 = q1 => (Ne.symm (wd_nL hq46 k39)) q)
  have kp71 := kp60.tr hp61 (fun b hm q => (fun q => absurd (q ▸ hm) (kp0.out hq4)) q)
  refine W.eq (g2 := F0 m 47 ls []) rfl (W.widen (k := 4) (n := 312) (Nat.le_of_ble_eq_true rfl) (Nat.le_of_ble_eq_true rfl) ?_)
  refine lv_aload_n hx hb dX9_init_47 rfl (lv_at hl 0 rfl) ?_
  refine x_get (ref := "NoteHouse$Ways") F hP k67 rfl (fun _ h => List.mem_cons_of_mem _ (List.mem_append_right _ (h))) 1 (Nat.le_of_ble_eq_true rfl) (List.mem_cons_of_mem _ (List.mem_append_left _ (List.mem_of_getElem? (i := 5) rfl))) rfl rfl dX9_init_48 ?_
  refine lv_ldc (v := 1000000) hx hb hown (hts _ (List.mem_cons_of_mem _ (List.mem_append_left _ (List.mem_of_getElem? (i := 9) rfl)))) dX9_init_51 ?_
  refine x_callS (n := 2) (As := [.ref q13, .int 1000000]) (rest := []) F hP hD hS (c_J7_fill_53178 l D cy w63 q13 144 (fun _ => 0) 1000000 k68 (fun b => b = q13) rfl (by decide)) gX9_init_J7_fill_53178 rfl (by decide +kernel) ⟨(Nat.le_of_ble_eq_true rfl), (Nat.le_of_ble_eq_true rfl)⟩ rfl hl.1 (Nat.le_of_ble_eq_true rfl) dX9_init_53 rfl ⟨(Nat.le_of_ble_eq_true rfl), (Nat.le_of_ble_eq_true rfl)⟩ (fun v73 w74 hp72 H locs hP hD hS => ?_)
  obtain ⟨rfl, hp72, g75, hg76, k77⟩ := hp72
  have k78 := hp72.2 _ _ k67 (fun q : y = q13 => (wd_nL hq16 k10) q)
  have k79 := hp72.2 _ _ k66 (fun q : q1 = q13 => (wd_nL hq16 k11) q)
  have k80 := hp72.2 _ _ k69 (fun q : q27 = q13 => (Ne.symm (wd_nL hq30 k25)) q)
  have k81 := hp72.2 _ _ k70 (fun q : q43 = q13 => (Ne.symm (wd_nL hq46 k40)) q)
  have kp82 := kp71.tr hp72 (fun b hm q => (fun q => absurd (q ▸ hm) (kp12.out hq16)) q)
  refine W.eq (g2 := F0 m 56 ls []) rfl (W.widen (k := 4) (n := 312) (Nat.le_of_ble_eq_true rfl) (Nat.le_of_ble_eq_true rfl) ?_)
  exact y_vr K hP hD hS (Nat.le_of_ble_eq_true rfl) (Nat.le_of_ble_eq_true rfl) rfl dX9_init_56 (⟨rfl, kp82, q1, q13, q27, q43, g64, g75, (wd_nL hq16 k11), hg65, hg76, k78, k79, k77, k80, k81⟩)
set_option maxHeartbeats 4000000 in
set_option maxRecDepth 100000 in
theorem c_X4_init (l : Launch) (D : va_G) (cy : Nat → ClassId) (w : Wd) (y : Nat) (hy : wd_at w y (.inr (4, [.null, .null, .null, .null, .null, .null, .null, .null, .int 0, .int 0])))  (S : Nat → Prop) (sy : S y)  : Ct l D cy yX4_init wsX4_init ({ frames := 1, cells := 8, slots := 472, locals := 23 }) [.ref y] w (fun v w1 => v = none ∧ wd_kp S w w1 ∧ ∃ (l0 l1 l2 l3 l4 l5 l6 l7 : Nat) (g : Nat → Int32), (∀ j, j < 200 → g j = -1) ∧ l2 ≠ l3 ∧ wd_at w1 y (.inr (4, [.ref l0, .ref l1, .ref l2, .ref l3, .ref l4, .ref l5, .ref l6, .ref l7, .int 0, .int 0])) ∧ wd_at w1 l0 (.inl (cy 2, 200, .inl g)) ∧ wd_at w1 l2 (.inl (cy 3, 12, .inr (.inl (fun _ => 0)))) ∧ wd_at w1 l3 (.inl (cy 3, 12, .inr (.inl (fun _ => 0))))) := by
  refine Ct.by (cc := cX4_init) (maxL := 1) (ret := none) (by decide +kernel) rfl (Nat.le_of_ble_eq_true rfl) ?_
  intro p e s m args below meth c A Q F hnm K ls hl
  have F : wd_Fx p s m args meth c cX4_init 1 wsX4_init RX4 D cy A := F
  have hl : lv_has ls 1 [(0, .ref y)] := hl
  have hx := F.1.1
  have hb := F.1.2.1
  have hown := F.1.2.2.2.1
  have hts := F.1.2.2.2.2
  intro H locs hP hD hS
  have kp0 : wd_kp S w w := wd_kp.rf
  refine lv_aload_n hx hb dX4_init_0 rfl (lv_at hl 0 rfl) ?_
  refine x_objInit F (List.mem_cons_of_mem _ (List.mem_append_left _ (List.mem_of_getElem? (i := 0) rfl))) (List.mem_cons_of_mem _ (List.mem_append_left _ (List.mem_of_getElem? (i := 1) rfl))) (List.mem_cons_of_mem _ (List.mem_append_left _ (List.mem_of_getElem? (i := 2) rfl))) hl.1 dX4_init_1 (Nat.le_of_ble_eq_true rfl) (Nat.le_of_ble_eq_true rfl) ?_
  refine lv_aload_n hx hb dX4_init_4 rfl (lv_at hl 0 rfl) ?_
  refine lv_sipush (v := 200) hx hb dX4_init_5 (by decide) ?_
  refine y_newI (N := 200) F hP hD hS (List.mem_cons_of_mem _ (List.mem_append_left _ (List.mem_of_getElem? (i := 3) rfl))) (by decide) (by decide) (by decide) (Nat.le_of_ble_eq_true rfl) (Nat.le_of_ble_eq_true rfl) dX4_init_8 (fun q1 w2 ew3 hq4 H hP hD hS => ?_)
  refine W.widen (k := 1) (n := 200) (Nat.le_of_ble_eq_true rfl) (Nat.le_of_ble_eq_true rfl) ?_
  have k5 := wd_at.ad ew3 hq4 hy
  have k6 : wd_at w2 q1 (.inl (cy 2, 200, .inl (fun _ => 0))) := wd_at.nw ew3
  have kp7 := kp0.add ew3 hq4
  refine y_putF (ref := "NoteHouse$Settlement") F hP hD hS k5 rfl (fun _ h => List.mem_cons_of_mem _ (List.mem_append_right _ (h))) tyX4_ok nmX4 hnm 0 (Nat.le_of_ble_eq_true rfl) (List.mem_cons_of_mem _ (List.mem_append_left _ (List.mem_of_getElem? (i := 4) rfl))) rfl rfl rfl rfl rfl (Nat.le_of_ble_eq_true rfl) dX4_init_10 (fun w8 ew9 H locs hP hD hS => ?_)
  have k10 : wd_at w8 y (.inr (4, [.ref q1, .null, .null, .null, .null, .null, .null, .null, .int 0, .int 0])) := wd_at.ps ew9 k5
  have k11 := wd_at.pt ew9 k6 (Ne.symm (wd_nL hq4 hy))
  have kp12 := kp7.put ew9 sy
  refine lv_aload_n hx hb dX4_init_13 rfl (lv_at hl 0 rfl) ?_
  refine lv_sipush (v := 200) hx hb dX4_init_14 (by decide) ?_
  refine y_newI (N := 200) F hP hD hS (List.mem_cons_of_mem _ (List.mem_append_left _ (List.mem_of_getElem? (i := 3) rfl))) (by decide) (by decide) (by decide) (Nat.le_of_ble_eq_true rfl) (Nat.le_of_ble_eq_true rfl) dX4_init_17 (fun q13 w14 ew15 hq16 H hP hD hS => ?_)
  refine W.widen (k := 2) (n := 400) (Nat.le_of_ble_eq_true rfl) (Nat.le_of_ble_eq_true rfl) ?_
  have k17 := wd_at.ad ew15 hq16 k10
  have k18 := wd_at.ad ew15 hq16 k11
  have k19 : wd_at w14 q13 (.inl (cy 2, 200, .inl (fun _ => 0))) := wd_at.nw ew15
  have kp20 := kp12.add ew15 hq16
  refine y_putF (ref := "NoteHouse$Settlement") F hP hD hS k17 rfl (fun _ h => List.mem_cons_of_mem _ (List.mem_append_right _ (h))) tyX4_ok nmX4 hnm 1 (Nat.le_of_ble_eq_true rfl) (List.mem_cons_of_mem _ (List.mem_append_left _ (List.mem_of_getElem? (i := 5) rfl))) rfl rfl rfl rfl rfl (Nat.le_of_ble_eq_true rfl) dX4_init_19 (fun w21 ew22 H locs hP hD hS => ?_)
  have k23 : wd_at w21 y (.inr (4, [.ref q1, .ref q13, .null, .null, .null, .null, .null, .null, .int 0, .int 0])) := wd_at.ps ew22 k17
  have k24 := wd_at.pt ew22 k18 (Ne.symm (wd_nL hq4 hy))
  have k25 := wd_at.pt ew22 k19 (Ne.symm (wd_nL hq16 k10))
  have kp26 := kp20.put ew22 sy
  refine lv_aload_n hx hb dX4_init_22 rfl (lv_at hl 0 rfl) ?_
  refine lv_bipush (v := 12) hx hb dX4_init_23 (by decide) ?_
  refine y_newJ (N := 12) F hP hD hS (List.mem_cons_of_mem _ (List.mem_append_left _ (List.mem_of_getElem? (i := 6) rfl))) (by decide) (by decide) (by decide) (Nat.le_of_ble_eq_true rfl) (Nat.le_of_ble_eq_true rfl) dX4_init_25 (fun q27 w28 ew29 hq30 H hP hD hS => ?_)
  refine W.widen (k := 3) (n := 412) (Nat.le_of_ble_eq_true rfl) (Nat.le_of_ble_eq_true rfl) ?_
  have k31 := wd_at.ad ew29 hq30 k23
  have k32 := wd_at.ad ew29 hq30 k24
  have k33 := wd_at.ad ew29 hq30 k25
  have k34 : wd_at w28 q27 (.inl (cy 3, 12, .inr (.inl (fun _ => 0)))) := wd_at.nw ew29
  have kp35 := kp26.add ew29 hq30
  refine y_putF (ref := "NoteHouse$Settlement") F hP hD hS k31 rfl (fun _ h => List.mem_cons_of_mem _ (List.mem_append_right _ (h))) tyX4_ok nmX4 hnm 2 (Nat.le_of_ble_eq_true rfl) (List.mem_cons_of_mem _ (List.mem_append_left _ (List.mem_of_getElem? (i := 7) rfl))) rfl rfl rfl rfl rfl (Nat.le_of_ble_eq_true rfl) dX4_init_27 (fun w36 ew37 H locs hP hD hS => ?_)
  have k38 : wd_at w36 y (.inr (4, [.ref q1, .ref q13, .ref q27, .null, .null, .null, .null, .null, .int 0, .int 0])) := wd_at.ps ew37 k31
  have k39 := wd_at.pt ew37 k32 (Ne.symm (wd_nL hq4 hy))
  have k40 := wd_at.pt ew37 k33 (Ne.symm (wd_nL hq16 k10))
  have k41 := wd_at.pt ew37 k34 (Ne.symm (wd_nL hq30 k23))
  have kp42 := kp35.put ew37 sy
  refine lv_aload_n hx hb dX4_init_30 rfl (lv_at hl 0 rfl) ?_
  refine lv_bipush (v := 12) hx hb dX4_init_31 (by decide) ?_
  refine y_newJ (N := 12) F hP hD hS (List.mem_cons_of_mem _ (List.mem_append_left _ (List.mem_of_getElem? (i := 6) rfl))) (by decide) (by decide) (by decide) (Nat.le_of_ble_eq_true rfl) (Nat.le_of_ble_eq_true rfl) dX4_init_33 (fun q43 w44 ew45 hq46 H hP hD hS => ?_)
  refine W.widen (k := 4) (n := 424) (Nat.le_of_ble_eq_true rfl) (Nat.le_of_ble_eq_true rfl) ?_
  have k47 := wd_at.ad ew45 hq46 k38
  have k48 := wd_at.ad ew45 hq46 k39
  have k49 := wd_at.ad ew45 hq46 k40
  have k50 := wd_at.ad ew45 hq46 k41
  have k51 : wd_at w44 q43 (.inl (cy 3, 12, .inr (.inl (fun _ => 0)))) := wd_at.nw ew45
  have kp52 := kp42.add ew45 hq46
  refine y_putF (ref := "NoteHouse$Settlement") F hP hD hS k47 rfl (fun _ h => List.mem_cons_of_mem _ (List.mem_append_right _ (h))) tyX4_ok nmX4 hnm 3 (Nat.le_of_ble_eq_true rfl) (List.mem_cons_of_mem _ (List.mem_append_left _ (List.mem_of_getElem? (i := 8) rfl))) rfl rfl rfl rfl rfl (Nat.le_of_ble_eq_true rfl) dX4_init_35 (fun w53 ew54 H locs hP hD hS => ?_)
  have k55 : wd_at w53 y (.inr (4, [.ref q1, .ref q13, .ref q27, .ref q43, .null, .null, .null, .null, .int 0, .int 0])) := wd_at.ps ew54 k47
  have k56 := wd_at.pt ew54 k48 (Ne.symm (wd_nL hq4 hy))
  have k57 := wd_at.pt ew54 k49 (Ne.symm (wd_nL hq16 k10))
  have k58 := wd_at.pt ew54 k50 (Ne.symm (wd_nL hq30 k23))
  have k59 := wd_at.pt ew54 k51 (Ne.symm (wd_nL hq46 k38))
  have kp60 := kp52.put ew54 sy
  refine lv_aload_n hx hb dX4_init_38 rfl (lv_at hl 0 rfl) ?_
  refine lv_bipush (v := 12) hx hb dX4_init_39 (by decide) ?_
  refine y_newI (N := 12) F hP hD hS (List.mem_cons_of_mem _ (List.mem_append_left _ (List.mem_of_getElem? (i := 3) rfl))) (by decide) (by decide) (by decide) (Nat.le_of_ble_eq_true rfl) (Nat.le_of_ble_eq_true rfl) dX4_init_41 (fun q61 w62 ew63 hq64 H hP hD hS => ?_)
  refine W.widen (k := 5) (n := 436) (Nat.le_of_ble_eq_true rfl) (Nat.le_of_ble_eq_true rfl) ?_
  have k65 := wd_at.ad ew63 hq64 k55
  have k66 := wd_at.ad ew63 hq64 k56
  have k67 := wd_at.ad ew63 hq64 k57
  have k68 := wd_at.ad ew63 hq64 k58
  have k69 := wd_at.ad ew63 hq64 k59
  have k70 : wd_at w62 q61 (.inl (cy 2, 12, .inl (fun _ => 0))) := wd_at.nw ew63
  have kp71 := kp60.add ew63 hq64
  refine y_putF (ref := "NoteHouse$Settlement") F hP hD hS k65 rfl (fun _ h => List.mem_cons_of_mem _ (List.mem_append_right _ (h))) tyX4_ok nmX4 hnm 4 (Nat.le_of_ble_eq_true rfl) (List.mem_cons_of_mem _ (List.mem_append_left _ (List.mem_of_getElem? (i := 9) rfl))) rfl rfl rfl rfl rfl (Nat.le_of_ble_eq_true rfl) dX4_init_43 (fun w72 ew73 H locs hP hD hS => ?_)
  have k74 : wd_at w72 y (.inr (4, [.ref q1, .ref q13, .ref q27, .ref q43, .ref q61, .null, .null, .null, .int 0, .int 0])) := wd_at.ps ew73 k65
  have k75 := wd_at.pt ew73 k66 (Ne.symm (wd_nL hq4 hy))
  have k76 := wd_at.pt ew73 k67 (Ne.symm (wd_nL hq16 k10))
  have k77 := wd_at.pt ew73 k68 (Ne.symm (wd_nL hq30 k23))
  have k78 := wd_at.pt ew73 k69 (Ne.symm (wd_nL hq46 k38))
  have k79 := wd_at.pt ew73 k70 (Ne.symm (wd_nL hq64 k55))
  have kp80 := kp71.put ew73 sy
  refine lv_aload_n hx hb dX4_init_46 rfl (lv_at hl 0 rfl) ?_
  refine lv_bipush (v := 12) hx hb dX4_init_47 (by decide) ?_
  refine y_newI (N := 12) F hP hD hS (List.mem_cons_of_mem _ (List.mem_append_left _ (List.mem_of_getElem? (i := 3) rfl))) (by decide) (by decide) (by decide) (Nat.le_of_ble_eq_true rfl) (Nat.le_of_ble_eq_true rfl) dX4_init_49 (fun q81 w82 ew83 hq84 H hP hD hS => ?_)
  refine W.widen (k := 6) (n := 448) (Nat.le_of_ble_eq_true rfl) (Nat.le_of_ble_eq_true rfl) ?_
  have k85 := wd_at.ad ew83 hq84 k74
  have k86 := wd_at.ad ew83 hq84 k75
  have k87 := wd_at.ad ew83 hq84 k76
  have k88 := wd_at.ad ew83 hq84 k77
  have k89 := wd_at.ad ew83 hq84 k78
  have k90 := wd_at.ad ew83 hq84 k79
  have k91 : wd_at w82 q81 (.inl (cy 2, 12, .inl (fun _ => 0))) := wd_at.nw ew83
  have kp92 := kp80.add ew83 hq84
  refine y_putF (ref := "NoteHouse$Settlement") F hP hD hS k85 rfl (fun _ h => List.mem_cons_of_mem _ (List.mem_append_right _ (h))) tyX4_ok nmX4 hnm 5 (Nat.le_of_ble_eq_true rfl) (List.mem_cons_of_mem _ (List.mem_append_left _ (List.mem_of_getElem? (i := 10) rfl))) rfl rfl rfl rfl rfl (Nat.le_of_ble_eq_true rfl) dX4_init_51 (fun w93 ew94 H locs hP hD hS => ?_)
  have k95 : wd_at w93 y (.inr (4, [.ref q1, .ref q13, .ref q27, .ref q43, .ref q61, .ref q81, .null, .null, .int 0, .int 0])) := wd_at.ps ew94 k85
  have k96 := wd_at.pt ew94 k86 (Ne.symm (wd_nL hq4 hy))
  have k97 := wd_at.pt ew94 k87 (Ne.symm (wd_nL hq16 k10))
  have k98 := wd_at.pt ew94 k88 (Ne.symm (wd_nL hq30 k23))
  have k99 := wd_at.pt ew94 k89 (Ne.symm (wd_nL hq46 k38))
  have k100 := wd_at.pt ew94 k90 (Ne.symm (wd_nL hq64 k55))
  have k101 := wd_at.pt ew94 k91 (Ne.symm (wd_nL hq84 k74))
  have kp102 := kp92.put ew94 sy
  refine lv_aload_n hx hb dX4_init_54 rfl (lv_at hl 0 rfl) ?_
  refine lv_bipush (v := 12) hx hb dX4_init_55 (by decide) ?_
  refine y_newJ (N := 12) F hP hD hS (List.mem_cons_of_mem _ (List.mem_append_left _ (List.mem_of_getElem? (i := 6) rfl))) (by decide) (by decide) (by decide) (Nat.le_of_ble_eq_true rfl) (Nat.le_of_ble_eq_true rfl) dX4_init_57 (fun q103 w104 ew105 hq106 H hP hD hS => ?_)
  refine W.widen (k := 7) (n := 460) (Nat.le_of_ble_eq_true rfl) (Nat.le_of_ble_eq_true rfl) ?_
  have k107 := wd_at.ad ew105 hq106 k95
  have k108 := wd_at.ad ew105 hq106 k96
  have k109 := wd_at.ad ew105 hq106 k97
  have k110 := wd_at.ad ew105 hq106 k98
  have k111 := wd_at.ad ew105 hq106 k99
  have k112 := wd_at.ad ew105 hq106 k100
  have k113 := wd_at.ad ew105 hq106 k101
  have k114 : wd_at w104 q103 (.inl (cy 3, 12, .inr (.inl (fun _ => 0)))) := wd_at.nw ew105
  have kp115 := kp102.add ew105 hq106
  refine y_putF (ref := "NoteHouse$Settlement") F hP hD hS k107 rfl (fun _ h => List.mem_cons_of_mem _ (List.mem_append_right _ (h))) tyX4_ok nmX4 hnm 6 (Nat.le_of_ble_eq_true rfl) (List.mem_cons_of_mem _ (List.mem_append_left _ (List.mem_of_getElem? (i := 11) rfl))) rfl rfl rfl rfl rfl (Nat.le_of_ble_eq_true rfl) dX4_init_59 (fun w116 ew117 H locs hP hD hS => ?_)
  have k118 : wd_at w116 y (.inr (4, [.ref q1, .ref q13, .ref q27, .ref q43, .ref q61, .ref q81, .ref q103, .null, .int 0, .int 0])) := wd_at.ps ew117 k107
  have k119 := wd_at.pt ew117 k108 (Ne.symm (wd_nL hq4 hy))
  have k120 := wd_at.pt ew117 k109 (Ne.symm (wd_nL hq16 k10))
  have k121 := wd_at.pt ew117 k110 (Ne.symm (wd_nL hq30 k23))
  have k122 := wd_at.pt ew117 k111 (Ne.symm (wd_nL hq46 k38))
  have k123 := wd_at.pt ew117 k112 (Ne.symm (wd_nL hq64 k55))
  have k124 := wd_at.pt ew117 k113 (Ne.symm (wd_nL hq84 k74))
  have k125 := wd_at.pt ew117 k114 (Ne.symm (wd_nL hq106 k95))
  have kp126 := kp115.put ew117 sy
  refine lv_aload_n hx hb dX4_init_62 rfl (lv_at hl 0 rfl) ?_
  refine lv_bipush (v := 12) hx hb dX4_init_63 (by decide) ?_
  refine y_newI (N := 12) F hP hD hS (List.mem_cons_of_mem _ (List.mem_append_left _ (List.mem_of_getElem? (i := 3) rfl))) (by decide) (by decide) (by decide) (Nat.le_of_ble_eq_true rfl) (Nat.le_of_ble_eq_true rfl) dX4_init_65 (fun q127 w128 ew129 hq130 H hP hD hS => ?_)
  refine W.widen (k := 8) (n := 472) (Nat.le_of_ble_eq_true rfl) (Nat.le_of_ble_eq_true rfl) ?_
  have k131 := wd_at.ad ew129 hq130 k118
  have k132 := wd_at.ad ew129 hq130 k119
  have k133 := wd_at.ad ew129 hq130 k120
  have k134 := wd_at.ad ew129 hq130 k121
  have k135 := wd_at.ad ew129 hq130 k122
  have k136 := wd_at.ad ew129 hq130 k123
  have k137 := wd_at.ad ew129 hq130 k124
  have k138 := wd_at.ad ew129 hq130 k125
  have k139 : wd_at w128 q127 (.inl (cy 2, 12, .inl (fun _ => 0))) := wd_at.nw ew129
  have kp140 := kp126.add ew129 hq130
  refine y_putF (ref := "NoteHouse$Settlement") F hP hD hS k131 rfl (fun _ h => List.mem_cons_of_mem _ (List.mem_append_right _ (h))) tyX4_ok nmX4 hnm 7 (Nat.le_of_ble_eq_true rfl) (List.mem_cons_of_mem _ (List.mem_append_left _ (List.mem_of_getElem? (i := 12) rfl))) rfl rfl rfl rfl rfl (Nat.le_of_ble_eq_true rfl) dX4_init_67 (fun w141 ew142 H locs hP hD hS => ?_)
  have k143 : wd_at w141 y (.inr (4, [.ref q1, .ref q13, .ref q27, .ref q43, .ref q61, .ref q81, .ref q103, .ref q127, .int 0, .int 0])) := wd_at.ps ew142 k131
  have k144 := wd_at.pt ew142 k132 (Ne.symm (wd_nL hq4 hy))
  have k145 := wd_at.pt ew142 k133 (Ne.symm (wd_nL hq16 k10))
  have k146 := wd_at.pt ew142 k134 (Ne.symm (wd_nL hq30 k23))
  have k147 := wd_at.pt ew142 k135 (Ne.symm (wd_nL hq46 k38))
  have k148 := wd_at.pt ew142 k136 (Ne.symm (wd_nL hq64 k55))
  have k149 := wd_at.pt ew142 k137 (Ne.symm (wd_nL hq84 k74))
  have k150 := wd_at.pt ew142 k138 (Ne.symm (wd_nL hq106 k95))
  have k151 := wd_at.pt ew142 k139 (Ne.symm (wd_nL hq130 k118))
  have kp152 := kp140.put ew142 sy
  refine lv_aload_n hx hb dX4_init_70 rfl (lv_at hl 0 rfl) ?_
  refine lv_iconst (v := 0) hx hb dX4_init_71 (by decide) ?_
  refine y_put (ref := "NoteHouse$Settlement") F hP hD hS k143 rfl (fun _ h => List.mem_cons_of_mem _ (List.mem_append_right _ (h))) tyX4_ok nmX4 8 (Nat.le_of_ble_eq_true rfl) (List.mem_cons_of_mem _ (List.mem_append_left _ (List.mem_of_getElem? (i := 13) rfl))) rfl rfl rfl rfl (Nat.le_of_ble_eq_true rfl) dX4_init_72 (fun w153 ew154 H locs hP hD hS => ?_)
  have k155 : wd_at w153 y (.inr (4, [.ref q1, .ref q13, .ref q27, .ref q43, .ref q61, .ref q81, .ref q103, .ref q127, .int 0, .int 0])) := wd_at.ps ew154 k143
  have k156 := wd_at.pt ew154 k144 (Ne.symm (wd_nL hq4 hy))
  have k157 := wd_at.pt ew154 k145 (Ne.symm (wd_nL hq16 k10))
  have k158 := wd_at.pt ew154 k146 (Ne.symm (wd_nL hq30 k23))
  have k159 := wd_at.pt ew154 k147 (Ne.symm (wd_nL hq46 k38))
  have k160 := wd_at.pt ew154 k148 (Ne.symm (wd_nL hq64 k55))
  have k161 := wd_at.pt ew154 k149 (Ne.symm (wd_nL hq84 k74))
  have k162 := wd_at.pt ew154 k150 (Ne.symm (wd_nL hq106 k95))
  have k163 := wd_at.pt ew154 k151 (Ne.symm (wd_nL hq130 k118))
  have kp164 := kp152.put ew154 sy
  refine lv_aload_n hx hb dX4_init_75 rfl (lv_at hl 0 rfl) ?_
  refine lv_iconst (v := 0) hx hb dX4_init_76 (by decide) ?_
  refine y_put (ref := "NoteHouse$Settlement") F hP hD hS k155 rfl (fun _ h => List.mem_cons_of_mem _ (List.mem_append_right _ (h))) tyX4_ok nmX4 9 (Nat.le_of_ble_eq_true rfl) (List.mem_cons_of_mem _ (List.mem_append_left _ (List.mem_of_getElem? (i := 14) rfl))) rfl rfl rfl rfl (Nat.le_of_ble_eq_true rfl) dX4_init_77 (fun w165 ew166 H locs hP hD hS => ?_)
  have k167 : wd_at w165 y (.inr (4, [.ref q1, .ref q13, .ref q27, .ref q43, .ref q61, .ref q81, .ref q103, .ref q127, .int 0, .int 0])) := wd_at.ps ew166 k155
  have k168 := wd_at.pt ew166 k156 (Ne.symm (wd_nL hq4 hy))
  have k169 := wd_at.pt ew166 k157 (Ne.symm (wd_nL hq16 k10))
  have k170 := wd_at.pt ew166 k158 (Ne.symm (wd_nL hq30 k23))
  have k171 := wd_at.pt ew166 k159 (Ne.symm (wd_nL hq46 k38))
  have k172 := wd_at.pt ew166 k160 (Ne.symm (wd_nL hq64 k55))
  have k173 := wd_at.pt ew166 k161 (Ne.symm (wd_nL hq84 k74))
  have k174 := wd_at.pt ew166 k162 (Ne.symm (wd_nL hq106 k95))
  have k175 := wd_at.pt ew166 k163 (Ne.symm (wd_nL hq130 k118))
  have kp176 := kp164.put ew166 sy
  refine lv_aload_n hx hb dX4_init_80 rfl (lv_at hl 0 rfl) ?_
  refine x_get (ref := "NoteHouse$Settlement") F hP k167 rfl (fun _ h => List.mem_cons_of_mem _ (List.mem_append_right _ (h))) 0 (Nat.le_of_ble_eq_true rfl) (List.mem_cons_of_mem _ (List.mem_append_left _ (List.mem_of_getElem? (i := 4) rfl))) rfl rfl dX4_init_81 ?_
  refine lv_iconst (v := (-1)) hx hb dX4_init_84 (by decide) ?_
  refine x_callS (n := 2) (As := [.ref q1, .int (-1)]) (rest := []) F hP hD hS (c_J7_fill_53178 l D cy w165 q1 200 (fun _ => 0) (-1) k168 (fun b => b = q1) rfl (by decide)) gX4_init_J7_fill_53178 rfl (by decide +kernel) ⟨(Nat.le_of_ble_eq_true rfl), (Nat.le_of_ble_eq_true rfl)⟩ rfl hl.1 (Nat.le_of_ble_eq_true rfl) dX4_init_85 rfl ⟨(Nat.le_of_ble_eq_true rfl), (Nat.le_of_ble_eq_true rfl)⟩ (fun v178 w179 hp177 H locs hP hD hS => ?_)
  obtain ⟨rfl, hp177, g180, hg181, k182⟩ := hp177
  have k183 := hp177.2 _ _ k167 (fun q : y = q1 => (wd_nL hq4 hy) q)
  have k184 := hp177.2 _ _ k169 (fun q : q13 = q1 => (Ne.symm (wd_nL hq16 k11)) q)
  have k185 := hp177.2 _ _ k170 (fun q : q27 = q1 => (Ne.symm (wd_nL hq30 k24)) q)
  have k186 := hp177.2 _ _ k171 (fun q : q43 = q1 => (Ne.symm (wd_nL hq46 k39)) q)
  have k187 := hp177.2 _ _ k172 (fun q : q61 = q1 => (Ne.symm (wd_nL hq64 k56)) q)
  have k188 := hp177.2 _ _ k173 (fun q : q81 = q1 => (Ne.symm (wd_nL hq84 k75)) q)
  have k189 := hp177.2 _ _ k174 (fun q : q103 = q1 => (Ne.symm (wd_nL hq106 k96)) q)
  have k190 := hp177.2 _ _ k175 (fun q : q127 = q1 => (Ne.symm (wd_nL hq130 k119)) q)
  have kp191 := kp176.tr hp177 (fun b hm q => (fun q => absurd (q ▸ hm) (kp0.out hq4)) q)
  refine W.eq (g2 := F0 m 88 ls []) rfl (W.widen (k := 8) (n := 472) (Nat.le_of_ble_eq_true rfl) (Nat.le_of_ble_eq_true rfl) ?_)
  exact y_vr K hP hD hS (Nat.le_of_ble_eq_true rfl) (Nat.le_of_ble_eq_true rfl) rfl dX4_init_88 (⟨rfl, kp191, q1, q13, q27, q43, q61, q81, q103, q127, g180, hg181, (wd_nL hq46 k41), k183, k182, k185, k186⟩)
theorem tw_s {w : Wd} {i q a : Nat} {tf : Nat → Option Nat} {tn ag : Nat → Nat} {gg : Nat → Nat → Nat} {g0 g1 g2 g3 g4 : Nat} (hi : i < 12)
    (h : ∀ k, k < i → tf k = some (tn k) ∧ wd_at w (tn k) (.inr (8, [.int 0, .int 1000, .int 0, .ref (ag k)])) ∧ wd_at w (ag k) (.inr (1, [.ref (gg k 0), .ref (gg k 1), .ref (gg k 2), .ref (gg k 3), .ref (gg k 4), .int 0])))
    (hq : wd_at w q (.inr (8, [.int 0, .int 1000, .int 0, .ref a]))) (ha : wd_at w a (.inr (1, [.ref g0, .ref g1, .ref g2, .ref g3, .ref g4, .int 0]))) :
    ∀ k, k < i + 1 → va_up tf (nI i).toNatClampNeg (some q) k = some (va_up tn i q k) ∧ wd_at w (va_up tn i q k) (.inr (8, [.int 0, .int 1000, .int 0, .ref (va_up ag i a k)])) ∧ wd_at w (va_up ag i a k) (.inr (1, [.ref (va_up gg i (fun z => if z = 0 then g0 else if z = 1 then g1 else if z = 2 then g2 else if z = 3 then g3 else g4) k 0), .ref (va_up gg i (fun z => if z = 0 then g0 else if z = 1 then g1 else if z = 2 then g2 else if z = 3 then g3 else g4) k 1), .ref (va_up gg i (fun z => if z = 0 then g0 else if z = 1 then g1 else if z = 2 then g2 else if z = 3 then g3 else g4) k 2), .ref (va_up gg i (fun z => if z = 0 then g0 else if z = 1 then g1 else if z = 2 then g2 else if z = 3 then g3 else g4) k 3), .ref (va_up gg i (fun z => if z = 0 then g0 else if z = 1 then g1 else if z = 2 then g2 else if z = 3 then g3 else g4) k 4), .int 0])) := by
  intro k hk
  rw [nI_clamp (by omega)]
  by_cases e : k = i
  · subst e
    rw [va_up_self, va_up_self, va_up_self, va_up_self]
    exact ⟨rfl, hq, ha⟩
  · rw [va_up_ne _ _ e, va_up_ne _ _ e, va_up_ne _ _ e, va_up_ne _ _ e]
    exact h k (by omega)
/-- a fresh house at x: what its cells hold -/
def fr_X (cy : Nat → ClassId) (w : Wd) (x : Nat) : Prop := ∃ (a0 a1 a2 a3 a4 a5 a6 a7 a8 a9 a10 a11 b0 b1 b2 b3 : Nat) (f g : Nat → Int32) (tf : Nat → Option Nat) (tn ag : Nat → Nat) (gg : Nat → Nat → Nat) (pf : Nat → Option Nat) (b6 l0 l1 l2 l3 l4 l5 l6 l7 : Nat) (sg : Nat → Int32) (g0 g1 g2 g3 g4 b10 : Nat) (g10 : Nat → Int32) (b11 : Nat) (g11 : Nat → Int32),
  wd_at w x (.inr (10, [.ref a0, .ref a1, .ref a2, .ref a3, .ref a4, .ref a5, .ref a6, .ref a7, .ref a8, .ref a9, .ref a10, .ref a11, .int 0, .int 0, .int 0, .int 0, .int 0])) ∧ b0 ≠ b1 ∧ wd_at w a0 (.inr (9, [.ref b0, .ref b1, .ref b2, .ref b3])) ∧ wd_at w b0 (.inl (cy 2, 144, .inl f)) ∧ wd_at w b1 (.inl (cy 2, 144, .inl g)) ∧
  wd_at w a1 (.inl (cy 9, 12, .inr (.inr (.inr (.inr tf))))) ∧ (∀ k, k < 12 → tf k = some (tn k) ∧ wd_at w (tn k) (.inr (8, [.int 0, .int 1000, .int 0, .ref (ag k)])) ∧ wd_at w (ag k) (.inr (1, [.ref (gg k 0), .ref (gg k 1), .ref (gg k 2), .ref (gg k 3), .ref (gg k 4), .int 0]))) ∧
  wd_at w a2 (.inl (cy 6, 30, .inr (.inr (.inr (.inr pf))))) ∧ wd_at w a6 (.inr (7, [.ref b6, .int 0, .int 0])) ∧ wd_at w b6 (.inl (cy 0, 300, .inl (fun _ => 0))) ∧
  (∀ j, j < 200 → sg j = -1) ∧ l2 ≠ l3 ∧ wd_at w a7 (.inr (4, [.ref l0, .ref l1, .ref l2, .ref l3, .ref l4, .ref l5, .ref l6, .ref l7, .int 0, .int 0])) ∧ wd_at w l0 (.inl (cy 2, 200, .inl sg)) ∧ wd_at w l2 (.inl (cy 3, 12, .inr (.inl (fun _ => 0)))) ∧ wd_at w l3 (.inl (cy 3, 12, .inr (.inl (fun _ => 0)))) ∧
  wd_at w a9 (.inr (1, [.ref g0, .ref g1, .ref g2, .ref g3, .ref g4, .int 0])) ∧ (g10 0 = 1 ∧ g10 1 = 1 ∧ g10 2 = 0 ∧ g10 3 = 2) ∧ wd_at w a10 (.inr (2, [.ref b10, .int 10, .int 0])) ∧ wd_at w b10 (.inl (cy 2, 4, .inl g10)) ∧ wd_at w a11 (.inr (2, [.ref b11, .int 10, .int 0])) ∧ wd_at w b11 (.inl (cy 2, 4, .inl g11))
set_option maxHeartbeats 4000000 in
set_option maxRecDepth 100000 in
theorem c_X10_init (l : Launch) (D : va_G) (cy : Nat → ClassId) (w : Wd) (y : Nat) (hy : wd_at w y (.inr (10, [.null, .null, .null, .null, .null, .null, .null, .null, .null, .null, .null, .null, .int 0, .int 0, .int 0, .int 0, .int 0])))  (S : Nat → Prop) (sy : S y)  : Ct l D cy yX10_init wsX10_init ({ frames := 3, cells := 116, slots := 4731, locals := 52 }) [.ref y] w (fun v w1 => v = none ∧ wd_kp S w w1 ∧ fr_X cy w1 y) := by
  refine Ct.by (cc := cX10_init) (maxL := 2) (ret := none) (by decide +kernel) rfl (Nat.le_of_ble_eq_true rfl) ?_
  intro p e s m args below meth c A Q F hnm K ls hl
  have F : wd_Fx p s m args meth c cX10_init 2 wsX10_init RX10 D cy A := F
  have hl : lv_has ls 2 [(0, .ref y)] := hl
  have hx := F.1.1
  have hb := F.1.2.1
  have hown := F.1.2.2.2.1
  have hts := F.1.2.2.2.2
  intro H locs hP hD hS
  have kp0 : wd_kp S w w := wd_kp.rf
  refine lv_aload_n hx hb dX10_init_0 rfl (lv_at hl 0 rfl) ?_
  refine x_objInit F (List.mem_cons_of_mem _ (List.mem_append_left _ (List.mem_append_left _ (List.mem_append_left _ (List.mem_append_left _ (List.mem_append_left _ (List.mem_append_left _ (List.mem_append_left _ (List.mem_append_left _ (List.mem_of_getElem? (i := 0) rfl)))))))))) (List.mem_cons_of_mem _ (List.mem_append_left _ (List.mem_append_left _ (List.mem_append_left _ (List.mem_append_left _ (List.mem_append_left _ (List.mem_append_left _ (List.mem_append_left _ (List.mem_append_left _ (List.mem_of_getElem? (i := 1) rfl)))))))))) (List.mem_cons_of_mem _ (List.mem_append_left _ (List.mem_append_left _ (List.mem_append_left _ (List.mem_append_left _ (List.mem_append_left _ (List.mem_append_left _ (List.mem_append_left _ (List.mem_append_left _ (List.mem_of_getElem? (i := 2) rfl)))))))))) hl.1 dX10_init_1 (Nat.le_of_ble_eq_true rfl) (Nat.le_of_ble_eq_true rfl) ?_
  refine lv_aload_n hx hb dX10_init_4 rfl (lv_at hl 0 rfl) ?_
  refine y_new (fs := [.null, .null, .null, .null]) F hP hD hS (ci := 9) rfl (fun _ h => List.mem_cons_of_mem _ (List.mem_append_left _ (List.mem_append_left _ (List.mem_append_left _ (List.mem_append_left _ (List.mem_append_left _ (List.mem_append_left _ (List.mem_append_right _ (h))))))))) tyX9_ok (List.mem_cons_of_mem _ (List.mem_append_left _ (List.mem_append_left _ (List.mem_append_left _ (List.mem_append_left _ (List.mem_append_left _ (List.mem_append_left _ (List.mem_append_left _ (List.mem_append_left _ (List.mem_of_getElem? (i := 3) rfl)))))))))) (List.mem_cons_of_mem _ (List.mem_append_left _ (List.mem_append_left _ (List.mem_append_left _ (List.mem_append_left _ (List.mem_append_left _ (List.mem_append_left _ (List.mem_append_left _ (List.mem_append_left _ (List.mem_of_getElem? (i := 4) rfl)))))))))) (List.mem_cons_of_mem _ (List.mem_append_left _ (List.mem_append_left _ (List.mem_append_left _ (List.mem_append_left _ (List.mem_append_left _ (List.mem_append_left _ (List.mem_append_left _ (List.mem_append_left _ (List.mem_of_getElem? (i := 5) rfl)))))))))) df_9 (Nat.le_of_ble_eq_true rfl) (Nat.le_of_ble_eq_true rfl) dX10_init_5 (fun q1 w2 ew3 hq4 H hP hD hS => ?_)
  refine W.widen (k := 1) (n := 4) (Nat.le_of_ble_eq_true rfl) (Nat.le_of_ble_eq_true rfl) ?_
  have k5 := wd_at.ad ew3 hq4 hy
  have k6 : wd_at w2 q1 (.inr (9, [.null, .null, .null, .null])) := wd_at.nw ew3
  have kp7 := kp0.add ew3 hq4
  refine lv_dup hx hb dX10_init_8 rfl ?_
  refine x_callI (ret := none) (n := 0) (As := []) (rest := [.ref q1, .ref y]) F hP hD hS (c_X9_init l D cy w2 q1 k6 (fun b => b = q1) rfl) gX10_init_X9_init rfl (List.mem_cons_of_mem _ (List.mem_append_left _ (List.mem_append_left _ (List.mem_append_left _ (List.mem_append_left _ (List.mem_append_left _ (List.mem_append_left _ (List.mem_append_left _ (List.mem_append_left _ (List.mem_of_getElem? (i := 5) rfl)))))))))) (List.mem_cons_of_mem _ (List.mem_append_left _ (List.mem_append_left _ (List.mem_append_left _ (List.mem_append_left _ (List.mem_append_left _ (List.mem_append_left _ (List.mem_append_left _ (List.mem_append_right _ (List.mem_append_left _ (List.mem_of_getElem? (i := 14) rfl))))))))))) (List.mem_cons_of_mem _ (List.mem_append_left _ (List.mem_append_left _ (List.mem_append_left _ (List.mem_append_left _ (List.mem_append_left _ (List.mem_append_left _ (List.mem_append_left _ (List.mem_append_right _ (List.mem_append_left _ (List.mem_of_getElem? (i := 15) rfl))))))))))) rfl (by decide +kernel) ⟨(Nat.le_of_ble_eq_true rfl), (Nat.le_of_ble_eq_true rfl)⟩ rfl hl.1 (Nat.le_of_ble_eq_true rfl) dX10_init_9 rfl ⟨(Nat.le_of_ble_eq_true rfl), (Nat.le_of_ble_eq_true rfl)⟩ (fun v9 w10 hp8 H locs hP hD hS => ?_)
  obtain ⟨rfl, hp8, b11, b12, b13, b14, f15, g16, nb17, hf18, hg19, k20, k21, k22, k23, k24⟩ := hp8
  have k25 := hp8.2 _ _ k5 (fun q : y = q1 => (wd_nL hq4 hy) q)
  have kp26 := kp7.tr hp8 (fun b hm q => (fun q => absurd (q ▸ hm) (kp0.out hq4)) q)
  refine W.eq (g2 := F0 m 12 ls [.ref q1, .ref y]) rfl (W.widen (k := 5) (n := 316) (Nat.le_of_ble_eq_true rfl) (Nat.le_of_ble_eq_true rfl) ?_)
  refine y_putF (ref := "NoteHouse") F hP hD hS k25 rfl (fun _ h => List.mem_cons_of_mem _ (List.mem_append_left _ (List.mem_append_left _ (List.mem_append_left _ (List.mem_append_left _ (List.mem_append_left _ (List.mem_append_right _ (h)))))))) tyX10_ok nmX10 hnm 0 (Nat.le_of_ble_eq_true rfl) (List.mem_cons_of_mem _ (List.mem_append_left _ (List.mem_append_left _ (List.mem_append_left _ (List.mem_append_left _ (List.mem_append_left _ (List.mem_append_left _ (List.mem_append_left _ (List.mem_append_left _ (List.mem_of_getElem? (i := 6) rfl)))))))))) rfl rfl rfl rfl rfl (Nat.le_of_ble_eq_true rfl) dX10_init_12 (fun w27 ew28 H locs hP hD hS => ?_)
  have k29 : wd_at w27 y (.inr (10, [.ref q1, .null, .null, .null, .null, .null, .null, .null, .null, .null, .null, .null, .int 0, .int 0, .int 0, .int 0, .int 0])) := wd_at.ps ew28 k25
  have k30 := wd_at.pt ew28 k20 (Ne.symm (wd_nL hq4 hy))
  have k31 := wd_at.pt ew28 k21 (wd_nk k21 k25 rfl)
  have k32 := wd_at.pt ew28 k22 (wd_nk k22 k25 rfl)
  have kp33 := kp26.put ew28 sy
  refine lv_aload_n hx hb dX10_init_15 rfl (lv_at hl 0 rfl) ?_
  refine lv_bipush (v := 12) hx hb dX10_init_16 (by decide) ?_
  refine y_newA (N := 12) (t0 := 9) F hP hD hS (List.mem_cons_of_mem _ (List.mem_append_left _ (List.mem_append_left _ (List.mem_append_left _ (List.mem_append_left _ (List.mem_append_left _ (List.mem_append_left _ (List.mem_append_left _ (List.mem_append_left _ (List.mem_of_getElem? (i := 7) rfl)))))))))) (by decide +kernel) rfl (by decide) (by decide) (by decide) (Nat.le_of_ble_eq_true rfl) (Nat.le_of_ble_eq_true rfl) dX10_init_18 (fun q34 w35 ew36 hq37 H hP hD hS => ?_)
  refine W.widen (k := 6) (n := 328) (Nat.le_of_ble_eq_true rfl) (Nat.le_of_ble_eq_true rfl) ?_
  have k38 := wd_at.ad ew36 hq37 k29
  have k39 := wd_at.ad ew36 hq37 k30
  have k40 := wd_at.ad ew36 hq37 k31
  have k41 := wd_at.ad ew36 hq37 k32
  have k42 : wd_at w35 q34 (.inl (cy 9, 12, .inr (.inr (.inr (.inr (fun _ => none)))))) := wd_at.nw ew36
  have kp43 := kp33.add ew36 hq37
  refine y_putF (ref := "NoteHouse") F hP hD hS k38 rfl (fun _ h => List.mem_cons_of_mem _ (List.mem_append_left _ (List.mem_append_left _ (List.mem_append_left _ (List.mem_append_left _ (List.mem_append_left _ (List.mem_append_right _ (h)))))))) tyX10_ok nmX10 hnm 1 (Nat.le_of_ble_eq_true rfl) (List.mem_cons_of_mem _ (List.mem_append_left _ (List.mem_append_left _ (List.mem_append_left _ (List.mem_append_left _ (List.mem_append_left _ (List.mem_append_left _ (List.mem_append_left _ (List.mem_append_left _ (List.mem_of_getElem? (i := 8) rfl)))))))))) rfl rfl rfl rfl rfl (Nat.le_of_ble_eq_true rfl) dX10_init_21 (fun w44 ew45 H locs hP hD hS => ?_)
  have k46 : wd_at w44 y (.inr (10, [.ref q1, .ref q34, .null, .null, .null, .null, .null, .null, .null, .null, .null, .null, .int 0, .int 0, .int 0, .int 0, .int 0])) := wd_at.ps ew45 k38
  have k47 := wd_at.pt ew45 k39 (Ne.symm (wd_nL hq4 hy))
  have k48 := wd_at.pt ew45 k40 (wd_nk k40 k38 rfl)
  have k49 := wd_at.pt ew45 k41 (wd_nk k41 k38 rfl)
  have k50 := wd_at.pt ew45 k42 (Ne.symm (wd_nL hq37 k29))
  have kp51 := kp43.put ew45 sy
  refine lv_iconst (v := 0) hx hb dX10_init_24 (by decide) ?_
  refine lv_istore_n (lv' := [(1, .int 0), (0, .ref y)]) hx hb dX10_init_25 rfl hl (by decide) rfl (fun ls hl => ?_)
  have lp26 : ∀ (N : Nat) (i : Nat) (tf : Nat → Option Nat) (tn : Nat → Nat) (ag : Nat → Nat) (gg : Nat → Nat → Nat) (w52 : Wd), (i + N = 12) → (wd_at w52 y (.inr (10, [.ref q1, .ref q34, .null, .null, .null, .null, .null, .null, .null, .null, .null, .null, .int 0, .int 0, .int 0, .int 0, .int 0]))) → (wd_at w52 q1 (.inr (9, [.ref b11, .ref b12, .ref b13, .ref b14]))) → (wd_at w52 b11 (.inl (cy 2, 144, .inl f15))) → (wd_at w52 b12 (.inl (cy 2, 144, .inl g16))) → (wd_at w52 q34 (.inl (cy 9, 12, .inr (.inr (.inr (.inr tf)))))) → (∀ k, k < i → tf k = some (tn k) ∧ wd_at w52 (tn k) (.inr (8, [.int 0, .int 1000, .int 0, .ref (ag k)])) ∧ wd_at w52 (ag k) (.inr (1, [.ref (gg k 0), .ref (gg k 1), .ref (gg k 2), .ref (gg k 3), .ref (gg k 4), .int 0]))) → (wd_kp S w w52) → ∀ (ls : Array Slot), lv_has ls 2 [(0, .ref y), (1, .int (nI i))] → Wv p l e ({ frames := 3, cells := 116, slots := 4731, locals := 52 }) s m args below meth c D A (6 + 7 * i) (328 + 250 * i) Q w52 (F0 m 26 ls []) := by
    intro N
    induction N with
    | zero =>
      intro i tf tn ag gg w52 hN26 k53 k54 k55 k56 k57 fm58 kp59 ls hl H locs hP hD hS
      refine W.widen (k := 90) (n := 3328) (by omega) (by omega) ?_
      refine lv_iload_n hx hb dX10_init_26 rfl (lv_at hl 1 rfl) ?_
      refine lv_bipush (v := 12) hx hb dX10_init_27 (by decide) ?_
      refine lv_icmp_ge (tgt := 51) hx hb dX10_init_29 (by decide) (fun c_60 => ?_) (fun c_60 => absurd (nI_le (a := 12) (b := i) (by omega) (by omega)) c_60)
      refine lv_aload_n hx hb dX10_init_51 rfl (lv_at hl 0 rfl) ?_
      refine lv_bipush (v := 30) hx hb dX10_init_52 (by decide) ?_
      refine y_newA (N := 30) (t0 := 6) F hP hD hS (List.mem_cons_of_mem _ (List.mem_append_left _ (List.mem_append_left _ (List.mem_append_left _ (List.mem_append_left _ (List.mem_append_left _ (List.mem_append_left _ (List.mem_append_left _ (List.mem_append_left _ (List.mem_of_getElem? (i := 11) rfl)))))))))) (by decide +kernel) rfl (by decide) (by decide) (by decide) (Nat.le_of_ble_eq_true rfl) (Nat.le_of_ble_eq_true rfl) dX10_init_54 (fun q61 w62 ew63 hq64 H hP hD hS => ?_)
      refine W.widen (k := 91) (n := 3358) (Nat.le_of_ble_eq_true rfl) (Nat.le_of_ble_eq_true rfl) ?_
      have k65 := wd_at.ad ew63 hq64 k53
      have k66 := wd_at.ad ew63 hq64 k54
      have k67 := wd_at.ad ew63 hq64 k55
      have k68 := wd_at.ad ew63 hq64 k56
      have k69 := wd_at.ad ew63 hq64 k57
      have k70 : wd_at w62 q61 (.inl (cy 6, 30, .inr (.inr (.inr (.inr (fun _ => none)))))) := wd_at.nw ew63
      have fm71 : ∀ k, k < i → tf k = some (tn k) ∧ wd_at w62 (tn k) (.inr (8, [.int 0, .int 1000, .int 0, .ref (ag k)])) ∧ wd_at w62 (ag k) (.inr (1, [.ref (gg k 0), .ref (gg k 1), .ref (gg k 2), .ref (gg k 3), .ref (gg k 4), .int 0])) := fun k hi9 => ⟨(fm58 k hi9).1, wd_at.ad ew63 hq64 (fm58 k hi9).2.1, wd_at.ad ew63 hq64 (fm58 k hi9).2.2⟩
      have fn72 : ∀ k, k < i → (tn k) ≠ q61 ∧ (ag k) ≠ q61 := fun k hi9 => ⟨wd_nL hq64 (fm58 k hi9).2.1, wd_nL hq64 (fm58 k hi9).2.2⟩
      have kp73 := kp59.add ew63 hq64
      refine y_putF (ref := "NoteHouse") F hP hD hS k65 rfl (fun _ h => List.mem_cons_of_mem _ (List.mem_append_left _ (List.mem_append_left _ (List.mem_append_left _ (List.mem_append_left _ (List.mem_append_left _ (List.mem_append_right _ (h)))))))) tyX10_ok nmX10 hnm 2 (Nat.le_of_ble_eq_true rfl) (List.mem_cons_of_mem _ (List.mem_append_left _ (List.mem_append_left _ (List.mem_append_left _ (List.mem_append_left _ (List.mem_append_left _ (List.mem_append_left _ (List.mem_append_left _ (List.mem_append_left _ (List.mem_of_getElem? (i := 12) rfl)))))))))) rfl rfl rfl rfl rfl (Nat.le_of_ble_eq_true rfl) dX10_init_57 (fun w74 ew75 H locs hP hD hS => ?_)
      have k76 : wd_at w74 y (.inr (10, [.ref q1, .ref q34, .ref q61, .null, .null, .null, .null, .null, .null, .null, .null, .null, .int 0, .int 0, .int 0, .int 0, .int 0])) := wd_at.ps ew75 k65
      have k77 := wd_at.pt ew75 k66 (Ne.symm (wd_nL hq4 hy))
      have k78 := wd_at.pt ew75 k67 (wd_nk k67 k65 rfl)
      have k79 := wd_at.pt ew75 k68 (wd_nk k68 k65 rfl)
      have k80 := wd_at.pt ew75 k69 (Ne.symm (wd_nL hq37 k29))
      have k81 := wd_at.pt ew75 k70 (Ne.symm (wd_nL hq64 k53))
      have fm82 : ∀ k, k < i → tf k = some (tn k) ∧ wd_at w74 (tn k) (.inr (8, [.int 0, .int 1000, .int 0, .ref (ag k)])) ∧ wd_at w74 (ag k) (.inr (1, [.ref (gg k 0), .ref (gg k 1), .ref (gg k 2), .ref (gg k 3), .ref (gg k 4), .int 0])) := fun k hi9 => ⟨(fm71 k hi9).1, wd_at.pt ew75 (fm71 k hi9).2.1 (wd_nk (fm71 k hi9).2.1 k65 rfl), wd_at.pt ew75 (fm71 k hi9).2.2 (wd_nk (fm71 k hi9).2.2 k65 rfl)⟩
      have kp83 := kp73.put ew75 sy
      refine lv_aload_n hx hb dX10_init_60 rfl (lv_at hl 0 rfl) ?_
      refine lv_bipush (v := 60) hx hb dX10_init_61 (by decide) ?_
      refine y_newA (N := 60) (t0 := 5) F hP hD hS (List.mem_cons_of_mem _ (List.mem_append_left _ (List.mem_append_left _ (List.mem_append_left _ (List.mem_append_left _ (List.mem_append_left _ (List.mem_append_left _ (List.mem_append_left _ (List.mem_append_left _ (List.mem_of_getElem? (i := 13) rfl)))))))))) (by decide +kernel) rfl (by decide) (by decide) (by decide) (Nat.le_of_ble_eq_true rfl) (Nat.le_of_ble_eq_true rfl) dX10_init_63 (fun q84 w85 ew86 hq87 H hP hD hS => ?_)
      refine W.widen (k := 92) (n := 3418) (Nat.le_of_ble_eq_true rfl) (Nat.le_of_ble_eq_true rfl) ?_
      have k88 := wd_at.ad ew86 hq87 k76
      have k89 := wd_at.ad ew86 hq87 k77
      have k90 := wd_at.ad ew86 hq87 k78
      have k91 := wd_at.ad ew86 hq87 k79
      have k92 := wd_at.ad ew86 hq87 k80
      have k93 := wd_at.ad ew86 hq87 k81
      have k94 : wd_at w85 q84 (.inl (cy 5, 60, .inr (.inr (.inr (.inr (fun _ => none)))))) := wd_at.nw ew86
      have fm95 : ∀ k, k < i → tf k = some (tn k) ∧ wd_at w85 (tn k) (.inr (8, [.int 0, .int 1000, .int 0, .ref (ag k)])) ∧ wd_at w85 (ag k) (.inr (1, [.ref (gg k 0), .ref (gg k 1), .ref (gg k 2), .ref (gg k 3), .ref (gg k 4), .int 0])) := fun k hi9 => ⟨(fm82 k hi9).1, wd_at.ad ew86 hq87 (fm82 k hi9).2.1, wd_at.ad ew86 hq87 (fm82 k hi9).2.2⟩
      have fn96 : ∀ k, k < i → (tn k) ≠ q84 ∧ (ag k) ≠ q84 := fun k hi9 => ⟨wd_nL hq87 (fm82 k hi9).2.1, wd_nL hq87 (fm82 k hi9).2.2⟩
      have kp97 := kp83.add ew86 hq87
      refine y_putF (ref := "NoteHouse") F hP hD hS k88 rfl (fun _ h => List.mem_cons_of_mem _ (List.mem_append_left _ (List.mem_append_left _ (List.mem_append_left _ (List.mem_append_left _ (List.mem_append_left _ (List.mem_append_right _ (h)))))))) tyX10_ok nmX10 hnm 3 (Nat.le_of_ble_eq_true rfl) (List.mem_cons_of_mem _ (List.mem_append_left _ (List.mem_append_left _ (List.mem_append_left _ (List.mem_append_left _ (List.mem_append_left _ (List.mem_append_left _ (List.mem_append_left _ (List.mem_append_left _ (List.mem_of_getElem? (i := 14) rfl)))))))))) rfl rfl rfl rfl rfl (Nat.le_of_ble_eq_true rfl) dX10_init_66 (fun w98 ew99 H locs hP hD hS => ?_)
      have k100 : wd_at w98 y (.inr (10, [.ref q1, .ref q34, .ref q61, .ref q84, .null, .null, .null, .null, .null, .null, .null, .null, .int 0, .int 0, .int 0, .int 0, .int 0])) := wd_at.ps ew99 k88
      have k101 := wd_at.pt ew99 k89 (Ne.symm (wd_nL hq4 hy))
      have k102 := wd_at.pt ew99 k90 (wd_nk k90 k88 rfl)
      have k103 := wd_at.pt ew99 k91 (wd_nk k91 k88 rfl)
      have k104 := wd_at.pt ew99 k92 (Ne.symm (wd_nL hq37 k29))
      have k105 := wd_at.pt ew99 k93 (Ne.symm (wd_nL hq64 k53))
      have k106 := wd_at.pt ew99 k94 (Ne.symm (wd_nL hq87 k76))
      have fm107 : ∀ k, k < i → tf k = some (tn k) ∧ wd_at w98 (tn k) (.inr (8, [.int 0, .int 1000, .int 0, .ref (ag k)])) ∧ wd_at w98 (ag k) (.inr (1, [.ref (gg k 0), .ref (gg k 1), .ref (gg k 2), .ref (gg k 3), .ref (gg k 4), .int 0])) := fun k hi9 => ⟨(fm95 k hi9).1, wd_at.pt ew99 (fm95 k hi9).2.1 (wd_nk (fm95 k hi9).2.1 k88 rfl), wd_at.pt ew99 (fm95 k hi9).2.2 (wd_nk (fm95 k hi9).2.2 k88 rfl)⟩
      have kp108 := kp97.put ew99 sy
      refine lv_aload_n hx hb dX10_init_69 rfl (lv_at hl 0 rfl) ?_
      refine lv_bipush (v := 60) hx hb dX10_init_70 (by decide) ?_
      refine y_newA (N := 60) (t0 := 8) F hP hD hS (List.mem_cons_of_mem _ (List.mem_append_left _ (List.mem_append_left _ (List.mem_append_left _ (List.mem_append_left _ (List.mem_append_left _ (List.mem_append_left _ (List.mem_append_left _ (List.mem_append_left _ (List.mem_of_getElem? (i := 15) rfl)))))))))) (by decide +kernel) rfl (by decide) (by decide) (by decide) (Nat.le_of_ble_eq_true rfl) (Nat.le_of_ble_eq_true rfl) dX10_init_72 (fun q109 w110 ew111 hq112 H hP hD hS => ?_)
      refine W.widen (k := 93) (n := 3478) (Nat.le_of_ble_eq_true rfl) (Nat.le_of_ble_eq_true rfl) ?_
      have k113 := wd_at.ad ew111 hq112 k100
      have k114 := wd_at.ad ew111 hq112 k101
      have k115 := wd_at.ad ew111 hq112 k102
      have k116 := wd_at.ad ew111 hq112 k103
      have k117 := wd_at.ad ew111 hq112 k104
      have k118 := wd_at.ad ew111 hq112 k105
      have k119 := wd_at.ad ew111 hq112 k106
      have k120 : wd_at w110 q109 (.inl (cy 8, 60, .inr (.inr (.inr (.inr (fun _ => none)))))) := wd_at.nw ew111
      have fm121 : ∀ k, k < i → tf k = some (tn k) ∧ wd_at w110 (tn k) (.inr (8, [.int 0, .int 1000, .int 0, .ref (ag k)])) ∧ wd_at w110 (ag k) (.inr (1, [.ref (gg k 0), .ref (gg k 1), .ref (gg k 2), .ref (gg k 3), .ref (gg k 4), .int 0])) := fun k hi9 => ⟨(fm107 k hi9).1, wd_at.ad ew111 hq112 (fm107 k hi9).2.1, wd_at.ad ew111 hq112 (fm107 k hi9).2.2⟩
      have fn122 : ∀ k, k < i → (tn k) ≠ q109 ∧ (ag k) ≠ q109 := fun k hi9 => ⟨wd_nL hq112 (fm107 k hi9).2.1, wd_nL hq112 (fm107 k hi9).2.2⟩
      have kp123 := kp108.add ew111 hq112
      refine y_putF (ref := "NoteHouse") F hP hD hS k113 rfl (fun _ h => List.mem_cons_of_mem _ (List.mem_append_left _ (List.mem_append_left _ (List.mem_append_left _ (List.mem_append_left _ (List.mem_append_left _ (List.mem_append_right _ (h)))))))) tyX10_ok nmX10 hnm 4 (Nat.le_of_ble_eq_true rfl) (List.mem_cons_of_mem _ (List.mem_append_left _ (List.mem_append_left _ (List.mem_append_left _ (List.mem_append_left _ (List.mem_append_left _ (List.mem_append_left _ (List.mem_append_left _ (List.mem_append_left _ (List.mem_of_getElem? (i := 16) rfl)))))))))) rfl rfl rfl rfl rfl (Nat.le_of_ble_eq_true rfl) dX10_init_75 (fun w124 ew125 H locs hP hD hS => ?_)
      have k126 : wd_at w124 y (.inr (10, [.ref q1, .ref q34, .ref q61, .ref q84, .ref q109, .null, .null, .null, .null, .null, .null, .null, .int 0, .int 0, .int 0, .int 0, .int 0])) := wd_at.ps ew125 k113
      have k127 := wd_at.pt ew125 k114 (Ne.symm (wd_nL hq4 hy))
      have k128 := wd_at.pt ew125 k115 (wd_nk k115 k113 rfl)
      have k129 := wd_at.pt ew125 k116 (wd_nk k116 k113 rfl)
      have k130 := wd_at.pt ew125 k117 (Ne.symm (wd_nL hq37 k29))
      have k131 := wd_at.pt ew125 k118 (Ne.symm (wd_nL hq64 k53))
      have k132 := wd_at.pt ew125 k119 (Ne.symm (wd_nL hq87 k76))
      have k133 := wd_at.pt ew125 k120 (Ne.symm (wd_nL hq112 k100))
      have fm134 : ∀ k, k < i → tf k = some (tn k) ∧ wd_at w124 (tn k) (.inr (8, [.int 0, .int 1000, .int 0, .ref (ag k)])) ∧ wd_at w124 (ag k) (.inr (1, [.ref (gg k 0), .ref (gg k 1), .ref (gg k 2), .ref (gg k 3), .ref (gg k 4), .int 0])) := fun k hi9 => ⟨(fm121 k hi9).1, wd_at.pt ew125 (fm121 k hi9).2.1 (wd_nk (fm121 k hi9).2.1 k113 rfl), wd_at.pt ew125 (fm121 k hi9).2.2 (wd_nk (fm121 k hi9).2.2 k113 rfl)⟩
      have kp135 := kp123.put ew125 sy
      refine lv_aload_n hx hb dX10_init_78 rfl (lv_at hl 0 rfl) ?_
      refine lv_sipush (v := 200) hx hb dX10_init_79 (by decide) ?_
      refine y_newA (N := 200) (t0 := 7) F hP hD hS (List.mem_cons_of_mem _ (List.mem_append_left _ (List.mem_append_left _ (List.mem_append_left _ (List.mem_append_left _ (List.mem_append_left _ (List.mem_append_left _ (List.mem_append_left _ (List.mem_append_left _ (List.mem_of_getElem? (i := 17) rfl)))))))))) (by decide +kernel) rfl (by decide) (by decide) (by decide) (Nat.le_of_ble_eq_true rfl) (Nat.le_of_ble_eq_true rfl) dX10_init_82 (fun q136 w137 ew138 hq139 H hP hD hS => ?_)
      refine W.widen (k := 94) (n := 3678) (Nat.le_of_ble_eq_true rfl) (Nat.le_of_ble_eq_true rfl) ?_
      have k140 := wd_at.ad ew138 hq139 k126
      have k141 := wd_at.ad ew138 hq139 k127
      have k142 := wd_at.ad ew138 hq139 k128
      have k143 := wd_at.ad ew138 hq139 k129
      have k144 := wd_at.ad ew138 hq139 k130
      have k145 := wd_at.ad ew138 hq139 k131
      have k146 := wd_at.ad ew138 hq139 k132
      have k147 := wd_at.ad ew138 hq139 k133
      have k148 : wd_at w137 q136 (.inl (cy 7, 200, .inr (.inr (.inr (.inr (fun _ => none)))))) := wd_at.nw ew138
      have fm149 : ∀ k, k < i → tf k = some (tn k) ∧ wd_at w137 (tn k) (.inr (8, [.int 0, .int 1000, .int 0, .ref (ag k)])) ∧ wd_at w137 (ag k) (.inr (1, [.ref (gg k 0), .ref (gg k 1), .ref (gg k 2), .ref (gg k 3), .ref (gg k 4), .int 0])) := fun k hi9 => ⟨(fm134 k hi9).1, wd_at.ad ew138 hq139 (fm134 k hi9).2.1, wd_at.ad ew138 hq139 (fm134 k hi9).2.2⟩
      have fn150 : ∀ k, k < i → (tn k) ≠ q136 ∧ (ag k) ≠ q136 := fun k hi9 => ⟨wd_nL hq139 (fm134 k hi9).2.1, wd_nL hq139 (fm134 k hi9).2.2⟩
      have kp151 := kp135.add ew138 hq139
      refine y_putF (ref := "NoteHouse") F hP hD hS k140 rfl (fun _ h => List.mem_cons_of_mem _ (List.mem_append_left _ (List.mem_append_left _ (List.mem_append_left _ (List.mem_append_left _ (List.mem_append_left _ (List.mem_append_right _ (h)))))))) tyX10_ok nmX10 hnm 5 (Nat.le_of_ble_eq_true rfl) (List.mem_cons_of_mem _ (List.mem_append_left _ (List.mem_append_left _ (List.mem_append_left _ (List.mem_append_left _ (List.mem_append_left _ (List.mem_append_left _ (List.mem_append_left _ (List.mem_append_left _ (List.mem_of_getElem? (i := 18) rfl)))))))))) rfl rfl rfl rfl rfl (Nat.le_of_ble_eq_true rfl) dX10_init_85 (fun w152 ew153 H locs hP hD hS => ?_)
      have k154 : wd_at w152 y (.inr (10, [.ref q1, .ref q34, .ref q61, .ref q84, .ref q109, .ref q136, .null, .null, .null, .null, .null, .null, .int 0, .int 0, .int 0, .int 0, .int 0])) := wd_at.ps ew153 k140
      have k155 := wd_at.pt ew153 k141 (Ne.symm (wd_nL hq4 hy))
      have k156 := wd_at.pt ew153 k142 (wd_nk k142 k140 rfl)
      have k157 := wd_at.pt ew153 k143 (wd_nk k143 k140 rfl)
      have k158 := wd_at.pt ew153 k144 (Ne.symm (wd_nL hq37 k29))
      have k159 := wd_at.pt ew153 k145 (Ne.symm (wd_nL hq64 k53))
      have k160 := wd_at.pt ew153 k146 (Ne.symm (wd_nL hq87 k76))
      have k161 := wd_at.pt ew153 k147 (Ne.symm (wd_nL hq112 k100))
      have k162 := wd_at.pt ew153 k148 (Ne.symm (wd_nL hq139 k126))
      have fm163 : ∀ k, k < i → tf k = some (tn k) ∧ wd_at w152 (tn k) (.inr (8, [.int 0, .int 1000, .int 0, .ref (ag k)])) ∧ wd_at w152 (ag k) (.inr (1, [.ref (gg k 0), .ref (gg k 1), .ref (gg k 2), .ref (gg k 3), .ref (gg k 4), .int 0])) := fun k hi9 => ⟨(fm149 k hi9).1, wd_at.pt ew153 (fm149 k hi9).2.1 (wd_nk (fm149 k hi9).2.1 k140 rfl), wd_at.pt ew153 (fm149 k hi9).2.2 (wd_nk (fm149 k hi9).2.2 k140 rfl)⟩
      have kp164 := kp151.put ew153 sy
      refine lv_aload_n hx hb dX10_init_88 rfl (lv_at hl 0 rfl) ?_
      refine y_new (fs := [.null, .int 0, .int 0]) F hP hD hS (ci := 7) rfl (fun _ h => List.mem_cons_of_mem _ (List.mem_append_left _ (List.mem_append_left _ (List.mem_append_left _ (List.mem_append_right _ (h)))))) tyX7_ok (List.mem_cons_of_mem _ (List.mem_append_left _ (List.mem_append_left _ (List.mem_append_left _ (List.mem_append_left _ (List.mem_append_left _ (List.mem_append_left _ (List.mem_append_left _ (List.mem_append_left _ (List.mem_of_getElem? (i := 19) rfl)))))))))) (List.mem_cons_of_mem _ (List.mem_append_left _ (List.mem_append_left _ (List.mem_append_left _ (List.mem_append_left _ (List.mem_append_left _ (List.mem_append_left _ (List.mem_append_left _ (List.mem_append_left _ (List.mem_of_getElem? (i := 20) rfl)))))))))) (List.mem_cons_of_mem _ (List.mem_append_left _ (List.mem_append_left _ (List.mem_append_left _ (List.mem_append_left _ (List.mem_append_left _ (List.mem_append_left _ (List.mem_append_left _ (List.mem_append_left _ (List.mem_of_getElem? (i := 21) rfl)))))))))) df_7 (Nat.le_of_ble_eq_true rfl) (Nat.le_of_ble_eq_true rfl) dX10_init_89 (fun q165 w166 ew167 hq168 H hP hD hS => ?_)
      refine W.widen (k := 95) (n := 3681) (Nat.le_of_ble_eq_true rfl) (Nat.le_of_ble_eq_true rfl) ?_
      have k169 := wd_at.ad ew167 hq168 k154
      have k170 := wd_at.ad ew167 hq168 k155
      have k171 := wd_at.ad ew167 hq168 k156
      have k172 := wd_at.ad ew167 hq168 k157
      have k173 := wd_at.ad ew167 hq168 k158
      have k174 := wd_at.ad ew167 hq168 k159
      have k175 := wd_at.ad ew167 hq168 k160
      have k176 := wd_at.ad ew167 hq168 k161
      have k177 := wd_at.ad ew167 hq168 k162
      have k178 : wd_at w166 q165 (.inr (7, [.null, .int 0, .int 0])) := wd_at.nw ew167
      have fm179 : ∀ k, k < i → tf k = some (tn k) ∧ wd_at w166 (tn k) (.inr (8, [.int 0, .int 1000, .int 0, .ref (ag k)])) ∧ wd_at w166 (ag k) (.inr (1, [.ref (gg k 0), .ref (gg k 1), .ref (gg k 2), .ref (gg k 3), .ref (gg k 4), .int 0])) := fun k hi9 => ⟨(fm163 k hi9).1, wd_at.ad ew167 hq168 (fm163 k hi9).2.1, wd_at.ad ew167 hq168 (fm163 k hi9).2.2⟩
      have fn180 : ∀ k, k < i → (tn k) ≠ q165 ∧ (ag k) ≠ q165 := fun k hi9 => ⟨wd_nL hq168 (fm163 k hi9).2.1, wd_nL hq168 (fm163 k hi9).2.2⟩
      have kp181 := kp164.add ew167 hq168
      refine lv_dup hx hb dX10_init_92 rfl ?_
      refine x_callIN (ret := none) (host := RX10) (n := 0) (As := []) (rest := [.ref q165, .ref y]) F hP hD hS (c_X7_init l D cy w166 q165 k178 (fun b => b = q165) rfl) gX10_init_X7_init_n49 rfl (by decide +kernel) (List.mem_cons_of_mem _ (List.mem_append_left _ (List.mem_append_left _ (List.mem_append_left _ (List.mem_append_left _ (List.mem_append_left _ (List.mem_append_left _ (List.mem_append_left _ (List.mem_append_left _ (List.mem_of_getElem? (i := 21) rfl)))))))))) (List.mem_cons_of_mem _ (List.mem_append_left _ (List.mem_append_left _ (List.mem_append_left _ (List.mem_append_left _ (List.mem_append_left _ (List.mem_append_left _ (List.mem_append_left _ (List.mem_append_right _ (List.mem_append_right _ (List.mem_append_left _ (List.mem_of_getElem? (i := 22) rfl)))))))))))) rfl (by decide +kernel) ⟨(Nat.le_of_ble_eq_true rfl), (Nat.le_of_ble_eq_true rfl)⟩ rfl hl.1 (Nat.le_of_ble_eq_true rfl) dX10_init_93 rfl ⟨(Nat.le_of_ble_eq_true rfl), (Nat.le_of_ble_eq_true rfl)⟩ (fun v183 w184 hp182 H locs hP hD hS => ?_)
      obtain ⟨rfl, hp182, b185, k186, k187⟩ := hp182
      have k188 := hp182.2 _ _ k169 (fun q : y = q165 => (wd_nL hq168 k154) q)
      have k189 := hp182.2 _ _ k170 (fun q : q1 = q165 => (wd_nL hq168 k155) q)
      have k190 := hp182.2 _ _ k171 (fun q : b11 = q165 => (wd_nL hq168 k156) q)
      have k191 := hp182.2 _ _ k172 (fun q : b12 = q165 => (wd_nL hq168 k157) q)
      have k192 := hp182.2 _ _ k173 (fun q : q34 = q165 => (wd_nL hq168 k158) q)
      have k193 := hp182.2 _ _ k174 (fun q : q61 = q165 => (wd_nL hq168 k159) q)
      have k194 := hp182.2 _ _ k175 (fun q : q84 = q165 => (wd_nL hq168 k160) q)
      have k195 := hp182.2 _ _ k176 (fun q : q109 = q165 => (wd_nL hq168 k161) q)
      have k196 := hp182.2 _ _ k177 (fun q : q136 = q165 => (wd_nL hq168 k162) q)
      have fm197 : ∀ k, k < i → tf k = some (tn k) ∧ wd_at w184 (tn k) (.inr (8, [.int 0, .int 1000, .int 0, .ref (ag k)])) ∧ wd_at w184 (ag k) (.inr (1, [.ref (gg k 0), .ref (gg k 1), .ref (gg k 2), .ref (gg k 3), .ref (gg k 4), .int 0])) := fun k hi9 => ⟨(fm179 k hi9).1, hp182.2 _ _ (fm179 k hi9).2.1 ((fn180 k hi9).1), hp182.2 _ _ (fm179 k hi9).2.2 ((fn180 k hi9).2)⟩
      have kp198 := kp181.tr hp182 (fun b hm q => (fun q => absurd (q ▸ hm) (kp164.out hq168)) q)
      refine W.eq (g2 := F0 m 96 ls [.ref q165, .ref y]) rfl (W.widen (k := 96) (n := 3981) (Nat.le_of_ble_eq_true rfl) (Nat.le_of_ble_eq_true rfl) ?_)
      refine y_putF (ref := "NoteHouse") F hP hD hS k188 rfl (fun _ h => List.mem_cons_of_mem _ (List.mem_append_left _ (List.mem_append_left _ (List.mem_append_left _ (List.mem_append_left _ (List.mem_append_left _ (List.mem_append_right _ (h)))))))) tyX10_ok nmX10 hnm 6 (Nat.le_of_ble_eq_true rfl) (List.mem_cons_of_mem _ (List.mem_append_left _ (List.mem_append_left _ (List.mem_append_left _ (List.mem_append_left _ (List.mem_append_left _ (List.mem_append_left _ (List.mem_append_left _ (List.mem_append_left _ (List.mem_of_getElem? (i := 22) rfl)))))))))) rfl rfl rfl rfl rfl (Nat.le_of_ble_eq_true rfl) dX10_init_96 (fun w199 ew200 H locs hP hD hS => ?_)
      have k201 : wd_at w199 y (.inr (10, [.ref q1, .ref q34, .ref q61, .ref q84, .ref q109, .ref q136, .ref q165, .null, .null, .null, .null, .null, .int 0, .int 0, .int 0, .int 0, .int 0])) := wd_at.ps ew200 k188
      have k202 := wd_at.pt ew200 k189 (Ne.symm (wd_nL hq4 hy))
      have k203 := wd_at.pt ew200 k190 (wd_nk k190 k188 rfl)
      have k204 := wd_at.pt ew200 k191 (wd_nk k191 k188 rfl)
      have k205 := wd_at.pt ew200 k192 (Ne.symm (wd_nL hq37 k29))
      have k206 := wd_at.pt ew200 k193 (Ne.symm (wd_nL hq64 k53))
      have k207 := wd_at.pt ew200 k194 (Ne.symm (wd_nL hq87 k76))
      have k208 := wd_at.pt ew200 k195 (Ne.symm (wd_nL hq112 k100))
      have k209 := wd_at.pt ew200 k196 (Ne.symm (wd_nL hq139 k126))
      have k210 := wd_at.pt ew200 k186 (Ne.symm (wd_nL hq168 k154))
      have k211 := wd_at.pt ew200 k187 (wd_nk k187 k188 rfl)
      have fm212 : ∀ k, k < i → tf k = some (tn k) ∧ wd_at w199 (tn k) (.inr (8, [.int 0, .int 1000, .int 0, .ref (ag k)])) ∧ wd_at w199 (ag k) (.inr (1, [.ref (gg k 0), .ref (gg k 1), .ref (gg k 2), .ref (gg k 3), .ref (gg k 4), .int 0])) := fun k hi9 => ⟨(fm197 k hi9).1, wd_at.pt ew200 (fm197 k hi9).2.1 (wd_nk (fm197 k hi9).2.1 k188 rfl), wd_at.pt ew200 (fm197 k hi9).2.2 (wd_nk (fm197 k hi9).2.2 k188 rfl)⟩
      have kp213 := kp198.put ew200 sy
      refine lv_aload_n hx hb dX10_init_99 rfl (lv_at hl 0 rfl) ?_
      refine y_new (fs := [.null, .null, .null, .null, .null, .null, .null, .null, .int 0, .int 0]) F hP hD hS (ci := 4) rfl (fun _ h => List.mem_cons_of_mem _ (List.mem_append_left _ (List.mem_append_left _ (List.mem_append_right _ (h))))) tyX4_ok (List.mem_cons_of_mem _ (List.mem_append_left _ (List.mem_append_left _ (List.mem_append_left _ (List.mem_append_left _ (List.mem_append_left _ (List.mem_append_left _ (List.mem_append_left _ (List.mem_append_left _ (List.mem_of_getElem? (i := 23) rfl)))))))))) (List.mem_cons_of_mem _ (List.mem_append_left _ (List.mem_append_left _ (List.mem_append_left _ (List.mem_append_left _ (List.mem_append_left _ (List.mem_append_left _ (List.mem_append_left _ (List.mem_append_right _ (List.mem_append_left _ (List.mem_of_getElem? (i := 0) rfl))))))))))) (List.mem_cons_of_mem _ (List.mem_append_left _ (List.mem_append_left _ (List.mem_append_left _ (List.mem_append_left _ (List.mem_append_left _ (List.mem_append_left _ (List.mem_append_left _ (List.mem_append_right _ (List.mem_append_left _ (List.mem_of_getElem? (i := 1) rfl))))))))))) df_4 (Nat.le_of_ble_eq_true rfl) (Nat.le_of_ble_eq_true rfl) dX10_init_100 (fun q214 w215 ew216 hq217 H hP hD hS => ?_)
      refine W.widen (k := 97) (n := 3991) (Nat.le_of_ble_eq_true rfl) (Nat.le_of_ble_eq_true rfl) ?_
      have k218 := wd_at.ad ew216 hq217 k201
      have k219 := wd_at.ad ew216 hq217 k202
      have k220 := wd_at.ad ew216 hq217 k203
      have k221 := wd_at.ad ew216 hq217 k204
      have k222 := wd_at.ad ew216 hq217 k205
      have k223 := wd_at.ad ew216 hq217 k206
      have k224 := wd_at.ad ew216 hq217 k207
      have k225 := wd_at.ad ew216 hq217 k208
      have k226 := wd_at.ad ew216 hq217 k209
      have k227 := wd_at.ad ew216 hq217 k210
      have k228 := wd_at.ad ew216 hq217 k211
      have k229 : wd_at w215 q214 (.inr (4, [.null, .null, .null, .null, .null, .null, .null, .null, .int 0, .int 0])) := wd_at.nw ew216
      have fm230 : ∀ k, k < i → tf k = some (tn k) ∧ wd_at w215 (tn k) (.inr (8, [.int 0, .int 1000, .int 0, .ref (ag k)])) ∧ wd_at w215 (ag k) (.inr (1, [.ref (gg k 0), .ref (gg k 1), .ref (gg k 2), .ref (gg k 3), .ref (gg k 4), .int 0])) := fun k hi9 => ⟨(fm212 k hi9).1, wd_at.ad ew216 hq217 (fm212 k hi9).2.1, wd_at.ad ew216 hq217 (fm212 k hi9).2.2⟩
      have fn231 : ∀ k, k < i → (tn k) ≠ q214 ∧ (ag k) ≠ q214 := fun k hi9 => ⟨wd_nL hq217 (fm212 k hi9).2.1, wd_nL hq217 (fm212 k hi9).2.2⟩
      have kp232 := kp213.add ew216 hq217
      refine lv_dup hx hb dX10_init_103 rfl ?_
      refine x_callI (ret := none) (n := 0) (As := []) (rest := [.ref q214, .ref y]) F hP hD hS (c_X4_init l D cy w215 q214 k229 (fun b => b = q214) rfl) gX10_init_X4_init rfl (List.mem_cons_of_mem _ (List.mem_append_left _ (List.mem_append_left _ (List.mem_append_left _ (List.mem_append_left _ (List.mem_append_left _ (List.mem_append_left _ (List.mem_append_left _ (List.mem_append_right _ (List.mem_append_left _ (List.mem_of_getElem? (i := 1) rfl))))))))))) (List.mem_cons_of_mem _ (List.mem_append_left _ (List.mem_append_left _ (List.mem_append_left _ (List.mem_append_left _ (List.mem_append_left _ (List.mem_append_left _ (List.mem_append_left _ (List.mem_append_right _ (List.mem_append_right _ (List.mem_append_right _ (List.mem_append_left _ (List.mem_of_getElem? (i := 5) rfl))))))))))))) (List.mem_cons_of_mem _ (List.mem_append_left _ (List.mem_append_left _ (List.mem_append_left _ (List.mem_append_left _ (List.mem_append_left _ (List.mem_append_left _ (List.mem_append_left _ (List.mem_append_right _ (List.mem_append_right _ (List.mem_append_right _ (List.mem_append_left _ (List.mem_of_getElem? (i := 6) rfl))))))))))))) rfl (by decide +kernel) ⟨(Nat.le_of_ble_eq_true rfl), (Nat.le_of_ble_eq_true rfl)⟩ rfl hl.1 (Nat.le_of_ble_eq_true rfl) dX10_init_104 rfl ⟨(Nat.le_of_ble_eq_true rfl), (Nat.le_of_ble_eq_true rfl)⟩ (fun v234 w235 hp233 H locs hP hD hS => ?_)
      obtain ⟨rfl, hp233, l236, l237, l238, l239, l240, l241, l242, l243, g244, hg245, nn246, k247, k248, k249, k250⟩ := hp233
      have k251 := hp233.2 _ _ k218 (fun q : y = q214 => (wd_nL hq217 k201) q)
      have k252 := hp233.2 _ _ k219 (fun q : q1 = q214 => (wd_nL hq217 k202) q)
      have k253 := hp233.2 _ _ k220 (fun q : b11 = q214 => (wd_nL hq217 k203) q)
      have k254 := hp233.2 _ _ k221 (fun q : b12 = q214 => (wd_nL hq217 k204) q)
      have k255 := hp233.2 _ _ k222 (fun q : q34 = q214 => (wd_nL hq217 k205) q)
      have k256 := hp233.2 _ _ k223 (fun q : q61 = q214 => (wd_nL hq217 k206) q)
      have k257 := hp233.2 _ _ k224 (fun q : q84 = q214 => (wd_nL hq217 k207) q)
      have k258 := hp233.2 _ _ k225 (fun q : q109 = q214 => (wd_nL hq217 k208) q)
      have k259 := hp233.2 _ _ k226 (fun q : q136 = q214 => (wd_nL hq217 k209) q)
      have k260 := hp233.2 _ _ k227 (fun q : q165 = q214 => (wd_nL hq217 k210) q)
      have k261 := hp233.2 _ _ k228 (fun q : b185 = q214 => (wd_nL hq217 k211) q)
      have fm262 : ∀ k, k < i → tf k = some (tn k) ∧ wd_at w235 (tn k) (.inr (8, [.int 0, .int 1000, .int 0, .ref (ag k)])) ∧ wd_at w235 (ag k) (.inr (1, [.ref (gg k 0), .ref (gg k 1), .ref (gg k 2), .ref (gg k 3), .ref (gg k 4), .int 0])) := fun k hi9 => ⟨(fm230 k hi9).1, hp233.2 _ _ (fm230 k hi9).2.1 ((fn231 k hi9).1), hp233.2 _ _ (fm230 k hi9).2.2 ((fn231 k hi9).2)⟩
      have kp263 := kp232.tr hp233 (fun b hm q => (fun q => absurd (q ▸ hm) (kp213.out hq217)) q)
      refine W.eq (g2 := F0 m 107 ls [.ref q214, .ref y]) rfl (W.widen (k := 105) (n := 4463) (Nat.le_of_ble_eq_true rfl) (Nat.le_of_ble_eq_true rfl) ?_)
      refine y_putF (ref := "NoteHouse") F hP hD hS k251 rfl (fun _ h => List.mem_cons_of_mem _ (List.mem_append_left _ (List.mem_append_left _ (List.mem_append_left _ (List.mem_append_left _ (List.mem_append_left _ (List.mem_append_right _ (h)))))))) tyX10_ok nmX10 hnm 7 (Nat.le_of_ble_eq_true rfl) (List.mem_cons_of_mem _ (List.mem_append_left _ (List.mem_append_left _ (List.mem_append_left _ (List.mem_append_left _ (List.mem_append_left _ (List.mem_append_left _ (List.mem_append_left _ (List.mem_append_right _ (List.mem_append_left _ (List.mem_of_getElem? (i := 2) rfl))))))))))) rfl rfl rfl rfl rfl (Nat.le_of_ble_eq_true rfl) dX10_init_107 (fun w264 ew265 H locs hP hD hS => ?_)
      have k266 : wd_at w264 y (.inr (10, [.ref q1, .ref q34, .ref q61, .ref q84, .ref q109, .ref q136, .ref q165, .ref q214, .null, .null, .null, .null, .int 0, .int 0, .int 0, .int 0, .int 0])) := wd_at.ps ew265 k251
      have k267 := wd_at.pt ew265 k252 (Ne.symm (wd_nL hq4 hy))
      have k268 := wd_at.pt ew265 k253 (wd_nk k253 k251 rfl)
      have k269 := wd_at.pt ew265 k254 (wd_nk k254 k251 rfl)
      have k270 := wd_at.pt ew265 k255 (Ne.symm (wd_nL hq37 k29))
      have k271 := wd_at.pt ew265 k256 (Ne.symm (wd_nL hq64 k53))
      have k272 := wd_at.pt ew265 k257 (Ne.symm (wd_nL hq87 k76))
      have k273 := wd_at.pt ew265 k258 (Ne.symm (wd_nL hq112 k100))
      have k274 := wd_at.pt ew265 k259 (Ne.symm (wd_nL hq139 k126))
      have k275 := wd_at.pt ew265 k260 (Ne.symm (wd_nL hq168 k154))
      have k276 := wd_at.pt ew265 k261 (wd_nk k261 k251 rfl)
      have k277 := wd_at.pt ew265 k247 (Ne.symm (wd_nL hq217 k201))
      have k278 := wd_at.pt ew265 k248 (wd_nk k248 k251 rfl)
      have k279 := wd_at.pt ew265 k249 (wd_nk k249 k251 rfl)
      have k280 := wd_at.pt ew265 k250 (wd_nk k250 k251 rfl)
      have fm281 : ∀ k, k < i → tf k = some (tn k) ∧ wd_at w264 (tn k) (.inr (8, [.int 0, .int 1000, .int 0, .ref (ag k)])) ∧ wd_at w264 (ag k) (.inr (1, [.ref (gg k 0), .ref (gg k 1), .ref (gg k 2), .ref (gg k 3), .ref (gg k 4), .int 0])) := fun k hi9 => ⟨(fm262 k hi9).1, wd_at.pt ew265 (fm262 k hi9).2.1 (wd_nk (fm262 k hi9).2.1 k251 rfl), wd_at.pt ew265 (fm262 k hi9).2.2 (wd_nk (fm262 k hi9).2.2 k251 rfl)⟩
      have kp282 := kp263.put ew265 sy
      refine lv_aload_n hx hb dX10_init_110 rfl (lv_at hl 0 rfl) ?_
      refine lv_bipush (v := 8) hx hb dX10_init_111 (by decide) ?_
      refine y_newI (N := 8) F hP hD hS (List.mem_cons_of_mem _ (List.mem_append_left _ (List.mem_append_left _ (List.mem_append_left _ (List.mem_append_left _ (List.mem_append_left _ (List.mem_append_left _ (List.mem_append_left _ (List.mem_append_right _ (List.mem_append_left _ (List.mem_of_getElem? (i := 3) rfl))))))))))) (by decide) (by decide) (by decide) (Nat.le_of_ble_eq_true rfl) (Nat.le_of_ble_eq_true rfl) dX10_init_113 (fun q283 w284 ew285 hq286 H hP hD hS => ?_)
      refine W.widen (k := 106) (n := 4471) (Nat.le_of_ble_eq_true rfl) (Nat.le_of_ble_eq_true rfl) ?_
      have k287 := wd_at.ad ew285 hq286 k266
      have k288 := wd_at.ad ew285 hq286 k267
      have k289 := wd_at.ad ew285 hq286 k268
      have k290 := wd_at.ad ew285 hq286 k269
      have k291 := wd_at.ad ew285 hq286 k270
      have k292 := wd_at.ad ew285 hq286 k271
      have k293 := wd_at.ad ew285 hq286 k272
      have k294 := wd_at.ad ew285 hq286 k273
      have k295 := wd_at.ad ew285 hq286 k274
      have k296 := wd_at.ad ew285 hq286 k275
      have k297 := wd_at.ad ew285 hq286 k276
      have k298 := wd_at.ad ew285 hq286 k277
      have k299 := wd_at.ad ew285 hq286 k278
      have k300 := wd_at.ad ew285 hq286 k279
      have k301 := wd_at.ad ew285 hq286 k280
      have k302 : wd_at w284 q283 (.inl (cy 2, 8, .inl (fun _ => 0))) := wd_at.nw ew285
      have fm303 : ∀ k, k < i → tf k = some (tn k) ∧ wd_at w284 (tn k) (.inr (8, [.int 0, .int 1000, .int 0, .ref (ag k)])) ∧ wd_at w284 (ag k) (.inr (1, [.ref (gg k 0), .ref (gg k 1), .ref (gg k 2), .ref (gg k 3), .ref (gg k 4), .int 0])) := fun k hi9 => ⟨(fm281 k hi9).1, wd_at.ad ew285 hq286 (fm281 k hi9).2.1, wd_at.ad ew285 hq286 (fm281 k hi9).2.2⟩
      have fn304 : ∀ k, k < i → (tn k) ≠ q283 ∧ (ag k) ≠ q283 := fun k hi9 => ⟨wd_nL hq286 (fm281 k hi9).2.1, wd_nL hq286 (fm281 k hi9).2.2⟩
      have kp305 := kp282.add ew285 hq286
      refine y_putF (ref := "NoteHouse") F hP hD hS k287 rfl (fun _ h => List.mem_cons_of_mem _ (List.mem_append_left _ (List.mem_append_left _ (List.mem_append_left _ (List.mem_append_left _ (List.mem_append_left _ (List.mem_append_right _ (h)))))))) tyX10_ok nmX10 hnm 8 (Nat.le_of_ble_eq_true rfl) (List.mem_cons_of_mem _ (List.mem_append_left _ (List.mem_append_left _ (List.mem_append_left _ (List.mem_append_left _ (List.mem_append_left _ (List.mem_append_left _ (List.mem_append_left _ (List.mem_append_right _ (List.mem_append_left _ (List.mem_of_getElem? (i := 4) rfl))))))))))) rfl rfl rfl rfl rfl (Nat.le_of_ble_eq_true rfl) dX10_init_115 (fun w306 ew307 H locs hP hD hS => ?_)
      have k308 : wd_at w306 y (.inr (10, [.ref q1, .ref q34, .ref q61, .ref q84, .ref q109, .ref q136, .ref q165, .ref q214, .ref q283, .null, .null, .null, .int 0, .int 0, .int 0, .int 0, .int 0])) := wd_at.ps ew307 k287
      have k309 := wd_at.pt ew307 k288 (Ne.symm (wd_nL hq4 hy))
      have k310 := wd_at.pt ew307 k289 (wd_nk k289 k287 rfl)
      have k311 := wd_at.pt ew307 k290 (wd_nk k290 k287 rfl)
      have k312 := wd_at.pt ew307 k291 (Ne.symm (wd_nL hq37 k29))
      have k313 := wd_at.pt ew307 k292 (Ne.symm (wd_nL hq64 k53))
      have k314 := wd_at.pt ew307 k293 (Ne.symm (wd_nL hq87 k76))
      have k315 := wd_at.pt ew307 k294 (Ne.symm (wd_nL hq112 k100))
      have k316 := wd_at.pt ew307 k295 (Ne.symm (wd_nL hq139 k126))
      have k317 := wd_at.pt ew307 k296 (Ne.symm (wd_nL hq168 k154))
      have k318 := wd_at.pt ew307 k297 (wd_nk k297 k287 rfl)
      have k319 := wd_at.pt ew307 k298 (Ne.symm (wd_nL hq217 k201))
      have k320 := wd_at.pt ew307 k299 (wd_nk k299 k287 rfl)
      have k321 := wd_at.pt ew307 k300 (wd_nk k300 k287 rfl)
      have k322 := wd_at.pt ew307 k301 (wd_nk k301 k287 rfl)
      have k323 := wd_at.pt ew307 k302 (Ne.symm (wd_nL hq286 k266))
      have fm324 : ∀ k, k < i → tf k = some (tn k) ∧ wd_at w306 (tn k) (.inr (8, [.int 0, .int 1000, .int 0, .ref (ag k)])) ∧ wd_at w306 (ag k) (.inr (1, [.ref (gg k 0), .ref (gg k 1), .ref (gg k 2), .ref (gg k 3), .ref (gg k 4), .int 0])) := fun k hi9 => ⟨(fm303 k hi9).1, wd_at.pt ew307 (fm303 k hi9).2.1 (wd_nk (fm303 k hi9).2.1 k287 rfl), wd_at.pt ew307 (fm303 k hi9).2.2 (wd_nk (fm303 k hi9).2.2 k287 rfl)⟩
      have kp325 := kp305.put ew307 sy
      refine lv_aload_n hx hb dX10_init_118 rfl (lv_at hl 0 rfl) ?_
      refine y_new (fs := [.null, .null, .null, .null, .null, .int 0]) F hP hD hS (ci := 1) rfl (fun _ h => List.mem_cons_of_mem _ (List.mem_append_left _ (List.mem_append_right _ (h)))) tyX1_ok (List.mem_cons_of_mem _ (List.mem_append_left _ (List.mem_append_left _ (List.mem_append_left _ (List.mem_append_left _ (List.mem_append_left _ (List.mem_append_left _ (List.mem_append_left _ (List.mem_append_right _ (List.mem_append_left _ (List.mem_of_getElem? (i := 5) rfl))))))))))) (List.mem_cons_of_mem _ (List.mem_append_left _ (List.mem_append_left _ (List.mem_append_left _ (List.mem_append_left _ (List.mem_append_left _ (List.mem_append_left _ (List.mem_append_left _ (List.mem_append_right _ (List.mem_append_left _ (List.mem_of_getElem? (i := 6) rfl))))))))))) (List.mem_cons_of_mem _ (List.mem_append_left _ (List.mem_append_left _ (List.mem_append_left _ (List.mem_append_left _ (List.mem_append_left _ (List.mem_append_left _ (List.mem_append_left _ (List.mem_append_right _ (List.mem_append_left _ (List.mem_of_getElem? (i := 7) rfl))))))))))) df_1 (Nat.le_of_ble_eq_true rfl) (Nat.le_of_ble_eq_true rfl) dX10_init_119 (fun q326 w327 ew328 hq329 H hP hD hS => ?_)
      refine W.widen (k := 107) (n := 4477) (Nat.le_of_ble_eq_true rfl) (Nat.le_of_ble_eq_true rfl) ?_
      have k330 := wd_at.ad ew328 hq329 k308
      have k331 := wd_at.ad ew328 hq329 k309
      have k332 := wd_at.ad ew328 hq329 k310
      have k333 := wd_at.ad ew328 hq329 k311
      have k334 := wd_at.ad ew328 hq329 k312
      have k335 := wd_at.ad ew328 hq329 k313
      have k336 := wd_at.ad ew328 hq329 k314
      have k337 := wd_at.ad ew328 hq329 k315
      have k338 := wd_at.ad ew328 hq329 k316
      have k339 := wd_at.ad ew328 hq329 k317
      have k340 := wd_at.ad ew328 hq329 k318
      have k341 := wd_at.ad ew328 hq329 k319
      have k342 := wd_at.ad ew328 hq329 k320
      have k343 := wd_at.ad ew328 hq329 k321
      have k344 := wd_at.ad ew328 hq329 k322
      have k345 := wd_at.ad ew328 hq329 k323
      have k346 : wd_at w327 q326 (.inr (1, [.null, .null, .null, .null, .null, .int 0])) := wd_at.nw ew328
      have fm347 : ∀ k, k < i → tf k = some (tn k) ∧ wd_at w327 (tn k) (.inr (8, [.int 0, .int 1000, .int 0, .ref (ag k)])) ∧ wd_at w327 (ag k) (.inr (1, [.ref (gg k 0), .ref (gg k 1), .ref (gg k 2), .ref (gg k 3), .ref (gg k 4), .int 0])) := fun k hi9 => ⟨(fm324 k hi9).1, wd_at.ad ew328 hq329 (fm324 k hi9).2.1, wd_at.ad ew328 hq329 (fm324 k hi9).2.2⟩
      have fn348 : ∀ k, k < i → (tn k) ≠ q326 ∧ (ag k) ≠ q326 := fun k hi9 => ⟨wd_nL hq329 (fm324 k hi9).2.1, wd_nL hq329 (fm324 k hi9).2.2⟩
      have kp349 := kp325.add ew328 hq329
      refine lv_dup hx hb dX10_init_122 rfl ?_
      refine x_callIN (ret := none) (host := RX10) (n := 0) (As := []) (rest := [.ref q326, .ref y]) F hP hD hS (c_X1_init l D cy w327 q326 k346 (fun b => b = q326) rfl) gX10_init_X1_init_n67 rfl (by decide +kernel) (List.mem_cons_of_mem _ (List.mem_append_left _ (List.mem_append_left _ (List.mem_append_left _ (List.mem_append_left _ (List.mem_append_left _ (List.mem_append_left _ (List.mem_append_left _ (List.mem_append_right _ (List.mem_append_left _ (List.mem_of_getElem? (i := 7) rfl))))))))))) (List.mem_cons_of_mem _ (List.mem_append_left _ (List.mem_append_left _ (List.mem_append_left _ (List.mem_append_left _ (List.mem_append_left _ (List.mem_append_left _ (List.mem_append_left _ (List.mem_append_right _ (List.mem_append_right _ (List.mem_append_left _ (List.mem_of_getElem? (i := 12) rfl)))))))))))) rfl (by decide +kernel) ⟨(Nat.le_of_ble_eq_true rfl), (Nat.le_of_ble_eq_true rfl)⟩ rfl hl.1 (Nat.le_of_ble_eq_true rfl) dX10_init_123 rfl ⟨(Nat.le_of_ble_eq_true rfl), (Nat.le_of_ble_eq_true rfl)⟩ (fun v351 w352 hp350 H locs hP hD hS => ?_)
      obtain ⟨rfl, hp350, g353, g354, g355, g356, g357, k358, k359, k360, k361, k362, k363⟩ := hp350
      have k364 := hp350.2 _ _ k330 (fun q : y = q326 => (wd_nL hq329 k308) q)
      have k365 := hp350.2 _ _ k331 (fun q : q1 = q326 => (wd_nL hq329 k309) q)
      have k366 := hp350.2 _ _ k332 (fun q : b11 = q326 => (wd_nL hq329 k310) q)
      have k367 := hp350.2 _ _ k333 (fun q : b12 = q326 => (wd_nL hq329 k311) q)
      have k368 := hp350.2 _ _ k334 (fun q : q34 = q326 => (wd_nL hq329 k312) q)
      have k369 := hp350.2 _ _ k335 (fun q : q61 = q326 => (wd_nL hq329 k313) q)
      have k370 := hp350.2 _ _ k336 (fun q : q84 = q326 => (wd_nL hq329 k314) q)
      have k371 := hp350.2 _ _ k337 (fun q : q109 = q326 => (wd_nL hq329 k315) q)
      have k372 := hp350.2 _ _ k338 (fun q : q136 = q326 => (wd_nL hq329 k316) q)
      have k373 := hp350.2 _ _ k339 (fun q : q165 = q326 => (wd_nL hq329 k317) q)
      have k374 := hp350.2 _ _ k340 (fun q : b185 = q326 => (wd_nL hq329 k318) q)
      have k375 := hp350.2 _ _ k341 (fun q : q214 = q326 => (wd_nL hq329 k319) q)
      have k376 := hp350.2 _ _ k342 (fun q : l236 = q326 => (wd_nL hq329 k320) q)
      have k377 := hp350.2 _ _ k343 (fun q : l238 = q326 => (wd_nL hq329 k321) q)
      have k378 := hp350.2 _ _ k344 (fun q : l239 = q326 => (wd_nL hq329 k322) q)
      have k379 := hp350.2 _ _ k345 (fun q : q283 = q326 => (wd_nL hq329 k323) q)
      have fm380 : ∀ k, k < i → tf k = some (tn k) ∧ wd_at w352 (tn k) (.inr (8, [.int 0, .int 1000, .int 0, .ref (ag k)])) ∧ wd_at w352 (ag k) (.inr (1, [.ref (gg k 0), .ref (gg k 1), .ref (gg k 2), .ref (gg k 3), .ref (gg k 4), .int 0])) := fun k hi9 => ⟨(fm347 k hi9).1, hp350.2 _ _ (fm347 k hi9).2.1 ((fn348 k hi9).1), hp350.2 _ _ (fm347 k hi9).2.2 ((fn348 k hi9).2)⟩
      have kp381 := kp349.tr hp350 (fun b hm q => (fun q => absurd (q ▸ hm) (kp325.out hq329)) q)
      refine W.eq (g2 := F0 m 126 ls [.ref q326, .ref y]) rfl (W.widen (k := 112) (n := 4717) (Nat.le_of_ble_eq_true rfl) (Nat.le_of_ble_eq_true rfl) ?_)
      refine y_put (ref := "NoteHouse") F hP hD hS k364 rfl (fun _ h => List.mem_cons_of_mem _ (List.mem_append_left _ (List.mem_append_left _ (List.mem_append_left _ (List.mem_append_left _ (List.mem_append_left _ (List.mem_append_right _ (h)))))))) tyX10_ok nmX10 9 (Nat.le_of_ble_eq_true rfl) (List.mem_cons_of_mem _ (List.mem_append_left _ (List.mem_append_left _ (List.mem_append_left _ (List.mem_append_left _ (List.mem_append_left _ (List.mem_append_left _ (List.mem_append_left _ (List.mem_append_right _ (List.mem_append_left _ (List.mem_of_getElem? (i := 8) rfl))))))))))) rfl rfl rfl rfl (Nat.le_of_ble_eq_true rfl) dX10_init_126 (fun w382 ew383 H locs hP hD hS => ?_)
      have k384 : wd_at w382 y (.inr (10, [.ref q1, .ref q34, .ref q61, .ref q84, .ref q109, .ref q136, .ref q165, .ref q214, .ref q283, .ref q326, .null, .null, .int 0, .int 0, .int 0, .int 0, .int 0])) := wd_at.ps ew383 k364
      have k385 := wd_at.pt ew383 k365 (Ne.symm (wd_nL hq4 hy))
      have k386 := wd_at.pt ew383 k366 (wd_nk k366 k364 rfl)
      have k387 := wd_at.pt ew383 k367 (wd_nk k367 k364 rfl)
      have k388 := wd_at.pt ew383 k368 (Ne.symm (wd_nL hq37 k29))
      have k389 := wd_at.pt ew383 k369 (Ne.symm (wd_nL hq64 k53))
      have k390 := wd_at.pt ew383 k370 (Ne.symm (wd_nL hq87 k76))
      have k391 := wd_at.pt ew383 k371 (Ne.symm (wd_nL hq112 k100))
      have k392 := wd_at.pt ew383 k372 (Ne.symm (wd_nL hq139 k126))
      have k393 := wd_at.pt ew383 k373 (Ne.symm (wd_nL hq168 k154))
      have k394 := wd_at.pt ew383 k374 (wd_nk k374 k364 rfl)
      have k395 := wd_at.pt ew383 k375 (Ne.symm (wd_nL hq217 k201))
      have k396 := wd_at.pt ew383 k376 (wd_nk k376 k364 rfl)
      have k397 := wd_at.pt ew383 k377 (wd_nk k377 k364 rfl)
      have k398 := wd_at.pt ew383 k378 (wd_nk k378 k364 rfl)
      have k399 := wd_at.pt ew383 k379 (Ne.symm (wd_nL hq286 k266))
      have k400 := wd_at.pt ew383 k358 (Ne.symm (wd_nL hq329 k308))
      have fm401 : ∀ k, k < i → tf k = some (tn k) ∧ wd_at w382 (tn k) (.inr (8, [.int 0, .int 1000, .int 0, .ref (ag k)])) ∧ wd_at w382 (ag k) (.inr (1, [.ref (gg k 0), .ref (gg k 1), .ref (gg k 2), .ref (gg k 3), .ref (gg k 4), .int 0])) := fun k hi9 => ⟨(fm380 k hi9).1, wd_at.pt ew383 (fm380 k hi9).2.1 (wd_nk (fm380 k hi9).2.1 k364 rfl), wd_at.pt ew383 (fm380 k hi9).2.2 (wd_nk (fm380 k hi9).2.2 k364 rfl)⟩
      have kp402 := kp381.put ew383 sy
      refine lv_aload_n hx hb dX10_init_129 rfl (lv_at hl 0 rfl) ?_
      refine y_new (fs := [.null, .int 0, .int 0]) F hP hD hS (ci := 2) rfl (fun _ h => List.mem_cons_of_mem _ (List.mem_append_right _ (h))) tyX2_ok (List.mem_cons_of_mem _ (List.mem_append_left _ (List.mem_append_left _ (List.mem_append_left _ (List.mem_append_left _ (List.mem_append_left _ (List.mem_append_left _ (List.mem_append_left _ (List.mem_append_right _ (List.mem_append_left _ (List.mem_of_getElem? (i := 9) rfl))))))))))) (List.mem_cons_of_mem _ (List.mem_append_left _ (List.mem_append_left _ (List.mem_append_left _ (List.mem_append_left _ (List.mem_append_left _ (List.mem_append_left _ (List.mem_append_left _ (List.mem_append_right _ (List.mem_append_left _ (List.mem_of_getElem? (i := 10) rfl))))))))))) (List.mem_cons_of_mem _ (List.mem_append_left _ (List.mem_append_left _ (List.mem_append_left _ (List.mem_append_left _ (List.mem_append_left _ (List.mem_append_left _ (List.mem_append_left _ (List.mem_append_right _ (List.mem_append_left _ (List.mem_of_getElem? (i := 11) rfl))))))))))) df_2 (Nat.le_of_ble_eq_true rfl) (Nat.le_of_ble_eq_true rfl) dX10_init_130 (fun q403 w404 ew405 hq406 H hP hD hS => ?_)
      refine W.widen (k := 113) (n := 4720) (Nat.le_of_ble_eq_true rfl) (Nat.le_of_ble_eq_true rfl) ?_
      have k407 := wd_at.ad ew405 hq406 k384
      have k408 := wd_at.ad ew405 hq406 k385
      have k409 := wd_at.ad ew405 hq406 k386
      have k410 := wd_at.ad ew405 hq406 k387
      have k411 := wd_at.ad ew405 hq406 k388
      have k412 := wd_at.ad ew405 hq406 k389
      have k413 := wd_at.ad ew405 hq406 k390
      have k414 := wd_at.ad ew405 hq406 k391
      have k415 := wd_at.ad ew405 hq406 k392
      have k416 := wd_at.ad ew405 hq406 k393
      have k417 := wd_at.ad ew405 hq406 k394
      have k418 := wd_at.ad ew405 hq406 k395
      have k419 := wd_at.ad ew405 hq406 k396
      have k420 := wd_at.ad ew405 hq406 k397
      have k421 := wd_at.ad ew405 hq406 k398
      have k422 := wd_at.ad ew405 hq406 k399
      have k423 := wd_at.ad ew405 hq406 k400
      have k424 : wd_at w404 q403 (.inr (2, [.null, .int 0, .int 0])) := wd_at.nw ew405
      have fm425 : ∀ k, k < i → tf k = some (tn k) ∧ wd_at w404 (tn k) (.inr (8, [.int 0, .int 1000, .int 0, .ref (ag k)])) ∧ wd_at w404 (ag k) (.inr (1, [.ref (gg k 0), .ref (gg k 1), .ref (gg k 2), .ref (gg k 3), .ref (gg k 4), .int 0])) := fun k hi9 => ⟨(fm401 k hi9).1, wd_at.ad ew405 hq406 (fm401 k hi9).2.1, wd_at.ad ew405 hq406 (fm401 k hi9).2.2⟩
      have fn426 : ∀ k, k < i → (tn k) ≠ q403 ∧ (ag k) ≠ q403 := fun k hi9 => ⟨wd_nL hq406 (fm401 k hi9).2.1, wd_nL hq406 (fm401 k hi9).2.2⟩
      have kp427 := kp402.add ew405 hq406
      refine lv_dup hx hb dX10_init_133 rfl ?_
      refine x_callI (ret := none) (n := 0) (As := []) (rest := [.ref q403, .ref y]) F hP hD hS (c_X2_init l D cy w404 q403 k424 (fun b => b = q403) rfl) gX10_init_X2_init rfl (List.mem_cons_of_mem _ (List.mem_append_left _ (List.mem_append_left _ (List.mem_append_left _ (List.mem_append_left _ (List.mem_append_left _ (List.mem_append_left _ (List.mem_append_left _ (List.mem_append_right _ (List.mem_append_left _ (List.mem_of_getElem? (i := 11) rfl))))))))))) (List.mem_cons_of_mem _ (List.mem_append_left _ (List.mem_append_left _ (List.mem_append_left _ (List.mem_append_left _ (List.mem_append_left _ (List.mem_append_left _ (List.mem_append_left _ (List.mem_append_right _ (List.mem_append_right _ (List.mem_append_right _ (List.mem_append_left _ (List.mem_of_getElem? (i := 21) rfl))))))))))))) (List.mem_cons_of_mem _ (List.mem_append_left _ (List.mem_append_left _ (List.mem_append_left _ (List.mem_append_left _ (List.mem_append_left _ (List.mem_append_left _ (List.mem_append_left _ (List.mem_append_right _ (List.mem_append_right _ (List.mem_append_right _ (List.mem_append_left _ (List.mem_of_getElem? (i := 22) rfl))))))))))))) rfl (by decide +kernel) ⟨(Nat.le_of_ble_eq_true rfl), (Nat.le_of_ble_eq_true rfl)⟩ rfl hl.1 (Nat.le_of_ble_eq_true rfl) dX10_init_134 rfl ⟨(Nat.le_of_ble_eq_true rfl), (Nat.le_of_ble_eq_true rfl)⟩ (fun v429 w430 hp428 H locs hP hD hS => ?_)
      obtain ⟨rfl, hp428, b431, g432, hg433, k434, k435⟩ := hp428
      have k436 := hp428.2 _ _ k407 (fun q : y = q403 => (wd_nL hq406 k384) q)
      have k437 := hp428.2 _ _ k408 (fun q : q1 = q403 => (wd_nL hq406 k385) q)
      have k438 := hp428.2 _ _ k409 (fun q : b11 = q403 => (wd_nL hq406 k386) q)
      have k439 := hp428.2 _ _ k410 (fun q : b12 = q403 => (wd_nL hq406 k387) q)
      have k440 := hp428.2 _ _ k411 (fun q : q34 = q403 => (wd_nL hq406 k388) q)
      have k441 := hp428.2 _ _ k412 (fun q : q61 = q403 => (wd_nL hq406 k389) q)
      have k442 := hp428.2 _ _ k413 (fun q : q84 = q403 => (wd_nL hq406 k390) q)
      have k443 := hp428.2 _ _ k414 (fun q : q109 = q403 => (wd_nL hq406 k391) q)
      have k444 := hp428.2 _ _ k415 (fun q : q136 = q403 => (wd_nL hq406 k392) q)
      have k445 := hp428.2 _ _ k416 (fun q : q165 = q403 => (wd_nL hq406 k393) q)
      have k446 := hp428.2 _ _ k417 (fun q : b185 = q403 => (wd_nL hq406 k394) q)
      have k447 := hp428.2 _ _ k418 (fun q : q214 = q403 => (wd_nL hq406 k395) q)
      have k448 := hp428.2 _ _ k419 (fun q : l236 = q403 => (wd_nL hq406 k396) q)
      have k449 := hp428.2 _ _ k420 (fun q : l238 = q403 => (wd_nL hq406 k397) q)
      have k450 := hp428.2 _ _ k421 (fun q : l239 = q403 => (wd_nL hq406 k398) q)
      have k451 := hp428.2 _ _ k422 (fun q : q283 = q403 => (wd_nL hq406 k399) q)
      have k452 := hp428.2 _ _ k423 (fun q : q326 = q403 => (wd_nL hq406 k400) q)
      have fm453 : ∀ k, k < i → tf k = some (tn k) ∧ wd_at w430 (tn k) (.inr (8, [.int 0, .int 1000, .int 0, .ref (ag k)])) ∧ wd_at w430 (ag k) (.inr (1, [.ref (gg k 0), .ref (gg k 1), .ref (gg k 2), .ref (gg k 3), .ref (gg k 4), .int 0])) := fun k hi9 => ⟨(fm425 k hi9).1, hp428.2 _ _ (fm425 k hi9).2.1 ((fn426 k hi9).1), hp428.2 _ _ (fm425 k hi9).2.2 ((fn426 k hi9).2)⟩
      have kp454 := kp427.tr hp428 (fun b hm q => (fun q => absurd (q ▸ hm) (kp402.out hq406)) q)
      refine W.eq (g2 := F0 m 137 ls [.ref q403, .ref y]) rfl (W.widen (k := 114) (n := 4724) (Nat.le_of_ble_eq_true rfl) (Nat.le_of_ble_eq_true rfl) ?_)
      refine y_put (ref := "NoteHouse") F hP hD hS k436 rfl (fun _ h => List.mem_cons_of_mem _ (List.mem_append_left _ (List.mem_append_left _ (List.mem_append_left _ (List.mem_append_left _ (List.mem_append_left _ (List.mem_append_right _ (h)))))))) tyX10_ok nmX10 10 (Nat.le_of_ble_eq_true rfl) (List.mem_cons_of_mem _ (List.mem_append_left _ (List.mem_append_left _ (List.mem_append_left _ (List.mem_append_left _ (List.mem_append_left _ (List.mem_append_left _ (List.mem_append_left _ (List.mem_append_right _ (List.mem_append_left _ (List.mem_of_getElem? (i := 12) rfl))))))))))) rfl rfl rfl rfl (Nat.le_of_ble_eq_true rfl) dX10_init_137 (fun w455 ew456 H locs hP hD hS => ?_)
      have k457 : wd_at w455 y (.inr (10, [.ref q1, .ref q34, .ref q61, .ref q84, .ref q109, .ref q136, .ref q165, .ref q214, .ref q283, .ref q326, .ref q403, .null, .int 0, .int 0, .int 0, .int 0, .int 0])) := wd_at.ps ew456 k436
      have k458 := wd_at.pt ew456 k437 (Ne.symm (wd_nL hq4 hy))
      have k459 := wd_at.pt ew456 k438 (wd_nk k438 k436 rfl)
      have k460 := wd_at.pt ew456 k439 (wd_nk k439 k436 rfl)
      have k461 := wd_at.pt ew456 k440 (Ne.symm (wd_nL hq37 k29))
      have k462 := wd_at.pt ew456 k441 (Ne.symm (wd_nL hq64 k53))
      have k463 := wd_at.pt ew456 k442 (Ne.symm (wd_nL hq87 k76))
      have k464 := wd_at.pt ew456 k443 (Ne.symm (wd_nL hq112 k100))
      have k465 := wd_at.pt ew456 k444 (Ne.symm (wd_nL hq139 k126))
      have k466 := wd_at.pt ew456 k445 (Ne.symm (wd_nL hq168 k154))
      have k467 := wd_at.pt ew456 k446 (wd_nk k446 k436 rfl)
      have k468 := wd_at.pt ew456 k447 (Ne.symm (wd_nL hq217 k201))
      have k469 := wd_at.pt ew456 k448 (wd_nk k448 k436 rfl)
      have k470 := wd_at.pt ew456 k449 (wd_nk k449 k436 rfl)
      have k471 := wd_at.pt ew456 k450 (wd_nk k450 k436 rfl)
      have k472 := wd_at.pt ew456 k451 (Ne.symm (wd_nL hq286 k266))
      have k473 := wd_at.pt ew456 k452 (Ne.symm (wd_nL hq329 k308))
      have k474 := wd_at.pt ew456 k434 (Ne.symm (wd_nL hq406 k384))
      have k475 := wd_at.pt ew456 k435 (wd_nk k435 k436 rfl)
      have fm476 : ∀ k, k < i → tf k = some (tn k) ∧ wd_at w455 (tn k) (.inr (8, [.int 0, .int 1000, .int 0, .ref (ag k)])) ∧ wd_at w455 (ag k) (.inr (1, [.ref (gg k 0), .ref (gg k 1), .ref (gg k 2), .ref (gg k 3), .ref (gg k 4), .int 0])) := fun k hi9 => ⟨(fm453 k hi9).1, wd_at.pt ew456 (fm453 k hi9).2.1 (wd_nk (fm453 k hi9).2.1 k436 rfl), wd_at.pt ew456 (fm453 k hi9).2.2 (wd_nk (fm453 k hi9).2.2 k436 rfl)⟩
      have kp477 := kp454.put ew456 sy
      refine lv_aload_n hx hb dX10_init_140 rfl (lv_at hl 0 rfl) ?_
      refine y_new (fs := [.null, .int 0, .int 0]) F hP hD hS (ci := 2) rfl (fun _ h => List.mem_cons_of_mem _ (List.mem_append_right _ (h))) tyX2_ok (List.mem_cons_of_mem _ (List.mem_append_left _ (List.mem_append_left _ (List.mem_append_left _ (List.mem_append_left _ (List.mem_append_left _ (List.mem_append_left _ (List.mem_append_left _ (List.mem_append_right _ (List.mem_append_left _ (List.mem_of_getElem? (i := 9) rfl))))))))))) (List.mem_cons_of_mem _ (List.mem_append_left _ (List.mem_append_left _ (List.mem_append_left _ (List.mem_append_left _ (List.mem_append_left _ (List.mem_append_left _ (List.mem_append_left _ (List.mem_append_right _ (List.mem_append_left _ (List.mem_of_getElem? (i := 10) rfl))))))))))) (List.mem_cons_of_mem _ (List.mem_append_left _ (List.mem_append_left _ (List.mem_append_left _ (List.mem_append_left _ (List.mem_append_left _ (List.mem_append_left _ (List.mem_append_left _ (List.mem_append_right _ (List.mem_append_left _ (List.mem_of_getElem? (i := 11) rfl))))))))))) df_2 (Nat.le_of_ble_eq_true rfl) (Nat.le_of_ble_eq_true rfl) dX10_init_141 (fun q478 w479 ew480 hq481 H hP hD hS => ?_)
      refine W.widen (k := 115) (n := 4727) (Nat.le_of_ble_eq_true rfl) (Nat.le_of_ble_eq_true rfl) ?_
      have k482 := wd_at.ad ew480 hq481 k457
      have k483 := wd_at.ad ew480 hq481 k458
      have k484 := wd_at.ad ew480 hq481 k459
      have k485 := wd_at.ad ew480 hq481 k460
      have k486 := wd_at.ad ew480 hq481 k461
      have k487 := wd_at.ad ew480 hq481 k462
      have k488 := wd_at.ad ew480 hq481 k463
      have k489 := wd_at.ad ew480 hq481 k464
      have k490 := wd_at.ad ew480 hq481 k465
      have k491 := wd_at.ad ew480 hq481 k466
      have k492 := wd_at.ad ew480 hq481 k467
      have k493 := wd_at.ad ew480 hq481 k468
      have k494 := wd_at.ad ew480 hq481 k469
      have k495 := wd_at.ad ew480 hq481 k470
      have k496 := wd_at.ad ew480 hq481 k471
      have k497 := wd_at.ad ew480 hq481 k472
      have k498 := wd_at.ad ew480 hq481 k473
      have k499 := wd_at.ad ew480 hq481 k474
      have k500 := wd_at.ad ew480 hq481 k475
      have k501 : wd_at w479 q478 (.inr (2, [.null, .int 0, .int 0])) := wd_at.nw ew480
      have fm502 : ∀ k, k < i → tf k = some (tn k) ∧ wd_at w479 (tn k) (.inr (8, [.int 0, .int 1000, .int 0, .ref (ag k)])) ∧ wd_at w479 (ag k) (.inr (1, [.ref (gg k 0), .ref (gg k 1), .ref (gg k 2), .ref (gg k 3), .ref (gg k 4), .int 0])) := fun k hi9 => ⟨(fm476 k hi9).1, wd_at.ad ew480 hq481 (fm476 k hi9).2.1, wd_at.ad ew480 hq481 (fm476 k hi9).2.2⟩
      have fn503 : ∀ k, k < i → (tn k) ≠ q478 ∧ (ag k) ≠ q478 := fun k hi9 => ⟨wd_nL hq481 (fm476 k hi9).2.1, wd_nL hq481 (fm476 k hi9).2.2⟩
      have kp504 := kp477.add ew480 hq481
      refine lv_dup hx hb dX10_init_144 rfl ?_
      refine x_callI (ret := none) (n := 0) (As := []) (rest := [.ref q478, .ref y]) F hP hD hS (c_X2_init l D cy w479 q478 k501 (fun b => b = q478) rfl) gX10_init_X2_init rfl (List.mem_cons_of_mem _ (List.mem_append_left _ (List.mem_append_left _ (List.mem_append_left _ (List.mem_append_left _ (List.mem_append_left _ (List.mem_append_left _ (List.mem_append_left _ (List.mem_append_right _ (List.mem_append_left _ (List.mem_of_getElem? (i := 11) rfl))))))))))) (List.mem_cons_of_mem _ (List.mem_append_left _ (List.mem_append_left _ (List.mem_append_left _ (List.mem_append_left _ (List.mem_append_left _ (List.mem_append_left _ (List.mem_append_left _ (List.mem_append_right _ (List.mem_append_right _ (List.mem_append_right _ (List.mem_append_left _ (List.mem_of_getElem? (i := 21) rfl))))))))))))) (List.mem_cons_of_mem _ (List.mem_append_left _ (List.mem_append_left _ (List.mem_append_left _ (List.mem_append_left _ (List.mem_append_left _ (List.mem_append_left _ (List.mem_append_left _ (List.mem_append_right _ (List.mem_append_right _ (List.mem_append_right _ (List.mem_append_left _ (List.mem_of_getElem? (i := 22) rfl))))))))))))) rfl (by decide +kernel) ⟨(Nat.le_of_ble_eq_true rfl), (Nat.le_of_ble_eq_true rfl)⟩ rfl hl.1 (Nat.le_of_ble_eq_true rfl) dX10_init_145 rfl ⟨(Nat.le_of_ble_eq_true rfl), (Nat.le_of_ble_eq_true rfl)⟩ (fun v506 w507 hp505 H locs hP hD hS => ?_)
      obtain ⟨rfl, hp505, b508, g509, hg510, k511, k512⟩ := hp505
      have k513 := hp505.2 _ _ k482 (fun q : y = q478 => (wd_nL hq481 k457) q)
      have k514 := hp505.2 _ _ k483 (fun q : q1 = q478 => (wd_nL hq481 k458) q)
      have k515 := hp505.2 _ _ k484 (fun q : b11 = q478 => (wd_nL hq481 k459) q)
      have k516 := hp505.2 _ _ k485 (fun q : b12 = q478 => (wd_nL hq481 k460) q)
      have k517 := hp505.2 _ _ k486 (fun q : q34 = q478 => (wd_nL hq481 k461) q)
      have k518 := hp505.2 _ _ k487 (fun q : q61 = q478 => (wd_nL hq481 k462) q)
      have k519 := hp505.2 _ _ k488 (fun q : q84 = q478 => (wd_nL hq481 k463) q)
      have k520 := hp505.2 _ _ k489 (fun q : q109 = q478 => (wd_nL hq481 k464) q)
      have k521 := hp505.2 _ _ k490 (fun q : q136 = q478 => (wd_nL hq481 k465) q)
      have k522 := hp505.2 _ _ k491 (fun q : q165 = q478 => (wd_nL hq481 k466) q)
      have k523 := hp505.2 _ _ k492 (fun q : b185 = q478 => (wd_nL hq481 k467) q)
      have k524 := hp505.2 _ _ k493 (fun q : q214 = q478 => (wd_nL hq481 k468) q)
      have k525 := hp505.2 _ _ k494 (fun q : l236 = q478 => (wd_nL hq481 k469) q)
      have k526 := hp505.2 _ _ k495 (fun q : l238 = q478 => (wd_nL hq481 k470) q)
      have k527 := hp505.2 _ _ k496 (fun q : l239 = q478 => (wd_nL hq481 k471) q)
      have k528 := hp505.2 _ _ k497 (fun q : q283 = q478 => (wd_nL hq481 k472) q)
      have k529 := hp505.2 _ _ k498 (fun q : q326 = q478 => (wd_nL hq481 k473) q)
      have k530 := hp505.2 _ _ k499 (fun q : q403 = q478 => (wd_nL hq481 k474) q)
      have k531 := hp505.2 _ _ k500 (fun q : b431 = q478 => (wd_nL hq481 k475) q)
      have fm532 : ∀ k, k < i → tf k = some (tn k) ∧ wd_at w507 (tn k) (.inr (8, [.int 0, .int 1000, .int 0, .ref (ag k)])) ∧ wd_at w507 (ag k) (.inr (1, [.ref (gg k 0), .ref (gg k 1), .ref (gg k 2), .ref (gg k 3), .ref (gg k 4), .int 0])) := fun k hi9 => ⟨(fm502 k hi9).1, hp505.2 _ _ (fm502 k hi9).2.1 ((fn503 k hi9).1), hp505.2 _ _ (fm502 k hi9).2.2 ((fn503 k hi9).2)⟩
      have kp533 := kp504.tr hp505 (fun b hm q => (fun q => absurd (q ▸ hm) (kp477.out hq481)) q)
      refine W.eq (g2 := F0 m 148 ls [.ref q478, .ref y]) rfl (W.widen (k := 116) (n := 4731) (Nat.le_of_ble_eq_true rfl) (Nat.le_of_ble_eq_true rfl) ?_)
      refine y_put (ref := "NoteHouse") F hP hD hS k513 rfl (fun _ h => List.mem_cons_of_mem _ (List.mem_append_left _ (List.mem_append_left _ (List.mem_append_left _ (List.mem_append_left _ (List.mem_append_left _ (List.mem_append_right _ (h)))))))) tyX10_ok nmX10 11 (Nat.le_of_ble_eq_true rfl) (List.mem_cons_of_mem _ (List.mem_append_left _ (List.mem_append_left _ (List.mem_append_left _ (List.mem_append_left _ (List.mem_append_left _ (List.mem_append_left _ (List.mem_append_left _ (List.mem_append_right _ (List.mem_append_left _ (List.mem_of_getElem? (i := 13) rfl))))))))))) rfl rfl rfl rfl (Nat.le_of_ble_eq_true rfl) dX10_init_148 (fun w534 ew535 H locs hP hD hS => ?_)
      have k536 : wd_at w534 y (.inr (10, [.ref q1, .ref q34, .ref q61, .ref q84, .ref q109, .ref q136, .ref q165, .ref q214, .ref q283, .ref q326, .ref q403, .ref q478, .int 0, .int 0, .int 0, .int 0, .int 0])) := wd_at.ps ew535 k513
      have k537 := wd_at.pt ew535 k514 (Ne.symm (wd_nL hq4 hy))
      have k538 := wd_at.pt ew535 k515 (wd_nk k515 k513 rfl)
      have k539 := wd_at.pt ew535 k516 (wd_nk k516 k513 rfl)
      have k540 := wd_at.pt ew535 k517 (Ne.symm (wd_nL hq37 k29))
      have k541 := wd_at.pt ew535 k518 (Ne.symm (wd_nL hq64 k53))
      have k542 := wd_at.pt ew535 k519 (Ne.symm (wd_nL hq87 k76))
      have k543 := wd_at.pt ew535 k520 (Ne.symm (wd_nL hq112 k100))
      have k544 := wd_at.pt ew535 k521 (Ne.symm (wd_nL hq139 k126))
      have k545 := wd_at.pt ew535 k522 (Ne.symm (wd_nL hq168 k154))
      have k546 := wd_at.pt ew535 k523 (wd_nk k523 k513 rfl)
      have k547 := wd_at.pt ew535 k524 (Ne.symm (wd_nL hq217 k201))
      have k548 := wd_at.pt ew535 k525 (wd_nk k525 k513 rfl)
      have k549 := wd_at.pt ew535 k526 (wd_nk k526 k513 rfl)
      have k550 := wd_at.pt ew535 k527 (wd_nk k527 k513 rfl)
      have k551 := wd_at.pt ew535 k528 (Ne.symm (wd_nL hq286 k266))
      have k552 := wd_at.pt ew535 k529 (Ne.symm (wd_nL hq329 k308))
      have k553 := wd_at.pt ew535 k530 (Ne.symm (wd_nL hq406 k384))
      have k554 := wd_at.pt ew535 k531 (wd_nk k531 k513 rfl)
      have k555 := wd_at.pt ew535 k511 (Ne.symm (wd_nL hq481 k457))
      have k556 := wd_at.pt ew535 k512 (wd_nk k512 k513 rfl)
      have fm557 : ∀ k, k < i → tf k = some (tn k) ∧ wd_at w534 (tn k) (.inr (8, [.int 0, .int 1000, .int 0, .ref (ag k)])) ∧ wd_at w534 (ag k) (.inr (1, [.ref (gg k 0), .ref (gg k 1), .ref (gg k 2), .ref (gg k 3), .ref (gg k 4), .int 0])) := fun k hi9 => ⟨(fm532 k hi9).1, wd_at.pt ew535 (fm532 k hi9).2.1 (wd_nk (fm532 k hi9).2.1 k513 rfl), wd_at.pt ew535 (fm532 k hi9).2.2 (wd_nk (fm532 k hi9).2.2 k513 rfl)⟩
      have kp558 := kp533.put ew535 sy
      exact y_vr K hP hD hS (Nat.le_of_ble_eq_true rfl) (Nat.le_of_ble_eq_true rfl) rfl dX10_init_151 (⟨rfl, kp558, ⟨q1, q34, q61, q84, q109, q136, q165, q214, q283, q326, q403, q478, b11, b12, b13, b14, f15, g16, tf, tn, ag, gg, (fun _ => none), b185, l236, l237, l238, l239, l240, l241, l242, l243, g244, g353, g354, g355, g356, g357, b431, g432, b508, g509, k536, nb17, k537, k538, k539, k540, (fun k hk => fm557 k (by omega)), k541, k545, k546, hg245, nn246, k547, k548, k549, k550, k552, hg433, k553, k554, k555, k556⟩⟩)
    | succ N ih26 =>
      intro i tf tn ag gg w52 hN26 k53 k54 k55 k56 k57 fm58 kp59 ls hl H locs hP hD hS
      refine lv_iload_n hx hb dX10_init_26 rfl (lv_at hl 1 rfl) ?_
      refine lv_bipush (v := 12) hx hb dX10_init_27 (by decide) ?_
      refine lv_icmp_ge (tgt := 51) hx hb dX10_init_29 (by decide) (fun c_559 => absurd c_559 (nI_ge (a := i) (b := 12) (by omega) (by decide))) (fun c_559 => ?_)
      refine lv_aload_n hx hb dX10_init_32 rfl (lv_at hl 0 rfl) ?_
      refine x_get (ref := "NoteHouse") F hP k53 rfl (fun _ h => List.mem_cons_of_mem _ (List.mem_append_left _ (List.mem_append_left _ (List.mem_append_left _ (List.mem_append_left _ (List.mem_append_left _ (List.mem_append_right _ (h)))))))) 1 (Nat.le_of_ble_eq_true rfl) (List.mem_cons_of_mem _ (List.mem_append_left _ (List.mem_append_left _ (List.mem_append_left _ (List.mem_append_left _ (List.mem_append_left _ (List.mem_append_left _ (List.mem_append_left _ (List.mem_append_left _ (List.mem_of_getElem? (i := 8) rfl)))))))))) rfl rfl dX10_init_33 ?_
      refine lv_iload_n hx hb dX10_init_36 rfl (lv_at hl 1 rfl) ?_
      refine y_new (fs := [.int 0, .int 0, .int 0, .null]) F hP hD hS (ci := 8) rfl (fun _ h => List.mem_cons_of_mem _ (List.mem_append_left _ (List.mem_append_left _ (List.mem_append_left _ (List.mem_append_left _ (List.mem_append_right _ (h))))))) tyX8_ok (List.mem_cons_of_mem _ (List.mem_append_left _ (List.mem_append_left _ (List.mem_append_left _ (List.mem_append_left _ (List.mem_append_left _ (List.mem_append_left _ (List.mem_append_left _ (List.mem_append_left _ (List.mem_of_getElem? (i := 7) rfl)))))))))) (List.mem_cons_of_mem _ (List.mem_append_left _ (List.mem_append_left _ (List.mem_append_left _ (List.mem_append_left _ (List.mem_append_left _ (List.mem_append_left _ (List.mem_append_left _ (List.mem_append_left _ (List.mem_of_getElem? (i := 9) rfl)))))))))) (List.mem_cons_of_mem _ (List.mem_append_left _ (List.mem_append_left _ (List.mem_append_left _ (List.mem_append_left _ (List.mem_append_left _ (List.mem_append_left _ (List.mem_append_left _ (List.mem_append_left _ (List.mem_of_getElem? (i := 10) rfl)))))))))) df_8 (show 6 + 7 * i + 1 ≤ 116 from by omega) (show 328 + 250 * i + 4 ≤ 4731 from by omega) dX10_init_37 (fun q560 w561 ew562 hq563 H hP hD hS => ?_)
      refine W.widen (k := 6 + 7 * i + 1) (n := 328 + 250 * i + 4) (Nat.le_refl _) (Nat.le_refl _) ?_
      have k564 := wd_at.ad ew562 hq563 k53
      have k565 := wd_at.ad ew562 hq563 k54
      have k566 := wd_at.ad ew562 hq563 k55
      have k567 := wd_at.ad ew562 hq563 k56
      have k568 := wd_at.ad ew562 hq563 k57
      have k569 : wd_at w561 q560 (.inr (8, [.int 0, .int 0, .int 0, .null])) := wd_at.nw ew562
      have fm570 : ∀ k, k < i → tf k = some (tn k) ∧ wd_at w561 (tn k) (.inr (8, [.int 0, .int 1000, .int 0, .ref (ag k)])) ∧ wd_at w561 (ag k) (.inr (1, [.ref (gg k 0), .ref (gg k 1), .ref (gg k 2), .ref (gg k 3), .ref (gg k 4), .int 0])) := fun k hi9 => ⟨(fm58 k hi9).1, wd_at.ad ew562 hq563 (fm58 k hi9).2.1, wd_at.ad ew562 hq563 (fm58 k hi9).2.2⟩
      have fn571 : ∀ k, k < i → (tn k) ≠ q560 ∧ (ag k) ≠ q560 := fun k hi9 => ⟨wd_nL hq563 (fm58 k hi9).2.1, wd_nL hq563 (fm58 k hi9).2.2⟩
      have kp572 := kp59.add ew562 hq563
      refine lv_dup hx hb dX10_init_40 rfl ?_
      refine x_callIN (ret := none) (host := RX10) (n := 0) (As := []) (rest := [.ref q560, .int (nI i), .ref q34]) F hP hD hS (c_X8_init l D cy w561 q560 k569 (fun b => b = q560) rfl) gX10_init_X8_init_n22 rfl (by decide +kernel) (List.mem_cons_of_mem _ (List.mem_append_left _ (List.mem_append_left _ (List.mem_append_left _ (List.mem_append_left _ (List.mem_append_left _ (List.mem_append_left _ (List.mem_append_left _ (List.mem_append_left _ (List.mem_of_getElem? (i := 10) rfl)))))))))) (List.mem_cons_of_mem _ (List.mem_append_left _ (List.mem_append_left _ (List.mem_append_left _ (List.mem_append_left _ (List.mem_append_left _ (List.mem_append_left _ (List.mem_append_left _ (List.mem_append_right _ (List.mem_append_right _ (List.mem_append_left _ (List.mem_of_getElem? (i := 4) rfl)))))))))))) rfl (by decide +kernel) ⟨(Nat.le_of_ble_eq_true rfl), (Nat.le_of_ble_eq_true rfl)⟩ rfl hl.1 (Nat.le_of_ble_eq_true rfl) dX10_init_41 rfl ⟨(show 6 + 7 * i + 1 + 6 ≤ 116 from by omega), (show 328 + 250 * i + 4 + 246 ≤ 4731 from by omega)⟩ (fun v574 w575 hp573 H locs hP hD hS => ?_)
      obtain ⟨rfl, hp573, ag576, g577, g578, g579, g580, g581, k582, k583⟩ := hp573
      have k584 := hp573.2 _ _ k564 (fun q : y = q560 => (wd_nL hq563 k53) q)
      have k585 := hp573.2 _ _ k565 (fun q : q1 = q560 => (wd_nL hq563 k54) q)
      have k586 := hp573.2 _ _ k566 (fun q : b11 = q560 => (wd_nL hq563 k55) q)
      have k587 := hp573.2 _ _ k567 (fun q : b12 = q560 => (wd_nL hq563 k56) q)
      have k588 := hp573.2 _ _ k568 (fun q : q34 = q560 => (wd_nL hq563 k57) q)
      have fm589 : ∀ k, k < i → tf k = some (tn k) ∧ wd_at w575 (tn k) (.inr (8, [.int 0, .int 1000, .int 0, .ref (ag k)])) ∧ wd_at w575 (ag k) (.inr (1, [.ref (gg k 0), .ref (gg k 1), .ref (gg k 2), .ref (gg k 3), .ref (gg k 4), .int 0])) := fun k hi9 => ⟨(fm570 k hi9).1, hp573.2 _ _ (fm570 k hi9).2.1 ((fn571 k hi9).1), hp573.2 _ _ (fm570 k hi9).2.2 ((fn571 k hi9).2)⟩
      have kp590 := kp572.tr hp573 (fun b hm q => (fun q => absurd (q ▸ hm) (kp59.out hq563)) q)
      refine W.eq (g2 := F0 m 44 ls [.ref q560, .int (nI i), .ref q34]) rfl (W.widen (k := 6 + 7 * i + 1 + 6) (n := 328 + 250 * i + 4 + 246) (Nat.le_refl _) (Nat.le_refl _) ?_)
      refine y_aast F hP hD hS k588 rfl k582 rfl (vp_in_nI (n := i) (N := 12) (by omega) (by decide)) dX10_init_44 (fun w591 ew592 H locs hP hD hS => ?_)
      have k593 := wd_at.pt ew592 k584 (wd_nL hq37 k29)
      have k594 := wd_at.pt ew592 k585 (wd_nL hq37 k30)
      have k595 := wd_at.pt ew592 k586 (wd_nL hq37 k31)
      have k596 := wd_at.pt ew592 k587 (wd_nL hq37 k32)
      have k597 : wd_at w591 q34 (.inl (cy 9, 12, .inr (.inr (.inr (.inr (va_up tf (nI i).toNatClampNeg (some q560))))))) := wd_at.ps ew592 k588
      have k598 := wd_at.pt ew592 k582 (Ne.symm (wd_nL hq563 k57))
      have k599 := wd_at.pt ew592 k583 (wd_nk k583 k588 rfl)
      have fm600 : ∀ k, k < i → tf k = some (tn k) ∧ wd_at w591 (tn k) (.inr (8, [.int 0, .int 1000, .int 0, .ref (ag k)])) ∧ wd_at w591 (ag k) (.inr (1, [.ref (gg k 0), .ref (gg k 1), .ref (gg k 2), .ref (gg k 3), .ref (gg k 4), .int 0])) := fun k hi9 => ⟨(fm589 k hi9).1, wd_at.pt ew592 (fm589 k hi9).2.1 (wd_nk (fm589 k hi9).2.1 k588 rfl), wd_at.pt ew592 (fm589 k hi9).2.2 (wd_nk (fm589 k hi9).2.2 k588 rfl)⟩
      have kp601 := kp590.putN ew592 (kp33.out hq37)
      refine lv_iinc (v := nI (i + 1)) (lv' := [(1, .int (nI (i + 1))), (0, .ref y)]) hx hb dX10_init_45 hl (k := 1) rfl (nI_1 i) (by decide) rfl (fun ls hl => ?_)
      refine lv_goto (tgt := 26) hx hb dX10_init_48 (by decide) ?_
      refine W.widen (k := 6 + 7 * (i + 1)) (n := 328 + 250 * (i + 1)) (by omega) (by omega) ?_
      exact ih26 (i + 1) (va_up tf (nI i).toNatClampNeg (some q560)) (va_up tn i q560) (va_up ag i ag576) (va_up gg i (fun z => if z = 0 then g577 else if z = 1 then g578 else if z = 2 then g579 else if z = 3 then g580 else g581)) w591 (by omega)  k593 k594 k595 k596 k597 (tw_s (by omega) fm600 k598 k599) kp601 ls (lv_sub hl [1, 0] rfl) H locs hP hD hS
  refine W.widen (k := 6 + 7 * 0) (n := 328 + 250 * 0) (by omega) (by omega) ?_
  exact lp26 _ 0 (fun _ => none) (fun _ => 0) (fun _ => 0) (fun _ _ => 0) w44 (Nat.zero_add 12)  k46 k47 k48 k49 k50 (fun k h => absurd h (Nat.not_lt_zero k)) kp51 ls (lv_sub hl [1, 0] rfl) H locs hP hD hS
