set_option maxHeartbeats 4000000 in
set_option maxRecDepth 100000 in
theorem g_holds (l : Launch) (D : va_G) (cy : Nat → ClassId) (sk sv : Nat → Nat) (w : Wd) (y l0 l1 l2 l3 l4 l5 l6 l7 : Nat) (gc sz k : Int32) (f : Nat → Int32) (c90 : wd_at w y (.inr (4, [.ref l0, .ref l1, .ref l2, .ref l3, .ref l4, .ref l5, .ref l6, .ref l7, .int gc, .int sz]))) (c91 : wd_at w l0 (.inl (cy 2, 200, .inl f)))   : Ct l D cy sk sv yX4_holds wsX4_holds ({ frames := 0, cells := 0, slots := 0, locals := 0 }) [.ref y, .int k] w (fun v w1 => ∃ (r1 : Int32), v = some (.int r1) ∧ (r1 = 0 ∨ r1 = 1) ∧ (r1 = 0 ∨ ∃ j, j < 200 ∧ k = nI j) ∧ w = w1) := by
  refine Ct.by (cc := cX4_holds) (maxL := 2) (ret := (some .boolean)) (by decide +kernel) rfl (Nat.le_of_ble_eq_true rfl) ?_
  intro p e s m args below meth c A Q F hnm K ls hl
  have F : wd_Fx p s m args meth c cX4_holds 2 wsX4_holds RX4 D cy sk sv A := F
  have hl : lv_has ls 2 [(0, .ref y), (1, .int k)] := hl
  have hx := F.1.1
  have hb := F.1.2.1
  have hown := F.1.2.2.2.1
  have hts := F.1.2.2.2.2
  intro H locs hP hD hS
  refine lv_iload_n hx hb dX4_holds_0 rfl (lv_at hl 1 rfl) ?_
  refine lv_if_lt (tgt := 25) hx hb dX4_holds_1 (by decide) (fun c_0 => ?_) (fun c_0 => ?_)
  · refine lv_iconst (v := 0) hx hb dX4_holds_25 (by decide) ?_
    exact y_ir K hP hD hS (Nat.le_of_ble_eq_true rfl) (Nat.le_of_ble_eq_true rfl) (ty := .boolean) rfl rfl dX4_holds_26 (⟨0, rfl, Or.inl rfl, Or.inl rfl, rfl⟩)
  · refine lv_iload_n hx hb dX4_holds_4 rfl (lv_at hl 1 rfl) ?_
    refine lv_sipush (v := 200) hx hb dX4_holds_5 (by decide) ?_
    refine lv_icmp_ge (tgt := 25) hx hb dX4_holds_8 (by decide) (fun c_1 => ?_) (fun c_1 => ?_)
    · refine lv_iconst (v := 0) hx hb dX4_holds_25 (by decide) ?_
      exact y_ir K hP hD hS (Nat.le_of_ble_eq_true rfl) (Nat.le_of_ble_eq_true rfl) (ty := .boolean) rfl rfl dX4_holds_26 (⟨0, rfl, Or.inl rfl, Or.inl rfl, rfl⟩)
    · obtain ⟨jx, hjx, ejx⟩ := nI_of c_0
      have hlx : jx < 200 := nI_lt_of (n := 200) (by rw [← ejx]; exact c_1) (by omega)
      refine lv_aload_n hx hb dX4_holds_11 rfl (lv_at hl 0 rfl) ?_
      refine x_get (ref := "NoteHouse$Settlement") F hP c90 rfl (fun _ h => List.mem_cons_of_mem _ (List.mem_append_right _ (h))) 0 (Nat.le_of_ble_eq_true rfl) (List.mem_cons_of_mem _ (List.mem_append_left _ (List.mem_of_getElem? (i := 0) rfl))) rfl rfl dX4_holds_12 ?_
      refine lv_iload_n hx hb dX4_holds_15 rfl (lv_at hl 1 rfl) ?_
      refine x_iald F hP c91 (by rw [ejx]; exact vp_in_nI hlx (by decide)) dX4_holds_16 ?_
      refine lv_iconst (v := (-1)) hx hb dX4_holds_17 (by decide) ?_
      refine lv_icmp_eq (tgt := 25) hx hb dX4_holds_18 (by decide) (fun c_2 => ?_) (fun c_2 => ?_)
      · refine lv_iconst (v := 0) hx hb dX4_holds_25 (by decide) ?_
        exact y_ir K hP hD hS (Nat.le_of_ble_eq_true rfl) (Nat.le_of_ble_eq_true rfl) (ty := .boolean) rfl rfl dX4_holds_26 (⟨0, rfl, Or.inl rfl, Or.inl rfl, rfl⟩)
      · refine lv_iconst (v := 1) hx hb dX4_holds_21 (by decide) ?_
        refine lv_goto (tgt := 26) hx hb dX4_holds_22 (by decide) ?_
        exact y_ir K hP hD hS (Nat.le_of_ble_eq_true rfl) (Nat.le_of_ble_eq_true rfl) (ty := .boolean) rfl rfl dX4_holds_26 (⟨1, rfl, Or.inr rfl, Or.inr ⟨jx, hlx, ejx⟩, rfl⟩)
set_option maxHeartbeats 4000000 in
set_option maxRecDepth 100000 in
theorem g_enter (l : Launch) (D : va_G) (cy : Nat → ClassId) (sk sv : Nat → Nat) (w : Wd) (y l0 l1 l2 l3 l4 l5 l6 l7 : Nat) (k tw : Nat) (gc sz kd sh : Int32) (f g : Nat → Int32) (d : Nat → Int64) (c90 : wd_at w y (.inr (4, [.ref l0, .ref l1, .ref l2, .ref l3, .ref l4, .ref l5, .ref l6, .ref l7, .int gc, .int sz]))) (c91 : wd_at w l0 (.inl (cy 2, 200, .inl f))) (c92 : wd_at w l1 (.inl (cy 2, 200, .inl g))) (c93 : wd_at w l2 (.inl (cy 3, 12, .inr (.inl d))))  (S : Nat → Prop) (s90 : S y) (s91 : S l0) (s92 : S l1) (s93 : S l2) (hk : k < 200) (htw : tw < 12) (nl0l1 : l0 ≠ l1) : Ct l D cy sk sv yX4_enter wsX4_enter ({ frames := 0, cells := 0, slots := 0, locals := 0 }) [.ref y, .int (nI k), .int (nI tw), .int kd, .int sh] w (fun v w1 => ∃ (sz1 : Int32) (f1 : Nat → Int32) (g1 : Nat → Int32) (d1 : Nat → Int64), v = none ∧ wd_kp S w w1 ∧ wd_at w1 y (.inr (4, [.ref l0, .ref l1, .ref l2, .ref l3, .ref l4, .ref l5, .ref l6, .ref l7, .int gc, .int sz1])) ∧ wd_at w1 l0 (.inl (cy 2, 200, .inl f1)) ∧ wd_at w1 l1 (.inl (cy 2, 200, .inl g1)) ∧ wd_at w1 l2 (.inl (cy 3, 12, .inr (.inl d1)))) := by
  refine Ct.by (cc := cX4_enter) (maxL := 5) (ret := none) (by decide +kernel) rfl (Nat.le_of_ble_eq_true rfl) ?_
  intro p e s m args below meth c A Q F hnm K ls hl
  have F : wd_Fx p s m args meth c cX4_enter 5 wsX4_enter RX4 D cy sk sv A := F
  have hl : lv_has ls 5 [(0, .ref y), (1, .int (nI k)), (2, .int (nI tw)), (3, .int kd), (4, .int sh)] := hl
  have hx := F.1.1
  have hb := F.1.2.1
  have hown := F.1.2.2.2.1
  have hts := F.1.2.2.2.2
  intro H locs hP hD hS
  have kp0 : wd_kp S w w := wd_kp.rf
  refine lv_aload_n hx hb dX4_enter_0 rfl (lv_at hl 0 rfl) ?_
  refine x_get (ref := "NoteHouse$Settlement") F hP c90 rfl (fun _ h => List.mem_cons_of_mem _ (List.mem_append_right _ (h))) 0 (Nat.le_of_ble_eq_true rfl) (List.mem_cons_of_mem _ (List.mem_append_left _ (List.mem_of_getElem? (i := 0) rfl))) rfl rfl dX4_enter_1 ?_
  refine lv_iload_n hx hb dX4_enter_4 rfl (lv_at hl 1 rfl) ?_
  refine lv_iload_n hx hb dX4_enter_5 rfl (lv_at hl 3 rfl) ?_
  refine y_iast F hP hD hS c91 (vp_in_nI (n := k) (N := 200) (by omega) (by decide)) dX4_enter_6 (fun w1 ew2 H locs hP hD hS => ?_)
  have k3 := wd_at.pt ew2 c90 (wd_nk c90 c91 rfl)
  have k4 : wd_at w1 l0 (.inl (cy 2, 200, .inl (upd f (nI k).toNatClampNeg kd))) := wd_at.ps ew2 c91
  have k5 := wd_at.pt ew2 c92 (Ne.symm nl0l1)
  have k6 := wd_at.pt ew2 c93 (wd_nk c93 c91 rfl)
  have kp7 := kp0.put ew2 s91
  refine lv_aload_n hx hb dX4_enter_7 rfl (lv_at hl 0 rfl) ?_
  refine x_get (ref := "NoteHouse$Settlement") F hP k3 rfl (fun _ h => List.mem_cons_of_mem _ (List.mem_append_right _ (h))) 1 (Nat.le_of_ble_eq_true rfl) (List.mem_cons_of_mem _ (List.mem_append_left _ (List.mem_of_getElem? (i := 1) rfl))) rfl rfl dX4_enter_8 ?_
  refine lv_iload_n hx hb dX4_enter_11 rfl (lv_at hl 1 rfl) ?_
  refine lv_iload hx hb dX4_enter_12 (lv_at hl 4 rfl) ?_
  refine y_iast F hP hD hS k5 (vp_in_nI (n := k) (N := 200) (by omega) (by decide)) dX4_enter_14 (fun w8 ew9 H locs hP hD hS => ?_)
  have k10 := wd_at.pt ew9 k3 (wd_nk k3 k5 rfl)
  have k11 := wd_at.pt ew9 k4 nl0l1
  have k12 : wd_at w8 l1 (.inl (cy 2, 200, .inl (upd g (nI k).toNatClampNeg sh))) := wd_at.ps ew9 k5
  have k13 := wd_at.pt ew9 k6 (wd_nk k6 k5 rfl)
  have kp14 := kp7.put ew9 s92
  refine lv_aload_n hx hb dX4_enter_15 rfl (lv_at hl 0 rfl) ?_
  refine x_get (ref := "NoteHouse$Settlement") F hP k10 rfl (fun _ h => List.mem_cons_of_mem _ (List.mem_append_right _ (h))) 2 (Nat.le_of_ble_eq_true rfl) (List.mem_cons_of_mem _ (List.mem_append_left _ (List.mem_of_getElem? (i := 2) rfl))) rfl rfl dX4_enter_16 ?_
  refine lv_iload_n hx hb dX4_enter_19 rfl (lv_at hl 2 rfl) ?_
  refine lv_dup2_11 hx hb dX4_enter_20 rfl rfl ?_
  refine x_lald F hP k13 (vp_in_nI (n := tw) (N := 12) (by omega) (by decide)) dX4_enter_21 ?_
  refine lv_iload hx hb dX4_enter_22 (lv_at hl 4 rfl) ?_
  refine lv_i2l (v := sh.toInt64) hx hb dX4_enter_24 (rfl) ?_
  refine lv_ladd hx hb dX4_enter_25 ?_
  refine y_last F hP hD hS k13 (vp_in_nI (n := tw) (N := 12) (by omega) (by decide)) dX4_enter_26 (fun w15 ew16 H locs hP hD hS => ?_)
  have k17 := wd_at.pt ew16 k10 (wd_nk k10 k13 rfl)
  have k18 := wd_at.pt ew16 k11 (wd_nk k11 k13 rfl)
  have k19 := wd_at.pt ew16 k12 (wd_nk k12 k13 rfl)
  have k20 : wd_at w15 l2 (.inl (cy 3, 12, .inr (.inl (vp_updL d (nI tw).toNatClampNeg ((d (nI tw).toNatClampNeg) + sh.toInt64))))) := wd_at.ps ew16 k13
  have kp21 := kp14.put ew16 s93
  refine lv_aload_n hx hb dX4_enter_27 rfl (lv_at hl 0 rfl) ?_
  refine lv_dup hx hb dX4_enter_28 rfl ?_
  refine x_get (ref := "NoteHouse$Settlement") F hP k17 rfl (fun _ h => List.mem_cons_of_mem _ (List.mem_append_right _ (h))) 9 (Nat.le_of_ble_eq_true rfl) (List.mem_cons_of_mem _ (List.mem_append_left _ (List.mem_of_getElem? (i := 3) rfl))) rfl rfl dX4_enter_29 ?_
  refine lv_iconst (v := 1) hx hb dX4_enter_32 (by decide) ?_
  refine lv_iadd hx hb dX4_enter_33 ?_
  refine y_put (ref := "NoteHouse$Settlement") F hP hD hS k17 rfl (fun _ h => List.mem_cons_of_mem _ (List.mem_append_right _ (h))) tyX4_ok nmX4 9 (Nat.le_of_ble_eq_true rfl) (List.mem_cons_of_mem _ (List.mem_append_left _ (List.mem_of_getElem? (i := 3) rfl))) rfl rfl rfl rfl (Nat.le_of_ble_eq_true rfl) dX4_enter_34 (fun w22 ew23 H locs hP hD hS => ?_)
  have k24 : wd_at w22 y (.inr (4, [.ref l0, .ref l1, .ref l2, .ref l3, .ref l4, .ref l5, .ref l6, .ref l7, .int gc, .int (sz + 1)])) := wd_at.ps ew23 k17
  have k25 := wd_at.pt ew23 k18 (wd_nk k18 k17 rfl)
  have k26 := wd_at.pt ew23 k19 (wd_nk k19 k17 rfl)
  have k27 := wd_at.pt ew23 k20 (wd_nk k20 k17 rfl)
  have kp28 := kp21.put ew23 s90
  exact y_vr K hP hD hS (Nat.le_of_ble_eq_true rfl) (Nat.le_of_ble_eq_true rfl) rfl dX4_enter_37 (⟨sz + 1, upd f (nI k).toNatClampNeg kd, upd g (nI k).toNatClampNeg sh, vp_updL d (nI tw).toNatClampNeg ((d (nI tw).toNatClampNeg) + sh.toInt64), rfl, kp28, k24, k25, k26, k27⟩)
set_option maxHeartbeats 4000000 in
set_option maxRecDepth 100000 in
theorem g_addGift (l : Launch) (D : va_G) (cy : Nat → ClassId) (sk sv : Nat → Nat) (w : Wd) (y l0 l1 l2 l3 l4 l5 l6 l7 : Nat) (gc : Nat) (sz i1 i2 i3 : Int32) (vv : Int64) (e4 e5 e7 : Nat → Int32) (e6 : Nat → Int64) (c90 : wd_at w y (.inr (4, [.ref l0, .ref l1, .ref l2, .ref l3, .ref l4, .ref l5, .ref l6, .ref l7, .int (nI gc), .int sz]))) (c91 : wd_at w l4 (.inl (cy 2, 12, .inl e4))) (c92 : wd_at w l5 (.inl (cy 2, 12, .inl e5))) (c93 : wd_at w l6 (.inl (cy 3, 12, .inr (.inl e6)))) (c94 : wd_at w l7 (.inl (cy 2, 12, .inl e7)))  (S : Nat → Prop) (s90 : S y) (s91 : S l4) (s92 : S l5) (s93 : S l6) (s94 : S l7) (hgc : gc ≤ 12) (nl4l5 : l4 ≠ l5) (nl4l7 : l4 ≠ l7) (nl5l7 : l5 ≠ l7) : Ct l D cy sk sv yX4_addGift wsX4_addGift ({ frames := 0, cells := 0, slots := 0, locals := 0 }) [.ref y, .int i1, .int i2, .long vv, .int i3] w (fun v w1 => ∃ (gc1 : Nat) (e41 : Nat → Int32) (e51 : Nat → Int32) (e61 : Nat → Int64) (e71 : Nat → Int32), v = none ∧ (gc1 ≤ 12) ∧ wd_kp S w w1 ∧ wd_at w1 y (.inr (4, [.ref l0, .ref l1, .ref l2, .ref l3, .ref l4, .ref l5, .ref l6, .ref l7, .int (nI gc1), .int sz])) ∧ wd_at w1 l4 (.inl (cy 2, 12, .inl e41)) ∧ wd_at w1 l5 (.inl (cy 2, 12, .inl e51)) ∧ wd_at w1 l6 (.inl (cy 3, 12, .inr (.inl e61))) ∧ wd_at w1 l7 (.inl (cy 2, 12, .inl e71))) := by
  refine Ct.by (cc := cX4_addGift) (maxL := 6) (ret := none) (by decide +kernel) rfl (Nat.le_of_ble_eq_true rfl) ?_
  intro p e s m args below meth c A Q F hnm K ls hl
  have F : wd_Fx p s m args meth c cX4_addGift 6 wsX4_addGift RX4 D cy sk sv A := F
  have hl : lv_has ls 6 [(0, .ref y), (1, .int i1), (2, .int i2), (3, .long vv), (5, .int i3)] := hl
  have hx := F.1.1
  have hb := F.1.2.1
  have hown := F.1.2.2.2.1
  have hts := F.1.2.2.2.2
  intro H locs hP hD hS
  have kp0 : wd_kp S w w := wd_kp.rf
  refine lv_aload_n hx hb dX4_addGift_0 rfl (lv_at hl 0 rfl) ?_
  refine x_get (ref := "NoteHouse$Settlement") F hP c90 rfl (fun _ h => List.mem_cons_of_mem _ (List.mem_append_right _ (h))) 8 (Nat.le_of_ble_eq_true rfl) (List.mem_cons_of_mem _ (List.mem_append_left _ (List.mem_of_getElem? (i := 0) rfl))) rfl rfl dX4_addGift_1 ?_
  refine lv_bipush (v := 12) hx hb dX4_addGift_4 (by decide) ?_
  refine lv_icmp_lt (tgt := 10) hx hb dX4_addGift_6 (by decide) (fun c_1 => ?_) (fun c_1 => ?_)
  · have hg12 : gc < 12 := Nat.lt_of_not_le (fun q => nI_nlt (a := gc) (b := 12) q (by omega) c_1)
    refine lv_aload_n hx hb dX4_addGift_10 rfl (lv_at hl 0 rfl) ?_
    refine x_get (ref := "NoteHouse$Settlement") F hP c90 rfl (fun _ h => List.mem_cons_of_mem _ (List.mem_append_right _ (h))) 4 (Nat.le_of_ble_eq_true rfl) (List.mem_cons_of_mem _ (List.mem_append_left _ (List.mem_of_getElem? (i := 1) rfl))) rfl rfl dX4_addGift_11 ?_
    refine lv_aload_n hx hb dX4_addGift_14 rfl (lv_at hl 0 rfl) ?_
    refine x_get (ref := "NoteHouse$Settlement") F hP c90 rfl (fun _ h => List.mem_cons_of_mem _ (List.mem_append_right _ (h))) 8 (Nat.le_of_ble_eq_true rfl) (List.mem_cons_of_mem _ (List.mem_append_left _ (List.mem_of_getElem? (i := 0) rfl))) rfl rfl dX4_addGift_15 ?_
    refine lv_iload_n hx hb dX4_addGift_18 rfl (lv_at hl 1 rfl) ?_
    refine y_iast F hP hD hS c91 (vp_in_nI (n := gc) (N := 12) (by omega) (by decide)) dX4_addGift_19 (fun w2 ew3 H locs hP hD hS => ?_)
    have k4 := wd_at.pt ew3 c90 (wd_nk c90 c91 rfl)
    have k5 : wd_at w2 l4 (.inl (cy 2, 12, .inl (upd e4 (nI gc).toNatClampNeg i1))) := wd_at.ps ew3 c91
    have k6 := wd_at.pt ew3 c92 (Ne.symm nl4l5)
    have k7 := wd_at.pt ew3 c93 (wd_nk c93 c91 rfl)
    have k8 := wd_at.pt ew3 c94 (Ne.symm nl4l7)
    have kp9 := kp0.put ew3 s91
    refine lv_aload_n hx hb dX4_addGift_20 rfl (lv_at hl 0 rfl) ?_
    refine x_get (ref := "NoteHouse$Settlement") F hP k4 rfl (fun _ h => List.mem_cons_of_mem _ (List.mem_append_right _ (h))) 5 (Nat.le_of_ble_eq_true rfl) (List.mem_cons_of_mem _ (List.mem_append_left _ (List.mem_of_getElem? (i := 2) rfl))) rfl rfl dX4_addGift_21 ?_
    refine lv_aload_n hx hb dX4_addGift_24 rfl (lv_at hl 0 rfl) ?_
    refine x_get (ref := "NoteHouse$Settlement") F hP k4 rfl (fun _ h => List.mem_cons_of_mem _ (List.mem_append_right _ (h))) 8 (Nat.le_of_ble_eq_true rfl) (List.mem_cons_of_mem _ (List.mem_append_left _ (List.mem_of_getElem? (i := 0) rfl))) rfl rfl dX4_addGift_25 ?_
    refine lv_iload_n hx hb dX4_addGift_28 rfl (lv_at hl 2 rfl) ?_
    refine y_iast F hP hD hS k6 (vp_in_nI (n := gc) (N := 12) (by omega) (by decide)) dX4_addGift_29 (fun w10 ew11 H locs hP hD hS => ?_)
    have k12 := wd_at.pt ew11 k4 (wd_nk k4 k6 rfl)
    have k13 := wd_at.pt ew11 k5 nl4l5
    have k14 : wd_at w10 l5 (.inl (cy 2, 12, .inl (upd e5 (nI gc).toNatClampNeg i2))) := wd_at.ps ew11 k6
    have k15 := wd_at.pt ew11 k7 (wd_nk k7 k6 rfl)
    have k16 := wd_at.pt ew11 k8 (Ne.symm nl5l7)
    have kp17 := kp9.put ew11 s92
    refine lv_aload_n hx hb dX4_addGift_30 rfl (lv_at hl 0 rfl) ?_
    refine x_get (ref := "NoteHouse$Settlement") F hP k12 rfl (fun _ h => List.mem_cons_of_mem _ (List.mem_append_right _ (h))) 6 (Nat.le_of_ble_eq_true rfl) (List.mem_cons_of_mem _ (List.mem_append_left _ (List.mem_of_getElem? (i := 3) rfl))) rfl rfl dX4_addGift_31 ?_
    refine lv_aload_n hx hb dX4_addGift_34 rfl (lv_at hl 0 rfl) ?_
    refine x_get (ref := "NoteHouse$Settlement") F hP k12 rfl (fun _ h => List.mem_cons_of_mem _ (List.mem_append_right _ (h))) 8 (Nat.le_of_ble_eq_true rfl) (List.mem_cons_of_mem _ (List.mem_append_left _ (List.mem_of_getElem? (i := 0) rfl))) rfl rfl dX4_addGift_35 ?_
    refine lv_lload_n hx hb dX4_addGift_38 rfl (lv_at hl 3 rfl) ?_
    refine y_last F hP hD hS k15 (vp_in_nI (n := gc) (N := 12) (by omega) (by decide)) dX4_addGift_39 (fun w18 ew19 H locs hP hD hS => ?_)
    have k20 := wd_at.pt ew19 k12 (wd_nk k12 k15 rfl)
    have k21 := wd_at.pt ew19 k13 (wd_nk k13 k15 rfl)
    have k22 := wd_at.pt ew19 k14 (wd_nk k14 k15 rfl)
    have k23 : wd_at w18 l6 (.inl (cy 3, 12, .inr (.inl (vp_updL e6 (nI gc).toNatClampNeg vv)))) := wd_at.ps ew19 k15
    have k24 := wd_at.pt ew19 k16 (wd_nk k16 k15 rfl)
    have kp25 := kp17.put ew19 s93
    refine lv_aload_n hx hb dX4_addGift_40 rfl (lv_at hl 0 rfl) ?_
    refine x_get (ref := "NoteHouse$Settlement") F hP k20 rfl (fun _ h => List.mem_cons_of_mem _ (List.mem_append_right _ (h))) 7 (Nat.le_of_ble_eq_true rfl) (List.mem_cons_of_mem _ (List.mem_append_left _ (List.mem_of_getElem? (i := 4) rfl))) rfl rfl dX4_addGift_41 ?_
    refine lv_aload_n hx hb dX4_addGift_44 rfl (lv_at hl 0 rfl) ?_
    refine x_get (ref := "NoteHouse$Settlement") F hP k20 rfl (fun _ h => List.mem_cons_of_mem _ (List.mem_append_right _ (h))) 8 (Nat.le_of_ble_eq_true rfl) (List.mem_cons_of_mem _ (List.mem_append_left _ (List.mem_of_getElem? (i := 0) rfl))) rfl rfl dX4_addGift_45 ?_
    refine lv_iload hx hb dX4_addGift_48 (lv_at hl 4 rfl) ?_
    refine y_iast F hP hD hS k24 (vp_in_nI (n := gc) (N := 12) (by omega) (by decide)) dX4_addGift_50 (fun w26 ew27 H locs hP hD hS => ?_)
    have k28 := wd_at.pt ew27 k20 (wd_nk k20 k24 rfl)
    have k29 := wd_at.pt ew27 k21 nl4l7
    have k30 := wd_at.pt ew27 k22 nl5l7
    have k31 := wd_at.pt ew27 k23 (wd_nk k23 k24 rfl)
    have k32 : wd_at w26 l7 (.inl (cy 2, 12, .inl (upd e7 (nI gc).toNatClampNeg i3))) := wd_at.ps ew27 k24
    have kp33 := kp25.put ew27 s94
    refine lv_aload_n hx hb dX4_addGift_51 rfl (lv_at hl 0 rfl) ?_
    refine lv_dup hx hb dX4_addGift_52 rfl ?_
    refine x_get (ref := "NoteHouse$Settlement") F hP k28 rfl (fun _ h => List.mem_cons_of_mem _ (List.mem_append_right _ (h))) 8 (Nat.le_of_ble_eq_true rfl) (List.mem_cons_of_mem _ (List.mem_append_left _ (List.mem_of_getElem? (i := 0) rfl))) rfl rfl dX4_addGift_53 ?_
    refine lv_iconst (v := 1) hx hb dX4_addGift_56 (by decide) ?_
    refine lv_iadd hx hb dX4_addGift_57 ?_
    rw [show ((nI gc) + 1 : Int32) = nI (gc + 1) from nI_add gc 1]
    refine y_put (ref := "NoteHouse$Settlement") F hP hD hS k28 rfl (fun _ h => List.mem_cons_of_mem _ (List.mem_append_right _ (h))) tyX4_ok nmX4 8 (Nat.le_of_ble_eq_true rfl) (List.mem_cons_of_mem _ (List.mem_append_left _ (List.mem_of_getElem? (i := 0) rfl))) rfl rfl rfl rfl (Nat.le_of_ble_eq_true rfl) dX4_addGift_58 (fun w34 ew35 H locs hP hD hS => ?_)
    have k36 : wd_at w34 y (.inr (4, [.ref l0, .ref l1, .ref l2, .ref l3, .ref l4, .ref l5, .ref l6, .ref l7, .int (nI (gc + 1)), .int sz])) := wd_at.ps ew35 k28
    have k37 := wd_at.pt ew35 k29 (wd_nk k29 k28 rfl)
    have k38 := wd_at.pt ew35 k30 (wd_nk k30 k28 rfl)
    have k39 := wd_at.pt ew35 k31 (wd_nk k31 k28 rfl)
    have k40 := wd_at.pt ew35 k32 (wd_nk k32 k28 rfl)
    have kp41 := kp33.put ew35 s90
    exact y_vr K hP hD hS (Nat.le_of_ble_eq_true rfl) (Nat.le_of_ble_eq_true rfl) rfl dX4_addGift_61 (⟨(gc + 1), upd e4 (nI gc).toNatClampNeg i1, upd e5 (nI gc).toNatClampNeg i2, vp_updL e6 (nI gc).toNatClampNeg vv, upd e7 (nI gc).toNatClampNeg i3, rfl, by omega, kp41, k36, k37, k38, k39, k40⟩)
  · exact y_vr K hP hD hS (Nat.le_of_ble_eq_true rfl) (Nat.le_of_ble_eq_true rfl) rfl dX4_addGift_9 (⟨gc, e4, e5, e6, e7, rfl, by omega, kp0, c90, c91, c92, c93, c94⟩)
set_option maxHeartbeats 4000000 in
set_option maxRecDepth 100000 in
theorem g_netAmongTowns (l : Launch) (D : va_G) (cy : Nat → ClassId) (sk sv : Nat → Nat) (w : Wd) (y l0 l1 l2 l3 l4 l5 l6 l7 : Nat) (a1 gc : Nat) (tg : Nat → Nat) (tf : Nat → Option Nat) (tn ag : Nat → Nat) (co ra se : Nat → Int32) (sz cn : Int32) (e4 e5 e7 : Nat → Int32) (e6 : Nat → Int64) (re : Nat → Int64) (c90 : wd_at w y (.inr (4, [.ref l0, .ref l1, .ref l2, .ref l3, .ref l4, .ref l5, .ref l6, .ref l7, .int (nI gc), .int sz]))) (c91 : wd_at w l3 (.inl (cy 3, 12, .inr (.inl re)))) (c92 : wd_at w l4 (.inl (cy 2, 12, .inl e4))) (c93 : wd_at w l5 (.inl (cy 2, 12, .inl e5))) (c94 : wd_at w l6 (.inl (cy 3, 12, .inr (.inl e6)))) (c95 : wd_at w l7 (.inl (cy 2, 12, .inl e7))) (c96 : wd_at w a1 (.inl (cy 9, 12, .inr (.inr (.inr (.inr tf)))))) (hT9 : ∀ i9, i9 < 12 → tf i9 = some (tn i9) ∧ wd_at w (tn i9) (.inr (8, [.int (co i9), .int (ra i9), .int (se i9), .ref (ag i9)])) ∧ tg (tn i9) = 100 + i9) (S : Nat → Prop) (s90 : S y) (s91 : S l4) (s92 : S l5) (s93 : S l6) (s94 : S l7) (s95 : S l3) (hgc : gc ≤ 12) (nl4l5 : l4 ≠ l5) (nl4l7 : l4 ≠ l7) (nl5l7 : l5 ≠ l7) (nl3l6 : l3 ≠ l6) : Ct l D cy sk sv yX4_netAmongTowns wsX4_netAmongTowns ({ frames := 1, cells := 0, slots := 0, locals := 25 }) [.ref y, .ref a1, .int cn] w (fun v w1 => ∃ (gc1 : Nat) (e41 : Nat → Int32) (e51 : Nat → Int32) (e61 : Nat → Int64) (e71 : Nat → Int32) (re1 : Nat → Int64), v = none ∧ (gc1 ≤ 12) ∧ wd_kp S w w1 ∧ wd_at w1 y (.inr (4, [.ref l0, .ref l1, .ref l2, .ref l3, .ref l4, .ref l5, .ref l6, .ref l7, .int (nI gc1), .int sz])) ∧ wd_at w1 l4 (.inl (cy 2, 12, .inl e41)) ∧ wd_at w1 l5 (.inl (cy 2, 12, .inl e51)) ∧ wd_at w1 l6 (.inl (cy 3, 12, .inr (.inl e61))) ∧ wd_at w1 l7 (.inl (cy 2, 12, .inl e71)) ∧ wd_at w1 l3 (.inl (cy 3, 12, .inr (.inl re1)))) := by
  refine Ct.by (cc := cX4_netAmongTowns) (maxL := 8) (ret := none) (by decide +kernel) rfl (Nat.le_of_ble_eq_true rfl) ?_
  intro p e s m args below meth c A Q F hnm K ls hl
  have F : wd_Fx p s m args meth c cX4_netAmongTowns 8 wsX4_netAmongTowns RX4 D cy sk sv A := F
  have hl : lv_has ls 8 [(0, .ref y), (1, .ref a1), (2, .int cn)] := hl
  have hx := F.1.1
  have hb := F.1.2.1
  have hown := F.1.2.2.2.1
  have hts := F.1.2.2.2.2
  intro H locs hP hD hS
  have kp0 : wd_kp S w w := wd_kp.rf
  refine lv_iconst (v := 0) hx hb dX4_netAmongTowns_0 (by decide) ?_
  refine lv_istore_n (lv' := [(3, .int 0), (0, .ref y), (1, .ref a1), (2, .int cn)]) hx hb dX4_netAmongTowns_1 rfl hl (by decide) rfl (fun ls hl => ?_)
  have lp2 : ∀ (N : Nat) (i : Nat) (gca : Nat) (rea : Nat → Int64) (e4a : Nat → Int32) (e5a : Nat → Int32) (e6a : Nat → Int64) (e7a : Nat → Int32) (w1 : Wd), (i + N = 12) → (gca ≤ 12) → (wd_at w1 y (.inr (4, [.ref l0, .ref l1, .ref l2, .ref l3, .ref l4, .ref l5, .ref l6, .ref l7, .int (nI gca), .int sz]))) → (wd_at w1 l3 (.inl (cy 3, 12, .inr (.inl rea)))) → (wd_at w1 l4 (.inl (cy 2, 12, .inl e4a))) → (wd_at w1 l5 (.inl (cy 2, 12, .inl e5a))) → (wd_at w1 l6 (.inl (cy 3, 12, .inr (.inl e6a)))) → (wd_at w1 l7 (.inl (cy 2, 12, .inl e7a))) → (wd_at w1 a1 (.inl (cy 9, 12, .inr (.inr (.inr (.inr tf)))))) → (∀ i9, i9 < 12 → tf i9 = some (tn i9) ∧ wd_at w1 (tn i9) (.inr (8, [.int (co i9), .int (ra i9), .int (se i9), .ref (ag i9)])) ∧ tg (tn i9) = 100 + i9) → (wd_kp S w w1) → ∀ (ls : Array Slot), lv_has ls 8 [(0, .ref y), (1, .ref a1), (2, .int cn), (3, .int (nI i))] → Wv p l e ({ frames := 1, cells := 0, slots := 0, locals := 25 }) s m args below meth c D A (0) (0) Q w1 (F0 m 2 ls []) := by
    intro N
    induction N with
    | zero =>
      intro i gca rea e4a e5a e6a e7a w1 hN2 hgca k2 k3 k4 k5 k6 k7 k8 fm9 kp10 ls hl H locs hP hD hS
      refine lv_iload_n hx hb dX4_netAmongTowns_2 rfl (lv_at hl 3 rfl) ?_
      refine lv_bipush (v := 12) hx hb dX4_netAmongTowns_3 (by decide) ?_
      refine lv_icmp_ge (tgt := 138) hx hb dX4_netAmongTowns_5 (by decide) (fun c_11 => ?_) (fun c_11 => absurd (nI_le (a := 12) (b := i) (by omega) (by omega)) c_11)
      exact y_vr K hP hD hS (Nat.le_of_ble_eq_true rfl) (Nat.le_of_ble_eq_true rfl) rfl dX4_netAmongTowns_138 (⟨gca, e4a, e5a, e6a, e7a, rea, rfl, by omega, kp10, k2, k4, k5, k6, k7, k3⟩)
    | succ N ih2 =>
      intro i gca rea e4a e5a e6a e7a w1 hN2 hgca k2 k3 k4 k5 k6 k7 k8 fm9 kp10 ls hl H locs hP hD hS
      refine lv_iload_n hx hb dX4_netAmongTowns_2 rfl (lv_at hl 3 rfl) ?_
      refine lv_bipush (v := 12) hx hb dX4_netAmongTowns_3 (by decide) ?_
      refine lv_icmp_ge (tgt := 138) hx hb dX4_netAmongTowns_5 (by decide) (fun c_12 => absurd c_12 (nI_ge (a := i) (b := 12) (by omega) (by omega))) (fun c_12 => ?_)
      refine lv_iconst (v := 0) hx hb dX4_netAmongTowns_8 (by decide) ?_
      refine lv_istore (lv' := [(4, .int 0), (0, .ref y), (1, .ref a1), (2, .int cn), (3, .int (nI i))]) hx hb dX4_netAmongTowns_9 hl (by decide) rfl (fun ls hl => ?_)
      have lp11 : ∀ (N : Nat) (j : Nat) (gcb : Nat) (reb : Nat → Int64) (e4b : Nat → Int32) (e5b : Nat → Int32) (e6b : Nat → Int64) (e7b : Nat → Int32) (w13 : Wd), (j + N = 12) → (gcb ≤ 12) → (wd_at w13 y (.inr (4, [.ref l0, .ref l1, .ref l2, .ref l3, .ref l4, .ref l5, .ref l6, .ref l7, .int (nI gcb), .int sz]))) → (wd_at w13 l3 (.inl (cy 3, 12, .inr (.inl reb)))) → (wd_at w13 l4 (.inl (cy 2, 12, .inl e4b))) → (wd_at w13 l5 (.inl (cy 2, 12, .inl e5b))) → (wd_at w13 l6 (.inl (cy 3, 12, .inr (.inl e6b)))) → (wd_at w13 l7 (.inl (cy 2, 12, .inl e7b))) → (wd_at w13 a1 (.inl (cy 9, 12, .inr (.inr (.inr (.inr tf)))))) → (∀ i9, i9 < 12 → tf i9 = some (tn i9) ∧ wd_at w13 (tn i9) (.inr (8, [.int (co i9), .int (ra i9), .int (se i9), .ref (ag i9)])) ∧ tg (tn i9) = 100 + i9) → (wd_kp S w w13) → ∀ (ls : Array Slot), lv_has ls 8 [(0, .ref y), (1, .ref a1), (2, .int cn), (3, .int (nI i)), (4, .int (nI j))] → Wv p l e ({ frames := 1, cells := 0, slots := 0, locals := 25 }) s m args below meth c D A (0) (0) Q w13 (F0 m 11 ls []) := by
        intro N
        induction N with
        | zero =>
          intro j gcb reb e4b e5b e6b e7b w13 hN11 hgcb k14 k15 k16 k17 k18 k19 k20 fm21 kp22 ls hl H locs hP hD hS
          refine lv_iload hx hb dX4_netAmongTowns_11 (lv_at hl 4 rfl) ?_
          refine lv_bipush (v := 12) hx hb dX4_netAmongTowns_13 (by decide) ?_
          refine lv_icmp_ge (tgt := 132) hx hb dX4_netAmongTowns_15 (by decide) (fun c_23 => ?_) (fun c_23 => absurd (nI_le (a := 12) (b := j) (by omega) (by omega)) c_23)
          refine lv_iinc (v := nI (i + 1)) (lv' := [(3, .int (nI (i + 1))), (0, .ref y), (1, .ref a1), (2, .int cn), (4, .int (nI j))]) hx hb dX4_netAmongTowns_132 hl (k := 3) rfl (nI_1 i) (by decide) rfl (fun ls hl => ?_)
          refine lv_goto (tgt := 2) hx hb dX4_netAmongTowns_135 (by decide) ?_
          exact ih2 (i + 1) gcb reb e4b e5b e6b e7b w13 (by omega) (by omega) k14 k15 k16 k17 k18 k19 k20 fm21 kp22 ls (lv_sub hl [1, 2, 3, 0] rfl) H locs hP hD hS
        | succ N ih11 =>
          intro j gcb reb e4b e5b e6b e7b w13 hN11 hgcb k14 k15 k16 k17 k18 k19 k20 fm21 kp22 ls hl H locs hP hD hS
          refine lv_iload hx hb dX4_netAmongTowns_11 (lv_at hl 4 rfl) ?_
          refine lv_bipush (v := 12) hx hb dX4_netAmongTowns_13 (by decide) ?_
          refine lv_icmp_ge (tgt := 132) hx hb dX4_netAmongTowns_15 (by decide) (fun c_24 => absurd c_24 (nI_ge (a := j) (b := 12) (by omega) (by omega))) (fun c_24 => ?_)
          refine lv_aload_n hx hb dX4_netAmongTowns_18 rfl (lv_at hl 1 rfl) ?_
          refine lv_iload_n hx hb dX4_netAmongTowns_19 rfl (lv_at hl 3 rfl) ?_
          refine x_aald F hP k20 rfl (vp_in_nI (n := i) (N := 12) (by omega) (by decide)) dX4_netAmongTowns_20 ?_
          rw [nI_clamp (n := i) (by omega), (fm21 i (by omega)).1]
          refine W.eq (g2 := F0 m _ ls [.ref (tn i)]) rfl ?_
          have k25 := (fm21 i (by omega)).2.1
          have tz26 := (fm21 i (by omega)).2.2
          refine x_get (ref := "NoteHouse$Town") F hP k25 rfl (fun _ h => List.mem_cons_of_mem _ (List.mem_append_left _ (List.mem_append_right _ (h)))) 0 (Nat.le_of_ble_eq_true rfl) (List.mem_cons_of_mem _ (List.mem_append_left _ (List.mem_append_left _ (List.mem_of_getElem? (i := 0) rfl)))) rfl rfl dX4_netAmongTowns_21 ?_
          refine lv_iload_n hx hb dX4_netAmongTowns_24 rfl (lv_at hl 2 rfl) ?_
          refine lv_icmp_ne (tgt := 43) hx hb dX4_netAmongTowns_25 (by decide) (fun c_27 => ?_) (fun c_27 => ?_)
          · refine lv_iconst (v := 0) hx hb dX4_netAmongTowns_43 (by decide) ?_
            refine lv_istore (lv' := [(5, .int 0), (0, .ref y), (1, .ref a1), (2, .int cn), (3, .int (nI i)), (4, .int (nI j))]) hx hb dX4_netAmongTowns_44 hl (by decide) rfl (fun ls hl => ?_)
            refine lv_iload hx hb dX4_netAmongTowns_46 (lv_at hl 0 rfl) ?_
            refine lv_if_eq (tgt := 126) hx hb dX4_netAmongTowns_48 (by decide) (fun c_28 => ?_) (fun c_28 => absurd (show (0 : Int32) = (0 : Int32) by decide) c_28)
            refine lv_iinc (v := nI (j + 1)) (lv' := [(4, .int (nI (j + 1))), (5, .int 0), (0, .ref y), (1, .ref a1), (2, .int cn), (3, .int (nI i))]) hx hb dX4_netAmongTowns_126 hl (k := 5) rfl (nI_1 j) (by decide) rfl (fun ls hl => ?_)
            refine lv_goto (tgt := 11) hx hb dX4_netAmongTowns_129 (by decide) ?_
            exact ih11 (j + 1) gcb reb e4b e5b e6b e7b w13 (by omega) (by omega) k14 k15 k16 k17 k18 k19 k20 fm21 kp22 ls (lv_sub hl [2, 3, 4, 5, 0] rfl) H locs hP hD hS
          · refine lv_aload_n hx hb dX4_netAmongTowns_28 rfl (lv_at hl 1 rfl) ?_
            refine lv_iload hx hb dX4_netAmongTowns_29 (lv_at hl 4 rfl) ?_
            refine x_aald F hP k20 rfl (vp_in_nI (n := j) (N := 12) (by omega) (by decide)) dX4_netAmongTowns_31 ?_
            rw [nI_clamp (n := j) (by omega), (fm21 j (by omega)).1]
            refine W.eq (g2 := F0 m _ ls [.ref (tn j)]) rfl ?_
            have k29 := (fm21 j (by omega)).2.1
            have tz30 := (fm21 j (by omega)).2.2
            refine x_get (ref := "NoteHouse$Town") F hP k29 rfl (fun _ h => List.mem_cons_of_mem _ (List.mem_append_left _ (List.mem_append_right _ (h)))) 0 (Nat.le_of_ble_eq_true rfl) (List.mem_cons_of_mem _ (List.mem_append_left _ (List.mem_append_left _ (List.mem_of_getElem? (i := 0) rfl)))) rfl rfl dX4_netAmongTowns_32 ?_
            refine lv_iload_n hx hb dX4_netAmongTowns_35 rfl (lv_at hl 2 rfl) ?_
            refine lv_icmp_ne (tgt := 43) hx hb dX4_netAmongTowns_36 (by decide) (fun c_31 => ?_) (fun c_31 => ?_)
            · refine lv_iconst (v := 0) hx hb dX4_netAmongTowns_43 (by decide) ?_
              refine lv_istore (lv' := [(5, .int 0), (0, .ref y), (1, .ref a1), (2, .int cn), (3, .int (nI i)), (4, .int (nI j))]) hx hb dX4_netAmongTowns_44 hl (by decide) rfl (fun ls hl => ?_)
              refine lv_iload hx hb dX4_netAmongTowns_46 (lv_at hl 0 rfl) ?_
              refine lv_if_eq (tgt := 126) hx hb dX4_netAmongTowns_48 (by decide) (fun c_32 => ?_) (fun c_32 => absurd (show (0 : Int32) = (0 : Int32) by decide) c_32)
              refine lv_iinc (v := nI (j + 1)) (lv' := [(4, .int (nI (j + 1))), (5, .int 0), (0, .ref y), (1, .ref a1), (2, .int cn), (3, .int (nI i))]) hx hb dX4_netAmongTowns_126 hl (k := 5) rfl (nI_1 j) (by decide) rfl (fun ls hl => ?_)
              refine lv_goto (tgt := 11) hx hb dX4_netAmongTowns_129 (by decide) ?_
              exact ih11 (j + 1) gcb reb e4b e5b e6b e7b w13 (by omega) (by omega) k14 k15 k16 k17 k18 k19 k20 fm21 kp22 ls (lv_sub hl [2, 3, 4, 5, 0] rfl) H locs hP hD hS
            · refine lv_iconst (v := 1) hx hb dX4_netAmongTowns_39 (by decide) ?_
              refine lv_goto (tgt := 44) hx hb dX4_netAmongTowns_40 (by decide) ?_
              refine lv_istore (lv' := [(5, .int 1), (0, .ref y), (1, .ref a1), (2, .int cn), (3, .int (nI i)), (4, .int (nI j))]) hx hb dX4_netAmongTowns_44 hl (by decide) rfl (fun ls hl => ?_)
              refine lv_iload hx hb dX4_netAmongTowns_46 (lv_at hl 0 rfl) ?_
              refine lv_if_eq (tgt := 126) hx hb dX4_netAmongTowns_48 (by decide) (fun c_33 => absurd c_33 (show ¬ (1 : Int32) = (0 : Int32) by decide)) (fun c_33 => ?_)
              refine lv_aload_n hx hb dX4_netAmongTowns_51 rfl (lv_at hl 1 rfl) ?_
              refine x_get (ref := "NoteHouse$Settlement") F hP k14 rfl (fun _ h => List.mem_cons_of_mem _ (List.mem_append_right _ (h))) 3 (Nat.le_of_ble_eq_true rfl) (List.mem_cons_of_mem _ (List.mem_append_left _ (List.mem_append_left _ (List.mem_of_getElem? (i := 1) rfl)))) rfl rfl dX4_netAmongTowns_52 ?_
              refine lv_iload_n hx hb dX4_netAmongTowns_55 rfl (lv_at hl 4 rfl) ?_
              refine x_lald F hP k15 (vp_in_nI (n := i) (N := 12) (by omega) (by decide)) dX4_netAmongTowns_56 ?_
              refine lv_lconst (v := 0) hx hb dX4_netAmongTowns_57 (by decide) ?_
              refine W.lcmp hx hb dX4_netAmongTowns_58 ?_
              refine lv_if_ge (tgt := 126) hx hb dX4_netAmongTowns_59 (by decide) (fun c_34 => ?_) (fun c_34 => ?_)
              · refine lv_iinc (v := nI (j + 1)) (lv' := [(4, .int (nI (j + 1))), (5, .int 1), (0, .ref y), (1, .ref a1), (2, .int cn), (3, .int (nI i))]) hx hb dX4_netAmongTowns_126 hl (k := 5) rfl (nI_1 j) (by decide) rfl (fun ls hl => ?_)
                refine lv_goto (tgt := 11) hx hb dX4_netAmongTowns_129 (by decide) ?_
                exact ih11 (j + 1) gcb reb e4b e5b e6b e7b w13 (by omega) (by omega) k14 k15 k16 k17 k18 k19 k20 fm21 kp22 ls (lv_sub hl [2, 3, 4, 5, 0] rfl) H locs hP hD hS
              · refine lv_aload_n hx hb dX4_netAmongTowns_62 rfl (lv_at hl 1 rfl) ?_
                refine x_get (ref := "NoteHouse$Settlement") F hP k14 rfl (fun _ h => List.mem_cons_of_mem _ (List.mem_append_right _ (h))) 3 (Nat.le_of_ble_eq_true rfl) (List.mem_cons_of_mem _ (List.mem_append_left _ (List.mem_append_left _ (List.mem_of_getElem? (i := 1) rfl)))) rfl rfl dX4_netAmongTowns_63 ?_
                refine lv_iload hx hb dX4_netAmongTowns_66 (lv_at hl 5 rfl) ?_
                refine x_lald F hP k15 (vp_in_nI (n := j) (N := 12) (by omega) (by decide)) dX4_netAmongTowns_68 ?_
                refine lv_lconst (v := 0) hx hb dX4_netAmongTowns_69 (by decide) ?_
                refine W.lcmp hx hb dX4_netAmongTowns_70 ?_
                refine lv_if_le (tgt := 126) hx hb dX4_netAmongTowns_71 (by decide) (fun c_35 => ?_) (fun c_35 => ?_)
                · refine lv_iinc (v := nI (j + 1)) (lv' := [(4, .int (nI (j + 1))), (5, .int 1), (0, .ref y), (1, .ref a1), (2, .int cn), (3, .int (nI i))]) hx hb dX4_netAmongTowns_126 hl (k := 5) rfl (nI_1 j) (by decide) rfl (fun ls hl => ?_)
                  refine lv_goto (tgt := 11) hx hb dX4_netAmongTowns_129 (by decide) ?_
                  exact ih11 (j + 1) gcb reb e4b e5b e6b e7b w13 (by omega) (by omega) k14 k15 k16 k17 k18 k19 k20 fm21 kp22 ls (lv_sub hl [2, 3, 4, 5, 0] rfl) H locs hP hD hS
                · refine lv_aload_n hx hb dX4_netAmongTowns_74 rfl (lv_at hl 1 rfl) ?_
                  refine x_get (ref := "NoteHouse$Settlement") F hP k14 rfl (fun _ h => List.mem_cons_of_mem _ (List.mem_append_right _ (h))) 3 (Nat.le_of_ble_eq_true rfl) (List.mem_cons_of_mem _ (List.mem_append_left _ (List.mem_append_left _ (List.mem_of_getElem? (i := 1) rfl)))) rfl rfl dX4_netAmongTowns_75 ?_
                  refine lv_iload_n hx hb dX4_netAmongTowns_78 rfl (lv_at hl 4 rfl) ?_
                  refine x_lald F hP k15 (vp_in_nI (n := i) (N := 12) (by omega) (by decide)) dX4_netAmongTowns_79 ?_
                  refine lv_lneg hx hb dX4_netAmongTowns_80 ?_
                  refine lv_aload_n hx hb dX4_netAmongTowns_81 rfl (lv_at hl 1 rfl) ?_
                  refine x_get (ref := "NoteHouse$Settlement") F hP k14 rfl (fun _ h => List.mem_cons_of_mem _ (List.mem_append_right _ (h))) 3 (Nat.le_of_ble_eq_true rfl) (List.mem_cons_of_mem _ (List.mem_append_left _ (List.mem_append_left _ (List.mem_of_getElem? (i := 1) rfl)))) rfl rfl dX4_netAmongTowns_82 ?_
                  refine lv_iload hx hb dX4_netAmongTowns_85 (lv_at hl 5 rfl) ?_
                  refine x_lald F hP k15 (vp_in_nI (n := j) (N := 12) (by omega) (by decide)) dX4_netAmongTowns_87 ?_
                  refine va_mmin_long hx hb (F.1.2.2.1.trans hl.1.symm) hown (hts _ (List.mem_cons_of_mem _ (List.mem_append_left _ (List.mem_append_left _ (List.mem_of_getElem? (i := 2) rfl))))) (hts _ (List.mem_cons_of_mem _ (List.mem_append_left _ (List.mem_append_left _ (List.mem_of_getElem? (i := 3) rfl))))) (hts _ (List.mem_cons_of_mem _ (List.mem_append_left _ (List.mem_append_left _ (List.mem_of_getElem? (i := 4) rfl))))) (hts _ (List.mem_cons_of_mem _ (List.mem_append_left _ (List.mem_append_left _ (List.mem_of_getElem? (i := 5) rfl))))) (Nat.le_of_ble_eq_true rfl) (Nat.le_of_ble_eq_true rfl) (Nat.le_of_ble_eq_true rfl) (Nat.le_of_ble_eq_true rfl) dX4_netAmongTowns_88 ?_
                  refine lv_lstore (lv' := [(6, .long (if reb (nI j).toNatClampNeg < -(reb (nI i).toNatClampNeg) then reb (nI j).toNatClampNeg else -(reb (nI i).toNatClampNeg))), (5, .int 1), (0, .ref y), (1, .ref a1), (2, .int cn), (3, .int (nI i)), (4, .int (nI j))]) hx hb dX4_netAmongTowns_91 hl (by decide) rfl (fun ls hl => ?_)
                  refine lv_aload_n hx hb dX4_netAmongTowns_93 rfl (lv_at hl 2 rfl) ?_
                  refine x_get (ref := "NoteHouse$Settlement") F hP k14 rfl (fun _ h => List.mem_cons_of_mem _ (List.mem_append_right _ (h))) 3 (Nat.le_of_ble_eq_true rfl) (List.mem_cons_of_mem _ (List.mem_append_left _ (List.mem_append_left _ (List.mem_of_getElem? (i := 1) rfl)))) rfl rfl dX4_netAmongTowns_94 ?_
                  refine lv_iload_n hx hb dX4_netAmongTowns_97 rfl (lv_at hl 5 rfl) ?_
                  refine lv_dup2_11 hx hb dX4_netAmongTowns_98 rfl rfl ?_
                  refine x_lald F hP k15 (vp_in_nI (n := i) (N := 12) (by omega) (by decide)) dX4_netAmongTowns_99 ?_
                  refine lv_lload hx hb dX4_netAmongTowns_100 (lv_at hl 0 rfl) ?_
                  refine lv_ladd hx hb dX4_netAmongTowns_102 ?_
                  refine y_last F hP hD hS k15 (vp_in_nI (n := i) (N := 12) (by omega) (by decide)) dX4_netAmongTowns_103 (fun w36 ew37 H locs hP hD hS => ?_)
                  have k38 := wd_at.pt ew37 k14 (wd_nk k14 k15 rfl)
                  have k39 : wd_at w36 l3 (.inl (cy 3, 12, .inr (.inl (vp_updL reb (nI i).toNatClampNeg ((reb (nI i).toNatClampNeg) + (if reb (nI j).toNatClampNeg < -(reb (nI i).toNatClampNeg) then reb (nI j).toNatClampNeg else -(reb (nI i).toNatClampNeg))))))) := wd_at.ps ew37 k15
                  have k40 := wd_at.pt ew37 k16 (wd_nk k16 k15 rfl)
                  have k41 := wd_at.pt ew37 k17 (wd_nk k17 k15 rfl)
                  have k42 := wd_at.pt ew37 k18 (Ne.symm nl3l6)
                  have k43 := wd_at.pt ew37 k19 (wd_nk k19 k15 rfl)
                  have k44 := wd_at.pt ew37 k20 (wd_nk k20 k15 rfl)
                  have fm45 : ∀ i9, i9 < 12 → tf i9 = some (tn i9) ∧ wd_at w36 (tn i9) (.inr (8, [.int (co i9), .int (ra i9), .int (se i9), .ref (ag i9)])) ∧ tg (tn i9) = 100 + i9 := fun i9 hi9 => ⟨(fm21 i9 hi9).1, wd_at.pt ew37 (fm21 i9 hi9).2.1 (wd_nk (fm21 i9 hi9).2.1 k15 rfl), (fm21 i9 hi9).2.2⟩
                  have kp46 := kp22.put ew37 s95
                  refine lv_aload_n hx hb dX4_netAmongTowns_104 rfl (lv_at hl 2 rfl) ?_
                  refine x_get (ref := "NoteHouse$Settlement") F hP k38 rfl (fun _ h => List.mem_cons_of_mem _ (List.mem_append_right _ (h))) 3 (Nat.le_of_ble_eq_true rfl) (List.mem_cons_of_mem _ (List.mem_append_left _ (List.mem_append_left _ (List.mem_of_getElem? (i := 1) rfl)))) rfl rfl dX4_netAmongTowns_105 ?_
                  refine lv_iload hx hb dX4_netAmongTowns_108 (lv_at hl 6 rfl) ?_
                  refine lv_dup2_11 hx hb dX4_netAmongTowns_110 rfl rfl ?_
                  refine x_lald F hP k39 (vp_in_nI (n := j) (N := 12) (by omega) (by decide)) dX4_netAmongTowns_111 ?_
                  refine lv_lload hx hb dX4_netAmongTowns_112 (lv_at hl 0 rfl) ?_
                  refine lv_lsub hx hb dX4_netAmongTowns_114 ?_
                  refine y_last F hP hD hS k39 (vp_in_nI (n := j) (N := 12) (by omega) (by decide)) dX4_netAmongTowns_115 (fun w47 ew48 H locs hP hD hS => ?_)
                  have k49 := wd_at.pt ew48 k38 (wd_nk k38 k39 rfl)
                  have k50 : wd_at w47 l3 (.inl (cy 3, 12, .inr (.inl (vp_updL (vp_updL reb (nI i).toNatClampNeg ((reb (nI i).toNatClampNeg) + (if reb (nI j).toNatClampNeg < -(reb (nI i).toNatClampNeg) then reb (nI j).toNatClampNeg else -(reb (nI i).toNatClampNeg)))) (nI j).toNatClampNeg (((vp_updL reb (nI i).toNatClampNeg ((reb (nI i).toNatClampNeg) + (if reb (nI j).toNatClampNeg < -(reb (nI i).toNatClampNeg) then reb (nI j).toNatClampNeg else -(reb (nI i).toNatClampNeg)))) (nI j).toNatClampNeg) - (if reb (nI j).toNatClampNeg < -(reb (nI i).toNatClampNeg) then reb (nI j).toNatClampNeg else -(reb (nI i).toNatClampNeg))))))) := wd_at.ps ew48 k39
                  have k51 := wd_at.pt ew48 k40 (wd_nk k40 k39 rfl)
                  have k52 := wd_at.pt ew48 k41 (wd_nk k41 k39 rfl)
                  have k53 := wd_at.pt ew48 k42 (Ne.symm nl3l6)
                  have k54 := wd_at.pt ew48 k43 (wd_nk k43 k39 rfl)
                  have k55 := wd_at.pt ew48 k44 (wd_nk k44 k39 rfl)
                  have fm56 : ∀ i9, i9 < 12 → tf i9 = some (tn i9) ∧ wd_at w47 (tn i9) (.inr (8, [.int (co i9), .int (ra i9), .int (se i9), .ref (ag i9)])) ∧ tg (tn i9) = 100 + i9 := fun i9 hi9 => ⟨(fm45 i9 hi9).1, wd_at.pt ew48 (fm45 i9 hi9).2.1 (wd_nk (fm45 i9 hi9).2.1 k39 rfl), (fm45 i9 hi9).2.2⟩
                  have kp57 := kp46.put ew48 s95
                  refine lv_aload_n hx hb dX4_netAmongTowns_116 rfl (lv_at hl 2 rfl) ?_
                  refine lv_iload_n hx hb dX4_netAmongTowns_117 rfl (lv_at hl 5 rfl) ?_
                  refine lv_iload hx hb dX4_netAmongTowns_118 (lv_at hl 6 rfl) ?_
                  refine lv_lload hx hb dX4_netAmongTowns_120 (lv_at hl 0 rfl) ?_
                  refine lv_iload_n hx hb dX4_netAmongTowns_122 rfl (lv_at hl 4 rfl) ?_
                  refine x_callV (n := 4) (As := [.int (nI i), .int (nI j), .long (if reb (nI j).toNatClampNeg < -(reb (nI i).toNatClampNeg) then reb (nI j).toNatClampNeg else -(reb (nI i).toNatClampNeg)), .int cn]) (rest := []) F hP hD hS (g_addGift l D cy sk sv w47 y l0 l1 l2 l3 l4 l5 l6 l7 gcb sz (nI i) (nI j) cn (if reb (nI j).toNatClampNeg < -(reb (nI i).toNatClampNeg) then reb (nI j).toNatClampNeg else -(reb (nI i).toNatClampNeg)) e4b e5b e7b e6b k49 k51 k52 k53 k54 (fun b => b = y ∨ b = l4 ∨ b = l5 ∨ b = l6 ∨ b = l7) (Or.inl rfl) (Or.inr (Or.inl rfl)) (Or.inr (Or.inr (Or.inl rfl))) (Or.inr (Or.inr (Or.inr (Or.inl rfl)))) (Or.inr (Or.inr (Or.inr (Or.inr rfl)))) (by omega) nl4l5 nl4l7 nl5l7) gX4_netAmongTowns_X4_addGift rfl rfl (by decide +kernel) ⟨(Nat.le_of_ble_eq_true rfl), (Nat.le_of_ble_eq_true rfl)⟩ rfl hl.1 (Nat.le_of_ble_eq_true rfl) k49 rfl dX4_netAmongTowns_123 rfl ⟨(Nat.le_of_ble_eq_true rfl), (Nat.le_of_ble_eq_true rfl)⟩ (fun v59 w60 hp58 H locs hP hD hS => ?_)
                  obtain ⟨gcx61, ex62, ex63, ex64, ex65, rfl, hz66, kq72, k67, k68, k69, k70, k71⟩ := hp58
                  have k73 := kq72.2 _ _ k50 (fun q9 => Or.elim q9 (wd_nk k50 k49 rfl) (fun q9 => Or.elim q9 (wd_nk k50 k51 rfl) (fun q9 => Or.elim q9 (wd_nk k50 k52 rfl) (fun q9 => Or.elim q9 nl3l6 (fun q9 : l3 = l7 => (wd_nk k50 k54 rfl) q9)))))
                  have k74 := kq72.2 _ _ k55 (fun q9 => Or.elim q9 (wd_nk k55 k49 rfl) (fun q9 => Or.elim q9 (wd_nk k55 k51 rfl) (fun q9 => Or.elim q9 (wd_nk k55 k52 rfl) (fun q9 => Or.elim q9 (wd_nk k55 k53 rfl) (fun q9 : a1 = l7 => (wd_nk k55 k54 rfl) q9)))))
                  have fm75 : ∀ i9, i9 < 12 → tf i9 = some (tn i9) ∧ wd_at w60 (tn i9) (.inr (8, [.int (co i9), .int (ra i9), .int (se i9), .ref (ag i9)])) ∧ tg (tn i9) = 100 + i9 := fun i9 hi9 => ⟨(fm56 i9 hi9).1, kq72.2 _ _ (fm56 i9 hi9).2.1 (fun q9 => Or.elim q9 (wd_nk (fm56 i9 hi9).2.1 k49 rfl) (fun q9 => Or.elim q9 (wd_nk (fm56 i9 hi9).2.1 k51 rfl) (fun q9 => Or.elim q9 (wd_nk (fm56 i9 hi9).2.1 k52 rfl) (fun q9 => Or.elim q9 (wd_nk (fm56 i9 hi9).2.1 k53 rfl) (wd_nk (fm56 i9 hi9).2.1 k54 rfl))))), (fm56 i9 hi9).2.2⟩
                  have kp76 := kp57.tr kq72 (fun b9 hm q9 => (fun q9 => Or.elim q9 (fun q9 => q9 ▸ s90) (fun q9 => Or.elim q9 (fun q9 => q9 ▸ s91) (fun q9 => Or.elim q9 (fun q9 => q9 ▸ s92) (fun q9 => Or.elim q9 (fun q9 => q9 ▸ s93) (fun q9 => q9 ▸ s94))))) q9)
                  refine W.eq (g2 := F0 m 126 ls []) rfl (W.widen (k := 0) (n := 0) (Nat.le_of_ble_eq_true rfl) (Nat.le_of_ble_eq_true rfl) ?_)
                  refine lv_iinc (v := nI (j + 1)) (lv' := [(4, .int (nI (j + 1))), (6, .long (if reb (nI j).toNatClampNeg < -(reb (nI i).toNatClampNeg) then reb (nI j).toNatClampNeg else -(reb (nI i).toNatClampNeg))), (5, .int 1), (0, .ref y), (1, .ref a1), (2, .int cn), (3, .int (nI i))]) hx hb dX4_netAmongTowns_126 hl (k := 6) rfl (nI_1 j) (by decide) rfl (fun ls hl => ?_)
                  refine lv_goto (tgt := 11) hx hb dX4_netAmongTowns_129 (by decide) ?_
                  exact ih11 (j + 1) gcx61 (vp_updL (vp_updL reb (nI i).toNatClampNeg ((reb (nI i).toNatClampNeg) + (if reb (nI j).toNatClampNeg < -(reb (nI i).toNatClampNeg) then reb (nI j).toNatClampNeg else -(reb (nI i).toNatClampNeg)))) (nI j).toNatClampNeg (((vp_updL reb (nI i).toNatClampNeg ((reb (nI i).toNatClampNeg) + (if reb (nI j).toNatClampNeg < -(reb (nI i).toNatClampNeg) then reb (nI j).toNatClampNeg else -(reb (nI i).toNatClampNeg)))) (nI j).toNatClampNeg) - (if reb (nI j).toNatClampNeg < -(reb (nI i).toNatClampNeg) then reb (nI j).toNatClampNeg else -(reb (nI i).toNatClampNeg)))) ex62 ex63 ex64 ex65 w60 (by omega) (by omega) k67 k73 k68 k69 k70 k71 k74 fm75 kp76 ls (lv_sub hl [3, 4, 5, 6, 0] rfl) H locs hP hD hS
      exact lp11 _ 0 gca rea e4a e5a e6a e7a w1 (Nat.zero_add 12) (by omega) k2 k3 k4 k5 k6 k7 k8 fm9 kp10 ls (lv_sub hl [1, 2, 3, 4, 0] rfl) H locs hP hD hS
  exact lp2 _ 0 gc re e4 e5 e6 e7 w (Nat.zero_add 12) (by omega) c90 c91 c92 c93 c94 c95 c96 hT9 kp0 ls (lv_sub hl [1, 2, 3, 0] rfl) H locs hP hD hS
set_option maxHeartbeats 4000000 in
set_option maxRecDepth 100000 in
theorem g_netWithHouse (l : Launch) (D : va_G) (cy : Nat → ClassId) (sk sv : Nat → Nat) (w : Wd) (y l0 l1 l2 l3 l4 l5 l6 l7 : Nat) (a1 gc : Nat) (tg : Nat → Nat) (tf : Nat → Option Nat) (tn ag : Nat → Nat) (co ra se : Nat → Int32) (sz cn : Int32) (e4 e5 e7 : Nat → Int32) (e6 : Nat → Int64) (re : Nat → Int64) (c90 : wd_at w y (.inr (4, [.ref l0, .ref l1, .ref l2, .ref l3, .ref l4, .ref l5, .ref l6, .ref l7, .int (nI gc), .int sz]))) (c91 : wd_at w l3 (.inl (cy 3, 12, .inr (.inl re)))) (c92 : wd_at w l4 (.inl (cy 2, 12, .inl e4))) (c93 : wd_at w l5 (.inl (cy 2, 12, .inl e5))) (c94 : wd_at w l6 (.inl (cy 3, 12, .inr (.inl e6)))) (c95 : wd_at w l7 (.inl (cy 2, 12, .inl e7))) (c96 : wd_at w a1 (.inl (cy 9, 12, .inr (.inr (.inr (.inr tf)))))) (hT9 : ∀ i9, i9 < 12 → tf i9 = some (tn i9) ∧ wd_at w (tn i9) (.inr (8, [.int (co i9), .int (ra i9), .int (se i9), .ref (ag i9)])) ∧ tg (tn i9) = 100 + i9) (S : Nat → Prop) (s90 : S y) (s91 : S l4) (s92 : S l5) (s93 : S l6) (s94 : S l7) (s95 : S l3) (hgc : gc ≤ 12) (nl4l5 : l4 ≠ l5) (nl4l7 : l4 ≠ l7) (nl5l7 : l5 ≠ l7) (nl3l6 : l3 ≠ l6) : Ct l D cy sk sv yX4_netWithHouse wsX4_netWithHouse ({ frames := 1, cells := 0, slots := 0, locals := 25 }) [.ref y, .ref a1, .int cn] w (fun v w1 => ∃ (gc1 : Nat) (e41 : Nat → Int32) (e51 : Nat → Int32) (e61 : Nat → Int64) (e71 : Nat → Int32) (re1 : Nat → Int64), v = none ∧ (gc1 ≤ 12) ∧ wd_kp S w w1 ∧ wd_at w1 y (.inr (4, [.ref l0, .ref l1, .ref l2, .ref l3, .ref l4, .ref l5, .ref l6, .ref l7, .int (nI gc1), .int sz])) ∧ wd_at w1 l4 (.inl (cy 2, 12, .inl e41)) ∧ wd_at w1 l5 (.inl (cy 2, 12, .inl e51)) ∧ wd_at w1 l6 (.inl (cy 3, 12, .inr (.inl e61))) ∧ wd_at w1 l7 (.inl (cy 2, 12, .inl e71)) ∧ wd_at w1 l3 (.inl (cy 3, 12, .inr (.inl re1)))) := by
  refine Ct.by (cc := cX4_netWithHouse) (maxL := 4) (ret := none) (by decide +kernel) rfl (Nat.le_of_ble_eq_true rfl) ?_
  intro p e s m args below meth c A Q F hnm K ls hl
  have F : wd_Fx p s m args meth c cX4_netWithHouse 4 wsX4_netWithHouse RX4 D cy sk sv A := F
  have hl : lv_has ls 4 [(0, .ref y), (1, .ref a1), (2, .int cn)] := hl
  have hx := F.1.1
  have hb := F.1.2.1
  have hown := F.1.2.2.2.1
  have hts := F.1.2.2.2.2
  intro H locs hP hD hS
  have kp0 : wd_kp S w w := wd_kp.rf
  refine lv_iconst (v := 0) hx hb dX4_netWithHouse_0 (by decide) ?_
  refine lv_istore_n (lv' := [(3, .int 0), (0, .ref y), (1, .ref a1), (2, .int cn)]) hx hb dX4_netWithHouse_1 rfl hl (by decide) rfl (fun ls hl => ?_)
  have lp2 : ∀ (N : Nat) (i : Nat) (gca : Nat) (rea : Nat → Int64) (e4a : Nat → Int32) (e5a : Nat → Int32) (e6a : Nat → Int64) (e7a : Nat → Int32) (w1 : Wd), (i + N = 12) → (gca ≤ 12) → (wd_at w1 y (.inr (4, [.ref l0, .ref l1, .ref l2, .ref l3, .ref l4, .ref l5, .ref l6, .ref l7, .int (nI gca), .int sz]))) → (wd_at w1 l3 (.inl (cy 3, 12, .inr (.inl rea)))) → (wd_at w1 l4 (.inl (cy 2, 12, .inl e4a))) → (wd_at w1 l5 (.inl (cy 2, 12, .inl e5a))) → (wd_at w1 l6 (.inl (cy 3, 12, .inr (.inl e6a)))) → (wd_at w1 l7 (.inl (cy 2, 12, .inl e7a))) → (wd_at w1 a1 (.inl (cy 9, 12, .inr (.inr (.inr (.inr tf)))))) → (∀ i9, i9 < 12 → tf i9 = some (tn i9) ∧ wd_at w1 (tn i9) (.inr (8, [.int (co i9), .int (ra i9), .int (se i9), .ref (ag i9)])) ∧ tg (tn i9) = 100 + i9) → (wd_kp S w w1) → ∀ (ls : Array Slot), lv_has ls 4 [(0, .ref y), (1, .ref a1), (2, .int cn), (3, .int (nI i))] → Wv p l e ({ frames := 1, cells := 0, slots := 0, locals := 25 }) s m args below meth c D A (0) (0) Q w1 (F0 m 2 ls []) := by
    intro N
    induction N with
    | zero =>
      intro i gca rea e4a e5a e6a e7a w1 hN2 hgca k2 k3 k4 k5 k6 k7 k8 fm9 kp10 ls hl H locs hP hD hS
      refine lv_iload_n hx hb dX4_netWithHouse_2 rfl (lv_at hl 3 rfl) ?_
      refine lv_bipush (v := 12) hx hb dX4_netWithHouse_3 (by decide) ?_
      refine lv_icmp_ge (tgt := 85) hx hb dX4_netWithHouse_5 (by decide) (fun c_11 => ?_) (fun c_11 => absurd (nI_le (a := 12) (b := i) (by omega) (by omega)) c_11)
      exact y_vr K hP hD hS (Nat.le_of_ble_eq_true rfl) (Nat.le_of_ble_eq_true rfl) rfl dX4_netWithHouse_85 (⟨gca, e4a, e5a, e6a, e7a, rea, rfl, by omega, kp10, k2, k4, k5, k6, k7, k3⟩)
    | succ N ih2 =>
      intro i gca rea e4a e5a e6a e7a w1 hN2 hgca k2 k3 k4 k5 k6 k7 k8 fm9 kp10 ls hl H locs hP hD hS
      refine lv_iload_n hx hb dX4_netWithHouse_2 rfl (lv_at hl 3 rfl) ?_
      refine lv_bipush (v := 12) hx hb dX4_netWithHouse_3 (by decide) ?_
      refine lv_icmp_ge (tgt := 85) hx hb dX4_netWithHouse_5 (by decide) (fun c_12 => absurd c_12 (nI_ge (a := i) (b := 12) (by omega) (by omega))) (fun c_12 => ?_)
      refine lv_aload_n hx hb dX4_netWithHouse_8 rfl (lv_at hl 1 rfl) ?_
      refine lv_iload_n hx hb dX4_netWithHouse_9 rfl (lv_at hl 3 rfl) ?_
      refine x_aald F hP k8 rfl (vp_in_nI (n := i) (N := 12) (by omega) (by decide)) dX4_netWithHouse_10 ?_
      rw [nI_clamp (n := i) (by omega), (fm9 i (by omega)).1]
      refine W.eq (g2 := F0 m _ ls [.ref (tn i)]) rfl ?_
      have k13 := (fm9 i (by omega)).2.1
      have tz14 := (fm9 i (by omega)).2.2
      refine x_get (ref := "NoteHouse$Town") F hP k13 rfl (fun _ h => List.mem_cons_of_mem _ (List.mem_append_left _ (List.mem_append_right _ (h)))) 0 (Nat.le_of_ble_eq_true rfl) (List.mem_cons_of_mem _ (List.mem_append_left _ (List.mem_append_left _ (List.mem_of_getElem? (i := 0) rfl)))) rfl rfl dX4_netWithHouse_11 ?_
      refine lv_iload_n hx hb dX4_netWithHouse_14 rfl (lv_at hl 2 rfl) ?_
      refine lv_icmp_ne (tgt := 43) hx hb dX4_netWithHouse_15 (by decide) (fun c_15 => ?_) (fun c_15 => ?_)
      · refine lv_aload_n hx hb dX4_netWithHouse_43 rfl (lv_at hl 1 rfl) ?_
        refine lv_iload_n hx hb dX4_netWithHouse_44 rfl (lv_at hl 3 rfl) ?_
        refine x_aald F hP k8 rfl (vp_in_nI (n := i) (N := 12) (by omega) (by decide)) dX4_netWithHouse_45 ?_
        rw [nI_clamp (n := i) (by omega), (fm9 i (by omega)).1]
        refine W.eq (g2 := F0 m _ ls [.ref (tn i)]) rfl ?_
        have k16 := (fm9 i (by omega)).2.1
        have tz17 := (fm9 i (by omega)).2.2
        refine x_get (ref := "NoteHouse$Town") F hP k16 rfl (fun _ h => List.mem_cons_of_mem _ (List.mem_append_left _ (List.mem_append_right _ (h)))) 0 (Nat.le_of_ble_eq_true rfl) (List.mem_cons_of_mem _ (List.mem_append_left _ (List.mem_append_left _ (List.mem_of_getElem? (i := 0) rfl)))) rfl rfl dX4_netWithHouse_46 ?_
        refine lv_iload_n hx hb dX4_netWithHouse_49 rfl (lv_at hl 2 rfl) ?_
        refine lv_icmp_ne (tgt := 79) hx hb dX4_netWithHouse_50 (by decide) (fun c_18 => ?_) (fun c_18 => ?_)
        · refine lv_iinc (v := nI (i + 1)) (lv' := [(3, .int (nI (i + 1))), (0, .ref y), (1, .ref a1), (2, .int cn)]) hx hb dX4_netWithHouse_79 hl (k := 3) rfl (nI_1 i) (by decide) rfl (fun ls hl => ?_)
          refine lv_goto (tgt := 2) hx hb dX4_netWithHouse_82 (by decide) ?_
          exact ih2 (i + 1) gca rea e4a e5a e6a e7a w1 (by omega) (by omega) k2 k3 k4 k5 k6 k7 k8 fm9 kp10 ls (lv_sub hl [1, 2, 3, 0] rfl) H locs hP hD hS
        · refine lv_aload_n hx hb dX4_netWithHouse_53 rfl (lv_at hl 0 rfl) ?_
          refine x_get (ref := "NoteHouse$Settlement") F hP k2 rfl (fun _ h => List.mem_cons_of_mem _ (List.mem_append_right _ (h))) 3 (Nat.le_of_ble_eq_true rfl) (List.mem_cons_of_mem _ (List.mem_append_left _ (List.mem_append_left _ (List.mem_of_getElem? (i := 1) rfl)))) rfl rfl dX4_netWithHouse_54 ?_
          refine lv_iload_n hx hb dX4_netWithHouse_57 rfl (lv_at hl 3 rfl) ?_
          refine x_lald F hP k3 (vp_in_nI (n := i) (N := 12) (by omega) (by decide)) dX4_netWithHouse_58 ?_
          refine lv_lconst (v := 0) hx hb dX4_netWithHouse_59 (by decide) ?_
          refine W.lcmp hx hb dX4_netWithHouse_60 ?_
          refine lv_if_ge (tgt := 79) hx hb dX4_netWithHouse_61 (by decide) (fun c_19 => ?_) (fun c_19 => ?_)
          · refine lv_iinc (v := nI (i + 1)) (lv' := [(3, .int (nI (i + 1))), (0, .ref y), (1, .ref a1), (2, .int cn)]) hx hb dX4_netWithHouse_79 hl (k := 3) rfl (nI_1 i) (by decide) rfl (fun ls hl => ?_)
            refine lv_goto (tgt := 2) hx hb dX4_netWithHouse_82 (by decide) ?_
            exact ih2 (i + 1) gca rea e4a e5a e6a e7a w1 (by omega) (by omega) k2 k3 k4 k5 k6 k7 k8 fm9 kp10 ls (lv_sub hl [1, 2, 3, 0] rfl) H locs hP hD hS
          · refine lv_aload_n hx hb dX4_netWithHouse_64 rfl (lv_at hl 0 rfl) ?_
            refine lv_iload_n hx hb dX4_netWithHouse_65 rfl (lv_at hl 3 rfl) ?_
            refine lv_bipush (v := 12) hx hb dX4_netWithHouse_66 (by decide) ?_
            refine lv_aload_n hx hb dX4_netWithHouse_68 rfl (lv_at hl 0 rfl) ?_
            refine x_get (ref := "NoteHouse$Settlement") F hP k2 rfl (fun _ h => List.mem_cons_of_mem _ (List.mem_append_right _ (h))) 3 (Nat.le_of_ble_eq_true rfl) (List.mem_cons_of_mem _ (List.mem_append_left _ (List.mem_append_left _ (List.mem_of_getElem? (i := 1) rfl)))) rfl rfl dX4_netWithHouse_69 ?_
            refine lv_iload_n hx hb dX4_netWithHouse_72 rfl (lv_at hl 3 rfl) ?_
            refine x_lald F hP k3 (vp_in_nI (n := i) (N := 12) (by omega) (by decide)) dX4_netWithHouse_73 ?_
            refine lv_lneg hx hb dX4_netWithHouse_74 ?_
            refine lv_iload_n hx hb dX4_netWithHouse_75 rfl (lv_at hl 2 rfl) ?_
            refine x_callV (n := 4) (As := [.int (nI i), .int 12, .long (-(rea (nI i).toNatClampNeg)), .int cn]) (rest := []) F hP hD hS (g_addGift l D cy sk sv w1 y l0 l1 l2 l3 l4 l5 l6 l7 gca sz (nI i) 12 cn (-(rea (nI i).toNatClampNeg)) e4a e5a e7a e6a k2 k4 k5 k6 k7 (fun b => b = y ∨ b = l4 ∨ b = l5 ∨ b = l6 ∨ b = l7) (Or.inl rfl) (Or.inr (Or.inl rfl)) (Or.inr (Or.inr (Or.inl rfl))) (Or.inr (Or.inr (Or.inr (Or.inl rfl)))) (Or.inr (Or.inr (Or.inr (Or.inr rfl)))) (by omega) nl4l5 nl4l7 nl5l7) gX4_netWithHouse_X4_addGift rfl rfl (by decide +kernel) ⟨(Nat.le_of_ble_eq_true rfl), (Nat.le_of_ble_eq_true rfl)⟩ rfl hl.1 (Nat.le_of_ble_eq_true rfl) k2 rfl dX4_netWithHouse_76 rfl ⟨(Nat.le_of_ble_eq_true rfl), (Nat.le_of_ble_eq_true rfl)⟩ (fun v21 w22 hp20 H locs hP hD hS => ?_)
            obtain ⟨gcx23, ex24, ex25, ex26, ex27, rfl, hz28, kq34, k29, k30, k31, k32, k33⟩ := hp20
            have k35 := kq34.2 _ _ k3 (fun q9 => Or.elim q9 (wd_nk k3 k2 rfl) (fun q9 => Or.elim q9 (wd_nk k3 k4 rfl) (fun q9 => Or.elim q9 (wd_nk k3 k5 rfl) (fun q9 => Or.elim q9 nl3l6 (fun q9 : l3 = l7 => (wd_nk k3 k7 rfl) q9)))))
            have k36 := kq34.2 _ _ k8 (fun q9 => Or.elim q9 (wd_nk k8 k2 rfl) (fun q9 => Or.elim q9 (wd_nk k8 k4 rfl) (fun q9 => Or.elim q9 (wd_nk k8 k5 rfl) (fun q9 => Or.elim q9 (wd_nk k8 k6 rfl) (fun q9 : a1 = l7 => (wd_nk k8 k7 rfl) q9)))))
            have fm37 : ∀ i9, i9 < 12 → tf i9 = some (tn i9) ∧ wd_at w22 (tn i9) (.inr (8, [.int (co i9), .int (ra i9), .int (se i9), .ref (ag i9)])) ∧ tg (tn i9) = 100 + i9 := fun i9 hi9 => ⟨(fm9 i9 hi9).1, kq34.2 _ _ (fm9 i9 hi9).2.1 (fun q9 => Or.elim q9 (wd_nk (fm9 i9 hi9).2.1 k2 rfl) (fun q9 => Or.elim q9 (wd_nk (fm9 i9 hi9).2.1 k4 rfl) (fun q9 => Or.elim q9 (wd_nk (fm9 i9 hi9).2.1 k5 rfl) (fun q9 => Or.elim q9 (wd_nk (fm9 i9 hi9).2.1 k6 rfl) (wd_nk (fm9 i9 hi9).2.1 k7 rfl))))), (fm9 i9 hi9).2.2⟩
            have kp38 := kp10.tr kq34 (fun b9 hm q9 => (fun q9 => Or.elim q9 (fun q9 => q9 ▸ s90) (fun q9 => Or.elim q9 (fun q9 => q9 ▸ s91) (fun q9 => Or.elim q9 (fun q9 => q9 ▸ s92) (fun q9 => Or.elim q9 (fun q9 => q9 ▸ s93) (fun q9 => q9 ▸ s94))))) q9)
            refine W.eq (g2 := F0 m 79 ls []) rfl (W.widen (k := 0) (n := 0) (Nat.le_of_ble_eq_true rfl) (Nat.le_of_ble_eq_true rfl) ?_)
            refine lv_iinc (v := nI (i + 1)) (lv' := [(3, .int (nI (i + 1))), (0, .ref y), (1, .ref a1), (2, .int cn)]) hx hb dX4_netWithHouse_79 hl (k := 3) rfl (nI_1 i) (by decide) rfl (fun ls hl => ?_)
            refine lv_goto (tgt := 2) hx hb dX4_netWithHouse_82 (by decide) ?_
            exact ih2 (i + 1) gcx23 rea ex24 ex25 ex26 ex27 w22 (by omega) (by omega) k29 k35 k30 k31 k32 k33 k36 fm37 kp38 ls (lv_sub hl [1, 2, 3, 0] rfl) H locs hP hD hS
      · refine lv_aload_n hx hb dX4_netWithHouse_18 rfl (lv_at hl 0 rfl) ?_
        refine x_get (ref := "NoteHouse$Settlement") F hP k2 rfl (fun _ h => List.mem_cons_of_mem _ (List.mem_append_right _ (h))) 3 (Nat.le_of_ble_eq_true rfl) (List.mem_cons_of_mem _ (List.mem_append_left _ (List.mem_append_left _ (List.mem_of_getElem? (i := 1) rfl)))) rfl rfl dX4_netWithHouse_19 ?_
        refine lv_iload_n hx hb dX4_netWithHouse_22 rfl (lv_at hl 3 rfl) ?_
        refine x_lald F hP k3 (vp_in_nI (n := i) (N := 12) (by omega) (by decide)) dX4_netWithHouse_23 ?_
        refine lv_lconst (v := 0) hx hb dX4_netWithHouse_24 (by decide) ?_
        refine W.lcmp hx hb dX4_netWithHouse_25 ?_
        refine lv_if_le (tgt := 43) hx hb dX4_netWithHouse_26 (by decide) (fun c_39 => ?_) (fun c_39 => ?_)
        · refine lv_aload_n hx hb dX4_netWithHouse_43 rfl (lv_at hl 1 rfl) ?_
          refine lv_iload_n hx hb dX4_netWithHouse_44 rfl (lv_at hl 3 rfl) ?_
          refine x_aald F hP k8 rfl (vp_in_nI (n := i) (N := 12) (by omega) (by decide)) dX4_netWithHouse_45 ?_
          rw [nI_clamp (n := i) (by omega), (fm9 i (by omega)).1]
          refine W.eq (g2 := F0 m _ ls [.ref (tn i)]) rfl ?_
          have k40 := (fm9 i (by omega)).2.1
          have tz41 := (fm9 i (by omega)).2.2
          refine x_get (ref := "NoteHouse$Town") F hP k40 rfl (fun _ h => List.mem_cons_of_mem _ (List.mem_append_left _ (List.mem_append_right _ (h)))) 0 (Nat.le_of_ble_eq_true rfl) (List.mem_cons_of_mem _ (List.mem_append_left _ (List.mem_append_left _ (List.mem_of_getElem? (i := 0) rfl)))) rfl rfl dX4_netWithHouse_46 ?_
          refine lv_iload_n hx hb dX4_netWithHouse_49 rfl (lv_at hl 2 rfl) ?_
          refine lv_icmp_ne (tgt := 79) hx hb dX4_netWithHouse_50 (by decide) (fun c_42 => ?_) (fun c_42 => ?_)
          · refine lv_iinc (v := nI (i + 1)) (lv' := [(3, .int (nI (i + 1))), (0, .ref y), (1, .ref a1), (2, .int cn)]) hx hb dX4_netWithHouse_79 hl (k := 3) rfl (nI_1 i) (by decide) rfl (fun ls hl => ?_)
            refine lv_goto (tgt := 2) hx hb dX4_netWithHouse_82 (by decide) ?_
            exact ih2 (i + 1) gca rea e4a e5a e6a e7a w1 (by omega) (by omega) k2 k3 k4 k5 k6 k7 k8 fm9 kp10 ls (lv_sub hl [1, 2, 3, 0] rfl) H locs hP hD hS
          · refine lv_aload_n hx hb dX4_netWithHouse_53 rfl (lv_at hl 0 rfl) ?_
            refine x_get (ref := "NoteHouse$Settlement") F hP k2 rfl (fun _ h => List.mem_cons_of_mem _ (List.mem_append_right _ (h))) 3 (Nat.le_of_ble_eq_true rfl) (List.mem_cons_of_mem _ (List.mem_append_left _ (List.mem_append_left _ (List.mem_of_getElem? (i := 1) rfl)))) rfl rfl dX4_netWithHouse_54 ?_
            refine lv_iload_n hx hb dX4_netWithHouse_57 rfl (lv_at hl 3 rfl) ?_
            refine x_lald F hP k3 (vp_in_nI (n := i) (N := 12) (by omega) (by decide)) dX4_netWithHouse_58 ?_
            refine lv_lconst (v := 0) hx hb dX4_netWithHouse_59 (by decide) ?_
            refine W.lcmp hx hb dX4_netWithHouse_60 ?_
            refine lv_if_ge (tgt := 79) hx hb dX4_netWithHouse_61 (by decide) (fun c_43 => ?_) (fun c_43 => ?_)
            · refine lv_iinc (v := nI (i + 1)) (lv' := [(3, .int (nI (i + 1))), (0, .ref y), (1, .ref a1), (2, .int cn)]) hx hb dX4_netWithHouse_79 hl (k := 3) rfl (nI_1 i) (by decide) rfl (fun ls hl => ?_)
              refine lv_goto (tgt := 2) hx hb dX4_netWithHouse_82 (by decide) ?_
              exact ih2 (i + 1) gca rea e4a e5a e6a e7a w1 (by omega) (by omega) k2 k3 k4 k5 k6 k7 k8 fm9 kp10 ls (lv_sub hl [1, 2, 3, 0] rfl) H locs hP hD hS
            · refine lv_aload_n hx hb dX4_netWithHouse_64 rfl (lv_at hl 0 rfl) ?_
              refine lv_iload_n hx hb dX4_netWithHouse_65 rfl (lv_at hl 3 rfl) ?_
              refine lv_bipush (v := 12) hx hb dX4_netWithHouse_66 (by decide) ?_
              refine lv_aload_n hx hb dX4_netWithHouse_68 rfl (lv_at hl 0 rfl) ?_
              refine x_get (ref := "NoteHouse$Settlement") F hP k2 rfl (fun _ h => List.mem_cons_of_mem _ (List.mem_append_right _ (h))) 3 (Nat.le_of_ble_eq_true rfl) (List.mem_cons_of_mem _ (List.mem_append_left _ (List.mem_append_left _ (List.mem_of_getElem? (i := 1) rfl)))) rfl rfl dX4_netWithHouse_69 ?_
              refine lv_iload_n hx hb dX4_netWithHouse_72 rfl (lv_at hl 3 rfl) ?_
              refine x_lald F hP k3 (vp_in_nI (n := i) (N := 12) (by omega) (by decide)) dX4_netWithHouse_73 ?_
              refine lv_lneg hx hb dX4_netWithHouse_74 ?_
              refine lv_iload_n hx hb dX4_netWithHouse_75 rfl (lv_at hl 2 rfl) ?_
              refine x_callV (n := 4) (As := [.int (nI i), .int 12, .long (-(rea (nI i).toNatClampNeg)), .int cn]) (rest := []) F hP hD hS (g_addGift l D cy sk sv w1 y l0 l1 l2 l3 l4 l5 l6 l7 gca sz (nI i) 12 cn (-(rea (nI i).toNatClampNeg)) e4a e5a e7a e6a k2 k4 k5 k6 k7 (fun b => b = y ∨ b = l4 ∨ b = l5 ∨ b = l6 ∨ b = l7) (Or.inl rfl) (Or.inr (Or.inl rfl)) (Or.inr (Or.inr (Or.inl rfl))) (Or.inr (Or.inr (Or.inr (Or.inl rfl)))) (Or.inr (Or.inr (Or.inr (Or.inr rfl)))) (by omega) nl4l5 nl4l7 nl5l7) gX4_netWithHouse_X4_addGift rfl rfl (by decide +kernel) ⟨(Nat.le_of_ble_eq_true rfl), (Nat.le_of_ble_eq_true rfl)⟩ rfl hl.1 (Nat.le_of_ble_eq_true rfl) k2 rfl dX4_netWithHouse_76 rfl ⟨(Nat.le_of_ble_eq_true rfl), (Nat.le_of_ble_eq_true rfl)⟩ (fun v45 w46 hp44 H locs hP hD hS => ?_)
              obtain ⟨gcx47, ex48, ex49, ex50, ex51, rfl, hz52, kq58, k53, k54, k55, k56, k57⟩ := hp44
              have k59 := kq58.2 _ _ k3 (fun q9 => Or.elim q9 (wd_nk k3 k2 rfl) (fun q9 => Or.elim q9 (wd_nk k3 k4 rfl) (fun q9 => Or.elim q9 (wd_nk k3 k5 rfl) (fun q9 => Or.elim q9 nl3l6 (fun q9 : l3 = l7 => (wd_nk k3 k7 rfl) q9)))))
              have k60 := kq58.2 _ _ k8 (fun q9 => Or.elim q9 (wd_nk k8 k2 rfl) (fun q9 => Or.elim q9 (wd_nk k8 k4 rfl) (fun q9 => Or.elim q9 (wd_nk k8 k5 rfl) (fun q9 => Or.elim q9 (wd_nk k8 k6 rfl) (fun q9 : a1 = l7 => (wd_nk k8 k7 rfl) q9)))))
              have fm61 : ∀ i9, i9 < 12 → tf i9 = some (tn i9) ∧ wd_at w46 (tn i9) (.inr (8, [.int (co i9), .int (ra i9), .int (se i9), .ref (ag i9)])) ∧ tg (tn i9) = 100 + i9 := fun i9 hi9 => ⟨(fm9 i9 hi9).1, kq58.2 _ _ (fm9 i9 hi9).2.1 (fun q9 => Or.elim q9 (wd_nk (fm9 i9 hi9).2.1 k2 rfl) (fun q9 => Or.elim q9 (wd_nk (fm9 i9 hi9).2.1 k4 rfl) (fun q9 => Or.elim q9 (wd_nk (fm9 i9 hi9).2.1 k5 rfl) (fun q9 => Or.elim q9 (wd_nk (fm9 i9 hi9).2.1 k6 rfl) (wd_nk (fm9 i9 hi9).2.1 k7 rfl))))), (fm9 i9 hi9).2.2⟩
              have kp62 := kp10.tr kq58 (fun b9 hm q9 => (fun q9 => Or.elim q9 (fun q9 => q9 ▸ s90) (fun q9 => Or.elim q9 (fun q9 => q9 ▸ s91) (fun q9 => Or.elim q9 (fun q9 => q9 ▸ s92) (fun q9 => Or.elim q9 (fun q9 => q9 ▸ s93) (fun q9 => q9 ▸ s94))))) q9)
              refine W.eq (g2 := F0 m 79 ls []) rfl (W.widen (k := 0) (n := 0) (Nat.le_of_ble_eq_true rfl) (Nat.le_of_ble_eq_true rfl) ?_)
              refine lv_iinc (v := nI (i + 1)) (lv' := [(3, .int (nI (i + 1))), (0, .ref y), (1, .ref a1), (2, .int cn)]) hx hb dX4_netWithHouse_79 hl (k := 3) rfl (nI_1 i) (by decide) rfl (fun ls hl => ?_)
              refine lv_goto (tgt := 2) hx hb dX4_netWithHouse_82 (by decide) ?_
              exact ih2 (i + 1) gcx47 rea ex48 ex49 ex50 ex51 w46 (by omega) (by omega) k53 k59 k54 k55 k56 k57 k60 fm61 kp62 ls (lv_sub hl [1, 2, 3, 0] rfl) H locs hP hD hS
        · refine lv_aload_n hx hb dX4_netWithHouse_29 rfl (lv_at hl 0 rfl) ?_
          refine lv_bipush (v := 12) hx hb dX4_netWithHouse_30 (by decide) ?_
          refine lv_iload_n hx hb dX4_netWithHouse_32 rfl (lv_at hl 3 rfl) ?_
          refine lv_aload_n hx hb dX4_netWithHouse_33 rfl (lv_at hl 0 rfl) ?_
          refine x_get (ref := "NoteHouse$Settlement") F hP k2 rfl (fun _ h => List.mem_cons_of_mem _ (List.mem_append_right _ (h))) 3 (Nat.le_of_ble_eq_true rfl) (List.mem_cons_of_mem _ (List.mem_append_left _ (List.mem_append_left _ (List.mem_of_getElem? (i := 1) rfl)))) rfl rfl dX4_netWithHouse_34 ?_
          refine lv_iload_n hx hb dX4_netWithHouse_37 rfl (lv_at hl 3 rfl) ?_
          refine x_lald F hP k3 (vp_in_nI (n := i) (N := 12) (by omega) (by decide)) dX4_netWithHouse_38 ?_
          refine lv_iload_n hx hb dX4_netWithHouse_39 rfl (lv_at hl 2 rfl) ?_
          refine x_callV (n := 4) (As := [.int 12, .int (nI i), .long (rea (nI i).toNatClampNeg), .int cn]) (rest := []) F hP hD hS (g_addGift l D cy sk sv w1 y l0 l1 l2 l3 l4 l5 l6 l7 gca sz 12 (nI i) cn (rea (nI i).toNatClampNeg) e4a e5a e7a e6a k2 k4 k5 k6 k7 (fun b => b = y ∨ b = l4 ∨ b = l5 ∨ b = l6 ∨ b = l7) (Or.inl rfl) (Or.inr (Or.inl rfl)) (Or.inr (Or.inr (Or.inl rfl))) (Or.inr (Or.inr (Or.inr (Or.inl rfl)))) (Or.inr (Or.inr (Or.inr (Or.inr rfl)))) (by omega) nl4l5 nl4l7 nl5l7) gX4_netWithHouse_X4_addGift rfl rfl (by decide +kernel) ⟨(Nat.le_of_ble_eq_true rfl), (Nat.le_of_ble_eq_true rfl)⟩ rfl hl.1 (Nat.le_of_ble_eq_true rfl) k2 rfl dX4_netWithHouse_40 rfl ⟨(Nat.le_of_ble_eq_true rfl), (Nat.le_of_ble_eq_true rfl)⟩ (fun v64 w65 hp63 H locs hP hD hS => ?_)
          obtain ⟨gcx66, ex67, ex68, ex69, ex70, rfl, hz71, kq77, k72, k73, k74, k75, k76⟩ := hp63
          have k78 := kq77.2 _ _ k3 (fun q9 => Or.elim q9 (wd_nk k3 k2 rfl) (fun q9 => Or.elim q9 (wd_nk k3 k4 rfl) (fun q9 => Or.elim q9 (wd_nk k3 k5 rfl) (fun q9 => Or.elim q9 nl3l6 (fun q9 : l3 = l7 => (wd_nk k3 k7 rfl) q9)))))
          have k79 := kq77.2 _ _ k8 (fun q9 => Or.elim q9 (wd_nk k8 k2 rfl) (fun q9 => Or.elim q9 (wd_nk k8 k4 rfl) (fun q9 => Or.elim q9 (wd_nk k8 k5 rfl) (fun q9 => Or.elim q9 (wd_nk k8 k6 rfl) (fun q9 : a1 = l7 => (wd_nk k8 k7 rfl) q9)))))
          have fm80 : ∀ i9, i9 < 12 → tf i9 = some (tn i9) ∧ wd_at w65 (tn i9) (.inr (8, [.int (co i9), .int (ra i9), .int (se i9), .ref (ag i9)])) ∧ tg (tn i9) = 100 + i9 := fun i9 hi9 => ⟨(fm9 i9 hi9).1, kq77.2 _ _ (fm9 i9 hi9).2.1 (fun q9 => Or.elim q9 (wd_nk (fm9 i9 hi9).2.1 k2 rfl) (fun q9 => Or.elim q9 (wd_nk (fm9 i9 hi9).2.1 k4 rfl) (fun q9 => Or.elim q9 (wd_nk (fm9 i9 hi9).2.1 k5 rfl) (fun q9 => Or.elim q9 (wd_nk (fm9 i9 hi9).2.1 k6 rfl) (wd_nk (fm9 i9 hi9).2.1 k7 rfl))))), (fm9 i9 hi9).2.2⟩
          have kp81 := kp10.tr kq77 (fun b9 hm q9 => (fun q9 => Or.elim q9 (fun q9 => q9 ▸ s90) (fun q9 => Or.elim q9 (fun q9 => q9 ▸ s91) (fun q9 => Or.elim q9 (fun q9 => q9 ▸ s92) (fun q9 => Or.elim q9 (fun q9 => q9 ▸ s93) (fun q9 => q9 ▸ s94))))) q9)
          refine W.eq (g2 := F0 m 43 ls []) rfl (W.widen (k := 0) (n := 0) (Nat.le_of_ble_eq_true rfl) (Nat.le_of_ble_eq_true rfl) ?_)
          refine lv_aload_n hx hb dX4_netWithHouse_43 rfl (lv_at hl 1 rfl) ?_
          refine lv_iload_n hx hb dX4_netWithHouse_44 rfl (lv_at hl 3 rfl) ?_
          refine x_aald F hP k79 rfl (vp_in_nI (n := i) (N := 12) (by omega) (by decide)) dX4_netWithHouse_45 ?_
          rw [nI_clamp (n := i) (by omega), (fm80 i (by omega)).1]
          refine W.eq (g2 := F0 m _ ls [.ref (tn i)]) rfl ?_
          have k82 := (fm80 i (by omega)).2.1
          have tz83 := (fm80 i (by omega)).2.2
          refine x_get (ref := "NoteHouse$Town") F hP k82 rfl (fun _ h => List.mem_cons_of_mem _ (List.mem_append_left _ (List.mem_append_right _ (h)))) 0 (Nat.le_of_ble_eq_true rfl) (List.mem_cons_of_mem _ (List.mem_append_left _ (List.mem_append_left _ (List.mem_of_getElem? (i := 0) rfl)))) rfl rfl dX4_netWithHouse_46 ?_
          refine lv_iload_n hx hb dX4_netWithHouse_49 rfl (lv_at hl 2 rfl) ?_
          refine lv_icmp_ne (tgt := 79) hx hb dX4_netWithHouse_50 (by decide) (fun c_84 => ?_) (fun c_84 => ?_)
          · refine lv_iinc (v := nI (i + 1)) (lv' := [(3, .int (nI (i + 1))), (0, .ref y), (1, .ref a1), (2, .int cn)]) hx hb dX4_netWithHouse_79 hl (k := 3) rfl (nI_1 i) (by decide) rfl (fun ls hl => ?_)
            refine lv_goto (tgt := 2) hx hb dX4_netWithHouse_82 (by decide) ?_
            exact ih2 (i + 1) gcx66 rea ex67 ex68 ex69 ex70 w65 (by omega) (by omega) k72 k78 k73 k74 k75 k76 k79 fm80 kp81 ls (lv_sub hl [1, 2, 3, 0] rfl) H locs hP hD hS
          · refine lv_aload_n hx hb dX4_netWithHouse_53 rfl (lv_at hl 0 rfl) ?_
            refine x_get (ref := "NoteHouse$Settlement") F hP k72 rfl (fun _ h => List.mem_cons_of_mem _ (List.mem_append_right _ (h))) 3 (Nat.le_of_ble_eq_true rfl) (List.mem_cons_of_mem _ (List.mem_append_left _ (List.mem_append_left _ (List.mem_of_getElem? (i := 1) rfl)))) rfl rfl dX4_netWithHouse_54 ?_
            refine lv_iload_n hx hb dX4_netWithHouse_57 rfl (lv_at hl 3 rfl) ?_
            refine x_lald F hP k78 (vp_in_nI (n := i) (N := 12) (by omega) (by decide)) dX4_netWithHouse_58 ?_
            refine lv_lconst (v := 0) hx hb dX4_netWithHouse_59 (by decide) ?_
            refine W.lcmp hx hb dX4_netWithHouse_60 ?_
            refine lv_if_ge (tgt := 79) hx hb dX4_netWithHouse_61 (by decide) (fun c_85 => ?_) (fun c_85 => ?_)
            · refine lv_iinc (v := nI (i + 1)) (lv' := [(3, .int (nI (i + 1))), (0, .ref y), (1, .ref a1), (2, .int cn)]) hx hb dX4_netWithHouse_79 hl (k := 3) rfl (nI_1 i) (by decide) rfl (fun ls hl => ?_)
              refine lv_goto (tgt := 2) hx hb dX4_netWithHouse_82 (by decide) ?_
              exact ih2 (i + 1) gcx66 rea ex67 ex68 ex69 ex70 w65 (by omega) (by omega) k72 k78 k73 k74 k75 k76 k79 fm80 kp81 ls (lv_sub hl [1, 2, 3, 0] rfl) H locs hP hD hS
            · refine lv_aload_n hx hb dX4_netWithHouse_64 rfl (lv_at hl 0 rfl) ?_
              refine lv_iload_n hx hb dX4_netWithHouse_65 rfl (lv_at hl 3 rfl) ?_
              refine lv_bipush (v := 12) hx hb dX4_netWithHouse_66 (by decide) ?_
              refine lv_aload_n hx hb dX4_netWithHouse_68 rfl (lv_at hl 0 rfl) ?_
              refine x_get (ref := "NoteHouse$Settlement") F hP k72 rfl (fun _ h => List.mem_cons_of_mem _ (List.mem_append_right _ (h))) 3 (Nat.le_of_ble_eq_true rfl) (List.mem_cons_of_mem _ (List.mem_append_left _ (List.mem_append_left _ (List.mem_of_getElem? (i := 1) rfl)))) rfl rfl dX4_netWithHouse_69 ?_
              refine lv_iload_n hx hb dX4_netWithHouse_72 rfl (lv_at hl 3 rfl) ?_
              refine x_lald F hP k78 (vp_in_nI (n := i) (N := 12) (by omega) (by decide)) dX4_netWithHouse_73 ?_
              refine lv_lneg hx hb dX4_netWithHouse_74 ?_
              refine lv_iload_n hx hb dX4_netWithHouse_75 rfl (lv_at hl 2 rfl) ?_
              refine x_callV (n := 4) (As := [.int (nI i), .int 12, .long (-(rea (nI i).toNatClampNeg)), .int cn]) (rest := []) F hP hD hS (g_addGift l D cy sk sv w65 y l0 l1 l2 l3 l4 l5 l6 l7 gcx66 sz (nI i) 12 cn (-(rea (nI i).toNatClampNeg)) ex67 ex68 ex70 ex69 k72 k73 k74 k75 k76 (fun b => b = y ∨ b = l4 ∨ b = l5 ∨ b = l6 ∨ b = l7) (Or.inl rfl) (Or.inr (Or.inl rfl)) (Or.inr (Or.inr (Or.inl rfl))) (Or.inr (Or.inr (Or.inr (Or.inl rfl)))) (Or.inr (Or.inr (Or.inr (Or.inr rfl)))) (by omega) nl4l5 nl4l7 nl5l7) gX4_netWithHouse_X4_addGift rfl rfl (by decide +kernel) ⟨(Nat.le_of_ble_eq_true rfl), (Nat.le_of_ble_eq_true rfl)⟩ rfl hl.1 (Nat.le_of_ble_eq_true rfl) k72 rfl dX4_netWithHouse_76 rfl ⟨(Nat.le_of_ble_eq_true rfl), (Nat.le_of_ble_eq_true rfl)⟩ (fun v87 w88 hp86 H locs hP hD hS => ?_)
              obtain ⟨gcx89, ex90, ex91, ex92, ex93, rfl, hz94, kq100, k95, k96, k97, k98, k99⟩ := hp86
              have k101 := kq100.2 _ _ k78 (fun q9 => Or.elim q9 (wd_nk k78 k72 rfl) (fun q9 => Or.elim q9 (wd_nk k78 k73 rfl) (fun q9 => Or.elim q9 (wd_nk k78 k74 rfl) (fun q9 => Or.elim q9 nl3l6 (fun q9 : l3 = l7 => (wd_nk k78 k76 rfl) q9)))))
              have k102 := kq100.2 _ _ k79 (fun q9 => Or.elim q9 (wd_nk k79 k72 rfl) (fun q9 => Or.elim q9 (wd_nk k79 k73 rfl) (fun q9 => Or.elim q9 (wd_nk k79 k74 rfl) (fun q9 => Or.elim q9 (wd_nk k79 k75 rfl) (fun q9 : a1 = l7 => (wd_nk k79 k76 rfl) q9)))))
              have fm103 : ∀ i9, i9 < 12 → tf i9 = some (tn i9) ∧ wd_at w88 (tn i9) (.inr (8, [.int (co i9), .int (ra i9), .int (se i9), .ref (ag i9)])) ∧ tg (tn i9) = 100 + i9 := fun i9 hi9 => ⟨(fm80 i9 hi9).1, kq100.2 _ _ (fm80 i9 hi9).2.1 (fun q9 => Or.elim q9 (wd_nk (fm80 i9 hi9).2.1 k72 rfl) (fun q9 => Or.elim q9 (wd_nk (fm80 i9 hi9).2.1 k73 rfl) (fun q9 => Or.elim q9 (wd_nk (fm80 i9 hi9).2.1 k74 rfl) (fun q9 => Or.elim q9 (wd_nk (fm80 i9 hi9).2.1 k75 rfl) (wd_nk (fm80 i9 hi9).2.1 k76 rfl))))), (fm80 i9 hi9).2.2⟩
              have kp104 := kp81.tr kq100 (fun b9 hm q9 => (fun q9 => Or.elim q9 (fun q9 => q9 ▸ s90) (fun q9 => Or.elim q9 (fun q9 => q9 ▸ s91) (fun q9 => Or.elim q9 (fun q9 => q9 ▸ s92) (fun q9 => Or.elim q9 (fun q9 => q9 ▸ s93) (fun q9 => q9 ▸ s94))))) q9)
              refine W.eq (g2 := F0 m 79 ls []) rfl (W.widen (k := 0) (n := 0) (Nat.le_of_ble_eq_true rfl) (Nat.le_of_ble_eq_true rfl) ?_)
              refine lv_iinc (v := nI (i + 1)) (lv' := [(3, .int (nI (i + 1))), (0, .ref y), (1, .ref a1), (2, .int cn)]) hx hb dX4_netWithHouse_79 hl (k := 3) rfl (nI_1 i) (by decide) rfl (fun ls hl => ?_)
              refine lv_goto (tgt := 2) hx hb dX4_netWithHouse_82 (by decide) ?_
              exact ih2 (i + 1) gcx89 rea ex90 ex91 ex92 ex93 w88 (by omega) (by omega) k95 k101 k96 k97 k98 k99 k102 fm103 kp104 ls (lv_sub hl [1, 2, 3, 0] rfl) H locs hP hD hS
  exact lp2 _ 0 gc re e4 e5 e6 e7 w (Nat.zero_add 12) (by omega) c90 c91 c92 c93 c94 c95 c96 hT9 kp0 ls (lv_sub hl [1, 2, 3, 0] rfl) H locs hP hD hS
set_option maxHeartbeats 4000000 in
set_option maxRecDepth 100000 in
theorem g_netAll (l : Launch) (D : va_G) (cy : Nat → ClassId) (sk sv : Nat → Nat) (w : Wd) (y l0 l1 l2 l3 l4 l5 l6 l7 : Nat) (a1 gc : Nat) (tg : Nat → Nat) (tf : Nat → Option Nat) (tn ag : Nat → Nat) (co ra se : Nat → Int32) (sz : Int32) (e4 e5 e7 : Nat → Int32) (e6 : Nat → Int64) (re du : Nat → Int64) (c90 : wd_at w y (.inr (4, [.ref l0, .ref l1, .ref l2, .ref l3, .ref l4, .ref l5, .ref l6, .ref l7, .int (nI gc), .int sz]))) (c91 : wd_at w l2 (.inl (cy 3, 12, .inr (.inl du)))) (c92 : wd_at w l3 (.inl (cy 3, 12, .inr (.inl re)))) (c93 : wd_at w l4 (.inl (cy 2, 12, .inl e4))) (c94 : wd_at w l5 (.inl (cy 2, 12, .inl e5))) (c95 : wd_at w l6 (.inl (cy 3, 12, .inr (.inl e6)))) (c96 : wd_at w l7 (.inl (cy 2, 12, .inl e7))) (c97 : wd_at w a1 (.inl (cy 9, 12, .inr (.inr (.inr (.inr tf)))))) (hT9 : ∀ i9, i9 < 12 → tf i9 = some (tn i9) ∧ wd_at w (tn i9) (.inr (8, [.int (co i9), .int (ra i9), .int (se i9), .ref (ag i9)])) ∧ tg (tn i9) = 100 + i9) (S : Nat → Prop) (s90 : S y) (s91 : S l4) (s92 : S l5) (s93 : S l6) (s94 : S l7) (s95 : S l3) (hgc : gc ≤ 12) (nl4l5 : l4 ≠ l5) (nl4l7 : l4 ≠ l7) (nl5l7 : l5 ≠ l7) (nl2l3 : l2 ≠ l3) (nl2l6 : l2 ≠ l6) (nl3l6 : l3 ≠ l6) : Ct l D cy sk sv yX4_netAll wsX4_netAll ({ frames := 2, cells := 0, slots := 0, locals := 52 }) [.ref y, .ref a1] w (fun v w1 => ∃ (gc1 : Nat) (e41 : Nat → Int32) (e51 : Nat → Int32) (e61 : Nat → Int64) (e71 : Nat → Int32) (re1 : Nat → Int64), v = none ∧ (gc1 ≤ 12) ∧ wd_kp S w w1 ∧ wd_at w1 y (.inr (4, [.ref l0, .ref l1, .ref l2, .ref l3, .ref l4, .ref l5, .ref l6, .ref l7, .int (nI gc1), .int sz])) ∧ wd_at w1 l4 (.inl (cy 2, 12, .inl e41)) ∧ wd_at w1 l5 (.inl (cy 2, 12, .inl e51)) ∧ wd_at w1 l6 (.inl (cy 3, 12, .inr (.inl e61))) ∧ wd_at w1 l7 (.inl (cy 2, 12, .inl e71)) ∧ wd_at w1 l3 (.inl (cy 3, 12, .inr (.inl re1)))) := by
  refine Ct.by (cc := cX4_netAll) (maxL := 3) (ret := none) (by decide +kernel) rfl (Nat.le_of_ble_eq_true rfl) ?_
  intro p e s m args below meth c A Q F hnm K ls hl
  have F : wd_Fx p s m args meth c cX4_netAll 3 wsX4_netAll RX4 D cy sk sv A := F
  have hl : lv_has ls 3 [(0, .ref y), (1, .ref a1)] := hl
  have hx := F.1.1
  have hb := F.1.2.1
  have hown := F.1.2.2.2.1
  have hts := F.1.2.2.2.2
  intro H locs hP hD hS
  have kp0 : wd_kp S w w := wd_kp.rf
  refine lv_aload_n hx hb dX4_netAll_0 rfl (lv_at hl 0 rfl) ?_
  refine x_get (ref := "NoteHouse$Settlement") F hP c90 rfl (fun _ h => List.mem_cons_of_mem _ (List.mem_append_left _ (List.mem_append_right _ (h)))) 2 (Nat.le_of_ble_eq_true rfl) (List.mem_cons_of_mem _ (List.mem_append_left _ (List.mem_append_left _ (List.mem_append_left _ (List.mem_of_getElem? (i := 0) rfl))))) rfl rfl dX4_netAll_1 ?_
  refine lv_iconst (v := 0) hx hb dX4_netAll_4 (by decide) ?_
  refine lv_aload_n hx hb dX4_netAll_5 rfl (lv_at hl 0 rfl) ?_
  refine x_get (ref := "NoteHouse$Settlement") F hP c90 rfl (fun _ h => List.mem_cons_of_mem _ (List.mem_append_left _ (List.mem_append_right _ (h)))) 3 (Nat.le_of_ble_eq_true rfl) (List.mem_cons_of_mem _ (List.mem_append_left _ (List.mem_append_left _ (List.mem_append_left _ (List.mem_of_getElem? (i := 1) rfl))))) rfl rfl dX4_netAll_6 ?_
  refine lv_iconst (v := 0) hx hb dX4_netAll_9 (by decide) ?_
  refine lv_bipush (v := 12) hx hb dX4_netAll_10 (by decide) ?_
  refine y_copyl F hP hD hS c91 c92 (List.mem_cons_of_mem _ (List.mem_append_left _ (List.mem_append_left _ (List.mem_append_left _ (List.mem_of_getElem? (i := 2) rfl))))) (List.mem_cons_of_mem _ (List.mem_append_left _ (List.mem_append_left _ (List.mem_append_left _ (List.mem_of_getElem? (i := 3) rfl))))) (List.mem_cons_of_mem _ (List.mem_append_left _ (List.mem_append_left _ (List.mem_append_left _ (List.mem_of_getElem? (i := 4) rfl))))) (List.mem_cons_of_mem _ (List.mem_append_left _ (List.mem_append_left _ (List.mem_append_left _ (List.mem_of_getElem? (i := 5) rfl))))) hl.1 (by decide) (by decide) (by decide) (by decide) (by decide) (Nat.le_of_ble_eq_true rfl) (Nat.le_of_ble_eq_true rfl) dX4_netAll_12 (fun w1 ew2 H locs hP hD hS => ?_)
  have k3 := wd_at.pt ew2 c90 (wd_nk c90 c92 rfl)
  have k4 := wd_at.pt ew2 c91 nl2l3
  have k5 : wd_at w1 l3 (.inl (cy 3, 12, .inr (.inl (va_cpy du re (0 : Int32).toNatClampNeg (0 : Int32).toNatClampNeg (12 : Int32).toNatClampNeg)))) := wd_at.ps ew2 c92
  have k6 := wd_at.pt ew2 c93 (wd_nk c93 c92 rfl)
  have k7 := wd_at.pt ew2 c94 (wd_nk c94 c92 rfl)
  have k8 := wd_at.pt ew2 c95 (Ne.symm nl3l6)
  have k9 := wd_at.pt ew2 c96 (wd_nk c96 c92 rfl)
  have k10 := wd_at.pt ew2 c97 (wd_nk c97 c92 rfl)
  have fm11 : ∀ i9, i9 < 12 → tf i9 = some (tn i9) ∧ wd_at w1 (tn i9) (.inr (8, [.int (co i9), .int (ra i9), .int (se i9), .ref (ag i9)])) ∧ tg (tn i9) = 100 + i9 := fun i9 hi9 => ⟨(hT9 i9 hi9).1, wd_at.pt ew2 (hT9 i9 hi9).2.1 (wd_nk (hT9 i9 hi9).2.1 c92 rfl), (hT9 i9 hi9).2.2⟩
  have kp12 := kp0.put ew2 s95
  refine lv_iconst (v := 0) hx hb dX4_netAll_15 (by decide) ?_
  refine lv_istore_n (lv' := [(2, .int 0), (0, .ref y), (1, .ref a1)]) hx hb dX4_netAll_16 rfl hl (by decide) rfl (fun ls hl => ?_)
  have lp17 : ∀ (N : Nat) (i : Nat) (gca : Nat) (rea : Nat → Int64) (e4a : Nat → Int32) (e5a : Nat → Int32) (e6a : Nat → Int64) (e7a : Nat → Int32) (w13 : Wd), (i + N = 4) → (gca ≤ 12) → (wd_at w13 y (.inr (4, [.ref l0, .ref l1, .ref l2, .ref l3, .ref l4, .ref l5, .ref l6, .ref l7, .int (nI gca), .int sz]))) → (wd_at w13 l2 (.inl (cy 3, 12, .inr (.inl du)))) → (wd_at w13 l3 (.inl (cy 3, 12, .inr (.inl rea)))) → (wd_at w13 l4 (.inl (cy 2, 12, .inl e4a))) → (wd_at w13 l5 (.inl (cy 2, 12, .inl e5a))) → (wd_at w13 l6 (.inl (cy 3, 12, .inr (.inl e6a)))) → (wd_at w13 l7 (.inl (cy 2, 12, .inl e7a))) → (wd_at w13 a1 (.inl (cy 9, 12, .inr (.inr (.inr (.inr tf)))))) → (∀ i9, i9 < 12 → tf i9 = some (tn i9) ∧ wd_at w13 (tn i9) (.inr (8, [.int (co i9), .int (ra i9), .int (se i9), .ref (ag i9)])) ∧ tg (tn i9) = 100 + i9) → (wd_kp S w w13) → ∀ (ls : Array Slot), lv_has ls 3 [(0, .ref y), (1, .ref a1), (2, .int (nI i))] → Wv p l e ({ frames := 2, cells := 0, slots := 0, locals := 52 }) s m args below meth c D A (0) (0) Q w13 (F0 m 17 ls []) := by
    intro N
    induction N with
    | zero =>
      intro i gca rea e4a e5a e6a e7a w13 hN17 hgca k14 k15 k16 k17 k18 k19 k20 k21 fm22 kp23 ls hl H locs hP hD hS
      refine lv_iload_n hx hb dX4_netAll_17 rfl (lv_at hl 2 rfl) ?_
      refine lv_iconst (v := 4) hx hb dX4_netAll_18 (by decide) ?_
      refine lv_icmp_ge (tgt := 40) hx hb dX4_netAll_19 (by decide) (fun c_24 => ?_) (fun c_24 => absurd (nI_le (a := 4) (b := i) (by omega) (by omega)) c_24)
      exact y_vr K hP hD hS (Nat.le_of_ble_eq_true rfl) (Nat.le_of_ble_eq_true rfl) rfl dX4_netAll_40 (⟨gca, e4a, e5a, e6a, e7a, rea, rfl, by omega, kp23, k14, k17, k18, k19, k20, k16⟩)
    | succ N ih17 =>
      intro i gca rea e4a e5a e6a e7a w13 hN17 hgca k14 k15 k16 k17 k18 k19 k20 k21 fm22 kp23 ls hl H locs hP hD hS
      refine lv_iload_n hx hb dX4_netAll_17 rfl (lv_at hl 2 rfl) ?_
      refine lv_iconst (v := 4) hx hb dX4_netAll_18 (by decide) ?_
      refine lv_icmp_ge (tgt := 40) hx hb dX4_netAll_19 (by decide) (fun c_25 => absurd c_25 (nI_ge (a := i) (b := 4) (by omega) (by omega))) (fun c_25 => ?_)
      refine lv_aload_n hx hb dX4_netAll_22 rfl (lv_at hl 0 rfl) ?_
      refine lv_aload_n hx hb dX4_netAll_23 rfl (lv_at hl 1 rfl) ?_
      refine lv_iload_n hx hb dX4_netAll_24 rfl (lv_at hl 2 rfl) ?_
      refine x_callV (n := 2) (As := [.ref a1, .int (nI i)]) (rest := []) F hP hD hS (g_netAmongTowns l D cy sk sv w13 y l0 l1 l2 l3 l4 l5 l6 l7 a1 gca tg tf tn ag co ra se sz (nI i) e4a e5a e7a e6a rea k14 k16 k17 k18 k19 k20 k21 fm22 (fun b => b = y ∨ b = l4 ∨ b = l5 ∨ b = l6 ∨ b = l7 ∨ b = l3) (Or.inl rfl) (Or.inr (Or.inl rfl)) (Or.inr (Or.inr (Or.inl rfl))) (Or.inr (Or.inr (Or.inr (Or.inl rfl)))) (Or.inr (Or.inr (Or.inr (Or.inr (Or.inl rfl))))) (Or.inr (Or.inr (Or.inr (Or.inr (Or.inr rfl))))) (by omega) nl4l5 nl4l7 nl5l7 nl3l6) gX4_netAll_X4_netAmongTowns rfl rfl (by decide +kernel) ⟨(Nat.le_of_ble_eq_true rfl), (Nat.le_of_ble_eq_true rfl)⟩ rfl hl.1 (Nat.le_of_ble_eq_true rfl) k14 rfl dX4_netAll_25 rfl ⟨(Nat.le_of_ble_eq_true rfl), (Nat.le_of_ble_eq_true rfl)⟩ (fun v27 w28 hp26 H locs hP hD hS => ?_)
      obtain ⟨gcx29, ex30, ex31, ex32, ex33, rex34, rfl, hz35, kq42, k36, k37, k38, k39, k40, k41⟩ := hp26
      have k43 := kq42.2 _ _ k15 (fun q9 => Or.elim q9 (wd_nk k15 k14 rfl) (fun q9 => Or.elim q9 (wd_nk k15 k17 rfl) (fun q9 => Or.elim q9 (wd_nk k15 k18 rfl) (fun q9 => Or.elim q9 nl2l6 (fun q9 => Or.elim q9 (wd_nk k15 k20 rfl) (fun q9 : l2 = l3 => nl2l3 q9))))))
      have k44 := kq42.2 _ _ k21 (fun q9 => Or.elim q9 (wd_nk k21 k14 rfl) (fun q9 => Or.elim q9 (wd_nk k21 k17 rfl) (fun q9 => Or.elim q9 (wd_nk k21 k18 rfl) (fun q9 => Or.elim q9 (wd_nk k21 k19 rfl) (fun q9 => Or.elim q9 (wd_nk k21 k20 rfl) (fun q9 : a1 = l3 => (wd_nk k21 k16 rfl) q9))))))
      have fm45 : ∀ i9, i9 < 12 → tf i9 = some (tn i9) ∧ wd_at w28 (tn i9) (.inr (8, [.int (co i9), .int (ra i9), .int (se i9), .ref (ag i9)])) ∧ tg (tn i9) = 100 + i9 := fun i9 hi9 => ⟨(fm22 i9 hi9).1, kq42.2 _ _ (fm22 i9 hi9).2.1 (fun q9 => Or.elim q9 (wd_nk (fm22 i9 hi9).2.1 k14 rfl) (fun q9 => Or.elim q9 (wd_nk (fm22 i9 hi9).2.1 k17 rfl) (fun q9 => Or.elim q9 (wd_nk (fm22 i9 hi9).2.1 k18 rfl) (fun q9 => Or.elim q9 (wd_nk (fm22 i9 hi9).2.1 k19 rfl) (fun q9 => Or.elim q9 (wd_nk (fm22 i9 hi9).2.1 k20 rfl) (wd_nk (fm22 i9 hi9).2.1 k16 rfl)))))), (fm22 i9 hi9).2.2⟩
      have kp46 := kp23.tr kq42 (fun b9 hm q9 => (fun q9 => Or.elim q9 (fun q9 => q9 ▸ s90) (fun q9 => Or.elim q9 (fun q9 => q9 ▸ s91) (fun q9 => Or.elim q9 (fun q9 => q9 ▸ s92) (fun q9 => Or.elim q9 (fun q9 => q9 ▸ s93) (fun q9 => Or.elim q9 (fun q9 => q9 ▸ s94) (fun q9 => q9 ▸ s95)))))) q9)
      refine W.eq (g2 := F0 m 28 ls []) rfl (W.widen (k := 0) (n := 0) (Nat.le_of_ble_eq_true rfl) (Nat.le_of_ble_eq_true rfl) ?_)
      refine lv_aload_n hx hb dX4_netAll_28 rfl (lv_at hl 0 rfl) ?_
      refine lv_aload_n hx hb dX4_netAll_29 rfl (lv_at hl 1 rfl) ?_
      refine lv_iload_n hx hb dX4_netAll_30 rfl (lv_at hl 2 rfl) ?_
      refine x_callV (n := 2) (As := [.ref a1, .int (nI i)]) (rest := []) F hP hD hS (g_netWithHouse l D cy sk sv w28 y l0 l1 l2 l3 l4 l5 l6 l7 a1 gcx29 tg tf tn ag co ra se sz (nI i) ex30 ex31 ex33 ex32 rex34 k36 k41 k37 k38 k39 k40 k44 fm45 (fun b => b = y ∨ b = l4 ∨ b = l5 ∨ b = l6 ∨ b = l7 ∨ b = l3) (Or.inl rfl) (Or.inr (Or.inl rfl)) (Or.inr (Or.inr (Or.inl rfl))) (Or.inr (Or.inr (Or.inr (Or.inl rfl)))) (Or.inr (Or.inr (Or.inr (Or.inr (Or.inl rfl))))) (Or.inr (Or.inr (Or.inr (Or.inr (Or.inr rfl))))) (by omega) nl4l5 nl4l7 nl5l7 nl3l6) gX4_netAll_X4_netWithHouse rfl rfl (by decide +kernel) ⟨(Nat.le_of_ble_eq_true rfl), (Nat.le_of_ble_eq_true rfl)⟩ rfl hl.1 (Nat.le_of_ble_eq_true rfl) k36 rfl dX4_netAll_31 rfl ⟨(Nat.le_of_ble_eq_true rfl), (Nat.le_of_ble_eq_true rfl)⟩ (fun v48 w49 hp47 H locs hP hD hS => ?_)
      obtain ⟨gcx50, ex51, ex52, ex53, ex54, rex55, rfl, hz56, kq63, k57, k58, k59, k60, k61, k62⟩ := hp47
      have k64 := kq63.2 _ _ k43 (fun q9 => Or.elim q9 (wd_nk k43 k36 rfl) (fun q9 => Or.elim q9 (wd_nk k43 k37 rfl) (fun q9 => Or.elim q9 (wd_nk k43 k38 rfl) (fun q9 => Or.elim q9 nl2l6 (fun q9 => Or.elim q9 (wd_nk k43 k40 rfl) (fun q9 : l2 = l3 => nl2l3 q9))))))
      have k65 := kq63.2 _ _ k44 (fun q9 => Or.elim q9 (wd_nk k44 k36 rfl) (fun q9 => Or.elim q9 (wd_nk k44 k37 rfl) (fun q9 => Or.elim q9 (wd_nk k44 k38 rfl) (fun q9 => Or.elim q9 (wd_nk k44 k39 rfl) (fun q9 => Or.elim q9 (wd_nk k44 k40 rfl) (fun q9 : a1 = l3 => (wd_nk k44 k41 rfl) q9))))))
      have fm66 : ∀ i9, i9 < 12 → tf i9 = some (tn i9) ∧ wd_at w49 (tn i9) (.inr (8, [.int (co i9), .int (ra i9), .int (se i9), .ref (ag i9)])) ∧ tg (tn i9) = 100 + i9 := fun i9 hi9 => ⟨(fm45 i9 hi9).1, kq63.2 _ _ (fm45 i9 hi9).2.1 (fun q9 => Or.elim q9 (wd_nk (fm45 i9 hi9).2.1 k36 rfl) (fun q9 => Or.elim q9 (wd_nk (fm45 i9 hi9).2.1 k37 rfl) (fun q9 => Or.elim q9 (wd_nk (fm45 i9 hi9).2.1 k38 rfl) (fun q9 => Or.elim q9 (wd_nk (fm45 i9 hi9).2.1 k39 rfl) (fun q9 => Or.elim q9 (wd_nk (fm45 i9 hi9).2.1 k40 rfl) (wd_nk (fm45 i9 hi9).2.1 k41 rfl)))))), (fm45 i9 hi9).2.2⟩
      have kp67 := kp46.tr kq63 (fun b9 hm q9 => (fun q9 => Or.elim q9 (fun q9 => q9 ▸ s90) (fun q9 => Or.elim q9 (fun q9 => q9 ▸ s91) (fun q9 => Or.elim q9 (fun q9 => q9 ▸ s92) (fun q9 => Or.elim q9 (fun q9 => q9 ▸ s93) (fun q9 => Or.elim q9 (fun q9 => q9 ▸ s94) (fun q9 => q9 ▸ s95)))))) q9)
      refine W.eq (g2 := F0 m 34 ls []) rfl (W.widen (k := 0) (n := 0) (Nat.le_of_ble_eq_true rfl) (Nat.le_of_ble_eq_true rfl) ?_)
      refine lv_iinc (v := nI (i + 1)) (lv' := [(2, .int (nI (i + 1))), (0, .ref y), (1, .ref a1)]) hx hb dX4_netAll_34 hl (k := 2) rfl (nI_1 i) (by decide) rfl (fun ls hl => ?_)
      refine lv_goto (tgt := 17) hx hb dX4_netAll_37 (by decide) ?_
      exact ih17 (i + 1) gcx50 rex55 ex51 ex52 ex53 ex54 w49 (by omega) (by omega) k57 k64 k62 k58 k59 k60 k61 k65 fm66 kp67 ls (lv_sub hl [1, 2, 0] rfl) H locs hP hD hS
  exact lp17 _ 0 gc (va_cpy du re (0 : Int32).toNatClampNeg (0 : Int32).toNatClampNeg (12 : Int32).toNatClampNeg) e4 e5 e6 e7 w1 (Nat.zero_add 4) (by omega) k3 k4 k5 k6 k7 k8 k9 k10 fm11 kp12 ls (lv_sub hl [1, 2, 0] rfl) H locs hP hD hS
