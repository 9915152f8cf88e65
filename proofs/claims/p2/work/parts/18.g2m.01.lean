set_option maxHeartbeats 4000000 in
set_option maxRecDepth 100000 in
theorem m_put (l : Launch) (D : va_G) (cy : Nat → ClassId) (sk sv : Nat → Nat) (w : Wd) (tg : Nat → Nat) (y m2 m3 m4 m5 m6 m8 m9 m10 m11 m12 m13 m14 m17 m18 m19 m20 m21 m22 m23 m24 m29 m30 m31 m32 m33 m34 m35 m36 m37 m39 m40 m41 m42 m43 m44 m45 m46 m47 m48 m49 m51 m52 m53 m54 m56 m57 m58 m59 pc ac sc ln sh gf : Nat) (v0 td v26 v27 v28 v50 : Int32) (f24 : Nat → Int32) (x0 : Int32) (c90 : wd_at w y (.inr (11, [.int v0, .int td, .ref m2, .ref m3, .ref m4, .ref m5, .ref m6, .int (nI pc), .ref m8, .ref m9, .ref m10, .ref m11, .ref m12, .ref m13, .ref m14, .int (nI ac), .int (nI sc), .ref m17, .ref m18, .ref m19, .ref m20, .ref m21, .ref m22, .ref m23, .ref m24, .int (nI ln), .int v26, .int v27, .int v28, .ref m29, .ref m30, .ref m31, .ref m32, .ref m33, .ref m34, .ref m35, .ref m36, .ref m37, .int (nI sh), .ref m39, .ref m40, .ref m41, .ref m42, .ref m43, .ref m44, .ref m45, .ref m46, .ref m47, .ref m48, .ref m49, .int v50, .ref m51, .ref m52, .ref m53, .ref m54, .int (nI gf), .ref m56, .ref m57, .ref m58, .ref m59]))) (c91 : wd_at w m24 (.inl (cy 0, 300, .inl f24)))  (S : Nat → Prop) (s90 : S y) (s91 : S m24) (ty : tg y = 10000) (tm24 : tg m24 = 10124) (hln : ln + 4 ≤ 300) : Ct l D cy sk sv yX11_put wsX11_put ({ frames := 0, cells := 0, slots := 0, locals := 0 }) [.ref y, .int x0] w (fun v w1 => ∃ (g24 : Nat → Int32), v = none ∧ wd_kp S w w1 ∧ wd_at w1 y (.inr (11, [.int v0, .int td, .ref m2, .ref m3, .ref m4, .ref m5, .ref m6, .int (nI pc), .ref m8, .ref m9, .ref m10, .ref m11, .ref m12, .ref m13, .ref m14, .int (nI ac), .int (nI sc), .ref m17, .ref m18, .ref m19, .ref m20, .ref m21, .ref m22, .ref m23, .ref m24, .int (nI (ln + 4)), .int v26, .int v27, .int v28, .ref m29, .ref m30, .ref m31, .ref m32, .ref m33, .ref m34, .ref m35, .ref m36, .ref m37, .int (nI sh), .ref m39, .ref m40, .ref m41, .ref m42, .ref m43, .ref m44, .ref m45, .ref m46, .ref m47, .ref m48, .ref m49, .int v50, .ref m51, .ref m52, .ref m53, .ref m54, .int (nI gf), .ref m56, .ref m57, .ref m58, .ref m59])) ∧ wd_at w1 m24 (.inl (cy 0, 300, .inl g24))) := by
  refine Ct.by (cc := cX11_put) (maxL := 3) (ret := none) (by decide +kernel) rfl (Nat.le_of_ble_eq_true rfl) ?_
  intro p e s m args below meth c A Q F hnm K ls hl
  have F : wd_Fx p s m args meth c cX11_put 3 wsX11_put RX11 D cy sk sv A := F
  have hl : lv_has ls 3 [(0, .ref y), (1, .int x0)] := hl
  have hx := F.1.1
  have hb := F.1.2.1
  have hown := F.1.2.2.2.1
  have hts := F.1.2.2.2.2
  intro H locs hP hD hS
  have kp0 : wd_kp S w w := wd_kp.rf
  refine lv_bipush (v := 24) hx hb dX11_put_0 (by decide) ?_
  refine lv_istore_n (lv' := [(2, .int 24), (0, .ref y), (1, .int x0)]) hx hb dX11_put_2 rfl hl (by decide) rfl (fun ls hl => ?_)
  refine lv_iload_n hx hb dX11_put_3 rfl (lv_at hl 0 rfl) ?_
  refine lv_if_lt (tgt := 36) hx hb dX11_put_4 (by decide) (fun c_1 => absurd c_1 (show ¬ (24 : Int32) < (0 : Int32) by decide)) (fun c_1 => ?_)
  refine lv_aload_n hx hb dX11_put_7 rfl (lv_at hl 1 rfl) ?_
  refine x_get (ref := "NoteHouseModel") F hP c90 rfl (fun _ h => List.mem_cons_of_mem _ (List.mem_append_right _ (h))) 24 (Nat.le_of_ble_eq_true rfl) (List.mem_cons_of_mem _ (List.mem_append_left _ (List.mem_of_getElem? (i := 0) rfl))) rfl rfl dX11_put_8 ?_
  refine lv_aload_n hx hb dX11_put_11 rfl (lv_at hl 1 rfl) ?_
  refine x_get (ref := "NoteHouseModel") F hP c90 rfl (fun _ h => List.mem_cons_of_mem _ (List.mem_append_right _ (h))) 25 (Nat.le_of_ble_eq_true rfl) (List.mem_cons_of_mem _ (List.mem_append_left _ (List.mem_of_getElem? (i := 1) rfl))) rfl rfl dX11_put_12 ?_
  refine lv_iload_n hx hb dX11_put_15 rfl (lv_at hl 2 rfl) ?_
  refine lv_iload_n hx hb dX11_put_16 rfl (lv_at hl 0 rfl) ?_
  refine lv_ishr hx hb dX11_put_17 ?_
  refine lv_i2b (v := (x0 >>> (24 &&& 31)).toInt8.toInt32) hx hb dX11_put_18 (rfl) ?_
  refine y_bast F hP hD hS c91 (vp_in_nI (n := ln) (N := 300) (by omega) (by decide)) dX11_put_19 (fun w2 ew3 H locs hP hD hS => ?_)
  have k4 := wd_at.pt ew3 c90 (tg_ne ty tm24 (by decide))
  have k5 : wd_at w2 m24 (.inl (cy 0, 300, .inl (upd f24 (nI ln).toNatClampNeg (vp_nar .byte ((x0 >>> (24 &&& 31)).toInt8.toInt32))))) := wd_at.ps ew3 c91
  have kp6 := kp0.put ew3 s91
  refine lv_aload_n hx hb dX11_put_20 rfl (lv_at hl 1 rfl) ?_
  refine lv_dup hx hb dX11_put_21 rfl ?_
  refine x_get (ref := "NoteHouseModel") F hP k4 rfl (fun _ h => List.mem_cons_of_mem _ (List.mem_append_right _ (h))) 25 (Nat.le_of_ble_eq_true rfl) (List.mem_cons_of_mem _ (List.mem_append_left _ (List.mem_of_getElem? (i := 1) rfl))) rfl rfl dX11_put_22 ?_
  refine lv_iconst (v := 1) hx hb dX11_put_25 (by decide) ?_
  refine lv_iadd hx hb dX11_put_26 ?_
  rw [show ((nI ln) + 1 : Int32) = nI (ln + 1) from nI_1 ln]
  refine y_put (ref := "NoteHouseModel") F hP hD hS k4 rfl (fun _ h => List.mem_cons_of_mem _ (List.mem_append_right _ (h))) tyX11_ok nmX11 25 (Nat.le_of_ble_eq_true rfl) (List.mem_cons_of_mem _ (List.mem_append_left _ (List.mem_of_getElem? (i := 1) rfl))) rfl rfl rfl rfl (Nat.le_of_ble_eq_true rfl) dX11_put_27 (fun w7 ew8 H locs hP hD hS => ?_)
  have k9 : wd_at w7 y (.inr (11, [.int v0, .int td, .ref m2, .ref m3, .ref m4, .ref m5, .ref m6, .int (nI pc), .ref m8, .ref m9, .ref m10, .ref m11, .ref m12, .ref m13, .ref m14, .int (nI ac), .int (nI sc), .ref m17, .ref m18, .ref m19, .ref m20, .ref m21, .ref m22, .ref m23, .ref m24, .int (nI (ln + 1)), .int v26, .int v27, .int v28, .ref m29, .ref m30, .ref m31, .ref m32, .ref m33, .ref m34, .ref m35, .ref m36, .ref m37, .int (nI sh), .ref m39, .ref m40, .ref m41, .ref m42, .ref m43, .ref m44, .ref m45, .ref m46, .ref m47, .ref m48, .ref m49, .int v50, .ref m51, .ref m52, .ref m53, .ref m54, .int (nI gf), .ref m56, .ref m57, .ref m58, .ref m59])) := wd_at.ps ew8 k4
  have k10 := wd_at.pt ew8 k5 (tg_ne tm24 ty (by decide))
  have kp11 := kp6.put ew8 s90
  refine lv_iinc (v := 16) (lv' := [(2, .int 16), (0, .ref y), (1, .int x0)]) hx hb dX11_put_30 hl (k := 0) rfl (by decide) (by decide) rfl (fun ls hl => ?_)
  refine lv_goto (tgt := 3) hx hb dX11_put_33 (by decide) ?_
  refine lv_iload_n hx hb dX11_put_3 rfl (lv_at hl 0 rfl) ?_
  refine lv_if_lt (tgt := 36) hx hb dX11_put_4 (by decide) (fun c_12 => absurd c_12 (show ¬ (16 : Int32) < (0 : Int32) by decide)) (fun c_12 => ?_)
  refine lv_aload_n hx hb dX11_put_7 rfl (lv_at hl 1 rfl) ?_
  refine x_get (ref := "NoteHouseModel") F hP k9 rfl (fun _ h => List.mem_cons_of_mem _ (List.mem_append_right _ (h))) 24 (Nat.le_of_ble_eq_true rfl) (List.mem_cons_of_mem _ (List.mem_append_left _ (List.mem_of_getElem? (i := 0) rfl))) rfl rfl dX11_put_8 ?_
  refine lv_aload_n hx hb dX11_put_11 rfl (lv_at hl 1 rfl) ?_
  refine x_get (ref := "NoteHouseModel") F hP k9 rfl (fun _ h => List.mem_cons_of_mem _ (List.mem_append_right _ (h))) 25 (Nat.le_of_ble_eq_true rfl) (List.mem_cons_of_mem _ (List.mem_append_left _ (List.mem_of_getElem? (i := 1) rfl))) rfl rfl dX11_put_12 ?_
  refine lv_iload_n hx hb dX11_put_15 rfl (lv_at hl 2 rfl) ?_
  refine lv_iload_n hx hb dX11_put_16 rfl (lv_at hl 0 rfl) ?_
  refine lv_ishr hx hb dX11_put_17 ?_
  refine lv_i2b (v := (x0 >>> (16 &&& 31)).toInt8.toInt32) hx hb dX11_put_18 (rfl) ?_
  refine y_bast F hP hD hS k10 (vp_in_nI (n := (ln + 1)) (N := 300) (by omega) (by decide)) dX11_put_19 (fun w13 ew14 H locs hP hD hS => ?_)
  have k15 := wd_at.pt ew14 k9 (tg_ne ty tm24 (by decide))
  have k16 : wd_at w13 m24 (.inl (cy 0, 300, .inl (upd (upd f24 (nI ln).toNatClampNeg (vp_nar .byte ((x0 >>> (24 &&& 31)).toInt8.toInt32))) (nI (ln + 1)).toNatClampNeg (vp_nar .byte ((x0 >>> (16 &&& 31)).toInt8.toInt32))))) := wd_at.ps ew14 k10
  have kp17 := kp11.put ew14 s91
  refine lv_aload_n hx hb dX11_put_20 rfl (lv_at hl 1 rfl) ?_
  refine lv_dup hx hb dX11_put_21 rfl ?_
  refine x_get (ref := "NoteHouseModel") F hP k15 rfl (fun _ h => List.mem_cons_of_mem _ (List.mem_append_right _ (h))) 25 (Nat.le_of_ble_eq_true rfl) (List.mem_cons_of_mem _ (List.mem_append_left _ (List.mem_of_getElem? (i := 1) rfl))) rfl rfl dX11_put_22 ?_
  refine lv_iconst (v := 1) hx hb dX11_put_25 (by decide) ?_
  refine lv_iadd hx hb dX11_put_26 ?_
  rw [show ((nI (ln + 1)) + 1 : Int32) = nI (ln + 2) from nI_1 (ln + 1)]
  refine y_put (ref := "NoteHouseModel") F hP hD hS k15 rfl (fun _ h => List.mem_cons_of_mem _ (List.mem_append_right _ (h))) tyX11_ok nmX11 25 (Nat.le_of_ble_eq_true rfl) (List.mem_cons_of_mem _ (List.mem_append_left _ (List.mem_of_getElem? (i := 1) rfl))) rfl rfl rfl rfl (Nat.le_of_ble_eq_true rfl) dX11_put_27 (fun w18 ew19 H locs hP hD hS => ?_)
  have k20 : wd_at w18 y (.inr (11, [.int v0, .int td, .ref m2, .ref m3, .ref m4, .ref m5, .ref m6, .int (nI pc), .ref m8, .ref m9, .ref m10, .ref m11, .ref m12, .ref m13, .ref m14, .int (nI ac), .int (nI sc), .ref m17, .ref m18, .ref m19, .ref m20, .ref m21, .ref m22, .ref m23, .ref m24, .int (nI (ln + 2)), .int v26, .int v27, .int v28, .ref m29, .ref m30, .ref m31, .ref m32, .ref m33, .ref m34, .ref m35, .ref m36, .ref m37, .int (nI sh), .ref m39, .ref m40, .ref m41, .ref m42, .ref m43, .ref m44, .ref m45, .ref m46, .ref m47, .ref m48, .ref m49, .int v50, .ref m51, .ref m52, .ref m53, .ref m54, .int (nI gf), .ref m56, .ref m57, .ref m58, .ref m59])) := wd_at.ps ew19 k15
  have k21 := wd_at.pt ew19 k16 (tg_ne tm24 ty (by decide))
  have kp22 := kp17.put ew19 s90
  refine lv_iinc (v := 8) (lv' := [(2, .int 8), (0, .ref y), (1, .int x0)]) hx hb dX11_put_30 hl (k := 0) rfl (by decide) (by decide) rfl (fun ls hl => ?_)
  refine lv_goto (tgt := 3) hx hb dX11_put_33 (by decide) ?_
  refine lv_iload_n hx hb dX11_put_3 rfl (lv_at hl 0 rfl) ?_
  refine lv_if_lt (tgt := 36) hx hb dX11_put_4 (by decide) (fun c_23 => absurd c_23 (show ¬ (8 : Int32) < (0 : Int32) by decide)) (fun c_23 => ?_)
  refine lv_aload_n hx hb dX11_put_7 rfl (lv_at hl 1 rfl) ?_
  refine x_get (ref := "NoteHouseModel") F hP k20 rfl (fun _ h => List.mem_cons_of_mem _ (List.mem_append_right _ (h))) 24 (Nat.le_of_ble_eq_true rfl) (List.mem_cons_of_mem _ (List.mem_append_left _ (List.mem_of_getElem? (i := 0) rfl))) rfl rfl dX11_put_8 ?_
  refine lv_aload_n hx hb dX11_put_11 rfl (lv_at hl 1 rfl) ?_
  refine x_get (ref := "NoteHouseModel") F hP k20 rfl (fun _ h => List.mem_cons_of_mem _ (List.mem_append_right _ (h))) 25 (Nat.le_of_ble_eq_true rfl) (List.mem_cons_of_mem _ (List.mem_append_left _ (List.mem_of_getElem? (i := 1) rfl))) rfl rfl dX11_put_12 ?_
  refine lv_iload_n hx hb dX11_put_15 rfl (lv_at hl 2 rfl) ?_
  refine lv_iload_n hx hb dX11_put_16 rfl (lv_at hl 0 rfl) ?_
  refine lv_ishr hx hb dX11_put_17 ?_
  refine lv_i2b (v := (x0 >>> (8 &&& 31)).toInt8.toInt32) hx hb dX11_put_18 (rfl) ?_
  refine y_bast F hP hD hS k21 (vp_in_nI (n := (ln + 2)) (N := 300) (by omega) (by decide)) dX11_put_19 (fun w24 ew25 H locs hP hD hS => ?_)
  have k26 := wd_at.pt ew25 k20 (tg_ne ty tm24 (by decide))
  have k27 : wd_at w24 m24 (.inl (cy 0, 300, .inl (upd (upd (upd f24 (nI ln).toNatClampNeg (vp_nar .byte ((x0 >>> (24 &&& 31)).toInt8.toInt32))) (nI (ln + 1)).toNatClampNeg (vp_nar .byte ((x0 >>> (16 &&& 31)).toInt8.toInt32))) (nI (ln + 2)).toNatClampNeg (vp_nar .byte ((x0 >>> (8 &&& 31)).toInt8.toInt32))))) := wd_at.ps ew25 k21
  have kp28 := kp22.put ew25 s91
  refine lv_aload_n hx hb dX11_put_20 rfl (lv_at hl 1 rfl) ?_
  refine lv_dup hx hb dX11_put_21 rfl ?_
  refine x_get (ref := "NoteHouseModel") F hP k26 rfl (fun _ h => List.mem_cons_of_mem _ (List.mem_append_right _ (h))) 25 (Nat.le_of_ble_eq_true rfl) (List.mem_cons_of_mem _ (List.mem_append_left _ (List.mem_of_getElem? (i := 1) rfl))) rfl rfl dX11_put_22 ?_
  refine lv_iconst (v := 1) hx hb dX11_put_25 (by decide) ?_
  refine lv_iadd hx hb dX11_put_26 ?_
  rw [show ((nI (ln + 2)) + 1 : Int32) = nI (ln + 3) from nI_1 (ln + 2)]
  refine y_put (ref := "NoteHouseModel") F hP hD hS k26 rfl (fun _ h => List.mem_cons_of_mem _ (List.mem_append_right _ (h))) tyX11_ok nmX11 25 (Nat.le_of_ble_eq_true rfl) (List.mem_cons_of_mem _ (List.mem_append_left _ (List.mem_of_getElem? (i := 1) rfl))) rfl rfl rfl rfl (Nat.le_of_ble_eq_true rfl) dX11_put_27 (fun w29 ew30 H locs hP hD hS => ?_)
  have k31 : wd_at w29 y (.inr (11, [.int v0, .int td, .ref m2, .ref m3, .ref m4, .ref m5, .ref m6, .int (nI pc), .ref m8, .ref m9, .ref m10, .ref m11, .ref m12, .ref m13, .ref m14, .int (nI ac), .int (nI sc), .ref m17, .ref m18, .ref m19, .ref m20, .ref m21, .ref m22, .ref m23, .ref m24, .int (nI (ln + 3)), .int v26, .int v27, .int v28, .ref m29, .ref m30, .ref m31, .ref m32, .ref m33, .ref m34, .ref m35, .ref m36, .ref m37, .int (nI sh), .ref m39, .ref m40, .ref m41, .ref m42, .ref m43, .ref m44, .ref m45, .ref m46, .ref m47, .ref m48, .ref m49, .int v50, .ref m51, .ref m52, .ref m53, .ref m54, .int (nI gf), .ref m56, .ref m57, .ref m58, .ref m59])) := wd_at.ps ew30 k26
  have k32 := wd_at.pt ew30 k27 (tg_ne tm24 ty (by decide))
  have kp33 := kp28.put ew30 s90
  refine lv_iinc (v := 0) (lv' := [(2, .int 0), (0, .ref y), (1, .int x0)]) hx hb dX11_put_30 hl (k := 0) rfl (by decide) (by decide) rfl (fun ls hl => ?_)
  refine lv_goto (tgt := 3) hx hb dX11_put_33 (by decide) ?_
  refine lv_iload_n hx hb dX11_put_3 rfl (lv_at hl 0 rfl) ?_
  refine lv_if_lt (tgt := 36) hx hb dX11_put_4 (by decide) (fun c_34 => absurd c_34 (show ¬ (0 : Int32) < (0 : Int32) by decide)) (fun c_34 => ?_)
  refine lv_aload_n hx hb dX11_put_7 rfl (lv_at hl 1 rfl) ?_
  refine x_get (ref := "NoteHouseModel") F hP k31 rfl (fun _ h => List.mem_cons_of_mem _ (List.mem_append_right _ (h))) 24 (Nat.le_of_ble_eq_true rfl) (List.mem_cons_of_mem _ (List.mem_append_left _ (List.mem_of_getElem? (i := 0) rfl))) rfl rfl dX11_put_8 ?_
  refine lv_aload_n hx hb dX11_put_11 rfl (lv_at hl 1 rfl) ?_
  refine x_get (ref := "NoteHouseModel") F hP k31 rfl (fun _ h => List.mem_cons_of_mem _ (List.mem_append_right _ (h))) 25 (Nat.le_of_ble_eq_true rfl) (List.mem_cons_of_mem _ (List.mem_append_left _ (List.mem_of_getElem? (i := 1) rfl))) rfl rfl dX11_put_12 ?_
  refine lv_iload_n hx hb dX11_put_15 rfl (lv_at hl 2 rfl) ?_
  refine lv_iload_n hx hb dX11_put_16 rfl (lv_at hl 0 rfl) ?_
  refine lv_ishr hx hb dX11_put_17 ?_
  refine lv_i2b (v := (x0 >>> (0 &&& 31)).toInt8.toInt32) hx hb dX11_put_18 (rfl) ?_
  refine y_bast F hP hD hS k32 (vp_in_nI (n := (ln + 3)) (N := 300) (by omega) (by decide)) dX11_put_19 (fun w35 ew36 H locs hP hD hS => ?_)
  have k37 := wd_at.pt ew36 k31 (tg_ne ty tm24 (by decide))
  have k38 : wd_at w35 m24 (.inl (cy 0, 300, .inl (upd (upd (upd (upd f24 (nI ln).toNatClampNeg (vp_nar .byte ((x0 >>> (24 &&& 31)).toInt8.toInt32))) (nI (ln + 1)).toNatClampNeg (vp_nar .byte ((x0 >>> (16 &&& 31)).toInt8.toInt32))) (nI (ln + 2)).toNatClampNeg (vp_nar .byte ((x0 >>> (8 &&& 31)).toInt8.toInt32))) (nI (ln + 3)).toNatClampNeg (vp_nar .byte ((x0 >>> (0 &&& 31)).toInt8.toInt32))))) := wd_at.ps ew36 k32
  have kp39 := kp33.put ew36 s91
  refine lv_aload_n hx hb dX11_put_20 rfl (lv_at hl 1 rfl) ?_
  refine lv_dup hx hb dX11_put_21 rfl ?_
  refine x_get (ref := "NoteHouseModel") F hP k37 rfl (fun _ h => List.mem_cons_of_mem _ (List.mem_append_right _ (h))) 25 (Nat.le_of_ble_eq_true rfl) (List.mem_cons_of_mem _ (List.mem_append_left _ (List.mem_of_getElem? (i := 1) rfl))) rfl rfl dX11_put_22 ?_
  refine lv_iconst (v := 1) hx hb dX11_put_25 (by decide) ?_
  refine lv_iadd hx hb dX11_put_26 ?_
  rw [show ((nI (ln + 3)) + 1 : Int32) = nI (ln + 4) from nI_1 (ln + 3)]
  refine y_put (ref := "NoteHouseModel") F hP hD hS k37 rfl (fun _ h => List.mem_cons_of_mem _ (List.mem_append_right _ (h))) tyX11_ok nmX11 25 (Nat.le_of_ble_eq_true rfl) (List.mem_cons_of_mem _ (List.mem_append_left _ (List.mem_of_getElem? (i := 1) rfl))) rfl rfl rfl rfl (Nat.le_of_ble_eq_true rfl) dX11_put_27 (fun w40 ew41 H locs hP hD hS => ?_)
  have k42 : wd_at w40 y (.inr (11, [.int v0, .int td, .ref m2, .ref m3, .ref m4, .ref m5, .ref m6, .int (nI pc), .ref m8, .ref m9, .ref m10, .ref m11, .ref m12, .ref m13, .ref m14, .int (nI ac), .int (nI sc), .ref m17, .ref m18, .ref m19, .ref m20, .ref m21, .ref m22, .ref m23, .ref m24, .int (nI (ln + 4)), .int v26, .int v27, .int v28, .ref m29, .ref m30, .ref m31, .ref m32, .ref m33, .ref m34, .ref m35, .ref m36, .ref m37, .int (nI sh), .ref m39, .ref m40, .ref m41, .ref m42, .ref m43, .ref m44, .ref m45, .ref m46, .ref m47, .ref m48, .ref m49, .int v50, .ref m51, .ref m52, .ref m53, .ref m54, .int (nI gf), .ref m56, .ref m57, .ref m58, .ref m59])) := wd_at.ps ew41 k37
  have k43 := wd_at.pt ew41 k38 (tg_ne tm24 ty (by decide))
  have kp44 := kp39.put ew41 s90
  refine lv_iinc (v := (-8)) (lv' := [(2, .int (-8)), (0, .ref y), (1, .int x0)]) hx hb dX11_put_30 hl (k := 0) rfl (by decide) (by decide) rfl (fun ls hl => ?_)
  refine lv_goto (tgt := 3) hx hb dX11_put_33 (by decide) ?_
  refine lv_iload_n hx hb dX11_put_3 rfl (lv_at hl 0 rfl) ?_
  refine lv_if_lt (tgt := 36) hx hb dX11_put_4 (by decide) (fun c_45 => ?_) (fun c_45 => absurd (show (-8 : Int32) < (0 : Int32) by decide) c_45)
  exact y_vr K hP hD hS (Nat.le_of_ble_eq_true rfl) (Nat.le_of_ble_eq_true rfl) rfl dX11_put_36 (⟨upd (upd (upd (upd f24 (nI ln).toNatClampNeg (vp_nar .byte ((x0 >>> (24 &&& 31)).toInt8.toInt32))) (nI (ln + 1)).toNatClampNeg (vp_nar .byte ((x0 >>> (16 &&& 31)).toInt8.toInt32))) (nI (ln + 2)).toNatClampNeg (vp_nar .byte ((x0 >>> (8 &&& 31)).toInt8.toInt32))) (nI (ln + 3)).toNatClampNeg (vp_nar .byte ((x0 >>> (0 &&& 31)).toInt8.toInt32)), rfl, kp44, k42, k43⟩)
