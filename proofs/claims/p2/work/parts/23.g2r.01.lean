set_option maxHeartbeats 4000000 in
set_option maxRecDepth 100000 in
theorem m_nets (l : Launch) (D : va_G) (cy : Nat → ClassId) (sk sv : Nat → Nat) (w : Wd) (tg : Nat → Nat) (y m2 m3 m4 m5 m6 m8 m9 m10 m11 m12 m13 m14 m17 m18 m19 m20 m21 m22 m23 m24 m29 m30 m31 m32 m33 m34 m35 m36 m37 m39 m40 m41 m42 m43 m44 m45 m46 m47 m48 m49 m51 m52 m53 m54 m56 m57 m58 m59 pc ac sc ln sh gf : Nat) (v0 td v26 v27 v28 v50 : Int32) (f4 : Nat → Int32) (f53 : Nat → Int64) (f54 : Nat → Int64) (f56 : Nat → Int32) (f57 : Nat → Int32) (f58 : Nat → Int32) (f59 : Nat → Int64)  (c90 : wd_at w y (.inr (11, [.int v0, .int td, .ref m2, .ref m3, .ref m4, .ref m5, .ref m6, .int (nI pc), .ref m8, .ref m9, .ref m10, .ref m11, .ref m12, .ref m13, .ref m14, .int (nI ac), .int (nI sc), .ref m17, .ref m18, .ref m19, .ref m20, .ref m21, .ref m22, .ref m23, .ref m24, .int (nI ln), .int v26, .int v27, .int v28, .ref m29, .ref m30, .ref m31, .ref m32, .ref m33, .ref m34, .ref m35, .ref m36, .ref m37, .int (nI sh), .ref m39, .ref m40, .ref m41, .ref m42, .ref m43, .ref m44, .ref m45, .ref m46, .ref m47, .ref m48, .ref m49, .int v50, .ref m51, .ref m52, .ref m53, .ref m54, .int (nI gf), .ref m56, .ref m57, .ref m58, .ref m59]))) (c91 : wd_at w m4 (.inl (cy 2, 12, .inl f4))) (c92 : wd_at w m53 (.inl (cy 3, 12, .inr (.inl f53)))) (c93 : wd_at w m54 (.inl (cy 3, 12, .inr (.inl f54)))) (c94 : wd_at w m56 (.inl (cy 2, 60, .inl f56))) (c95 : wd_at w m57 (.inl (cy 2, 60, .inl f57))) (c96 : wd_at w m58 (.inl (cy 2, 60, .inl f58))) (c97 : wd_at w m59 (.inl (cy 3, 60, .inr (.inl f59))))  (S : Nat → Prop) (s90 : S y) (s91 : S m54) (s92 : S m56) (s93 : S m57) (s94 : S m58) (s95 : S m59) (ty : tg y = 10000) (tm4 : tg m4 = 10104) (tm53 : tg m53 = 10153) (tm54 : tg m54 = 10154) (tm56 : tg m56 = 10156) (tm57 : tg m57 = 10157) (tm58 : tg m58 = 10158) (tm59 : tg m59 = 10159) : Ct l D cy sk sv yX11_nets wsX11_nets ({ frames := 1, cells := 0, slots := 0, locals := 25 }) [.ref y] w (fun v w1 => ∃ (gf1 : Nat) (g54 : Nat → Int64) (g56 : Nat → Int32) (g57 : Nat → Int32) (g58 : Nat → Int32) (g59 : Nat → Int64), v = none ∧ (gf1 ≤ 12) ∧ wd_kp S w w1 ∧ wd_at w1 y (.inr (11, [.int v0, .int td, .ref m2, .ref m3, .ref m4, .ref m5, .ref m6, .int (nI pc), .ref m8, .ref m9, .ref m10, .ref m11, .ref m12, .ref m13, .ref m14, .int (nI ac), .int (nI sc), .ref m17, .ref m18, .ref m19, .ref m20, .ref m21, .ref m22, .ref m23, .ref m24, .int (nI ln), .int v26, .int v27, .int v28, .ref m29, .ref m30, .ref m31, .ref m32, .ref m33, .ref m34, .ref m35, .ref m36, .ref m37, .int (nI sh), .ref m39, .ref m40, .ref m41, .ref m42, .ref m43, .ref m44, .ref m45, .ref m46, .ref m47, .ref m48, .ref m49, .int v50, .ref m51, .ref m52, .ref m53, .ref m54, .int (nI gf1), .ref m56, .ref m57, .ref m58, .ref m59])) ∧ wd_at w1 m54 (.inl (cy 3, 12, .inr (.inl g54))) ∧ wd_at w1 m56 (.inl (cy 2, 60, .inl g56)) ∧ wd_at w1 m57 (.inl (cy 2, 60, .inl g57)) ∧ wd_at w1 m58 (.inl (cy 2, 60, .inl g58)) ∧ wd_at w1 m59 (.inl (cy 3, 60, .inr (.inl g59)))) := by
  refine Ct.by (cc := cX11_nets) (maxL := 7) (ret := none) (by decide +kernel) rfl (Nat.le_of_ble_eq_true rfl) ?_
  intro p e s m args below meth c A Q F hnm K ls hl
  have F : wd_Fx p s m args meth c cX11_nets 7 wsX11_nets RX11 D cy sk sv A := F
  have hl : lv_has ls 7 [(0, .ref y)] := hl
  have hx := F.1.1
  have hb := F.1.2.1
  have hown := F.1.2.2.2.1
  have hts := F.1.2.2.2.2
  intro H locs hP hD hS
  have kp0 : wd_kp S w w := wd_kp.rf
  refine lv_aload_n hx hb dX11_nets_0 rfl (lv_at hl 0 rfl) ?_
  refine lv_iconst (v := 0) hx hb dX11_nets_1 (by decide) ?_
  refine y_put (ref := "NoteHouseModel") F hP hD hS c90 rfl (fun _ h => List.mem_cons_of_mem _ (List.mem_append_right _ (h))) tyX11_ok nmX11 55 (Nat.le_of_ble_eq_true rfl) (List.mem_cons_of_mem _ (List.mem_append_left _ (List.mem_of_getElem? (i := 0) rfl))) rfl rfl rfl rfl (Nat.le_of_ble_eq_true rfl) dX11_nets_2 (fun w1 ew2 H locs hP hD hS => ?_)
  have k3 : wd_at w1 y (.inr (11, [.int v0, .int td, .ref m2, .ref m3, .ref m4, .ref m5, .ref m6, .int (nI pc), .ref m8, .ref m9, .ref m10, .ref m11, .ref m12, .ref m13, .ref m14, .int (nI ac), .int (nI sc), .ref m17, .ref m18, .ref m19, .ref m20, .ref m21, .ref m22, .ref m23, .ref m24, .int (nI ln), .int v26, .int v27, .int v28, .ref m29, .ref m30, .ref m31, .ref m32, .ref m33, .ref m34, .ref m35, .ref m36, .ref m37, .int (nI sh), .ref m39, .ref m40, .ref m41, .ref m42, .ref m43, .ref m44, .ref m45, .ref m46, .ref m47, .ref m48, .ref m49, .int v50, .ref m51, .ref m52, .ref m53, .ref m54, .int 0, .ref m56, .ref m57, .ref m58, .ref m59])) := wd_at.ps ew2 c90
  have k4 := wd_at.pt ew2 c91 (tg_ne tm4 ty (by decide))
  have k5 := wd_at.pt ew2 c92 (tg_ne tm53 ty (by decide))
  have k6 := wd_at.pt ew2 c93 (tg_ne tm54 ty (by decide))
  have k7 := wd_at.pt ew2 c94 (tg_ne tm56 ty (by decide))
  have k8 := wd_at.pt ew2 c95 (tg_ne tm57 ty (by decide))
  have k9 := wd_at.pt ew2 c96 (tg_ne tm58 ty (by decide))
  have k10 := wd_at.pt ew2 c97 (tg_ne tm59 ty (by decide))
  have kp11 := kp0.put ew2 s90
  refine lv_iconst (v := 0) hx hb dX11_nets_5 (by decide) ?_
  refine lv_istore_n (lv' := [(1, .int 0), (0, .ref y)]) hx hb dX11_nets_6 rfl hl (by decide) rfl (fun ls hl => ?_)
  have lp7 : ∀ (N : Nat) (t0 : Nat) (o1 : Nat → Int64) (w12 : Wd), (t0 + N = 12) → (wd_at w12 y (.inr (11, [.int v0, .int td, .ref m2, .ref m3, .ref m4, .ref m5, .ref m6, .int (nI pc), .ref m8, .ref m9, .ref m10, .ref m11, .ref m12, .ref m13, .ref m14, .int (nI ac), .int (nI sc), .ref m17, .ref m18, .ref m19, .ref m20, .ref m21, .ref m22, .ref m23, .ref m24, .int (nI ln), .int v26, .int v27, .int v28, .ref m29, .ref m30, .ref m31, .ref m32, .ref m33, .ref m34, .ref m35, .ref m36, .ref m37, .int (nI sh), .ref m39, .ref m40, .ref m41, .ref m42, .ref m43, .ref m44, .ref m45, .ref m46, .ref m47, .ref m48, .ref m49, .int v50, .ref m51, .ref m52, .ref m53, .ref m54, .int 0, .ref m56, .ref m57, .ref m58, .ref m59]))) → (wd_at w12 m4 (.inl (cy 2, 12, .inl f4))) → (wd_at w12 m53 (.inl (cy 3, 12, .inr (.inl f53)))) → (wd_at w12 m54 (.inl (cy 3, 12, .inr (.inl o1)))) → (wd_at w12 m56 (.inl (cy 2, 60, .inl f56))) → (wd_at w12 m57 (.inl (cy 2, 60, .inl f57))) → (wd_at w12 m58 (.inl (cy 2, 60, .inl f58))) → (wd_at w12 m59 (.inl (cy 3, 60, .inr (.inl f59)))) → (wd_kp S w w12) → ∀ (ls : Array Slot), lv_has ls 7 [(0, .ref y), (1, .int (nI t0))] → Wv p l e ({ frames := 1, cells := 0, slots := 0, locals := 25 }) s m args below meth c D A (0) (0) Q w12 (F0 m 7 ls []) := by
    intro N
    induction N with
    | zero =>
      intro t0 o1 w12 hN7 k13 k14 k15 k16 k17 k18 k19 k20 kp21 ls hl H locs hP hD hS
      refine lv_iload_n hx hb dX11_nets_7 rfl (lv_at hl 1 rfl) ?_
      refine lv_bipush (v := 12) hx hb dX11_nets_8 (by decide) ?_
      refine lv_icmp_ge (tgt := 31) hx hb dX11_nets_10 (by decide) (fun c_22 => ?_) (fun c_22 => absurd (nI_le (a := 12) (b := t0) (by omega) (by omega)) c_22)
      refine lv_iconst (v := 0) hx hb dX11_nets_31 (by decide) ?_
      refine lv_istore_n (lv' := [(1, .int 0), (0, .ref y)]) hx hb dX11_nets_32 rfl hl (by decide) rfl (fun ls hl => ?_)
      have lp33 : ∀ (N : Nat) (cz : Nat) (gq : Nat) (o2 : Nat → Int64) (ea2 : Nat → Int32) (eb2 : Nat → Int32) (ec2 : Nat → Int32) (ed2 : Nat → Int64) (w23 : Wd), (cz + N = 4) → (gq + nq f4 o2 cz 0 ≤ 12) → (wd_at w23 y (.inr (11, [.int v0, .int td, .ref m2, .ref m3, .ref m4, .ref m5, .ref m6, .int (nI pc), .ref m8, .ref m9, .ref m10, .ref m11, .ref m12, .ref m13, .ref m14, .int (nI ac), .int (nI sc), .ref m17, .ref m18, .ref m19, .ref m20, .ref m21, .ref m22, .ref m23, .ref m24, .int (nI ln), .int v26, .int v27, .int v28, .ref m29, .ref m30, .ref m31, .ref m32, .ref m33, .ref m34, .ref m35, .ref m36, .ref m37, .int (nI sh), .ref m39, .ref m40, .ref m41, .ref m42, .ref m43, .ref m44, .ref m45, .ref m46, .ref m47, .ref m48, .ref m49, .int v50, .ref m51, .ref m52, .ref m53, .ref m54, .int (nI gq), .ref m56, .ref m57, .ref m58, .ref m59]))) → (wd_at w23 m4 (.inl (cy 2, 12, .inl f4))) → (wd_at w23 m53 (.inl (cy 3, 12, .inr (.inl f53)))) → (wd_at w23 m54 (.inl (cy 3, 12, .inr (.inl o2)))) → (wd_at w23 m56 (.inl (cy 2, 60, .inl ea2))) → (wd_at w23 m57 (.inl (cy 2, 60, .inl eb2))) → (wd_at w23 m58 (.inl (cy 2, 60, .inl ec2))) → (wd_at w23 m59 (.inl (cy 3, 60, .inr (.inl ed2)))) → (wd_kp S w w23) → ∀ (ls : Array Slot), lv_has ls 7 [(0, .ref y), (1, .int (nI cz))] → Wv p l e ({ frames := 1, cells := 0, slots := 0, locals := 25 }) s m args below meth c D A (0) (0) Q w23 (F0 m 33 ls []) := by
        intro N
        induction N with
        | zero =>
          intro cz gq o2 ea2 eb2 ec2 ed2 w23 hN33 hg2 k24 k25 k26 k27 k28 k29 k30 k31 kp32 ls hl H locs hP hD hS
          refine lv_iload_n hx hb dX11_nets_33 rfl (lv_at hl 1 rfl) ?_
          refine lv_iconst (v := 4) hx hb dX11_nets_34 (by decide) ?_
          refine lv_icmp_ge (tgt := 305) hx hb dX11_nets_35 (by decide) (fun c_33 => ?_) (fun c_33 => absurd (nI_le (a := 4) (b := cz) (by omega) (by omega)) c_33)
          exact y_vr K hP hD hS (Nat.le_of_ble_eq_true rfl) (Nat.le_of_ble_eq_true rfl) rfl dX11_nets_305 (⟨gq, o2, ea2, eb2, ec2, ed2, rfl, by omega, kp32, k24, k27, k28, k29, k30, k31⟩)
        | succ N ih33 =>
          intro cz gq o2 ea2 eb2 ec2 ed2 w23 hN33 hg2 k24 k25 k26 k27 k28 k29 k30 k31 kp32 ls hl H locs hP hD hS
          refine lv_iload_n hx hb dX11_nets_33 rfl (lv_at hl 1 rfl) ?_
          refine lv_iconst (v := 4) hx hb dX11_nets_34 (by decide) ?_
          refine lv_icmp_ge (tgt := 305) hx hb dX11_nets_35 (by decide) (fun c_34 => absurd c_34 (nI_ge (a := cz) (b := 4) (by omega) (by omega))) (fun c_34 => ?_)
          refine lv_iconst (v := 1) hx hb dX11_nets_38 (by decide) ?_
          refine lv_istore_n (lv' := [(2, .int 1), (0, .ref y), (1, .int (nI cz))]) hx hb dX11_nets_39 rfl hl (by decide) rfl (fun ls hl => ?_)
          have lp40 : ∀ (N : Nat) (on : Nat) (gr : Nat) (o3 : Nat → Int64) (ea3 : Nat → Int32) (eb3 : Nat → Int32) (ec3 : Nat → Int32) (ed3 : Nat → Int64) (w35 : Wd), (2 * nq f4 o3 cz 0 + on + 1 ≤ N) → (gr + nq f4 o3 cz 0 ≤ 12) → (on ≤ 1) → (wd_at w35 y (.inr (11, [.int v0, .int td, .ref m2, .ref m3, .ref m4, .ref m5, .ref m6, .int (nI pc), .ref m8, .ref m9, .ref m10, .ref m11, .ref m12, .ref m13, .ref m14, .int (nI ac), .int (nI sc), .ref m17, .ref m18, .ref m19, .ref m20, .ref m21, .ref m22, .ref m23, .ref m24, .int (nI ln), .int v26, .int v27, .int v28, .ref m29, .ref m30, .ref m31, .ref m32, .ref m33, .ref m34, .ref m35, .ref m36, .ref m37, .int (nI sh), .ref m39, .ref m40, .ref m41, .ref m42, .ref m43, .ref m44, .ref m45, .ref m46, .ref m47, .ref m48, .ref m49, .int v50, .ref m51, .ref m52, .ref m53, .ref m54, .int (nI gr), .ref m56, .ref m57, .ref m58, .ref m59]))) → (wd_at w35 m4 (.inl (cy 2, 12, .inl f4))) → (wd_at w35 m53 (.inl (cy 3, 12, .inr (.inl f53)))) → (wd_at w35 m54 (.inl (cy 3, 12, .inr (.inl o3)))) → (wd_at w35 m56 (.inl (cy 2, 60, .inl ea3))) → (wd_at w35 m57 (.inl (cy 2, 60, .inl eb3))) → (wd_at w35 m58 (.inl (cy 2, 60, .inl ec3))) → (wd_at w35 m59 (.inl (cy 3, 60, .inr (.inl ed3)))) → (wd_kp S w w35) → ∀ (ls : Array Slot), lv_has ls 7 [(0, .ref y), (1, .int (nI cz)), (2, .int (nI on))] → Wv p l e ({ frames := 1, cells := 0, slots := 0, locals := 25 }) s m args below meth c D A (0) (0) Q w35 (F0 m 40 ls []) := by
            intro N
            induction N with
            | zero =>
              intro on gr o3 ea3 eb3 ec3 ed3 w35 hN40 hg3 hon k36 k37 k38 k39 k40 k41 k42 k43 kp44 ls hl H locs hP hD hS
              exact absurd hN40 (by omega)
            | succ N ih40 =>
              intro on gr o3 ea3 eb3 ec3 ed3 w35 hN40 hg3 hon k36 k37 k38 k39 k40 k41 k42 k43 kp44 ls hl H locs hP hD hS
              refine lv_iload_n hx hb dX11_nets_40 rfl (lv_at hl 2 rfl) ?_
              refine lv_if_eq (tgt := 211) hx hb dX11_nets_41 (by decide) (fun c_45 => ?_) (fun c_45 => ?_)
              · refine lv_iconst (v := 0) hx hb dX11_nets_211 (by decide) ?_
                refine lv_istore_n (lv' := [(3, .int 0), (0, .ref y), (1, .int (nI cz)), (2, .int (nI on))]) hx hb dX11_nets_212 rfl hl (by decide) rfl (fun ls hl => ?_)
                have lp213 : ∀ (N : Nat) (t : Nat) (gs : Nat) (ea4 : Nat → Int32) (eb4 : Nat → Int32) (ec4 : Nat → Int32) (ed4 : Nat → Int64) (w46 : Wd), (t + N = 12) → (gs + nq f4 o3 cz t ≤ 12) → (wd_at w46 y (.inr (11, [.int v0, .int td, .ref m2, .ref m3, .ref m4, .ref m5, .ref m6, .int (nI pc), .ref m8, .ref m9, .ref m10, .ref m11, .ref m12, .ref m13, .ref m14, .int (nI ac), .int (nI sc), .ref m17, .ref m18, .ref m19, .ref m20, .ref m21, .ref m22, .ref m23, .ref m24, .int (nI ln), .int v26, .int v27, .int v28, .ref m29, .ref m30, .ref m31, .ref m32, .ref m33, .ref m34, .ref m35, .ref m36, .ref m37, .int (nI sh), .ref m39, .ref m40, .ref m41, .ref m42, .ref m43, .ref m44, .ref m45, .ref m46, .ref m47, .ref m48, .ref m49, .int v50, .ref m51, .ref m52, .ref m53, .ref m54, .int (nI gs), .ref m56, .ref m57, .ref m58, .ref m59]))) → (wd_at w46 m4 (.inl (cy 2, 12, .inl f4))) → (wd_at w46 m53 (.inl (cy 3, 12, .inr (.inl f53)))) → (wd_at w46 m54 (.inl (cy 3, 12, .inr (.inl o3)))) → (wd_at w46 m56 (.inl (cy 2, 60, .inl ea4))) → (wd_at w46 m57 (.inl (cy 2, 60, .inl eb4))) → (wd_at w46 m58 (.inl (cy 2, 60, .inl ec4))) → (wd_at w46 m59 (.inl (cy 3, 60, .inr (.inl ed4)))) → (wd_kp S w w46) → ∀ (ls : Array Slot), lv_has ls 7 [(0, .ref y), (1, .int (nI cz)), (3, .int (nI t))] → Wv p l e ({ frames := 1, cells := 0, slots := 0, locals := 25 }) s m args below meth c D A (0) (0) Q w46 (F0 m 213 ls []) := by
                  intro N
                  induction N with
                  | zero =>
                    intro t gs ea4 eb4 ec4 ed4 w46 hN213 hgs k47 k48 k49 k50 k51 k52 k53 k54 kp55 ls hl H locs hP hD hS
                    refine lv_iload_n hx hb dX11_nets_213 rfl (lv_at hl 2 rfl) ?_
                    refine lv_bipush (v := 12) hx hb dX11_nets_214 (by decide) ?_
                    refine lv_icmp_ge (tgt := 299) hx hb dX11_nets_216 (by decide) (fun c_56 => ?_) (fun c_56 => absurd (nI_le (a := 12) (b := t) (by omega) (by omega)) c_56)
                    refine lv_iinc (v := nI (cz + 1)) (lv' := [(1, .int (nI (cz + 1))), (0, .ref y), (3, .int (nI t))]) hx hb dX11_nets_299 hl (k := 1) rfl (nI_1 cz) (by decide) rfl (fun ls hl => ?_)
                    refine lv_goto (tgt := 33) hx hb dX11_nets_302 (by decide) ?_
                    exact ih33 (cz + 1) gs o3 ea4 eb4 ec4 ed4 w46 (by omega) (by have h9 := nq_n (co := f4) (o := o3) (c := cz); have h8 := hgs; rw [show t = 12 by omega] at h8; omega) k47 k48 k49 k50 k51 k52 k53 k54 kp55 ls (lv_sub hl [1, 0] rfl) H locs hP hD hS
                  | succ N ih213 =>
                    intro t gs ea4 eb4 ec4 ed4 w46 hN213 hgs k47 k48 k49 k50 k51 k52 k53 k54 kp55 ls hl H locs hP hD hS
                    refine lv_iload_n hx hb dX11_nets_213 rfl (lv_at hl 2 rfl) ?_
                    refine lv_bipush (v := 12) hx hb dX11_nets_214 (by decide) ?_
                    refine lv_icmp_ge (tgt := 299) hx hb dX11_nets_216 (by decide) (fun c_57 => absurd c_57 (nI_ge (a := t) (b := 12) (by omega) (by omega))) (fun c_57 => ?_)
                    refine lv_aload_n hx hb dX11_nets_219 rfl (lv_at hl 0 rfl) ?_
                    refine x_get (ref := "NoteHouseModel") F hP k47 rfl (fun _ h => List.mem_cons_of_mem _ (List.mem_append_right _ (h))) 4 (Nat.le_of_ble_eq_true rfl) (List.mem_cons_of_mem _ (List.mem_append_left _ (List.mem_of_getElem? (i := 3) rfl))) rfl rfl dX11_nets_220 ?_
                    refine lv_iload_n hx hb dX11_nets_223 rfl (lv_at hl 2 rfl) ?_
                    refine x_iald F hP k48 (vp_in_nI (n := t) (N := 12) (by omega) (by decide)) dX11_nets_224 ?_
                    rw [nI_clamp (n := t) (by omega)]
                    refine lv_iload_n hx hb dX11_nets_225 rfl (lv_at hl 1 rfl) ?_
                    refine lv_icmp_ne (tgt := 257) hx hb dX11_nets_226 (by decide) (fun cr1 => ?_) (fun cr1 => ?_)
                    · refine lv_aload_n hx hb dX11_nets_257 rfl (lv_at hl 0 rfl) ?_
                      refine x_get (ref := "NoteHouseModel") F hP k47 rfl (fun _ h => List.mem_cons_of_mem _ (List.mem_append_right _ (h))) 4 (Nat.le_of_ble_eq_true rfl) (List.mem_cons_of_mem _ (List.mem_append_left _ (List.mem_of_getElem? (i := 3) rfl))) rfl rfl dX11_nets_258 ?_
                      refine lv_iload_n hx hb dX11_nets_261 rfl (lv_at hl 2 rfl) ?_
                      refine x_iald F hP k48 (vp_in_nI (n := t) (N := 12) (by omega) (by decide)) dX11_nets_262 ?_
                      rw [nI_clamp (n := t) (by omega)]
                      refine lv_iload_n hx hb dX11_nets_263 rfl (lv_at hl 1 rfl) ?_
                      refine lv_icmp_ne (tgt := 293) hx hb dX11_nets_264 (by decide) (fun cr3 => ?_) (fun cr3 => ?_)
                      · refine lv_iinc (v := nI (t + 1)) (lv' := [(3, .int (nI (t + 1))), (0, .ref y), (1, .int (nI cz))]) hx hb dX11_nets_293 hl (k := 2) rfl (nI_1 t) (by decide) rfl (fun ls hl => ?_)
                        refine lv_goto (tgt := 213) hx hb dX11_nets_296 (by decide) ?_
                        exact ih213 (t + 1) gs ea4 eb4 ec4 ed4 w46 (by omega) (by have h9 := nq_m (co := f4) (o := o3) (c := cz) (t := t) (by omega); omega) k47 k48 k49 k50 k51 k52 k53 k54 kp55 ls (lv_sub hl [1, 2, 0] rfl) H locs hP hD hS
                      · refine lv_aload_n hx hb dX11_nets_267 rfl (lv_at hl 0 rfl) ?_
                        refine x_get (ref := "NoteHouseModel") F hP k47 rfl (fun _ h => List.mem_cons_of_mem _ (List.mem_append_right _ (h))) 54 (Nat.le_of_ble_eq_true rfl) (List.mem_cons_of_mem _ (List.mem_append_left _ (List.mem_of_getElem? (i := 1) rfl))) rfl rfl dX11_nets_268 ?_
                        refine lv_iload_n hx hb dX11_nets_271 rfl (lv_at hl 2 rfl) ?_
                        refine x_lald F hP k50 (vp_in_nI (n := t) (N := 12) (by omega) (by decide)) dX11_nets_272 ?_
                        rw [nI_clamp (n := t) (by omega)]
                        refine lv_lconst (v := 0) hx hb dX11_nets_273 (by decide) ?_
                        refine W.lcmp hx hb dX11_nets_274 ?_
                        refine lv_if_ge (tgt := 293) hx hb dX11_nets_275 (by decide) (fun cr4 => ?_) (fun cr4 => ?_)
                        · refine lv_iinc (v := nI (t + 1)) (lv' := [(3, .int (nI (t + 1))), (0, .ref y), (1, .int (nI cz))]) hx hb dX11_nets_293 hl (k := 2) rfl (nI_1 t) (by decide) rfl (fun ls hl => ?_)
                          refine lv_goto (tgt := 213) hx hb dX11_nets_296 (by decide) ?_
                          exact ih213 (t + 1) gs ea4 eb4 ec4 ed4 w46 (by omega) (by have h9 := nq_m (co := f4) (o := o3) (c := cz) (t := t) (by omega); omega) k47 k48 k49 k50 k51 k52 k53 k54 kp55 ls (lv_sub hl [1, 2, 0] rfl) H locs hP hD hS
                        · refine lv_aload_n hx hb dX11_nets_278 rfl (lv_at hl 0 rfl) ?_
                          refine lv_iload_n hx hb dX11_nets_279 rfl (lv_at hl 2 rfl) ?_
                          refine lv_bipush (v := 12) hx hb dX11_nets_280 (by decide) ?_
                          refine lv_aload_n hx hb dX11_nets_282 rfl (lv_at hl 0 rfl) ?_
                          refine x_get (ref := "NoteHouseModel") F hP k47 rfl (fun _ h => List.mem_cons_of_mem _ (List.mem_append_right _ (h))) 54 (Nat.le_of_ble_eq_true rfl) (List.mem_cons_of_mem _ (List.mem_append_left _ (List.mem_of_getElem? (i := 1) rfl))) rfl rfl dX11_nets_283 ?_
                          refine lv_iload_n hx hb dX11_nets_286 rfl (lv_at hl 2 rfl) ?_
                          refine x_lald F hP k50 (vp_in_nI (n := t) (N := 12) (by omega) (by decide)) dX11_nets_287 ?_
                          rw [nI_clamp (n := t) (by omega)]
                          refine lv_lneg hx hb dX11_nets_288 ?_
                          refine lv_iload_n hx hb dX11_nets_289 rfl (lv_at hl 1 rfl) ?_
                          refine x_callV (n := 4) (As := [.int (nI t), .int 12, .long (-(o3 t)), .int (nI cz)]) (rest := []) F hP hD hS (m_gift l D cy sk sv w46 tg y m2 m3 m4 m5 m6 m8 m9 m10 m11 m12 m13 m14 m17 m18 m19 m20 m21 m22 m23 m24 m29 m30 m31 m32 m33 m34 m35 m36 m37 m39 m40 m41 m42 m43 m44 m45 m46 m47 m48 m49 m51 m52 m53 m54 m56 m57 m58 m59 pc ac sc ln sh gs v0 td v26 v27 v28 v50 ea4 eb4 ec4 ed4 (nI t) 12 (nI cz) (-(o3 t)) k47 k51 k52 k53 k54 (fun b => b = y ∨ b = m56 ∨ b = m57 ∨ b = m58 ∨ b = m59) (Or.inl rfl) (Or.inr (Or.inl rfl)) (Or.inr (Or.inr (Or.inl rfl))) (Or.inr (Or.inr (Or.inr (Or.inl rfl)))) (Or.inr (Or.inr (Or.inr (Or.inr rfl)))) ty tm56 tm57 tm58 tm59 (by omega)) gX11_nets_X11_gift rfl rfl (by decide +kernel) ⟨(Nat.le_of_ble_eq_true rfl), (Nat.le_of_ble_eq_true rfl)⟩ rfl hl.1 (Nat.le_of_ble_eq_true rfl) k47 rfl dX11_nets_290 rfl ⟨(Nat.le_of_ble_eq_true rfl), (Nat.le_of_ble_eq_true rfl)⟩ (fun v59 w60 hp58 H locs hP hD hS => ?_)
                          obtain ⟨gx61, gx62, gx63, gx64, rfl, kq70, k65, k66, k67, k68, k69⟩ := hp58
                          have k71 := kq70.2 _ _ k48 (orN (tg_ne tm4 ty (by decide)) (orN (tg_ne tm4 tm56 (by decide)) (orN (tg_ne tm4 tm57 (by decide)) (orN (tg_ne tm4 tm58 (by decide)) (tg_ne tm4 tm59 (by decide))))))
                          have k72 := kq70.2 _ _ k49 (orN (tg_ne tm53 ty (by decide)) (orN (tg_ne tm53 tm56 (by decide)) (orN (tg_ne tm53 tm57 (by decide)) (orN (tg_ne tm53 tm58 (by decide)) (tg_ne tm53 tm59 (by decide))))))
                          have k73 := kq70.2 _ _ k50 (orN (tg_ne tm54 ty (by decide)) (orN (tg_ne tm54 tm56 (by decide)) (orN (tg_ne tm54 tm57 (by decide)) (orN (tg_ne tm54 tm58 (by decide)) (tg_ne tm54 tm59 (by decide))))))
                          have kp74 := kp55.tr kq70 (fun b9 hm q9 => (fun q9 => Or.elim q9 (fun q9 => q9 ▸ s90) (fun q9 => Or.elim q9 (fun q9 => q9 ▸ s92) (fun q9 => Or.elim q9 (fun q9 => q9 ▸ s93) (fun q9 => Or.elim q9 (fun q9 => q9 ▸ s94) (fun q9 => q9 ▸ s95))))) q9)
                          refine W.eq (g2 := F0 m 293 ls []) rfl (W.widen (k := 0) (n := 0) (Nat.le_of_ble_eq_true rfl) (Nat.le_of_ble_eq_true rfl) ?_)
                          refine lv_iinc (v := nI (t + 1)) (lv' := [(3, .int (nI (t + 1))), (0, .ref y), (1, .int (nI cz))]) hx hb dX11_nets_293 hl (k := 2) rfl (nI_1 t) (by decide) rfl (fun ls hl => ?_)
                          refine lv_goto (tgt := 213) hx hb dX11_nets_296 (by decide) ?_
                          exact ih213 (t + 1) (gs + 1) gx61 gx62 gx63 gx64 w60 (by omega) (by have h9 := nq_s (co := f4) (o := o3) (c := cz) (t := t) (by omega) (by omega) cr3 (i64_ne (Int64.not_le.mp (fun q => cr4 ((lg_cmp_ge _ _).mpr q)))); omega) k65 k71 k72 k73 k66 k67 k68 k69 kp74 ls (lv_sub hl [1, 2, 0] rfl) H locs hP hD hS
                    · refine lv_aload_n hx hb dX11_nets_229 rfl (lv_at hl 0 rfl) ?_
                      refine x_get (ref := "NoteHouseModel") F hP k47 rfl (fun _ h => List.mem_cons_of_mem _ (List.mem_append_right _ (h))) 54 (Nat.le_of_ble_eq_true rfl) (List.mem_cons_of_mem _ (List.mem_append_left _ (List.mem_of_getElem? (i := 1) rfl))) rfl rfl dX11_nets_230 ?_
                      refine lv_iload_n hx hb dX11_nets_233 rfl (lv_at hl 2 rfl) ?_
                      refine x_lald F hP k50 (vp_in_nI (n := t) (N := 12) (by omega) (by decide)) dX11_nets_234 ?_
                      rw [nI_clamp (n := t) (by omega)]
                      refine lv_lconst (v := 0) hx hb dX11_nets_235 (by decide) ?_
                      refine W.lcmp hx hb dX11_nets_236 ?_
                      refine lv_if_le (tgt := 257) hx hb dX11_nets_237 (by decide) (fun cr2 => ?_) (fun cr2 => ?_)
                      · refine lv_aload_n hx hb dX11_nets_257 rfl (lv_at hl 0 rfl) ?_
                        refine x_get (ref := "NoteHouseModel") F hP k47 rfl (fun _ h => List.mem_cons_of_mem _ (List.mem_append_right _ (h))) 4 (Nat.le_of_ble_eq_true rfl) (List.mem_cons_of_mem _ (List.mem_append_left _ (List.mem_of_getElem? (i := 3) rfl))) rfl rfl dX11_nets_258 ?_
                        refine lv_iload_n hx hb dX11_nets_261 rfl (lv_at hl 2 rfl) ?_
                        refine x_iald F hP k48 (vp_in_nI (n := t) (N := 12) (by omega) (by decide)) dX11_nets_262 ?_
                        rw [nI_clamp (n := t) (by omega)]
                        refine lv_iload_n hx hb dX11_nets_263 rfl (lv_at hl 1 rfl) ?_
                        refine lv_icmp_ne (tgt := 293) hx hb dX11_nets_264 (by decide) (fun cr3 => ?_) (fun cr3 => ?_)
                        · refine lv_iinc (v := nI (t + 1)) (lv' := [(3, .int (nI (t + 1))), (0, .ref y), (1, .int (nI cz))]) hx hb dX11_nets_293 hl (k := 2) rfl (nI_1 t) (by decide) rfl (fun ls hl => ?_)
                          refine lv_goto (tgt := 213) hx hb dX11_nets_296 (by decide) ?_
                          exact ih213 (t + 1) gs ea4 eb4 ec4 ed4 w46 (by omega) (by have h9 := nq_m (co := f4) (o := o3) (c := cz) (t := t) (by omega); omega) k47 k48 k49 k50 k51 k52 k53 k54 kp55 ls (lv_sub hl [1, 2, 0] rfl) H locs hP hD hS
                        · refine lv_aload_n hx hb dX11_nets_267 rfl (lv_at hl 0 rfl) ?_
                          refine x_get (ref := "NoteHouseModel") F hP k47 rfl (fun _ h => List.mem_cons_of_mem _ (List.mem_append_right _ (h))) 54 (Nat.le_of_ble_eq_true rfl) (List.mem_cons_of_mem _ (List.mem_append_left _ (List.mem_of_getElem? (i := 1) rfl))) rfl rfl dX11_nets_268 ?_
                          refine lv_iload_n hx hb dX11_nets_271 rfl (lv_at hl 2 rfl) ?_
                          refine x_lald F hP k50 (vp_in_nI (n := t) (N := 12) (by omega) (by decide)) dX11_nets_272 ?_
                          rw [nI_clamp (n := t) (by omega)]
                          refine lv_lconst (v := 0) hx hb dX11_nets_273 (by decide) ?_
                          refine W.lcmp hx hb dX11_nets_274 ?_
                          refine lv_if_ge (tgt := 293) hx hb dX11_nets_275 (by decide) (fun cr4 => ?_) (fun cr4 => ?_)
                          · refine lv_iinc (v := nI (t + 1)) (lv' := [(3, .int (nI (t + 1))), (0, .ref y), (1, .int (nI cz))]) hx hb dX11_nets_293 hl (k := 2) rfl (nI_1 t) (by decide) rfl (fun ls hl => ?_)
                            refine lv_goto (tgt := 213) hx hb dX11_nets_296 (by decide) ?_
                            exact ih213 (t + 1) gs ea4 eb4 ec4 ed4 w46 (by omega) (by have h9 := nq_m (co := f4) (o := o3) (c := cz) (t := t) (by omega); omega) k47 k48 k49 k50 k51 k52 k53 k54 kp55 ls (lv_sub hl [1, 2, 0] rfl) H locs hP hD hS
                          · refine lv_aload_n hx hb dX11_nets_278 rfl (lv_at hl 0 rfl) ?_
                            refine lv_iload_n hx hb dX11_nets_279 rfl (lv_at hl 2 rfl) ?_
                            refine lv_bipush (v := 12) hx hb dX11_nets_280 (by decide) ?_
                            refine lv_aload_n hx hb dX11_nets_282 rfl (lv_at hl 0 rfl) ?_
                            refine x_get (ref := "NoteHouseModel") F hP k47 rfl (fun _ h => List.mem_cons_of_mem _ (List.mem_append_right _ (h))) 54 (Nat.le_of_ble_eq_true rfl) (List.mem_cons_of_mem _ (List.mem_append_left _ (List.mem_of_getElem? (i := 1) rfl))) rfl rfl dX11_nets_283 ?_
                            refine lv_iload_n hx hb dX11_nets_286 rfl (lv_at hl 2 rfl) ?_
                            refine x_lald F hP k50 (vp_in_nI (n := t) (N := 12) (by omega) (by decide)) dX11_nets_287 ?_
                            rw [nI_clamp (n := t) (by omega)]
                            refine lv_lneg hx hb dX11_nets_288 ?_
                            refine lv_iload_n hx hb dX11_nets_289 rfl (lv_at hl 1 rfl) ?_
                            refine x_callV (n := 4) (As := [.int (nI t), .int 12, .long (-(o3 t)), .int (nI cz)]) (rest := []) F hP hD hS (m_gift l D cy sk sv w46 tg y m2 m3 m4 m5 m6 m8 m9 m10 m11 m12 m13 m14 m17 m18 m19 m20 m21 m22 m23 m24 m29 m30 m31 m32 m33 m34 m35 m36 m37 m39 m40 m41 m42 m43 m44 m45 m46 m47 m48 m49 m51 m52 m53 m54 m56 m57 m58 m59 pc ac sc ln sh gs v0 td v26 v27 v28 v50 ea4 eb4 ec4 ed4 (nI t) 12 (nI cz) (-(o3 t)) k47 k51 k52 k53 k54 (fun b => b = y ∨ b = m56 ∨ b = m57 ∨ b = m58 ∨ b = m59) (Or.inl rfl) (Or.inr (Or.inl rfl)) (Or.inr (Or.inr (Or.inl rfl))) (Or.inr (Or.inr (Or.inr (Or.inl rfl)))) (Or.inr (Or.inr (Or.inr (Or.inr rfl)))) ty tm56 tm57 tm58 tm59 (by omega)) gX11_nets_X11_gift rfl rfl (by decide +kernel) ⟨(Nat.le_of_ble_eq_true rfl), (Nat.le_of_ble_eq_true rfl)⟩ rfl hl.1 (Nat.le_of_ble_eq_true rfl) k47 rfl dX11_nets_290 rfl ⟨(Nat.le_of_ble_eq_true rfl), (Nat.le_of_ble_eq_true rfl)⟩ (fun v76 w77 hp75 H locs hP hD hS => ?_)
                            obtain ⟨gx78, gx79, gx80, gx81, rfl, kq87, k82, k83, k84, k85, k86⟩ := hp75
                            have k88 := kq87.2 _ _ k48 (orN (tg_ne tm4 ty (by decide)) (orN (tg_ne tm4 tm56 (by decide)) (orN (tg_ne tm4 tm57 (by decide)) (orN (tg_ne tm4 tm58 (by decide)) (tg_ne tm4 tm59 (by decide))))))
                            have k89 := kq87.2 _ _ k49 (orN (tg_ne tm53 ty (by decide)) (orN (tg_ne tm53 tm56 (by decide)) (orN (tg_ne tm53 tm57 (by decide)) (orN (tg_ne tm53 tm58 (by decide)) (tg_ne tm53 tm59 (by decide))))))
                            have k90 := kq87.2 _ _ k50 (orN (tg_ne tm54 ty (by decide)) (orN (tg_ne tm54 tm56 (by decide)) (orN (tg_ne tm54 tm57 (by decide)) (orN (tg_ne tm54 tm58 (by decide)) (tg_ne tm54 tm59 (by decide))))))
                            have kp91 := kp55.tr kq87 (fun b9 hm q9 => (fun q9 => Or.elim q9 (fun q9 => q9 ▸ s90) (fun q9 => Or.elim q9 (fun q9 => q9 ▸ s92) (fun q9 => Or.elim q9 (fun q9 => q9 ▸ s93) (fun q9 => Or.elim q9 (fun q9 => q9 ▸ s94) (fun q9 => q9 ▸ s95))))) q9)
                            refine W.eq (g2 := F0 m 293 ls []) rfl (W.widen (k := 0) (n := 0) (Nat.le_of_ble_eq_true rfl) (Nat.le_of_ble_eq_true rfl) ?_)
                            refine lv_iinc (v := nI (t + 1)) (lv' := [(3, .int (nI (t + 1))), (0, .ref y), (1, .int (nI cz))]) hx hb dX11_nets_293 hl (k := 2) rfl (nI_1 t) (by decide) rfl (fun ls hl => ?_)
                            refine lv_goto (tgt := 213) hx hb dX11_nets_296 (by decide) ?_
                            exact ih213 (t + 1) (gs + 1) gx78 gx79 gx80 gx81 w77 (by omega) (by have h9 := nq_s (co := f4) (o := o3) (c := cz) (t := t) (by omega) (by omega) cr3 (i64_ne (Int64.not_le.mp (fun q => cr4 ((lg_cmp_ge _ _).mpr q)))); omega) k82 k88 k89 k90 k83 k84 k85 k86 kp91 ls (lv_sub hl [1, 2, 0] rfl) H locs hP hD hS
                      · refine lv_aload_n hx hb dX11_nets_240 rfl (lv_at hl 0 rfl) ?_
                        refine lv_bipush (v := 12) hx hb dX11_nets_241 (by decide) ?_
                        refine lv_iload_n hx hb dX11_nets_243 rfl (lv_at hl 2 rfl) ?_
                        refine lv_aload_n hx hb dX11_nets_244 rfl (lv_at hl 0 rfl) ?_
                        refine x_get (ref := "NoteHouseModel") F hP k47 rfl (fun _ h => List.mem_cons_of_mem _ (List.mem_append_right _ (h))) 54 (Nat.le_of_ble_eq_true rfl) (List.mem_cons_of_mem _ (List.mem_append_left _ (List.mem_of_getElem? (i := 1) rfl))) rfl rfl dX11_nets_245 ?_
                        refine lv_iload_n hx hb dX11_nets_248 rfl (lv_at hl 2 rfl) ?_
                        refine x_lald F hP k50 (vp_in_nI (n := t) (N := 12) (by omega) (by decide)) dX11_nets_249 ?_
                        rw [nI_clamp (n := t) (by omega)]
                        refine lv_iload_n hx hb dX11_nets_250 rfl (lv_at hl 1 rfl) ?_
                        refine x_callV (n := 4) (As := [.int 12, .int (nI t), .long (o3 t), .int (nI cz)]) (rest := []) F hP hD hS (m_gift l D cy sk sv w46 tg y m2 m3 m4 m5 m6 m8 m9 m10 m11 m12 m13 m14 m17 m18 m19 m20 m21 m22 m23 m24 m29 m30 m31 m32 m33 m34 m35 m36 m37 m39 m40 m41 m42 m43 m44 m45 m46 m47 m48 m49 m51 m52 m53 m54 m56 m57 m58 m59 pc ac sc ln sh gs v0 td v26 v27 v28 v50 ea4 eb4 ec4 ed4 12 (nI t) (nI cz) (o3 t) k47 k51 k52 k53 k54 (fun b => b = y ∨ b = m56 ∨ b = m57 ∨ b = m58 ∨ b = m59) (Or.inl rfl) (Or.inr (Or.inl rfl)) (Or.inr (Or.inr (Or.inl rfl))) (Or.inr (Or.inr (Or.inr (Or.inl rfl)))) (Or.inr (Or.inr (Or.inr (Or.inr rfl)))) ty tm56 tm57 tm58 tm59 (by omega)) gX11_nets_X11_gift rfl rfl (by decide +kernel) ⟨(Nat.le_of_ble_eq_true rfl), (Nat.le_of_ble_eq_true rfl)⟩ rfl hl.1 (Nat.le_of_ble_eq_true rfl) k47 rfl dX11_nets_251 rfl ⟨(Nat.le_of_ble_eq_true rfl), (Nat.le_of_ble_eq_true rfl)⟩ (fun v93 w94 hp92 H locs hP hD hS => ?_)
                        obtain ⟨gx95, gx96, gx97, gx98, rfl, kq104, k99, k100, k101, k102, k103⟩ := hp92
                        have k105 := kq104.2 _ _ k48 (orN (tg_ne tm4 ty (by decide)) (orN (tg_ne tm4 tm56 (by decide)) (orN (tg_ne tm4 tm57 (by decide)) (orN (tg_ne tm4 tm58 (by decide)) (tg_ne tm4 tm59 (by decide))))))
                        have k106 := kq104.2 _ _ k49 (orN (tg_ne tm53 ty (by decide)) (orN (tg_ne tm53 tm56 (by decide)) (orN (tg_ne tm53 tm57 (by decide)) (orN (tg_ne tm53 tm58 (by decide)) (tg_ne tm53 tm59 (by decide))))))
                        have k107 := kq104.2 _ _ k50 (orN (tg_ne tm54 ty (by decide)) (orN (tg_ne tm54 tm56 (by decide)) (orN (tg_ne tm54 tm57 (by decide)) (orN (tg_ne tm54 tm58 (by decide)) (tg_ne tm54 tm59 (by decide))))))
                        have kp108 := kp55.tr kq104 (fun b9 hm q9 => (fun q9 => Or.elim q9 (fun q9 => q9 ▸ s90) (fun q9 => Or.elim q9 (fun q9 => q9 ▸ s92) (fun q9 => Or.elim q9 (fun q9 => q9 ▸ s93) (fun q9 => Or.elim q9 (fun q9 => q9 ▸ s94) (fun q9 => q9 ▸ s95))))) q9)
                        refine W.eq (g2 := F0 m 254 ls []) rfl (W.widen (k := 0) (n := 0) (Nat.le_of_ble_eq_true rfl) (Nat.le_of_ble_eq_true rfl) ?_)
                        refine lv_goto (tgt := 293) hx hb dX11_nets_254 (by decide) ?_
                        refine lv_iinc (v := nI (t + 1)) (lv' := [(3, .int (nI (t + 1))), (0, .ref y), (1, .int (nI cz))]) hx hb dX11_nets_293 hl (k := 2) rfl (nI_1 t) (by decide) rfl (fun ls hl => ?_)
                        refine lv_goto (tgt := 213) hx hb dX11_nets_296 (by decide) ?_
                        exact ih213 (t + 1) (gs + 1) gx95 gx96 gx97 gx98 w94 (by omega) (by have h9 := nq_s (co := f4) (o := o3) (c := cz) (t := t) (by omega) (by omega) cr1 (i64_ng (Int64.not_le.mp (fun q => cr2 ((lg_cmp_le _ _).mpr q)))); omega) k99 k105 k106 k107 k100 k101 k102 k103 kp108 ls (lv_sub hl [1, 2, 0] rfl) H locs hP hD hS
                exact lp213 _ 0 gr ea3 eb3 ec3 ed3 w35 (Nat.zero_add 12) hg3 k36 k37 k38 k39 k40 k41 k42 k43 kp44 ls (lv_sub hl [1, 2, 0] rfl) H locs hP hD hS
              · have hon1 : 0 < on := nI_nz (by omega) c_45
                refine lv_iconst (v := (-1)) hx hb dX11_nets_44 (by decide) ?_
                refine lv_istore_n (lv' := [(3, .int (-1)), (0, .ref y), (1, .int (nI cz)), (2, .int (nI on))]) hx hb dX11_nets_45 rfl hl (by decide) rfl (fun ls hl => ?_)
                refine lv_iconst (v := (-1)) hx hb dX11_nets_46 (by decide) ?_
                refine lv_istore (lv' := [(4, .int (-1)), (3, .int (-1)), (0, .ref y), (1, .int (nI cz)), (2, .int (nI on))]) hx hb dX11_nets_47 hl (by decide) rfl (fun ls hl => ?_)
                refine lv_bipush (v := 11) hx hb dX11_nets_49 (by decide) ?_
                refine lv_istore (lv' := [(5, .int 11), (4, .int (-1)), (3, .int (-1)), (0, .ref y), (1, .int (nI cz)), (2, .int (nI on))]) hx hb dX11_nets_51 hl (by decide) rfl (fun ls hl => ?_)
                have lp53 : ∀ (N : Nat) (j : Nat) (aa9 : Int32) (bb9 : Int32), (j = N) → (j ≤ 12) → (aa9 = -1 ∨ ∃ i, i < 12 ∧ aa9 = nI i ∧ f4 i = nI cz ∧ o3 i < 0) → (bb9 = -1 ∨ ∃ i, i < 12 ∧ bb9 = nI i ∧ f4 i = nI cz ∧ 0 < o3 i) → ∀ (ls : Array Slot), lv_has ls 7 [(0, .ref y), (1, .int (nI cz)), (2, .int (nI on)), (3, .int aa9), (4, .int bb9), (5, .int (nI j - 1))] → Wv p l e ({ frames := 1, cells := 0, slots := 0, locals := 25 }) s m args below meth c D A (0) (0) Q w35 (F0 m 53 ls []) := by
                  intro N
                  induction N with
                  | zero =>
                    intro j aa9 bb9 hN53 hj12 hA hB ls hl H locs hP hD hS
                    refine lv_iload hx hb dX11_nets_53 (lv_at hl 5 rfl) ?_
                    refine lv_if_lt (tgt := 117) hx hb dX11_nets_55 (by decide) (fun c_110 => ?_) (fun c_110 => absurd (by rw [show j = 0 by omega]; decide) c_110)
                    refine lv_iload_n hx hb dX11_nets_117 rfl (lv_at hl 3 rfl) ?_
                    refine lv_iconst (v := (-1)) hx hb dX11_nets_118 (by decide) ?_
                    refine lv_icmp_eq (tgt := 132) hx hb dX11_nets_119 (by decide) (fun c_111 => ?_) (fun c_111 => ?_)
                    · refine lv_iconst (v := 0) hx hb dX11_nets_132 (by decide) ?_
                      refine lv_istore_n (lv' := [(2, .int 0), (0, .ref y), (1, .int (nI cz)), (3, .int aa9), (4, .int bb9), (5, .int (nI j - 1))]) hx hb dX11_nets_133 rfl hl (by decide) rfl (fun ls hl => ?_)
                      refine lv_iload_n hx hb dX11_nets_134 rfl (lv_at hl 0 rfl) ?_
                      refine lv_if_eq (tgt := 208) hx hb dX11_nets_135 (by decide) (fun c_112 => ?_) (fun c_112 => absurd (show (0 : Int32) = (0 : Int32) by decide) c_112)
                      refine lv_goto (tgt := 40) hx hb dX11_nets_208 (by decide) ?_
                      exact ih40 0 gr o3 ea3 eb3 ec3 ed3 w35 (by omega) (by omega) (by omega) k36 k37 k38 k39 k40 k41 k42 k43 kp44 ls (lv_sub hl [1, 2, 0] rfl) H locs hP hD hS
                    · obtain ⟨ia, hia, rfl, hca, hoa⟩ := hA.resolve_left c_111
                      refine lv_iload hx hb dX11_nets_122 (lv_at hl 4 rfl) ?_
                      refine lv_iconst (v := (-1)) hx hb dX11_nets_124 (by decide) ?_
                      refine lv_icmp_eq (tgt := 132) hx hb dX11_nets_125 (by decide) (fun c_113 => ?_) (fun c_113 => ?_)
                      · refine lv_iconst (v := 0) hx hb dX11_nets_132 (by decide) ?_
                        refine lv_istore_n (lv' := [(2, .int 0), (0, .ref y), (1, .int (nI cz)), (3, .int (nI ia)), (4, .int bb9), (5, .int (nI j - 1))]) hx hb dX11_nets_133 rfl hl (by decide) rfl (fun ls hl => ?_)
                        refine lv_iload_n hx hb dX11_nets_134 rfl (lv_at hl 0 rfl) ?_
                        refine lv_if_eq (tgt := 208) hx hb dX11_nets_135 (by decide) (fun c_114 => ?_) (fun c_114 => absurd (show (0 : Int32) = (0 : Int32) by decide) c_114)
                        refine lv_goto (tgt := 40) hx hb dX11_nets_208 (by decide) ?_
                        exact ih40 0 gr o3 ea3 eb3 ec3 ed3 w35 (by omega) (by omega) (by omega) k36 k37 k38 k39 k40 k41 k42 k43 kp44 ls (lv_sub hl [1, 2, 0] rfl) H locs hP hD hS
                      · obtain ⟨ib, hib, rfl, hcb, hob⟩ := hB.resolve_left c_113
                        refine lv_iconst (v := 1) hx hb dX11_nets_128 (by decide) ?_
                        refine lv_goto (tgt := 133) hx hb dX11_nets_129 (by decide) ?_
                        refine lv_istore_n (lv' := [(2, .int 1), (0, .ref y), (1, .int (nI cz)), (3, .int (nI ia)), (4, .int (nI ib)), (5, .int (nI j - 1))]) hx hb dX11_nets_133 rfl hl (by decide) rfl (fun ls hl => ?_)
                        refine lv_iload_n hx hb dX11_nets_134 rfl (lv_at hl 0 rfl) ?_
                        refine lv_if_eq (tgt := 208) hx hb dX11_nets_135 (by decide) (fun c_115 => absurd c_115 (show ¬ (1 : Int32) = (0 : Int32) by decide)) (fun c_115 => ?_)
                        refine lv_aload_n hx hb dX11_nets_138 rfl (lv_at hl 1 rfl) ?_
                        refine x_get (ref := "NoteHouseModel") F hP k36 rfl (fun _ h => List.mem_cons_of_mem _ (List.mem_append_right _ (h))) 54 (Nat.le_of_ble_eq_true rfl) (List.mem_cons_of_mem _ (List.mem_append_left _ (List.mem_of_getElem? (i := 1) rfl))) rfl rfl dX11_nets_139 ?_
                        refine lv_iload_n hx hb dX11_nets_142 rfl (lv_at hl 3 rfl) ?_
                        refine x_lald F hP k39 (vp_in_nI (n := ia) (N := 12) (by omega) (by decide)) dX11_nets_143 ?_
                        rw [nI_clamp (n := ia) (by omega)]
                        refine lv_lneg hx hb dX11_nets_144 ?_
                        refine lv_aload_n hx hb dX11_nets_145 rfl (lv_at hl 1 rfl) ?_
                        refine x_get (ref := "NoteHouseModel") F hP k36 rfl (fun _ h => List.mem_cons_of_mem _ (List.mem_append_right _ (h))) 54 (Nat.le_of_ble_eq_true rfl) (List.mem_cons_of_mem _ (List.mem_append_left _ (List.mem_of_getElem? (i := 1) rfl))) rfl rfl dX11_nets_146 ?_
                        refine lv_iload hx hb dX11_nets_149 (lv_at hl 4 rfl) ?_
                        refine x_lald F hP k39 (vp_in_nI (n := ib) (N := 12) (by omega) (by decide)) dX11_nets_151 ?_
                        rw [nI_clamp (n := ib) (by omega)]
                        refine W.lcmp hx hb dX11_nets_152 ?_
                        refine lv_if_ge (tgt := 166) hx hb dX11_nets_153 (by decide) (fun c_116 => ?_) (fun c_116 => ?_)
                        · refine lv_aload_n hx hb dX11_nets_166 rfl (lv_at hl 1 rfl) ?_
                          refine x_get (ref := "NoteHouseModel") F hP k36 rfl (fun _ h => List.mem_cons_of_mem _ (List.mem_append_right _ (h))) 54 (Nat.le_of_ble_eq_true rfl) (List.mem_cons_of_mem _ (List.mem_append_left _ (List.mem_of_getElem? (i := 1) rfl))) rfl rfl dX11_nets_167 ?_
                          refine lv_iload hx hb dX11_nets_170 (lv_at hl 4 rfl) ?_
                          refine x_lald F hP k39 (vp_in_nI (n := ib) (N := 12) (by omega) (by decide)) dX11_nets_172 ?_
                          rw [nI_clamp (n := ib) (by omega)]
                          refine lv_lstore (lv' := [(5, .long (o3 ib)), (2, .int 1), (0, .ref y), (1, .int (nI cz)), (3, .int (nI ia)), (4, .int (nI ib))]) hx hb dX11_nets_173 hl (by decide) rfl (fun ls hl => ?_)
                          refine lv_aload_n hx hb dX11_nets_175 rfl (lv_at hl 2 rfl) ?_
                          refine lv_iload_n hx hb dX11_nets_176 rfl (lv_at hl 4 rfl) ?_
                          refine lv_iload hx hb dX11_nets_177 (lv_at hl 5 rfl) ?_
                          refine lv_lload hx hb dX11_nets_179 (lv_at hl 0 rfl) ?_
                          refine lv_iload_n hx hb dX11_nets_181 rfl (lv_at hl 3 rfl) ?_
                          refine x_callV (n := 4) (As := [.int (nI ia), .int (nI ib), .long (o3 ib), .int (nI cz)]) (rest := []) F hP hD hS (m_gift l D cy sk sv w35 tg y m2 m3 m4 m5 m6 m8 m9 m10 m11 m12 m13 m14 m17 m18 m19 m20 m21 m22 m23 m24 m29 m30 m31 m32 m33 m34 m35 m36 m37 m39 m40 m41 m42 m43 m44 m45 m46 m47 m48 m49 m51 m52 m53 m54 m56 m57 m58 m59 pc ac sc ln sh gr v0 td v26 v27 v28 v50 ea3 eb3 ec3 ed3 (nI ia) (nI ib) (nI cz) (o3 ib) k36 k40 k41 k42 k43 (fun b => b = y ∨ b = m56 ∨ b = m57 ∨ b = m58 ∨ b = m59) (Or.inl rfl) (Or.inr (Or.inl rfl)) (Or.inr (Or.inr (Or.inl rfl))) (Or.inr (Or.inr (Or.inr (Or.inl rfl)))) (Or.inr (Or.inr (Or.inr (Or.inr rfl)))) ty tm56 tm57 tm58 tm59 (by omega)) gX11_nets_X11_gift rfl rfl (by decide +kernel) ⟨(Nat.le_of_ble_eq_true rfl), (Nat.le_of_ble_eq_true rfl)⟩ rfl hl.1 (Nat.le_of_ble_eq_true rfl) k36 rfl dX11_nets_182 rfl ⟨(Nat.le_of_ble_eq_true rfl), (Nat.le_of_ble_eq_true rfl)⟩ (fun v118 w119 hp117 H locs hP hD hS => ?_)
                          obtain ⟨gx120, gx121, gx122, gx123, rfl, kq129, k124, k125, k126, k127, k128⟩ := hp117
                          have k130 := kq129.2 _ _ k37 (orN (tg_ne tm4 ty (by decide)) (orN (tg_ne tm4 tm56 (by decide)) (orN (tg_ne tm4 tm57 (by decide)) (orN (tg_ne tm4 tm58 (by decide)) (tg_ne tm4 tm59 (by decide))))))
                          have k131 := kq129.2 _ _ k38 (orN (tg_ne tm53 ty (by decide)) (orN (tg_ne tm53 tm56 (by decide)) (orN (tg_ne tm53 tm57 (by decide)) (orN (tg_ne tm53 tm58 (by decide)) (tg_ne tm53 tm59 (by decide))))))
                          have k132 := kq129.2 _ _ k39 (orN (tg_ne tm54 ty (by decide)) (orN (tg_ne tm54 tm56 (by decide)) (orN (tg_ne tm54 tm57 (by decide)) (orN (tg_ne tm54 tm58 (by decide)) (tg_ne tm54 tm59 (by decide))))))
                          have kp133 := kp44.tr kq129 (fun b9 hm q9 => (fun q9 => Or.elim q9 (fun q9 => q9 ▸ s90) (fun q9 => Or.elim q9 (fun q9 => q9 ▸ s92) (fun q9 => Or.elim q9 (fun q9 => q9 ▸ s93) (fun q9 => Or.elim q9 (fun q9 => q9 ▸ s94) (fun q9 => q9 ▸ s95))))) q9)
                          refine W.eq (g2 := F0 m 185 ls []) rfl (W.widen (k := 0) (n := 0) (Nat.le_of_ble_eq_true rfl) (Nat.le_of_ble_eq_true rfl) ?_)
                          refine lv_aload_n hx hb dX11_nets_185 rfl (lv_at hl 2 rfl) ?_
                          refine x_get (ref := "NoteHouseModel") F hP k124 rfl (fun _ h => List.mem_cons_of_mem _ (List.mem_append_right _ (h))) 54 (Nat.le_of_ble_eq_true rfl) (List.mem_cons_of_mem _ (List.mem_append_left _ (List.mem_of_getElem? (i := 1) rfl))) rfl rfl dX11_nets_186 ?_
                          refine lv_iload_n hx hb dX11_nets_189 rfl (lv_at hl 4 rfl) ?_
                          refine lv_dup2_11 hx hb dX11_nets_190 rfl rfl ?_
                          refine x_lald F hP k132 (vp_in_nI (n := ia) (N := 12) (by omega) (by decide)) dX11_nets_191 ?_
                          refine lv_lload hx hb dX11_nets_192 (lv_at hl 0 rfl) ?_
                          refine lv_ladd hx hb dX11_nets_194 ?_
                          refine y_last F hP hD hS k132 (vp_in_nI (n := ia) (N := 12) (by omega) (by decide)) dX11_nets_195 (fun w134 ew135 H locs hP hD hS => ?_)
                          have k136 := wd_at.pt ew135 k124 (tg_ne ty tm54 (by decide))
                          have k137 := wd_at.pt ew135 k130 (tg_ne tm4 tm54 (by decide))
                          have k138 := wd_at.pt ew135 k131 (tg_ne tm53 tm54 (by decide))
                          have k139 : wd_at w134 m54 (.inl (cy 3, 12, .inr (.inl (vp_updL o3 (nI ia).toNatClampNeg ((o3 (nI ia).toNatClampNeg) + (o3 ib)))))) := wd_at.ps ew135 k132
                          have k140 := wd_at.pt ew135 k125 (tg_ne tm56 tm54 (by decide))
                          have k141 := wd_at.pt ew135 k126 (tg_ne tm57 tm54 (by decide))
                          have k142 := wd_at.pt ew135 k127 (tg_ne tm58 tm54 (by decide))
                          have k143 := wd_at.pt ew135 k128 (tg_ne tm59 tm54 (by decide))
                          have kp144 := kp133.put ew135 s91
                          refine lv_aload_n hx hb dX11_nets_196 rfl (lv_at hl 2 rfl) ?_
                          refine x_get (ref := "NoteHouseModel") F hP k136 rfl (fun _ h => List.mem_cons_of_mem _ (List.mem_append_right _ (h))) 54 (Nat.le_of_ble_eq_true rfl) (List.mem_cons_of_mem _ (List.mem_append_left _ (List.mem_of_getElem? (i := 1) rfl))) rfl rfl dX11_nets_197 ?_
                          refine lv_iload hx hb dX11_nets_200 (lv_at hl 5 rfl) ?_
                          refine lv_dup2_11 hx hb dX11_nets_202 rfl rfl ?_
                          refine x_lald F hP k139 (vp_in_nI (n := ib) (N := 12) (by omega) (by decide)) dX11_nets_203 ?_
                          refine lv_lload hx hb dX11_nets_204 (lv_at hl 0 rfl) ?_
                          refine lv_lsub hx hb dX11_nets_206 ?_
                          refine y_last F hP hD hS k139 (vp_in_nI (n := ib) (N := 12) (by omega) (by decide)) dX11_nets_207 (fun w145 ew146 H locs hP hD hS => ?_)
                          have k147 := wd_at.pt ew146 k136 (tg_ne ty tm54 (by decide))
                          have k148 := wd_at.pt ew146 k137 (tg_ne tm4 tm54 (by decide))
                          have k149 := wd_at.pt ew146 k138 (tg_ne tm53 tm54 (by decide))
                          have k150 : wd_at w145 m54 (.inl (cy 3, 12, .inr (.inl (vp_updL (vp_updL o3 (nI ia).toNatClampNeg ((o3 (nI ia).toNatClampNeg) + (o3 ib))) (nI ib).toNatClampNeg (((vp_updL o3 (nI ia).toNatClampNeg ((o3 (nI ia).toNatClampNeg) + (o3 ib))) (nI ib).toNatClampNeg) - (o3 ib)))))) := wd_at.ps ew146 k139
                          have k151 := wd_at.pt ew146 k140 (tg_ne tm56 tm54 (by decide))
                          have k152 := wd_at.pt ew146 k141 (tg_ne tm57 tm54 (by decide))
                          have k153 := wd_at.pt ew146 k142 (tg_ne tm58 tm54 (by decide))
                          have k154 := wd_at.pt ew146 k143 (tg_ne tm59 tm54 (by decide))
                          have kp155 := kp144.put ew146 s91
                          refine lv_goto (tgt := 40) hx hb dX11_nets_208 (by decide) ?_
                          exact ih40 1 (gr + 1) (vp_updL (vp_updL o3 (nI ia).toNatClampNeg ((o3 (nI ia).toNatClampNeg) + (o3 ib))) (nI ib).toNatClampNeg (((vp_updL o3 (nI ia).toNatClampNeg ((o3 (nI ia).toNatClampNeg) + (o3 ib))) (nI ib).toNatClampNeg) - (o3 ib))) gx120 gx121 gx122 gx123 w145 (by have h9 := nq_d (co := f4) (o := o3) (c := cz) (a := ia) (b := ib) (v := o3 ib) hia hib hca hcb hoa hob (Or.inr rfl); omega) (by have h9 := nq_d (co := f4) (o := o3) (c := cz) (a := ia) (b := ib) (v := o3 ib) hia hib hca hcb hoa hob (Or.inr rfl); omega) (by omega) k147 k148 k149 k150 k151 k152 k153 k154 kp155 ls (lv_sub hl [2, 3, 1] rfl) H locs hP hD hS
                        · refine lv_aload_n hx hb dX11_nets_156 rfl (lv_at hl 1 rfl) ?_
                          refine x_get (ref := "NoteHouseModel") F hP k36 rfl (fun _ h => List.mem_cons_of_mem _ (List.mem_append_right _ (h))) 54 (Nat.le_of_ble_eq_true rfl) (List.mem_cons_of_mem _ (List.mem_append_left _ (List.mem_of_getElem? (i := 1) rfl))) rfl rfl dX11_nets_157 ?_
                          refine lv_iload_n hx hb dX11_nets_160 rfl (lv_at hl 3 rfl) ?_
                          refine x_lald F hP k39 (vp_in_nI (n := ia) (N := 12) (by omega) (by decide)) dX11_nets_161 ?_
                          rw [nI_clamp (n := ia) (by omega)]
                          refine lv_lneg hx hb dX11_nets_162 ?_
                          refine lv_goto (tgt := 173) hx hb dX11_nets_163 (by decide) ?_
                          refine lv_lstore (lv' := [(5, .long (-(o3 ia))), (2, .int 1), (0, .ref y), (1, .int (nI cz)), (3, .int (nI ia)), (4, .int (nI ib))]) hx hb dX11_nets_173 hl (by decide) rfl (fun ls hl => ?_)
                          refine lv_aload_n hx hb dX11_nets_175 rfl (lv_at hl 2 rfl) ?_
                          refine lv_iload_n hx hb dX11_nets_176 rfl (lv_at hl 4 rfl) ?_
                          refine lv_iload hx hb dX11_nets_177 (lv_at hl 5 rfl) ?_
                          refine lv_lload hx hb dX11_nets_179 (lv_at hl 0 rfl) ?_
                          refine lv_iload_n hx hb dX11_nets_181 rfl (lv_at hl 3 rfl) ?_
                          refine x_callV (n := 4) (As := [.int (nI ia), .int (nI ib), .long (-(o3 ia)), .int (nI cz)]) (rest := []) F hP hD hS (m_gift l D cy sk sv w35 tg y m2 m3 m4 m5 m6 m8 m9 m10 m11 m12 m13 m14 m17 m18 m19 m20 m21 m22 m23 m24 m29 m30 m31 m32 m33 m34 m35 m36 m37 m39 m40 m41 m42 m43 m44 m45 m46 m47 m48 m49 m51 m52 m53 m54 m56 m57 m58 m59 pc ac sc ln sh gr v0 td v26 v27 v28 v50 ea3 eb3 ec3 ed3 (nI ia) (nI ib) (nI cz) (-(o3 ia)) k36 k40 k41 k42 k43 (fun b => b = y ∨ b = m56 ∨ b = m57 ∨ b = m58 ∨ b = m59) (Or.inl rfl) (Or.inr (Or.inl rfl)) (Or.inr (Or.inr (Or.inl rfl))) (Or.inr (Or.inr (Or.inr (Or.inl rfl)))) (Or.inr (Or.inr (Or.inr (Or.inr rfl)))) ty tm56 tm57 tm58 tm59 (by omega)) gX11_nets_X11_gift rfl rfl (by decide +kernel) ⟨(Nat.le_of_ble_eq_true rfl), (Nat.le_of_ble_eq_true rfl)⟩ rfl hl.1 (Nat.le_of_ble_eq_true rfl) k36 rfl dX11_nets_182 rfl ⟨(Nat.le_of_ble_eq_true rfl), (Nat.le_of_ble_eq_true rfl)⟩ (fun v157 w158 hp156 H locs hP hD hS => ?_)
                          obtain ⟨gx159, gx160, gx161, gx162, rfl, kq168, k163, k164, k165, k166, k167⟩ := hp156
                          have k169 := kq168.2 _ _ k37 (orN (tg_ne tm4 ty (by decide)) (orN (tg_ne tm4 tm56 (by decide)) (orN (tg_ne tm4 tm57 (by decide)) (orN (tg_ne tm4 tm58 (by decide)) (tg_ne tm4 tm59 (by decide))))))
                          have k170 := kq168.2 _ _ k38 (orN (tg_ne tm53 ty (by decide)) (orN (tg_ne tm53 tm56 (by decide)) (orN (tg_ne tm53 tm57 (by decide)) (orN (tg_ne tm53 tm58 (by decide)) (tg_ne tm53 tm59 (by decide))))))
                          have k171 := kq168.2 _ _ k39 (orN (tg_ne tm54 ty (by decide)) (orN (tg_ne tm54 tm56 (by decide)) (orN (tg_ne tm54 tm57 (by decide)) (orN (tg_ne tm54 tm58 (by decide)) (tg_ne tm54 tm59 (by decide))))))
                          have kp172 := kp44.tr kq168 (fun b9 hm q9 => (fun q9 => Or.elim q9 (fun q9 => q9 ▸ s90) (fun q9 => Or.elim q9 (fun q9 => q9 ▸ s92) (fun q9 => Or.elim q9 (fun q9 => q9 ▸ s93) (fun q9 => Or.elim q9 (fun q9 => q9 ▸ s94) (fun q9 => q9 ▸ s95))))) q9)
                          refine W.eq (g2 := F0 m 185 ls []) rfl (W.widen (k := 0) (n := 0) (Nat.le_of_ble_eq_true rfl) (Nat.le_of_ble_eq_true rfl) ?_)
                          refine lv_aload_n hx hb dX11_nets_185 rfl (lv_at hl 2 rfl) ?_
                          refine x_get (ref := "NoteHouseModel") F hP k163 rfl (fun _ h => List.mem_cons_of_mem _ (List.mem_append_right _ (h))) 54 (Nat.le_of_ble_eq_true rfl) (List.mem_cons_of_mem _ (List.mem_append_left _ (List.mem_of_getElem? (i := 1) rfl))) rfl rfl dX11_nets_186 ?_
                          refine lv_iload_n hx hb dX11_nets_189 rfl (lv_at hl 4 rfl) ?_
                          refine lv_dup2_11 hx hb dX11_nets_190 rfl rfl ?_
                          refine x_lald F hP k171 (vp_in_nI (n := ia) (N := 12) (by omega) (by decide)) dX11_nets_191 ?_
                          refine lv_lload hx hb dX11_nets_192 (lv_at hl 0 rfl) ?_
                          refine lv_ladd hx hb dX11_nets_194 ?_
                          refine y_last F hP hD hS k171 (vp_in_nI (n := ia) (N := 12) (by omega) (by decide)) dX11_nets_195 (fun w173 ew174 H locs hP hD hS => ?_)
                          have k175 := wd_at.pt ew174 k163 (tg_ne ty tm54 (by decide))
                          have k176 := wd_at.pt ew174 k169 (tg_ne tm4 tm54 (by decide))
                          have k177 := wd_at.pt ew174 k170 (tg_ne tm53 tm54 (by decide))
                          have k178 : wd_at w173 m54 (.inl (cy 3, 12, .inr (.inl (vp_updL o3 (nI ia).toNatClampNeg ((o3 (nI ia).toNatClampNeg) + (-(o3 ia))))))) := wd_at.ps ew174 k171
                          have k179 := wd_at.pt ew174 k164 (tg_ne tm56 tm54 (by decide))
                          have k180 := wd_at.pt ew174 k165 (tg_ne tm57 tm54 (by decide))
                          have k181 := wd_at.pt ew174 k166 (tg_ne tm58 tm54 (by decide))
                          have k182 := wd_at.pt ew174 k167 (tg_ne tm59 tm54 (by decide))
                          have kp183 := kp172.put ew174 s91
                          refine lv_aload_n hx hb dX11_nets_196 rfl (lv_at hl 2 rfl) ?_
                          refine x_get (ref := "NoteHouseModel") F hP k175 rfl (fun _ h => List.mem_cons_of_mem _ (List.mem_append_right _ (h))) 54 (Nat.le_of_ble_eq_true rfl) (List.mem_cons_of_mem _ (List.mem_append_left _ (List.mem_of_getElem? (i := 1) rfl))) rfl rfl dX11_nets_197 ?_
                          refine lv_iload hx hb dX11_nets_200 (lv_at hl 5 rfl) ?_
                          refine lv_dup2_11 hx hb dX11_nets_202 rfl rfl ?_
                          refine x_lald F hP k178 (vp_in_nI (n := ib) (N := 12) (by omega) (by decide)) dX11_nets_203 ?_
                          refine lv_lload hx hb dX11_nets_204 (lv_at hl 0 rfl) ?_
                          refine lv_lsub hx hb dX11_nets_206 ?_
                          refine y_last F hP hD hS k178 (vp_in_nI (n := ib) (N := 12) (by omega) (by decide)) dX11_nets_207 (fun w184 ew185 H locs hP hD hS => ?_)
                          have k186 := wd_at.pt ew185 k175 (tg_ne ty tm54 (by decide))
                          have k187 := wd_at.pt ew185 k176 (tg_ne tm4 tm54 (by decide))
                          have k188 := wd_at.pt ew185 k177 (tg_ne tm53 tm54 (by decide))
                          have k189 : wd_at w184 m54 (.inl (cy 3, 12, .inr (.inl (vp_updL (vp_updL o3 (nI ia).toNatClampNeg ((o3 (nI ia).toNatClampNeg) + (-(o3 ia)))) (nI ib).toNatClampNeg (((vp_updL o3 (nI ia).toNatClampNeg ((o3 (nI ia).toNatClampNeg) + (-(o3 ia)))) (nI ib).toNatClampNeg) - (-(o3 ia))))))) := wd_at.ps ew185 k178
                          have k190 := wd_at.pt ew185 k179 (tg_ne tm56 tm54 (by decide))
                          have k191 := wd_at.pt ew185 k180 (tg_ne tm57 tm54 (by decide))
                          have k192 := wd_at.pt ew185 k181 (tg_ne tm58 tm54 (by decide))
                          have k193 := wd_at.pt ew185 k182 (tg_ne tm59 tm54 (by decide))
                          have kp194 := kp183.put ew185 s91
                          refine lv_goto (tgt := 40) hx hb dX11_nets_208 (by decide) ?_
                          exact ih40 1 (gr + 1) (vp_updL (vp_updL o3 (nI ia).toNatClampNeg ((o3 (nI ia).toNatClampNeg) + (-(o3 ia)))) (nI ib).toNatClampNeg (((vp_updL o3 (nI ia).toNatClampNeg ((o3 (nI ia).toNatClampNeg) + (-(o3 ia)))) (nI ib).toNatClampNeg) - (-(o3 ia)))) gx159 gx160 gx161 gx162 w184 (by have h9 := nq_d (co := f4) (o := o3) (c := cz) (a := ia) (b := ib) (v := -(o3 ia)) hia hib hca hcb hoa hob (Or.inl rfl); omega) (by have h9 := nq_d (co := f4) (o := o3) (c := cz) (a := ia) (b := ib) (v := -(o3 ia)) hia hib hca hcb hoa hob (Or.inl rfl); omega) (by omega) k186 k187 k188 k189 k190 k191 k192 k193 kp194 ls (lv_sub hl [2, 3, 1] rfl) H locs hP hD hS
                  | succ N ih53 =>
                    intro j aa9 bb9 hN53 hj12 hA hB ls hl H locs hP hD hS
                    have hl : lv_has ls 7 [(0, .ref y), (1, .int (nI cz)), (2, .int (nI on)), (3, .int aa9), (4, .int bb9), (5, .int (nI N))] := by have h9 := hl; rw [hN53, nI_p1] at h9; exact h9
                    refine lv_iload hx hb dX11_nets_53 (lv_at hl 5 rfl) ?_
                    refine lv_if_lt (tgt := 117) hx hb dX11_nets_55 (by decide) (fun c_195 => absurd c_195 (nI_pos (by omega))) (fun c_195 => ?_)
                    refine lv_aload_n hx hb dX11_nets_58 rfl (lv_at hl 0 rfl) ?_
                    refine x_get (ref := "NoteHouseModel") F hP k36 rfl (fun _ h => List.mem_cons_of_mem _ (List.mem_append_right _ (h))) 4 (Nat.le_of_ble_eq_true rfl) (List.mem_cons_of_mem _ (List.mem_append_left _ (List.mem_of_getElem? (i := 3) rfl))) rfl rfl dX11_nets_59 ?_
                    refine lv_iload hx hb dX11_nets_62 (lv_at hl 5 rfl) ?_
                    refine x_iald F hP k37 (vp_in_nI (n := N) (N := 12) (by omega) (by decide)) dX11_nets_64 ?_
                    rw [nI_clamp (n := N) (by omega)]
                    refine lv_iload_n hx hb dX11_nets_65 rfl (lv_at hl 1 rfl) ?_
                    refine lv_icmp_ne (tgt := 84) hx hb dX11_nets_66 (by decide) (fun cq1 => ?_) (fun cq1 => ?_)
                    · refine lv_aload_n hx hb dX11_nets_84 rfl (lv_at hl 0 rfl) ?_
                      refine x_get (ref := "NoteHouseModel") F hP k36 rfl (fun _ h => List.mem_cons_of_mem _ (List.mem_append_right _ (h))) 4 (Nat.le_of_ble_eq_true rfl) (List.mem_cons_of_mem _ (List.mem_append_left _ (List.mem_of_getElem? (i := 3) rfl))) rfl rfl dX11_nets_85 ?_
                      refine lv_iload hx hb dX11_nets_88 (lv_at hl 5 rfl) ?_
                      refine x_iald F hP k37 (vp_in_nI (n := N) (N := 12) (by omega) (by decide)) dX11_nets_90 ?_
                      rw [nI_clamp (n := N) (by omega)]
                      refine lv_iload_n hx hb dX11_nets_91 rfl (lv_at hl 1 rfl) ?_
                      refine lv_icmp_ne (tgt := 111) hx hb dX11_nets_92 (by decide) (fun cq3 => ?_) (fun cq3 => ?_)
                      · refine lv_iinc (v := nI N - 1) (lv' := [(5, .int (nI N - 1)), (0, .ref y), (1, .int (nI cz)), (2, .int (nI on)), (3, .int aa9), (4, .int bb9)]) hx hb dX11_nets_111 hl (k := 5) rfl (dec1 (nI N)) (by decide) rfl (fun ls hl => ?_)
                        refine lv_goto (tgt := 53) hx hb dX11_nets_114 (by decide) ?_
                        exact ih53 N aa9 bb9  rfl (by omega) hA hB   ls (lv_sub hl [1, 2, 3, 4, 5, 0] rfl) H locs hP hD hS
                      · refine lv_aload_n hx hb dX11_nets_95 rfl (lv_at hl 0 rfl) ?_
                        refine x_get (ref := "NoteHouseModel") F hP k36 rfl (fun _ h => List.mem_cons_of_mem _ (List.mem_append_right _ (h))) 54 (Nat.le_of_ble_eq_true rfl) (List.mem_cons_of_mem _ (List.mem_append_left _ (List.mem_of_getElem? (i := 1) rfl))) rfl rfl dX11_nets_96 ?_
                        refine lv_iload hx hb dX11_nets_99 (lv_at hl 5 rfl) ?_
                        refine x_lald F hP k39 (vp_in_nI (n := N) (N := 12) (by omega) (by decide)) dX11_nets_101 ?_
                        rw [nI_clamp (n := N) (by omega)]
                        refine lv_lconst (v := 0) hx hb dX11_nets_102 (by decide) ?_
                        refine W.lcmp hx hb dX11_nets_103 ?_
                        refine lv_if_le (tgt := 111) hx hb dX11_nets_104 (by decide) (fun cq4 => ?_) (fun cq4 => ?_)
                        · refine lv_iinc (v := nI N - 1) (lv' := [(5, .int (nI N - 1)), (0, .ref y), (1, .int (nI cz)), (2, .int (nI on)), (3, .int aa9), (4, .int bb9)]) hx hb dX11_nets_111 hl (k := 5) rfl (dec1 (nI N)) (by decide) rfl (fun ls hl => ?_)
                          refine lv_goto (tgt := 53) hx hb dX11_nets_114 (by decide) ?_
                          exact ih53 N aa9 bb9  rfl (by omega) hA hB   ls (lv_sub hl [1, 2, 3, 4, 5, 0] rfl) H locs hP hD hS
                        · refine lv_iload hx hb dX11_nets_107 (lv_at hl 5 rfl) ?_
                          refine lv_istore (lv' := [(4, .int (nI N)), (0, .ref y), (1, .int (nI cz)), (2, .int (nI on)), (3, .int aa9), (5, .int (nI N))]) hx hb dX11_nets_109 hl (by decide) rfl (fun ls hl => ?_)
                          refine lv_iinc (v := nI N - 1) (lv' := [(5, .int (nI N - 1)), (4, .int (nI N)), (0, .ref y), (1, .int (nI cz)), (2, .int (nI on)), (3, .int aa9)]) hx hb dX11_nets_111 hl (k := 5) rfl (dec1 (nI N)) (by decide) rfl (fun ls hl => ?_)
                          refine lv_goto (tgt := 53) hx hb dX11_nets_114 (by decide) ?_
                          exact ih53 N aa9 (nI N)  rfl (by omega) hA (Or.inr ⟨N, by omega, rfl, cq3, (Int64.not_le.mp (fun q => cq4 ((lg_cmp_le _ _).mpr q)))⟩)   ls (lv_sub hl [2, 3, 4, 5, 1, 0] rfl) H locs hP hD hS
                    · refine lv_aload_n hx hb dX11_nets_69 rfl (lv_at hl 0 rfl) ?_
                      refine x_get (ref := "NoteHouseModel") F hP k36 rfl (fun _ h => List.mem_cons_of_mem _ (List.mem_append_right _ (h))) 54 (Nat.le_of_ble_eq_true rfl) (List.mem_cons_of_mem _ (List.mem_append_left _ (List.mem_of_getElem? (i := 1) rfl))) rfl rfl dX11_nets_70 ?_
                      refine lv_iload hx hb dX11_nets_73 (lv_at hl 5 rfl) ?_
                      refine x_lald F hP k39 (vp_in_nI (n := N) (N := 12) (by omega) (by decide)) dX11_nets_75 ?_
                      rw [nI_clamp (n := N) (by omega)]
                      refine lv_lconst (v := 0) hx hb dX11_nets_76 (by decide) ?_
                      refine W.lcmp hx hb dX11_nets_77 ?_
                      refine lv_if_ge (tgt := 84) hx hb dX11_nets_78 (by decide) (fun cq2 => ?_) (fun cq2 => ?_)
                      · refine lv_aload_n hx hb dX11_nets_84 rfl (lv_at hl 0 rfl) ?_
                        refine x_get (ref := "NoteHouseModel") F hP k36 rfl (fun _ h => List.mem_cons_of_mem _ (List.mem_append_right _ (h))) 4 (Nat.le_of_ble_eq_true rfl) (List.mem_cons_of_mem _ (List.mem_append_left _ (List.mem_of_getElem? (i := 3) rfl))) rfl rfl dX11_nets_85 ?_
                        refine lv_iload hx hb dX11_nets_88 (lv_at hl 5 rfl) ?_
                        refine x_iald F hP k37 (vp_in_nI (n := N) (N := 12) (by omega) (by decide)) dX11_nets_90 ?_
                        rw [nI_clamp (n := N) (by omega)]
                        refine lv_iload_n hx hb dX11_nets_91 rfl (lv_at hl 1 rfl) ?_
                        refine lv_icmp_ne (tgt := 111) hx hb dX11_nets_92 (by decide) (fun cq3 => ?_) (fun cq3 => ?_)
                        · refine lv_iinc (v := nI N - 1) (lv' := [(5, .int (nI N - 1)), (0, .ref y), (1, .int (nI cz)), (2, .int (nI on)), (3, .int aa9), (4, .int bb9)]) hx hb dX11_nets_111 hl (k := 5) rfl (dec1 (nI N)) (by decide) rfl (fun ls hl => ?_)
                          refine lv_goto (tgt := 53) hx hb dX11_nets_114 (by decide) ?_
                          exact ih53 N aa9 bb9  rfl (by omega) hA hB   ls (lv_sub hl [1, 2, 3, 4, 5, 0] rfl) H locs hP hD hS
                        · refine lv_aload_n hx hb dX11_nets_95 rfl (lv_at hl 0 rfl) ?_
                          refine x_get (ref := "NoteHouseModel") F hP k36 rfl (fun _ h => List.mem_cons_of_mem _ (List.mem_append_right _ (h))) 54 (Nat.le_of_ble_eq_true rfl) (List.mem_cons_of_mem _ (List.mem_append_left _ (List.mem_of_getElem? (i := 1) rfl))) rfl rfl dX11_nets_96 ?_
                          refine lv_iload hx hb dX11_nets_99 (lv_at hl 5 rfl) ?_
                          refine x_lald F hP k39 (vp_in_nI (n := N) (N := 12) (by omega) (by decide)) dX11_nets_101 ?_
                          rw [nI_clamp (n := N) (by omega)]
                          refine lv_lconst (v := 0) hx hb dX11_nets_102 (by decide) ?_
                          refine W.lcmp hx hb dX11_nets_103 ?_
                          refine lv_if_le (tgt := 111) hx hb dX11_nets_104 (by decide) (fun cq4 => ?_) (fun cq4 => ?_)
                          · refine lv_iinc (v := nI N - 1) (lv' := [(5, .int (nI N - 1)), (0, .ref y), (1, .int (nI cz)), (2, .int (nI on)), (3, .int aa9), (4, .int bb9)]) hx hb dX11_nets_111 hl (k := 5) rfl (dec1 (nI N)) (by decide) rfl (fun ls hl => ?_)
                            refine lv_goto (tgt := 53) hx hb dX11_nets_114 (by decide) ?_
                            exact ih53 N aa9 bb9  rfl (by omega) hA hB   ls (lv_sub hl [1, 2, 3, 4, 5, 0] rfl) H locs hP hD hS
                          · refine lv_iload hx hb dX11_nets_107 (lv_at hl 5 rfl) ?_
                            refine lv_istore (lv' := [(4, .int (nI N)), (0, .ref y), (1, .int (nI cz)), (2, .int (nI on)), (3, .int aa9), (5, .int (nI N))]) hx hb dX11_nets_109 hl (by decide) rfl (fun ls hl => ?_)
                            refine lv_iinc (v := nI N - 1) (lv' := [(5, .int (nI N - 1)), (4, .int (nI N)), (0, .ref y), (1, .int (nI cz)), (2, .int (nI on)), (3, .int aa9)]) hx hb dX11_nets_111 hl (k := 5) rfl (dec1 (nI N)) (by decide) rfl (fun ls hl => ?_)
                            refine lv_goto (tgt := 53) hx hb dX11_nets_114 (by decide) ?_
                            exact ih53 N aa9 (nI N)  rfl (by omega) hA (Or.inr ⟨N, by omega, rfl, cq3, (Int64.not_le.mp (fun q => cq4 ((lg_cmp_le _ _).mpr q)))⟩)   ls (lv_sub hl [2, 3, 4, 5, 1, 0] rfl) H locs hP hD hS
                      · refine lv_iload hx hb dX11_nets_81 (lv_at hl 5 rfl) ?_
                        refine lv_istore_n (lv' := [(3, .int (nI N)), (0, .ref y), (1, .int (nI cz)), (2, .int (nI on)), (4, .int bb9), (5, .int (nI N))]) hx hb dX11_nets_83 rfl hl (by decide) rfl (fun ls hl => ?_)
                        refine lv_aload_n hx hb dX11_nets_84 rfl (lv_at hl 1 rfl) ?_
                        refine x_get (ref := "NoteHouseModel") F hP k36 rfl (fun _ h => List.mem_cons_of_mem _ (List.mem_append_right _ (h))) 4 (Nat.le_of_ble_eq_true rfl) (List.mem_cons_of_mem _ (List.mem_append_left _ (List.mem_of_getElem? (i := 3) rfl))) rfl rfl dX11_nets_85 ?_
                        refine lv_iload hx hb dX11_nets_88 (lv_at hl 5 rfl) ?_
                        refine x_iald F hP k37 (vp_in_nI (n := N) (N := 12) (by omega) (by decide)) dX11_nets_90 ?_
                        rw [nI_clamp (n := N) (by omega)]
                        refine lv_iload_n hx hb dX11_nets_91 rfl (lv_at hl 2 rfl) ?_
                        refine lv_icmp_ne (tgt := 111) hx hb dX11_nets_92 (by decide) (fun cq3 => ?_) (fun cq3 => ?_)
                        · refine lv_iinc (v := nI N - 1) (lv' := [(5, .int (nI N - 1)), (3, .int (nI N)), (0, .ref y), (1, .int (nI cz)), (2, .int (nI on)), (4, .int bb9)]) hx hb dX11_nets_111 hl (k := 5) rfl (dec1 (nI N)) (by decide) rfl (fun ls hl => ?_)
                          refine lv_goto (tgt := 53) hx hb dX11_nets_114 (by decide) ?_
                          exact ih53 N (nI N) bb9  rfl (by omega) (Or.inr ⟨N, by omega, rfl, cq1, (Int64.not_le.mp (fun q => cq2 ((lg_cmp_ge _ _).mpr q)))⟩) hB   ls (lv_sub hl [2, 3, 4, 1, 5, 0] rfl) H locs hP hD hS
                        · refine lv_aload_n hx hb dX11_nets_95 rfl (lv_at hl 1 rfl) ?_
                          refine x_get (ref := "NoteHouseModel") F hP k36 rfl (fun _ h => List.mem_cons_of_mem _ (List.mem_append_right _ (h))) 54 (Nat.le_of_ble_eq_true rfl) (List.mem_cons_of_mem _ (List.mem_append_left _ (List.mem_of_getElem? (i := 1) rfl))) rfl rfl dX11_nets_96 ?_
                          refine lv_iload hx hb dX11_nets_99 (lv_at hl 5 rfl) ?_
                          refine x_lald F hP k39 (vp_in_nI (n := N) (N := 12) (by omega) (by decide)) dX11_nets_101 ?_
                          rw [nI_clamp (n := N) (by omega)]
                          refine lv_lconst (v := 0) hx hb dX11_nets_102 (by decide) ?_
                          refine W.lcmp hx hb dX11_nets_103 ?_
                          refine lv_if_le (tgt := 111) hx hb dX11_nets_104 (by decide) (fun cq4 => ?_) (fun cq4 => ?_)
                          · refine lv_iinc (v := nI N - 1) (lv' := [(5, .int (nI N - 1)), (3, .int (nI N)), (0, .ref y), (1, .int (nI cz)), (2, .int (nI on)), (4, .int bb9)]) hx hb dX11_nets_111 hl (k := 5) rfl (dec1 (nI N)) (by decide) rfl (fun ls hl => ?_)
                            refine lv_goto (tgt := 53) hx hb dX11_nets_114 (by decide) ?_
                            exact ih53 N (nI N) bb9  rfl (by omega) (Or.inr ⟨N, by omega, rfl, cq1, (Int64.not_le.mp (fun q => cq2 ((lg_cmp_ge _ _).mpr q)))⟩) hB   ls (lv_sub hl [2, 3, 4, 1, 5, 0] rfl) H locs hP hD hS
                          · refine lv_iload hx hb dX11_nets_107 (lv_at hl 5 rfl) ?_
                            refine lv_istore (lv' := [(4, .int (nI N)), (3, .int (nI N)), (0, .ref y), (1, .int (nI cz)), (2, .int (nI on)), (5, .int (nI N))]) hx hb dX11_nets_109 hl (by decide) rfl (fun ls hl => ?_)
                            refine lv_iinc (v := nI N - 1) (lv' := [(5, .int (nI N - 1)), (4, .int (nI N)), (3, .int (nI N)), (0, .ref y), (1, .int (nI cz)), (2, .int (nI on))]) hx hb dX11_nets_111 hl (k := 5) rfl (dec1 (nI N)) (by decide) rfl (fun ls hl => ?_)
                            refine lv_goto (tgt := 53) hx hb dX11_nets_114 (by decide) ?_
                            exact ih53 N (nI N) (nI N)  rfl (by omega) (Or.inr ⟨N, by omega, rfl, cq1, (Int64.not_le.mp (fun q => cq2 ((lg_cmp_ge _ _).mpr q)))⟩) (Or.inr ⟨N, by omega, rfl, cq3, (Int64.not_le.mp (fun q => cq4 ((lg_cmp_le _ _).mpr q)))⟩)   ls (lv_sub hl [3, 4, 5, 2, 1, 0] rfl) H locs hP hD hS
                exact lp53 12 12 (-1) (-1)  rfl (by omega) (Or.inl rfl) (Or.inl rfl)   ls (lv_sub hl [3, 4, 5, 2, 1, 0] rfl) H locs hP hD hS
          exact lp40 _ 1 gq o2 ea2 eb2 ec2 ed2 w23 (Nat.le_refl _) hg2 (by omega) k24 k25 k26 k27 k28 k29 k30 k31 kp32 ls (lv_sub hl [1, 2, 0] rfl) H locs hP hD hS
      exact lp33 _ 0 0 o1 f56 f57 f58 f59 w12 (Nat.zero_add 4) (by have h9 := nq_le f4 o1 0 0; omega) k13 k14 k15 k16 k17 k18 k19 k20 kp21 ls (lv_sub hl [1, 0] rfl) H locs hP hD hS
    | succ N ih7 =>
      intro t0 o1 w12 hN7 k13 k14 k15 k16 k17 k18 k19 k20 kp21 ls hl H locs hP hD hS
      refine lv_iload_n hx hb dX11_nets_7 rfl (lv_at hl 1 rfl) ?_
      refine lv_bipush (v := 12) hx hb dX11_nets_8 (by decide) ?_
      refine lv_icmp_ge (tgt := 31) hx hb dX11_nets_10 (by decide) (fun c_196 => absurd c_196 (nI_ge (a := t0) (b := 12) (by omega) (by omega))) (fun c_196 => ?_)
      refine lv_aload_n hx hb dX11_nets_13 rfl (lv_at hl 0 rfl) ?_
      refine x_get (ref := "NoteHouseModel") F hP k13 rfl (fun _ h => List.mem_cons_of_mem _ (List.mem_append_right _ (h))) 54 (Nat.le_of_ble_eq_true rfl) (List.mem_cons_of_mem _ (List.mem_append_left _ (List.mem_of_getElem? (i := 1) rfl))) rfl rfl dX11_nets_14 ?_
      refine lv_iload_n hx hb dX11_nets_17 rfl (lv_at hl 1 rfl) ?_
      refine lv_aload_n hx hb dX11_nets_18 rfl (lv_at hl 0 rfl) ?_
      refine x_get (ref := "NoteHouseModel") F hP k13 rfl (fun _ h => List.mem_cons_of_mem _ (List.mem_append_right _ (h))) 53 (Nat.le_of_ble_eq_true rfl) (List.mem_cons_of_mem _ (List.mem_append_left _ (List.mem_of_getElem? (i := 2) rfl))) rfl rfl dX11_nets_19 ?_
      refine lv_iload_n hx hb dX11_nets_22 rfl (lv_at hl 1 rfl) ?_
      refine x_lald F hP k15 (vp_in_nI (n := t0) (N := 12) (by omega) (by decide)) dX11_nets_23 ?_
      refine y_last F hP hD hS k16 (vp_in_nI (n := t0) (N := 12) (by omega) (by decide)) dX11_nets_24 (fun w197 ew198 H locs hP hD hS => ?_)
      have k199 := wd_at.pt ew198 k13 (tg_ne ty tm54 (by decide))
      have k200 := wd_at.pt ew198 k14 (tg_ne tm4 tm54 (by decide))
      have k201 := wd_at.pt ew198 k15 (tg_ne tm53 tm54 (by decide))
      have k202 : wd_at w197 m54 (.inl (cy 3, 12, .inr (.inl (vp_updL o1 (nI t0).toNatClampNeg (f53 (nI t0).toNatClampNeg))))) := wd_at.ps ew198 k16
      have k203 := wd_at.pt ew198 k17 (tg_ne tm56 tm54 (by decide))
      have k204 := wd_at.pt ew198 k18 (tg_ne tm57 tm54 (by decide))
      have k205 := wd_at.pt ew198 k19 (tg_ne tm58 tm54 (by decide))
      have k206 := wd_at.pt ew198 k20 (tg_ne tm59 tm54 (by decide))
      have kp207 := kp21.put ew198 s91
      refine lv_iinc (v := nI (t0 + 1)) (lv' := [(1, .int (nI (t0 + 1))), (0, .ref y)]) hx hb dX11_nets_25 hl (k := 1) rfl (nI_1 t0) (by decide) rfl (fun ls hl => ?_)
      refine lv_goto (tgt := 7) hx hb dX11_nets_28 (by decide) ?_
      exact ih7 (t0 + 1) (vp_updL o1 (nI t0).toNatClampNeg (f53 (nI t0).toNatClampNeg)) w197 (by omega)  k199 k200 k201 k202 k203 k204 k205 k206 kp207 ls (lv_sub hl [1, 0] rfl) H locs hP hD hS
  exact lp7 _ 0 f54 w1 (Nat.zero_add 12)  k3 k4 k5 k6 k7 k8 k9 k10 kp11 ls (lv_sub hl [1, 0] rfl) H locs hP hD hS
