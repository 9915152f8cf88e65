set_option maxHeartbeats 4000000 in
set_option maxRecDepth 100000 in
theorem m_nets (l : Launch) (D : va_G) (cy : Nat → ClassId) (sk sv : Nat → Nat) (w : Wd) (tg : Nat → Nat) (y m2 m3 m4 m5 m6 m8 m9 m10 m11 m12 m13 m14 m17 m18 m19 m20 m21 m22 m23 m24 m29 m30 m31 m32 m33 m34 m35 m36 m37 m39 m40 m41 m42 m43 m44 m45 m46 m47 m48 m49 m51 m52 m53 m54 m56 m57 m58 m59 pc ac sc ln sh gf : Nat) (v0 td v26 v27 v28 v50 : Int32) (f4 : Nat → Int32) (f53 : Nat → Int64) (f54 : Nat → Int64) (f56 : Nat → Int32) (f57 : Nat → Int32) (f58 : Nat → Int32) (f59 : Nat → Int64)  (c90 : wd_at w y (.inr (11, [.int v0, .int td, .ref m2, .ref m3, .ref m4, .ref m5, .ref m6, .int (nI pc), .ref m8, .ref m9, .ref m10, .ref m11, .ref m12, .ref m13, .ref m14, .int (nI ac), .int (nI sc), .ref m17, .ref m18, .ref m19, .ref m20, .ref m21, .ref m22, .ref m23, .ref m24, .int (nI ln), .int v26, .int v27, .int v28, .ref m29, .ref m30, .ref m31, .ref m32, .ref m33, .ref m34, .ref m35, .ref m36, .ref m37, .int (nI sh), .ref m39, .ref m40, .ref m41, .ref m42, .ref m43, .ref m44, .ref m45, .ref m46, .ref m47, .ref m48, .ref m49, .int v50, .ref m51, .ref m52, .ref m53, .ref m54, .int (nI gf), .ref m56, .ref m57, .ref m58, .ref m59]))) (c91 : wd_at w m4 (.inl (cy 2, 12, .inl f4))) (c92 : wd_at w m53 (.inl (cy 3, 12, .inr (.inl f53)))) (c93 : wd_at w m54 (.inl (cy 3, 12, .inr (.inl f54)))) (c94 : wd_at w m56 (.inl (cy 2, 60, .inl f56))) (c95 : wd_at w m57 (.inl (cy 2, 60, .inl f57))) (c96 : wd_at w m58 (.inl (cy 2, 60, .inl f58))) (c97 : wd_at w m59 (.inl (cy 3, 60, .inr (.inl f59))))  (S : Nat → Prop) (s90 : S y) (s91 : S m54) (s92 : S m56) (s93 : S m57) (s94 : S m58) (s95 : S m59) (ty : tg y = 10000) (tm4 : tg m4 = 10104) (tm53 : tg m53 = 10153) (tm54 : tg m54 = 10154) (tm56 : tg m56 = 10156) (tm57 : tg m57 = 10157) (tm58 : tg m58 = 10158) (tm59 : tg m59 = 10159) : Ct l D cy sk sv yX11_nets wsX11_nets ({ frames := 1, cells := 0, slots := 0, locals := 25 }) [.ref y] w (fun v w1 => ∃ (gf1 : Nat) (g54 : Nat → Int64) (g56 : Nat → Int32) (g57 : Nat → Int32) (g58 : Nat → Int32) (g59 : Nat → Int64), v = none ∧ (gf1 ≤ 12) ∧ wd_kp S w w1 ∧ wd_at w1 y (.inr (11, [.int v0, .int td, .ref m2, .ref m3, .ref m4, .ref m5, .ref m6, .int (nI pc), .ref m8, .ref m9, .ref m10, .ref m11, .ref m12, .ref m13, .ref m14, .int (nI ac), .int (nI sc), .ref m17, .ref m18, .ref m19, .ref m20, .ref m21, .ref m22, .ref m23, .ref m24, .int (nI ln), .int v26, .int v27, .int v28, .ref m29, .ref m30, .ref m31, .ref m32, .ref m33, .ref m34, .ref m35, .ref m36, .ref m37, .int (nI sh), .ref m39, .ref m40, .ref m41, .ref m42, .ref m43, .ref m44, .ref m45, .ref m46, .ref m47, .ref m48, .ref m49, .int v50, .ref m51, .ref m52, .ref m53, .ref m54, .int (nI gf1), .ref m56, .ref m57, .ref m58, .ref m59])) ∧ wd_at w1 m54 (.inl (cy 3, 12, .inr (.inl g54))) ∧ wd_at w1 m56 (.inl (cy 2, 60, .inl g56)) ∧ wd_at w1 m57 (.inl (cy 2, 60, .inl g57)) ∧ wd_at w1 m58 (.inl (cy 2, 60, .inl g58)) ∧ wd_at w1 m59 (.inl (cy 3, 60, .inr (.inl g59)))) := by
  refine Ct.by (cc := cX11_nets) (maxL := 7) (ret := none) (by decide +kernel) rfl (Nat.le_of_ble_eq_true rfl) ?_
  intro p e s m args below meth c A Q F hnm K ls hl
  have F : wd_Fx p s m args meth c cX11_nets 7 wsX11_nets RX11 D cy sk sv A := F
  have hl : lv_has ls 7 [(0, .ref y)] := hl
  have hx := F.1.1
  have hb := F.1.2.1
  have hown := F.1.2.2.2.1
  have hts := F.1.2.2.2.2
  intro H locs hP hD hS
  have kp0 : wd_kp S w w := wd_kp.rf
  refine lv_aload_n hx hb dX11_nets_0 rfl (lv_at hl 0 rfl) ?_
  refine lv_iconst (v := 0) hx hb dX11_nets_1 (by decide) ?_
  refine y_put (ref := "NoteHouseModel") F hP hD hS c90 rfl (fun _ h => List.mem_cons_of_mem _ (List.mem_append_right _ (h))) tyX11_ok nmX11 55 (Nat.le_of_ble_eq_true rfl) (List.mem_cons_of_mem _ (List.mem_append_left _ (List.mem_of_getElem? (i := 0) rfl))) rfl rfl rfl rfl (Nat.le_of_ble_eq_true rfl) dX11_nets_2 (fun w1 ew2 H locs hP hD hS => ?_)
  have k3 : wd_at w1 y (.inr (11, [.int v0, .int td, .ref m2, .ref m3, .ref m4, .ref m5, .ref m6, .int (nI pc), .ref m8, .ref m9, .ref m10, .ref m11, .ref m12, .ref m13, .ref m14, .int (nI ac), .int (nI sc), .ref m17, .ref m18, .ref m19, .ref m20, .ref m21, .ref m22, .ref m23, .ref m24, .int (nI ln), .int v26, .int v27, .int v28, .ref m29, .ref m30, .ref m31, .ref m32, .ref m33, .ref m34, .ref m35, .ref m36, .ref m37, .int (nI sh), .ref m39, .ref m40, .ref m41, .ref m42, .ref m43, .ref m44, .ref m45, .ref m46, .ref m47, .ref m48, .ref m49, .int v50, .ref m51, .ref m52, .ref m53, .ref m54, .int 0, .ref m56, .ref m57, .ref m58, .ref m59])) := wd_at.ps ew2 c90
  have k4 := wd_at.pt ew2 c91 (tg_ne tm4 ty (by decide))
  have k5 := wd_at.pt ew2 c92 (tg_ne tm53 ty (by decide))
  have k6 := wd_at.pt ew2 c93 (tg_ne tm54 ty (by decide))
  have k7 := wd_at.pt ew2 c94 (tg_ne tm56 ty (by decide))
  have k8 := wd_at.pt ew2 c95 (tg_ne tm57 ty (by decide))
  have k9 := wd_at.pt ew2 c96 (tg_ne tm58 ty (by decide))
  have k10 := wd_at.pt ew2 c97 (tg_ne tm59 ty (by decide))
  have kp11 := kp0.put ew2 s90
  refine lv_iconst (v := 0) hx hb dX11_nets_5 (by decide) ?_
  refine lv_istore_n (lv' := [(1, .int 0), (0, .ref y)]) hx hb dX11_nets_6 rfl hl (by decide) rfl (fun ls hl => ?_)
  have lp7 : ∀ (N : Nat) (t0 : Nat) (o1 : Nat → Int64) (w12 : Wd), (t0 + N = 12) → (wd_at w12 y (.inr (11, [.int v0, .int td, .ref m2, .ref m3, .ref m4, .ref m5, .ref m6, .int (nI pc), .ref m8, .ref m9, .ref m10, .ref m11, .ref m12, .ref m13, .ref m14, .int (nI ac), .int (nI sc), .ref m17, .ref m18, .ref m19, .ref m20, .ref m21, .ref m22, .ref m23, .ref m24, .int (nI ln), .int v26, .int v27, .int v28, .ref m29, .ref m30, .ref m31, .ref m32, .ref m33, .ref m34, .ref m35, .ref m36, .ref m37, .int (nI sh), .ref m39, .ref m40, .ref m41, .ref m42, .ref m43, .ref m44, .ref m45, .ref m46, .ref m47, .ref m48, .ref m49, .int v50, .ref m51, .ref m52, .ref m53, .ref m54, .int 0, .ref m56, .ref m57, .ref m58, .ref m59]))) → (wd_at w12 m4 (.inl (cy 2, 12, .inl f4))) → (wd_at w12 m53 (.inl (cy 3, 12, .inr (.inl f53)))) → (wd_at w12 m54 (.inl (cy 3, 12, .inr (.inl o1)))) → (wd_at w12 m56 (.inl (cy 2, 60, .inl f56))) → (wd_at w12 m57 (.inl (cy 2, 60, .inl f57))) → (wd_at w12 m58 (.inl (cy 2, 60, .inl f58))) → (wd_at w12 m59 (.inl (cy 3, 60, .inr (.inl f59)))) → (wd_kp S w w12) → ∀ (ls : Array Slot), lv_has ls 7 [(0, .ref y), (1, .int (nI t0))] → Wv p l e ({ frames := 1, cells := 0, slots := 0, locals := 25 }) s m args below meth c D A (0) (0) Q w12 (F0 m 7 ls []) := by
    intro N
    induction N with
    | zero =>
      intro t0 o1 w12 hN7 k13 k14 k15 k16 k17 k18 k19 k20 kp21 ls hl H locs hP hD hS
      refine lv_iload_n hx hb dX11_nets_7 rfl (lv_at hl 1 rfl) ?_
      refine lv_bipush (v := 12) hx hb dX11_nets_8 (by decide) ?_
      refine lv_icmp_ge (tgt := 31) hx hb dX11_nets_10 (by decide) (fun c_22 => ?_) (fun c_22 => absurd (nI_le (a := 12) (b := t0) (by omega) (by omega)) c_22)
      refine lv_iconst (v := 0) hx hb dX11_nets_31 (by decide) ?_
      refine lv_istore_n (lv' := [(1, .int 0), (0, .ref y)]) hx hb dX11_nets_32 rfl hl (by decide) rfl (fun ls hl => ?_)
      have lp33 : ∀ (N : Nat) (cz : Nat) (gq : Nat) (o2 : Nat → Int64) (ea2 : Nat → Int32) (eb2 : Nat → Int32) (ec2 : Nat → Int32) (ed2 : Nat → Int64) (w23 : Wd), (cz + N = 4) → (gq + nq f4 o2 cz 0 ≤ 12) → (wd_at w23 y (.inr (11, [.int v0, .int td, .ref m2, .ref m3, .ref m4, .ref m5, .ref m6, .int (nI pc), .ref m8, .ref m9, .ref m10, .ref m11, .ref m12, .ref m13, .ref m14, .int (nI ac), .int (nI sc), .ref m17, .ref m18, .ref m19, .ref m20, .ref m21, .ref m22, .ref m23, .ref m24, .int (nI ln), .int v26, .int v27, .int v28, .ref m29, .ref m30, .ref m31, .ref m32, .ref m33, .ref m34, .ref m35, .ref m36, .ref m37, .int (nI sh), .ref m39, .ref m40, .ref m41, .ref m42, .ref m43, .ref m44, .ref m45, .ref m46, .ref m47, .ref m48, .ref m49, .int v50, .ref m51, .ref m52, .ref m53, .ref m54, .int (nI gq), .ref m56, .ref m57, .ref m58, .ref m59]))) → (wd_at w23 m4 (.inl (cy 2, 12, .inl f4))) → (wd_at w23 m53 (.inl (cy 3, 12, .inr (.inl f53)))) → (wd_at w23 m54 (.inl (cy 3, 12, .inr (.inl o2)))) → (wd_at w23 m56 (.inl (cy 2, 60, .inl ea2))) → (wd_at w23 m57 (.inl (cy 2, 60, .inl eb2))) → (wd_at w23 m58 (.inl (cy 2, 60, .inl ec2))) → (wd_at w23 m59 (.inl (cy 3, 60, .inr (.inl ed2)))) → (wd_kp S w w23) → ∀ (ls : Array Slot), lv_has ls 7 [(0, .ref y), (1, .int (nI cz))] → Wv p l e ({ frames := 1, cells := 0, slots := 0, locals := 25 }) s m args below meth c D A (0) (0) Q w23 (F0 m 33 ls []) := by
        intro N
        induction N with
        | zero =>
          intro cz gq o2 ea2 eb2 ec2 ed2 w23 hN33 hg2 k24 k25 k26 k27 k28 k29 k30 k31 kp32 ls hl H locs hP hD hS
          refine lv_iload_n hx hb dX11_nets_33 rfl (lv_at hl 1 rfl) ?_
          refine lv_iconst (v := 4) hx hb dX11_nets_34 (by decide) ?_
          refine lv_icmp_ge (tgt := 305) hx hb dX11_nets_35 (by decide) (fun c_33 => ?_) (fun c_33 => absurd (nI_le (a := 4) (b := cz) (by omega) (by omega)) c_33)
          exact y_vr K hP hD hS (Nat.le_of_ble_eq_true rfl) (Nat.le_of_ble_eq_true rfl) rfl dX11_nets_305 (⟨gq, o2, ea2, eb2, ec2, ed2, rfl, by omega, kp32, k24, k27, k28, k29, k30, k31⟩)
        | succ N ih33 =>
          intro cz gq o2 ea2 eb2 ec2 ed2 w23 hN33 hg2 k24 k25 k26 k27 k28 k29 k30 k31 kp32 ls hl H locs hP hD hS
          refine lv_iload_n hx hb dX11_nets_33 rfl (lv_at hl 1 rfl) ?_
          refine lv_iconst (v := 4) hx hb dX11_nets_34 (by decide) ?_
          refine lv_icmp_ge (tgt := 305) hx hb dX11_nets_35 (by decide) (fun c_34 => absurd c_34 (nI_ge (a := cz) (b := 4) (by omega) (by omega))) (fun c_34 => ?_)
          refine lv_iconst (v := 1) hx hb dX11_nets_38 (by decide) ?_
          refine lv_istore_n (lv' := [(2, .int 1), (0, .ref y), (1, .int (nI cz))]) hx hb dX11_nets_39 rfl hl (by decide) rfl (fun ls hl => ?_)
          have lp40 : ∀ (N : Nat) (on : Nat) (gr : Nat) (o3 : Nat → Int64) (ea3 : Nat → Int32) (eb3 : Nat → Int32) (ec3 : Nat → Int32) (ed3 : Nat → Int64) (w35 : Wd), (2 * nq f4 o3 cz 0 + on + 1 ≤ N) → (gr + nq f4 o3 cz 0 ≤ 12) → (on ≤ 1) → (wd_at w35 y (.inr (11, [.int v0, .int td, .ref m2, .ref m3, .ref m4, .ref m5, .ref m6, .int (nI pc), .ref m8, .ref m9, .ref m10, .ref m11, .ref m12, .ref m13, .ref m14, .int (nI ac), .int (nI sc), .ref m17, .ref m18, .ref m19, .ref m20, .ref m21, .ref m22, .ref m23, .ref m24, .int (nI ln), .int v26, .int v27, .int v28, .ref m29, .ref m30, .ref m31, .ref m32, .ref m33, .ref m34, .ref m35, .ref m36, .ref m37, .int (nI sh), .ref m39, .ref m40, .ref m41, .ref m42, .ref m43, .ref m44, .ref m45, .ref m46, .ref m47, .ref m48, .ref m49, .int v50, .ref m51, .ref m52, .ref m53, .ref m54, .int (nI gr), .ref m56, .ref m57, .ref m58, .ref m59]))) → (wd_at w35 m4 (.inl (cy 2, 12, .inl f4))) → (wd_at w35 m53 (.inl (cy 3, 12, .inr (.inl f53)))) → (wd_at w35 m54 (.inl (cy 3, 12, .inr (.inl o3)))) → (wd_at w35 m56 (.inl (cy 2, 60, .inl ea3))) → (wd_at w35 m57 (.inl (cy 2, 60, .inl eb3))) → (wd_at w35 m58 (.inl (cy 2, 60, .inl ec3))) → (wd_at w35 m59 (.inl (cy 3, 60, .inr (.inl ed3)))) → (wd_kp S w w35) → ∀ (ls : Array Slot), lv_has ls 7 [(0, .ref y), (1, .int (nI cz)), (2, .int (nI on))] → Wv p l e ({ frames := 1, cells := 0, slots := 0, locals := 25 }) s m args below meth c D A (0) (0) Q w35 (F0 m 40 ls []) := by
            intro N
            induction N with
            | zero =>
              intro on gr o3 ea3 eb3 ec3 ed3 w35 hN40 hg3 hon k36 k37 k38 k39 k40 k41 k42 k43 kp44 ls hl H locs hP hD hS
              exact absurd hN40 (by omega)
            | succ N ih40 =>
              intro on gr o3 ea3 eb3 ec3 ed3 w35 hN40 hg3 hon k36 k37 k38 k39 k40 k41 k42 k43 kp44 ls hl H locs hP hD hS
              refine lv_iload_n hx hb dX11_nets_40 rfl (lv_at hl 2 rfl) ?_
              refine lv_if_eq (tgt := 211) hx hb dX11_nets_41 (by decide) (fun c_45 => ?_) (fun c_45 => ?_)
              · refine lv_iconst (v := 0) hx hb dX11_nets_211 (by decide) ?_
                refine lv_istore_n (lv' := [(3, .int 0), (0, .ref y), (1, .int (nI cz)), (2, .int (nI on))]) hx hb dX11_nets_212 rfl hl (by decide) rfl (fun ls hl => ?_)
                have lp213 : ∀ (N : Nat) (t : Nat) (gs : Nat) (ea4 : Nat → Int32) (eb4 : Nat → Int32) (ec4 : Nat → Int32) (ed4 : Nat → Int64) (w46 : Wd), (t + N = 12) → (gs + nq f4 o3 cz t ≤ 12) → (wd_at w46 y (.inr (11, [.int v0, .int td, .ref m2, .ref m3, .ref m4, .ref m5, .ref m6, .int (nI pc), .ref m8, .ref m9, .ref m10, .ref m11, .ref m12, .ref m13, .ref m14, .int (nI ac), .int (nI sc), .ref m17, .ref m18, .ref m19, .ref m20, .ref m21, .ref m22, .ref m23, .ref m24, .int (nI ln), .int v26, .int v27, .int v28, .ref m29, .ref m30, .ref m31, .ref m32, .ref m33, .ref m34, .ref m35, .ref m36, .ref m37, .int (nI sh), .ref m39, .ref m40, .ref m41, .ref m42, .ref m43, .ref m44, .ref m45, .ref m46, .ref m47, .ref m48, .ref m49, .int v50, .ref m51, .ref m52, .ref m53, .ref m54, .int (nI gs), .ref m56, .ref m57, .ref m58, .ref m59]))) → (wd_at w46 m4 (.inl (cy 2, 12, .inl f4))) → (wd_at w46 m53 (.inl (cy 3, 12, .inr (.inl f53)))) → (wd_at w46 m54 (.inl (cy 3, 12, .inr (.inl o3)))) → (wd_at w46 m56 (.inl (cy 2, 60, .inl ea4))) → (wd_at w46 m57 (.inl (cy 2, 60, .inl eb4))) → (wd_at w46 m58 (.inl (cy 2, 60, .inl ec4))) → (wd_at w46 m59 (.inl (cy 3, 60, .inr (.inl ed4)))) → (wd_kp S w w46) → ∀ (ls : Array Slot), lv_has ls 7 [(0, .ref y), (1, .int (nI cz)), (3, .int (nI t))] → Wv p l e ({ frames := 1, cells := 0, slots := 0, locals := 25 }) s m args below meth c D A (0) (0) Q w46 (F0 m 213 ls []) := by
                  intro N
                  induction N with
                  | zero =>
                    intro t gs ea4 eb4 ec4 ed4 w46 hN213 hgs k47 k48 k49 k50 k51 k52 k53 k54 kp55 ls hl H locs hP hD hS
                    refine lv_iload_n hx hb dX11_nets_213 rfl (lv_at hl 2 rfl) ?_
                    refine lv_bipush (v := 12) hx hb dX11_nets_214 (by decide) ?_
                    refine lv_icmp_ge (tgt := 299) hx hb dX11_nets_216 (by decide) (fun c_56 => ?_) (fun c_56 => absurd (nI_le (a := 12) (b := t) (by omega) (by omega)) c_56)
                    refine lv_iinc (v := nI (cz + 1)) (lv' := [(1, .int (nI (cz + 1))), (0, .ref y), (3, .int (nI t))]) hx hb dX11_nets_299 hl (k := 1) rfl (nI_1 cz) (by decide) rfl (fun ls hl => ?_)
                    refine lv_goto (tgt := 33) hx hb dX11_nets_302 (by decide) ?_
                    exact ih33 (cz + 1) gs o3 ea4 eb4 ec4 ed4 w46 (by omega) (by have h9 := nq_n (co := f4) (o := o3) (c := cz); have h8 := hgs; rw [show t = 12 by omega] at h8; omega) k47 k48 k49 k50 k51 k52 k53 k54 kp55 ls (lv_sub hl [1, 0] rfl) H locs hP hD hS
                  | succ N ih213 =>
                    intro t gs ea4 eb4 ec4 ed4 w46 hN213 hgs k47 k48 k49 k50 k51 k52 k53 k54 kp55 ls hl H locs hP hD hS
                    refine lv_iload_n hx hb dX11_nets_213 rfl (lv_at hl 2 rfl) ?_
                    refine lv_bipush (v := 12) hx hb dX11_nets_214 (by decide) ?_
                    refine lv_icmp_ge (tgt := 299) hx hb dX11_nets_216 (by decide) (fun c_57 => absurd c_57 (nI_ge (a := t) (b := 12) (by omega) (by omega))) (fun c_57 => ?_)
                    refine lv_aload_n hx hb dX11_nets_219 rfl (lv_at hl 0 rfl) ?_
                    refine x_get (ref := "NoteHouseModel") F hP k47 rfl (fun _ h => List.mem_cons_of_mem _ (List.mem_append_right _ (h))) 4 (Nat.le_of_ble_eq_true rfl) (List.mem_cons_of_mem _ (List.mem_append_left _ (List.mem_of_getElem? (i := 3) rfl))) rfl rfl dX11_nets_220 ?_
                    refine lv_iload_n hx hb dX11_nets_223 rfl (lv_at hl 2 rfl) ?_
                    refine x_iald F hP k48 (vp_in_nI (n := t) (N := 12) (by omega) (by decide)) dX11_nets_224 ?_
                    rw [nI_clamp (n := t) (by omega)]
                    refine lv_iload_n hx hb dX11_nets_225 rfl (lv_at hl 1 rfl) ?_
                    refine lv_icmp_ne (tgt := 257) hx hb dX11_nets_226 (by decide) (fun cr1 => ?_) (fun cr1 => ?_)
                    · refine lv_aload_n hx hb dX11_nets_257 rfl (lv_at hl 0 rfl) ?_
                      refine x_get (ref := "NoteHouseModel") F hP k47 rfl (fun _ h => List.mem_cons_of_mem _ (List.mem_append_right _ (h))) 4 (Nat.le_of_ble_eq_true rfl) (List.mem_cons_of_mem _ (List.mem_append_left _ (List.mem_of_getElem? (i := 3) rfl))) rfl rfl dX11_nets_258 ?_
                      refine lv_iload_n hx hb dX11_nets_261 rfl (lv_at hl 2 rfl) ?_
                      refine x_iald F hP k48 (vp_in_nI (n := t) (N := 12) (by omega) (by decide)) dX11_nets_262 ?_
                      rw [nI_clamp (n := t) (by omega)]
                      refine lv_iload_n hx hb dX11_nets_263 rfl (lv_at hl 1 rfl) ?_
                      refine lv_icmp_ne (tgt := 293) hx hb dX11_nets_264 (by decide) (fun cr3 => ?_) (fun cr3 => ?_)
                      · refine lv_iinc (v := nI (t + 1)) (lv' := [(3, .int (nI (t + 1))), (0, .ref y), (1, .int (nI cz))]) hx hb dX11_nets_293 hl (k := 2) rfl (nI_1 t) (by decide) rfl (fun ls hl => ?_)
                        refine lv_goto (tgt := 213) hx hb dX11_nets_296 (by decide) ?_
                        exact ih213 (t + 1) gs ea4 eb4 ec4 ed4 w46 (by omega) (by have h9 := nq_m (co := f4) (o := o3) (c := cz) (t := t) (by omega); omega) k47 k48 k49 k50 k51 k52 k53 k54 kp55 ls (lv_sub hl [1, 2, 0] rfl) H locs hP hD hS
                      · refine lv_aload_n hx hb dX11_nets_267 rfl (lv_at hl 0 rfl) ?_
                        refine x_get (ref := "NoteHouseModel") F hP k47 rfl (fun _ h => List.mem_cons_of_mem _ (List.mem_append_right _ (h))) 54 (Nat.le_of_ble_eq_true rfl) (List.mem_cons_of_mem _ (List.mem_append_left _ (List.mem_of_getElem? (i := 1) rfl))) rfl rfl dX11_nets_268 ?_
                        refine lv_iload_n hx hb dX11_nets_271 rfl (lv_at hl 2 rfl) ?_
                        refine x_lald F hP k50 (vp_in_nI (n := t) (N := 12) (by omega) (by decide)) dX11_nets_272 ?_
                        rw [nI_clamp (n := t) (by omega)]
                        refine lv_lconst (v := 0) hx hb dX11_nets_273 (by decide) ?_
                        refine W.lcmp hx hb dX11_nets_274 ?_
                        refine lv_if_ge (tgt := 293) hx hb dX11_nets_275 (by decide) (fun cr4 => ?_) (fun cr4 => ?_)
                        · refine lv_iinc (v := nI (t + 1)) (lv' := [(3, .int (nI (t + 1))), (0, .ref y), (1, .int (nI cz))]) hx hb dX11_nets_293 hl (k := 2) rfl (nI_1 t) (by decide) rfl (fun ls hl => ?_)
                          refine lv_goto (tgt := 213) hx hb dX11_nets_296 (by decide) ?_
                          exact ih213 (t + 1) gs ea4 eb4 ec4 ed4 w46 (by omega) (by have h9 := nq_m (co := f4) (o := o3) (c := cz) (t := t) (by omega); omega) k47 k48 k49 k50 k51 k52 k53 k54 kp55 ls (lv_sub hl [1, 2, 0] rfl) H locs hP hD hS
                        · refine lv_aload_n hx hb dX11_nets_278 rfl (lv_at hl 0 rfl) ?_
                          refine lv_iload_n hx hb dX11_nets_279 rfl (lv_at hl 2 rfl) ?_
                          refine lv_bipush (v := 12) hx hb dX11_nets_280 (by decide) ?_
                          refine lv_aload_n hx hb dX11_nets_282 rfl (lv_at hl 0 rfl) ?_
                          refine x_get (ref := "NoteHouseModel") F hP k47 rfl (fun _ h => List.mem_cons_of_mem _ (List.mem_append_right _ (h))) 54 (Nat.le_of_ble_eq_true rfl) (List.mem_cons_of_mem _ (List.mem_append_left _ (List.mem_of_getElem? (i := 1) rfl))) rfl rfl dX11_nets_283 ?_
                          refine lv_iload_n hx hb dX11_nets_286 rfl (lv_at hl 2 rfl) ?_
                          refine x_lald F hP k50 (vp_in_nI (n := t) (N := 12) (by omega) (by decide)) dX11_nets_287 ?_
                          rw [nI_clamp (n := t) (by omega)]
                          refine lv_lneg hx hb dX11_nets_288 ?_
                          refine lv_iload_n hx hb dX11_nets_289 rfl (lv_at hl 1 rfl) ?_
                          refine x_callV (n := 4) (As := [.int (nI t), .int 12, .long (-(o3 t)), .int (nI cz)]) (rest := []) F hP hD hS (m_gift l D cy sk sv w46 tg y m2 m3 m4 m5 m6 m8 m9 m10 m11 m12 m13 m14 m17 m18 m19 m20 m21 m22 m23 m24 m29 m30 m31 m32 m33 m34 m35 m36 m37 m39 m40 m41 m42 m43 m44 m45 m46 m47 m48 m49 m51 m52 m53 m54 m56 m57 m58 m59 pc ac sc ln sh gs v0 td v26 v27 v28 v50 ea4 eb4 ec4 ed4 (nI t) 12 (nI cz) (-(o3 t)) k47 k51 k52 k53 k54 (fun b => b = y ∨ b = m56 ∨ b = m57 ∨ b = m58 ∨ b = m59) (Or.inl rfl) (Or.inr (Or.inl rfl)) (Or.inr (Or.inr (Or.inl rfl))) (Or.inr (Or.inr (Or.inr (Or.inl rfl)))) (Or.inr (Or.inr (Or.inr (Or.inr rfl)))) ty tm56 tm57 tm58 tm59 (by omega)) gX11_nets_X11_gift rfl rfl (by decide +kernel) ⟨(Nat.le_of_ble_eq_true rfl), (Nat.le_of_ble_eq_true rfl)⟩ rfl hl.1 (Nat.le_of_ble_eq_true rfl) k47 rfl dX11_nets_290 rfl ⟨(Nat.le_of_ble_eq_true rfl), (Nat.le_of_ble_eq_true rfl)⟩ (fun v59 w60 hp58 H locs hP hD hS => ?_)
                          obtain ⟨gx61, gx62, gx63, gx64, rfl, kq70, k65, k66, k67, k68, k69⟩ := hp58
                          have k71 := kq70.2 _ _ k48 (orN (tg_ne tm4 ty (by decide)) (orN (tg_ne tm4 tm56 (by decide)) (orN (tg_ne tm4 tm57 (by decide)) (orN (tg_ne tm4 tm58 (by decide)) (tg_ne tm4 tm59 (by decide))))))
                          have k72 := kq70.2 _ _ k49 (orN (tg_ne tm53 ty (by decide)) (orN (tg_ne tm53 tm56 (by decide)) (orN (tg_ne tm53 tm57 (by decide)) (orN (tg_ne tm53 tm58 (by decide)) (tg_ne tm53 tm59 (by decide))))))
                          have k73 := kq70.2 _ _ k50 (orN (tg_ne tm54 ty (by decide)) (orN (tg_ne tm54 tm56 (by decide)) (orN (tg_ne tm54 tm57 (by decide)) (orN (tg_ne tm54 tm58 (by decide)) (tg_ne tm54 tm59 (by decide))))))
                          have kp74 := kp55.tr kq70 (fun b9 hm q9 => (fun q9 => Or.elim q9 (fun q9 => q9 ▸ s90) (fun q9 => Or.elim q9 (fun q9 => q9 ▸ s92) (fun q9 => Or.elim q9 (fun q9 => q9 ▸ s93) (fun q9 => Or.elim q9 (fun q9 => q9 ▸ s94) (fun q9 => q9 ▸ s95))))) q9)
                          refine W.eq (g2 := F0 m 293 ls []) rfl (W.widen (k := 0) (n := 0) (Nat.le_of_ble_eq_true rfl) (Nat.le_of_ble_eq_true rfl) ?_)
                          refine lv_iinc (v := nI (t + 1)) (lv' := [(3, .int (nI (t + 1))), (0, .ref y), (1, .int (nI cz))]) hx hb dX11_nets_293 hl (k := 2) rfl (nI_1 t) (by decide) rfl (fun ls hl => ?_)
                          refine lv_goto (tgt := 213) hx hb dX11_nets_296 (by decide) ?_
                          exact ih213 (t + 1) (gs + 1) gx61 gx62 gx63 gx64 w60 (by omega) (by have h9 := nq_s (co := f4) (o := o3) (c := cz) (t := t) (by omega) (by omega) cr3 (i64_ne (Int64.not_le.mp (fun q => cr4 ((lg_cmp_ge _ _).mpr q)))); omega) k65 k71 k72 k73 k66 k67 k68 k69 kp74 ls (lv_sub hl [1, 2, 0] rfl) H locs hP hD hS
                    · refine lv_aload_n hx hb dX11_nets_229 rfl (lv_at hl 0 rfl) ?_
                      refine x_get (ref := "NoteHouseModel") F hP k47 rfl (fun _ h => List.mem_cons_of_mem _ (List.mem_append_right _ (h))) 54 (Nat.le_of_ble_eq_true rfl) (List.mem_cons_of_mem _ (List.mem_append_left _ (List.mem_of_getElem? (i := 1) rfl))) rfl rfl dX11_nets_230 ?_
                      refine lv_iload_n hx hb dX11_nets_233 rfl (lv_at hl 2 rfl) ?_
                      refine x_lald F hP k50 (vp_in_nI (n := t) (N := 12) (by omega) (by decide)) dX11_nets_234 ?_
                      rw [nI_clamp (n := t) (by omega)]
                      refine lv_lconst (v := 0) hx hb dX11_nets_235 (by decide) ?_
                      refine W.lcmp hx hb dX11_nets_236 ?_
                      refine lv_if_le (tgt := 257) hx hb dX11_nets_237 (by decide) (fun cr2 => ?_) (fun cr2 => ?_)
                      · refine lv_aload_n hx hb dX11_nets_257 rfl (lv_at hl 0 rfl) ?_
                        refine x_get (ref := "NoteHouseModel") F hP k47 rfl (fun _ h => List.mem_cons_of_mem _ (List.mem_append_right _ (h))) 4 (Nat.le_of_ble_eq_true rfl) (List.mem_cons_of_mem _ (List.mem_append_left _ (List.mem_of_getElem? (i := 3) rfl))) rfl rfl dX11_nets_258 ?_
                        refine lv_iload_n hx hb dX11_nets_261 rfl (lv_at hl 2 rfl) ?_
                        refine x_iald F hP k48 (vp_in_nI (n := t) (N := 12) (by omega) (by decide)) dX11_nets_262 ?_
                        rw [nI_clamp (n := t) (by omega)]
                        refine lv_iload_n hx hb dX11_nets_263 rfl (lv_at hl 1 rfl) ?_
                        refine lv_icmp_ne (tgt := 293) hx hb dX11_nets_264 (by decide) (fun cr3 => ?_) (fun cr3 => ?_)
                        · refine lv_iinc (v := nI (t + 1)) (lv' := [(3, .int (nI (t + 1))), (0, .ref y), (1, .int (nI cz))]) hx hb dX11_nets_293 hl (k := 2) rfl (nI_1 t) (by decide) rfl (fun ls hl => ?_)
                          refine lv_goto (tgt := 213) hx hb dX11_nets_296 (by decide) ?_
                          exact ih213 (t + 1) gs ea4 eb4 ec4 ed4 w46 (by omega) (by have h9 := nq_m (co := f4) (o := o3) (c := cz) (t := t) (by omega); omega) k47 k48 k49 k50 k51 k52 k53 k54 kp55 ls (lv_sub hl [1, 2, 0] rfl) H locs hP hD hS
                        · refine lv_aload_n hx hb dX11_nets_267 rfl (lv_at hl 0 rfl) ?_
                          refine x_get (ref := "NoteHouseModel") F hP k47 rfl (fun _ h => List.mem_cons_of_mem _ (List.mem_append_right _ (h))) 54 (Nat.le_of_ble_eq_true rfl) (List.mem_cons_of_mem _ (List.mem_append_left _ (List.mem_of_getElem? (i := 1) rfl))) rfl rfl dX11_nets_268 ?_
                          refine lv_iload_n hx hb dX11_nets_271 rfl (lv_at hl 2 rfl) ?_
                          refine x_lald F hP k50 (vp_in_nI (n := t) (N := 12) (by omega) (by decide)) dX11_nets_272 ?_
                          rw [nI_clamp (n := t) (by omega)]
                          refine lv_lconst (v := 0) hx hb dX11_nets_273 (by decide) ?_
                          refine W.lcmp hx hb dX11_nets_274 ?_
                          refine lv_if_ge (tgt := 293) hx hb dX11_nets_275 (by decide) (fun cr4 => ?_) (fun cr4 => ?_)
                          · refine lv_iinc (v := nI (t + 1)) (lv' := [(3, .int (nI (t + 1))), (0, .ref y), (1, .int (nI cz))]) hx hb dX11_nets_293 hl (k := 2) rfl (nI_1 t) (by decide) rfl (fun ls hl => ?_)
                            refine lv_goto (tgt := 213) hx hb dX11_nets_296 (by decide) ?_
                            exact ih213 (t + 1) gs ea4 eb4 ec4 ed4 w46 (by omega) (by have h9 := nq_m (co := f4) (o := o3) (c := cz) (t := t) (by omega); omega) k47 k48 k49 k50 k51 k52 k53 k54 kp55 ls (lv_sub hl [1, 2, 0] rfl) H locs hP hD hS
                          · refine lv_aload_n hx hb dX11_nets_278 rfl (lv_at hl 0 rfl) ?_
                            refine lv_iload_n hx hb dX11_nets_279 rfl (lv_at hl 2 rfl) ?_
                            refine lv_bipush (v := 12) hx hb dX11_nets_280 (by decide) ?_
                            refine lv_aload_n hx hb dX11_nets_282 rfl (lv_at hl 0 rfl) ?_
                            refine x_get (ref := "NoteHouseModel") F hP k47 rfl (fun _ h => List.mem_cons_of_mem _ (List.mem_append_right _ (h))) 54 (Nat.le_of_ble_eq_true rfl) (List.mem_cons_of_mem _ (List.mem_append_left _ (List.mem_of_getElem? (i := 1) rfl))) rfl rfl dX11_nets_283 ?_
                            refine lv_iload_n hx hb dX11_nets_286 rfl (lv_at hl 2 rfl) ?_
                            refine x_lald F hP k50 (vp_in_nI (n := t) (N := 12) (by omega) (by decide)) dX11_nets_287 ?_
                            rw [nI_clamp (n := t) (by omega)]
                            refine lv_lneg hx hb dX11_nets_288 ?_
                            refine lv_iload_n hx hb dX11_nets_289 rfl (lv_at hl 1 rfl) ?_
                            refine x_callV (n := 4) (As := [.int (nI t), .int 12, .long (-(o3 t)), .int (nI cz)]) (rest := []) F hP hD hS (m_gift l D cy sk sv w46 tg y m2 m3 m4 m5 m6 m8 m9 m10 m11 m12 m13 m14 m17 m18 m19 m20 m21 m22 m23 m24 m29 m30 m31 m32 m33 m34 m35 m36 m37 m39 m40 m41 m42 m43 m44 m45 m46 m47 m48 m49 m51 m52 m53 m54 m56 m57 m58 m59 pc ac sc ln sh gs v0 td v26 v27 v28 v50 ea4 eb4 ec4 ed4 (nI t) 12 (nI cz) (-(o3 t)) k47 k51 k52 k53 k54 (fun b => b = y ∨ b = m56 ∨ b = m57 ∨ b = m58 ∨ b = m59) (Or.inl rfl) (Or.inr (Or.inl rfl)) (Or.inr (Or.inr (Or.inl rfl))) (Or.inr (Or.inr (Or.inr (Or.inl rfl)))) (Or.inr (Or.inr (Or.inr (Or.inr rfl)))) ty tm56 tm57 tm58 tm59 (by omega)) gX11_nets_X11_gift rfl rfl (by decide +kernel) ⟨(Nat.le_of_ble_eq_true rfl), (Nat.le_of_ble_eq_true rfl)⟩ rfl hl.1 (Nat.le_of_ble_eq_true rfl) k47 rfl dX11_nets_290 rfl ⟨(Nat.le_of_ble_eq_true rfl), (Nat.le_of_ble_eq_true rfl)⟩ (fun v76 w77 hp75 H locs hP hD hS => ?_)
                            obtain ⟨gx78, gx79, gx80, gx81, rfl, kq87, k82, k83, k84, k85, k86⟩ := hp75
                            have k88 := kq87.2 _ _ k48 (orN (tg_ne tm4 ty (by decide)) (orN (tg_ne tm4 tm56 (by decide)) (orN (tg_ne tm4 tm57 (by decide)) (orN (tg_ne tm4 tm58 (by decide)) (tg_ne tm4 tm59 (by decide))))))
                            have k89 := kq87.2 _ _ k49 (orN (tg_ne tm53 ty (by decide)) (orN (tg_ne tm53 tm56 (by decide)) (orN (tg_ne tm53 tm57 (by decide)) (orN (tg_ne tm53 tm58 (by decide)) (tg_ne tm53 tm59 (by decide))))))
                            have k90 := kq87.2 _ _ k50 (orN (tg_ne tm54 ty (by decide)) (orN (tg_ne tm54 tm56 (by decide)) (orN (tg_ne tm54 tm57 (by decide)) (orN (tg_ne tm54 tm58 (by decide)) (tg_ne tm54 tm59 (by decide))))))
                            have kp91 := kp55.tr kq87 (fun b9 hm q9 => (fun q9 => Or.elim q9 (fun q9 => q9 ▸ s90) (fun q9 => Or.elim q9 (fun q9 => q9 ▸ s92) (fun q9 => Or.elim q9 (fun q9 => q9 ▸ s93) (fun q9 => Or.elim q9 (fun q9 => q9 ▸ s94) (fun q9 => q9 ▸ s95))))) q9)
                            refine W.eq (g2 := F0 m 293 ls []) rfl (W.widen (k := 0) (n := 0) (Nat.le_of_ble_eq_true rfl) (Nat.le_of_ble_eq_true rfl) ?_)
                            refine lv_iinc (v := nI (t + 1)) (lv' := [(3, .int (nI (t + 1))), (0, .ref y), (1, .int (nI cz))]) hx hb dX11_nets_293 hl (k := 2) rfl (nI_1 t) (by decide) rfl (fun ls hl => ?_)
                            refine lv_goto (tgt := 213) hx hb dX11_nets_296 (by decide) ?_
                            exact ih213 (t + 1) (gs + 1) gx78 gx79 gx80 gx81 w77 (by omega) (by have h9 := nq_s (co := f4) (o := o3) (c := cz) (t := t) (by omega) (by omega) cr3 (i64_ne (Int64.not_le.mp (fun q => cr4 ((lg_cmp_ge _ _).mpr q)))); omega) k82 k88 k89 k90 k83 k84 k85 k86 kp91 ls (lv_sub hl [1, 2, 0] rfl) H locs hP hD hS
                      · refine lv_aload_n hx hb dX11_nets_240 rfl (lv_at hl 0 rfl) ?_
                        refine lv_bipush (v := 12) hx hb dX11_nets_241 (by decide) ?_
                        refine lv_iload_n hx hb dX11_nets_243 rfl (lv_at hl 2 rfl) ?_
                        refine lv_aload_n hx hb dX11_nets_244 rfl (lv_at hl 0 rfl) ?_
                        refine x_get (ref := "NoteHouseModel") F hP k47 rfl (fun _ h => List.mem_cons_of_mem _ (List.mem_append_right _ (h))) 54 (Nat.le_of_ble_eq_true rfl) (List.mem_cons_of_mem _ (List.mem_append_left _ (List.mem_of_getElem? (i := 1) rfl))) rfl rfl dX11_nets_245 ?_
                        refine lv_iload_n hx hb dX11_nets_248 rfl (lv_at hl 2 rfl) ?_
                        refine x_lald F hP k50 (vp_in_nI (n := t) (N := 12) (by omega) (by decide)) dX11_nets_249 ?_
                        rw [nI_clamp (n := t) (by omega)]
                        refine lv_iload_n hx hb dX11_nets_250 rfl (lv_at hl 1 rfl) ?_
                        refine x_callV (n := 4) (As := [.int 12, .int (nI t), .long (o3 t), .int (nI cz)]) (rest := []) F hP hD hS (m_gift l D cy sk sv w46 tg y m2 m3 m4 m5 m6 m8 m9 m10 m11 m12 m13 m14 m17 m18 m19 m20 m21 m22 m23 m24 m29 m30 m31 m32 m33 m34 m35 m36 m37 m39 m40 m41 m42 m43 m44 m45 m46 m47 m48 m49 m51 m52 m53 m54 m56 m57 m58 m59 pc ac sc ln sh gs v0 td v26 v27 v28 v50 ea4 eb4 ec4 ed4 12 (nI t) (nI cz) (o3 t) k47 k51 k52 k53 k54 (fun b => b = y ∨ b = m56 ∨ b = m57 ∨ b = m58 ∨ b = m59) (Or.inl rfl) (Or.inr (Or.inl rfl)) (Or.inr (Or.inr (Or.inl rfl))) (Or.inr (Or.inr (Or.inr (Or.inl rfl)))) (Or.inr (Or.inr (Or.inr (Or.inr rfl)))) ty tm56 tm57 tm58 tm59 (by omega)) gX11_nets_X11_gift rfl rfl (by decide +kernel) ⟨(Nat.le_of_ble_eq_true rfl), (Nat.le_of_ble_eq_true rfl)⟩ rfl hl.1 (Nat.le_of_ble_eq_true rfl) k47 rfl dX11_nets_251 rfl ⟨(Nat.le_of_ble_eq_true rfl), (Nat.le_of_ble_eq_true rfl)⟩ (fun v93 w94 hp92 H locs hP hD hS => ?_)
                        obtain ⟨gx95, gx96, gx97, gx98, rfl, kq104, k99, k100, k101, k102, k103⟩ := hp92
                        have k105 := kq104.2 _ _ k48 (orN (tg_ne tm4 ty (by decide)) (orN (tg_ne tm4 tm56 (by decide)) (orN (tg_ne tm4 tm57 (by decide)) (orN (tg_ne tm4 tm58 (by decide)) (tg_ne tm4 tm59 (by decide))))))
                        have k106 := kq104.2 _ _ k49 (orN (tg_ne tm53 ty (by decide)) (orN (tg_ne tm53 tm56 (by decide)) (orN (tg_ne tm53 tm57 (by decide)) (orN (tg_ne tm53 tm58 (by decide)) (tg_ne tm53 tm59 (by decide))))))
                        have k107 := kq104.2 _ _ k50 (orN (tg_ne tm54 ty (by decide)) (orN (tg_ne tm54 tm56 (by decide)) (orN (tg_ne tm54 tm57 (by decide)) (orN (tg_ne tm54 tm58 (by decide)) (tg_ne tm54 tm59 (by decide))))))
                        have kp108 := kp55.tr kq104 (fun b9 hm q9 => (fun q9 => Or.elim q9 (fun q9 => q9 ▸ s90) (fun q9 => Or.elim q9 (fun q9 => q9 ▸ s92) (fun q9 => Or.elim q9 (fun q9 => q9 ▸ s93) (fun q9 => Or.elim q9 (fun q9 => q9 ▸ s94) (fun q9 => q9 ▸ s95))))) q9)
                        refine W.eq (g2 := F0 m 254 ls []) rfl (W.widen (k := 0) (n := 0) (Nat.le_of_ble_eq_true rfl) (Nat.le_of_ble_eq_true rfl) ?_)
                        refine lv_goto (tgt := 293) hx hb dX11_nets_254 (by decide) ?_
                        refine lv_iinc (v := nI (t + 1)) (lv' := [(3, .int (nI (t + 1))), (0, .ref y), (1, .int (nI cz))]) hx hb dX11_nets_293 hl (k := 2) rfl (nI_1 t) (by decide) rfl (fun ls hl => ?_)
                        refine lv_goto (tgt := 213) hx hb dX11_nets_296 (by decide) ?_
                        exact ih213 (t + 1) (gs + 1) gx95 gx96 gx97 gx98 w94 (by omega) (by have h9 := nq_s (co := f4) (o := o3) (c := cz) (t := t) (by omega) (by omega) cr1 (i64_ng (Int64.not_le.mp (fun q => cr2 ((lg_cmp_le _ _).mpr q)))); omega) k99 k105 k106 k107 k100 k101 k102 k103 kp108 ls (lv_sub hl [1, 2, 0] rfl) H locs hP hD hS
                exact lp213 _ 0 gr ea3 eb3 ec3 ed3 w35 (Nat.zero_add 12) hg3 k36 k37 k38 k39 k40 k41 k42 k43 kp44 ls (lv_sub hl [1, 2, 0] rfl) H locs hP hD hS
              · have hon1 : 0 < on := nI_nz (by omega) c_45
                refine lv_iconst (v := (-1)) hx hb dX11_nets_44 (by decide) ?_
                refine lv_istore_n (lv' := [(3, .int (-1)), (0, .ref y), (1, .int (nI cz)), (2, .int (nI on))]) hx hb dX11_nets_45 rfl hl (by decide) rfl (fun ls hl => ?_)
                refine lv_iconst (v := (-1)) hx hb dX11_nets_46 (by decide) ?_
                refine lv_istore (lv' := [(4, .int (-1)), (3, .int (-1)), (0, .ref y), (1, .int (nI cz)), (2, .int (nI on))]) hx hb dX11_nets_47 hl (by decide) rfl (fun ls hl => ?_)
                refine lv_bipush (v := 11) hx hb dX11_nets_49 (by decide) ?_
                refine lv_istore (lv' := [(5, .int 11), (4, .int (-1)), (3, .int (-1)), (0, .ref y), (1, .int (nI cz)), (2, .int (nI on))]) hx hb dX11_nets_51 hl (by decide) rfl (fun ls hl => ?_)
                have lp53 : ∀ (N : Nat) (j : Nat) (aa9 : Int32) (bb9 : Int32), (j = N) → (j ≤ 12) → (aa9 = -1 ∨ ∃ i, i < 12 ∧ aa9 = nI i ∧ f4 i = nI cz ∧ o3 i < 0) → (bb9 = -1 ∨ ∃ i, i < 12 ∧ bb9 = nI i ∧ f4 i = nI cz ∧ 0 < o3 i) → ∀ (ls : Array Slot), lv_has ls 7 [(0, .ref y), (1, .int (nI cz)), (2, .int (nI on)), (3, .int aa9), (4, .int bb9), (5, .int (nI j - 1))] → Wv p l e ({ frames := 1, cells := 0, slots := 0, locals := 25 }) s m args below meth c D A (0) (0) Q w35 (F0 m 53 ls []) := by
                  intro N
                  induction N with
                  | zero =>
                    intro j aa9 bb9 hN53 hj12 hA hB ls hl H locs hP hD hS
                    refine lv_iload hx hb dX11_nets_53 (lv_at hl 5 rfl) ?_
                    refine lv_if_lt (tgt := 117) hx hb dX11_nets_55 (by decide) (fun c_110 => ?_) (fun c_110 => absurd (by rw [show j = 0 by omega]; decide) c_110)
                    refine lv_iload_n hx hb dX11_nets_117 rfl (lv_at hl 3 rfl) ?_
                    refine lv_iconst (v := (-1)) hx hb dX11_nets_118 (by decide) ?_
                    refine lv_icmp_eq (tgt := 132) hx hb dX11_nets_119 (by decide) (fun c_111 => ?_) (fun c_111 => ?_)
                    · refine lv_iconst (v := 0) hx hb dX11_nets_132 (by decide) ?_
                      refine lv_istore_n (lv' := [(2, .int 0), (0, .ref y), (1, .int (nI cz)), (3, .int aa9), (4, .int bb9), (5, .int (nI j - 1))]) hx hb dX11_nets_133 rfl hl (by decide) rfl (fun ls hl => ?_)
                      refine lv_iload_n hx hb dX11_nets_134 rfl (lv_at hl 0 rfl) ?_
                      refine lv_if_eq (tgt := 208) hx hb dX11_nets_135 (by decide) (fun c_112 => ?_) (fun c_112 => absurd (show (0 : Int32) = (0 : Int32) by decide) c_112)
                      refine lv_goto (tgt := 40) hx hb dX11_nets_208 (by decide) ?_
                      exact ih40 0 gr o3 ea3 eb3 ec3 ed3 w35 (by omega) (by omega) (by omega) k36 k37 k38 k39 k40 k41 k42 k43 kp44 ls (lv_sub hl [1, 2, 0] rfl) H locs hP hD hS
                    · obtain ⟨ia, hia, rfl, hca, hoa⟩ := hA.resolve_left c_111
                      refine lv_iload hx hb dX11_nets_122 (lv_at hl 4 rfl) ?_
                      refine lv_iconst (v := (-1)) hx hb dX11_nets_124 (by decide) ?_
                      refine lv_icmp_eq (tgt := 132) hx hb dX11_nets_125 (by decide) (fun c_113 => ?_) (fun c_113 => ?_)
                      · refine lv_iconst (v := 0) hx hb dX11_nets_132 (by decide) ?_
                        refine lv_istore_n (lv' := [(2, .int 0), (0, .ref y), (1, .int (nI cz)), (3, .int (nI ia)), (4, .int bb9), (5, .int (nI j - 1))]) hx hb dX11_nets_133 rfl hl (by decide) rfl (fun ls hl => ?_)
                        refine lv_iload_n hx hb dX11_nets_134 rfl (lv_at hl 0 rfl) ?_
                        refine lv_if_eq (tgt := 208) hx hb dX11_nets_135 (by decide) (fun c_114 => ?_) (fun c_114 => absurd (show (0 : Int32) = (0 : Int32) by decide) c_114)
                        refine lv_goto (tgt := 40) hx hb dX11_nets_208 (by decide) ?_
                        exact ih40 0 gr o3 ea3 eb3 ec3 ed3 w35 (by omega) (by omega) (by omega) k36 k37 k38 k39 k40 k41 k42 k43 kp44 ls (lv_sub hl [1, 2, 0] rfl) H locs hP hD hS
                      · obtain ⟨ib, hib, rfl, hcb, hob⟩ := hB.resolve_left c_113
                        refine lv_iconst (v := 1) hx hb dX11_nets_128 (by decide) ?_
                        refine lv_goto (tgt := 133) hx hb dX11_nets_129 (by decide) ?_
                        refine lv_istore_n (lv' := [(2, .int 1), (0, .ref y), (1, .int (nI cz)), (3, .int (nI ia)), (4, .int (nI ib)), (5, .int (nI j - 1))]) hx hb dX11_nets_133 rfl hl (by decide) rfl (fun ls hl => ?_)
                        refine lv_iload_n hx hb dX11_nets_134 rfl (lv_at hl 0 rfl) ?_
                        refine lv_if_eq (tgt := 208) hx hb dX11_nets_135 (by decide) (fun c_115 => absurd c_115 (show ¬ (1 : Int32) = (0 : Int32) by decide)) (fun c_115 => ?_)
                        refine lv_aload_n hx hb dX11_nets_138 rfl (lv_at hl 1 rfl) ?_
                        refine x_get (ref := "NoteHouseModel") F hP k36 rfl (fun _ h => List.mem_cons_of_mem _ (List.mem_append_right _ (h))) 54 (Nat.le_of_ble_eq_true rfl) (List.mem_cons_of_mem _ (List.mem_append_left _ (List.mem_of_getElem? (i := 1) rfl))) rfl rfl dX11_nets_139 ?_
                        refine lv_iload_n hx hb dX11_nets_142 rfl (lv_at hl 3 rfl) ?_
                        refine x_lald F hP k39 (vp_in_nI (n := ia) (N := 12) (by omega) (by decide)) dX11_nets_143 ?_
                        rw [nI_clamp (n := ia) (by omega)]
                        refine lv_lneg hx hb dX11_nets_144 ?_
                        refine lv_aload_n hx hb dX11_nets_145 rfl (lv_at hl 1 rfl) ?_
                        refine x_get (ref := "NoteHouseModel") F hP k36 rfl (fun _ h => List.mem_cons_of_mem _ (List.mem_append_right _ (h))) 54 (Nat.le_of_ble_eq_true rfl) (List.mem_cons_of_mem _ (List.mem_append_left _ (List.mem_of_getElem? (i := 1) rfl))) rfl rfl dX11_nets_146 ?_
                        refine lv_iload hx hb dX11_nets_149 (lv_at hl 4 rfl) ?_
                        refine x_lald F hP k39 (vp_in_nI (n := ib) (N := 12) (by omega) (by decide)) dX11_nets_151 ?_
                        rw [nI_clamp (n := ib) (by omega)]
                        refine W.lcmp hx hb dX11_nets_152 ?_
                        refine lv_if_ge (tgt := 166) hx hb dX11_nets_153 (by decide) (fun c_116 => ?_) (fun c_116 => ?_)
                        · refine lv_aload_n hx hb dX11_nets_166 rfl (lv_at hl 1 rfl) ?_
                          refine x_get (ref := "NoteHouseModel") F hP k36 rfl (fun _ h => List.mem_cons_of_mem _ (List.mem_append_right _ (h))) 54 (Nat.le_of_ble_eq_true rfl) (List.mem_cons_of_mem _ (List.mem_append_left _ (List.mem_of_getElem? (i := 1) rfl))) rfl rfl dX11_nets_167 ?_
                          refine lv_iload hx hb dX11_nets_170 (lv_at hl 4 rfl) ?_
                          refine x_lald F hP k39 (vp_in_nI (n := ib) (N := 12) (by omega) (by decide)) dX11_nets_172 ?_
                          rw [nI_clamp (n := ib) (by omega)]
                          refine lv_lstore (lv' := [(5, .long (o3 ib)), (2, .int 1), (0, .ref y), (1, .int (nI cz)), (3, .int (nI ia)), (4, .int (nI ib))]) hx hb dX11_nets_173 hl (by decide) rfl (fun ls hl => ?_)
                          refine lv_aload_n hx hb dX11_nets_175 rfl (lv_at hl 2 rfl) ?_
                          refine lv_iload_n hx hb dX11_nets_176 rfl (lv_at hl 4 rfl) ?_
                          refine lv_iload hx hb dX11_nets_177 (lv_at hl 5 rfl) ?_
                          refine lv_lload hx hb dX11_nets_179 (lv_at hl 0 rfl) ?_
                          refine lv_iload_n hx hb dX11_nets_181 rfl (lv_at hl 3 rfl) ?_
                          refine x_callV (n := 4) (As := [.int (nI ia), .int (nI ib), .long (o3 ib), .int (nI cz)]) (rest := []) F hP hD hS (m_gift l D cy sk sv w35 tg y m2 m3 m4 m5 m6 m8 m9 m10 m11 m12 m13 m14 m17 m18 m19 m20 m21 m22 m23 m24 m29 m30 m31 m32 m33 m34 m35 m36 m37 m39 m40 m41 m42 m43 m44 m45 m46 m47 m48 m49 m51 m52 m53 m54 m56 m57 m58 m59 pc ac sc ln sh gr v0 td v26 v27 v28 v50 ea3 eb3 ec3 ed3 (nI ia) (nI ib) (nI cz) (o3 ib) k36 k40 k41 k42 k43 (fun b => b = y ∨ b = m56 ∨ b = m57 ∨ b = m58 ∨ b = m59) (Or.inl rfl) (Or.inr (Or.inl rfl)) (Or.inr (Or.inr (Or.inl rfl))) (Or.inr (Or.inr (Or.inr (Or.inl rfl)))) (Or.inr (Or.inr (Or.inr (Or.inr rfl)))) ty tm56 tm57 tm58 tm59 (by omega)) gX11_nets_X11_gift rfl rfl (by decide +kernel) ⟨(Nat.le_of_ble_eq_true rfl), (Nat.le_of_ble_eq_true rfl)⟩ rfl hl.1 (Nat.le_of_ble_eq_true rfl) k36 rfl dX11_nets_182 rfl ⟨(Nat.le_of_ble_eq_true rfl), (Nat.le_of_ble_eq_true rfl)⟩ (fun v118 w119 hp117 H locs hP hD hS => ?_)
                          obtain ⟨gx120, gx121, gx122, gx123, rfl, kq129, k124, k125, k126, k127, k128⟩ := hp117
                          have k130 := kq129.2 _ _ k37 (orN (tg_ne tm4 ty (by decide)) (orN (tg_ne tm4 tm56 (by decide)) (orN (tg_ne tm4 tm57 (by decide)) (orN (tg_ne tm4 tm58 (by decide)) (tg_ne tm4 tm59 (by decide))))))
                          have k131 := kq129.2 _ _ k38 (orN (tg_ne tm53 ty (by decide)) (orN (tg_ne tm53 tm56 (by decide)) (orN (tg_ne tm53 tm57 (by decide)) (orN (tg_ne tm53 tm58 (by decide)) (tg_ne tm53 tm59 (by decide))))))
                          have k132 := kq129.2 _ _ k39 (orN (tg_ne tm54 ty (by decide)) (orN (tg_ne tm54 tm56 (by decide)) (orN (tg_ne tm54 tm57 (by decide)) (orN (tg_ne tm54 tm58 (by decide)) (tg_ne tm54 tm59 (by decide))))))
                          have kp133 := kp44.tr kq129 (fun b9 hm q9 => (fun q9 => Or.elim q9 (fun q9 => q9 ▸ s90) (fun q9 => Or.elim q9 (fun q9 => q9 ▸ s92) (fun q9 => Or.elim q9 (fun q9 => q9 ▸ s93) (fun q9 => Or.elim q9 (fun q9 => q9 ▸ s94) (fun q9 => q9 ▸ s95))))) q9)
                          refine W.eq (g2 := F0 m 185 ls []) rfl (W.widen (k := 0) (n := 0) (Nat.le_of_ble_eq_true rfl) (Nat.le_of_ble_eq_true rfl) ?_)
                          refine lv_aload_n hx hb dX11_nets_185 rfl (lv_at hl 2 rfl) ?_
                          refine x_get (ref := "NoteHouseModel") F hP k124 rfl (fun _ h => List.mem_cons_of_mem _ (List.mem_append_right _ (h))) 54 (Nat.le_of_ble_eq_true rfl) (List.mem_cons_of_mem _ (List.mem_append_left _ (List.mem_of_getElem? (i := 1) rfl))) rfl rfl dX11_nets_186 ?_
                          refine lv_iload_n hx hb dX11_nets_189 rfl (lv_at hl 4 rfl) ?_
                          refine lv_dup2_11 hx hb dX11_nets_190 rfl rfl ?_
                          refine x_lald F hP k132 (vp_in_nI (n := ia) (N := 12) (by omega) (by decide)) dX11_nets_191 ?_
                          refine lv_lload hx hb dX11_nets_192 (lv_at hl 0 rfl) ?_
                          refine lv_ladd hx hb dX11_nets_194 ?_
                          refine y_last F hP hD hS k132 (vp_in_nI (n := ia) (N := 12) (by omega) (by decide)) dX11_nets_195 (fun w134 ew135 H locs hP hD hS => ?_)
                          have k136 := wd_at.pt ew135 k124 (tg_ne ty tm54 (by decide))
                          have k137 := wd_at.pt ew135 k130 (tg_ne tm4 tm54 (by decide))
                          have k138 := wd_at.pt ew135 k131 (tg_ne tm53 tm54 (by decide))
                          have k139 : wd_at w134 m54 (.inl (cy 3, 12, .inr (.inl (vp_updL o3 (nI ia).toNatClampNeg ((o3 (nI ia).toNatClampNeg) + (o3 ib)))))) := wd_at.ps ew135 k132
                          have k140 := wd_at.pt ew135 k125 (tg_ne tm56 tm54 (by decide))
                          have k141 := wd_at.pt ew135 k126 (tg_ne tm57 tm54 (by decide))
                          have k142 := wd_at.pt ew135 k127 (tg_ne tm58 tm54 (by decide))
                          have k143 := wd_at.pt ew135 k128 (tg_ne tm59 tm54 (by decide))
                          have kp144 := kp133.put ew135 s91
                          refine lv_aload_n hx hb dX11_nets_196 rfl (lv_at hl 2 rfl) ?_
                          refine x_get (ref := "NoteHouseModel") F hP k136 rfl (fun _ h => List.mem_cons_of_mem _ (List.mem_append_right _ (h))) 54 (Nat.le_of_ble_eq_true rfl) (List.mem_cons_of_mem _ (List.mem_append_left _ (List.mem_of_getElem? (i := 1) rfl))) rfl rfl dX11_nets_197 ?_
                          refine lv_iload hx hb dX11_nets_200 (lv_at hl 5 rfl) ?_
                          refine lv_dup2_11 hx hb dX11_nets_202 rfl rfl ?_
                          refine x_lald F hP k139 (vp_in_nI (n := ib) (N := 12) (by omega) (by decide)) dX11_nets_203 ?_
                          refine lv_lload hx hb dX11_nets_204 (lv_at hl 0 rfl) ?_
                          refine lv_lsub hx hb dX11_nets_206 ?_
                          refine y_last F hP hD hS k139 (vp_in_nI (n := ib) (N := 12) (by omega) (by decide)) dX11_nets_207 (fun w145 ew146 H locs hP hD hS => ?_)
                          have k147 := wd_at.pt ew146 k136 (tg_ne ty tm54 (by decide))
                          have k148 := wd_at.pt ew146 k137 (tg_ne tm4 tm54 (by decide))
                          have k149 := wd_at.pt ew146 k138 (tg_ne tm53 tm54 (by decide))
                          have k150 : wd_at w145 m54 (.inl (cy 3, 12, .inr (.inl (vp_updL (vp_updL o3 (nI ia).toNatClampNeg ((o3 (nI ia).toNatClampNeg) + (o3 ib))) (nI ib).toNatClampNeg (((vp_updL o3 (nI ia).toNatClampNeg ((o3 (nI ia).toNatClampNeg) + (o3 ib))) (nI ib).toNatClampNeg) - (o3 ib)))))) := wd_at.ps ew146 k139
                          have k151 := wd_at.pt ew146 k140 (tg_ne tm56 tm54 (by decide))
                          have k152 := wd_at.pt ew146 k141 (tg_ne tm57 tm54 (by decide))
                          have k153 := wd_at.pt ew146 k142 (tg_ne tm58 tm54 (by decide))
                          have k154 := wd_at.pt ew146 k143 (tg_ne tm59 tm54 (by decide))
                          have kp155 := kp144.put ew146 s91
                          refine lv_goto (tgt := 40) hx hb dX11_nets_208 (by decide) ?_
                          exact ih40 1 (gr + 1) (vp_updL (vp_updL o3 (nI ia).toNatClampNeg ((o3 (nI ia).toNatClampNeg) + (o3 ib))) (nI ib).toNatClampNeg (((vp_updL o3 (nI ia).toNatClampNeg ((o3 (nI ia).toNatClampNeg) + (o3 ib))) (nI ib).toNatClampNeg) - (o3 ib))) gx120 gx121 gx122 gx123 w145 (by have h9 := nq_d (co := f4) (o := o3) (c := cz) (a := ia) (b := ib) (v := o3 ib) hia hib hca hcb hoa hob (Or.inr rfl); omega) (by have h9 := nq_d (co := f4) (o := o3) (c := cz) (a := ia) (b := ib) (v := o3 ib) hia hib hca hcb hoa hob (Or.inr rfl); omega) (by omega) k147 k148 k149 k150 k151 k152 k153 k154 kp155 ls (lv_sub hl [2, 3, 1] rfl) H locs hP hD hS
                        · refine lv_aload_n hx hb dX11_nets_156 rfl (lv_at hl 1 rfl) ?_
                          refine x_get (ref := "NoteHouseModel") F hP k36 rfl (fun _ h => List.mem_cons_of_mem _ (List.mem_append_right _ (h))) 54 (Nat.le_of_ble_eq_true rfl) (List.mem_cons_of_mem _ (List.mem_append_left _ (List.mem_of_getElem? (i := 1) rfl))) rfl rfl dX11_nets_157 ?_
                          refine lv_iload_n hx hb dX11_nets_160 rfl (lv_at hl 3 rfl) ?_
                          refine x_lald F hP k39 (vp_in_nI (n := ia) (N := 12) (by omega) (by decide)) dX11_nets_161 ?_
                          rw [nI_clamp (n := ia) (by omega)]
                          refine lv_lneg hx hb dX11_nets_162 ?_
                          refine lv_goto (tgt := 173) hx hb dX11_nets_163 (by decide) ?_
                          refine lv_lstore (lv' := [(5, .long (-(o3 ia))), (2, .int 1), (0, .ref y), (1, .int (nI cz)), (3, .int (nI ia)), (4, .int (nI ib))]) hx hb dX11_nets_173 hl (by decide) rfl (fun ls hl => ?_)
                          refine lv_aload_n hx hb dX11_nets_175 rfl (lv_at hl 2 rfl) ?_
                          refine lv_iload_n hx hb dX11_nets_176 rfl (lv_at hl 4 rfl) ?_
                          refine lv_iload hx hb dX11_nets_177 (lv_at hl 5 rfl) ?_
                          refine lv_lload hx hb dX11_nets_179 (lv_at hl 0 rfl) ?_
                          refine lv_iload_n hx hb dX11_nets_181 rfl (lv_at hl 3 rfl) ?_
                          refine x_callV (n := 4) (As := [.int (nI ia), .int (nI ib), .long (-(o3 ia)), .int (nI cz)]) (rest := []) F hP hD hS (m_gift l D cy sk sv w35 tg y m2 m3 m4 m5 m6 m8 m9 m10 m11 m12 m13 m14 m17 m18 m19 m20 m21 m22 m23 m24 m29 m30 m31 m32 m33 m34 m35 m36 m37 m39 m40 m41 m42 m43 m44 m45 m46 m47 m48 m49 m51 m52 m53 m54 m56 m57 m58 m59 pc ac sc ln sh gr v0 td v26 v27 v28 v50 ea3 eb3 ec3 ed3 (nI ia) (nI ib) (nI cz) (-(o3 ia)) k36 k40 k41 k42 k43 (fun b => b = y ∨ b = m56 ∨ b = m57 ∨ b = m58 ∨ b = m59) (Or.inl rfl) (Or.inr (Or.inl rfl)) (Or.inr (Or.inr (Or.inl rfl))) (Or.inr (Or.inr (Or.inr (Or.inl rfl)))) (Or.inr (Or.inr (Or.inr (Or.inr rfl)))) ty tm56 tm57 tm58 tm59 (by omega)) gX11_nets_X11_gift rfl rfl (by decide +kernel) ⟨(Nat.le_of_ble_eq_true rfl), (Nat.le_of_ble_eq_true rfl)⟩ rfl hl.1 (Nat.le_of_ble_eq_true rfl) k36 rfl dX11_nets_182 rfl ⟨(Nat.le_of_ble_eq_true rfl), (Nat.le_of_ble_eq_true rfl)⟩ (fun v157 w158 hp156 H locs hP hD hS => ?_)
                          obtain ⟨gx159, gx160, gx161, gx162, rfl, kq168, k163, k164, k165, k166, k167⟩ := hp156
                          have k169 := kq168.2 _ _ k37 (orN (tg_ne tm4 ty (by decide)) (orN (tg_ne tm4 tm56 (by decide)) (orN (tg_ne tm4 tm57 (by decide)) (orN (tg_ne tm4 tm58 (by decide)) (tg_ne tm4 tm59 (by decide))))))
                          have k170 := kq168.2 _ _ k38 (orN (tg_ne tm53 ty (by decide)) (orN (tg_ne tm53 tm56 (by decide)) (orN (tg_ne tm53 tm57 (by decide)) (orN (tg_ne tm53 tm58 (by decide)) (tg_ne tm53 tm59 (by decide))))))
                          have k171 := kq168.2 _ _ k39 (orN (tg_ne tm54 ty (by decide)) (orN (tg_ne tm54 tm56 (by decide)) (orN (tg_ne tm54 tm57 (by decide)) (orN (tg_ne tm54 tm58 (by decide)) (tg_ne tm54 tm59 (by decide))))))
                          have kp172 := kp44.tr kq168 (fun b9 hm q9 => (fun q9 => Or.elim q9 (fun q9 => q9 ▸ s90) (fun q9 => Or.elim q9 (fun q9 => q9 ▸ s92) (fun q9 => Or.elim q9 (fun q9 => q9 ▸ s93) (fun q9 => Or.elim q9 (fun q9 => q9 ▸ s94) (fun q9 => q9 ▸ s95))))) q9)
                          refine W.eq (g2 := F0 m 185 ls []) rfl (W.widen (k := 0) (n := 0) (Nat.le_of_ble_eq_true rfl) (Nat.le_of_ble_eq_true rfl) ?_)
                          refine lv_aload_n hx hb dX11_nets_185 rfl (lv_at hl 2 rfl) ?_
                          refine x_get (ref := "NoteHouseModel") F hP k163 rfl (fun _ h => List.mem_cons_of_mem _ (List.mem_append_right _ (h))) 54 (Nat.le_of_ble_eq_true rfl) (List.mem_cons_of_mem _ (List.mem_append_left _ (List.mem_of_getElem? (i := 1) rfl))) rfl rfl dX11_nets_186 ?_
                          refine lv_iload_n hx hb dX11_nets_189 rfl (lv_at hl 4 rfl) ?_
                          refine lv_dup2_11 hx hb dX11_nets_190 rfl rfl ?_
                          refine x_lald F hP k171 (vp_in_nI (n := ia) (N := 12) (by omega) (by decide)) dX11_nets_191 ?_
                          refine lv_lload hx hb dX11_nets_192 (lv_at hl 0 rfl) ?_
                          refine lv_ladd hx hb dX11_nets_194 ?_
                          refine y_last F hP hD hS k171 (vp_in_nI (n := ia) (N := 12) (by omega) (by decide)) dX11_nets_195 (fun w173 ew174 H locs hP hD hS => ?_)
                          have k175 := wd_at.pt ew174 k163 (tg_ne ty tm54 (by decide))
                          have k176 := wd_at.pt ew174 k169 (tg_ne tm4 tm54 (by decide))
                          have k177 := wd_at.pt ew174 k170 (tg_ne tm53 tm54 (by decide))
                          have k178 : wd_at w173 m54 (.inl (cy 3, 12, .inr (.inl (vp_updL o3 (nI ia).toNatClampNeg ((o3 (nI ia).toNatClampNeg) + (-(o3 ia))))))) := wd_at.ps ew174 k171
                          have k179 := wd_at.pt ew174 k164 (tg_ne tm56 tm54 (by decide))
                          have k180 := wd_at.pt ew174 k165 (tg_ne tm57 tm54 (by decide))
                          have k181 := wd_at.pt ew174 k166 (tg_ne tm58 tm54 (by decide))
                          have k182 := wd_at.pt ew174 k167 (tg_ne tm59 tm54 (by decide))
                          have kp183 := kp172.put ew174 s91
                          refine lv_aload_n hx hb dX11_nets_196 rfl (lv_at hl 2 rfl) ?_
                          refine x_get (ref := "NoteHouseModel") F hP k175 rfl (fun _ h => List.mem_cons_of_mem _ (List.mem_append_right _ (h))) 54 (Nat.le_of_ble_eq_true rfl) (List.mem_cons_of_mem _ (List.mem_append_left _ (List.mem_of_getElem? (i := 1) rfl))) rfl rfl dX11_nets_197 ?_
                          refine lv_iload hx hb dX11_nets_200 (lv_at hl 5 rfl) ?_
                          refine lv_dup2_11 hx hb dX11_nets_202 rfl rfl ?_
                          refine x_lald F hP k178 (vp_in_nI (n := ib) (N := 12) (by omega) (by decide)) dX11_nets_203 ?_
                          refine lv_lload hx hb dX11_nets_204 (lv_at hl 0 rfl) ?_
                          refine lv_lsub hx hb dX11_nets_206 ?_
                          refine y_last F hP hD hS k178 (vp_in_nI (n := ib) (N := 12) (by omega) (by decide)) dX11_nets_207 (fun w184 ew185 H locs hP hD hS => ?_)
                          have k186 := wd_at.pt ew185 k175 (tg_ne ty tm54 (by decide))
                          have k187 := wd_at.pt ew185 k176 (tg_ne tm4 tm54 (by decide))
                          have k188 := wd_at.pt ew185 k177 (tg_ne tm53 tm54 (by decide))
                          have k189 : wd_at w184 m54 (.inl (cy 3, 12, .inr (.inl (vp_updL (vp_updL o3 (nI ia).toNatClampNeg ((o3 (nI ia).toNatClampNeg) + (-(o3 ia)))) (nI ib).toNatClampNeg (((vp_updL o3 (nI ia).toNatClampNeg ((o3 (nI ia).toNatClampNeg) + (-(o3 ia)))) (nI ib).toNatClampNeg) - (-(o3 ia))))))) := wd_at.ps ew185 k178
                          have k190 := wd_at.pt ew185 k179 (tg_ne tm56 tm54 (by decide))
                          have k191 := wd_at.pt ew185 k180 (tg_ne tm57 tm54 (by decide))
                          have k192 := wd_at.pt ew185 k181 (tg_ne tm58 tm54 (by decide))
                          have k193 := wd_at.pt ew185 k182 (tg_ne tm59 tm54 (by decide))
                          have kp194 := kp183.put ew185 s91
                          refine lv_goto (tgt := 40) hx hb dX11_nets_208 (by decide) ?_
                          exact ih40 1 (gr + 1) (vp_updL (vp_updL o3 (nI ia).toNatClampNeg ((o3 (nI ia).toNatClampNeg) + (-(o3 ia)))) (nI ib).toNatClampNeg (((vp_updL o3 (nI ia).toNatClampNeg ((o3 (nI ia).toNatClampNeg) + (-(o3 ia)))) (nI ib).toNatClampNeg) - (-(o3 ia)))) gx159 gx160 gx161 gx162 w184 (by have h9 := nq_d (co := f4) (o := o3) (c := cz) (a := ia) (b := ib) (v := -(o3 ia)) hia hib hca hcb hoa hob (Or.inl rfl); omega) (by have h9 := nq_d (co := f4) (o := o3) (c := cz) (a := ia) (b := ib) (v := -(o3 ia)) hia hib hca hcb hoa hob (Or.inl rfl); omega) (by omega) k186 k187 k188 k189 k190 k191 k192 k193 kp194 ls (lv_sub hl [2, 3, 1] rfl) H locs hP hD hS
                  | succ N ih53 =>
                    intro j aa9 bb9 hN53 hj12 hA hB ls hl H locs hP hD hS
                    have hl : lv_has ls 7 [(0, .ref y), (1, .int (nI cz)), (2, .int (nI on)), (3, .int aa9), (4, .int bb9), (5, .int (nI N))] := by have h9 := hl; rw [hN53, nI_p1] at h9; exact h9
                    refine lv_iload hx hb dX11_nets_53 (lv_at hl 5 rfl) ?_
                    refine lv_if_lt (tgt := 117) hx hb dX11_nets_55 (by decide) (fun c_195 => absurd c_195 (nI_pos (by omega))) (fun c_195 => ?_)
                    refine lv_aload_n hx hb dX11_nets_58 rfl (lv_at hl 0 rfl) ?_
                    refine x_get (ref := "NoteHouseModel") F hP k36 rfl (fun _ h => List.mem_cons_of_mem _ (List.mem_append_right _ (h))) 4 (Nat.le_of_ble_eq_true rfl) (List.mem_cons_of_mem _ (List.mem_append_left _ (List.mem_of_getElem? (i := 3) rfl))) rfl rfl dX11_nets_59 ?_
                    refine lv_iload hx hb dX11_nets_62 (lv_at hl 5 rfl) ?_
                    refine x_iald F hP k37 (vp_in_nI (n := N) (N := 12) (by omega) (by decide)) dX11_nets_64 ?_
                    rw [nI_clamp (n := N) (by omega)]
                    refine lv_iload_n hx hb dX11_nets_65 rfl (lv_at hl 1 rfl) ?_
                    refine lv_icmp_ne (tgt := 84) hx hb dX11_nets_66 (by decide) (fun cq1 => ?_) (fun cq1 => ?_)
                    · refine lv_aload_n hx hb dX11_nets_84 rfl (lv_at hl 0 rfl) ?_
                      refine x_get (ref := "NoteHouseModel") F hP k36 rfl (fun _ h => List.mem_cons_of_mem _ (List.mem_append_right _ (h))) 4 (Nat.le_of_ble_eq_true rfl) (List.mem_cons_of_mem _ (List.mem_append_left _ (List.mem_of_getElem? (i := 3) rfl))) rfl rfl dX11_nets_85 ?_
                      refine lv_iload hx hb dX11_nets_88 (lv_at hl 5 rfl) ?_
                      refine x_iald F hP k37 (vp_in_nI (n := N) (N := 12) (by omega) (by decide)) dX11_nets_90 ?_
                      rw [nI_clamp (n := N) (by omega)]
                      refine lv_iload_n hx hb dX11_nets_91 rfl (lv_at hl 1 rfl) ?_
                      refine lv_icmp_ne (tgt := 111) hx hb dX11_nets_92 (by decide) (fun cq3 => ?_) (fun cq3 => ?_)
                      · refine lv_iinc (v := nI N - 1) (lv' := [(5, .int (nI N - 1)), (0, .ref y), (1, .int (nI cz)), (2, .int (nI on)), (3, .int aa9), (4, .int bb9)]) hx hb dX11_nets_111 hl (k := 5) rfl (dec1 (nI N)) (by decide) rfl (fun ls hl => ?_)
                        refine lv_goto (tgt := 53) hx hb dX11_nets_114 (by decide) ?_
                        exact ih53 N aa9 bb9  rfl (by omega) hA hB   ls (lv_sub hl [1, 2, 3, 4, 5, 0] rfl) H locs hP hD hS
                      · refine lv_aload_n hx hb dX11_nets_95 rfl (lv_at hl 0 rfl) ?_
                        refine x_get (ref := "NoteHouseModel") F hP k36 rfl (fun _ h => List.mem_cons_of_mem _ (List.mem_append_right _ (h))) 54 (Nat.le_of_ble_eq_true rfl) (List.mem_cons_of_mem _ (List.mem_append_left _ (List.mem_of_getElem? (i := 1) rfl))) rfl rfl dX11_nets_96 ?_
                        refine lv_iload hx hb dX11_nets_99 (lv_at hl 5 rfl) ?_
                        refine x_lald F hP k39 (vp_in_nI (n := N) (N := 12) (by omega) (by decide)) dX11_nets_101 ?_
                        rw [nI_clamp (n := N) (by omega)]
                        refine lv_lconst (v := 0) hx hb dX11_nets_102 (by decide) ?_
                        refine W.lcmp hx hb dX11_nets_103 ?_
                        refine lv_if_le (tgt := 111) hx hb dX11_nets_104 (by decide) (fun cq4 => ?_) (fun cq4 => ?_)
                        · refine lv_iinc (v := nI N - 1) (lv' := [(5, .int (nI N - 1)), (0, .ref y), (1, .int (nI cz)), (2, .int (nI on)), (3, .int aa9), (4, .int bb9)]) hx hb dX11_nets_111 hl (k := 5) rfl (dec1 (nI N)) (by decide) rfl (fun ls hl => ?_)
                          refine lv_goto (tgt := 53) hx hb dX11_nets_114 (by decide) ?_
                          exact ih53 N aa9 bb9  rfl (by omega) hA hB   ls (lv_sub hl [1, 2, 3, 4, 5, 0] rfl) H locs hP hD hS
                        · refine lv_iload hx hb dX11_nets_107 (lv_at hl 5 rfl) ?_
                          refine lv_istore (lv' := [(4, .int (nI N)), (0, .ref y), (1, .int (nI cz)), (2, .int (nI on)), (3, .int aa9), (5, .int (nI N))]) hx hb dX11_nets_109 hl (by decide) rfl (fun ls hl => ?_)
                          refine lv_iinc (v := nI N - 1) (lv' := [(5, .int (nI N - 1)), (4, .int (nI N)), (0, .ref y), (1, .int (nI cz)), (2, .int (nI on)), (3, .int aa9)]) hx hb dX11_nets_111 hl (k := 5) rfl (dec1 (nI N)) (by decide) rfl (fun ls hl => ?_)
                          refine lv_goto (tgt := 53) hx hb dX11_nets_114 (by decide) ?_
                          exact ih53 N aa9 (nI N)  rfl (by omega) hA (Or.inr ⟨N, by omega, rfl, cq3, (Int64.not_le.mp (fun q => cq4 ((lg_cmp_le _ _).mpr q)))⟩)   ls (lv_sub hl [2, 3, 4, 5, 1, 0] rfl) H locs hP hD hS
                    · refine lv_aload_n hx hb dX11_nets_69 rfl (lv_at hl 0 rfl) ?_
                      refine x_get (ref := "NoteHouseModel") F hP k36 rfl (fun _ h => List.mem_cons_of_mem _ (List.mem_append_right _ (h))) 54 (Nat.le_of_ble_eq_true rfl) (List.mem_cons_of_mem _ (List.mem_append_left _ (List.mem_of_getElem? (i := 1) rfl))) rfl rfl dX11_nets_70 ?_
                      refine lv_iload hx hb dX11_nets_73 (lv_at hl 5 rfl) ?_
                      refine x_lald F hP k39 (vp_in_nI (n := N) (N := 12) (by omega) (by decide)) dX11_nets_75 ?_
                      rw [nI_clamp (n := N) (by omega)]
                      refine lv_lconst (v := 0) hx hb dX11_nets_76 (by decide) ?_
                      refine W.lcmp hx hb dX11_nets_77 ?_
                      refine lv_if_ge (tgt := 84) hx hb dX11_nets_78 (by decide) (fun cq2 => ?_) (fun cq2 => ?_)
                      · refine lv_aload_n hx hb dX11_nets_84 rfl (lv_at hl 0 rfl) ?_
                        refine x_get (ref := "NoteHouseModel") F hP k36 rfl (fun _ h => List.mem_cons_of_mem _ (List.mem_append_right _ (h))) 4 (Nat.le_of_ble_eq_true rfl) (List.mem_cons_of_mem _ (List.mem_append_left _ (List.mem_of_getElem? (i := 3) rfl))) rfl rfl dX11_nets_85 ?_
                        refine lv_iload hx hb dX11_nets_88 (lv_at hl 5 rfl) ?_
                        refine x_iald F hP k37 (vp_in_nI (n := N) (N := 12) (by omega) (by decide)) dX11_nets_90 ?_
                        rw [nI_clamp (n := N) (by omega)]
                        refine lv_iload_n hx hb dX11_nets_91 rfl (lv_at hl 1 rfl) ?_
                        refine lv_icmp_ne (tgt := 111) hx hb dX11_nets_92 (by decide) (fun cq3 => ?_) (fun cq3 => ?_)
                        · refine lv_iinc (v := nI N - 1) (lv' := [(5, .int (nI N - 1)), (0, .ref y), (1, .int (nI cz)), (2, .int (nI on)), (3, .int aa9), (4, .int bb9)]) hx hb dX11_nets_111 hl (k := 5) rfl (dec1 (nI N)) (by decide) rfl (fun ls hl => ?_)
                          refine lv_goto (tgt := 53) hx hb dX11_nets_114 (by decide) ?_
                          exact ih53 N aa9 bb9  rfl (by omega) hA hB   ls (lv_sub hl [1, 2, 3, 4, 5, 0] rfl) H locs hP hD hS
                        · refine lv_aload_n hx hb dX11_nets_95 rfl (lv_at hl 0 rfl) ?_
                          refine x_get (ref := "NoteHouseModel") F hP k36 rfl (fun _ h => List.mem_cons_of_mem _ (List.mem_append_right _ (h))) 54 (Nat.le_of_ble_eq_true rfl) (List.mem_cons_of_mem _ (List.mem_append_left _ (List.mem_of_getElem? (i := 1) rfl))) rfl rfl dX11_nets_96 ?_
                          refine lv_iload hx hb dX11_nets_99 (lv_at hl 5 rfl) ?_
                          refine x_lald F hP k39 (vp_in_nI (n := N) (N := 12) (by omega) (by decide)) dX11_nets_101 ?_
                          rw [nI_clamp (n := N) (by omega)]
                          refine lv_lconst (v := 0) hx hb dX11_nets_102 (by decide) ?_
                          refine W.lcmp hx hb dX11_nets_103 ?_
                          refine lv_if_le (tgt := 111) hx hb dX11_nets_104 (by decide) (fun cq4 => ?_) (fun cq4 => ?_)
                          · refine lv_iinc (v := nI N - 1) (lv' := [(5, .int (nI N - 1)), (0, .ref y), (1, .int (nI cz)), (2, .int (nI on)), (3, .int aa9), (4, .int bb9)]) hx hb dX11_nets_111 hl (k := 5) rfl (dec1 (nI N)) (by decide) rfl (fun ls hl => ?_)
                            refine lv_goto (tgt := 53) hx hb dX11_nets_114 (by decide) ?_
                            exact ih53 N aa9 bb9  rfl (by omega) hA hB   ls (lv_sub hl [1, 2, 3, 4, 5, 0] rfl) H locs hP hD hS
                          · refine lv_iload hx hb dX11_nets_107 (lv_at hl 5 rfl) ?_
                            refine lv_istore (lv' := [(4, .int (nI N)), (0, .ref y), (1, .int (nI cz)), (2, .int (nI on)), (3, .int aa9), (5, .int (nI N))]) hx hb dX11_nets_109 hl (by decide) rfl (fun ls hl => ?_)
                            refine lv_iinc (v := nI N - 1) (lv' := [(5, .int (nI N - 1)), (4, .int (nI N)), (0, .ref y), (1, .int (nI cz)), (2, .int (nI on)), (3, .int aa9)]) hx hb dX11_nets_111 hl (k := 5) rfl (dec1 (nI N)) (by decide) rfl (fun ls hl => ?_)
                            refine lv_goto (tgt := 53) hx hb dX11_nets_114 (by decide) ?_
                            exact ih53 N aa9 (nI N)  rfl (by omega) hA (Or.inr ⟨N, by omega, rfl, cq3, (Int64.not_le.mp (fun q => cq4 ((lg_cmp_le _ _).mpr q)))⟩)   ls (lv_sub hl [2, 3, 4, 5, 1, 0] rfl) H locs hP hD hS
                      · refine lv_iload hx hb dX11_nets_81 (lv_at hl 5 rfl) ?_
                        refine lv_istore_n (lv' := [(3, .int (nI N)), (0, .ref y), (1, .int (nI cz)), (2, .int (nI on)), (4, .int bb9), (5, .int (nI N))]) hx hb dX11_nets_83 rfl hl (by decide) rfl (fun ls hl => ?_)
                        refine lv_aload_n hx hb dX11_nets_84 rfl (lv_at hl 1 rfl) ?_
                        refine x_get (ref := "NoteHouseModel") F hP k36 rfl (fun _ h => List.mem_cons_of_mem _ (List.mem_append_right _ (h))) 4 (Nat.le_of_ble_eq_true rfl) (List.mem_cons_of_mem _ (List.mem_append_left _ (List.mem_of_getElem? (i := 3) rfl))) rfl rfl dX11_nets_85 ?_
                        refine lv_iload hx hb dX11_nets_88 (lv_at hl 5 rfl) ?_
                        refine x_iald F hP k37 (vp_in_nI (n := N) (N := 12) (by omega) (by decide)) dX11_nets_90 ?_
                        rw [nI_clamp (n := N) (by omega)]
                        refine lv_iload_n hx hb dX11_nets_91 rfl (lv_at hl 2 rfl) ?_
                        refine lv_icmp_ne (tgt := 111) hx hb dX11_nets_92 (by decide) (fun cq3 => ?_) (fun cq3 => ?_)
                        · refine lv_iinc (v := nI N - 1) (lv' := [(5, .int (nI N - 1)), (3, .int (nI N)), (0, .ref y), (1, .int (nI cz)), (2, .int (nI on)), (4, .int bb9)]) hx hb dX11_nets_111 hl (k := 5) rfl (dec1 (nI N)) (by decide) rfl (fun ls hl => ?_)
                          refine lv_goto (tgt := 53) hx hb dX11_nets_114 (by decide) ?_
                          exact ih53 N (nI N) bb9  rfl (by omega) (Or.inr ⟨N, by omega, rfl, cq1, (Int64.not_le.mp (fun q => cq2 ((lg_cmp_ge _ _).mpr q)))⟩) hB   ls (lv_sub hl [2, 3, 4, 1, 5, 0] rfl) H locs hP hD hS
                        · refine lv_aload_n hx hb dX11_nets_95 rfl (lv_at hl 1 rfl) ?_
                          refine x_get (ref := "NoteHouseModel") F hP k36 rfl (fun _ h => List.mem_cons_of_mem _ (List.mem_append_right _ (h))) 54 (Nat.le_of_ble_eq_true rfl) (List.mem_cons_of_mem _ (List.mem_append_left _ (List.mem_of_getElem? (i := 1) rfl))) rfl rfl dX11_nets_96 ?_
                          refine lv_iload hx hb dX11_nets_99 (lv_at hl 5 rfl) ?_
                          refine x_lald F hP k39 (vp_in_nI (n := N) (N := 12) (by omega) (by decide)) dX11_nets_101 ?_
                          rw [nI_clamp (n := N) (by omega)]
                          refine lv_lconst (v := 0) hx hb dX11_nets_102 (by decide) ?_
                          refine W.lcmp hx hb dX11_nets_103 ?_
                          refine lv_if_le (tgt := 111) hx hb dX11_nets_104 (by decide) (fun cq4 => ?_) (fun cq4 => ?_)
                          · refine lv_iinc (v := nI N - 1) (lv' := [(5, .int (nI N - 1)), (3, .int (nI N)), (0, .ref y), (1, .int (nI cz)), (2, .int (nI on)), (4, .int bb9)]) hx hb dX11_nets_111 hl (k := 5) rfl (dec1 (nI N)) (by decide) rfl (fun ls hl => ?_)
                            refine lv_goto (tgt := 53) hx hb dX11_nets_114 (by decide) ?_
                            exact ih53 N (nI N) bb9  rfl (by omega) (Or.inr ⟨N, by omega, rfl, cq1, (Int64.not_le.mp (fun q => cq2 ((lg_cmp_ge _ _).mpr q)))⟩) hB   ls (lv_sub hl [2, 3, 4, 1, 5, 0] rfl) H locs hP hD hS
                          · refine lv_iload hx hb dX11_nets_107 (lv_at hl 5 rfl) ?_
                            refine lv_istore (lv' := [(4, .int (nI N)), (3, .int (nI N)), (0, .ref y), (1, .int (nI cz)), (2, .int (nI on)), (5, .int (nI N))]) hx hb dX11_nets_109 hl (by decide) rfl (fun ls hl => ?_)
                            refine lv_iinc (v := nI N - 1) (lv' := [(5, .int (nI N - 1)), (4, .int (nI N)), (3, .int (nI N)), (0, .ref y), (1, .int (nI cz)), (2, .int (nI on))]) hx hb dX11_nets_111 hl (k := 5) rfl (dec1 (nI N)) (by decide) rfl (fun ls hl => ?_)
                            refine lv_goto (tgt := 53) hx hb dX11_nets_114 (by decide) ?_
                            exact ih53 N (nI N) (nI N)  rfl (by omega) (Or.inr ⟨N, by omega, rfl, cq1, (Int64.not_le.mp (fun q => cq2 ((lg_cmp_ge _ _).mpr q)))⟩) (Or.inr ⟨N, by omega, rfl, cq3, (Int64.not_le.mp (fun q => cq4 ((lg_cmp_le _ _).mpr q)))⟩)   ls (lv_sub hl [3, 4, 5, 2, 1, 0] rfl) H locs hP hD hS
                exact lp53 12 12 (-1) (-1)  rfl (by omega) (Or.inl rfl) (Or.inl rfl)   ls (lv_sub hl [3, 4, 5, 2, 1, 0] rfl) H locs hP hD hS
          exact lp40 _ 1 gq o2 ea2 eb2 ec2 ed2 w23 (Nat.le_refl _) hg2 (by omega) k24 k25 k26 k27 k28 k29 k30 k31 kp32 ls (lv_sub hl [1, 2, 0] rfl) H locs hP hD hS
      exact lp33 _ 0 0 o1 f56 f57 f58 f59 w12 (Nat.zero_add 4) (by have h9 := nq_le f4 o1 0 0; omega) k13 k14 k15 k16 k17 k18 k19 k20 kp21 ls (lv_sub hl [1, 0] rfl) H locs hP hD hS
    | succ N ih7 =>
      intro t0 o1 w12 hN7 k13 k14 k15 k16 k17 k18 k19 k20 kp21 ls hl H locs hP hD hS
      refine lv_iload_n hx hb dX11_nets_7 rfl (lv_at hl 1 rfl) ?_
      refine lv_bipush (v := 12) hx hb dX11_nets_8 (by decide) ?_
      refine lv_icmp_ge (tgt := 31) hx hb dX11_nets_10 (by decide) (fun c_196 => absurd c_196 (nI_ge (a := t0) (b := 12) (by omega) (by omega))) (fun c_196 => ?_)
      refine lv_aload_n hx hb dX11_nets_13 rfl (lv_at hl 0 rfl) ?_
      refine x_get (ref := "NoteHouseModel") F hP k13 rfl (fun _ h => List.mem_cons_of_mem _ (List.mem_append_right _ (h))) 54 (Nat.le_of_ble_eq_true rfl) (List.mem_cons_of_mem _ (List.mem_append_left _ (List.mem_of_getElem? (i := 1) rfl))) rfl rfl dX11_nets_14 ?_
      refine lv_iload_n hx hb dX11_nets_17 rfl (lv_at hl 1 rfl) ?_
      refine lv_aload_n hx hb dX11_nets_18 rfl (lv_at hl 0 rfl) ?_
      refine x_get (ref := "NoteHouseModel") F hP k13 rfl (fun _ h => List.mem_cons_of_mem _ (List.mem_append_right _ (h))) 53 (Nat.le_of_ble_eq_true rfl) (List.mem_cons_of_mem _ (List.mem_append_left _ (List.mem_of_getElem? (i := 2) rfl))) rfl rfl dX11_nets_19 ?_
      refine lv_iload_n hx hb dX11_nets_22 rfl (lv_at hl 1 rfl) ?_
      refine x_lald F hP k15 (vp_in_nI (n := t0) (N := 12) (by omega) (by decide)) dX11_nets_23 ?_
      refine y_last F hP hD hS k16 (vp_in_nI (n := t0) (N := 12) (by omega) (by decide)) dX11_nets_24 (fun w197 ew198 H locs hP hD hS => ?_)
      have k199 := wd_at.pt ew198 k13 (tg_ne ty tm54 (by decide))
      have k200 := wd_at.pt ew198 k14 (tg_ne tm4 tm54 (by decide))
      have k201 := wd_at.pt ew198 k15 (tg_ne tm53 tm54 (by decide))
      have k202 : wd_at w197 m54 (.inl (cy 3, 12, .inr (.inl (vp_updL o1 (nI t0).toNatClampNeg (f53 (nI t0).toNatClampNeg))))) := wd_at.ps ew198 k16
      have k203 := wd_at.pt ew198 k17 (tg_ne tm56 tm54 (by decide))
      have k204 := wd_at.pt ew198 k18 (tg_ne tm57 tm54 (by decide))
      have k205 := wd_at.pt ew198 k19 (tg_ne tm58 tm54 (by decide))
      have k206 := wd_at.pt ew198 k20 (tg_ne tm59 tm54 (by decide))
      have kp207 := kp21.put ew198 s91
      refine lv_iinc (v := nI (t0 + 1)) (lv' := [(1, .int (nI (t0 + 1))), (0, .ref y)]) hx hb dX11_nets_25 hl (k := 1) rfl (nI_1 t0) (by decide) rfl (fun ls hl => ?_)
      refine lv_goto (tgt := 7) hx hb dX11_nets_28 (by decide) ?_
      exact ih7 (t0 + 1) (vp_updL o1 (nI t0).toNatClampNeg (f53 (nI t0).toNatClampNeg)) w197 (by omega)  k199 k200 k201 k202 k203 k204 k205 k206 kp207 ls (lv_sub hl [1, 0] rfl) H locs hP hD hS
  exact lp7 _ 0 f54 w1 (Nat.zero_add 12)  k3 k4 k5 k6 k7 k8 k9 k10 kp11 ls (lv_sub hl [1, 0] rfl) H locs hP hD hS
set_option maxHeartbeats 4000000 in
set_option maxRecDepth 100000 in
theorem m_settle (l : Launch) (D : va_G) (cy : Nat → ClassId) (sk sv : Nat → Nat) (w : Wd) (tg : Nat → Nat) (y m2 m3 m4 m5 m6 m8 m9 m10 m11 m12 m13 m14 m17 m18 m19 m20 m21 m22 m23 m24 m29 m30 m31 m32 m33 m34 m35 m36 m37 m39 m40 m41 m42 m43 m44 m45 m46 m47 m48 m49 m51 m52 m53 m54 m56 m57 m58 m59 pc ac sc ln sh gf : Nat) (v0 td v26 v27 v28 v50 : Int32) (f4 : Nat → Int32) (f8 : Nat → Int32) (f9 : Nat → Int32) (f10 : Nat → Int32) (f21 : Nat → Int32) (f22 : Nat → Int32) (f35 : Nat → Int32) (f39 : Nat → Int32) (f40 : Nat → Int32) (f41 : Nat → Int32) (f42 : Nat → Int32) (f43 : Nat → Int32) (f46 : Nat → Int32) (f47 : Nat → Int32) (f48 : Nat → Int64) (f49 : Nat → Int32) (f51 : Nat → Int32) (f52 : Nat → Int64) (f53 : Nat → Int64) (f54 : Nat → Int64) (f56 : Nat → Int32) (f57 : Nat → Int32) (f58 : Nat → Int32) (f59 : Nat → Int64) (qs : Nat → Option Nat) (sr : Nat → Nat) (fs : Nat → Nat → Int32) (x1 : Int32) (c90 : wd_at w y (.inr (11, [.int v0, .int td, .ref m2, .ref m3, .ref m4, .ref m5, .ref m6, .int (nI pc), .ref m8, .ref m9, .ref m10, .ref m11, .ref m12, .ref m13, .ref m14, .int (nI ac), .int (nI sc), .ref m17, .ref m18, .ref m19, .ref m20, .ref m21, .ref m22, .ref m23, .ref m24, .int (nI ln), .int v26, .int v27, .int v28, .ref m29, .ref m30, .ref m31, .ref m32, .ref m33, .ref m34, .ref m35, .ref m36, .ref m37, .int (nI sh), .ref m39, .ref m40, .ref m41, .ref m42, .ref m43, .ref m44, .ref m45, .ref m46, .ref m47, .ref m48, .ref m49, .int v50, .ref m51, .ref m52, .ref m53, .ref m54, .int (nI gf), .ref m56, .ref m57, .ref m58, .ref m59]))) (c91 : wd_at w m4 (.inl (cy 2, 12, .inl f4))) (c92 : wd_at w m8 (.inl (cy 2, 30, .inl f8))) (c93 : wd_at w m9 (.inl (cy 2, 30, .inl f9))) (c94 : wd_at w m10 (.inl (cy 2, 30, .inl f10))) (c95 : wd_at w m21 (.inl (cy 2, 60, .inl f21))) (c96 : wd_at w m22 (.inl (cy 2, 60, .inl f22))) (c97 : wd_at w m35 (.inl (cy 2, 5, .inl f35))) (c98 : wd_at w m39 (.inl (cy 2, 200, .inl f39))) (c99 : wd_at w m40 (.inl (cy 2, 200, .inl f40))) (c910 : wd_at w m41 (.inl (cy 2, 200, .inl f41))) (c911 : wd_at w m42 (.inl (cy 2, 200, .inl f42))) (c912 : wd_at w m43 (.inl (cy 2, 200, .inl f43))) (c913 : wd_at w m46 (.inl (cy 2, 200, .inl f46))) (c914 : wd_at w m47 (.inl (cy 2, 200, .inl f47))) (c915 : wd_at w m48 (.inl (cy 3, 200, .inr (.inl f48)))) (c916 : wd_at w m49 (.inl (cy 2, 12, .inl f49))) (c917 : wd_at w m51 (.inl (cy 2, 200, .inl f51))) (c918 : wd_at w m52 (.inl (cy 3, 200, .inr (.inl f52)))) (c919 : wd_at w m53 (.inl (cy 3, 12, .inr (.inl f53)))) (c920 : wd_at w m54 (.inl (cy 3, 12, .inr (.inl f54)))) (c921 : wd_at w m56 (.inl (cy 2, 60, .inl f56))) (c922 : wd_at w m57 (.inl (cy 2, 60, .inl f57))) (c923 : wd_at w m58 (.inl (cy 2, 60, .inl f58))) (c924 : wd_at w m59 (.inl (cy 3, 60, .inr (.inl f59)))) (c925 : wd_at w m23 (.inl (cy 10, 60, .inr (.inr (.inr (.inr qs)))))) (hFSR : ∀ k9, k9 < 60 → qs k9 = some (sr k9) ∧ wd_at w (sr k9) (.inl (cy 2, 12, .inl (fs k9))) ∧ tg (sr k9) = 13000 + k9) (S : Nat → Prop) (s90 : S y) (s91 : S m51) (s92 : S m52) (s93 : S m53) (s94 : S m54) (s95 : S m56) (s96 : S m57) (s97 : S m58) (s98 : S m59) (ty : tg y = 10000) (tm4 : tg m4 = 10104) (tm8 : tg m8 = 10108) (tm9 : tg m9 = 10109) (tm10 : tg m10 = 10110) (tm21 : tg m21 = 10121) (tm22 : tg m22 = 10122) (tm35 : tg m35 = 10135) (tm39 : tg m39 = 10139) (tm40 : tg m40 = 10140) (tm41 : tg m41 = 10141) (tm42 : tg m42 = 10142) (tm43 : tg m43 = 10143) (tm46 : tg m46 = 10146) (tm47 : tg m47 = 10147) (tm48 : tg m48 = 10148) (tm49 : tg m49 = 10149) (tm51 : tg m51 = 10151) (tm52 : tg m52 = 10152) (tm53 : tg m53 = 10153) (tm54 : tg m54 = 10154) (tm56 : tg m56 = 10156) (tm57 : tg m57 = 10157) (tm58 : tg m58 = 10158) (tm59 : tg m59 = 10159) (tm23 : tg m23 = 10123) (ht : bOK sh 12 f39) (hp : bOK sh 30 f40) (hsh : sh ≤ 200) (hsc : sc ≤ 60) (hgf : gf ≤ 12) : Ct l D cy sk sv yX11_settle wsX11_settle ({ frames := 2, cells := 0, slots := 0, locals := 53 }) [.ref y, .int x1] w (fun v w1 => ∃ (w50 : Int32) (gf1 : Nat) (g51 : Nat → Int32) (g52 : Nat → Int64) (g53 : Nat → Int64) (g54 : Nat → Int64) (g56 : Nat → Int32) (g57 : Nat → Int32) (g58 : Nat → Int32) (g59 : Nat → Int64) (r1 : Int32), v = some (.int r1) ∧ (gf1 ≤ 12) ∧ wd_kp S w w1 ∧ wd_at w1 y (.inr (11, [.int v0, .int td, .ref m2, .ref m3, .ref m4, .ref m5, .ref m6, .int (nI pc), .ref m8, .ref m9, .ref m10, .ref m11, .ref m12, .ref m13, .ref m14, .int (nI ac), .int (nI sc), .ref m17, .ref m18, .ref m19, .ref m20, .ref m21, .ref m22, .ref m23, .ref m24, .int (nI ln), .int v26, .int v27, .int v28, .ref m29, .ref m30, .ref m31, .ref m32, .ref m33, .ref m34, .ref m35, .ref m36, .ref m37, .int (nI sh), .ref m39, .ref m40, .ref m41, .ref m42, .ref m43, .ref m44, .ref m45, .ref m46, .ref m47, .ref m48, .ref m49, .int w50, .ref m51, .ref m52, .ref m53, .ref m54, .int (nI gf1), .ref m56, .ref m57, .ref m58, .ref m59])) ∧ wd_at w1 m51 (.inl (cy 2, 200, .inl g51)) ∧ wd_at w1 m52 (.inl (cy 3, 200, .inr (.inl g52))) ∧ wd_at w1 m53 (.inl (cy 3, 12, .inr (.inl g53))) ∧ wd_at w1 m54 (.inl (cy 3, 12, .inr (.inl g54))) ∧ wd_at w1 m56 (.inl (cy 2, 60, .inl g56)) ∧ wd_at w1 m57 (.inl (cy 2, 60, .inl g57)) ∧ wd_at w1 m58 (.inl (cy 2, 60, .inl g58)) ∧ wd_at w1 m59 (.inl (cy 3, 60, .inr (.inl g59)))) := by
  refine Ct.by (cc := cX11_settle) (maxL := 5) (ret := (some .int)) (by decide +kernel) rfl (Nat.le_of_ble_eq_true rfl) ?_
  intro p e s m args below meth c A Q F hnm K ls hl
  have F : wd_Fx p s m args meth c cX11_settle 5 wsX11_settle RX11 D cy sk sv A := F
  have hl : lv_has ls 5 [(0, .ref y), (1, .int x1)] := hl
  have hx := F.1.1
  have hb := F.1.2.1
  have hown := F.1.2.2.2.1
  have hts := F.1.2.2.2.2
  intro H locs hP hD hS
  have kp0 : wd_kp S w w := wd_kp.rf
  refine lv_iload_n hx hb dX11_settle_0 rfl (lv_at hl 1 rfl) ?_
  refine lv_iconst (v := 0) hx hb dX11_settle_1 (by decide) ?_
  refine lv_sipush (v := 3000) hx hb dX11_settle_2 (by decide) ?_
  refine x_callS (n := 3) (As := [.int x1, .int 0, .int 3000]) (rest := []) F hP hD hS (g_in l D cy sk sv w x1 0 3000) gX11_settle_X11_in rfl (by decide +kernel) ⟨(Nat.le_of_ble_eq_true rfl), (Nat.le_of_ble_eq_true rfl)⟩ rfl hl.1 (Nat.le_of_ble_eq_true rfl) dX11_settle_5 rfl ⟨(Nat.le_of_ble_eq_true rfl), (Nat.le_of_ble_eq_true rfl)⟩ (fun v2 w3 hp1 H locs hP hD hS => ?_)
  obtain ⟨rfl, rfl⟩ := hp1
  refine W.eq (g2 := F0 m 8 ls [.int (wi x1 0 3000)]) rfl (W.widen (k := 0) (n := 0) (Nat.le_of_ble_eq_true rfl) (Nat.le_of_ble_eq_true rfl) ?_)
  refine lv_if_ne (tgt := 13) hx hb dX11_settle_8 (by decide) (fun c_4 => ?_) (fun c_4 => ?_)
  · refine lv_aload_n hx hb dX11_settle_13 rfl (lv_at hl 0 rfl) ?_
    refine lv_iconst (v := 1) hx hb dX11_settle_14 (by decide) ?_
    refine y_put (ref := "NoteHouseModel") F hP hD hS c90 rfl (fun _ h => List.mem_cons_of_mem _ (List.mem_append_right _ (h))) tyX11_ok nmX11 50 (Nat.le_of_ble_eq_true rfl) (List.mem_cons_of_mem _ (List.mem_append_left _ (List.mem_append_left _ (List.mem_of_getElem? (i := 0) rfl)))) rfl rfl rfl rfl (Nat.le_of_ble_eq_true rfl) dX11_settle_15 (fun w5 ew6 H locs hP hD hS => ?_)
    have k7 : wd_at w5 y (.inr (11, [.int v0, .int td, .ref m2, .ref m3, .ref m4, .ref m5, .ref m6, .int (nI pc), .ref m8, .ref m9, .ref m10, .ref m11, .ref m12, .ref m13, .ref m14, .int (nI ac), .int (nI sc), .ref m17, .ref m18, .ref m19, .ref m20, .ref m21, .ref m22, .ref m23, .ref m24, .int (nI ln), .int v26, .int v27, .int v28, .ref m29, .ref m30, .ref m31, .ref m32, .ref m33, .ref m34, .ref m35, .ref m36, .ref m37, .int (nI sh), .ref m39, .ref m40, .ref m41, .ref m42, .ref m43, .ref m44, .ref m45, .ref m46, .ref m47, .ref m48, .ref m49, .int 1, .ref m51, .ref m52, .ref m53, .ref m54, .int (nI gf), .ref m56, .ref m57, .ref m58, .ref m59])) := wd_at.ps ew6 c90
    have k8 := wd_at.pt ew6 c91 (tg_ne tm4 ty (by decide))
    have k9 := wd_at.pt ew6 c92 (tg_ne tm8 ty (by decide))
    have k10 := wd_at.pt ew6 c93 (tg_ne tm9 ty (by decide))
    have k11 := wd_at.pt ew6 c94 (tg_ne tm10 ty (by decide))
    have k12 := wd_at.pt ew6 c95 (tg_ne tm21 ty (by decide))
    have k13 := wd_at.pt ew6 c96 (tg_ne tm22 ty (by decide))
    have k14 := wd_at.pt ew6 c97 (tg_ne tm35 ty (by decide))
    have k15 := wd_at.pt ew6 c98 (tg_ne tm39 ty (by decide))
    have k16 := wd_at.pt ew6 c99 (tg_ne tm40 ty (by decide))
    have k17 := wd_at.pt ew6 c910 (tg_ne tm41 ty (by decide))
    have k18 := wd_at.pt ew6 c911 (tg_ne tm42 ty (by decide))
    have k19 := wd_at.pt ew6 c912 (tg_ne tm43 ty (by decide))
    have k20 := wd_at.pt ew6 c913 (tg_ne tm46 ty (by decide))
    have k21 := wd_at.pt ew6 c914 (tg_ne tm47 ty (by decide))
    have k22 := wd_at.pt ew6 c915 (tg_ne tm48 ty (by decide))
    have k23 := wd_at.pt ew6 c916 (tg_ne tm49 ty (by decide))
    have k24 := wd_at.pt ew6 c917 (tg_ne tm51 ty (by decide))
    have k25 := wd_at.pt ew6 c918 (tg_ne tm52 ty (by decide))
    have k26 := wd_at.pt ew6 c919 (tg_ne tm53 ty (by decide))
    have k27 := wd_at.pt ew6 c920 (tg_ne tm54 ty (by decide))
    have k28 := wd_at.pt ew6 c921 (tg_ne tm56 ty (by decide))
    have k29 := wd_at.pt ew6 c922 (tg_ne tm57 ty (by decide))
    have k30 := wd_at.pt ew6 c923 (tg_ne tm58 ty (by decide))
    have k31 := wd_at.pt ew6 c924 (tg_ne tm59 ty (by decide))
    have k32 := wd_at.pt ew6 c925 (tg_ne tm23 ty (by decide))
    have fm33 : ∀ k9, k9 < 60 → qs k9 = some (sr k9) ∧ wd_at w5 (sr k9) (.inl (cy 2, 12, .inl (fs k9))) ∧ tg (sr k9) = 13000 + k9 := fun k9 hi9 => ⟨(hFSR k9 hi9).1, wd_at.pt ew6 (hFSR k9 hi9).2.1 (tg_ne (hFSR k9 hi9).2.2 ty (tnA (show 10000 < 13000 by decide))), (hFSR k9 hi9).2.2⟩
    have kp34 := kp0.put ew6 s90
    refine lv_iconst (v := 0) hx hb dX11_settle_18 (by decide) ?_
    refine lv_istore_n (lv' := [(2, .int 0), (0, .ref y), (1, .int x1)]) hx hb dX11_settle_19 rfl hl (by decide) rfl (fun ls hl => ?_)
    refine lv_iconst (v := 0) hx hb dX11_settle_20 (by decide) ?_
    refine lv_istore_n (lv' := [(3, .int 0), (2, .int 0), (0, .ref y), (1, .int x1)]) hx hb dX11_settle_21 rfl hl (by decide) rfl (fun ls hl => ?_)
    have lp22 : ∀ (N : Nat) (t : Nat) (d1 : Nat → Int64) (w35 : Wd), (t + N = 12) → (wd_at w35 y (.inr (11, [.int v0, .int td, .ref m2, .ref m3, .ref m4, .ref m5, .ref m6, .int (nI pc), .ref m8, .ref m9, .ref m10, .ref m11, .ref m12, .ref m13, .ref m14, .int (nI ac), .int (nI sc), .ref m17, .ref m18, .ref m19, .ref m20, .ref m21, .ref m22, .ref m23, .ref m24, .int (nI ln), .int v26, .int v27, .int v28, .ref m29, .ref m30, .ref m31, .ref m32, .ref m33, .ref m34, .ref m35, .ref m36, .ref m37, .int (nI sh), .ref m39, .ref m40, .ref m41, .ref m42, .ref m43, .ref m44, .ref m45, .ref m46, .ref m47, .ref m48, .ref m49, .int 1, .ref m51, .ref m52, .ref m53, .ref m54, .int (nI gf), .ref m56, .ref m57, .ref m58, .ref m59]))) → (wd_at w35 m4 (.inl (cy 2, 12, .inl f4))) → (wd_at w35 m8 (.inl (cy 2, 30, .inl f8))) → (wd_at w35 m9 (.inl (cy 2, 30, .inl f9))) → (wd_at w35 m10 (.inl (cy 2, 30, .inl f10))) → (wd_at w35 m21 (.inl (cy 2, 60, .inl f21))) → (wd_at w35 m22 (.inl (cy 2, 60, .inl f22))) → (wd_at w35 m35 (.inl (cy 2, 5, .inl f35))) → (wd_at w35 m39 (.inl (cy 2, 200, .inl f39))) → (wd_at w35 m40 (.inl (cy 2, 200, .inl f40))) → (wd_at w35 m41 (.inl (cy 2, 200, .inl f41))) → (wd_at w35 m42 (.inl (cy 2, 200, .inl f42))) → (wd_at w35 m43 (.inl (cy 2, 200, .inl f43))) → (wd_at w35 m46 (.inl (cy 2, 200, .inl f46))) → (wd_at w35 m47 (.inl (cy 2, 200, .inl f47))) → (wd_at w35 m48 (.inl (cy 3, 200, .inr (.inl f48)))) → (wd_at w35 m49 (.inl (cy 2, 12, .inl f49))) → (wd_at w35 m51 (.inl (cy 2, 200, .inl f51))) → (wd_at w35 m52 (.inl (cy 3, 200, .inr (.inl f52)))) → (wd_at w35 m53 (.inl (cy 3, 12, .inr (.inl d1)))) → (wd_at w35 m54 (.inl (cy 3, 12, .inr (.inl f54)))) → (wd_at w35 m56 (.inl (cy 2, 60, .inl f56))) → (wd_at w35 m57 (.inl (cy 2, 60, .inl f57))) → (wd_at w35 m58 (.inl (cy 2, 60, .inl f58))) → (wd_at w35 m59 (.inl (cy 3, 60, .inr (.inl f59)))) → (wd_at w35 m23 (.inl (cy 10, 60, .inr (.inr (.inr (.inr qs)))))) → (∀ k9, k9 < 60 → qs k9 = some (sr k9) ∧ wd_at w35 (sr k9) (.inl (cy 2, 12, .inl (fs k9))) ∧ tg (sr k9) = 13000 + k9) → (wd_kp S w w35) → ∀ (ls : Array Slot), lv_has ls 5 [(0, .ref y), (1, .int x1), (2, .int 0), (3, .int (nI t))] → Wv p l e ({ frames := 2, cells := 0, slots := 0, locals := 53 }) s m args below meth c D A (0) (0) Q w35 (F0 m 22 ls []) := by
      intro N
      induction N with
      | zero =>
        intro t d1 w35 hN22 k36 k37 k38 k39 k40 k41 k42 k43 k44 k45 k46 k47 k48 k49 k50 k51 k52 k53 k54 k55 k56 k57 k58 k59 k60 k61 fm62 kp63 ls hl H locs hP hD hS
        refine lv_iload_n hx hb dX11_settle_22 rfl (lv_at hl 3 rfl) ?_
        refine lv_bipush (v := 12) hx hb dX11_settle_23 (by decide) ?_
        refine lv_icmp_ge (tgt := 48) hx hb dX11_settle_25 (by decide) (fun c_64 => ?_) (fun c_64 => absurd (nI_le (a := 12) (b := t) (by omega) (by omega)) c_64)
        refine lv_iconst (v := 0) hx hb dX11_settle_48 (by decide) ?_
        refine lv_istore_n (lv' := [(3, .int 0), (0, .ref y), (1, .int x1), (2, .int 0)]) hx hb dX11_settle_49 rfl hl (by decide) rfl (fun ls hl => ?_)
        have lp50 : ∀ (N : Nat) (k : Nat) (k1 : Nat → Int32) (w65 : Wd), (k + N = 200) → (wd_at w65 y (.inr (11, [.int v0, .int td, .ref m2, .ref m3, .ref m4, .ref m5, .ref m6, .int (nI pc), .ref m8, .ref m9, .ref m10, .ref m11, .ref m12, .ref m13, .ref m14, .int (nI ac), .int (nI sc), .ref m17, .ref m18, .ref m19, .ref m20, .ref m21, .ref m22, .ref m23, .ref m24, .int (nI ln), .int v26, .int v27, .int v28, .ref m29, .ref m30, .ref m31, .ref m32, .ref m33, .ref m34, .ref m35, .ref m36, .ref m37, .int (nI sh), .ref m39, .ref m40, .ref m41, .ref m42, .ref m43, .ref m44, .ref m45, .ref m46, .ref m47, .ref m48, .ref m49, .int 1, .ref m51, .ref m52, .ref m53, .ref m54, .int (nI gf), .ref m56, .ref m57, .ref m58, .ref m59]))) → (wd_at w65 m4 (.inl (cy 2, 12, .inl f4))) → (wd_at w65 m8 (.inl (cy 2, 30, .inl f8))) → (wd_at w65 m9 (.inl (cy 2, 30, .inl f9))) → (wd_at w65 m10 (.inl (cy 2, 30, .inl f10))) → (wd_at w65 m21 (.inl (cy 2, 60, .inl f21))) → (wd_at w65 m22 (.inl (cy 2, 60, .inl f22))) → (wd_at w65 m35 (.inl (cy 2, 5, .inl f35))) → (wd_at w65 m39 (.inl (cy 2, 200, .inl f39))) → (wd_at w65 m40 (.inl (cy 2, 200, .inl f40))) → (wd_at w65 m41 (.inl (cy 2, 200, .inl f41))) → (wd_at w65 m42 (.inl (cy 2, 200, .inl f42))) → (wd_at w65 m43 (.inl (cy 2, 200, .inl f43))) → (wd_at w65 m46 (.inl (cy 2, 200, .inl f46))) → (wd_at w65 m47 (.inl (cy 2, 200, .inl f47))) → (wd_at w65 m48 (.inl (cy 3, 200, .inr (.inl f48)))) → (wd_at w65 m49 (.inl (cy 2, 12, .inl f49))) → (wd_at w65 m51 (.inl (cy 2, 200, .inl k1))) → (wd_at w65 m52 (.inl (cy 3, 200, .inr (.inl f52)))) → (wd_at w65 m53 (.inl (cy 3, 12, .inr (.inl d1)))) → (wd_at w65 m54 (.inl (cy 3, 12, .inr (.inl f54)))) → (wd_at w65 m56 (.inl (cy 2, 60, .inl f56))) → (wd_at w65 m57 (.inl (cy 2, 60, .inl f57))) → (wd_at w65 m58 (.inl (cy 2, 60, .inl f58))) → (wd_at w65 m59 (.inl (cy 3, 60, .inr (.inl f59)))) → (wd_at w65 m23 (.inl (cy 10, 60, .inr (.inr (.inr (.inr qs)))))) → (∀ k9, k9 < 60 → qs k9 = some (sr k9) ∧ wd_at w65 (sr k9) (.inl (cy 2, 12, .inl (fs k9))) ∧ tg (sr k9) = 13000 + k9) → (wd_kp S w w65) → ∀ (ls : Array Slot), lv_has ls 5 [(0, .ref y), (1, .int x1), (2, .int 0), (3, .int (nI k))] → Wv p l e ({ frames := 2, cells := 0, slots := 0, locals := 53 }) s m args below meth c D A (0) (0) Q w65 (F0 m 50 ls []) := by
          intro N
          induction N with
          | zero =>
            intro k k1 w65 hN50 k66 k67 k68 k69 k70 k71 k72 k73 k74 k75 k76 k77 k78 k79 k80 k81 k82 k83 k84 k85 k86 k87 k88 k89 k90 k91 fm92 kp93 ls hl H locs hP hD hS
            refine lv_iload_n hx hb dX11_settle_50 rfl (lv_at hl 3 rfl) ?_
            refine lv_sipush (v := 200) hx hb dX11_settle_51 (by decide) ?_
            refine lv_icmp_ge (tgt := 70) hx hb dX11_settle_54 (by decide) (fun c_94 => ?_) (fun c_94 => absurd (nI_le (a := 200) (b := k) (by omega) (by omega)) c_94)
            refine lv_iconst (v := 0) hx hb dX11_settle_70 (by decide) ?_
            refine lv_istore_n (lv' := [(3, .int 0), (0, .ref y), (1, .int x1), (2, .int 0)]) hx hb dX11_settle_71 rfl hl (by decide) rfl (fun ls hl => ?_)
            have lp72 : ∀ (N : Nat) (k2 : Nat) (nn : Int32) (kf : Nat → Int32) (bf : Nat → Int64) (d2 : Nat → Int64) (w95 : Wd), (k2 + N = sh) → (wd_at w95 y (.inr (11, [.int v0, .int td, .ref m2, .ref m3, .ref m4, .ref m5, .ref m6, .int (nI pc), .ref m8, .ref m9, .ref m10, .ref m11, .ref m12, .ref m13, .ref m14, .int (nI ac), .int (nI sc), .ref m17, .ref m18, .ref m19, .ref m20, .ref m21, .ref m22, .ref m23, .ref m24, .int (nI ln), .int v26, .int v27, .int v28, .ref m29, .ref m30, .ref m31, .ref m32, .ref m33, .ref m34, .ref m35, .ref m36, .ref m37, .int (nI sh), .ref m39, .ref m40, .ref m41, .ref m42, .ref m43, .ref m44, .ref m45, .ref m46, .ref m47, .ref m48, .ref m49, .int 1, .ref m51, .ref m52, .ref m53, .ref m54, .int (nI gf), .ref m56, .ref m57, .ref m58, .ref m59]))) → (wd_at w95 m4 (.inl (cy 2, 12, .inl f4))) → (wd_at w95 m8 (.inl (cy 2, 30, .inl f8))) → (wd_at w95 m9 (.inl (cy 2, 30, .inl f9))) → (wd_at w95 m10 (.inl (cy 2, 30, .inl f10))) → (wd_at w95 m21 (.inl (cy 2, 60, .inl f21))) → (wd_at w95 m22 (.inl (cy 2, 60, .inl f22))) → (wd_at w95 m35 (.inl (cy 2, 5, .inl f35))) → (wd_at w95 m39 (.inl (cy 2, 200, .inl f39))) → (wd_at w95 m40 (.inl (cy 2, 200, .inl f40))) → (wd_at w95 m41 (.inl (cy 2, 200, .inl f41))) → (wd_at w95 m42 (.inl (cy 2, 200, .inl f42))) → (wd_at w95 m43 (.inl (cy 2, 200, .inl f43))) → (wd_at w95 m46 (.inl (cy 2, 200, .inl f46))) → (wd_at w95 m47 (.inl (cy 2, 200, .inl f47))) → (wd_at w95 m48 (.inl (cy 3, 200, .inr (.inl f48)))) → (wd_at w95 m49 (.inl (cy 2, 12, .inl f49))) → (wd_at w95 m51 (.inl (cy 2, 200, .inl kf))) → (wd_at w95 m52 (.inl (cy 3, 200, .inr (.inl bf)))) → (wd_at w95 m53 (.inl (cy 3, 12, .inr (.inl d2)))) → (wd_at w95 m54 (.inl (cy 3, 12, .inr (.inl f54)))) → (wd_at w95 m56 (.inl (cy 2, 60, .inl f56))) → (wd_at w95 m57 (.inl (cy 2, 60, .inl f57))) → (wd_at w95 m58 (.inl (cy 2, 60, .inl f58))) → (wd_at w95 m59 (.inl (cy 3, 60, .inr (.inl f59)))) → (wd_at w95 m23 (.inl (cy 10, 60, .inr (.inr (.inr (.inr qs)))))) → (∀ k9, k9 < 60 → qs k9 = some (sr k9) ∧ wd_at w95 (sr k9) (.inl (cy 2, 12, .inl (fs k9))) ∧ tg (sr k9) = 13000 + k9) → (wd_kp S w w95) → ∀ (ls : Array Slot), lv_has ls 5 [(0, .ref y), (1, .int x1), (2, .int nn), (3, .int (nI k2))] → Wv p l e ({ frames := 2, cells := 0, slots := 0, locals := 53 }) s m args below meth c D A (0) (0) Q w95 (F0 m 72 ls []) := by
              intro N
              induction N with
              | zero =>
                intro k2 nn kf bf d2 w95 hN72 k96 k97 k98 k99 k100 k101 k102 k103 k104 k105 k106 k107 k108 k109 k110 k111 k112 k113 k114 k115 k116 k117 k118 k119 k120 k121 fm122 kp123 ls hl H locs hP hD hS
                refine lv_iload_n hx hb dX11_settle_72 rfl (lv_at hl 3 rfl) ?_
                refine lv_aload_n hx hb dX11_settle_73 rfl (lv_at hl 0 rfl) ?_
                refine x_get (ref := "NoteHouseModel") F hP k96 rfl (fun _ h => List.mem_cons_of_mem _ (List.mem_append_right _ (h))) 38 (Nat.le_of_ble_eq_true rfl) (List.mem_cons_of_mem _ (List.mem_append_left _ (List.mem_append_left _ (List.mem_of_getElem? (i := 4) rfl)))) rfl rfl dX11_settle_74 ?_
                refine lv_icmp_ge (tgt := 202) hx hb dX11_settle_77 (by decide) (fun c_124 => ?_) (fun c_124 => absurd (nI_le (a := sh) (b := k2) (by omega) (by omega)) c_124)
                refine lv_aload_n hx hb dX11_settle_202 rfl (lv_at hl 0 rfl) ?_
                refine x_callV (n := 0) (As := []) (rest := []) F hP hD hS (m_nets l D cy sk sv w95 tg y m2 m3 m4 m5 m6 m8 m9 m10 m11 m12 m13 m14 m17 m18 m19 m20 m21 m22 m23 m24 m29 m30 m31 m32 m33 m34 m35 m36 m37 m39 m40 m41 m42 m43 m44 m45 m46 m47 m48 m49 m51 m52 m53 m54 m56 m57 m58 m59 pc ac sc ln sh gf v0 td v26 v27 v28 1 f4 d2 f54 f56 f57 f58 f59 k96 k97 k115 k116 k117 k118 k119 k120 (fun b => b = y ∨ b = m54 ∨ b = m56 ∨ b = m57 ∨ b = m58 ∨ b = m59) (Or.inl rfl) (Or.inr (Or.inl rfl)) (Or.inr (Or.inr (Or.inl rfl))) (Or.inr (Or.inr (Or.inr (Or.inl rfl)))) (Or.inr (Or.inr (Or.inr (Or.inr (Or.inl rfl))))) (Or.inr (Or.inr (Or.inr (Or.inr (Or.inr rfl))))) ty tm4 tm53 tm54 tm56 tm57 tm58 tm59) gX11_settle_X11_nets rfl rfl (by decide +kernel) ⟨(Nat.le_of_ble_eq_true rfl), (Nat.le_of_ble_eq_true rfl)⟩ rfl hl.1 (Nat.le_of_ble_eq_true rfl) k96 rfl dX11_settle_203 rfl ⟨(Nat.le_of_ble_eq_true rfl), (Nat.le_of_ble_eq_true rfl)⟩ (fun v126 w127 hp125 H locs hP hD hS => ?_)
                obtain ⟨gfx128, gx129, gx130, gx131, gx132, gx133, rfl, hz134, kq141, k135, k136, k137, k138, k139, k140⟩ := hp125
                have k142 := kq141.2 _ _ k97 (orN (tg_ne tm4 ty (by decide)) (orN (tg_ne tm4 tm54 (by decide)) (orN (tg_ne tm4 tm56 (by decide)) (orN (tg_ne tm4 tm57 (by decide)) (orN (tg_ne tm4 tm58 (by decide)) (tg_ne tm4 tm59 (by decide)))))))
                have k143 := kq141.2 _ _ k98 (orN (tg_ne tm8 ty (by decide)) (orN (tg_ne tm8 tm54 (by decide)) (orN (tg_ne tm8 tm56 (by decide)) (orN (tg_ne tm8 tm57 (by decide)) (orN (tg_ne tm8 tm58 (by decide)) (tg_ne tm8 tm59 (by decide)))))))
                have k144 := kq141.2 _ _ k99 (orN (tg_ne tm9 ty (by decide)) (orN (tg_ne tm9 tm54 (by decide)) (orN (tg_ne tm9 tm56 (by decide)) (orN (tg_ne tm9 tm57 (by decide)) (orN (tg_ne tm9 tm58 (by decide)) (tg_ne tm9 tm59 (by decide)))))))
                have k145 := kq141.2 _ _ k100 (orN (tg_ne tm10 ty (by decide)) (orN (tg_ne tm10 tm54 (by decide)) (orN (tg_ne tm10 tm56 (by decide)) (orN (tg_ne tm10 tm57 (by decide)) (orN (tg_ne tm10 tm58 (by decide)) (tg_ne tm10 tm59 (by decide)))))))
                have k146 := kq141.2 _ _ k101 (orN (tg_ne tm21 ty (by decide)) (orN (tg_ne tm21 tm54 (by decide)) (orN (tg_ne tm21 tm56 (by decide)) (orN (tg_ne tm21 tm57 (by decide)) (orN (tg_ne tm21 tm58 (by decide)) (tg_ne tm21 tm59 (by decide)))))))
                have k147 := kq141.2 _ _ k102 (orN (tg_ne tm22 ty (by decide)) (orN (tg_ne tm22 tm54 (by decide)) (orN (tg_ne tm22 tm56 (by decide)) (orN (tg_ne tm22 tm57 (by decide)) (orN (tg_ne tm22 tm58 (by decide)) (tg_ne tm22 tm59 (by decide)))))))
                have k148 := kq141.2 _ _ k103 (orN (tg_ne tm35 ty (by decide)) (orN (tg_ne tm35 tm54 (by decide)) (orN (tg_ne tm35 tm56 (by decide)) (orN (tg_ne tm35 tm57 (by decide)) (orN (tg_ne tm35 tm58 (by decide)) (tg_ne tm35 tm59 (by decide)))))))
                have k149 := kq141.2 _ _ k104 (orN (tg_ne tm39 ty (by decide)) (orN (tg_ne tm39 tm54 (by decide)) (orN (tg_ne tm39 tm56 (by decide)) (orN (tg_ne tm39 tm57 (by decide)) (orN (tg_ne tm39 tm58 (by decide)) (tg_ne tm39 tm59 (by decide)))))))
                have k150 := kq141.2 _ _ k105 (orN (tg_ne tm40 ty (by decide)) (orN (tg_ne tm40 tm54 (by decide)) (orN (tg_ne tm40 tm56 (by decide)) (orN (tg_ne tm40 tm57 (by decide)) (orN (tg_ne tm40 tm58 (by decide)) (tg_ne tm40 tm59 (by decide)))))))
                have k151 := kq141.2 _ _ k106 (orN (tg_ne tm41 ty (by decide)) (orN (tg_ne tm41 tm54 (by decide)) (orN (tg_ne tm41 tm56 (by decide)) (orN (tg_ne tm41 tm57 (by decide)) (orN (tg_ne tm41 tm58 (by decide)) (tg_ne tm41 tm59 (by decide)))))))
                have k152 := kq141.2 _ _ k107 (orN (tg_ne tm42 ty (by decide)) (orN (tg_ne tm42 tm54 (by decide)) (orN (tg_ne tm42 tm56 (by decide)) (orN (tg_ne tm42 tm57 (by decide)) (orN (tg_ne tm42 tm58 (by decide)) (tg_ne tm42 tm59 (by decide)))))))
                have k153 := kq141.2 _ _ k108 (orN (tg_ne tm43 ty (by decide)) (orN (tg_ne tm43 tm54 (by decide)) (orN (tg_ne tm43 tm56 (by decide)) (orN (tg_ne tm43 tm57 (by decide)) (orN (tg_ne tm43 tm58 (by decide)) (tg_ne tm43 tm59 (by decide)))))))
                have k154 := kq141.2 _ _ k109 (orN (tg_ne tm46 ty (by decide)) (orN (tg_ne tm46 tm54 (by decide)) (orN (tg_ne tm46 tm56 (by decide)) (orN (tg_ne tm46 tm57 (by decide)) (orN (tg_ne tm46 tm58 (by decide)) (tg_ne tm46 tm59 (by decide)))))))
                have k155 := kq141.2 _ _ k110 (orN (tg_ne tm47 ty (by decide)) (orN (tg_ne tm47 tm54 (by decide)) (orN (tg_ne tm47 tm56 (by decide)) (orN (tg_ne tm47 tm57 (by decide)) (orN (tg_ne tm47 tm58 (by decide)) (tg_ne tm47 tm59 (by decide)))))))
                have k156 := kq141.2 _ _ k111 (orN (tg_ne tm48 ty (by decide)) (orN (tg_ne tm48 tm54 (by decide)) (orN (tg_ne tm48 tm56 (by decide)) (orN (tg_ne tm48 tm57 (by decide)) (orN (tg_ne tm48 tm58 (by decide)) (tg_ne tm48 tm59 (by decide)))))))
                have k157 := kq141.2 _ _ k112 (orN (tg_ne tm49 ty (by decide)) (orN (tg_ne tm49 tm54 (by decide)) (orN (tg_ne tm49 tm56 (by decide)) (orN (tg_ne tm49 tm57 (by decide)) (orN (tg_ne tm49 tm58 (by decide)) (tg_ne tm49 tm59 (by decide)))))))
                have k158 := kq141.2 _ _ k113 (orN (tg_ne tm51 ty (by decide)) (orN (tg_ne tm51 tm54 (by decide)) (orN (tg_ne tm51 tm56 (by decide)) (orN (tg_ne tm51 tm57 (by decide)) (orN (tg_ne tm51 tm58 (by decide)) (tg_ne tm51 tm59 (by decide)))))))
                have k159 := kq141.2 _ _ k114 (orN (tg_ne tm52 ty (by decide)) (orN (tg_ne tm52 tm54 (by decide)) (orN (tg_ne tm52 tm56 (by decide)) (orN (tg_ne tm52 tm57 (by decide)) (orN (tg_ne tm52 tm58 (by decide)) (tg_ne tm52 tm59 (by decide)))))))
                have k160 := kq141.2 _ _ k115 (orN (tg_ne tm53 ty (by decide)) (orN (tg_ne tm53 tm54 (by decide)) (orN (tg_ne tm53 tm56 (by decide)) (orN (tg_ne tm53 tm57 (by decide)) (orN (tg_ne tm53 tm58 (by decide)) (tg_ne tm53 tm59 (by decide)))))))
                have k161 := kq141.2 _ _ k121 (orN (tg_ne tm23 ty (by decide)) (orN (tg_ne tm23 tm54 (by decide)) (orN (tg_ne tm23 tm56 (by decide)) (orN (tg_ne tm23 tm57 (by decide)) (orN (tg_ne tm23 tm58 (by decide)) (tg_ne tm23 tm59 (by decide)))))))
                have fm162 : ∀ k9, k9 < 60 → qs k9 = some (sr k9) ∧ wd_at w127 (sr k9) (.inl (cy 2, 12, .inl (fs k9))) ∧ tg (sr k9) = 13000 + k9 := fun k9 hi9 => ⟨(fm122 k9 hi9).1, kq141.2 _ _ (fm122 k9 hi9).2.1 (orN (tg_ne (fm122 k9 hi9).2.2 ty (tnA (show 10000 < 13000 by decide))) (orN (tg_ne (fm122 k9 hi9).2.2 tm54 (tnA (show 10154 < 13000 by decide))) (orN (tg_ne (fm122 k9 hi9).2.2 tm56 (tnA (show 10156 < 13000 by decide))) (orN (tg_ne (fm122 k9 hi9).2.2 tm57 (tnA (show 10157 < 13000 by decide))) (orN (tg_ne (fm122 k9 hi9).2.2 tm58 (tnA (show 10158 < 13000 by decide))) (tg_ne (fm122 k9 hi9).2.2 tm59 (tnA (show 10159 < 13000 by decide)))))))), (fm122 k9 hi9).2.2⟩
                have kp163 := kp123.tr kq141 (fun b9 hm q9 => (fun q9 => Or.elim q9 (fun q9 => q9 ▸ s90) (fun q9 => Or.elim q9 (fun q9 => q9 ▸ s94) (fun q9 => Or.elim q9 (fun q9 => q9 ▸ s95) (fun q9 => Or.elim q9 (fun q9 => q9 ▸ s96) (fun q9 => Or.elim q9 (fun q9 => q9 ▸ s97) (fun q9 => q9 ▸ s98)))))) q9)
                refine W.eq (g2 := F0 m 206 ls []) rfl (W.widen (k := 0) (n := 0) (Nat.le_of_ble_eq_true rfl) (Nat.le_of_ble_eq_true rfl) ?_)
                refine lv_iload_n hx hb dX11_settle_206 rfl (lv_at hl 2 rfl) ?_
                exact y_ir K hP hD hS (Nat.le_of_ble_eq_true rfl) (Nat.le_of_ble_eq_true rfl) (ty := .int) rfl rfl dX11_settle_207 (⟨1, gfx128, kf, bf, d2, gx129, gx130, gx131, gx132, gx133, nn, rfl, by omega, kp163, k135, k158, k159, k160, k136, k137, k138, k139, k140⟩)
              | succ N ih72 =>
                intro k2 nn kf bf d2 w95 hN72 k96 k97 k98 k99 k100 k101 k102 k103 k104 k105 k106 k107 k108 k109 k110 k111 k112 k113 k114 k115 k116 k117 k118 k119 k120 k121 fm122 kp123 ls hl H locs hP hD hS
                refine lv_iload_n hx hb dX11_settle_72 rfl (lv_at hl 3 rfl) ?_
                refine lv_aload_n hx hb dX11_settle_73 rfl (lv_at hl 0 rfl) ?_
                refine x_get (ref := "NoteHouseModel") F hP k96 rfl (fun _ h => List.mem_cons_of_mem _ (List.mem_append_right _ (h))) 38 (Nat.le_of_ble_eq_true rfl) (List.mem_cons_of_mem _ (List.mem_append_left _ (List.mem_append_left _ (List.mem_of_getElem? (i := 4) rfl)))) rfl rfl dX11_settle_74 ?_
                refine lv_icmp_ge (tgt := 202) hx hb dX11_settle_77 (by decide) (fun c_164 => absurd c_164 (nI_ge (a := k2) (b := sh) (by omega) (by omega))) (fun c_164 => ?_)
                refine lv_aload_n hx hb dX11_settle_80 rfl (lv_at hl 0 rfl) ?_
                refine x_get (ref := "NoteHouseModel") F hP k96 rfl (fun _ h => List.mem_cons_of_mem _ (List.mem_append_right _ (h))) 47 (Nat.le_of_ble_eq_true rfl) (List.mem_cons_of_mem _ (List.mem_append_left _ (List.mem_append_left _ (List.mem_of_getElem? (i := 5) rfl)))) rfl rfl dX11_settle_81 ?_
                refine lv_iload_n hx hb dX11_settle_84 rfl (lv_at hl 3 rfl) ?_
                refine x_iald F hP k110 (vp_in_nI (n := k2) (N := 200) (by omega) (by decide)) dX11_settle_85 ?_
                refine lv_iload_n hx hb dX11_settle_86 rfl (lv_at hl 1 rfl) ?_
                refine lv_icmp_le (tgt := 93) hx hb dX11_settle_87 (by decide) (fun c_165 => ?_) (fun c_165 => ?_)
                · refine lv_aload_n hx hb dX11_settle_93 rfl (lv_at hl 0 rfl) ?_
                  refine x_get (ref := "NoteHouseModel") F hP k96 rfl (fun _ h => List.mem_cons_of_mem _ (List.mem_append_right _ (h))) 51 (Nat.le_of_ble_eq_true rfl) (List.mem_cons_of_mem _ (List.mem_append_left _ (List.mem_append_left _ (List.mem_of_getElem? (i := 3) rfl)))) rfl rfl dX11_settle_94 ?_
                  refine lv_iload_n hx hb dX11_settle_97 rfl (lv_at hl 3 rfl) ?_
                  refine lv_aload_n hx hb dX11_settle_98 rfl (lv_at hl 0 rfl) ?_
                  refine lv_iload_n hx hb dX11_settle_99 rfl (lv_at hl 3 rfl) ?_
                  refine lv_iload_n hx hb dX11_settle_100 rfl (lv_at hl 1 rfl) ?_
                  refine x_callV (n := 2) (As := [.int (nI k2), .int x1]) (rest := [.int (nI k2), .ref m51]) F hP hD hS (m_kindOf l D cy sk sv w95 tg y m2 m3 m4 m5 m6 m8 m9 m10 m11 m12 m13 m14 m17 m18 m19 m20 m21 m22 m23 m24 m29 m30 m31 m32 m33 m34 m35 m36 m37 m39 m40 m41 m42 m43 m44 m45 m46 m47 m48 m49 m51 m52 m53 m54 m56 m57 m58 m59 pc ac sc ln sh gf v0 td v26 v27 v28 1 f8 f9 f10 f21 f22 f35 f39 f40 f41 f42 f43 f46 f47 qs sr fs k2 x1 k96 k98 k99 k100 k101 k102 k103 k104 k105 k106 k107 k108 k109 k110 k121 fm122 ty tm8 tm9 tm10 tm21 tm22 tm35 tm39 tm40 tm41 tm42 tm43 tm46 tm47 tm23 (by assumption) (by assumption) (by omega) (by omega) (by omega)) gX11_settle_X11_kindOf_ rfl rfl (by decide +kernel) ⟨(Nat.le_of_ble_eq_true rfl), (Nat.le_of_ble_eq_true rfl)⟩ rfl hl.1 (Nat.le_of_ble_eq_true rfl) k96 rfl dX11_settle_101 rfl ⟨(Nat.le_of_ble_eq_true rfl), (Nat.le_of_ble_eq_true rfl)⟩ (fun v167 w168 hp166 H locs hP hD hS => ?_)
                  obtain ⟨kdx169, rfl, hz170, rfl⟩ := hp166
                  refine W.eq (g2 := F0 m 104 ls [.int (nI kdx169), .int (nI k2), .ref m51]) rfl (W.widen (k := 0) (n := 0) (Nat.le_of_ble_eq_true rfl) (Nat.le_of_ble_eq_true rfl) ?_)
                  refine y_iast F hP hD hS k113 (vp_in_nI (n := k2) (N := 200) (by omega) (by decide)) dX11_settle_104 (fun w171 ew172 H locs hP hD hS => ?_)
                  have k173 := wd_at.pt ew172 k96 (tg_ne ty tm51 (by decide))
                  have k174 := wd_at.pt ew172 k97 (tg_ne tm4 tm51 (by decide))
                  have k175 := wd_at.pt ew172 k98 (tg_ne tm8 tm51 (by decide))
                  have k176 := wd_at.pt ew172 k99 (tg_ne tm9 tm51 (by decide))
                  have k177 := wd_at.pt ew172 k100 (tg_ne tm10 tm51 (by decide))
                  have k178 := wd_at.pt ew172 k101 (tg_ne tm21 tm51 (by decide))
                  have k179 := wd_at.pt ew172 k102 (tg_ne tm22 tm51 (by decide))
                  have k180 := wd_at.pt ew172 k103 (tg_ne tm35 tm51 (by decide))
                  have k181 := wd_at.pt ew172 k104 (tg_ne tm39 tm51 (by decide))
                  have k182 := wd_at.pt ew172 k105 (tg_ne tm40 tm51 (by decide))
                  have k183 := wd_at.pt ew172 k106 (tg_ne tm41 tm51 (by decide))
                  have k184 := wd_at.pt ew172 k107 (tg_ne tm42 tm51 (by decide))
                  have k185 := wd_at.pt ew172 k108 (tg_ne tm43 tm51 (by decide))
                  have k186 := wd_at.pt ew172 k109 (tg_ne tm46 tm51 (by decide))
                  have k187 := wd_at.pt ew172 k110 (tg_ne tm47 tm51 (by decide))
                  have k188 := wd_at.pt ew172 k111 (tg_ne tm48 tm51 (by decide))
                  have k189 := wd_at.pt ew172 k112 (tg_ne tm49 tm51 (by decide))
                  have k190 : wd_at w171 m51 (.inl (cy 2, 200, .inl (upd kf (nI k2).toNatClampNeg (nI kdx169)))) := wd_at.ps ew172 k113
                  have k191 := wd_at.pt ew172 k114 (tg_ne tm52 tm51 (by decide))
                  have k192 := wd_at.pt ew172 k115 (tg_ne tm53 tm51 (by decide))
                  have k193 := wd_at.pt ew172 k116 (tg_ne tm54 tm51 (by decide))
                  have k194 := wd_at.pt ew172 k117 (tg_ne tm56 tm51 (by decide))
                  have k195 := wd_at.pt ew172 k118 (tg_ne tm57 tm51 (by decide))
                  have k196 := wd_at.pt ew172 k119 (tg_ne tm58 tm51 (by decide))
                  have k197 := wd_at.pt ew172 k120 (tg_ne tm59 tm51 (by decide))
                  have k198 := wd_at.pt ew172 k121 (tg_ne tm23 tm51 (by decide))
                  have fm199 : ∀ k9, k9 < 60 → qs k9 = some (sr k9) ∧ wd_at w171 (sr k9) (.inl (cy 2, 12, .inl (fs k9))) ∧ tg (sr k9) = 13000 + k9 := fun k9 hi9 => ⟨(fm122 k9 hi9).1, wd_at.pt ew172 (fm122 k9 hi9).2.1 (tg_ne (fm122 k9 hi9).2.2 tm51 (tnA (show 10151 < 13000 by decide))), (fm122 k9 hi9).2.2⟩
                  have kp200 := kp123.put ew172 s91
                  refine lv_aload_n hx hb dX11_settle_105 rfl (lv_at hl 0 rfl) ?_
                  refine x_get (ref := "NoteHouseModel") F hP k173 rfl (fun _ h => List.mem_cons_of_mem _ (List.mem_append_right _ (h))) 51 (Nat.le_of_ble_eq_true rfl) (List.mem_cons_of_mem _ (List.mem_append_left _ (List.mem_append_left _ (List.mem_of_getElem? (i := 3) rfl)))) rfl rfl dX11_settle_106 ?_
                  refine lv_iload_n hx hb dX11_settle_109 rfl (lv_at hl 3 rfl) ?_
                  refine x_iald F hP k190 (vp_in_nI (n := k2) (N := 200) (by omega) (by decide)) dX11_settle_110 ?_
                  rw [pk_us]
                  refine lv_if_ne (tgt := 118) hx hb dX11_settle_111 (by decide) (fun c_201 => ?_) (fun c_201 => ?_)
                  · have hkn : 0 < kdx169 := nI_nz (by omega) c_201
                    refine lv_aload_n hx hb dX11_settle_118 rfl (lv_at hl 0 rfl) ?_
                    refine x_get (ref := "NoteHouseModel") F hP k173 rfl (fun _ h => List.mem_cons_of_mem _ (List.mem_append_right _ (h))) 35 (Nat.le_of_ble_eq_true rfl) (List.mem_cons_of_mem _ (List.mem_append_left _ (List.mem_append_left _ (List.mem_of_getElem? (i := 6) rfl)))) rfl rfl dX11_settle_119 ?_
                    refine lv_aload_n hx hb dX11_settle_122 rfl (lv_at hl 0 rfl) ?_
                    refine x_get (ref := "NoteHouseModel") F hP k173 rfl (fun _ h => List.mem_cons_of_mem _ (List.mem_append_right _ (h))) 51 (Nat.le_of_ble_eq_true rfl) (List.mem_cons_of_mem _ (List.mem_append_left _ (List.mem_append_left _ (List.mem_of_getElem? (i := 3) rfl)))) rfl rfl dX11_settle_123 ?_
                    refine lv_iload_n hx hb dX11_settle_126 rfl (lv_at hl 3 rfl) ?_
                    refine x_iald F hP k190 (vp_in_nI (n := k2) (N := 200) (by omega) (by decide)) dX11_settle_127 ?_
                    rw [pk_us]
                    refine lv_iconst (v := 1) hx hb dX11_settle_128 (by decide) ?_
                    refine lv_isub hx hb dX11_settle_129 ?_
                    rw [show ((nI kdx169) - 1 : Int32) = nI (kdx169 - 1) from pk_sub (a := kdx169) (b := 1) (by omega)]
                    refine x_iald F hP k180 (vp_in_nI (n := (kdx169 - 1)) (N := 5) (by omega) (by decide)) dX11_settle_130 ?_
                    refine lv_istore (lv' := [(4, .int (f35 (nI (kdx169 - 1)).toNatClampNeg)), (0, .ref y), (1, .int x1), (2, .int nn), (3, .int (nI k2))]) hx hb dX11_settle_131 hl (by decide) rfl (fun ls hl => ?_)
                    refine lv_aload_n hx hb dX11_settle_133 rfl (lv_at hl 1 rfl) ?_
                    refine x_get (ref := "NoteHouseModel") F hP k173 rfl (fun _ h => List.mem_cons_of_mem _ (List.mem_append_right _ (h))) 52 (Nat.le_of_ble_eq_true rfl) (List.mem_cons_of_mem _ (List.mem_append_left _ (List.mem_append_left _ (List.mem_of_getElem? (i := 7) rfl)))) rfl rfl dX11_settle_134 ?_
                    refine lv_iload_n hx hb dX11_settle_137 rfl (lv_at hl 4 rfl) ?_
                    refine lv_iload hx hb dX11_settle_138 (lv_at hl 0 rfl) ?_
                    refine lv_if_ne (tgt := 152) hx hb dX11_settle_140 (by decide) (fun c_202 => ?_) (fun c_202 => ?_)
                    · refine lv_iload hx hb dX11_settle_152 (lv_at hl 0 rfl) ?_
                      refine lv_iconst (v := 1) hx hb dX11_settle_154 (by decide) ?_
                      refine lv_icmp_ne (tgt := 162) hx hb dX11_settle_155 (by decide) (fun c_203 => ?_) (fun c_203 => ?_)
                      · refine lv_aload_n hx hb dX11_settle_162 rfl (lv_at hl 1 rfl) ?_
                        refine x_get (ref := "NoteHouseModel") F hP k173 rfl (fun _ h => List.mem_cons_of_mem _ (List.mem_append_right _ (h))) 48 (Nat.le_of_ble_eq_true rfl) (List.mem_cons_of_mem _ (List.mem_append_left _ (List.mem_append_left _ (List.mem_of_getElem? (i := 8) rfl)))) rfl rfl dX11_settle_163 ?_
                        refine lv_iload_n hx hb dX11_settle_166 rfl (lv_at hl 4 rfl) ?_
                        refine x_lald F hP k188 (vp_in_nI (n := k2) (N := 200) (by omega) (by decide)) dX11_settle_167 ?_
                        refine lv_ldc2 (v := 2) hx hb hown (hts _ (List.mem_cons_of_mem _ (List.mem_append_left _ (List.mem_append_left _ (List.mem_of_getElem? (i := 9) rfl))))) dX11_settle_168 ?_
                        refine lv_ldiv hx hb dX11_settle_171 (by decide) ?_
                        refine y_last F hP hD hS k191 (vp_in_nI (n := k2) (N := 200) (by omega) (by decide)) dX11_settle_172 (fun w204 ew205 H locs hP hD hS => ?_)
                        have k206 := wd_at.pt ew205 k173 (tg_ne ty tm52 (by decide))
                        have k207 := wd_at.pt ew205 k174 (tg_ne tm4 tm52 (by decide))
                        have k208 := wd_at.pt ew205 k175 (tg_ne tm8 tm52 (by decide))
                        have k209 := wd_at.pt ew205 k176 (tg_ne tm9 tm52 (by decide))
                        have k210 := wd_at.pt ew205 k177 (tg_ne tm10 tm52 (by decide))
                        have k211 := wd_at.pt ew205 k178 (tg_ne tm21 tm52 (by decide))
                        have k212 := wd_at.pt ew205 k179 (tg_ne tm22 tm52 (by decide))
                        have k213 := wd_at.pt ew205 k180 (tg_ne tm35 tm52 (by decide))
                        have k214 := wd_at.pt ew205 k181 (tg_ne tm39 tm52 (by decide))
                        have k215 := wd_at.pt ew205 k182 (tg_ne tm40 tm52 (by decide))
                        have k216 := wd_at.pt ew205 k183 (tg_ne tm41 tm52 (by decide))
                        have k217 := wd_at.pt ew205 k184 (tg_ne tm42 tm52 (by decide))
                        have k218 := wd_at.pt ew205 k185 (tg_ne tm43 tm52 (by decide))
                        have k219 := wd_at.pt ew205 k186 (tg_ne tm46 tm52 (by decide))
                        have k220 := wd_at.pt ew205 k187 (tg_ne tm47 tm52 (by decide))
                        have k221 := wd_at.pt ew205 k188 (tg_ne tm48 tm52 (by decide))
                        have k222 := wd_at.pt ew205 k189 (tg_ne tm49 tm52 (by decide))
                        have k223 := wd_at.pt ew205 k190 (tg_ne tm51 tm52 (by decide))
                        have k224 : wd_at w204 m52 (.inl (cy 3, 200, .inr (.inl (vp_updL bf (nI k2).toNatClampNeg ((f48 (nI k2).toNatClampNeg) / 2))))) := wd_at.ps ew205 k191
                        have k225 := wd_at.pt ew205 k192 (tg_ne tm53 tm52 (by decide))
                        have k226 := wd_at.pt ew205 k193 (tg_ne tm54 tm52 (by decide))
                        have k227 := wd_at.pt ew205 k194 (tg_ne tm56 tm52 (by decide))
                        have k228 := wd_at.pt ew205 k195 (tg_ne tm57 tm52 (by decide))
                        have k229 := wd_at.pt ew205 k196 (tg_ne tm58 tm52 (by decide))
                        have k230 := wd_at.pt ew205 k197 (tg_ne tm59 tm52 (by decide))
                        have k231 := wd_at.pt ew205 k198 (tg_ne tm23 tm52 (by decide))
                        have fm232 : ∀ k9, k9 < 60 → qs k9 = some (sr k9) ∧ wd_at w204 (sr k9) (.inl (cy 2, 12, .inl (fs k9))) ∧ tg (sr k9) = 13000 + k9 := fun k9 hi9 => ⟨(fm199 k9 hi9).1, wd_at.pt ew205 (fm199 k9 hi9).2.1 (tg_ne (fm199 k9 hi9).2.2 tm52 (tnA (show 10152 < 13000 by decide))), (fm199 k9 hi9).2.2⟩
                        have kp233 := kp200.put ew205 s92
                        refine lv_aload_n hx hb dX11_settle_173 rfl (lv_at hl 1 rfl) ?_
                        refine x_get (ref := "NoteHouseModel") F hP k206 rfl (fun _ h => List.mem_cons_of_mem _ (List.mem_append_right _ (h))) 53 (Nat.le_of_ble_eq_true rfl) (List.mem_cons_of_mem _ (List.mem_append_left _ (List.mem_append_left _ (List.mem_of_getElem? (i := 1) rfl)))) rfl rfl dX11_settle_174 ?_
                        refine lv_aload_n hx hb dX11_settle_177 rfl (lv_at hl 1 rfl) ?_
                        refine x_get (ref := "NoteHouseModel") F hP k206 rfl (fun _ h => List.mem_cons_of_mem _ (List.mem_append_right _ (h))) 39 (Nat.le_of_ble_eq_true rfl) (List.mem_cons_of_mem _ (List.mem_append_left _ (List.mem_append_left _ (List.mem_of_getElem? (i := 10) rfl)))) rfl rfl dX11_settle_178 ?_
                        refine lv_iload_n hx hb dX11_settle_181 rfl (lv_at hl 4 rfl) ?_
                        refine x_iald F hP k214 (vp_in_nI (n := k2) (N := 200) (by omega) (by decide)) dX11_settle_182 ?_
                        obtain ⟨tw, htw, etw⟩ := ht k2 (by omega)
                        rw [nI_clamp (n := k2) (by omega), etw]
                        refine lv_dup2_11 hx hb dX11_settle_183 rfl rfl ?_
                        refine x_lald F hP k225 (vp_in_nI (n := tw) (N := 12) (by omega) (by decide)) dX11_settle_184 ?_
                        refine lv_aload_n hx hb dX11_settle_185 rfl (lv_at hl 1 rfl) ?_
                        refine x_get (ref := "NoteHouseModel") F hP k206 rfl (fun _ h => List.mem_cons_of_mem _ (List.mem_append_right _ (h))) 52 (Nat.le_of_ble_eq_true rfl) (List.mem_cons_of_mem _ (List.mem_append_left _ (List.mem_append_left _ (List.mem_of_getElem? (i := 7) rfl)))) rfl rfl dX11_settle_186 ?_
                        refine lv_iload_n hx hb dX11_settle_189 rfl (lv_at hl 4 rfl) ?_
                        refine x_lald F hP k224 (vp_in_nI (n := k2) (N := 200) (by omega) (by decide)) dX11_settle_190 ?_
                        refine lv_ladd hx hb dX11_settle_191 ?_
                        refine y_last F hP hD hS k225 (vp_in_nI (n := tw) (N := 12) (by omega) (by decide)) dX11_settle_192 (fun w234 ew235 H locs hP hD hS => ?_)
                        have k236 := wd_at.pt ew235 k206 (tg_ne ty tm53 (by decide))
                        have k237 := wd_at.pt ew235 k207 (tg_ne tm4 tm53 (by decide))
                        have k238 := wd_at.pt ew235 k208 (tg_ne tm8 tm53 (by decide))
                        have k239 := wd_at.pt ew235 k209 (tg_ne tm9 tm53 (by decide))
                        have k240 := wd_at.pt ew235 k210 (tg_ne tm10 tm53 (by decide))
                        have k241 := wd_at.pt ew235 k211 (tg_ne tm21 tm53 (by decide))
                        have k242 := wd_at.pt ew235 k212 (tg_ne tm22 tm53 (by decide))
                        have k243 := wd_at.pt ew235 k213 (tg_ne tm35 tm53 (by decide))
                        have k244 := wd_at.pt ew235 k214 (tg_ne tm39 tm53 (by decide))
                        have k245 := wd_at.pt ew235 k215 (tg_ne tm40 tm53 (by decide))
                        have k246 := wd_at.pt ew235 k216 (tg_ne tm41 tm53 (by decide))
                        have k247 := wd_at.pt ew235 k217 (tg_ne tm42 tm53 (by decide))
                        have k248 := wd_at.pt ew235 k218 (tg_ne tm43 tm53 (by decide))
                        have k249 := wd_at.pt ew235 k219 (tg_ne tm46 tm53 (by decide))
                        have k250 := wd_at.pt ew235 k220 (tg_ne tm47 tm53 (by decide))
                        have k251 := wd_at.pt ew235 k221 (tg_ne tm48 tm53 (by decide))
                        have k252 := wd_at.pt ew235 k222 (tg_ne tm49 tm53 (by decide))
                        have k253 := wd_at.pt ew235 k223 (tg_ne tm51 tm53 (by decide))
                        have k254 := wd_at.pt ew235 k224 (tg_ne tm52 tm53 (by decide))
                        have k255 : wd_at w234 m53 (.inl (cy 3, 12, .inr (.inl (vp_updL d2 (nI tw).toNatClampNeg ((d2 (nI tw).toNatClampNeg) + ((vp_updL bf (nI k2).toNatClampNeg ((f48 (nI k2).toNatClampNeg) / 2)) (nI k2).toNatClampNeg)))))) := wd_at.ps ew235 k225
                        have k256 := wd_at.pt ew235 k226 (tg_ne tm54 tm53 (by decide))
                        have k257 := wd_at.pt ew235 k227 (tg_ne tm56 tm53 (by decide))
                        have k258 := wd_at.pt ew235 k228 (tg_ne tm57 tm53 (by decide))
                        have k259 := wd_at.pt ew235 k229 (tg_ne tm58 tm53 (by decide))
                        have k260 := wd_at.pt ew235 k230 (tg_ne tm59 tm53 (by decide))
                        have k261 := wd_at.pt ew235 k231 (tg_ne tm23 tm53 (by decide))
                        have fm262 : ∀ k9, k9 < 60 → qs k9 = some (sr k9) ∧ wd_at w234 (sr k9) (.inl (cy 2, 12, .inl (fs k9))) ∧ tg (sr k9) = 13000 + k9 := fun k9 hi9 => ⟨(fm232 k9 hi9).1, wd_at.pt ew235 (fm232 k9 hi9).2.1 (tg_ne (fm232 k9 hi9).2.2 tm53 (tnA (show 10153 < 13000 by decide))), (fm232 k9 hi9).2.2⟩
                        have kp263 := kp233.put ew235 s93
                        refine lv_iinc (v := nn + 1) (lv' := [(2, .int (nn + 1)), (4, .int (f35 (nI (kdx169 - 1)).toNatClampNeg)), (0, .ref y), (1, .int x1), (3, .int (nI k2))]) hx hb dX11_settle_193 hl (k := 3) rfl (rfl) (by decide) rfl (fun ls hl => ?_)
                        refine lv_iinc (v := nI (k2 + 1)) (lv' := [(3, .int (nI (k2 + 1))), (2, .int (nn + 1)), (4, .int (f35 (nI (kdx169 - 1)).toNatClampNeg)), (0, .ref y), (1, .int x1)]) hx hb dX11_settle_196 hl (k := 4) rfl (nI_1 k2) (by decide) rfl (fun ls hl => ?_)
                        refine lv_goto (tgt := 72) hx hb dX11_settle_199 (by decide) ?_
                        exact ih72 (k2 + 1) (nn + 1) (upd kf (nI k2).toNatClampNeg (nI kdx169)) (vp_updL bf (nI k2).toNatClampNeg ((f48 (nI k2).toNatClampNeg) / 2)) (vp_updL d2 (nI tw).toNatClampNeg ((d2 (nI tw).toNatClampNeg) + ((vp_updL bf (nI k2).toNatClampNeg ((f48 (nI k2).toNatClampNeg) / 2)) (nI k2).toNatClampNeg))) w234 (by omega)  k236 k237 k238 k239 k240 k241 k242 k243 k244 k245 k246 k247 k248 k249 k250 k251 k252 k253 k254 k255 k256 k257 k258 k259 k260 k261 fm262 kp263 ls (lv_sub hl [3, 4, 1, 0] rfl) H locs hP hD hS
                      · refine lv_lconst (v := 0) hx hb dX11_settle_158 (by decide) ?_
                        refine lv_goto (tgt := 172) hx hb dX11_settle_159 (by decide) ?_
                        refine y_last F hP hD hS k191 (vp_in_nI (n := k2) (N := 200) (by omega) (by decide)) dX11_settle_172 (fun w264 ew265 H locs hP hD hS => ?_)
                        have k266 := wd_at.pt ew265 k173 (tg_ne ty tm52 (by decide))
                        have k267 := wd_at.pt ew265 k174 (tg_ne tm4 tm52 (by decide))
                        have k268 := wd_at.pt ew265 k175 (tg_ne tm8 tm52 (by decide))
                        have k269 := wd_at.pt ew265 k176 (tg_ne tm9 tm52 (by decide))
                        have k270 := wd_at.pt ew265 k177 (tg_ne tm10 tm52 (by decide))
                        have k271 := wd_at.pt ew265 k178 (tg_ne tm21 tm52 (by decide))
                        have k272 := wd_at.pt ew265 k179 (tg_ne tm22 tm52 (by decide))
                        have k273 := wd_at.pt ew265 k180 (tg_ne tm35 tm52 (by decide))
                        have k274 := wd_at.pt ew265 k181 (tg_ne tm39 tm52 (by decide))
                        have k275 := wd_at.pt ew265 k182 (tg_ne tm40 tm52 (by decide))
                        have k276 := wd_at.pt ew265 k183 (tg_ne tm41 tm52 (by decide))
                        have k277 := wd_at.pt ew265 k184 (tg_ne tm42 tm52 (by decide))
                        have k278 := wd_at.pt ew265 k185 (tg_ne tm43 tm52 (by decide))
                        have k279 := wd_at.pt ew265 k186 (tg_ne tm46 tm52 (by decide))
                        have k280 := wd_at.pt ew265 k187 (tg_ne tm47 tm52 (by decide))
                        have k281 := wd_at.pt ew265 k188 (tg_ne tm48 tm52 (by decide))
                        have k282 := wd_at.pt ew265 k189 (tg_ne tm49 tm52 (by decide))
                        have k283 := wd_at.pt ew265 k190 (tg_ne tm51 tm52 (by decide))
                        have k284 : wd_at w264 m52 (.inl (cy 3, 200, .inr (.inl (vp_updL bf (nI k2).toNatClampNeg 0)))) := wd_at.ps ew265 k191
                        have k285 := wd_at.pt ew265 k192 (tg_ne tm53 tm52 (by decide))
                        have k286 := wd_at.pt ew265 k193 (tg_ne tm54 tm52 (by decide))
                        have k287 := wd_at.pt ew265 k194 (tg_ne tm56 tm52 (by decide))
                        have k288 := wd_at.pt ew265 k195 (tg_ne tm57 tm52 (by decide))
                        have k289 := wd_at.pt ew265 k196 (tg_ne tm58 tm52 (by decide))
                        have k290 := wd_at.pt ew265 k197 (tg_ne tm59 tm52 (by decide))
                        have k291 := wd_at.pt ew265 k198 (tg_ne tm23 tm52 (by decide))
                        have fm292 : ∀ k9, k9 < 60 → qs k9 = some (sr k9) ∧ wd_at w264 (sr k9) (.inl (cy 2, 12, .inl (fs k9))) ∧ tg (sr k9) = 13000 + k9 := fun k9 hi9 => ⟨(fm199 k9 hi9).1, wd_at.pt ew265 (fm199 k9 hi9).2.1 (tg_ne (fm199 k9 hi9).2.2 tm52 (tnA (show 10152 < 13000 by decide))), (fm199 k9 hi9).2.2⟩
                        have kp293 := kp200.put ew265 s92
                        refine lv_aload_n hx hb dX11_settle_173 rfl (lv_at hl 1 rfl) ?_
                        refine x_get (ref := "NoteHouseModel") F hP k266 rfl (fun _ h => List.mem_cons_of_mem _ (List.mem_append_right _ (h))) 53 (Nat.le_of_ble_eq_true rfl) (List.mem_cons_of_mem _ (List.mem_append_left _ (List.mem_append_left _ (List.mem_of_getElem? (i := 1) rfl)))) rfl rfl dX11_settle_174 ?_
                        refine lv_aload_n hx hb dX11_settle_177 rfl (lv_at hl 1 rfl) ?_
                        refine x_get (ref := "NoteHouseModel") F hP k266 rfl (fun _ h => List.mem_cons_of_mem _ (List.mem_append_right _ (h))) 39 (Nat.le_of_ble_eq_true rfl) (List.mem_cons_of_mem _ (List.mem_append_left _ (List.mem_append_left _ (List.mem_of_getElem? (i := 10) rfl)))) rfl rfl dX11_settle_178 ?_
                        refine lv_iload_n hx hb dX11_settle_181 rfl (lv_at hl 4 rfl) ?_
                        refine x_iald F hP k274 (vp_in_nI (n := k2) (N := 200) (by omega) (by decide)) dX11_settle_182 ?_
                        obtain ⟨tw, htw, etw⟩ := ht k2 (by omega)
                        rw [nI_clamp (n := k2) (by omega), etw]
                        refine lv_dup2_11 hx hb dX11_settle_183 rfl rfl ?_
                        refine x_lald F hP k285 (vp_in_nI (n := tw) (N := 12) (by omega) (by decide)) dX11_settle_184 ?_
                        refine lv_aload_n hx hb dX11_settle_185 rfl (lv_at hl 1 rfl) ?_
                        refine x_get (ref := "NoteHouseModel") F hP k266 rfl (fun _ h => List.mem_cons_of_mem _ (List.mem_append_right _ (h))) 52 (Nat.le_of_ble_eq_true rfl) (List.mem_cons_of_mem _ (List.mem_append_left _ (List.mem_append_left _ (List.mem_of_getElem? (i := 7) rfl)))) rfl rfl dX11_settle_186 ?_
                        refine lv_iload_n hx hb dX11_settle_189 rfl (lv_at hl 4 rfl) ?_
                        refine x_lald F hP k284 (vp_in_nI (n := k2) (N := 200) (by omega) (by decide)) dX11_settle_190 ?_
                        refine lv_ladd hx hb dX11_settle_191 ?_
                        refine y_last F hP hD hS k285 (vp_in_nI (n := tw) (N := 12) (by omega) (by decide)) dX11_settle_192 (fun w294 ew295 H locs hP hD hS => ?_)
                        have k296 := wd_at.pt ew295 k266 (tg_ne ty tm53 (by decide))
                        have k297 := wd_at.pt ew295 k267 (tg_ne tm4 tm53 (by decide))
                        have k298 := wd_at.pt ew295 k268 (tg_ne tm8 tm53 (by decide))
                        have k299 := wd_at.pt ew295 k269 (tg_ne tm9 tm53 (by decide))
                        have k300 := wd_at.pt ew295 k270 (tg_ne tm10 tm53 (by decide))
                        have k301 := wd_at.pt ew295 k271 (tg_ne tm21 tm53 (by decide))
                        have k302 := wd_at.pt ew295 k272 (tg_ne tm22 tm53 (by decide))
                        have k303 := wd_at.pt ew295 k273 (tg_ne tm35 tm53 (by decide))
                        have k304 := wd_at.pt ew295 k274 (tg_ne tm39 tm53 (by decide))
                        have k305 := wd_at.pt ew295 k275 (tg_ne tm40 tm53 (by decide))
                        have k306 := wd_at.pt ew295 k276 (tg_ne tm41 tm53 (by decide))
                        have k307 := wd_at.pt ew295 k277 (tg_ne tm42 tm53 (by decide))
                        have k308 := wd_at.pt ew295 k278 (tg_ne tm43 tm53 (by decide))
                        have k309 := wd_at.pt ew295 k279 (tg_ne tm46 tm53 (by decide))
                        have k310 := wd_at.pt ew295 k280 (tg_ne tm47 tm53 (by decide))
                        have k311 := wd_at.pt ew295 k281 (tg_ne tm48 tm53 (by decide))
                        have k312 := wd_at.pt ew295 k282 (tg_ne tm49 tm53 (by decide))
                        have k313 := wd_at.pt ew295 k283 (tg_ne tm51 tm53 (by decide))
                        have k314 := wd_at.pt ew295 k284 (tg_ne tm52 tm53 (by decide))
                        have k315 : wd_at w294 m53 (.inl (cy 3, 12, .inr (.inl (vp_updL d2 (nI tw).toNatClampNeg ((d2 (nI tw).toNatClampNeg) + ((vp_updL bf (nI k2).toNatClampNeg 0) (nI k2).toNatClampNeg)))))) := wd_at.ps ew295 k285
                        have k316 := wd_at.pt ew295 k286 (tg_ne tm54 tm53 (by decide))
                        have k317 := wd_at.pt ew295 k287 (tg_ne tm56 tm53 (by decide))
                        have k318 := wd_at.pt ew295 k288 (tg_ne tm57 tm53 (by decide))
                        have k319 := wd_at.pt ew295 k289 (tg_ne tm58 tm53 (by decide))
                        have k320 := wd_at.pt ew295 k290 (tg_ne tm59 tm53 (by decide))
                        have k321 := wd_at.pt ew295 k291 (tg_ne tm23 tm53 (by decide))
                        have fm322 : ∀ k9, k9 < 60 → qs k9 = some (sr k9) ∧ wd_at w294 (sr k9) (.inl (cy 2, 12, .inl (fs k9))) ∧ tg (sr k9) = 13000 + k9 := fun k9 hi9 => ⟨(fm292 k9 hi9).1, wd_at.pt ew295 (fm292 k9 hi9).2.1 (tg_ne (fm292 k9 hi9).2.2 tm53 (tnA (show 10153 < 13000 by decide))), (fm292 k9 hi9).2.2⟩
                        have kp323 := kp293.put ew295 s93
                        refine lv_iinc (v := nn + 1) (lv' := [(2, .int (nn + 1)), (4, .int (f35 (nI (kdx169 - 1)).toNatClampNeg)), (0, .ref y), (1, .int x1), (3, .int (nI k2))]) hx hb dX11_settle_193 hl (k := 3) rfl (rfl) (by decide) rfl (fun ls hl => ?_)
                        refine lv_iinc (v := nI (k2 + 1)) (lv' := [(3, .int (nI (k2 + 1))), (2, .int (nn + 1)), (4, .int (f35 (nI (kdx169 - 1)).toNatClampNeg)), (0, .ref y), (1, .int x1)]) hx hb dX11_settle_196 hl (k := 4) rfl (nI_1 k2) (by decide) rfl (fun ls hl => ?_)
                        refine lv_goto (tgt := 72) hx hb dX11_settle_199 (by decide) ?_
                        exact ih72 (k2 + 1) (nn + 1) (upd kf (nI k2).toNatClampNeg (nI kdx169)) (vp_updL bf (nI k2).toNatClampNeg 0) (vp_updL d2 (nI tw).toNatClampNeg ((d2 (nI tw).toNatClampNeg) + ((vp_updL bf (nI k2).toNatClampNeg 0) (nI k2).toNatClampNeg))) w294 (by omega)  k296 k297 k298 k299 k300 k301 k302 k303 k304 k305 k306 k307 k308 k309 k310 k311 k312 k313 k314 k315 k316 k317 k318 k319 k320 k321 fm322 kp323 ls (lv_sub hl [3, 4, 1, 0] rfl) H locs hP hD hS
                    · refine lv_aload_n hx hb dX11_settle_143 rfl (lv_at hl 1 rfl) ?_
                      refine x_get (ref := "NoteHouseModel") F hP k173 rfl (fun _ h => List.mem_cons_of_mem _ (List.mem_append_right _ (h))) 48 (Nat.le_of_ble_eq_true rfl) (List.mem_cons_of_mem _ (List.mem_append_left _ (List.mem_append_left _ (List.mem_of_getElem? (i := 8) rfl)))) rfl rfl dX11_settle_144 ?_
                      refine lv_iload_n hx hb dX11_settle_147 rfl (lv_at hl 4 rfl) ?_
                      refine x_lald F hP k188 (vp_in_nI (n := k2) (N := 200) (by omega) (by decide)) dX11_settle_148 ?_
                      refine lv_goto (tgt := 172) hx hb dX11_settle_149 (by decide) ?_
                      refine y_last F hP hD hS k191 (vp_in_nI (n := k2) (N := 200) (by omega) (by decide)) dX11_settle_172 (fun w324 ew325 H locs hP hD hS => ?_)
                      have k326 := wd_at.pt ew325 k173 (tg_ne ty tm52 (by decide))
                      have k327 := wd_at.pt ew325 k174 (tg_ne tm4 tm52 (by decide))
                      have k328 := wd_at.pt ew325 k175 (tg_ne tm8 tm52 (by decide))
                      have k329 := wd_at.pt ew325 k176 (tg_ne tm9 tm52 (by decide))
                      have k330 := wd_at.pt ew325 k177 (tg_ne tm10 tm52 (by decide))
                      have k331 := wd_at.pt ew325 k178 (tg_ne tm21 tm52 (by decide))
                      have k332 := wd_at.pt ew325 k179 (tg_ne tm22 tm52 (by decide))
                      have k333 := wd_at.pt ew325 k180 (tg_ne tm35 tm52 (by decide))
                      have k334 := wd_at.pt ew325 k181 (tg_ne tm39 tm52 (by decide))
                      have k335 := wd_at.pt ew325 k182 (tg_ne tm40 tm52 (by decide))
                      have k336 := wd_at.pt ew325 k183 (tg_ne tm41 tm52 (by decide))
                      have k337 := wd_at.pt ew325 k184 (tg_ne tm42 tm52 (by decide))
                      have k338 := wd_at.pt ew325 k185 (tg_ne tm43 tm52 (by decide))
                      have k339 := wd_at.pt ew325 k186 (tg_ne tm46 tm52 (by decide))
                      have k340 := wd_at.pt ew325 k187 (tg_ne tm47 tm52 (by decide))
                      have k341 := wd_at.pt ew325 k188 (tg_ne tm48 tm52 (by decide))
                      have k342 := wd_at.pt ew325 k189 (tg_ne tm49 tm52 (by decide))
                      have k343 := wd_at.pt ew325 k190 (tg_ne tm51 tm52 (by decide))
                      have k344 : wd_at w324 m52 (.inl (cy 3, 200, .inr (.inl (vp_updL bf (nI k2).toNatClampNeg (f48 (nI k2).toNatClampNeg))))) := wd_at.ps ew325 k191
                      have k345 := wd_at.pt ew325 k192 (tg_ne tm53 tm52 (by decide))
                      have k346 := wd_at.pt ew325 k193 (tg_ne tm54 tm52 (by decide))
                      have k347 := wd_at.pt ew325 k194 (tg_ne tm56 tm52 (by decide))
                      have k348 := wd_at.pt ew325 k195 (tg_ne tm57 tm52 (by decide))
                      have k349 := wd_at.pt ew325 k196 (tg_ne tm58 tm52 (by decide))
                      have k350 := wd_at.pt ew325 k197 (tg_ne tm59 tm52 (by decide))
                      have k351 := wd_at.pt ew325 k198 (tg_ne tm23 tm52 (by decide))
                      have fm352 : ∀ k9, k9 < 60 → qs k9 = some (sr k9) ∧ wd_at w324 (sr k9) (.inl (cy 2, 12, .inl (fs k9))) ∧ tg (sr k9) = 13000 + k9 := fun k9 hi9 => ⟨(fm199 k9 hi9).1, wd_at.pt ew325 (fm199 k9 hi9).2.1 (tg_ne (fm199 k9 hi9).2.2 tm52 (tnA (show 10152 < 13000 by decide))), (fm199 k9 hi9).2.2⟩
                      have kp353 := kp200.put ew325 s92
                      refine lv_aload_n hx hb dX11_settle_173 rfl (lv_at hl 1 rfl) ?_
                      refine x_get (ref := "NoteHouseModel") F hP k326 rfl (fun _ h => List.mem_cons_of_mem _ (List.mem_append_right _ (h))) 53 (Nat.le_of_ble_eq_true rfl) (List.mem_cons_of_mem _ (List.mem_append_left _ (List.mem_append_left _ (List.mem_of_getElem? (i := 1) rfl)))) rfl rfl dX11_settle_174 ?_
                      refine lv_aload_n hx hb dX11_settle_177 rfl (lv_at hl 1 rfl) ?_
                      refine x_get (ref := "NoteHouseModel") F hP k326 rfl (fun _ h => List.mem_cons_of_mem _ (List.mem_append_right _ (h))) 39 (Nat.le_of_ble_eq_true rfl) (List.mem_cons_of_mem _ (List.mem_append_left _ (List.mem_append_left _ (List.mem_of_getElem? (i := 10) rfl)))) rfl rfl dX11_settle_178 ?_
                      refine lv_iload_n hx hb dX11_settle_181 rfl (lv_at hl 4 rfl) ?_
                      refine x_iald F hP k334 (vp_in_nI (n := k2) (N := 200) (by omega) (by decide)) dX11_settle_182 ?_
                      obtain ⟨tw, htw, etw⟩ := ht k2 (by omega)
                      rw [nI_clamp (n := k2) (by omega), etw]
                      refine lv_dup2_11 hx hb dX11_settle_183 rfl rfl ?_
                      refine x_lald F hP k345 (vp_in_nI (n := tw) (N := 12) (by omega) (by decide)) dX11_settle_184 ?_
                      refine lv_aload_n hx hb dX11_settle_185 rfl (lv_at hl 1 rfl) ?_
                      refine x_get (ref := "NoteHouseModel") F hP k326 rfl (fun _ h => List.mem_cons_of_mem _ (List.mem_append_right _ (h))) 52 (Nat.le_of_ble_eq_true rfl) (List.mem_cons_of_mem _ (List.mem_append_left _ (List.mem_append_left _ (List.mem_of_getElem? (i := 7) rfl)))) rfl rfl dX11_settle_186 ?_
                      refine lv_iload_n hx hb dX11_settle_189 rfl (lv_at hl 4 rfl) ?_
                      refine x_lald F hP k344 (vp_in_nI (n := k2) (N := 200) (by omega) (by decide)) dX11_settle_190 ?_
                      refine lv_ladd hx hb dX11_settle_191 ?_
                      refine y_last F hP hD hS k345 (vp_in_nI (n := tw) (N := 12) (by omega) (by decide)) dX11_settle_192 (fun w354 ew355 H locs hP hD hS => ?_)
                      have k356 := wd_at.pt ew355 k326 (tg_ne ty tm53 (by decide))
                      have k357 := wd_at.pt ew355 k327 (tg_ne tm4 tm53 (by decide))
                      have k358 := wd_at.pt ew355 k328 (tg_ne tm8 tm53 (by decide))
                      have k359 := wd_at.pt ew355 k329 (tg_ne tm9 tm53 (by decide))
                      have k360 := wd_at.pt ew355 k330 (tg_ne tm10 tm53 (by decide))
                      have k361 := wd_at.pt ew355 k331 (tg_ne tm21 tm53 (by decide))
                      have k362 := wd_at.pt ew355 k332 (tg_ne tm22 tm53 (by decide))
                      have k363 := wd_at.pt ew355 k333 (tg_ne tm35 tm53 (by decide))
                      have k364 := wd_at.pt ew355 k334 (tg_ne tm39 tm53 (by decide))
                      have k365 := wd_at.pt ew355 k335 (tg_ne tm40 tm53 (by decide))
                      have k366 := wd_at.pt ew355 k336 (tg_ne tm41 tm53 (by decide))
                      have k367 := wd_at.pt ew355 k337 (tg_ne tm42 tm53 (by decide))
                      have k368 := wd_at.pt ew355 k338 (tg_ne tm43 tm53 (by decide))
                      have k369 := wd_at.pt ew355 k339 (tg_ne tm46 tm53 (by decide))
                      have k370 := wd_at.pt ew355 k340 (tg_ne tm47 tm53 (by decide))
                      have k371 := wd_at.pt ew355 k341 (tg_ne tm48 tm53 (by decide))
                      have k372 := wd_at.pt ew355 k342 (tg_ne tm49 tm53 (by decide))
                      have k373 := wd_at.pt ew355 k343 (tg_ne tm51 tm53 (by decide))
                      have k374 := wd_at.pt ew355 k344 (tg_ne tm52 tm53 (by decide))
                      have k375 : wd_at w354 m53 (.inl (cy 3, 12, .inr (.inl (vp_updL d2 (nI tw).toNatClampNeg ((d2 (nI tw).toNatClampNeg) + ((vp_updL bf (nI k2).toNatClampNeg (f48 (nI k2).toNatClampNeg)) (nI k2).toNatClampNeg)))))) := wd_at.ps ew355 k345
                      have k376 := wd_at.pt ew355 k346 (tg_ne tm54 tm53 (by decide))
                      have k377 := wd_at.pt ew355 k347 (tg_ne tm56 tm53 (by decide))
                      have k378 := wd_at.pt ew355 k348 (tg_ne tm57 tm53 (by decide))
                      have k379 := wd_at.pt ew355 k349 (tg_ne tm58 tm53 (by decide))
                      have k380 := wd_at.pt ew355 k350 (tg_ne tm59 tm53 (by decide))
                      have k381 := wd_at.pt ew355 k351 (tg_ne tm23 tm53 (by decide))
                      have fm382 : ∀ k9, k9 < 60 → qs k9 = some (sr k9) ∧ wd_at w354 (sr k9) (.inl (cy 2, 12, .inl (fs k9))) ∧ tg (sr k9) = 13000 + k9 := fun k9 hi9 => ⟨(fm352 k9 hi9).1, wd_at.pt ew355 (fm352 k9 hi9).2.1 (tg_ne (fm352 k9 hi9).2.2 tm53 (tnA (show 10153 < 13000 by decide))), (fm352 k9 hi9).2.2⟩
                      have kp383 := kp353.put ew355 s93
                      refine lv_iinc (v := nn + 1) (lv' := [(2, .int (nn + 1)), (4, .int (f35 (nI (kdx169 - 1)).toNatClampNeg)), (0, .ref y), (1, .int x1), (3, .int (nI k2))]) hx hb dX11_settle_193 hl (k := 3) rfl (rfl) (by decide) rfl (fun ls hl => ?_)
                      refine lv_iinc (v := nI (k2 + 1)) (lv' := [(3, .int (nI (k2 + 1))), (2, .int (nn + 1)), (4, .int (f35 (nI (kdx169 - 1)).toNatClampNeg)), (0, .ref y), (1, .int x1)]) hx hb dX11_settle_196 hl (k := 4) rfl (nI_1 k2) (by decide) rfl (fun ls hl => ?_)
                      refine lv_goto (tgt := 72) hx hb dX11_settle_199 (by decide) ?_
                      exact ih72 (k2 + 1) (nn + 1) (upd kf (nI k2).toNatClampNeg (nI kdx169)) (vp_updL bf (nI k2).toNatClampNeg (f48 (nI k2).toNatClampNeg)) (vp_updL d2 (nI tw).toNatClampNeg ((d2 (nI tw).toNatClampNeg) + ((vp_updL bf (nI k2).toNatClampNeg (f48 (nI k2).toNatClampNeg)) (nI k2).toNatClampNeg))) w354 (by omega)  k356 k357 k358 k359 k360 k361 k362 k363 k364 k365 k366 k367 k368 k369 k370 k371 k372 k373 k374 k375 k376 k377 k378 k379 k380 k381 fm382 kp383 ls (lv_sub hl [3, 4, 1, 0] rfl) H locs hP hD hS
                  · refine lv_iconst (v := 0) hx hb dX11_settle_114 (by decide) ?_
                    refine lv_goto (tgt := 131) hx hb dX11_settle_115 (by decide) ?_
                    refine lv_istore (lv' := [(4, .int 0), (0, .ref y), (1, .int x1), (2, .int nn), (3, .int (nI k2))]) hx hb dX11_settle_131 hl (by decide) rfl (fun ls hl => ?_)
                    refine lv_aload_n hx hb dX11_settle_133 rfl (lv_at hl 1 rfl) ?_
                    refine x_get (ref := "NoteHouseModel") F hP k173 rfl (fun _ h => List.mem_cons_of_mem _ (List.mem_append_right _ (h))) 52 (Nat.le_of_ble_eq_true rfl) (List.mem_cons_of_mem _ (List.mem_append_left _ (List.mem_append_left _ (List.mem_of_getElem? (i := 7) rfl)))) rfl rfl dX11_settle_134 ?_
                    refine lv_iload_n hx hb dX11_settle_137 rfl (lv_at hl 4 rfl) ?_
                    refine lv_iload hx hb dX11_settle_138 (lv_at hl 0 rfl) ?_
                    refine lv_if_ne (tgt := 152) hx hb dX11_settle_140 (by decide) (fun c_384 => absurd (show (0 : Int32) = (0 : Int32) by decide) c_384) (fun c_384 => ?_)
                    refine lv_aload_n hx hb dX11_settle_143 rfl (lv_at hl 1 rfl) ?_
                    refine x_get (ref := "NoteHouseModel") F hP k173 rfl (fun _ h => List.mem_cons_of_mem _ (List.mem_append_right _ (h))) 48 (Nat.le_of_ble_eq_true rfl) (List.mem_cons_of_mem _ (List.mem_append_left _ (List.mem_append_left _ (List.mem_of_getElem? (i := 8) rfl)))) rfl rfl dX11_settle_144 ?_
                    refine lv_iload_n hx hb dX11_settle_147 rfl (lv_at hl 4 rfl) ?_
                    refine x_lald F hP k188 (vp_in_nI (n := k2) (N := 200) (by omega) (by decide)) dX11_settle_148 ?_
                    refine lv_goto (tgt := 172) hx hb dX11_settle_149 (by decide) ?_
                    refine y_last F hP hD hS k191 (vp_in_nI (n := k2) (N := 200) (by omega) (by decide)) dX11_settle_172 (fun w385 ew386 H locs hP hD hS => ?_)
                    have k387 := wd_at.pt ew386 k173 (tg_ne ty tm52 (by decide))
                    have k388 := wd_at.pt ew386 k174 (tg_ne tm4 tm52 (by decide))
                    have k389 := wd_at.pt ew386 k175 (tg_ne tm8 tm52 (by decide))
                    have k390 := wd_at.pt ew386 k176 (tg_ne tm9 tm52 (by decide))
                    have k391 := wd_at.pt ew386 k177 (tg_ne tm10 tm52 (by decide))
                    have k392 := wd_at.pt ew386 k178 (tg_ne tm21 tm52 (by decide))
                    have k393 := wd_at.pt ew386 k179 (tg_ne tm22 tm52 (by decide))
                    have k394 := wd_at.pt ew386 k180 (tg_ne tm35 tm52 (by decide))
                    have k395 := wd_at.pt ew386 k181 (tg_ne tm39 tm52 (by decide))
                    have k396 := wd_at.pt ew386 k182 (tg_ne tm40 tm52 (by decide))
                    have k397 := wd_at.pt ew386 k183 (tg_ne tm41 tm52 (by decide))
                    have k398 := wd_at.pt ew386 k184 (tg_ne tm42 tm52 (by decide))
                    have k399 := wd_at.pt ew386 k185 (tg_ne tm43 tm52 (by decide))
                    have k400 := wd_at.pt ew386 k186 (tg_ne tm46 tm52 (by decide))
                    have k401 := wd_at.pt ew386 k187 (tg_ne tm47 tm52 (by decide))
                    have k402 := wd_at.pt ew386 k188 (tg_ne tm48 tm52 (by decide))
                    have k403 := wd_at.pt ew386 k189 (tg_ne tm49 tm52 (by decide))
                    have k404 := wd_at.pt ew386 k190 (tg_ne tm51 tm52 (by decide))
                    have k405 : wd_at w385 m52 (.inl (cy 3, 200, .inr (.inl (vp_updL bf (nI k2).toNatClampNeg (f48 (nI k2).toNatClampNeg))))) := wd_at.ps ew386 k191
                    have k406 := wd_at.pt ew386 k192 (tg_ne tm53 tm52 (by decide))
                    have k407 := wd_at.pt ew386 k193 (tg_ne tm54 tm52 (by decide))
                    have k408 := wd_at.pt ew386 k194 (tg_ne tm56 tm52 (by decide))
                    have k409 := wd_at.pt ew386 k195 (tg_ne tm57 tm52 (by decide))
                    have k410 := wd_at.pt ew386 k196 (tg_ne tm58 tm52 (by decide))
                    have k411 := wd_at.pt ew386 k197 (tg_ne tm59 tm52 (by decide))
                    have k412 := wd_at.pt ew386 k198 (tg_ne tm23 tm52 (by decide))
                    have fm413 : ∀ k9, k9 < 60 → qs k9 = some (sr k9) ∧ wd_at w385 (sr k9) (.inl (cy 2, 12, .inl (fs k9))) ∧ tg (sr k9) = 13000 + k9 := fun k9 hi9 => ⟨(fm199 k9 hi9).1, wd_at.pt ew386 (fm199 k9 hi9).2.1 (tg_ne (fm199 k9 hi9).2.2 tm52 (tnA (show 10152 < 13000 by decide))), (fm199 k9 hi9).2.2⟩
                    have kp414 := kp200.put ew386 s92
                    refine lv_aload_n hx hb dX11_settle_173 rfl (lv_at hl 1 rfl) ?_
                    refine x_get (ref := "NoteHouseModel") F hP k387 rfl (fun _ h => List.mem_cons_of_mem _ (List.mem_append_right _ (h))) 53 (Nat.le_of_ble_eq_true rfl) (List.mem_cons_of_mem _ (List.mem_append_left _ (List.mem_append_left _ (List.mem_of_getElem? (i := 1) rfl)))) rfl rfl dX11_settle_174 ?_
                    refine lv_aload_n hx hb dX11_settle_177 rfl (lv_at hl 1 rfl) ?_
                    refine x_get (ref := "NoteHouseModel") F hP k387 rfl (fun _ h => List.mem_cons_of_mem _ (List.mem_append_right _ (h))) 39 (Nat.le_of_ble_eq_true rfl) (List.mem_cons_of_mem _ (List.mem_append_left _ (List.mem_append_left _ (List.mem_of_getElem? (i := 10) rfl)))) rfl rfl dX11_settle_178 ?_
                    refine lv_iload_n hx hb dX11_settle_181 rfl (lv_at hl 4 rfl) ?_
                    refine x_iald F hP k395 (vp_in_nI (n := k2) (N := 200) (by omega) (by decide)) dX11_settle_182 ?_
                    obtain ⟨tw, htw, etw⟩ := ht k2 (by omega)
                    rw [nI_clamp (n := k2) (by omega), etw]
                    refine lv_dup2_11 hx hb dX11_settle_183 rfl rfl ?_
                    refine x_lald F hP k406 (vp_in_nI (n := tw) (N := 12) (by omega) (by decide)) dX11_settle_184 ?_
                    refine lv_aload_n hx hb dX11_settle_185 rfl (lv_at hl 1 rfl) ?_
                    refine x_get (ref := "NoteHouseModel") F hP k387 rfl (fun _ h => List.mem_cons_of_mem _ (List.mem_append_right _ (h))) 52 (Nat.le_of_ble_eq_true rfl) (List.mem_cons_of_mem _ (List.mem_append_left _ (List.mem_append_left _ (List.mem_of_getElem? (i := 7) rfl)))) rfl rfl dX11_settle_186 ?_
                    refine lv_iload_n hx hb dX11_settle_189 rfl (lv_at hl 4 rfl) ?_
                    refine x_lald F hP k405 (vp_in_nI (n := k2) (N := 200) (by omega) (by decide)) dX11_settle_190 ?_
                    refine lv_ladd hx hb dX11_settle_191 ?_
                    refine y_last F hP hD hS k406 (vp_in_nI (n := tw) (N := 12) (by omega) (by decide)) dX11_settle_192 (fun w415 ew416 H locs hP hD hS => ?_)
                    have k417 := wd_at.pt ew416 k387 (tg_ne ty tm53 (by decide))
                    have k418 := wd_at.pt ew416 k388 (tg_ne tm4 tm53 (by decide))
                    have k419 := wd_at.pt ew416 k389 (tg_ne tm8 tm53 (by decide))
                    have k420 := wd_at.pt ew416 k390 (tg_ne tm9 tm53 (by decide))
                    have k421 := wd_at.pt ew416 k391 (tg_ne tm10 tm53 (by decide))
                    have k422 := wd_at.pt ew416 k392 (tg_ne tm21 tm53 (by decide))
                    have k423 := wd_at.pt ew416 k393 (tg_ne tm22 tm53 (by decide))
                    have k424 := wd_at.pt ew416 k394 (tg_ne tm35 tm53 (by decide))
                    have k425 := wd_at.pt ew416 k395 (tg_ne tm39 tm53 (by decide))
                    have k426 := wd_at.pt ew416 k396 (tg_ne tm40 tm53 (by decide))
                    have k427 := wd_at.pt ew416 k397 (tg_ne tm41 tm53 (by decide))
                    have k428 := wd_at.pt ew416 k398 (tg_ne tm42 tm53 (by decide))
                    have k429 := wd_at.pt ew416 k399 (tg_ne tm43 tm53 (by decide))
                    have k430 := wd_at.pt ew416 k400 (tg_ne tm46 tm53 (by decide))
                    have k431 := wd_at.pt ew416 k401 (tg_ne tm47 tm53 (by decide))
                    have k432 := wd_at.pt ew416 k402 (tg_ne tm48 tm53 (by decide))
                    have k433 := wd_at.pt ew416 k403 (tg_ne tm49 tm53 (by decide))
                    have k434 := wd_at.pt ew416 k404 (tg_ne tm51 tm53 (by decide))
                    have k435 := wd_at.pt ew416 k405 (tg_ne tm52 tm53 (by decide))
                    have k436 : wd_at w415 m53 (.inl (cy 3, 12, .inr (.inl (vp_updL d2 (nI tw).toNatClampNeg ((d2 (nI tw).toNatClampNeg) + ((vp_updL bf (nI k2).toNatClampNeg (f48 (nI k2).toNatClampNeg)) (nI k2).toNatClampNeg)))))) := wd_at.ps ew416 k406
                    have k437 := wd_at.pt ew416 k407 (tg_ne tm54 tm53 (by decide))
                    have k438 := wd_at.pt ew416 k408 (tg_ne tm56 tm53 (by decide))
                    have k439 := wd_at.pt ew416 k409 (tg_ne tm57 tm53 (by decide))
                    have k440 := wd_at.pt ew416 k410 (tg_ne tm58 tm53 (by decide))
                    have k441 := wd_at.pt ew416 k411 (tg_ne tm59 tm53 (by decide))
                    have k442 := wd_at.pt ew416 k412 (tg_ne tm23 tm53 (by decide))
                    have fm443 : ∀ k9, k9 < 60 → qs k9 = some (sr k9) ∧ wd_at w415 (sr k9) (.inl (cy 2, 12, .inl (fs k9))) ∧ tg (sr k9) = 13000 + k9 := fun k9 hi9 => ⟨(fm413 k9 hi9).1, wd_at.pt ew416 (fm413 k9 hi9).2.1 (tg_ne (fm413 k9 hi9).2.2 tm53 (tnA (show 10153 < 13000 by decide))), (fm413 k9 hi9).2.2⟩
                    have kp444 := kp414.put ew416 s93
                    refine lv_iinc (v := nn + 1) (lv' := [(2, .int (nn + 1)), (4, .int 0), (0, .ref y), (1, .int x1), (3, .int (nI k2))]) hx hb dX11_settle_193 hl (k := 3) rfl (rfl) (by decide) rfl (fun ls hl => ?_)
                    refine lv_iinc (v := nI (k2 + 1)) (lv' := [(3, .int (nI (k2 + 1))), (2, .int (nn + 1)), (4, .int 0), (0, .ref y), (1, .int x1)]) hx hb dX11_settle_196 hl (k := 4) rfl (nI_1 k2) (by decide) rfl (fun ls hl => ?_)
                    refine lv_goto (tgt := 72) hx hb dX11_settle_199 (by decide) ?_
                    exact ih72 (k2 + 1) (nn + 1) (upd kf (nI k2).toNatClampNeg (nI kdx169)) (vp_updL bf (nI k2).toNatClampNeg (f48 (nI k2).toNatClampNeg)) (vp_updL d2 (nI tw).toNatClampNeg ((d2 (nI tw).toNatClampNeg) + ((vp_updL bf (nI k2).toNatClampNeg (f48 (nI k2).toNatClampNeg)) (nI k2).toNatClampNeg))) w415 (by omega)  k417 k418 k419 k420 k421 k422 k423 k424 k425 k426 k427 k428 k429 k430 k431 k432 k433 k434 k435 k436 k437 k438 k439 k440 k441 k442 fm443 kp444 ls (lv_sub hl [3, 4, 1, 0] rfl) H locs hP hD hS
                · refine lv_goto (tgt := 196) hx hb dX11_settle_90 (by decide) ?_
                  refine lv_iinc (v := nI (k2 + 1)) (lv' := [(3, .int (nI (k2 + 1))), (0, .ref y), (1, .int x1), (2, .int nn)]) hx hb dX11_settle_196 hl (k := 3) rfl (nI_1 k2) (by decide) rfl (fun ls hl => ?_)
                  refine lv_goto (tgt := 72) hx hb dX11_settle_199 (by decide) ?_
                  exact ih72 (k2 + 1) nn kf bf d2 w95 (by omega)  k96 k97 k98 k99 k100 k101 k102 k103 k104 k105 k106 k107 k108 k109 k110 k111 k112 k113 k114 k115 k116 k117 k118 k119 k120 k121 fm122 kp123 ls (lv_sub hl [1, 2, 3, 0] rfl) H locs hP hD hS
            exact lp72 _ 0 0 k1 f52 d1 w65 (Nat.zero_add sh)  k66 k67 k68 k69 k70 k71 k72 k73 k74 k75 k76 k77 k78 k79 k80 k81 k82 k83 k84 k85 k86 k87 k88 k89 k90 k91 fm92 kp93 ls (lv_sub hl [1, 2, 3, 0] rfl) H locs hP hD hS
          | succ N ih50 =>
            intro k k1 w65 hN50 k66 k67 k68 k69 k70 k71 k72 k73 k74 k75 k76 k77 k78 k79 k80 k81 k82 k83 k84 k85 k86 k87 k88 k89 k90 k91 fm92 kp93 ls hl H locs hP hD hS
            refine lv_iload_n hx hb dX11_settle_50 rfl (lv_at hl 3 rfl) ?_
            refine lv_sipush (v := 200) hx hb dX11_settle_51 (by decide) ?_
            refine lv_icmp_ge (tgt := 70) hx hb dX11_settle_54 (by decide) (fun c_445 => absurd c_445 (nI_ge (a := k) (b := 200) (by omega) (by omega))) (fun c_445 => ?_)
            refine lv_aload_n hx hb dX11_settle_57 rfl (lv_at hl 0 rfl) ?_
            refine x_get (ref := "NoteHouseModel") F hP k66 rfl (fun _ h => List.mem_cons_of_mem _ (List.mem_append_right _ (h))) 51 (Nat.le_of_ble_eq_true rfl) (List.mem_cons_of_mem _ (List.mem_append_left _ (List.mem_append_left _ (List.mem_of_getElem? (i := 3) rfl)))) rfl rfl dX11_settle_58 ?_
            refine lv_iload_n hx hb dX11_settle_61 rfl (lv_at hl 3 rfl) ?_
            refine lv_iconst (v := (-1)) hx hb dX11_settle_62 (by decide) ?_
            refine y_iast F hP hD hS k83 (vp_in_nI (n := k) (N := 200) (by omega) (by decide)) dX11_settle_63 (fun w446 ew447 H locs hP hD hS => ?_)
            have k448 := wd_at.pt ew447 k66 (tg_ne ty tm51 (by decide))
            have k449 := wd_at.pt ew447 k67 (tg_ne tm4 tm51 (by decide))
            have k450 := wd_at.pt ew447 k68 (tg_ne tm8 tm51 (by decide))
            have k451 := wd_at.pt ew447 k69 (tg_ne tm9 tm51 (by decide))
            have k452 := wd_at.pt ew447 k70 (tg_ne tm10 tm51 (by decide))
            have k453 := wd_at.pt ew447 k71 (tg_ne tm21 tm51 (by decide))
            have k454 := wd_at.pt ew447 k72 (tg_ne tm22 tm51 (by decide))
            have k455 := wd_at.pt ew447 k73 (tg_ne tm35 tm51 (by decide))
            have k456 := wd_at.pt ew447 k74 (tg_ne tm39 tm51 (by decide))
            have k457 := wd_at.pt ew447 k75 (tg_ne tm40 tm51 (by decide))
            have k458 := wd_at.pt ew447 k76 (tg_ne tm41 tm51 (by decide))
            have k459 := wd_at.pt ew447 k77 (tg_ne tm42 tm51 (by decide))
            have k460 := wd_at.pt ew447 k78 (tg_ne tm43 tm51 (by decide))
            have k461 := wd_at.pt ew447 k79 (tg_ne tm46 tm51 (by decide))
            have k462 := wd_at.pt ew447 k80 (tg_ne tm47 tm51 (by decide))
            have k463 := wd_at.pt ew447 k81 (tg_ne tm48 tm51 (by decide))
            have k464 := wd_at.pt ew447 k82 (tg_ne tm49 tm51 (by decide))
            have k465 : wd_at w446 m51 (.inl (cy 2, 200, .inl (upd k1 (nI k).toNatClampNeg (-1)))) := wd_at.ps ew447 k83
            have k466 := wd_at.pt ew447 k84 (tg_ne tm52 tm51 (by decide))
            have k467 := wd_at.pt ew447 k85 (tg_ne tm53 tm51 (by decide))
            have k468 := wd_at.pt ew447 k86 (tg_ne tm54 tm51 (by decide))
            have k469 := wd_at.pt ew447 k87 (tg_ne tm56 tm51 (by decide))
            have k470 := wd_at.pt ew447 k88 (tg_ne tm57 tm51 (by decide))
            have k471 := wd_at.pt ew447 k89 (tg_ne tm58 tm51 (by decide))
            have k472 := wd_at.pt ew447 k90 (tg_ne tm59 tm51 (by decide))
            have k473 := wd_at.pt ew447 k91 (tg_ne tm23 tm51 (by decide))
            have fm474 : ∀ k9, k9 < 60 → qs k9 = some (sr k9) ∧ wd_at w446 (sr k9) (.inl (cy 2, 12, .inl (fs k9))) ∧ tg (sr k9) = 13000 + k9 := fun k9 hi9 => ⟨(fm92 k9 hi9).1, wd_at.pt ew447 (fm92 k9 hi9).2.1 (tg_ne (fm92 k9 hi9).2.2 tm51 (tnA (show 10151 < 13000 by decide))), (fm92 k9 hi9).2.2⟩
            have kp475 := kp93.put ew447 s91
            refine lv_iinc (v := nI (k + 1)) (lv' := [(3, .int (nI (k + 1))), (0, .ref y), (1, .int x1), (2, .int 0)]) hx hb dX11_settle_64 hl (k := 3) rfl (nI_1 k) (by decide) rfl (fun ls hl => ?_)
            refine lv_goto (tgt := 50) hx hb dX11_settle_67 (by decide) ?_
            exact ih50 (k + 1) (upd k1 (nI k).toNatClampNeg (-1)) w446 (by omega)  k448 k449 k450 k451 k452 k453 k454 k455 k456 k457 k458 k459 k460 k461 k462 k463 k464 k465 k466 k467 k468 k469 k470 k471 k472 k473 fm474 kp475 ls (lv_sub hl [1, 2, 3, 0] rfl) H locs hP hD hS
        exact lp50 _ 0 f51 w35 (Nat.zero_add 200)  k36 k37 k38 k39 k40 k41 k42 k43 k44 k45 k46 k47 k48 k49 k50 k51 k52 k53 k54 k55 k56 k57 k58 k59 k60 k61 fm62 kp63 ls (lv_sub hl [1, 2, 3, 0] rfl) H locs hP hD hS
      | succ N ih22 =>
        intro t d1 w35 hN22 k36 k37 k38 k39 k40 k41 k42 k43 k44 k45 k46 k47 k48 k49 k50 k51 k52 k53 k54 k55 k56 k57 k58 k59 k60 k61 fm62 kp63 ls hl H locs hP hD hS
        refine lv_iload_n hx hb dX11_settle_22 rfl (lv_at hl 3 rfl) ?_
        refine lv_bipush (v := 12) hx hb dX11_settle_23 (by decide) ?_
        refine lv_icmp_ge (tgt := 48) hx hb dX11_settle_25 (by decide) (fun c_476 => absurd c_476 (nI_ge (a := t) (b := 12) (by omega) (by omega))) (fun c_476 => ?_)
        refine lv_aload_n hx hb dX11_settle_28 rfl (lv_at hl 0 rfl) ?_
        refine x_get (ref := "NoteHouseModel") F hP k36 rfl (fun _ h => List.mem_cons_of_mem _ (List.mem_append_right _ (h))) 53 (Nat.le_of_ble_eq_true rfl) (List.mem_cons_of_mem _ (List.mem_append_left _ (List.mem_append_left _ (List.mem_of_getElem? (i := 1) rfl)))) rfl rfl dX11_settle_29 ?_
        refine lv_iload_n hx hb dX11_settle_32 rfl (lv_at hl 3 rfl) ?_
        refine lv_aload_n hx hb dX11_settle_33 rfl (lv_at hl 0 rfl) ?_
        refine x_get (ref := "NoteHouseModel") F hP k36 rfl (fun _ h => List.mem_cons_of_mem _ (List.mem_append_right _ (h))) 49 (Nat.le_of_ble_eq_true rfl) (List.mem_cons_of_mem _ (List.mem_append_left _ (List.mem_append_left _ (List.mem_of_getElem? (i := 2) rfl)))) rfl rfl dX11_settle_34 ?_
        refine lv_iload_n hx hb dX11_settle_37 rfl (lv_at hl 3 rfl) ?_
        refine x_iald F hP k52 (vp_in_nI (n := t) (N := 12) (by omega) (by decide)) dX11_settle_38 ?_
        refine lv_ineg hx hb dX11_settle_39 ?_
        refine lv_i2l (v := (-(f49 (nI t).toNatClampNeg)).toInt64) hx hb dX11_settle_40 (rfl) ?_
        refine y_last F hP hD hS k55 (vp_in_nI (n := t) (N := 12) (by omega) (by decide)) dX11_settle_41 (fun w477 ew478 H locs hP hD hS => ?_)
        have k479 := wd_at.pt ew478 k36 (tg_ne ty tm53 (by decide))
        have k480 := wd_at.pt ew478 k37 (tg_ne tm4 tm53 (by decide))
        have k481 := wd_at.pt ew478 k38 (tg_ne tm8 tm53 (by decide))
        have k482 := wd_at.pt ew478 k39 (tg_ne tm9 tm53 (by decide))
        have k483 := wd_at.pt ew478 k40 (tg_ne tm10 tm53 (by decide))
        have k484 := wd_at.pt ew478 k41 (tg_ne tm21 tm53 (by decide))
        have k485 := wd_at.pt ew478 k42 (tg_ne tm22 tm53 (by decide))
        have k486 := wd_at.pt ew478 k43 (tg_ne tm35 tm53 (by decide))
        have k487 := wd_at.pt ew478 k44 (tg_ne tm39 tm53 (by decide))
        have k488 := wd_at.pt ew478 k45 (tg_ne tm40 tm53 (by decide))
        have k489 := wd_at.pt ew478 k46 (tg_ne tm41 tm53 (by decide))
        have k490 := wd_at.pt ew478 k47 (tg_ne tm42 tm53 (by decide))
        have k491 := wd_at.pt ew478 k48 (tg_ne tm43 tm53 (by decide))
        have k492 := wd_at.pt ew478 k49 (tg_ne tm46 tm53 (by decide))
        have k493 := wd_at.pt ew478 k50 (tg_ne tm47 tm53 (by decide))
        have k494 := wd_at.pt ew478 k51 (tg_ne tm48 tm53 (by decide))
        have k495 := wd_at.pt ew478 k52 (tg_ne tm49 tm53 (by decide))
        have k496 := wd_at.pt ew478 k53 (tg_ne tm51 tm53 (by decide))
        have k497 := wd_at.pt ew478 k54 (tg_ne tm52 tm53 (by decide))
        have k498 : wd_at w477 m53 (.inl (cy 3, 12, .inr (.inl (vp_updL d1 (nI t).toNatClampNeg ((-(f49 (nI t).toNatClampNeg)).toInt64))))) := wd_at.ps ew478 k55
        have k499 := wd_at.pt ew478 k56 (tg_ne tm54 tm53 (by decide))
        have k500 := wd_at.pt ew478 k57 (tg_ne tm56 tm53 (by decide))
        have k501 := wd_at.pt ew478 k58 (tg_ne tm57 tm53 (by decide))
        have k502 := wd_at.pt ew478 k59 (tg_ne tm58 tm53 (by decide))
        have k503 := wd_at.pt ew478 k60 (tg_ne tm59 tm53 (by decide))
        have k504 := wd_at.pt ew478 k61 (tg_ne tm23 tm53 (by decide))
        have fm505 : ∀ k9, k9 < 60 → qs k9 = some (sr k9) ∧ wd_at w477 (sr k9) (.inl (cy 2, 12, .inl (fs k9))) ∧ tg (sr k9) = 13000 + k9 := fun k9 hi9 => ⟨(fm62 k9 hi9).1, wd_at.pt ew478 (fm62 k9 hi9).2.1 (tg_ne (fm62 k9 hi9).2.2 tm53 (tnA (show 10153 < 13000 by decide))), (fm62 k9 hi9).2.2⟩
        have kp506 := kp63.put ew478 s93
        refine lv_iinc (v := nI (t + 1)) (lv' := [(3, .int (nI (t + 1))), (0, .ref y), (1, .int x1), (2, .int 0)]) hx hb dX11_settle_42 hl (k := 3) rfl (nI_1 t) (by decide) rfl (fun ls hl => ?_)
        refine lv_goto (tgt := 22) hx hb dX11_settle_45 (by decide) ?_
        exact ih22 (t + 1) (vp_updL d1 (nI t).toNatClampNeg ((-(f49 (nI t).toNatClampNeg)).toInt64)) w477 (by omega)  k479 k480 k481 k482 k483 k484 k485 k486 k487 k488 k489 k490 k491 k492 k493 k494 k495 k496 k497 k498 k499 k500 k501 k502 k503 k504 fm505 kp506 ls (lv_sub hl [1, 2, 3, 0] rfl) H locs hP hD hS
    exact lp22 _ 0 f53 w5 (Nat.zero_add 12)  k7 k8 k9 k10 k11 k12 k13 k14 k15 k16 k17 k18 k19 k20 k21 k22 k23 k24 k25 k26 k27 k28 k29 k30 k31 k32 fm33 kp34 ls (lv_sub hl [2, 3, 1, 0] rfl) H locs hP hD hS
  · refine lv_iconst (v := (-1)) hx hb dX11_settle_11 (by decide) ?_
    exact y_ir K hP hD hS (Nat.le_of_ble_eq_true rfl) (Nat.le_of_ble_eq_true rfl) (ty := .int) rfl rfl dX11_settle_12 (⟨v50, gf, f51, f52, f53, f54, f56, f57, f58, f59, (-1), rfl, by omega, kp0, c90, c917, c918, c919, c920, c921, c922, c923, c924⟩)
