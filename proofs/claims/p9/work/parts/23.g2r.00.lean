set_option maxHeartbeats 4000000 in
set_option maxRecDepth 100000 in
theorem m_show (l : Launch) (D : va_G) (cy : Nat → ClassId) (sk sv : Nat → Nat) (w : Wd) (tg : Nat → Nat) (y m2 m3 m4 m5 m6 m8 m9 m10 m11 m12 m13 m14 m17 m18 m19 m20 m21 m22 m23 m24 m29 m30 m31 m32 m33 m34 m35 m36 m37 m39 m40 m41 m42 m43 m44 m45 m46 m47 m48 m49 m51 m52 m53 m54 m56 m57 m58 m59 pc ac sc ln sh gf : Nat) (v0 td v26 v27 v28 v50 : Int32) (f5 : Nat → Int32) (f6 : Nat → Int32) (f8 : Nat → Int32) (f9 : Nat → Int32) (f10 : Nat → Int32) (f11 : Nat → Int32) (f12 : Nat → Int32) (f13 : Nat → Int32) (f14 : Nat → Int32) (f17 : Nat → Int32) (f18 : Nat → Int32) (f19 : Nat → Int32) (f20 : Nat → Int32) (f21 : Nat → Int32) (f22 : Nat → Int32) (f29 : Nat → Int32) (f30 : Nat → Int32) (f31 : Nat → Int32) (f32 : Nat → Int32) (f33 : Nat → Int32) (f34 : Nat → Int32) (f39 : Nat → Int32) (f40 : Nat → Int32) (f41 : Nat → Int32) (f42 : Nat → Int32) (f43 : Nat → Int32) (f44 : Nat → Int32) (f45 : Nat → Int32) (f46 : Nat → Int32) (f47 : Nat → Int32) (f48 : Nat → Int64) (qp : Nat → Option Nat) (pr : Nat → Nat) (fp : Nat → Nat → Int32) (qw : Nat → Option Nat) (wr : Nat → Nat) (fw : Nat → Nat → Int32) (qs : Nat → Option Nat) (sr : Nat → Nat) (fs : Nat → Nat → Int32) (x1 x2 x3 x4 x5 x6 : Int32) (c90 : wd_at w y (.inr (11, [.int v0, .int td, .ref m2, .ref m3, .ref m4, .ref m5, .ref m6, .int (nI pc), .ref m8, .ref m9, .ref m10, .ref m11, .ref m12, .ref m13, .ref m14, .int (nI ac), .int (nI sc), .ref m17, .ref m18, .ref m19, .ref m20, .ref m21, .ref m22, .ref m23, .ref m24, .int (nI ln), .int v26, .int v27, .int v28, .ref m29, .ref m30, .ref m31, .ref m32, .ref m33, .ref m34, .ref m35, .ref m36, .ref m37, .int (nI sh), .ref m39, .ref m40, .ref m41, .ref m42, .ref m43, .ref m44, .ref m45, .ref m46, .ref m47, .ref m48, .ref m49, .int v50, .ref m51, .ref m52, .ref m53, .ref m54, .int (nI gf), .ref m56, .ref m57, .ref m58, .ref m59]))) (c91 : wd_at w m5 (.inl (cy 2, 12, .inl f5))) (c92 : wd_at w m6 (.inl (cy 2, 12, .inl f6))) (c93 : wd_at w m8 (.inl (cy 2, 30, .inl f8))) (c94 : wd_at w m9 (.inl (cy 2, 30, .inl f9))) (c95 : wd_at w m10 (.inl (cy 2, 30, .inl f10))) (c96 : wd_at w m11 (.inl (cy 2, 30, .inl f11))) (c97 : wd_at w m12 (.inl (cy 2, 30, .inl f12))) (c98 : wd_at w m13 (.inl (cy 2, 30, .inl f13))) (c99 : wd_at w m14 (.inl (cy 2, 30, .inl f14))) (c910 : wd_at w m17 (.inl (cy 2, 60, .inl f17))) (c911 : wd_at w m18 (.inl (cy 2, 60, .inl f18))) (c912 : wd_at w m19 (.inl (cy 2, 60, .inl f19))) (c913 : wd_at w m20 (.inl (cy 4, 60, .inl f20))) (c914 : wd_at w m21 (.inl (cy 2, 60, .inl f21))) (c915 : wd_at w m22 (.inl (cy 2, 60, .inl f22))) (c916 : wd_at w m29 (.inl (cy 2, 12, .inl f29))) (c917 : wd_at w m30 (.inl (cy 2, 156, .inl f30))) (c918 : wd_at w m31 (.inl (cy 2, 156, .inl f31))) (c919 : wd_at w m32 (.inl (cy 2, 936, .inl f32))) (c920 : wd_at w m33 (.inl (cy 2, 936, .inl f33))) (c921 : wd_at w m34 (.inl (cy 2, 936, .inl f34))) (c922 : wd_at w m39 (.inl (cy 2, 200, .inl f39))) (c923 : wd_at w m40 (.inl (cy 2, 200, .inl f40))) (c924 : wd_at w m41 (.inl (cy 2, 200, .inl f41))) (c925 : wd_at w m42 (.inl (cy 2, 200, .inl f42))) (c926 : wd_at w m43 (.inl (cy 2, 200, .inl f43))) (c927 : wd_at w m44 (.inl (cy 2, 200, .inl f44))) (c928 : wd_at w m45 (.inl (cy 2, 200, .inl f45))) (c929 : wd_at w m46 (.inl (cy 2, 200, .inl f46))) (c930 : wd_at w m47 (.inl (cy 2, 200, .inl f47))) (c931 : wd_at w m48 (.inl (cy 3, 200, .inr (.inl f48)))) (c932 : wd_at w m2 (.inl (cy 10, 12, .inr (.inr (.inr (.inr qp)))))) (c933 : wd_at w m3 (.inl (cy 10, 12, .inr (.inr (.inr (.inr qw)))))) (c934 : wd_at w m23 (.inl (cy 10, 60, .inr (.inr (.inr (.inr qs)))))) (hFPR : ∀ k9, k9 < 12 → qp k9 = some (pr k9) ∧ wd_at w (pr k9) (.inl (cy 2, 12, .inl (fp k9))) ∧ tg (pr k9) = 11000 + k9) (hFWR : ∀ k9, k9 < 12 → qw k9 = some (wr k9) ∧ wd_at w (wr k9) (.inl (cy 2, 12, .inl (fw k9))) ∧ tg (wr k9) = 12000 + k9) (hFSR : ∀ k9, k9 < 60 → qs k9 = some (sr k9) ∧ wd_at w (sr k9) (.inl (cy 2, 12, .inl (fs k9))) ∧ tg (sr k9) = 13000 + k9) (S : Nat → Prop) (s90 : S y) (s91 : S m6) (s92 : S m13) (s93 : S m14) (s94 : S m39) (s95 : S m40) (s96 : S m41) (s97 : S m42) (s98 : S m43) (s99 : S m44) (s910 : S m45) (s911 : S m46) (s912 : S m47) (s913 : S m48) (ty : tg y = 10000) (tm5 : tg m5 = 10105) (tm6 : tg m6 = 10106) (tm8 : tg m8 = 10108) (tm9 : tg m9 = 10109) (tm10 : tg m10 = 10110) (tm11 : tg m11 = 10111) (tm12 : tg m12 = 10112) (tm13 : tg m13 = 10113) (tm14 : tg m14 = 10114) (tm17 : tg m17 = 10117) (tm18 : tg m18 = 10118) (tm19 : tg m19 = 10119) (tm20 : tg m20 = 10120) (tm21 : tg m21 = 10121) (tm22 : tg m22 = 10122) (tm29 : tg m29 = 10129) (tm30 : tg m30 = 10130) (tm31 : tg m31 = 10131) (tm32 : tg m32 = 10132) (tm33 : tg m33 = 10133) (tm34 : tg m34 = 10134) (tm39 : tg m39 = 10139) (tm40 : tg m40 = 10140) (tm41 : tg m41 = 10141) (tm42 : tg m42 = 10142) (tm43 : tg m43 = 10143) (tm44 : tg m44 = 10144) (tm45 : tg m45 = 10145) (tm46 : tg m46 = 10146) (tm47 : tg m47 = 10147) (tm48 : tg m48 = 10148) (tm2 : tg m2 = 10102) (tm3 : tg m3 = 10103) (tm23 : tg m23 = 10123) (ht : bOK sh 12 f39) (hp : bOK sh 30 f40) (hsh : sh ≤ 200) (hac : ac ≤ 60) (hsc : sc ≤ 60) (hpc : pc ≤ 30) (hrl : bOK 12 13 f29) (hc : cOK f31) : Ct l D cy sk sv yX11_show wsX11_show ({ frames := 2, cells := 0, slots := 0, locals := 52 }) [.ref y, .int x1, .int x2, .int x3, .int x4, .int x5, .int x6] w (fun v w1 => ∃ (sh1 : Nat) (g6 : Nat → Int32) (g13 : Nat → Int32) (g14 : Nat → Int32) (g39 : Nat → Int32) (g40 : Nat → Int32) (g41 : Nat → Int32) (g42 : Nat → Int32) (g43 : Nat → Int32) (g44 : Nat → Int32) (g45 : Nat → Int32) (g46 : Nat → Int32) (g47 : Nat → Int32) (g48 : Nat → Int64) (r1 : Int32), v = some (.int r1) ∧ (bOK sh1 12 g39) ∧ (bOK sh1 30 g40) ∧ (sh1 ≤ 200) ∧ wd_kp S w w1 ∧ wd_at w1 y (.inr (11, [.int v0, .int td, .ref m2, .ref m3, .ref m4, .ref m5, .ref m6, .int (nI pc), .ref m8, .ref m9, .ref m10, .ref m11, .ref m12, .ref m13, .ref m14, .int (nI ac), .int (nI sc), .ref m17, .ref m18, .ref m19, .ref m20, .ref m21, .ref m22, .ref m23, .ref m24, .int (nI ln), .int v26, .int v27, .int v28, .ref m29, .ref m30, .ref m31, .ref m32, .ref m33, .ref m34, .ref m35, .ref m36, .ref m37, .int (nI sh1), .ref m39, .ref m40, .ref m41, .ref m42, .ref m43, .ref m44, .ref m45, .ref m46, .ref m47, .ref m48, .ref m49, .int v50, .ref m51, .ref m52, .ref m53, .ref m54, .int (nI gf), .ref m56, .ref m57, .ref m58, .ref m59])) ∧ wd_at w1 m6 (.inl (cy 2, 12, .inl g6)) ∧ wd_at w1 m13 (.inl (cy 2, 30, .inl g13)) ∧ wd_at w1 m14 (.inl (cy 2, 30, .inl g14)) ∧ wd_at w1 m39 (.inl (cy 2, 200, .inl g39)) ∧ wd_at w1 m40 (.inl (cy 2, 200, .inl g40)) ∧ wd_at w1 m41 (.inl (cy 2, 200, .inl g41)) ∧ wd_at w1 m42 (.inl (cy 2, 200, .inl g42)) ∧ wd_at w1 m43 (.inl (cy 2, 200, .inl g43)) ∧ wd_at w1 m44 (.inl (cy 2, 200, .inl g44)) ∧ wd_at w1 m45 (.inl (cy 2, 200, .inl g45)) ∧ wd_at w1 m46 (.inl (cy 2, 200, .inl g46)) ∧ wd_at w1 m47 (.inl (cy 2, 200, .inl g47)) ∧ wd_at w1 m48 (.inl (cy 3, 200, .inr (.inl g48)))) := by
  refine Ct.by (cc := cX11_show) (maxL := 15) (ret := (some .int)) (by decide +kernel) rfl (Nat.le_of_ble_eq_true rfl) ?_
  intro p e s m args below meth c A Q F hnm K ls hl
  have F : wd_Fx p s m args meth c cX11_show 15 wsX11_show RX11 D cy sk sv A := F
  have hl : lv_has ls 15 [(0, .ref y), (1, .int x1), (2, .int x2), (3, .int x3), (4, .int x4), (5, .int x5), (6, .int x6)] := hl
  have hx := F.1.1
  have hb := F.1.2.1
  have hown := F.1.2.2.2.1
  have hts := F.1.2.2.2.2
  intro H locs hP hD hS
  have kp0 : wd_kp S w w := wd_kp.rf
  refine lv_aload_n hx hb dX11_show_0 rfl (lv_at hl 0 rfl) ?_
  refine x_get (ref := "NoteHouseModel") F hP c90 rfl (fun _ h => List.mem_cons_of_mem _ (List.mem_append_right _ (h))) 38 (Nat.le_of_ble_eq_true rfl) (List.mem_cons_of_mem _ (List.mem_append_left _ (List.mem_append_left _ (List.mem_of_getElem? (i := 0) rfl)))) rfl rfl dX11_show_1 ?_
  refine lv_sipush (v := 200) hx hb dX11_show_4 (by decide) ?_
  refine lv_icmp_eq (tgt := 42) hx hb dX11_show_7 (by decide) (fun c_1 => ?_) (fun c_1 => ?_)
  · refine lv_iconst (v := (-1)) hx hb dX11_show_42 (by decide) ?_
    exact y_ir K hP hD hS (Nat.le_of_ble_eq_true rfl) (Nat.le_of_ble_eq_true rfl) (ty := .int) rfl rfl dX11_show_43 (⟨sh, f6, f13, f14, f39, f40, f41, f42, f43, f44, f45, f46, f47, f48, (-1), rfl, ht, hp, by omega, kp0, c90, c92, c98, c99, c922, c923, c924, c925, c926, c927, c928, c929, c930, c931⟩)
  · have hsh2 : sh < 200 := by have h9 : ¬ sh = 200 := fun q => c_1 (by rw [q]; rfl); omega
    refine lv_iload_n hx hb dX11_show_10 rfl (lv_at hl 1 rfl) ?_
    refine x_callS (n := 1) (As := [.int x1]) (rest := []) F hP hD hS (g_mTown l D cy sk sv w x1) gX11_show_X11_isTown rfl (by decide +kernel) ⟨(Nat.le_of_ble_eq_true rfl), (Nat.le_of_ble_eq_true rfl)⟩ rfl hl.1 (Nat.le_of_ble_eq_true rfl) dX11_show_11 rfl ⟨(Nat.le_of_ble_eq_true rfl), (Nat.le_of_ble_eq_true rfl)⟩ (fun v3 w4 hp2 H locs hP hD hS => ?_)
    obtain ⟨rfl, rfl⟩ := hp2
    refine W.eq (g2 := F0 m 14 ls [.int (wi x1 0 11)]) rfl (W.widen (k := 0) (n := 0) (Nat.le_of_ble_eq_true rfl) (Nat.le_of_ble_eq_true rfl) ?_)
    refine lv_if_eq (tgt := 42) hx hb dX11_show_14 (by decide) (fun c_5 => ?_) (fun c_5 => ?_)
    · refine lv_iconst (v := (-1)) hx hb dX11_show_42 (by decide) ?_
      exact y_ir K hP hD hS (Nat.le_of_ble_eq_true rfl) (Nat.le_of_ble_eq_true rfl) (ty := .int) rfl rfl dX11_show_43 (⟨sh, f6, f13, f14, f39, f40, f41, f42, f43, f44, f45, f46, f47, f48, (-1), rfl, ht, hp, by omega, kp0, c90, c92, c98, c99, c922, c923, c924, c925, c926, c927, c928, c929, c930, c931⟩)
    · obtain ⟨tw, htw, rfl, cltw⟩ := wi_t c_5
      refine lv_iload_n hx hb dX11_show_17 rfl (lv_at hl 2 rfl) ?_
      refine lv_iconst (v := 0) hx hb dX11_show_18 (by decide) ?_
      refine lv_aload_n hx hb dX11_show_19 rfl (lv_at hl 0 rfl) ?_
      refine x_get (ref := "NoteHouseModel") F hP c90 rfl (fun _ h => List.mem_cons_of_mem _ (List.mem_append_right _ (h))) 7 (Nat.le_of_ble_eq_true rfl) (List.mem_cons_of_mem _ (List.mem_append_left _ (List.mem_append_left _ (List.mem_of_getElem? (i := 1) rfl)))) rfl rfl dX11_show_20 ?_
      refine lv_iconst (v := 1) hx hb dX11_show_23 (by decide) ?_
      refine lv_isub hx hb dX11_show_24 ?_
      refine x_callS (n := 3) (As := [.int x2, .int 0, .int ((nI pc) - 1)]) (rest := []) F hP hD hS (g_in l D cy sk sv w x2 0 ((nI pc) - 1)) gX11_show_X11_in rfl (by decide +kernel) ⟨(Nat.le_of_ble_eq_true rfl), (Nat.le_of_ble_eq_true rfl)⟩ rfl hl.1 (Nat.le_of_ble_eq_true rfl) dX11_show_25 rfl ⟨(Nat.le_of_ble_eq_true rfl), (Nat.le_of_ble_eq_true rfl)⟩ (fun v7 w8 hp6 H locs hP hD hS => ?_)
      obtain ⟨rfl, rfl⟩ := hp6
      refine W.eq (g2 := F0 m 28 ls [.int (wi x2 0 ((nI pc) - 1))]) rfl (W.widen (k := 0) (n := 0) (Nat.le_of_ble_eq_true rfl) (Nat.le_of_ble_eq_true rfl) ?_)
      refine lv_if_eq (tgt := 42) hx hb dX11_show_28 (by decide) (fun c_9 => ?_) (fun c_9 => ?_)
      · refine lv_iconst (v := (-1)) hx hb dX11_show_42 (by decide) ?_
        exact y_ir K hP hD hS (Nat.le_of_ble_eq_true rfl) (Nat.le_of_ble_eq_true rfl) (ty := .int) rfl rfl dX11_show_43 (⟨sh, f6, f13, f14, f39, f40, f41, f42, f43, f44, f45, f46, f47, f48, (-1), rfl, ht, hp, by omega, kp0, c90, c92, c98, c99, c922, c923, c924, c925, c926, c927, c928, c929, c930, c931⟩)
      · obtain ⟨pp, hpp, rfl⟩ := pb_i (by omega) c_9
        refine lv_iload hx hb dX11_show_31 (lv_at hl 5 rfl) ?_
        refine lv_iconst (v := 0) hx hb dX11_show_33 (by decide) ?_
        refine lv_ldc (v := 99999) hx hb hown (hts _ (List.mem_cons_of_mem _ (List.mem_append_left _ (List.mem_append_left _ (List.mem_of_getElem? (i := 2) rfl))))) dX11_show_34 ?_
        refine x_callS (n := 3) (As := [.int x5, .int 0, .int 99999]) (rest := []) F hP hD hS (g_in l D cy sk sv w x5 0 99999) gX11_show_X11_in rfl (by decide +kernel) ⟨(Nat.le_of_ble_eq_true rfl), (Nat.le_of_ble_eq_true rfl)⟩ rfl hl.1 (Nat.le_of_ble_eq_true rfl) dX11_show_36 rfl ⟨(Nat.le_of_ble_eq_true rfl), (Nat.le_of_ble_eq_true rfl)⟩ (fun v11 w12 hp10 H locs hP hD hS => ?_)
        obtain ⟨rfl, rfl⟩ := hp10
        refine W.eq (g2 := F0 m 39 ls [.int (wi x5 0 99999)]) rfl (W.widen (k := 0) (n := 0) (Nat.le_of_ble_eq_true rfl) (Nat.le_of_ble_eq_true rfl) ?_)
        refine lv_if_ne (tgt := 44) hx hb dX11_show_39 (by decide) (fun c_13 => ?_) (fun c_13 => ?_)
        · have jn120 : ∀ (bk : Int32) (vv : Int32) (ls : Array Slot), lv_has ls 15 [(0, .ref y), (1, .int (nI tw)), (2, .int (nI pp)), (3, .int x3), (4, .int x4), (5, .int x5), (6, .int x6), (7, .int bk), (8, .int vv)] → Wv p l e ({ frames := 2, cells := 0, slots := 0, locals := 52 }) s m args below meth c D A (0) (0) Q w (F0 m 120 ls []) := by
            intro bk vv ls hl H locs hP hD hS
            obtain ⟨ru, hru, eru⟩ := hrl tw (by omega)
            have jn329 : ∀ (fdj : Int32) (ddj : Int32) (ls : Array Slot), lv_has ls 15 [(0, .ref y), (1, .int (nI tw)), (2, .int (nI pp)), (3, .int x3), (4, .int x4), (5, .int x5), (6, .int x6), (7, .int bk), (8, .int vv), (9, .int fdj), (10, .int ddj)] → Wv p l e ({ frames := 2, cells := 0, slots := 0, locals := 52 }) s m args below meth c D A (0) (0) Q w (F0 m 329 ls []) := by
              intro fdj ddj ls hl H locs hP hD hS
              refine lv_aload_n hx hb dX11_show_329 rfl (lv_at hl 0 rfl) ?_
              refine x_get (ref := "NoteHouseModel") F hP c90 rfl (fun _ h => List.mem_cons_of_mem _ (List.mem_append_right _ (h))) 39 (Nat.le_of_ble_eq_true rfl) (List.mem_cons_of_mem _ (List.mem_append_left _ (List.mem_append_left _ (List.mem_of_getElem? (i := 12) rfl)))) rfl rfl dX11_show_330 ?_
              refine lv_aload_n hx hb dX11_show_333 rfl (lv_at hl 0 rfl) ?_
              refine x_get (ref := "NoteHouseModel") F hP c90 rfl (fun _ h => List.mem_cons_of_mem _ (List.mem_append_right _ (h))) 38 (Nat.le_of_ble_eq_true rfl) (List.mem_cons_of_mem _ (List.mem_append_left _ (List.mem_append_left _ (List.mem_of_getElem? (i := 0) rfl)))) rfl rfl dX11_show_334 ?_
              refine lv_iload_n hx hb dX11_show_337 rfl (lv_at hl 1 rfl) ?_
              refine y_iast F hP hD hS c922 (vp_in_nI (n := sh) (N := 200) (by omega) (by decide)) dX11_show_338 (fun w14 ew15 H locs hP hD hS => ?_)
              have k16 := wd_at.pt ew15 c90 (tg_ne ty tm39 (by decide))
              have k17 := wd_at.pt ew15 c91 (tg_ne tm5 tm39 (by decide))
              have k18 := wd_at.pt ew15 c92 (tg_ne tm6 tm39 (by decide))
              have k19 := wd_at.pt ew15 c93 (tg_ne tm8 tm39 (by decide))
              have k20 := wd_at.pt ew15 c94 (tg_ne tm9 tm39 (by decide))
              have k21 := wd_at.pt ew15 c95 (tg_ne tm10 tm39 (by decide))
              have k22 := wd_at.pt ew15 c96 (tg_ne tm11 tm39 (by decide))
              have k23 := wd_at.pt ew15 c97 (tg_ne tm12 tm39 (by decide))
              have k24 := wd_at.pt ew15 c98 (tg_ne tm13 tm39 (by decide))
              have k25 := wd_at.pt ew15 c99 (tg_ne tm14 tm39 (by decide))
              have k26 := wd_at.pt ew15 c910 (tg_ne tm17 tm39 (by decide))
              have k27 := wd_at.pt ew15 c911 (tg_ne tm18 tm39 (by decide))
              have k28 := wd_at.pt ew15 c912 (tg_ne tm19 tm39 (by decide))
              have k29 := wd_at.pt ew15 c913 (tg_ne tm20 tm39 (by decide))
              have k30 := wd_at.pt ew15 c914 (tg_ne tm21 tm39 (by decide))
              have k31 := wd_at.pt ew15 c915 (tg_ne tm22 tm39 (by decide))
              have k32 := wd_at.pt ew15 c916 (tg_ne tm29 tm39 (by decide))
              have k33 := wd_at.pt ew15 c917 (tg_ne tm30 tm39 (by decide))
              have k34 := wd_at.pt ew15 c918 (tg_ne tm31 tm39 (by decide))
              have k35 := wd_at.pt ew15 c919 (tg_ne tm32 tm39 (by decide))
              have k36 := wd_at.pt ew15 c920 (tg_ne tm33 tm39 (by decide))
              have k37 := wd_at.pt ew15 c921 (tg_ne tm34 tm39 (by decide))
              have k38 : wd_at w14 m39 (.inl (cy 2, 200, .inl (upd f39 (nI sh).toNatClampNeg (nI tw)))) := wd_at.ps ew15 c922
              have k39 := wd_at.pt ew15 c923 (tg_ne tm40 tm39 (by decide))
              have k40 := wd_at.pt ew15 c924 (tg_ne tm41 tm39 (by decide))
              have k41 := wd_at.pt ew15 c925 (tg_ne tm42 tm39 (by decide))
              have k42 := wd_at.pt ew15 c926 (tg_ne tm43 tm39 (by decide))
              have k43 := wd_at.pt ew15 c927 (tg_ne tm44 tm39 (by decide))
              have k44 := wd_at.pt ew15 c928 (tg_ne tm45 tm39 (by decide))
              have k45 := wd_at.pt ew15 c929 (tg_ne tm46 tm39 (by decide))
              have k46 := wd_at.pt ew15 c930 (tg_ne tm47 tm39 (by decide))
              have k47 := wd_at.pt ew15 c931 (tg_ne tm48 tm39 (by decide))
              have k48 := wd_at.pt ew15 c932 (tg_ne tm2 tm39 (by decide))
              have k49 := wd_at.pt ew15 c933 (tg_ne tm3 tm39 (by decide))
              have k50 := wd_at.pt ew15 c934 (tg_ne tm23 tm39 (by decide))
              have fm51 : ∀ k9, k9 < 12 → qp k9 = some (pr k9) ∧ wd_at w14 (pr k9) (.inl (cy 2, 12, .inl (fp k9))) ∧ tg (pr k9) = 11000 + k9 := fun k9 hi9 => ⟨(hFPR k9 hi9).1, wd_at.pt ew15 (hFPR k9 hi9).2.1 (tg_ne (hFPR k9 hi9).2.2 tm39 (tnA (show 10139 < 11000 by decide))), (hFPR k9 hi9).2.2⟩
              have fm52 : ∀ k9, k9 < 12 → qw k9 = some (wr k9) ∧ wd_at w14 (wr k9) (.inl (cy 2, 12, .inl (fw k9))) ∧ tg (wr k9) = 12000 + k9 := fun k9 hi9 => ⟨(hFWR k9 hi9).1, wd_at.pt ew15 (hFWR k9 hi9).2.1 (tg_ne (hFWR k9 hi9).2.2 tm39 (tnA (show 10139 < 12000 by decide))), (hFWR k9 hi9).2.2⟩
              have fm53 : ∀ k9, k9 < 60 → qs k9 = some (sr k9) ∧ wd_at w14 (sr k9) (.inl (cy 2, 12, .inl (fs k9))) ∧ tg (sr k9) = 13000 + k9 := fun k9 hi9 => ⟨(hFSR k9 hi9).1, wd_at.pt ew15 (hFSR k9 hi9).2.1 (tg_ne (hFSR k9 hi9).2.2 tm39 (tnA (show 10139 < 13000 by decide))), (hFSR k9 hi9).2.2⟩
              have kp54 := kp0.put ew15 s94
              refine lv_aload_n hx hb dX11_show_339 rfl (lv_at hl 0 rfl) ?_
              refine x_get (ref := "NoteHouseModel") F hP k16 rfl (fun _ h => List.mem_cons_of_mem _ (List.mem_append_right _ (h))) 40 (Nat.le_of_ble_eq_true rfl) (List.mem_cons_of_mem _ (List.mem_append_left _ (List.mem_append_left _ (List.mem_of_getElem? (i := 13) rfl)))) rfl rfl dX11_show_340 ?_
              refine lv_aload_n hx hb dX11_show_343 rfl (lv_at hl 0 rfl) ?_
              refine x_get (ref := "NoteHouseModel") F hP k16 rfl (fun _ h => List.mem_cons_of_mem _ (List.mem_append_right _ (h))) 38 (Nat.le_of_ble_eq_true rfl) (List.mem_cons_of_mem _ (List.mem_append_left _ (List.mem_append_left _ (List.mem_of_getElem? (i := 0) rfl)))) rfl rfl dX11_show_344 ?_
              refine lv_iload_n hx hb dX11_show_347 rfl (lv_at hl 2 rfl) ?_
              refine y_iast F hP hD hS k39 (vp_in_nI (n := sh) (N := 200) (by omega) (by decide)) dX11_show_348 (fun w55 ew56 H locs hP hD hS => ?_)
              have k57 := wd_at.pt ew56 k16 (tg_ne ty tm40 (by decide))
              have k58 := wd_at.pt ew56 k17 (tg_ne tm5 tm40 (by decide))
              have k59 := wd_at.pt ew56 k18 (tg_ne tm6 tm40 (by decide))
              have k60 := wd_at.pt ew56 k19 (tg_ne tm8 tm40 (by decide))
              have k61 := wd_at.pt ew56 k20 (tg_ne tm9 tm40 (by decide))
              have k62 := wd_at.pt ew56 k21 (tg_ne tm10 tm40 (by decide))
              have k63 := wd_at.pt ew56 k22 (tg_ne tm11 tm40 (by decide))
              have k64 := wd_at.pt ew56 k23 (tg_ne tm12 tm40 (by decide))
              have k65 := wd_at.pt ew56 k24 (tg_ne tm13 tm40 (by decide))
              have k66 := wd_at.pt ew56 k25 (tg_ne tm14 tm40 (by decide))
              have k67 := wd_at.pt ew56 k26 (tg_ne tm17 tm40 (by decide))
              have k68 := wd_at.pt ew56 k27 (tg_ne tm18 tm40 (by decide))
              have k69 := wd_at.pt ew56 k28 (tg_ne tm19 tm40 (by decide))
              have k70 := wd_at.pt ew56 k29 (tg_ne tm20 tm40 (by decide))
              have k71 := wd_at.pt ew56 k30 (tg_ne tm21 tm40 (by decide))
              have k72 := wd_at.pt ew56 k31 (tg_ne tm22 tm40 (by decide))
              have k73 := wd_at.pt ew56 k32 (tg_ne tm29 tm40 (by decide))
              have k74 := wd_at.pt ew56 k33 (tg_ne tm30 tm40 (by decide))
              have k75 := wd_at.pt ew56 k34 (tg_ne tm31 tm40 (by decide))
              have k76 := wd_at.pt ew56 k35 (tg_ne tm32 tm40 (by decide))
              have k77 := wd_at.pt ew56 k36 (tg_ne tm33 tm40 (by decide))
              have k78 := wd_at.pt ew56 k37 (tg_ne tm34 tm40 (by decide))
              have k79 := wd_at.pt ew56 k38 (tg_ne tm39 tm40 (by decide))
              have k80 : wd_at w55 m40 (.inl (cy 2, 200, .inl (upd f40 (nI sh).toNatClampNeg (nI pp)))) := wd_at.ps ew56 k39
              have k81 := wd_at.pt ew56 k40 (tg_ne tm41 tm40 (by decide))
              have k82 := wd_at.pt ew56 k41 (tg_ne tm42 tm40 (by decide))
              have k83 := wd_at.pt ew56 k42 (tg_ne tm43 tm40 (by decide))
              have k84 := wd_at.pt ew56 k43 (tg_ne tm44 tm40 (by decide))
              have k85 := wd_at.pt ew56 k44 (tg_ne tm45 tm40 (by decide))
              have k86 := wd_at.pt ew56 k45 (tg_ne tm46 tm40 (by decide))
              have k87 := wd_at.pt ew56 k46 (tg_ne tm47 tm40 (by decide))
              have k88 := wd_at.pt ew56 k47 (tg_ne tm48 tm40 (by decide))
              have k89 := wd_at.pt ew56 k48 (tg_ne tm2 tm40 (by decide))
              have k90 := wd_at.pt ew56 k49 (tg_ne tm3 tm40 (by decide))
              have k91 := wd_at.pt ew56 k50 (tg_ne tm23 tm40 (by decide))
              have fm92 : ∀ k9, k9 < 12 → qp k9 = some (pr k9) ∧ wd_at w55 (pr k9) (.inl (cy 2, 12, .inl (fp k9))) ∧ tg (pr k9) = 11000 + k9 := fun k9 hi9 => ⟨(fm51 k9 hi9).1, wd_at.pt ew56 (fm51 k9 hi9).2.1 (tg_ne (fm51 k9 hi9).2.2 tm40 (tnA (show 10140 < 11000 by decide))), (fm51 k9 hi9).2.2⟩
              have fm93 : ∀ k9, k9 < 12 → qw k9 = some (wr k9) ∧ wd_at w55 (wr k9) (.inl (cy 2, 12, .inl (fw k9))) ∧ tg (wr k9) = 12000 + k9 := fun k9 hi9 => ⟨(fm52 k9 hi9).1, wd_at.pt ew56 (fm52 k9 hi9).2.1 (tg_ne (fm52 k9 hi9).2.2 tm40 (tnA (show 10140 < 12000 by decide))), (fm52 k9 hi9).2.2⟩
              have fm94 : ∀ k9, k9 < 60 → qs k9 = some (sr k9) ∧ wd_at w55 (sr k9) (.inl (cy 2, 12, .inl (fs k9))) ∧ tg (sr k9) = 13000 + k9 := fun k9 hi9 => ⟨(fm53 k9 hi9).1, wd_at.pt ew56 (fm53 k9 hi9).2.1 (tg_ne (fm53 k9 hi9).2.2 tm40 (tnA (show 10140 < 13000 by decide))), (fm53 k9 hi9).2.2⟩
              have kp95 := kp54.put ew56 s95
              refine lv_aload_n hx hb dX11_show_349 rfl (lv_at hl 0 rfl) ?_
              refine x_get (ref := "NoteHouseModel") F hP k57 rfl (fun _ h => List.mem_cons_of_mem _ (List.mem_append_right _ (h))) 41 (Nat.le_of_ble_eq_true rfl) (List.mem_cons_of_mem _ (List.mem_append_left _ (List.mem_append_left _ (List.mem_of_getElem? (i := 14) rfl)))) rfl rfl dX11_show_350 ?_
              refine lv_aload_n hx hb dX11_show_353 rfl (lv_at hl 0 rfl) ?_
              refine x_get (ref := "NoteHouseModel") F hP k57 rfl (fun _ h => List.mem_cons_of_mem _ (List.mem_append_right _ (h))) 38 (Nat.le_of_ble_eq_true rfl) (List.mem_cons_of_mem _ (List.mem_append_left _ (List.mem_append_left _ (List.mem_of_getElem? (i := 0) rfl)))) rfl rfl dX11_show_354 ?_
              refine lv_iload_n hx hb dX11_show_357 rfl (lv_at hl 3 rfl) ?_
              refine y_iast F hP hD hS k81 (vp_in_nI (n := sh) (N := 200) (by omega) (by decide)) dX11_show_358 (fun w96 ew97 H locs hP hD hS => ?_)
              have k98 := wd_at.pt ew97 k57 (tg_ne ty tm41 (by decide))
              have k99 := wd_at.pt ew97 k58 (tg_ne tm5 tm41 (by decide))
              have k100 := wd_at.pt ew97 k59 (tg_ne tm6 tm41 (by decide))
              have k101 := wd_at.pt ew97 k60 (tg_ne tm8 tm41 (by decide))
              have k102 := wd_at.pt ew97 k61 (tg_ne tm9 tm41 (by decide))
              have k103 := wd_at.pt ew97 k62 (tg_ne tm10 tm41 (by decide))
              have k104 := wd_at.pt ew97 k63 (tg_ne tm11 tm41 (by decide))
              have k105 := wd_at.pt ew97 k64 (tg_ne tm12 tm41 (by decide))
              have k106 := wd_at.pt ew97 k65 (tg_ne tm13 tm41 (by decide))
              have k107 := wd_at.pt ew97 k66 (tg_ne tm14 tm41 (by decide))
              have k108 := wd_at.pt ew97 k67 (tg_ne tm17 tm41 (by decide))
              have k109 := wd_at.pt ew97 k68 (tg_ne tm18 tm41 (by decide))
              have k110 := wd_at.pt ew97 k69 (tg_ne tm19 tm41 (by decide))
              have k111 := wd_at.pt ew97 k70 (tg_ne tm20 tm41 (by decide))
              have k112 := wd_at.pt ew97 k71 (tg_ne tm21 tm41 (by decide))
              have k113 := wd_at.pt ew97 k72 (tg_ne tm22 tm41 (by decide))
              have k114 := wd_at.pt ew97 k73 (tg_ne tm29 tm41 (by decide))
              have k115 := wd_at.pt ew97 k74 (tg_ne tm30 tm41 (by decide))
              have k116 := wd_at.pt ew97 k75 (tg_ne tm31 tm41 (by decide))
              have k117 := wd_at.pt ew97 k76 (tg_ne tm32 tm41 (by decide))
              have k118 := wd_at.pt ew97 k77 (tg_ne tm33 tm41 (by decide))
              have k119 := wd_at.pt ew97 k78 (tg_ne tm34 tm41 (by decide))
              have k120 := wd_at.pt ew97 k79 (tg_ne tm39 tm41 (by decide))
              have k121 := wd_at.pt ew97 k80 (tg_ne tm40 tm41 (by decide))
              have k122 : wd_at w96 m41 (.inl (cy 2, 200, .inl (upd f41 (nI sh).toNatClampNeg x3))) := wd_at.ps ew97 k81
              have k123 := wd_at.pt ew97 k82 (tg_ne tm42 tm41 (by decide))
              have k124 := wd_at.pt ew97 k83 (tg_ne tm43 tm41 (by decide))
              have k125 := wd_at.pt ew97 k84 (tg_ne tm44 tm41 (by decide))
              have k126 := wd_at.pt ew97 k85 (tg_ne tm45 tm41 (by decide))
              have k127 := wd_at.pt ew97 k86 (tg_ne tm46 tm41 (by decide))
              have k128 := wd_at.pt ew97 k87 (tg_ne tm47 tm41 (by decide))
              have k129 := wd_at.pt ew97 k88 (tg_ne tm48 tm41 (by decide))
              have k130 := wd_at.pt ew97 k89 (tg_ne tm2 tm41 (by decide))
              have k131 := wd_at.pt ew97 k90 (tg_ne tm3 tm41 (by decide))
              have k132 := wd_at.pt ew97 k91 (tg_ne tm23 tm41 (by decide))
              have fm133 : ∀ k9, k9 < 12 → qp k9 = some (pr k9) ∧ wd_at w96 (pr k9) (.inl (cy 2, 12, .inl (fp k9))) ∧ tg (pr k9) = 11000 + k9 := fun k9 hi9 => ⟨(fm92 k9 hi9).1, wd_at.pt ew97 (fm92 k9 hi9).2.1 (tg_ne (fm92 k9 hi9).2.2 tm41 (tnA (show 10141 < 11000 by decide))), (fm92 k9 hi9).2.2⟩
              have fm134 : ∀ k9, k9 < 12 → qw k9 = some (wr k9) ∧ wd_at w96 (wr k9) (.inl (cy 2, 12, .inl (fw k9))) ∧ tg (wr k9) = 12000 + k9 := fun k9 hi9 => ⟨(fm93 k9 hi9).1, wd_at.pt ew97 (fm93 k9 hi9).2.1 (tg_ne (fm93 k9 hi9).2.2 tm41 (tnA (show 10141 < 12000 by decide))), (fm93 k9 hi9).2.2⟩
              have fm135 : ∀ k9, k9 < 60 → qs k9 = some (sr k9) ∧ wd_at w96 (sr k9) (.inl (cy 2, 12, .inl (fs k9))) ∧ tg (sr k9) = 13000 + k9 := fun k9 hi9 => ⟨(fm94 k9 hi9).1, wd_at.pt ew97 (fm94 k9 hi9).2.1 (tg_ne (fm94 k9 hi9).2.2 tm41 (tnA (show 10141 < 13000 by decide))), (fm94 k9 hi9).2.2⟩
              have kp136 := kp95.put ew97 s96
              refine lv_aload_n hx hb dX11_show_359 rfl (lv_at hl 0 rfl) ?_
              refine x_get (ref := "NoteHouseModel") F hP k98 rfl (fun _ h => List.mem_cons_of_mem _ (List.mem_append_right _ (h))) 42 (Nat.le_of_ble_eq_true rfl) (List.mem_cons_of_mem _ (List.mem_append_left _ (List.mem_append_left _ (List.mem_of_getElem? (i := 15) rfl)))) rfl rfl dX11_show_360 ?_
              refine lv_aload_n hx hb dX11_show_363 rfl (lv_at hl 0 rfl) ?_
              refine x_get (ref := "NoteHouseModel") F hP k98 rfl (fun _ h => List.mem_cons_of_mem _ (List.mem_append_right _ (h))) 38 (Nat.le_of_ble_eq_true rfl) (List.mem_cons_of_mem _ (List.mem_append_left _ (List.mem_append_left _ (List.mem_of_getElem? (i := 0) rfl)))) rfl rfl dX11_show_364 ?_
              refine lv_iload hx hb dX11_show_367 (lv_at hl 8 rfl) ?_
              refine y_iast F hP hD hS k123 (vp_in_nI (n := sh) (N := 200) (by omega) (by decide)) dX11_show_369 (fun w137 ew138 H locs hP hD hS => ?_)
              have k139 := wd_at.pt ew138 k98 (tg_ne ty tm42 (by decide))
              have k140 := wd_at.pt ew138 k99 (tg_ne tm5 tm42 (by decide))
              have k141 := wd_at.pt ew138 k100 (tg_ne tm6 tm42 (by decide))
              have k142 := wd_at.pt ew138 k101 (tg_ne tm8 tm42 (by decide))
              have k143 := wd_at.pt ew138 k102 (tg_ne tm9 tm42 (by decide))
              have k144 := wd_at.pt ew138 k103 (tg_ne tm10 tm42 (by decide))
              have k145 := wd_at.pt ew138 k104 (tg_ne tm11 tm42 (by decide))
              have k146 := wd_at.pt ew138 k105 (tg_ne tm12 tm42 (by decide))
              have k147 := wd_at.pt ew138 k106 (tg_ne tm13 tm42 (by decide))
              have k148 := wd_at.pt ew138 k107 (tg_ne tm14 tm42 (by decide))
              have k149 := wd_at.pt ew138 k108 (tg_ne tm17 tm42 (by decide))
              have k150 := wd_at.pt ew138 k109 (tg_ne tm18 tm42 (by decide))
              have k151 := wd_at.pt ew138 k110 (tg_ne tm19 tm42 (by decide))
              have k152 := wd_at.pt ew138 k111 (tg_ne tm20 tm42 (by decide))
              have k153 := wd_at.pt ew138 k112 (tg_ne tm21 tm42 (by decide))
              have k154 := wd_at.pt ew138 k113 (tg_ne tm22 tm42 (by decide))
              have k155 := wd_at.pt ew138 k114 (tg_ne tm29 tm42 (by decide))
              have k156 := wd_at.pt ew138 k115 (tg_ne tm30 tm42 (by decide))
              have k157 := wd_at.pt ew138 k116 (tg_ne tm31 tm42 (by decide))
              have k158 := wd_at.pt ew138 k117 (tg_ne tm32 tm42 (by decide))
              have k159 := wd_at.pt ew138 k118 (tg_ne tm33 tm42 (by decide))
              have k160 := wd_at.pt ew138 k119 (tg_ne tm34 tm42 (by decide))
              have k161 := wd_at.pt ew138 k120 (tg_ne tm39 tm42 (by decide))
              have k162 := wd_at.pt ew138 k121 (tg_ne tm40 tm42 (by decide))
              have k163 := wd_at.pt ew138 k122 (tg_ne tm41 tm42 (by decide))
              have k164 : wd_at w137 m42 (.inl (cy 2, 200, .inl (upd f42 (nI sh).toNatClampNeg vv))) := wd_at.ps ew138 k123
              have k165 := wd_at.pt ew138 k124 (tg_ne tm43 tm42 (by decide))
              have k166 := wd_at.pt ew138 k125 (tg_ne tm44 tm42 (by decide))
              have k167 := wd_at.pt ew138 k126 (tg_ne tm45 tm42 (by decide))
              have k168 := wd_at.pt ew138 k127 (tg_ne tm46 tm42 (by decide))
              have k169 := wd_at.pt ew138 k128 (tg_ne tm47 tm42 (by decide))
              have k170 := wd_at.pt ew138 k129 (tg_ne tm48 tm42 (by decide))
              have k171 := wd_at.pt ew138 k130 (tg_ne tm2 tm42 (by decide))
              have k172 := wd_at.pt ew138 k131 (tg_ne tm3 tm42 (by decide))
              have k173 := wd_at.pt ew138 k132 (tg_ne tm23 tm42 (by decide))
              have fm174 : ∀ k9, k9 < 12 → qp k9 = some (pr k9) ∧ wd_at w137 (pr k9) (.inl (cy 2, 12, .inl (fp k9))) ∧ tg (pr k9) = 11000 + k9 := fun k9 hi9 => ⟨(fm133 k9 hi9).1, wd_at.pt ew138 (fm133 k9 hi9).2.1 (tg_ne (fm133 k9 hi9).2.2 tm42 (tnA (show 10142 < 11000 by decide))), (fm133 k9 hi9).2.2⟩
              have fm175 : ∀ k9, k9 < 12 → qw k9 = some (wr k9) ∧ wd_at w137 (wr k9) (.inl (cy 2, 12, .inl (fw k9))) ∧ tg (wr k9) = 12000 + k9 := fun k9 hi9 => ⟨(fm134 k9 hi9).1, wd_at.pt ew138 (fm134 k9 hi9).2.1 (tg_ne (fm134 k9 hi9).2.2 tm42 (tnA (show 10142 < 12000 by decide))), (fm134 k9 hi9).2.2⟩
              have fm176 : ∀ k9, k9 < 60 → qs k9 = some (sr k9) ∧ wd_at w137 (sr k9) (.inl (cy 2, 12, .inl (fs k9))) ∧ tg (sr k9) = 13000 + k9 := fun k9 hi9 => ⟨(fm135 k9 hi9).1, wd_at.pt ew138 (fm135 k9 hi9).2.1 (tg_ne (fm135 k9 hi9).2.2 tm42 (tnA (show 10142 < 13000 by decide))), (fm135 k9 hi9).2.2⟩
              have kp177 := kp136.put ew138 s97
              refine lv_aload_n hx hb dX11_show_370 rfl (lv_at hl 0 rfl) ?_
              refine x_get (ref := "NoteHouseModel") F hP k139 rfl (fun _ h => List.mem_cons_of_mem _ (List.mem_append_right _ (h))) 43 (Nat.le_of_ble_eq_true rfl) (List.mem_cons_of_mem _ (List.mem_append_left _ (List.mem_append_left _ (List.mem_of_getElem? (i := 16) rfl)))) rfl rfl dX11_show_371 ?_
              refine lv_aload_n hx hb dX11_show_374 rfl (lv_at hl 0 rfl) ?_
              refine x_get (ref := "NoteHouseModel") F hP k139 rfl (fun _ h => List.mem_cons_of_mem _ (List.mem_append_right _ (h))) 38 (Nat.le_of_ble_eq_true rfl) (List.mem_cons_of_mem _ (List.mem_append_left _ (List.mem_append_left _ (List.mem_of_getElem? (i := 0) rfl)))) rfl rfl dX11_show_375 ?_
              refine lv_iload hx hb dX11_show_378 (lv_at hl 5 rfl) ?_
              refine y_iast F hP hD hS k165 (vp_in_nI (n := sh) (N := 200) (by omega) (by decide)) dX11_show_380 (fun w178 ew179 H locs hP hD hS => ?_)
              have k180 := wd_at.pt ew179 k139 (tg_ne ty tm43 (by decide))
              have k181 := wd_at.pt ew179 k140 (tg_ne tm5 tm43 (by decide))
              have k182 := wd_at.pt ew179 k141 (tg_ne tm6 tm43 (by decide))
              have k183 := wd_at.pt ew179 k142 (tg_ne tm8 tm43 (by decide))
              have k184 := wd_at.pt ew179 k143 (tg_ne tm9 tm43 (by decide))
              have k185 := wd_at.pt ew179 k144 (tg_ne tm10 tm43 (by decide))
              have k186 := wd_at.pt ew179 k145 (tg_ne tm11 tm43 (by decide))
              have k187 := wd_at.pt ew179 k146 (tg_ne tm12 tm43 (by decide))
              have k188 := wd_at.pt ew179 k147 (tg_ne tm13 tm43 (by decide))
              have k189 := wd_at.pt ew179 k148 (tg_ne tm14 tm43 (by decide))
              have k190 := wd_at.pt ew179 k149 (tg_ne tm17 tm43 (by decide))
              have k191 := wd_at.pt ew179 k150 (tg_ne tm18 tm43 (by decide))
              have k192 := wd_at.pt ew179 k151 (tg_ne tm19 tm43 (by decide))
              have k193 := wd_at.pt ew179 k152 (tg_ne tm20 tm43 (by decide))
              have k194 := wd_at.pt ew179 k153 (tg_ne tm21 tm43 (by decide))
              have k195 := wd_at.pt ew179 k154 (tg_ne tm22 tm43 (by decide))
              have k196 := wd_at.pt ew179 k155 (tg_ne tm29 tm43 (by decide))
              have k197 := wd_at.pt ew179 k156 (tg_ne tm30 tm43 (by decide))
              have k198 := wd_at.pt ew179 k157 (tg_ne tm31 tm43 (by decide))
              have k199 := wd_at.pt ew179 k158 (tg_ne tm32 tm43 (by decide))
              have k200 := wd_at.pt ew179 k159 (tg_ne tm33 tm43 (by decide))
              have k201 := wd_at.pt ew179 k160 (tg_ne tm34 tm43 (by decide))
              have k202 := wd_at.pt ew179 k161 (tg_ne tm39 tm43 (by decide))
              have k203 := wd_at.pt ew179 k162 (tg_ne tm40 tm43 (by decide))
              have k204 := wd_at.pt ew179 k163 (tg_ne tm41 tm43 (by decide))
              have k205 := wd_at.pt ew179 k164 (tg_ne tm42 tm43 (by decide))
              have k206 : wd_at w178 m43 (.inl (cy 2, 200, .inl (upd f43 (nI sh).toNatClampNeg x5))) := wd_at.ps ew179 k165
              have k207 := wd_at.pt ew179 k166 (tg_ne tm44 tm43 (by decide))
              have k208 := wd_at.pt ew179 k167 (tg_ne tm45 tm43 (by decide))
              have k209 := wd_at.pt ew179 k168 (tg_ne tm46 tm43 (by decide))
              have k210 := wd_at.pt ew179 k169 (tg_ne tm47 tm43 (by decide))
              have k211 := wd_at.pt ew179 k170 (tg_ne tm48 tm43 (by decide))
              have k212 := wd_at.pt ew179 k171 (tg_ne tm2 tm43 (by decide))
              have k213 := wd_at.pt ew179 k172 (tg_ne tm3 tm43 (by decide))
              have k214 := wd_at.pt ew179 k173 (tg_ne tm23 tm43 (by decide))
              have fm215 : ∀ k9, k9 < 12 → qp k9 = some (pr k9) ∧ wd_at w178 (pr k9) (.inl (cy 2, 12, .inl (fp k9))) ∧ tg (pr k9) = 11000 + k9 := fun k9 hi9 => ⟨(fm174 k9 hi9).1, wd_at.pt ew179 (fm174 k9 hi9).2.1 (tg_ne (fm174 k9 hi9).2.2 tm43 (tnA (show 10143 < 11000 by decide))), (fm174 k9 hi9).2.2⟩
              have fm216 : ∀ k9, k9 < 12 → qw k9 = some (wr k9) ∧ wd_at w178 (wr k9) (.inl (cy 2, 12, .inl (fw k9))) ∧ tg (wr k9) = 12000 + k9 := fun k9 hi9 => ⟨(fm175 k9 hi9).1, wd_at.pt ew179 (fm175 k9 hi9).2.1 (tg_ne (fm175 k9 hi9).2.2 tm43 (tnA (show 10143 < 12000 by decide))), (fm175 k9 hi9).2.2⟩
              have fm217 : ∀ k9, k9 < 60 → qs k9 = some (sr k9) ∧ wd_at w178 (sr k9) (.inl (cy 2, 12, .inl (fs k9))) ∧ tg (sr k9) = 13000 + k9 := fun k9 hi9 => ⟨(fm176 k9 hi9).1, wd_at.pt ew179 (fm176 k9 hi9).2.1 (tg_ne (fm176 k9 hi9).2.2 tm43 (tnA (show 10143 < 13000 by decide))), (fm176 k9 hi9).2.2⟩
              have kp218 := kp177.put ew179 s98
              refine lv_aload_n hx hb dX11_show_381 rfl (lv_at hl 0 rfl) ?_
              refine x_get (ref := "NoteHouseModel") F hP k180 rfl (fun _ h => List.mem_cons_of_mem _ (List.mem_append_right _ (h))) 44 (Nat.le_of_ble_eq_true rfl) (List.mem_cons_of_mem _ (List.mem_append_left _ (List.mem_append_left _ (List.mem_of_getElem? (i := 17) rfl)))) rfl rfl dX11_show_382 ?_
              refine lv_aload_n hx hb dX11_show_385 rfl (lv_at hl 0 rfl) ?_
              refine x_get (ref := "NoteHouseModel") F hP k180 rfl (fun _ h => List.mem_cons_of_mem _ (List.mem_append_right _ (h))) 38 (Nat.le_of_ble_eq_true rfl) (List.mem_cons_of_mem _ (List.mem_append_left _ (List.mem_append_left _ (List.mem_of_getElem? (i := 0) rfl)))) rfl rfl dX11_show_386 ?_
              refine lv_iload hx hb dX11_show_389 (lv_at hl 10 rfl) ?_
              refine y_iast F hP hD hS k207 (vp_in_nI (n := sh) (N := 200) (by omega) (by decide)) dX11_show_391 (fun w219 ew220 H locs hP hD hS => ?_)
              have k221 := wd_at.pt ew220 k180 (tg_ne ty tm44 (by decide))
              have k222 := wd_at.pt ew220 k181 (tg_ne tm5 tm44 (by decide))
              have k223 := wd_at.pt ew220 k182 (tg_ne tm6 tm44 (by decide))
              have k224 := wd_at.pt ew220 k183 (tg_ne tm8 tm44 (by decide))
              have k225 := wd_at.pt ew220 k184 (tg_ne tm9 tm44 (by decide))
              have k226 := wd_at.pt ew220 k185 (tg_ne tm10 tm44 (by decide))
              have k227 := wd_at.pt ew220 k186 (tg_ne tm11 tm44 (by decide))
              have k228 := wd_at.pt ew220 k187 (tg_ne tm12 tm44 (by decide))
              have k229 := wd_at.pt ew220 k188 (tg_ne tm13 tm44 (by decide))
              have k230 := wd_at.pt ew220 k189 (tg_ne tm14 tm44 (by decide))
              have k231 := wd_at.pt ew220 k190 (tg_ne tm17 tm44 (by decide))
              have k232 := wd_at.pt ew220 k191 (tg_ne tm18 tm44 (by decide))
              have k233 := wd_at.pt ew220 k192 (tg_ne tm19 tm44 (by decide))
              have k234 := wd_at.pt ew220 k193 (tg_ne tm20 tm44 (by decide))
              have k235 := wd_at.pt ew220 k194 (tg_ne tm21 tm44 (by decide))
              have k236 := wd_at.pt ew220 k195 (tg_ne tm22 tm44 (by decide))
              have k237 := wd_at.pt ew220 k196 (tg_ne tm29 tm44 (by decide))
              have k238 := wd_at.pt ew220 k197 (tg_ne tm30 tm44 (by decide))
              have k239 := wd_at.pt ew220 k198 (tg_ne tm31 tm44 (by decide))
              have k240 := wd_at.pt ew220 k199 (tg_ne tm32 tm44 (by decide))
              have k241 := wd_at.pt ew220 k200 (tg_ne tm33 tm44 (by decide))
              have k242 := wd_at.pt ew220 k201 (tg_ne tm34 tm44 (by decide))
              have k243 := wd_at.pt ew220 k202 (tg_ne tm39 tm44 (by decide))
              have k244 := wd_at.pt ew220 k203 (tg_ne tm40 tm44 (by decide))
              have k245 := wd_at.pt ew220 k204 (tg_ne tm41 tm44 (by decide))
              have k246 := wd_at.pt ew220 k205 (tg_ne tm42 tm44 (by decide))
              have k247 := wd_at.pt ew220 k206 (tg_ne tm43 tm44 (by decide))
              have k248 : wd_at w219 m44 (.inl (cy 2, 200, .inl (upd f44 (nI sh).toNatClampNeg ddj))) := wd_at.ps ew220 k207
              have k249 := wd_at.pt ew220 k208 (tg_ne tm45 tm44 (by decide))
              have k250 := wd_at.pt ew220 k209 (tg_ne tm46 tm44 (by decide))
              have k251 := wd_at.pt ew220 k210 (tg_ne tm47 tm44 (by decide))
              have k252 := wd_at.pt ew220 k211 (tg_ne tm48 tm44 (by decide))
              have k253 := wd_at.pt ew220 k212 (tg_ne tm2 tm44 (by decide))
              have k254 := wd_at.pt ew220 k213 (tg_ne tm3 tm44 (by decide))
              have k255 := wd_at.pt ew220 k214 (tg_ne tm23 tm44 (by decide))
              have fm256 : ∀ k9, k9 < 12 → qp k9 = some (pr k9) ∧ wd_at w219 (pr k9) (.inl (cy 2, 12, .inl (fp k9))) ∧ tg (pr k9) = 11000 + k9 := fun k9 hi9 => ⟨(fm215 k9 hi9).1, wd_at.pt ew220 (fm215 k9 hi9).2.1 (tg_ne (fm215 k9 hi9).2.2 tm44 (tnA (show 10144 < 11000 by decide))), (fm215 k9 hi9).2.2⟩
              have fm257 : ∀ k9, k9 < 12 → qw k9 = some (wr k9) ∧ wd_at w219 (wr k9) (.inl (cy 2, 12, .inl (fw k9))) ∧ tg (wr k9) = 12000 + k9 := fun k9 hi9 => ⟨(fm216 k9 hi9).1, wd_at.pt ew220 (fm216 k9 hi9).2.1 (tg_ne (fm216 k9 hi9).2.2 tm44 (tnA (show 10144 < 12000 by decide))), (fm216 k9 hi9).2.2⟩
              have fm258 : ∀ k9, k9 < 60 → qs k9 = some (sr k9) ∧ wd_at w219 (sr k9) (.inl (cy 2, 12, .inl (fs k9))) ∧ tg (sr k9) = 13000 + k9 := fun k9 hi9 => ⟨(fm217 k9 hi9).1, wd_at.pt ew220 (fm217 k9 hi9).2.1 (tg_ne (fm217 k9 hi9).2.2 tm44 (tnA (show 10144 < 13000 by decide))), (fm217 k9 hi9).2.2⟩
              have kp259 := kp218.put ew220 s99
              refine lv_aload_n hx hb dX11_show_392 rfl (lv_at hl 0 rfl) ?_
              refine x_get (ref := "NoteHouseModel") F hP k221 rfl (fun _ h => List.mem_cons_of_mem _ (List.mem_append_right _ (h))) 45 (Nat.le_of_ble_eq_true rfl) (List.mem_cons_of_mem _ (List.mem_append_left _ (List.mem_append_left _ (List.mem_of_getElem? (i := 18) rfl)))) rfl rfl dX11_show_393 ?_
              refine lv_aload_n hx hb dX11_show_396 rfl (lv_at hl 0 rfl) ?_
              refine x_get (ref := "NoteHouseModel") F hP k221 rfl (fun _ h => List.mem_cons_of_mem _ (List.mem_append_right _ (h))) 38 (Nat.le_of_ble_eq_true rfl) (List.mem_cons_of_mem _ (List.mem_append_left _ (List.mem_append_left _ (List.mem_of_getElem? (i := 0) rfl)))) rfl rfl dX11_show_397 ?_
              refine lv_iload hx hb dX11_show_400 (lv_at hl 9 rfl) ?_
              refine y_iast F hP hD hS k249 (vp_in_nI (n := sh) (N := 200) (by omega) (by decide)) dX11_show_402 (fun w260 ew261 H locs hP hD hS => ?_)
              have k262 := wd_at.pt ew261 k221 (tg_ne ty tm45 (by decide))
              have k263 := wd_at.pt ew261 k222 (tg_ne tm5 tm45 (by decide))
              have k264 := wd_at.pt ew261 k223 (tg_ne tm6 tm45 (by decide))
              have k265 := wd_at.pt ew261 k224 (tg_ne tm8 tm45 (by decide))
              have k266 := wd_at.pt ew261 k225 (tg_ne tm9 tm45 (by decide))
              have k267 := wd_at.pt ew261 k226 (tg_ne tm10 tm45 (by decide))
              have k268 := wd_at.pt ew261 k227 (tg_ne tm11 tm45 (by decide))
              have k269 := wd_at.pt ew261 k228 (tg_ne tm12 tm45 (by decide))
              have k270 := wd_at.pt ew261 k229 (tg_ne tm13 tm45 (by decide))
              have k271 := wd_at.pt ew261 k230 (tg_ne tm14 tm45 (by decide))
              have k272 := wd_at.pt ew261 k231 (tg_ne tm17 tm45 (by decide))
              have k273 := wd_at.pt ew261 k232 (tg_ne tm18 tm45 (by decide))
              have k274 := wd_at.pt ew261 k233 (tg_ne tm19 tm45 (by decide))
              have k275 := wd_at.pt ew261 k234 (tg_ne tm20 tm45 (by decide))
              have k276 := wd_at.pt ew261 k235 (tg_ne tm21 tm45 (by decide))
              have k277 := wd_at.pt ew261 k236 (tg_ne tm22 tm45 (by decide))
              have k278 := wd_at.pt ew261 k237 (tg_ne tm29 tm45 (by decide))
              have k279 := wd_at.pt ew261 k238 (tg_ne tm30 tm45 (by decide))
              have k280 := wd_at.pt ew261 k239 (tg_ne tm31 tm45 (by decide))
              have k281 := wd_at.pt ew261 k240 (tg_ne tm32 tm45 (by decide))
              have k282 := wd_at.pt ew261 k241 (tg_ne tm33 tm45 (by decide))
              have k283 := wd_at.pt ew261 k242 (tg_ne tm34 tm45 (by decide))
              have k284 := wd_at.pt ew261 k243 (tg_ne tm39 tm45 (by decide))
              have k285 := wd_at.pt ew261 k244 (tg_ne tm40 tm45 (by decide))
              have k286 := wd_at.pt ew261 k245 (tg_ne tm41 tm45 (by decide))
              have k287 := wd_at.pt ew261 k246 (tg_ne tm42 tm45 (by decide))
              have k288 := wd_at.pt ew261 k247 (tg_ne tm43 tm45 (by decide))
              have k289 := wd_at.pt ew261 k248 (tg_ne tm44 tm45 (by decide))
              have k290 : wd_at w260 m45 (.inl (cy 2, 200, .inl (upd f45 (nI sh).toNatClampNeg fdj))) := wd_at.ps ew261 k249
              have k291 := wd_at.pt ew261 k250 (tg_ne tm46 tm45 (by decide))
              have k292 := wd_at.pt ew261 k251 (tg_ne tm47 tm45 (by decide))
              have k293 := wd_at.pt ew261 k252 (tg_ne tm48 tm45 (by decide))
              have k294 := wd_at.pt ew261 k253 (tg_ne tm2 tm45 (by decide))
              have k295 := wd_at.pt ew261 k254 (tg_ne tm3 tm45 (by decide))
              have k296 := wd_at.pt ew261 k255 (tg_ne tm23 tm45 (by decide))
              have fm297 : ∀ k9, k9 < 12 → qp k9 = some (pr k9) ∧ wd_at w260 (pr k9) (.inl (cy 2, 12, .inl (fp k9))) ∧ tg (pr k9) = 11000 + k9 := fun k9 hi9 => ⟨(fm256 k9 hi9).1, wd_at.pt ew261 (fm256 k9 hi9).2.1 (tg_ne (fm256 k9 hi9).2.2 tm45 (tnA (show 10145 < 11000 by decide))), (fm256 k9 hi9).2.2⟩
              have fm298 : ∀ k9, k9 < 12 → qw k9 = some (wr k9) ∧ wd_at w260 (wr k9) (.inl (cy 2, 12, .inl (fw k9))) ∧ tg (wr k9) = 12000 + k9 := fun k9 hi9 => ⟨(fm257 k9 hi9).1, wd_at.pt ew261 (fm257 k9 hi9).2.1 (tg_ne (fm257 k9 hi9).2.2 tm45 (tnA (show 10145 < 12000 by decide))), (fm257 k9 hi9).2.2⟩
              have fm299 : ∀ k9, k9 < 60 → qs k9 = some (sr k9) ∧ wd_at w260 (sr k9) (.inl (cy 2, 12, .inl (fs k9))) ∧ tg (sr k9) = 13000 + k9 := fun k9 hi9 => ⟨(fm258 k9 hi9).1, wd_at.pt ew261 (fm258 k9 hi9).2.1 (tg_ne (fm258 k9 hi9).2.2 tm45 (tnA (show 10145 < 13000 by decide))), (fm258 k9 hi9).2.2⟩
              have kp300 := kp259.put ew261 s910
              refine lv_aload_n hx hb dX11_show_403 rfl (lv_at hl 0 rfl) ?_
              refine x_get (ref := "NoteHouseModel") F hP k262 rfl (fun _ h => List.mem_cons_of_mem _ (List.mem_append_right _ (h))) 46 (Nat.le_of_ble_eq_true rfl) (List.mem_cons_of_mem _ (List.mem_append_left _ (List.mem_append_left _ (List.mem_of_getElem? (i := 19) rfl)))) rfl rfl dX11_show_404 ?_
              refine lv_aload_n hx hb dX11_show_407 rfl (lv_at hl 0 rfl) ?_
              refine x_get (ref := "NoteHouseModel") F hP k262 rfl (fun _ h => List.mem_cons_of_mem _ (List.mem_append_right _ (h))) 38 (Nat.le_of_ble_eq_true rfl) (List.mem_cons_of_mem _ (List.mem_append_left _ (List.mem_append_left _ (List.mem_of_getElem? (i := 0) rfl)))) rfl rfl dX11_show_408 ?_
              refine lv_aload_n hx hb dX11_show_411 rfl (lv_at hl 0 rfl) ?_
              refine x_get (ref := "NoteHouseModel") F hP k262 rfl (fun _ h => List.mem_cons_of_mem _ (List.mem_append_right _ (h))) 1 (Nat.le_of_ble_eq_true rfl) (List.mem_cons_of_mem _ (List.mem_append_left _ (List.mem_append_left _ (List.mem_of_getElem? (i := 20) rfl)))) rfl rfl dX11_show_412 ?_
              refine y_iast F hP hD hS k291 (vp_in_nI (n := sh) (N := 200) (by omega) (by decide)) dX11_show_415 (fun w301 ew302 H locs hP hD hS => ?_)
              have k303 := wd_at.pt ew302 k262 (tg_ne ty tm46 (by decide))
              have k304 := wd_at.pt ew302 k263 (tg_ne tm5 tm46 (by decide))
              have k305 := wd_at.pt ew302 k264 (tg_ne tm6 tm46 (by decide))
              have k306 := wd_at.pt ew302 k265 (tg_ne tm8 tm46 (by decide))
              have k307 := wd_at.pt ew302 k266 (tg_ne tm9 tm46 (by decide))
              have k308 := wd_at.pt ew302 k267 (tg_ne tm10 tm46 (by decide))
              have k309 := wd_at.pt ew302 k268 (tg_ne tm11 tm46 (by decide))
              have k310 := wd_at.pt ew302 k269 (tg_ne tm12 tm46 (by decide))
              have k311 := wd_at.pt ew302 k270 (tg_ne tm13 tm46 (by decide))
              have k312 := wd_at.pt ew302 k271 (tg_ne tm14 tm46 (by decide))
              have k313 := wd_at.pt ew302 k272 (tg_ne tm17 tm46 (by decide))
              have k314 := wd_at.pt ew302 k273 (tg_ne tm18 tm46 (by decide))
              have k315 := wd_at.pt ew302 k274 (tg_ne tm19 tm46 (by decide))
              have k316 := wd_at.pt ew302 k275 (tg_ne tm20 tm46 (by decide))
              have k317 := wd_at.pt ew302 k276 (tg_ne tm21 tm46 (by decide))
              have k318 := wd_at.pt ew302 k277 (tg_ne tm22 tm46 (by decide))
              have k319 := wd_at.pt ew302 k278 (tg_ne tm29 tm46 (by decide))
              have k320 := wd_at.pt ew302 k279 (tg_ne tm30 tm46 (by decide))
              have k321 := wd_at.pt ew302 k280 (tg_ne tm31 tm46 (by decide))
              have k322 := wd_at.pt ew302 k281 (tg_ne tm32 tm46 (by decide))
              have k323 := wd_at.pt ew302 k282 (tg_ne tm33 tm46 (by decide))
              have k324 := wd_at.pt ew302 k283 (tg_ne tm34 tm46 (by decide))
              have k325 := wd_at.pt ew302 k284 (tg_ne tm39 tm46 (by decide))
              have k326 := wd_at.pt ew302 k285 (tg_ne tm40 tm46 (by decide))
              have k327 := wd_at.pt ew302 k286 (tg_ne tm41 tm46 (by decide))
              have k328 := wd_at.pt ew302 k287 (tg_ne tm42 tm46 (by decide))
              have k329 := wd_at.pt ew302 k288 (tg_ne tm43 tm46 (by decide))
              have k330 := wd_at.pt ew302 k289 (tg_ne tm44 tm46 (by decide))
              have k331 := wd_at.pt ew302 k290 (tg_ne tm45 tm46 (by decide))
              have k332 : wd_at w301 m46 (.inl (cy 2, 200, .inl (upd f46 (nI sh).toNatClampNeg td))) := wd_at.ps ew302 k291
              have k333 := wd_at.pt ew302 k292 (tg_ne tm47 tm46 (by decide))
              have k334 := wd_at.pt ew302 k293 (tg_ne tm48 tm46 (by decide))
              have k335 := wd_at.pt ew302 k294 (tg_ne tm2 tm46 (by decide))
              have k336 := wd_at.pt ew302 k295 (tg_ne tm3 tm46 (by decide))
              have k337 := wd_at.pt ew302 k296 (tg_ne tm23 tm46 (by decide))
              have fm338 : ∀ k9, k9 < 12 → qp k9 = some (pr k9) ∧ wd_at w301 (pr k9) (.inl (cy 2, 12, .inl (fp k9))) ∧ tg (pr k9) = 11000 + k9 := fun k9 hi9 => ⟨(fm297 k9 hi9).1, wd_at.pt ew302 (fm297 k9 hi9).2.1 (tg_ne (fm297 k9 hi9).2.2 tm46 (tnA (show 10146 < 11000 by decide))), (fm297 k9 hi9).2.2⟩
              have fm339 : ∀ k9, k9 < 12 → qw k9 = some (wr k9) ∧ wd_at w301 (wr k9) (.inl (cy 2, 12, .inl (fw k9))) ∧ tg (wr k9) = 12000 + k9 := fun k9 hi9 => ⟨(fm298 k9 hi9).1, wd_at.pt ew302 (fm298 k9 hi9).2.1 (tg_ne (fm298 k9 hi9).2.2 tm46 (tnA (show 10146 < 12000 by decide))), (fm298 k9 hi9).2.2⟩
              have fm340 : ∀ k9, k9 < 60 → qs k9 = some (sr k9) ∧ wd_at w301 (sr k9) (.inl (cy 2, 12, .inl (fs k9))) ∧ tg (sr k9) = 13000 + k9 := fun k9 hi9 => ⟨(fm299 k9 hi9).1, wd_at.pt ew302 (fm299 k9 hi9).2.1 (tg_ne (fm299 k9 hi9).2.2 tm46 (tnA (show 10146 < 13000 by decide))), (fm299 k9 hi9).2.2⟩
              have kp341 := kp300.put ew302 s911
              refine lv_aload_n hx hb dX11_show_416 rfl (lv_at hl 0 rfl) ?_
              refine x_get (ref := "NoteHouseModel") F hP k303 rfl (fun _ h => List.mem_cons_of_mem _ (List.mem_append_right _ (h))) 48 (Nat.le_of_ble_eq_true rfl) (List.mem_cons_of_mem _ (List.mem_append_left _ (List.mem_append_left _ (List.mem_of_getElem? (i := 21) rfl)))) rfl rfl dX11_show_417 ?_
              refine lv_aload_n hx hb dX11_show_420 rfl (lv_at hl 0 rfl) ?_
              refine x_get (ref := "NoteHouseModel") F hP k303 rfl (fun _ h => List.mem_cons_of_mem _ (List.mem_append_right _ (h))) 38 (Nat.le_of_ble_eq_true rfl) (List.mem_cons_of_mem _ (List.mem_append_left _ (List.mem_append_left _ (List.mem_of_getElem? (i := 0) rfl)))) rfl rfl dX11_show_421 ?_
              refine lv_lconst (v := 0) hx hb dX11_show_424 (by decide) ?_
              refine y_last F hP hD hS k334 (vp_in_nI (n := sh) (N := 200) (by omega) (by decide)) dX11_show_425 (fun w342 ew343 H locs hP hD hS => ?_)
              have k344 := wd_at.pt ew343 k303 (tg_ne ty tm48 (by decide))
              have k345 := wd_at.pt ew343 k304 (tg_ne tm5 tm48 (by decide))
              have k346 := wd_at.pt ew343 k305 (tg_ne tm6 tm48 (by decide))
              have k347 := wd_at.pt ew343 k306 (tg_ne tm8 tm48 (by decide))
              have k348 := wd_at.pt ew343 k307 (tg_ne tm9 tm48 (by decide))
              have k349 := wd_at.pt ew343 k308 (tg_ne tm10 tm48 (by decide))
              have k350 := wd_at.pt ew343 k309 (tg_ne tm11 tm48 (by decide))
              have k351 := wd_at.pt ew343 k310 (tg_ne tm12 tm48 (by decide))
              have k352 := wd_at.pt ew343 k311 (tg_ne tm13 tm48 (by decide))
              have k353 := wd_at.pt ew343 k312 (tg_ne tm14 tm48 (by decide))
              have k354 := wd_at.pt ew343 k313 (tg_ne tm17 tm48 (by decide))
              have k355 := wd_at.pt ew343 k314 (tg_ne tm18 tm48 (by decide))
              have k356 := wd_at.pt ew343 k315 (tg_ne tm19 tm48 (by decide))
              have k357 := wd_at.pt ew343 k316 (tg_ne tm20 tm48 (by decide))
              have k358 := wd_at.pt ew343 k317 (tg_ne tm21 tm48 (by decide))
              have k359 := wd_at.pt ew343 k318 (tg_ne tm22 tm48 (by decide))
              have k360 := wd_at.pt ew343 k319 (tg_ne tm29 tm48 (by decide))
              have k361 := wd_at.pt ew343 k320 (tg_ne tm30 tm48 (by decide))
              have k362 := wd_at.pt ew343 k321 (tg_ne tm31 tm48 (by decide))
              have k363 := wd_at.pt ew343 k322 (tg_ne tm32 tm48 (by decide))
              have k364 := wd_at.pt ew343 k323 (tg_ne tm33 tm48 (by decide))
              have k365 := wd_at.pt ew343 k324 (tg_ne tm34 tm48 (by decide))
              have k366 := wd_at.pt ew343 k325 (tg_ne tm39 tm48 (by decide))
              have k367 := wd_at.pt ew343 k326 (tg_ne tm40 tm48 (by decide))
              have k368 := wd_at.pt ew343 k327 (tg_ne tm41 tm48 (by decide))
              have k369 := wd_at.pt ew343 k328 (tg_ne tm42 tm48 (by decide))
              have k370 := wd_at.pt ew343 k329 (tg_ne tm43 tm48 (by decide))
              have k371 := wd_at.pt ew343 k330 (tg_ne tm44 tm48 (by decide))
              have k372 := wd_at.pt ew343 k331 (tg_ne tm45 tm48 (by decide))
              have k373 := wd_at.pt ew343 k332 (tg_ne tm46 tm48 (by decide))
              have k374 := wd_at.pt ew343 k333 (tg_ne tm47 tm48 (by decide))
              have k375 : wd_at w342 m48 (.inl (cy 3, 200, .inr (.inl (vp_updL f48 (nI sh).toNatClampNeg 0)))) := wd_at.ps ew343 k334
              have k376 := wd_at.pt ew343 k335 (tg_ne tm2 tm48 (by decide))
              have k377 := wd_at.pt ew343 k336 (tg_ne tm3 tm48 (by decide))
              have k378 := wd_at.pt ew343 k337 (tg_ne tm23 tm48 (by decide))
              have fm379 : ∀ k9, k9 < 12 → qp k9 = some (pr k9) ∧ wd_at w342 (pr k9) (.inl (cy 2, 12, .inl (fp k9))) ∧ tg (pr k9) = 11000 + k9 := fun k9 hi9 => ⟨(fm338 k9 hi9).1, wd_at.pt ew343 (fm338 k9 hi9).2.1 (tg_ne (fm338 k9 hi9).2.2 tm48 (tnA (show 10148 < 11000 by decide))), (fm338 k9 hi9).2.2⟩
              have fm380 : ∀ k9, k9 < 12 → qw k9 = some (wr k9) ∧ wd_at w342 (wr k9) (.inl (cy 2, 12, .inl (fw k9))) ∧ tg (wr k9) = 12000 + k9 := fun k9 hi9 => ⟨(fm339 k9 hi9).1, wd_at.pt ew343 (fm339 k9 hi9).2.1 (tg_ne (fm339 k9 hi9).2.2 tm48 (tnA (show 10148 < 12000 by decide))), (fm339 k9 hi9).2.2⟩
              have fm381 : ∀ k9, k9 < 60 → qs k9 = some (sr k9) ∧ wd_at w342 (sr k9) (.inl (cy 2, 12, .inl (fs k9))) ∧ tg (sr k9) = 13000 + k9 := fun k9 hi9 => ⟨(fm340 k9 hi9).1, wd_at.pt ew343 (fm340 k9 hi9).2.1 (tg_ne (fm340 k9 hi9).2.2 tm48 (tnA (show 10148 < 13000 by decide))), (fm340 k9 hi9).2.2⟩
              have kp382 := kp341.put ew343 s913
              refine lv_aload_n hx hb dX11_show_426 rfl (lv_at hl 0 rfl) ?_
              refine x_get (ref := "NoteHouseModel") F hP k344 rfl (fun _ h => List.mem_cons_of_mem _ (List.mem_append_right _ (h))) 47 (Nat.le_of_ble_eq_true rfl) (List.mem_cons_of_mem _ (List.mem_append_left _ (List.mem_append_left _ (List.mem_of_getElem? (i := 22) rfl)))) rfl rfl dX11_show_427 ?_
              refine lv_aload_n hx hb dX11_show_430 rfl (lv_at hl 0 rfl) ?_
              refine x_get (ref := "NoteHouseModel") F hP k344 rfl (fun _ h => List.mem_cons_of_mem _ (List.mem_append_right _ (h))) 38 (Nat.le_of_ble_eq_true rfl) (List.mem_cons_of_mem _ (List.mem_append_left _ (List.mem_append_left _ (List.mem_of_getElem? (i := 0) rfl)))) rfl rfl dX11_show_431 ?_
              refine lv_ldc (v := 268435456) hx hb hown (hts _ (List.mem_cons_of_mem _ (List.mem_append_left _ (List.mem_append_left _ (List.mem_of_getElem? (i := 23) rfl))))) dX11_show_434 ?_
              refine y_iast F hP hD hS k374 (vp_in_nI (n := sh) (N := 200) (by omega) (by decide)) dX11_show_436 (fun w383 ew384 H locs hP hD hS => ?_)
              have k385 := wd_at.pt ew384 k344 (tg_ne ty tm47 (by decide))
              have k386 := wd_at.pt ew384 k345 (tg_ne tm5 tm47 (by decide))
              have k387 := wd_at.pt ew384 k346 (tg_ne tm6 tm47 (by decide))
              have k388 := wd_at.pt ew384 k347 (tg_ne tm8 tm47 (by decide))
              have k389 := wd_at.pt ew384 k348 (tg_ne tm9 tm47 (by decide))
              have k390 := wd_at.pt ew384 k349 (tg_ne tm10 tm47 (by decide))
              have k391 := wd_at.pt ew384 k350 (tg_ne tm11 tm47 (by decide))
              have k392 := wd_at.pt ew384 k351 (tg_ne tm12 tm47 (by decide))
              have k393 := wd_at.pt ew384 k352 (tg_ne tm13 tm47 (by decide))
              have k394 := wd_at.pt ew384 k353 (tg_ne tm14 tm47 (by decide))
              have k395 := wd_at.pt ew384 k354 (tg_ne tm17 tm47 (by decide))
              have k396 := wd_at.pt ew384 k355 (tg_ne tm18 tm47 (by decide))
              have k397 := wd_at.pt ew384 k356 (tg_ne tm19 tm47 (by decide))
              have k398 := wd_at.pt ew384 k357 (tg_ne tm20 tm47 (by decide))
              have k399 := wd_at.pt ew384 k358 (tg_ne tm21 tm47 (by decide))
              have k400 := wd_at.pt ew384 k359 (tg_ne tm22 tm47 (by decide))
              have k401 := wd_at.pt ew384 k360 (tg_ne tm29 tm47 (by decide))
              have k402 := wd_at.pt ew384 k361 (tg_ne tm30 tm47 (by decide))
              have k403 := wd_at.pt ew384 k362 (tg_ne tm31 tm47 (by decide))
              have k404 := wd_at.pt ew384 k363 (tg_ne tm32 tm47 (by decide))
              have k405 := wd_at.pt ew384 k364 (tg_ne tm33 tm47 (by decide))
              have k406 := wd_at.pt ew384 k365 (tg_ne tm34 tm47 (by decide))
              have k407 := wd_at.pt ew384 k366 (tg_ne tm39 tm47 (by decide))
              have k408 := wd_at.pt ew384 k367 (tg_ne tm40 tm47 (by decide))
              have k409 := wd_at.pt ew384 k368 (tg_ne tm41 tm47 (by decide))
              have k410 := wd_at.pt ew384 k369 (tg_ne tm42 tm47 (by decide))
              have k411 := wd_at.pt ew384 k370 (tg_ne tm43 tm47 (by decide))
              have k412 := wd_at.pt ew384 k371 (tg_ne tm44 tm47 (by decide))
              have k413 := wd_at.pt ew384 k372 (tg_ne tm45 tm47 (by decide))
              have k414 := wd_at.pt ew384 k373 (tg_ne tm46 tm47 (by decide))
              have k415 : wd_at w383 m47 (.inl (cy 2, 200, .inl (upd f47 (nI sh).toNatClampNeg 268435456))) := wd_at.ps ew384 k374
              have k416 := wd_at.pt ew384 k375 (tg_ne tm48 tm47 (by decide))
              have k417 := wd_at.pt ew384 k376 (tg_ne tm2 tm47 (by decide))
              have k418 := wd_at.pt ew384 k377 (tg_ne tm3 tm47 (by decide))
              have k419 := wd_at.pt ew384 k378 (tg_ne tm23 tm47 (by decide))
              have fm420 : ∀ k9, k9 < 12 → qp k9 = some (pr k9) ∧ wd_at w383 (pr k9) (.inl (cy 2, 12, .inl (fp k9))) ∧ tg (pr k9) = 11000 + k9 := fun k9 hi9 => ⟨(fm379 k9 hi9).1, wd_at.pt ew384 (fm379 k9 hi9).2.1 (tg_ne (fm379 k9 hi9).2.2 tm47 (tnA (show 10147 < 11000 by decide))), (fm379 k9 hi9).2.2⟩
              have fm421 : ∀ k9, k9 < 12 → qw k9 = some (wr k9) ∧ wd_at w383 (wr k9) (.inl (cy 2, 12, .inl (fw k9))) ∧ tg (wr k9) = 12000 + k9 := fun k9 hi9 => ⟨(fm380 k9 hi9).1, wd_at.pt ew384 (fm380 k9 hi9).2.1 (tg_ne (fm380 k9 hi9).2.2 tm47 (tnA (show 10147 < 12000 by decide))), (fm380 k9 hi9).2.2⟩
              have fm422 : ∀ k9, k9 < 60 → qs k9 = some (sr k9) ∧ wd_at w383 (sr k9) (.inl (cy 2, 12, .inl (fs k9))) ∧ tg (sr k9) = 13000 + k9 := fun k9 hi9 => ⟨(fm381 k9 hi9).1, wd_at.pt ew384 (fm381 k9 hi9).2.1 (tg_ne (fm381 k9 hi9).2.2 tm47 (tnA (show 10147 < 13000 by decide))), (fm381 k9 hi9).2.2⟩
              have kp423 := kp382.put ew384 s912
              refine lv_iload hx hb dX11_show_437 (lv_at hl 10 rfl) ?_
              refine lv_if_ne (tgt := 543) hx hb dX11_show_439 (by decide) (fun c_424 => ?_) (fun c_424 => ?_)
              · refine lv_aload_n hx hb dX11_show_543 rfl (lv_at hl 0 rfl) ?_
                refine lv_dup hx hb dX11_show_544 rfl ?_
                refine x_get (ref := "NoteHouseModel") F hP k385 rfl (fun _ h => List.mem_cons_of_mem _ (List.mem_append_right _ (h))) 38 (Nat.le_of_ble_eq_true rfl) (List.mem_cons_of_mem _ (List.mem_append_left _ (List.mem_append_left _ (List.mem_of_getElem? (i := 0) rfl)))) rfl rfl dX11_show_545 ?_
                refine lv_iconst (v := 1) hx hb dX11_show_548 (by decide) ?_
                refine lv_iadd hx hb dX11_show_549 ?_
                rw [show ((nI sh) + 1 : Int32) = nI (sh + 1) from nI_add sh 1]
                refine y_put (ref := "NoteHouseModel") F hP hD hS k385 rfl (fun _ h => List.mem_cons_of_mem _ (List.mem_append_right _ (h))) tyX11_ok nmX11 38 (Nat.le_of_ble_eq_true rfl) (List.mem_cons_of_mem _ (List.mem_append_left _ (List.mem_append_left _ (List.mem_of_getElem? (i := 0) rfl)))) rfl rfl rfl rfl (Nat.le_of_ble_eq_true rfl) dX11_show_550 (fun w425 ew426 H locs hP hD hS => ?_)
                have k427 : wd_at w425 y (.inr (11, [.int v0, .int td, .ref m2, .ref m3, .ref m4, .ref m5, .ref m6, .int (nI pc), .ref m8, .ref m9, .ref m10, .ref m11, .ref m12, .ref m13, .ref m14, .int (nI ac), .int (nI sc), .ref m17, .ref m18, .ref m19, .ref m20, .ref m21, .ref m22, .ref m23, .ref m24, .int (nI ln), .int v26, .int v27, .int v28, .ref m29, .ref m30, .ref m31, .ref m32, .ref m33, .ref m34, .ref m35, .ref m36, .ref m37, .int (nI (sh + 1)), .ref m39, .ref m40, .ref m41, .ref m42, .ref m43, .ref m44, .ref m45, .ref m46, .ref m47, .ref m48, .ref m49, .int v50, .ref m51, .ref m52, .ref m53, .ref m54, .int (nI gf), .ref m56, .ref m57, .ref m58, .ref m59])) := wd_at.ps ew426 k385
                have k428 := wd_at.pt ew426 k386 (tg_ne tm5 ty (by decide))
                have k429 := wd_at.pt ew426 k387 (tg_ne tm6 ty (by decide))
                have k430 := wd_at.pt ew426 k388 (tg_ne tm8 ty (by decide))
                have k431 := wd_at.pt ew426 k389 (tg_ne tm9 ty (by decide))
                have k432 := wd_at.pt ew426 k390 (tg_ne tm10 ty (by decide))
                have k433 := wd_at.pt ew426 k391 (tg_ne tm11 ty (by decide))
                have k434 := wd_at.pt ew426 k392 (tg_ne tm12 ty (by decide))
                have k435 := wd_at.pt ew426 k393 (tg_ne tm13 ty (by decide))
                have k436 := wd_at.pt ew426 k394 (tg_ne tm14 ty (by decide))
                have k437 := wd_at.pt ew426 k395 (tg_ne tm17 ty (by decide))
                have k438 := wd_at.pt ew426 k396 (tg_ne tm18 ty (by decide))
                have k439 := wd_at.pt ew426 k397 (tg_ne tm19 ty (by decide))
                have k440 := wd_at.pt ew426 k398 (tg_ne tm20 ty (by decide))
                have k441 := wd_at.pt ew426 k399 (tg_ne tm21 ty (by decide))
                have k442 := wd_at.pt ew426 k400 (tg_ne tm22 ty (by decide))
                have k443 := wd_at.pt ew426 k401 (tg_ne tm29 ty (by decide))
                have k444 := wd_at.pt ew426 k402 (tg_ne tm30 ty (by decide))
                have k445 := wd_at.pt ew426 k403 (tg_ne tm31 ty (by decide))
                have k446 := wd_at.pt ew426 k404 (tg_ne tm32 ty (by decide))
                have k447 := wd_at.pt ew426 k405 (tg_ne tm33 ty (by decide))
                have k448 := wd_at.pt ew426 k406 (tg_ne tm34 ty (by decide))
                have k449 := wd_at.pt ew426 k407 (tg_ne tm39 ty (by decide))
                have k450 := wd_at.pt ew426 k408 (tg_ne tm40 ty (by decide))
                have k451 := wd_at.pt ew426 k409 (tg_ne tm41 ty (by decide))
                have k452 := wd_at.pt ew426 k410 (tg_ne tm42 ty (by decide))
                have k453 := wd_at.pt ew426 k411 (tg_ne tm43 ty (by decide))
                have k454 := wd_at.pt ew426 k412 (tg_ne tm44 ty (by decide))
                have k455 := wd_at.pt ew426 k413 (tg_ne tm45 ty (by decide))
                have k456 := wd_at.pt ew426 k414 (tg_ne tm46 ty (by decide))
                have k457 := wd_at.pt ew426 k415 (tg_ne tm47 ty (by decide))
                have k458 := wd_at.pt ew426 k416 (tg_ne tm48 ty (by decide))
                have k459 := wd_at.pt ew426 k417 (tg_ne tm2 ty (by decide))
                have k460 := wd_at.pt ew426 k418 (tg_ne tm3 ty (by decide))
                have k461 := wd_at.pt ew426 k419 (tg_ne tm23 ty (by decide))
                have fm462 : ∀ k9, k9 < 12 → qp k9 = some (pr k9) ∧ wd_at w425 (pr k9) (.inl (cy 2, 12, .inl (fp k9))) ∧ tg (pr k9) = 11000 + k9 := fun k9 hi9 => ⟨(fm420 k9 hi9).1, wd_at.pt ew426 (fm420 k9 hi9).2.1 (tg_ne (fm420 k9 hi9).2.2 ty (tnA (show 10000 < 11000 by decide))), (fm420 k9 hi9).2.2⟩
                have fm463 : ∀ k9, k9 < 12 → qw k9 = some (wr k9) ∧ wd_at w425 (wr k9) (.inl (cy 2, 12, .inl (fw k9))) ∧ tg (wr k9) = 12000 + k9 := fun k9 hi9 => ⟨(fm421 k9 hi9).1, wd_at.pt ew426 (fm421 k9 hi9).2.1 (tg_ne (fm421 k9 hi9).2.2 ty (tnA (show 10000 < 12000 by decide))), (fm421 k9 hi9).2.2⟩
                have fm464 : ∀ k9, k9 < 60 → qs k9 = some (sr k9) ∧ wd_at w425 (sr k9) (.inl (cy 2, 12, .inl (fs k9))) ∧ tg (sr k9) = 13000 + k9 := fun k9 hi9 => ⟨(fm422 k9 hi9).1, wd_at.pt ew426 (fm422 k9 hi9).2.1 (tg_ne (fm422 k9 hi9).2.2 ty (tnA (show 10000 < 13000 by decide))), (fm422 k9 hi9).2.2⟩
                have kp465 := kp423.put ew426 s90
                refine lv_iload hx hb dX11_show_553 (lv_at hl 10 rfl) ?_
                exact y_ir K hP hD hS (Nat.le_of_ble_eq_true rfl) (Nat.le_of_ble_eq_true rfl) (ty := .int) rfl rfl dX11_show_555 (⟨(sh + 1), f6, f13, f14, upd f39 (nI sh).toNatClampNeg (nI tw), upd f40 (nI sh).toNatClampNeg (nI pp), upd f41 (nI sh).toNatClampNeg x3, upd f42 (nI sh).toNatClampNeg vv, upd f43 (nI sh).toNatClampNeg x5, upd f44 (nI sh).toNatClampNeg ddj, upd f45 (nI sh).toNatClampNeg fdj, upd f46 (nI sh).toNatClampNeg td, upd f47 (nI sh).toNatClampNeg 268435456, vp_updL f48 (nI sh).toNatClampNeg 0, ddj, rfl, ht.a (by omega) (by omega), hp.a (by omega) (by omega), by omega, kp465, k427, k429, k435, k436, k449, k450, k451, k452, k453, k454, k455, k456, k457, k458⟩)
              · refine lv_aload_n hx hb dX11_show_442 rfl (lv_at hl 0 rfl) ?_
                refine x_get (ref := "NoteHouseModel") F hP k385 rfl (fun _ h => List.mem_cons_of_mem _ (List.mem_append_right _ (h))) 48 (Nat.le_of_ble_eq_true rfl) (List.mem_cons_of_mem _ (List.mem_append_left _ (List.mem_append_left _ (List.mem_of_getElem? (i := 21) rfl)))) rfl rfl dX11_show_443 ?_
                refine lv_aload_n hx hb dX11_show_446 rfl (lv_at hl 0 rfl) ?_
                refine x_get (ref := "NoteHouseModel") F hP k385 rfl (fun _ h => List.mem_cons_of_mem _ (List.mem_append_right _ (h))) 38 (Nat.le_of_ble_eq_true rfl) (List.mem_cons_of_mem _ (List.mem_append_left _ (List.mem_append_left _ (List.mem_of_getElem? (i := 0) rfl)))) rfl rfl dX11_show_447 ?_
                refine lv_iload hx hb dX11_show_450 (lv_at hl 8 rfl) ?_
                refine lv_i2l (v := vv.toInt64) hx hb dX11_show_452 (rfl) ?_
                refine lv_aload_n hx hb dX11_show_453 rfl (lv_at hl 0 rfl) ?_
                refine x_get (ref := "NoteHouseModel") F hP k385 rfl (fun _ h => List.mem_cons_of_mem _ (List.mem_append_right _ (h))) 5 (Nat.le_of_ble_eq_true rfl) (List.mem_cons_of_mem _ (List.mem_append_left _ (List.mem_append_right _ (List.mem_append_left _ (List.mem_of_getElem? (i := 0) rfl))))) rfl rfl dX11_show_454 ?_
                refine lv_iload_n hx hb dX11_show_457 rfl (lv_at hl 1 rfl) ?_
                refine x_iald F hP k386 (vp_in_nI (n := tw) (N := 12) (by omega) (by decide)) dX11_show_458 ?_
                refine lv_i2l (v := (f5 (nI tw).toNatClampNeg).toInt64) hx hb dX11_show_459 (rfl) ?_
                refine lv_lmul hx hb dX11_show_460 ?_
                refine lv_ldc2 (v := 1000) hx hb hown (hts _ (List.mem_cons_of_mem _ (List.mem_append_left _ (List.mem_append_right _ (List.mem_append_left _ (List.mem_of_getElem? (i := 1) rfl)))))) dX11_show_461 ?_
                refine lv_ldiv hx hb dX11_show_464 (by decide) ?_
                refine y_last F hP hD hS k416 (vp_in_nI (n := sh) (N := 200) (by omega) (by decide)) dX11_show_465 (fun w466 ew467 H locs hP hD hS => ?_)
                have k468 := wd_at.pt ew467 k385 (tg_ne ty tm48 (by decide))
                have k469 := wd_at.pt ew467 k386 (tg_ne tm5 tm48 (by decide))
                have k470 := wd_at.pt ew467 k387 (tg_ne tm6 tm48 (by decide))
                have k471 := wd_at.pt ew467 k388 (tg_ne tm8 tm48 (by decide))
                have k472 := wd_at.pt ew467 k389 (tg_ne tm9 tm48 (by decide))
                have k473 := wd_at.pt ew467 k390 (tg_ne tm10 tm48 (by decide))
                have k474 := wd_at.pt ew467 k391 (tg_ne tm11 tm48 (by decide))
                have k475 := wd_at.pt ew467 k392 (tg_ne tm12 tm48 (by decide))
                have k476 := wd_at.pt ew467 k393 (tg_ne tm13 tm48 (by decide))
                have k477 := wd_at.pt ew467 k394 (tg_ne tm14 tm48 (by decide))
                have k478 := wd_at.pt ew467 k395 (tg_ne tm17 tm48 (by decide))
                have k479 := wd_at.pt ew467 k396 (tg_ne tm18 tm48 (by decide))
                have k480 := wd_at.pt ew467 k397 (tg_ne tm19 tm48 (by decide))
                have k481 := wd_at.pt ew467 k398 (tg_ne tm20 tm48 (by decide))
                have k482 := wd_at.pt ew467 k399 (tg_ne tm21 tm48 (by decide))
                have k483 := wd_at.pt ew467 k400 (tg_ne tm22 tm48 (by decide))
                have k484 := wd_at.pt ew467 k401 (tg_ne tm29 tm48 (by decide))
                have k485 := wd_at.pt ew467 k402 (tg_ne tm30 tm48 (by decide))
                have k486 := wd_at.pt ew467 k403 (tg_ne tm31 tm48 (by decide))
                have k487 := wd_at.pt ew467 k404 (tg_ne tm32 tm48 (by decide))
                have k488 := wd_at.pt ew467 k405 (tg_ne tm33 tm48 (by decide))
                have k489 := wd_at.pt ew467 k406 (tg_ne tm34 tm48 (by decide))
                have k490 := wd_at.pt ew467 k407 (tg_ne tm39 tm48 (by decide))
                have k491 := wd_at.pt ew467 k408 (tg_ne tm40 tm48 (by decide))
                have k492 := wd_at.pt ew467 k409 (tg_ne tm41 tm48 (by decide))
                have k493 := wd_at.pt ew467 k410 (tg_ne tm42 tm48 (by decide))
                have k494 := wd_at.pt ew467 k411 (tg_ne tm43 tm48 (by decide))
                have k495 := wd_at.pt ew467 k412 (tg_ne tm44 tm48 (by decide))
                have k496 := wd_at.pt ew467 k413 (tg_ne tm45 tm48 (by decide))
                have k497 := wd_at.pt ew467 k414 (tg_ne tm46 tm48 (by decide))
                have k498 := wd_at.pt ew467 k415 (tg_ne tm47 tm48 (by decide))
                have k499 : wd_at w466 m48 (.inl (cy 3, 200, .inr (.inl (vp_updL (vp_updL f48 (nI sh).toNatClampNeg 0) (nI sh).toNatClampNeg ((vv.toInt64 * ((f5 (nI tw).toNatClampNeg).toInt64)) / 1000))))) := wd_at.ps ew467 k416
                have k500 := wd_at.pt ew467 k417 (tg_ne tm2 tm48 (by decide))
                have k501 := wd_at.pt ew467 k418 (tg_ne tm3 tm48 (by decide))
                have k502 := wd_at.pt ew467 k419 (tg_ne tm23 tm48 (by decide))
                have fm503 : ∀ k9, k9 < 12 → qp k9 = some (pr k9) ∧ wd_at w466 (pr k9) (.inl (cy 2, 12, .inl (fp k9))) ∧ tg (pr k9) = 11000 + k9 := fun k9 hi9 => ⟨(fm420 k9 hi9).1, wd_at.pt ew467 (fm420 k9 hi9).2.1 (tg_ne (fm420 k9 hi9).2.2 tm48 (tnA (show 10148 < 11000 by decide))), (fm420 k9 hi9).2.2⟩
                have fm504 : ∀ k9, k9 < 12 → qw k9 = some (wr k9) ∧ wd_at w466 (wr k9) (.inl (cy 2, 12, .inl (fw k9))) ∧ tg (wr k9) = 12000 + k9 := fun k9 hi9 => ⟨(fm421 k9 hi9).1, wd_at.pt ew467 (fm421 k9 hi9).2.1 (tg_ne (fm421 k9 hi9).2.2 tm48 (tnA (show 10148 < 12000 by decide))), (fm421 k9 hi9).2.2⟩
                have fm505 : ∀ k9, k9 < 60 → qs k9 = some (sr k9) ∧ wd_at w466 (sr k9) (.inl (cy 2, 12, .inl (fs k9))) ∧ tg (sr k9) = 13000 + k9 := fun k9 hi9 => ⟨(fm422 k9 hi9).1, wd_at.pt ew467 (fm422 k9 hi9).2.1 (tg_ne (fm422 k9 hi9).2.2 tm48 (tnA (show 10148 < 13000 by decide))), (fm422 k9 hi9).2.2⟩
                have kp506 := kp423.put ew467 s913
                refine lv_aload_n hx hb dX11_show_466 rfl (lv_at hl 0 rfl) ?_
                refine lv_iload_n hx hb dX11_show_467 rfl (lv_at hl 1 rfl) ?_
                refine lv_iconst (v := 0) hx hb dX11_show_468 (by decide) ?_
                refine x_callV (n := 2) (As := [.int (nI tw), .int 0]) (rest := []) F hP hD hS (m_sends l D cy sk sv w466 tg y m2 m3 m4 m5 m6 m8 m9 m10 m11 m12 m13 m14 m17 m18 m19 m20 m21 m22 m23 m24 m29 m30 m31 m32 m33 m34 m35 m36 m37 m39 m40 m41 m42 m43 m44 m45 m46 m47 m48 m49 m51 m52 m53 m54 m56 m57 m58 m59 pc ac sc ln sh gf v0 td v26 v27 v28 v50 f6 qp pr fp qw wr fw (nI tw) 0 k468 k470 k500 k501 fm503 fm504 (fun b => b = m6) rfl ty tm6 tm2 tm3) gX11_show_X11_sends rfl rfl (by decide +kernel) ⟨(Nat.le_of_ble_eq_true rfl), (Nat.le_of_ble_eq_true rfl)⟩ rfl hl.1 (Nat.le_of_ble_eq_true rfl) k468 rfl dX11_show_469 rfl ⟨(Nat.le_of_ble_eq_true rfl), (Nat.le_of_ble_eq_true rfl)⟩ (fun v508 w509 hp507 H locs hP hD hS => ?_)
                obtain ⟨gx510, rfl, kq512, k511⟩ := hp507
                have k513 := kq512.2 _ _ k468 (tg_ne ty tm6 (by decide))
                have k514 := kq512.2 _ _ k469 (tg_ne tm5 tm6 (by decide))
                have k515 := kq512.2 _ _ k471 (tg_ne tm8 tm6 (by decide))
                have k516 := kq512.2 _ _ k472 (tg_ne tm9 tm6 (by decide))
                have k517 := kq512.2 _ _ k473 (tg_ne tm10 tm6 (by decide))
                have k518 := kq512.2 _ _ k474 (tg_ne tm11 tm6 (by decide))
                have k519 := kq512.2 _ _ k475 (tg_ne tm12 tm6 (by decide))
                have k520 := kq512.2 _ _ k476 (tg_ne tm13 tm6 (by decide))
                have k521 := kq512.2 _ _ k477 (tg_ne tm14 tm6 (by decide))
                have k522 := kq512.2 _ _ k478 (tg_ne tm17 tm6 (by decide))
                have k523 := kq512.2 _ _ k479 (tg_ne tm18 tm6 (by decide))
                have k524 := kq512.2 _ _ k480 (tg_ne tm19 tm6 (by decide))
                have k525 := kq512.2 _ _ k481 (tg_ne tm20 tm6 (by decide))
                have k526 := kq512.2 _ _ k482 (tg_ne tm21 tm6 (by decide))
                have k527 := kq512.2 _ _ k483 (tg_ne tm22 tm6 (by decide))
                have k528 := kq512.2 _ _ k484 (tg_ne tm29 tm6 (by decide))
                have k529 := kq512.2 _ _ k485 (tg_ne tm30 tm6 (by decide))
                have k530 := kq512.2 _ _ k486 (tg_ne tm31 tm6 (by decide))
                have k531 := kq512.2 _ _ k487 (tg_ne tm32 tm6 (by decide))
                have k532 := kq512.2 _ _ k488 (tg_ne tm33 tm6 (by decide))
                have k533 := kq512.2 _ _ k489 (tg_ne tm34 tm6 (by decide))
                have k534 := kq512.2 _ _ k490 (tg_ne tm39 tm6 (by decide))
                have k535 := kq512.2 _ _ k491 (tg_ne tm40 tm6 (by decide))
                have k536 := kq512.2 _ _ k492 (tg_ne tm41 tm6 (by decide))
                have k537 := kq512.2 _ _ k493 (tg_ne tm42 tm6 (by decide))
                have k538 := kq512.2 _ _ k494 (tg_ne tm43 tm6 (by decide))
                have k539 := kq512.2 _ _ k495 (tg_ne tm44 tm6 (by decide))
                have k540 := kq512.2 _ _ k496 (tg_ne tm45 tm6 (by decide))
                have k541 := kq512.2 _ _ k497 (tg_ne tm46 tm6 (by decide))
                have k542 := kq512.2 _ _ k498 (tg_ne tm47 tm6 (by decide))
                have k543 := kq512.2 _ _ k499 (tg_ne tm48 tm6 (by decide))
                have k544 := kq512.2 _ _ k500 (tg_ne tm2 tm6 (by decide))
                have k545 := kq512.2 _ _ k501 (tg_ne tm3 tm6 (by decide))
                have k546 := kq512.2 _ _ k502 (tg_ne tm23 tm6 (by decide))
                have fm547 : ∀ k9, k9 < 12 → qp k9 = some (pr k9) ∧ wd_at w509 (pr k9) (.inl (cy 2, 12, .inl (fp k9))) ∧ tg (pr k9) = 11000 + k9 := fun k9 hi9 => ⟨(fm503 k9 hi9).1, kq512.2 _ _ (fm503 k9 hi9).2.1 (tg_ne (fm503 k9 hi9).2.2 tm6 (tnA (show 10106 < 11000 by decide))), (fm503 k9 hi9).2.2⟩
                have fm548 : ∀ k9, k9 < 12 → qw k9 = some (wr k9) ∧ wd_at w509 (wr k9) (.inl (cy 2, 12, .inl (fw k9))) ∧ tg (wr k9) = 12000 + k9 := fun k9 hi9 => ⟨(fm504 k9 hi9).1, kq512.2 _ _ (fm504 k9 hi9).2.1 (tg_ne (fm504 k9 hi9).2.2 tm6 (tnA (show 10106 < 12000 by decide))), (fm504 k9 hi9).2.2⟩
                have fm549 : ∀ k9, k9 < 60 → qs k9 = some (sr k9) ∧ wd_at w509 (sr k9) (.inl (cy 2, 12, .inl (fs k9))) ∧ tg (sr k9) = 13000 + k9 := fun k9 hi9 => ⟨(fm505 k9 hi9).1, kq512.2 _ _ (fm505 k9 hi9).2.1 (tg_ne (fm505 k9 hi9).2.2 tm6 (tnA (show 10106 < 13000 by decide))), (fm505 k9 hi9).2.2⟩
                have kp550 := kp506.tr kq512 (fun b9 hm q9 => (fun q9 => q9 ▸ s91) q9)
                refine W.eq (g2 := F0 m 472 ls []) rfl (W.widen (k := 0) (n := 0) (Nat.le_of_ble_eq_true rfl) (Nat.le_of_ble_eq_true rfl) ?_)
                refine lv_aload_n hx hb dX11_show_472 rfl (lv_at hl 0 rfl) ?_
                refine x_get (ref := "NoteHouseModel") F hP k513 rfl (fun _ h => List.mem_cons_of_mem _ (List.mem_append_right _ (h))) 47 (Nat.le_of_ble_eq_true rfl) (List.mem_cons_of_mem _ (List.mem_append_left _ (List.mem_append_left _ (List.mem_of_getElem? (i := 22) rfl)))) rfl rfl dX11_show_473 ?_
                refine lv_aload_n hx hb dX11_show_476 rfl (lv_at hl 0 rfl) ?_
                refine x_get (ref := "NoteHouseModel") F hP k513 rfl (fun _ h => List.mem_cons_of_mem _ (List.mem_append_right _ (h))) 38 (Nat.le_of_ble_eq_true rfl) (List.mem_cons_of_mem _ (List.mem_append_left _ (List.mem_append_left _ (List.mem_of_getElem? (i := 0) rfl)))) rfl rfl dX11_show_477 ?_
                refine lv_aload_n hx hb dX11_show_480 rfl (lv_at hl 0 rfl) ?_
                refine x_get (ref := "NoteHouseModel") F hP k513 rfl (fun _ h => List.mem_cons_of_mem _ (List.mem_append_right _ (h))) 6 (Nat.le_of_ble_eq_true rfl) (List.mem_cons_of_mem _ (List.mem_append_left _ (List.mem_append_right _ (List.mem_append_left _ (List.mem_of_getElem? (i := 2) rfl))))) rfl rfl dX11_show_481 ?_
                refine lv_iconst (v := 0) hx hb dX11_show_484 (by decide) ?_
                refine x_iald F hP k511 (vp_in_iff.mpr ⟨by decide, by decide⟩) dX11_show_485 ?_
                refine lv_ldc (v := 268435456) hx hb hown (hts _ (List.mem_cons_of_mem _ (List.mem_append_left _ (List.mem_append_left _ (List.mem_of_getElem? (i := 23) rfl))))) dX11_show_486 ?_
                refine lv_icmp_ne (tgt := 496) hx hb dX11_show_488 (by decide) (fun c_551 => ?_) (fun c_551 => ?_)
                · refine lv_aload_n hx hb dX11_show_496 rfl (lv_at hl 0 rfl) ?_
                  refine x_get (ref := "NoteHouseModel") F hP k513 rfl (fun _ h => List.mem_cons_of_mem _ (List.mem_append_right _ (h))) 1 (Nat.le_of_ble_eq_true rfl) (List.mem_cons_of_mem _ (List.mem_append_left _ (List.mem_append_left _ (List.mem_of_getElem? (i := 20) rfl)))) rfl rfl dX11_show_497 ?_
                  refine lv_aload_n hx hb dX11_show_500 rfl (lv_at hl 0 rfl) ?_
                  refine x_get (ref := "NoteHouseModel") F hP k513 rfl (fun _ h => List.mem_cons_of_mem _ (List.mem_append_right _ (h))) 6 (Nat.le_of_ble_eq_true rfl) (List.mem_cons_of_mem _ (List.mem_append_left _ (List.mem_append_right _ (List.mem_append_left _ (List.mem_of_getElem? (i := 2) rfl))))) rfl rfl dX11_show_501 ?_
                  refine lv_iconst (v := 0) hx hb dX11_show_504 (by decide) ?_
                  refine x_iald F hP k511 (vp_in_iff.mpr ⟨by decide, by decide⟩) dX11_show_505 ?_
                  refine lv_iadd hx hb dX11_show_506 ?_
                  refine y_iast F hP hD hS k542 (vp_in_nI (n := sh) (N := 200) (by omega) (by decide)) dX11_show_507 (fun w552 ew553 H locs hP hD hS => ?_)
                  have k554 := wd_at.pt ew553 k513 (tg_ne ty tm47 (by decide))
                  have k555 := wd_at.pt ew553 k514 (tg_ne tm5 tm47 (by decide))
                  have k556 := wd_at.pt ew553 k511 (tg_ne tm6 tm47 (by decide))
                  have k557 := wd_at.pt ew553 k515 (tg_ne tm8 tm47 (by decide))
                  have k558 := wd_at.pt ew553 k516 (tg_ne tm9 tm47 (by decide))
                  have k559 := wd_at.pt ew553 k517 (tg_ne tm10 tm47 (by decide))
                  have k560 := wd_at.pt ew553 k518 (tg_ne tm11 tm47 (by decide))
                  have k561 := wd_at.pt ew553 k519 (tg_ne tm12 tm47 (by decide))
                  have k562 := wd_at.pt ew553 k520 (tg_ne tm13 tm47 (by decide))
                  have k563 := wd_at.pt ew553 k521 (tg_ne tm14 tm47 (by decide))
                  have k564 := wd_at.pt ew553 k522 (tg_ne tm17 tm47 (by decide))
                  have k565 := wd_at.pt ew553 k523 (tg_ne tm18 tm47 (by decide))
                  have k566 := wd_at.pt ew553 k524 (tg_ne tm19 tm47 (by decide))
                  have k567 := wd_at.pt ew553 k525 (tg_ne tm20 tm47 (by decide))
                  have k568 := wd_at.pt ew553 k526 (tg_ne tm21 tm47 (by decide))
                  have k569 := wd_at.pt ew553 k527 (tg_ne tm22 tm47 (by decide))
                  have k570 := wd_at.pt ew553 k528 (tg_ne tm29 tm47 (by decide))
                  have k571 := wd_at.pt ew553 k529 (tg_ne tm30 tm47 (by decide))
                  have k572 := wd_at.pt ew553 k530 (tg_ne tm31 tm47 (by decide))
                  have k573 := wd_at.pt ew553 k531 (tg_ne tm32 tm47 (by decide))
                  have k574 := wd_at.pt ew553 k532 (tg_ne tm33 tm47 (by decide))
                  have k575 := wd_at.pt ew553 k533 (tg_ne tm34 tm47 (by decide))
                  have k576 := wd_at.pt ew553 k534 (tg_ne tm39 tm47 (by decide))
                  have k577 := wd_at.pt ew553 k535 (tg_ne tm40 tm47 (by decide))
                  have k578 := wd_at.pt ew553 k536 (tg_ne tm41 tm47 (by decide))
                  have k579 := wd_at.pt ew553 k537 (tg_ne tm42 tm47 (by decide))
                  have k580 := wd_at.pt ew553 k538 (tg_ne tm43 tm47 (by decide))
                  have k581 := wd_at.pt ew553 k539 (tg_ne tm44 tm47 (by decide))
                  have k582 := wd_at.pt ew553 k540 (tg_ne tm45 tm47 (by decide))
                  have k583 := wd_at.pt ew553 k541 (tg_ne tm46 tm47 (by decide))
                  have k584 : wd_at w552 m47 (.inl (cy 2, 200, .inl (upd (upd f47 (nI sh).toNatClampNeg 268435456) (nI sh).toNatClampNeg (td + (gx510 (0 : Int32).toNatClampNeg))))) := wd_at.ps ew553 k542
                  have k585 := wd_at.pt ew553 k543 (tg_ne tm48 tm47 (by decide))
                  have k586 := wd_at.pt ew553 k544 (tg_ne tm2 tm47 (by decide))
                  have k587 := wd_at.pt ew553 k545 (tg_ne tm3 tm47 (by decide))
                  have k588 := wd_at.pt ew553 k546 (tg_ne tm23 tm47 (by decide))
                  have fm589 : ∀ k9, k9 < 12 → qp k9 = some (pr k9) ∧ wd_at w552 (pr k9) (.inl (cy 2, 12, .inl (fp k9))) ∧ tg (pr k9) = 11000 + k9 := fun k9 hi9 => ⟨(fm547 k9 hi9).1, wd_at.pt ew553 (fm547 k9 hi9).2.1 (tg_ne (fm547 k9 hi9).2.2 tm47 (tnA (show 10147 < 11000 by decide))), (fm547 k9 hi9).2.2⟩
                  have fm590 : ∀ k9, k9 < 12 → qw k9 = some (wr k9) ∧ wd_at w552 (wr k9) (.inl (cy 2, 12, .inl (fw k9))) ∧ tg (wr k9) = 12000 + k9 := fun k9 hi9 => ⟨(fm548 k9 hi9).1, wd_at.pt ew553 (fm548 k9 hi9).2.1 (tg_ne (fm548 k9 hi9).2.2 tm47 (tnA (show 10147 < 12000 by decide))), (fm548 k9 hi9).2.2⟩
                  have fm591 : ∀ k9, k9 < 60 → qs k9 = some (sr k9) ∧ wd_at w552 (sr k9) (.inl (cy 2, 12, .inl (fs k9))) ∧ tg (sr k9) = 13000 + k9 := fun k9 hi9 => ⟨(fm549 k9 hi9).1, wd_at.pt ew553 (fm549 k9 hi9).2.1 (tg_ne (fm549 k9 hi9).2.2 tm47 (tnA (show 10147 < 13000 by decide))), (fm549 k9 hi9).2.2⟩
                  have kp592 := kp550.put ew553 s912
                  refine lv_aload_n hx hb dX11_show_508 rfl (lv_at hl 0 rfl) ?_
                  refine x_get (ref := "NoteHouseModel") F hP k554 rfl (fun _ h => List.mem_cons_of_mem _ (List.mem_append_right _ (h))) 14 (Nat.le_of_ble_eq_true rfl) (List.mem_cons_of_mem _ (List.mem_append_left _ (List.mem_append_right _ (List.mem_append_left _ (List.mem_of_getElem? (i := 3) rfl))))) rfl rfl dX11_show_509 ?_
                  refine lv_iload_n hx hb dX11_show_512 rfl (lv_at hl 2 rfl) ?_
                  refine lv_dup2_11 hx hb dX11_show_513 rfl rfl ?_
                  refine x_iald F hP k563 (vp_in_nI (n := pp) (N := 30) (by omega) (by decide)) dX11_show_514 ?_
                  refine lv_iconst (v := 1) hx hb dX11_show_515 (by decide) ?_
                  refine lv_iadd hx hb dX11_show_516 ?_
                  refine y_iast F hP hD hS k563 (vp_in_nI (n := pp) (N := 30) (by omega) (by decide)) dX11_show_517 (fun w593 ew594 H locs hP hD hS => ?_)
                  have k595 := wd_at.pt ew594 k554 (tg_ne ty tm14 (by decide))
                  have k596 := wd_at.pt ew594 k555 (tg_ne tm5 tm14 (by decide))
                  have k597 := wd_at.pt ew594 k556 (tg_ne tm6 tm14 (by decide))
                  have k598 := wd_at.pt ew594 k557 (tg_ne tm8 tm14 (by decide))
                  have k599 := wd_at.pt ew594 k558 (tg_ne tm9 tm14 (by decide))
                  have k600 := wd_at.pt ew594 k559 (tg_ne tm10 tm14 (by decide))
                  have k601 := wd_at.pt ew594 k560 (tg_ne tm11 tm14 (by decide))
                  have k602 := wd_at.pt ew594 k561 (tg_ne tm12 tm14 (by decide))
                  have k603 := wd_at.pt ew594 k562 (tg_ne tm13 tm14 (by decide))
                  have k604 : wd_at w593 m14 (.inl (cy 2, 30, .inl (upd f14 (nI pp).toNatClampNeg ((f14 (nI pp).toNatClampNeg) + 1)))) := wd_at.ps ew594 k563
                  have k605 := wd_at.pt ew594 k564 (tg_ne tm17 tm14 (by decide))
                  have k606 := wd_at.pt ew594 k565 (tg_ne tm18 tm14 (by decide))
                  have k607 := wd_at.pt ew594 k566 (tg_ne tm19 tm14 (by decide))
                  have k608 := wd_at.pt ew594 k567 (tg_ne tm20 tm14 (by decide))
                  have k609 := wd_at.pt ew594 k568 (tg_ne tm21 tm14 (by decide))
                  have k610 := wd_at.pt ew594 k569 (tg_ne tm22 tm14 (by decide))
                  have k611 := wd_at.pt ew594 k570 (tg_ne tm29 tm14 (by decide))
                  have k612 := wd_at.pt ew594 k571 (tg_ne tm30 tm14 (by decide))
                  have k613 := wd_at.pt ew594 k572 (tg_ne tm31 tm14 (by decide))
                  have k614 := wd_at.pt ew594 k573 (tg_ne tm32 tm14 (by decide))
                  have k615 := wd_at.pt ew594 k574 (tg_ne tm33 tm14 (by decide))
                  have k616 := wd_at.pt ew594 k575 (tg_ne tm34 tm14 (by decide))
                  have k617 := wd_at.pt ew594 k576 (tg_ne tm39 tm14 (by decide))
                  have k618 := wd_at.pt ew594 k577 (tg_ne tm40 tm14 (by decide))
                  have k619 := wd_at.pt ew594 k578 (tg_ne tm41 tm14 (by decide))
                  have k620 := wd_at.pt ew594 k579 (tg_ne tm42 tm14 (by decide))
                  have k621 := wd_at.pt ew594 k580 (tg_ne tm43 tm14 (by decide))
                  have k622 := wd_at.pt ew594 k581 (tg_ne tm44 tm14 (by decide))
                  have k623 := wd_at.pt ew594 k582 (tg_ne tm45 tm14 (by decide))
                  have k624 := wd_at.pt ew594 k583 (tg_ne tm46 tm14 (by decide))
                  have k625 := wd_at.pt ew594 k584 (tg_ne tm47 tm14 (by decide))
                  have k626 := wd_at.pt ew594 k585 (tg_ne tm48 tm14 (by decide))
                  have k627 := wd_at.pt ew594 k586 (tg_ne tm2 tm14 (by decide))
                  have k628 := wd_at.pt ew594 k587 (tg_ne tm3 tm14 (by decide))
                  have k629 := wd_at.pt ew594 k588 (tg_ne tm23 tm14 (by decide))
                  have fm630 : ∀ k9, k9 < 12 → qp k9 = some (pr k9) ∧ wd_at w593 (pr k9) (.inl (cy 2, 12, .inl (fp k9))) ∧ tg (pr k9) = 11000 + k9 := fun k9 hi9 => ⟨(fm589 k9 hi9).1, wd_at.pt ew594 (fm589 k9 hi9).2.1 (tg_ne (fm589 k9 hi9).2.2 tm14 (tnA (show 10114 < 11000 by decide))), (fm589 k9 hi9).2.2⟩
                  have fm631 : ∀ k9, k9 < 12 → qw k9 = some (wr k9) ∧ wd_at w593 (wr k9) (.inl (cy 2, 12, .inl (fw k9))) ∧ tg (wr k9) = 12000 + k9 := fun k9 hi9 => ⟨(fm590 k9 hi9).1, wd_at.pt ew594 (fm590 k9 hi9).2.1 (tg_ne (fm590 k9 hi9).2.2 tm14 (tnA (show 10114 < 12000 by decide))), (fm590 k9 hi9).2.2⟩
                  have fm632 : ∀ k9, k9 < 60 → qs k9 = some (sr k9) ∧ wd_at w593 (sr k9) (.inl (cy 2, 12, .inl (fs k9))) ∧ tg (sr k9) = 13000 + k9 := fun k9 hi9 => ⟨(fm591 k9 hi9).1, wd_at.pt ew594 (fm591 k9 hi9).2.1 (tg_ne (fm591 k9 hi9).2.2 tm14 (tnA (show 10114 < 13000 by decide))), (fm591 k9 hi9).2.2⟩
                  have kp633 := kp592.put ew594 s93
                  refine lv_aload_n hx hb dX11_show_518 rfl (lv_at hl 0 rfl) ?_
                  refine x_get (ref := "NoteHouseModel") F hP k595 rfl (fun _ h => List.mem_cons_of_mem _ (List.mem_append_right _ (h))) 13 (Nat.le_of_ble_eq_true rfl) (List.mem_cons_of_mem _ (List.mem_append_left _ (List.mem_append_right _ (List.mem_append_left _ (List.mem_of_getElem? (i := 4) rfl))))) rfl rfl dX11_show_519 ?_
                  refine lv_iload_n hx hb dX11_show_522 rfl (lv_at hl 2 rfl) ?_
                  refine lv_dup2_11 hx hb dX11_show_523 rfl rfl ?_
                  refine x_iald F hP k603 (vp_in_nI (n := pp) (N := 30) (by omega) (by decide)) dX11_show_524 ?_
                  refine lv_iload hx hb dX11_show_525 (lv_at hl 7 rfl) ?_
                  refine lv_if_ne (tgt := 540) hx hb dX11_show_527 (by decide) (fun c_634 => ?_) (fun c_634 => ?_)
                  · refine lv_iconst (v := 0) hx hb dX11_show_540 (by decide) ?_
                    refine lv_iadd hx hb dX11_show_541 ?_
                    refine y_iast F hP hD hS k603 (vp_in_nI (n := pp) (N := 30) (by omega) (by decide)) dX11_show_542 (fun w635 ew636 H locs hP hD hS => ?_)
                    have k637 := wd_at.pt ew636 k595 (tg_ne ty tm13 (by decide))
                    have k638 := wd_at.pt ew636 k596 (tg_ne tm5 tm13 (by decide))
                    have k639 := wd_at.pt ew636 k597 (tg_ne tm6 tm13 (by decide))
                    have k640 := wd_at.pt ew636 k598 (tg_ne tm8 tm13 (by decide))
                    have k641 := wd_at.pt ew636 k599 (tg_ne tm9 tm13 (by decide))
                    have k642 := wd_at.pt ew636 k600 (tg_ne tm10 tm13 (by decide))
                    have k643 := wd_at.pt ew636 k601 (tg_ne tm11 tm13 (by decide))
                    have k644 := wd_at.pt ew636 k602 (tg_ne tm12 tm13 (by decide))
                    have k645 : wd_at w635 m13 (.inl (cy 2, 30, .inl (upd f13 (nI pp).toNatClampNeg ((f13 (nI pp).toNatClampNeg) + 0)))) := wd_at.ps ew636 k603
                    have k646 := wd_at.pt ew636 k604 (tg_ne tm14 tm13 (by decide))
                    have k647 := wd_at.pt ew636 k605 (tg_ne tm17 tm13 (by decide))
                    have k648 := wd_at.pt ew636 k606 (tg_ne tm18 tm13 (by decide))
                    have k649 := wd_at.pt ew636 k607 (tg_ne tm19 tm13 (by decide))
                    have k650 := wd_at.pt ew636 k608 (tg_ne tm20 tm13 (by decide))
                    have k651 := wd_at.pt ew636 k609 (tg_ne tm21 tm13 (by decide))
                    have k652 := wd_at.pt ew636 k610 (tg_ne tm22 tm13 (by decide))
                    have k653 := wd_at.pt ew636 k611 (tg_ne tm29 tm13 (by decide))
                    have k654 := wd_at.pt ew636 k612 (tg_ne tm30 tm13 (by decide))
                    have k655 := wd_at.pt ew636 k613 (tg_ne tm31 tm13 (by decide))
                    have k656 := wd_at.pt ew636 k614 (tg_ne tm32 tm13 (by decide))
                    have k657 := wd_at.pt ew636 k615 (tg_ne tm33 tm13 (by decide))
                    have k658 := wd_at.pt ew636 k616 (tg_ne tm34 tm13 (by decide))
                    have k659 := wd_at.pt ew636 k617 (tg_ne tm39 tm13 (by decide))
                    have k660 := wd_at.pt ew636 k618 (tg_ne tm40 tm13 (by decide))
                    have k661 := wd_at.pt ew636 k619 (tg_ne tm41 tm13 (by decide))
                    have k662 := wd_at.pt ew636 k620 (tg_ne tm42 tm13 (by decide))
                    have k663 := wd_at.pt ew636 k621 (tg_ne tm43 tm13 (by decide))
                    have k664 := wd_at.pt ew636 k622 (tg_ne tm44 tm13 (by decide))
                    have k665 := wd_at.pt ew636 k623 (tg_ne tm45 tm13 (by decide))
                    have k666 := wd_at.pt ew636 k624 (tg_ne tm46 tm13 (by decide))
                    have k667 := wd_at.pt ew636 k625 (tg_ne tm47 tm13 (by decide))
                    have k668 := wd_at.pt ew636 k626 (tg_ne tm48 tm13 (by decide))
                    have k669 := wd_at.pt ew636 k627 (tg_ne tm2 tm13 (by decide))
                    have k670 := wd_at.pt ew636 k628 (tg_ne tm3 tm13 (by decide))
                    have k671 := wd_at.pt ew636 k629 (tg_ne tm23 tm13 (by decide))
                    have fm672 : ∀ k9, k9 < 12 → qp k9 = some (pr k9) ∧ wd_at w635 (pr k9) (.inl (cy 2, 12, .inl (fp k9))) ∧ tg (pr k9) = 11000 + k9 := fun k9 hi9 => ⟨(fm630 k9 hi9).1, wd_at.pt ew636 (fm630 k9 hi9).2.1 (tg_ne (fm630 k9 hi9).2.2 tm13 (tnA (show 10113 < 11000 by decide))), (fm630 k9 hi9).2.2⟩
                    have fm673 : ∀ k9, k9 < 12 → qw k9 = some (wr k9) ∧ wd_at w635 (wr k9) (.inl (cy 2, 12, .inl (fw k9))) ∧ tg (wr k9) = 12000 + k9 := fun k9 hi9 => ⟨(fm631 k9 hi9).1, wd_at.pt ew636 (fm631 k9 hi9).2.1 (tg_ne (fm631 k9 hi9).2.2 tm13 (tnA (show 10113 < 12000 by decide))), (fm631 k9 hi9).2.2⟩
                    have fm674 : ∀ k9, k9 < 60 → qs k9 = some (sr k9) ∧ wd_at w635 (sr k9) (.inl (cy 2, 12, .inl (fs k9))) ∧ tg (sr k9) = 13000 + k9 := fun k9 hi9 => ⟨(fm632 k9 hi9).1, wd_at.pt ew636 (fm632 k9 hi9).2.1 (tg_ne (fm632 k9 hi9).2.2 tm13 (tnA (show 10113 < 13000 by decide))), (fm632 k9 hi9).2.2⟩
                    have kp675 := kp633.put ew636 s92
                    refine lv_aload_n hx hb dX11_show_543 rfl (lv_at hl 0 rfl) ?_
                    refine lv_dup hx hb dX11_show_544 rfl ?_
                    refine x_get (ref := "NoteHouseModel") F hP k637 rfl (fun _ h => List.mem_cons_of_mem _ (List.mem_append_right _ (h))) 38 (Nat.le_of_ble_eq_true rfl) (List.mem_cons_of_mem _ (List.mem_append_left _ (List.mem_append_left _ (List.mem_of_getElem? (i := 0) rfl)))) rfl rfl dX11_show_545 ?_
                    refine lv_iconst (v := 1) hx hb dX11_show_548 (by decide) ?_
                    refine lv_iadd hx hb dX11_show_549 ?_
                    rw [show ((nI sh) + 1 : Int32) = nI (sh + 1) from nI_add sh 1]
                    refine y_put (ref := "NoteHouseModel") F hP hD hS k637 rfl (fun _ h => List.mem_cons_of_mem _ (List.mem_append_right _ (h))) tyX11_ok nmX11 38 (Nat.le_of_ble_eq_true rfl) (List.mem_cons_of_mem _ (List.mem_append_left _ (List.mem_append_left _ (List.mem_of_getElem? (i := 0) rfl)))) rfl rfl rfl rfl (Nat.le_of_ble_eq_true rfl) dX11_show_550 (fun w676 ew677 H locs hP hD hS => ?_)
                    have k678 : wd_at w676 y (.inr (11, [.int v0, .int td, .ref m2, .ref m3, .ref m4, .ref m5, .ref m6, .int (nI pc), .ref m8, .ref m9, .ref m10, .ref m11, .ref m12, .ref m13, .ref m14, .int (nI ac), .int (nI sc), .ref m17, .ref m18, .ref m19, .ref m20, .ref m21, .ref m22, .ref m23, .ref m24, .int (nI ln), .int v26, .int v27, .int v28, .ref m29, .ref m30, .ref m31, .ref m32, .ref m33, .ref m34, .ref m35, .ref m36, .ref m37, .int (nI (sh + 1)), .ref m39, .ref m40, .ref m41, .ref m42, .ref m43, .ref m44, .ref m45, .ref m46, .ref m47, .ref m48, .ref m49, .int v50, .ref m51, .ref m52, .ref m53, .ref m54, .int (nI gf), .ref m56, .ref m57, .ref m58, .ref m59])) := wd_at.ps ew677 k637
                    have k679 := wd_at.pt ew677 k638 (tg_ne tm5 ty (by decide))
                    have k680 := wd_at.pt ew677 k639 (tg_ne tm6 ty (by decide))
                    have k681 := wd_at.pt ew677 k640 (tg_ne tm8 ty (by decide))
                    have k682 := wd_at.pt ew677 k641 (tg_ne tm9 ty (by decide))
                    have k683 := wd_at.pt ew677 k642 (tg_ne tm10 ty (by decide))
                    have k684 := wd_at.pt ew677 k643 (tg_ne tm11 ty (by decide))
                    have k685 := wd_at.pt ew677 k644 (tg_ne tm12 ty (by decide))
                    have k686 := wd_at.pt ew677 k645 (tg_ne tm13 ty (by decide))
                    have k687 := wd_at.pt ew677 k646 (tg_ne tm14 ty (by decide))
                    have k688 := wd_at.pt ew677 k647 (tg_ne tm17 ty (by decide))
                    have k689 := wd_at.pt ew677 k648 (tg_ne tm18 ty (by decide))
                    have k690 := wd_at.pt ew677 k649 (tg_ne tm19 ty (by decide))
                    have k691 := wd_at.pt ew677 k650 (tg_ne tm20 ty (by decide))
                    have k692 := wd_at.pt ew677 k651 (tg_ne tm21 ty (by decide))
                    have k693 := wd_at.pt ew677 k652 (tg_ne tm22 ty (by decide))
                    have k694 := wd_at.pt ew677 k653 (tg_ne tm29 ty (by decide))
                    have k695 := wd_at.pt ew677 k654 (tg_ne tm30 ty (by decide))
                    have k696 := wd_at.pt ew677 k655 (tg_ne tm31 ty (by decide))
                    have k697 := wd_at.pt ew677 k656 (tg_ne tm32 ty (by decide))
                    have k698 := wd_at.pt ew677 k657 (tg_ne tm33 ty (by decide))
                    have k699 := wd_at.pt ew677 k658 (tg_ne tm34 ty (by decide))
                    have k700 := wd_at.pt ew677 k659 (tg_ne tm39 ty (by decide))
                    have k701 := wd_at.pt ew677 k660 (tg_ne tm40 ty (by decide))
                    have k702 := wd_at.pt ew677 k661 (tg_ne tm41 ty (by decide))
                    have k703 := wd_at.pt ew677 k662 (tg_ne tm42 ty (by decide))
                    have k704 := wd_at.pt ew677 k663 (tg_ne tm43 ty (by decide))
                    have k705 := wd_at.pt ew677 k664 (tg_ne tm44 ty (by decide))
                    have k706 := wd_at.pt ew677 k665 (tg_ne tm45 ty (by decide))
                    have k707 := wd_at.pt ew677 k666 (tg_ne tm46 ty (by decide))
                    have k708 := wd_at.pt ew677 k667 (tg_ne tm47 ty (by decide))
                    have k709 := wd_at.pt ew677 k668 (tg_ne tm48 ty (by decide))
                    have k710 := wd_at.pt ew677 k669 (tg_ne tm2 ty (by decide))
                    have k711 := wd_at.pt ew677 k670 (tg_ne tm3 ty (by decide))
                    have k712 := wd_at.pt ew677 k671 (tg_ne tm23 ty (by decide))
                    have fm713 : ∀ k9, k9 < 12 → qp k9 = some (pr k9) ∧ wd_at w676 (pr k9) (.inl (cy 2, 12, .inl (fp k9))) ∧ tg (pr k9) = 11000 + k9 := fun k9 hi9 => ⟨(fm672 k9 hi9).1, wd_at.pt ew677 (fm672 k9 hi9).2.1 (tg_ne (fm672 k9 hi9).2.2 ty (tnA (show 10000 < 11000 by decide))), (fm672 k9 hi9).2.2⟩
                    have fm714 : ∀ k9, k9 < 12 → qw k9 = some (wr k9) ∧ wd_at w676 (wr k9) (.inl (cy 2, 12, .inl (fw k9))) ∧ tg (wr k9) = 12000 + k9 := fun k9 hi9 => ⟨(fm673 k9 hi9).1, wd_at.pt ew677 (fm673 k9 hi9).2.1 (tg_ne (fm673 k9 hi9).2.2 ty (tnA (show 10000 < 12000 by decide))), (fm673 k9 hi9).2.2⟩
                    have fm715 : ∀ k9, k9 < 60 → qs k9 = some (sr k9) ∧ wd_at w676 (sr k9) (.inl (cy 2, 12, .inl (fs k9))) ∧ tg (sr k9) = 13000 + k9 := fun k9 hi9 => ⟨(fm674 k9 hi9).1, wd_at.pt ew677 (fm674 k9 hi9).2.1 (tg_ne (fm674 k9 hi9).2.2 ty (tnA (show 10000 < 13000 by decide))), (fm674 k9 hi9).2.2⟩
                    have kp716 := kp675.put ew677 s90
                    refine lv_iload hx hb dX11_show_553 (lv_at hl 10 rfl) ?_
                    exact y_ir K hP hD hS (Nat.le_of_ble_eq_true rfl) (Nat.le_of_ble_eq_true rfl) (ty := .int) rfl rfl dX11_show_555 (⟨(sh + 1), gx510, upd f13 (nI pp).toNatClampNeg ((f13 (nI pp).toNatClampNeg) + 0), upd f14 (nI pp).toNatClampNeg ((f14 (nI pp).toNatClampNeg) + 1), upd f39 (nI sh).toNatClampNeg (nI tw), upd f40 (nI sh).toNatClampNeg (nI pp), upd f41 (nI sh).toNatClampNeg x3, upd f42 (nI sh).toNatClampNeg vv, upd f43 (nI sh).toNatClampNeg x5, upd f44 (nI sh).toNatClampNeg ddj, upd f45 (nI sh).toNatClampNeg fdj, upd f46 (nI sh).toNatClampNeg td, upd (upd f47 (nI sh).toNatClampNeg 268435456) (nI sh).toNatClampNeg (td + (gx510 (0 : Int32).toNatClampNeg)), vp_updL (vp_updL f48 (nI sh).toNatClampNeg 0) (nI sh).toNatClampNeg ((vv.toInt64 * ((f5 (nI tw).toNatClampNeg).toInt64)) / 1000), ddj, rfl, ht.a (by omega) (by omega), hp.a (by omega) (by omega), by omega, kp716, k678, k680, k686, k687, k700, k701, k702, k703, k704, k705, k706, k707, k708, k709⟩)
                  · refine lv_iload hx hb dX11_show_530 (lv_at hl 6 rfl) ?_
                    refine lv_if_eq (tgt := 540) hx hb dX11_show_532 (by decide) (fun c_717 => ?_) (fun c_717 => ?_)
                    · refine lv_iconst (v := 0) hx hb dX11_show_540 (by decide) ?_
                      refine lv_iadd hx hb dX11_show_541 ?_
                      refine y_iast F hP hD hS k603 (vp_in_nI (n := pp) (N := 30) (by omega) (by decide)) dX11_show_542 (fun w718 ew719 H locs hP hD hS => ?_)
                      have k720 := wd_at.pt ew719 k595 (tg_ne ty tm13 (by decide))
                      have k721 := wd_at.pt ew719 k596 (tg_ne tm5 tm13 (by decide))
                      have k722 := wd_at.pt ew719 k597 (tg_ne tm6 tm13 (by decide))
                      have k723 := wd_at.pt ew719 k598 (tg_ne tm8 tm13 (by decide))
                      have k724 := wd_at.pt ew719 k599 (tg_ne tm9 tm13 (by decide))
                      have k725 := wd_at.pt ew719 k600 (tg_ne tm10 tm13 (by decide))
                      have k726 := wd_at.pt ew719 k601 (tg_ne tm11 tm13 (by decide))
                      have k727 := wd_at.pt ew719 k602 (tg_ne tm12 tm13 (by decide))
                      have k728 : wd_at w718 m13 (.inl (cy 2, 30, .inl (upd f13 (nI pp).toNatClampNeg ((f13 (nI pp).toNatClampNeg) + 0)))) := wd_at.ps ew719 k603
                      have k729 := wd_at.pt ew719 k604 (tg_ne tm14 tm13 (by decide))
                      have k730 := wd_at.pt ew719 k605 (tg_ne tm17 tm13 (by decide))
                      have k731 := wd_at.pt ew719 k606 (tg_ne tm18 tm13 (by decide))
                      have k732 := wd_at.pt ew719 k607 (tg_ne tm19 tm13 (by decide))
                      have k733 := wd_at.pt ew719 k608 (tg_ne tm20 tm13 (by decide))
                      have k734 := wd_at.pt ew719 k609 (tg_ne tm21 tm13 (by decide))
                      have k735 := wd_at.pt ew719 k610 (tg_ne tm22 tm13 (by decide))
                      have k736 := wd_at.pt ew719 k611 (tg_ne tm29 tm13 (by decide))
                      have k737 := wd_at.pt ew719 k612 (tg_ne tm30 tm13 (by decide))
                      have k738 := wd_at.pt ew719 k613 (tg_ne tm31 tm13 (by decide))
                      have k739 := wd_at.pt ew719 k614 (tg_ne tm32 tm13 (by decide))
                      have k740 := wd_at.pt ew719 k615 (tg_ne tm33 tm13 (by decide))
                      have k741 := wd_at.pt ew719 k616 (tg_ne tm34 tm13 (by decide))
                      have k742 := wd_at.pt ew719 k617 (tg_ne tm39 tm13 (by decide))
                      have k743 := wd_at.pt ew719 k618 (tg_ne tm40 tm13 (by decide))
                      have k744 := wd_at.pt ew719 k619 (tg_ne tm41 tm13 (by decide))
                      have k745 := wd_at.pt ew719 k620 (tg_ne tm42 tm13 (by decide))
                      have k746 := wd_at.pt ew719 k621 (tg_ne tm43 tm13 (by decide))
                      have k747 := wd_at.pt ew719 k622 (tg_ne tm44 tm13 (by decide))
                      have k748 := wd_at.pt ew719 k623 (tg_ne tm45 tm13 (by decide))
                      have k749 := wd_at.pt ew719 k624 (tg_ne tm46 tm13 (by decide))
                      have k750 := wd_at.pt ew719 k625 (tg_ne tm47 tm13 (by decide))
                      have k751 := wd_at.pt ew719 k626 (tg_ne tm48 tm13 (by decide))
                      have k752 := wd_at.pt ew719 k627 (tg_ne tm2 tm13 (by decide))
                      have k753 := wd_at.pt ew719 k628 (tg_ne tm3 tm13 (by decide))
                      have k754 := wd_at.pt ew719 k629 (tg_ne tm23 tm13 (by decide))
                      have fm755 : ∀ k9, k9 < 12 → qp k9 = some (pr k9) ∧ wd_at w718 (pr k9) (.inl (cy 2, 12, .inl (fp k9))) ∧ tg (pr k9) = 11000 + k9 := fun k9 hi9 => ⟨(fm630 k9 hi9).1, wd_at.pt ew719 (fm630 k9 hi9).2.1 (tg_ne (fm630 k9 hi9).2.2 tm13 (tnA (show 10113 < 11000 by decide))), (fm630 k9 hi9).2.2⟩
                      have fm756 : ∀ k9, k9 < 12 → qw k9 = some (wr k9) ∧ wd_at w718 (wr k9) (.inl (cy 2, 12, .inl (fw k9))) ∧ tg (wr k9) = 12000 + k9 := fun k9 hi9 => ⟨(fm631 k9 hi9).1, wd_at.pt ew719 (fm631 k9 hi9).2.1 (tg_ne (fm631 k9 hi9).2.2 tm13 (tnA (show 10113 < 12000 by decide))), (fm631 k9 hi9).2.2⟩
                      have fm757 : ∀ k9, k9 < 60 → qs k9 = some (sr k9) ∧ wd_at w718 (sr k9) (.inl (cy 2, 12, .inl (fs k9))) ∧ tg (sr k9) = 13000 + k9 := fun k9 hi9 => ⟨(fm632 k9 hi9).1, wd_at.pt ew719 (fm632 k9 hi9).2.1 (tg_ne (fm632 k9 hi9).2.2 tm13 (tnA (show 10113 < 13000 by decide))), (fm632 k9 hi9).2.2⟩
                      have kp758 := kp633.put ew719 s92
                      refine lv_aload_n hx hb dX11_show_543 rfl (lv_at hl 0 rfl) ?_
                      refine lv_dup hx hb dX11_show_544 rfl ?_
                      refine x_get (ref := "NoteHouseModel") F hP k720 rfl (fun _ h => List.mem_cons_of_mem _ (List.mem_append_right _ (h))) 38 (Nat.le_of_ble_eq_true rfl) (List.mem_cons_of_mem _ (List.mem_append_left _ (List.mem_append_left _ (List.mem_of_getElem? (i := 0) rfl)))) rfl rfl dX11_show_545 ?_
                      refine lv_iconst (v := 1) hx hb dX11_show_548 (by decide) ?_
                      refine lv_iadd hx hb dX11_show_549 ?_
                      rw [show ((nI sh) + 1 : Int32) = nI (sh + 1) from nI_add sh 1]
                      refine y_put (ref := "NoteHouseModel") F hP hD hS k720 rfl (fun _ h => List.mem_cons_of_mem _ (List.mem_append_right _ (h))) tyX11_ok nmX11 38 (Nat.le_of_ble_eq_true rfl) (List.mem_cons_of_mem _ (List.mem_append_left _ (List.mem_append_left _ (List.mem_of_getElem? (i := 0) rfl)))) rfl rfl rfl rfl (Nat.le_of_ble_eq_true rfl) dX11_show_550 (fun w759 ew760 H locs hP hD hS => ?_)
                      have k761 : wd_at w759 y (.inr (11, [.int v0, .int td, .ref m2, .ref m3, .ref m4, .ref m5, .ref m6, .int (nI pc), .ref m8, .ref m9, .ref m10, .ref m11, .ref m12, .ref m13, .ref m14, .int (nI ac), .int (nI sc), .ref m17, .ref m18, .ref m19, .ref m20, .ref m21, .ref m22, .ref m23, .ref m24, .int (nI ln), .int v26, .int v27, .int v28, .ref m29, .ref m30, .ref m31, .ref m32, .ref m33, .ref m34, .ref m35, .ref m36, .ref m37, .int (nI (sh + 1)), .ref m39, .ref m40, .ref m41, .ref m42, .ref m43, .ref m44, .ref m45, .ref m46, .ref m47, .ref m48, .ref m49, .int v50, .ref m51, .ref m52, .ref m53, .ref m54, .int (nI gf), .ref m56, .ref m57, .ref m58, .ref m59])) := wd_at.ps ew760 k720
                      have k762 := wd_at.pt ew760 k721 (tg_ne tm5 ty (by decide))
                      have k763 := wd_at.pt ew760 k722 (tg_ne tm6 ty (by decide))
                      have k764 := wd_at.pt ew760 k723 (tg_ne tm8 ty (by decide))
                      have k765 := wd_at.pt ew760 k724 (tg_ne tm9 ty (by decide))
                      have k766 := wd_at.pt ew760 k725 (tg_ne tm10 ty (by decide))
                      have k767 := wd_at.pt ew760 k726 (tg_ne tm11 ty (by decide))
                      have k768 := wd_at.pt ew760 k727 (tg_ne tm12 ty (by decide))
                      have k769 := wd_at.pt ew760 k728 (tg_ne tm13 ty (by decide))
                      have k770 := wd_at.pt ew760 k729 (tg_ne tm14 ty (by decide))
                      have k771 := wd_at.pt ew760 k730 (tg_ne tm17 ty (by decide))
                      have k772 := wd_at.pt ew760 k731 (tg_ne tm18 ty (by decide))
                      have k773 := wd_at.pt ew760 k732 (tg_ne tm19 ty (by decide))
                      have k774 := wd_at.pt ew760 k733 (tg_ne tm20 ty (by decide))
                      have k775 := wd_at.pt ew760 k734 (tg_ne tm21 ty (by decide))
                      have k776 := wd_at.pt ew760 k735 (tg_ne tm22 ty (by decide))
                      have k777 := wd_at.pt ew760 k736 (tg_ne tm29 ty (by decide))
                      have k778 := wd_at.pt ew760 k737 (tg_ne tm30 ty (by decide))
                      have k779 := wd_at.pt ew760 k738 (tg_ne tm31 ty (by decide))
                      have k780 := wd_at.pt ew760 k739 (tg_ne tm32 ty (by decide))
                      have k781 := wd_at.pt ew760 k740 (tg_ne tm33 ty (by decide))
                      have k782 := wd_at.pt ew760 k741 (tg_ne tm34 ty (by decide))
                      have k783 := wd_at.pt ew760 k742 (tg_ne tm39 ty (by decide))
                      have k784 := wd_at.pt ew760 k743 (tg_ne tm40 ty (by decide))
                      have k785 := wd_at.pt ew760 k744 (tg_ne tm41 ty (by decide))
                      have k786 := wd_at.pt ew760 k745 (tg_ne tm42 ty (by decide))
                      have k787 := wd_at.pt ew760 k746 (tg_ne tm43 ty (by decide))
                      have k788 := wd_at.pt ew760 k747 (tg_ne tm44 ty (by decide))
                      have k789 := wd_at.pt ew760 k748 (tg_ne tm45 ty (by decide))
                      have k790 := wd_at.pt ew760 k749 (tg_ne tm46 ty (by decide))
                      have k791 := wd_at.pt ew760 k750 (tg_ne tm47 ty (by decide))
                      have k792 := wd_at.pt ew760 k751 (tg_ne tm48 ty (by decide))
                      have k793 := wd_at.pt ew760 k752 (tg_ne tm2 ty (by decide))
                      have k794 := wd_at.pt ew760 k753 (tg_ne tm3 ty (by decide))
                      have k795 := wd_at.pt ew760 k754 (tg_ne tm23 ty (by decide))
                      have fm796 : ∀ k9, k9 < 12 → qp k9 = some (pr k9) ∧ wd_at w759 (pr k9) (.inl (cy 2, 12, .inl (fp k9))) ∧ tg (pr k9) = 11000 + k9 := fun k9 hi9 => ⟨(fm755 k9 hi9).1, wd_at.pt ew760 (fm755 k9 hi9).2.1 (tg_ne (fm755 k9 hi9).2.2 ty (tnA (show 10000 < 11000 by decide))), (fm755 k9 hi9).2.2⟩
                      have fm797 : ∀ k9, k9 < 12 → qw k9 = some (wr k9) ∧ wd_at w759 (wr k9) (.inl (cy 2, 12, .inl (fw k9))) ∧ tg (wr k9) = 12000 + k9 := fun k9 hi9 => ⟨(fm756 k9 hi9).1, wd_at.pt ew760 (fm756 k9 hi9).2.1 (tg_ne (fm756 k9 hi9).2.2 ty (tnA (show 10000 < 12000 by decide))), (fm756 k9 hi9).2.2⟩
                      have fm798 : ∀ k9, k9 < 60 → qs k9 = some (sr k9) ∧ wd_at w759 (sr k9) (.inl (cy 2, 12, .inl (fs k9))) ∧ tg (sr k9) = 13000 + k9 := fun k9 hi9 => ⟨(fm757 k9 hi9).1, wd_at.pt ew760 (fm757 k9 hi9).2.1 (tg_ne (fm757 k9 hi9).2.2 ty (tnA (show 10000 < 13000 by decide))), (fm757 k9 hi9).2.2⟩
                      have kp799 := kp758.put ew760 s90
                      refine lv_iload hx hb dX11_show_553 (lv_at hl 10 rfl) ?_
                      exact y_ir K hP hD hS (Nat.le_of_ble_eq_true rfl) (Nat.le_of_ble_eq_true rfl) (ty := .int) rfl rfl dX11_show_555 (⟨(sh + 1), gx510, upd f13 (nI pp).toNatClampNeg ((f13 (nI pp).toNatClampNeg) + 0), upd f14 (nI pp).toNatClampNeg ((f14 (nI pp).toNatClampNeg) + 1), upd f39 (nI sh).toNatClampNeg (nI tw), upd f40 (nI sh).toNatClampNeg (nI pp), upd f41 (nI sh).toNatClampNeg x3, upd f42 (nI sh).toNatClampNeg vv, upd f43 (nI sh).toNatClampNeg x5, upd f44 (nI sh).toNatClampNeg ddj, upd f45 (nI sh).toNatClampNeg fdj, upd f46 (nI sh).toNatClampNeg td, upd (upd f47 (nI sh).toNatClampNeg 268435456) (nI sh).toNatClampNeg (td + (gx510 (0 : Int32).toNatClampNeg)), vp_updL (vp_updL f48 (nI sh).toNatClampNeg 0) (nI sh).toNatClampNeg ((vv.toInt64 * ((f5 (nI tw).toNatClampNeg).toInt64)) / 1000), ddj, rfl, ht.a (by omega) (by omega), hp.a (by omega) (by omega), by omega, kp799, k761, k763, k769, k770, k783, k784, k785, k786, k787, k788, k789, k790, k791, k792⟩)
                    · refine lv_iload hx hb dX11_show_535 (lv_at hl 8 rfl) ?_
                      refine lv_goto (tgt := 541) hx hb dX11_show_537 (by decide) ?_
                      refine lv_iadd hx hb dX11_show_541 ?_
                      refine y_iast F hP hD hS k603 (vp_in_nI (n := pp) (N := 30) (by omega) (by decide)) dX11_show_542 (fun w800 ew801 H locs hP hD hS => ?_)
                      have k802 := wd_at.pt ew801 k595 (tg_ne ty tm13 (by decide))
                      have k803 := wd_at.pt ew801 k596 (tg_ne tm5 tm13 (by decide))
                      have k804 := wd_at.pt ew801 k597 (tg_ne tm6 tm13 (by decide))
                      have k805 := wd_at.pt ew801 k598 (tg_ne tm8 tm13 (by decide))
                      have k806 := wd_at.pt ew801 k599 (tg_ne tm9 tm13 (by decide))
                      have k807 := wd_at.pt ew801 k600 (tg_ne tm10 tm13 (by decide))
                      have k808 := wd_at.pt ew801 k601 (tg_ne tm11 tm13 (by decide))
                      have k809 := wd_at.pt ew801 k602 (tg_ne tm12 tm13 (by decide))
                      have k810 : wd_at w800 m13 (.inl (cy 2, 30, .inl (upd f13 (nI pp).toNatClampNeg ((f13 (nI pp).toNatClampNeg) + vv)))) := wd_at.ps ew801 k603
                      have k811 := wd_at.pt ew801 k604 (tg_ne tm14 tm13 (by decide))
                      have k812 := wd_at.pt ew801 k605 (tg_ne tm17 tm13 (by decide))
                      have k813 := wd_at.pt ew801 k606 (tg_ne tm18 tm13 (by decide))
                      have k814 := wd_at.pt ew801 k607 (tg_ne tm19 tm13 (by decide))
                      have k815 := wd_at.pt ew801 k608 (tg_ne tm20 tm13 (by decide))
                      have k816 := wd_at.pt ew801 k609 (tg_ne tm21 tm13 (by decide))
                      have k817 := wd_at.pt ew801 k610 (tg_ne tm22 tm13 (by decide))
                      have k818 := wd_at.pt ew801 k611 (tg_ne tm29 tm13 (by decide))
                      have k819 := wd_at.pt ew801 k612 (tg_ne tm30 tm13 (by decide))
                      have k820 := wd_at.pt ew801 k613 (tg_ne tm31 tm13 (by decide))
                      have k821 := wd_at.pt ew801 k614 (tg_ne tm32 tm13 (by decide))
                      have k822 := wd_at.pt ew801 k615 (tg_ne tm33 tm13 (by decide))
                      have k823 := wd_at.pt ew801 k616 (tg_ne tm34 tm13 (by decide))
                      have k824 := wd_at.pt ew801 k617 (tg_ne tm39 tm13 (by decide))
                      have k825 := wd_at.pt ew801 k618 (tg_ne tm40 tm13 (by decide))
                      have k826 := wd_at.pt ew801 k619 (tg_ne tm41 tm13 (by decide))
                      have k827 := wd_at.pt ew801 k620 (tg_ne tm42 tm13 (by decide))
                      have k828 := wd_at.pt ew801 k621 (tg_ne tm43 tm13 (by decide))
                      have k829 := wd_at.pt ew801 k622 (tg_ne tm44 tm13 (by decide))
                      have k830 := wd_at.pt ew801 k623 (tg_ne tm45 tm13 (by decide))
                      have k831 := wd_at.pt ew801 k624 (tg_ne tm46 tm13 (by decide))
                      have k832 := wd_at.pt ew801 k625 (tg_ne tm47 tm13 (by decide))
                      have k833 := wd_at.pt ew801 k626 (tg_ne tm48 tm13 (by decide))
                      have k834 := wd_at.pt ew801 k627 (tg_ne tm2 tm13 (by decide))
                      have k835 := wd_at.pt ew801 k628 (tg_ne tm3 tm13 (by decide))
                      have k836 := wd_at.pt ew801 k629 (tg_ne tm23 tm13 (by decide))
                      have fm837 : ∀ k9, k9 < 12 → qp k9 = some (pr k9) ∧ wd_at w800 (pr k9) (.inl (cy 2, 12, .inl (fp k9))) ∧ tg (pr k9) = 11000 + k9 := fun k9 hi9 => ⟨(fm630 k9 hi9).1, wd_at.pt ew801 (fm630 k9 hi9).2.1 (tg_ne (fm630 k9 hi9).2.2 tm13 (tnA (show 10113 < 11000 by decide))), (fm630 k9 hi9).2.2⟩
                      have fm838 : ∀ k9, k9 < 12 → qw k9 = some (wr k9) ∧ wd_at w800 (wr k9) (.inl (cy 2, 12, .inl (fw k9))) ∧ tg (wr k9) = 12000 + k9 := fun k9 hi9 => ⟨(fm631 k9 hi9).1, wd_at.pt ew801 (fm631 k9 hi9).2.1 (tg_ne (fm631 k9 hi9).2.2 tm13 (tnA (show 10113 < 12000 by decide))), (fm631 k9 hi9).2.2⟩
                      have fm839 : ∀ k9, k9 < 60 → qs k9 = some (sr k9) ∧ wd_at w800 (sr k9) (.inl (cy 2, 12, .inl (fs k9))) ∧ tg (sr k9) = 13000 + k9 := fun k9 hi9 => ⟨(fm632 k9 hi9).1, wd_at.pt ew801 (fm632 k9 hi9).2.1 (tg_ne (fm632 k9 hi9).2.2 tm13 (tnA (show 10113 < 13000 by decide))), (fm632 k9 hi9).2.2⟩
                      have kp840 := kp633.put ew801 s92
                      refine lv_aload_n hx hb dX11_show_543 rfl (lv_at hl 0 rfl) ?_
                      refine lv_dup hx hb dX11_show_544 rfl ?_
                      refine x_get (ref := "NoteHouseModel") F hP k802 rfl (fun _ h => List.mem_cons_of_mem _ (List.mem_append_right _ (h))) 38 (Nat.le_of_ble_eq_true rfl) (List.mem_cons_of_mem _ (List.mem_append_left _ (List.mem_append_left _ (List.mem_of_getElem? (i := 0) rfl)))) rfl rfl dX11_show_545 ?_
                      refine lv_iconst (v := 1) hx hb dX11_show_548 (by decide) ?_
                      refine lv_iadd hx hb dX11_show_549 ?_
                      rw [show ((nI sh) + 1 : Int32) = nI (sh + 1) from nI_add sh 1]
                      refine y_put (ref := "NoteHouseModel") F hP hD hS k802 rfl (fun _ h => List.mem_cons_of_mem _ (List.mem_append_right _ (h))) tyX11_ok nmX11 38 (Nat.le_of_ble_eq_true rfl) (List.mem_cons_of_mem _ (List.mem_append_left _ (List.mem_append_left _ (List.mem_of_getElem? (i := 0) rfl)))) rfl rfl rfl rfl (Nat.le_of_ble_eq_true rfl) dX11_show_550 (fun w841 ew842 H locs hP hD hS => ?_)
                      have k843 : wd_at w841 y (.inr (11, [.int v0, .int td, .ref m2, .ref m3, .ref m4, .ref m5, .ref m6, .int (nI pc), .ref m8, .ref m9, .ref m10, .ref m11, .ref m12, .ref m13, .ref m14, .int (nI ac), .int (nI sc), .ref m17, .ref m18, .ref m19, .ref m20, .ref m21, .ref m22, .ref m23, .ref m24, .int (nI ln), .int v26, .int v27, .int v28, .ref m29, .ref m30, .ref m31, .ref m32, .ref m33, .ref m34, .ref m35, .ref m36, .ref m37, .int (nI (sh + 1)), .ref m39, .ref m40, .ref m41, .ref m42, .ref m43, .ref m44, .ref m45, .ref m46, .ref m47, .ref m48, .ref m49, .int v50, .ref m51, .ref m52, .ref m53, .ref m54, .int (nI gf), .ref m56, .ref m57, .ref m58, .ref m59])) := wd_at.ps ew842 k802
                      have k844 := wd_at.pt ew842 k803 (tg_ne tm5 ty (by decide))
                      have k845 := wd_at.pt ew842 k804 (tg_ne tm6 ty (by decide))
                      have k846 := wd_at.pt ew842 k805 (tg_ne tm8 ty (by decide))
                      have k847 := wd_at.pt ew842 k806 (tg_ne tm9 ty (by decide))
                      have k848 := wd_at.pt ew842 k807 (tg_ne tm10 ty (by decide))
                      have k849 := wd_at.pt ew842 k808 (tg_ne tm11 ty (by decide))
                      have k850 := wd_at.pt ew842 k809 (tg_ne tm12 ty (by decide))
                      have k851 := wd_at.pt ew842 k810 (tg_ne tm13 ty (by decide))
                      have k852 := wd_at.pt ew842 k811 (tg_ne tm14 ty (by decide))
                      have k853 := wd_at.pt ew842 k812 (tg_ne tm17 ty (by decide))
                      have k854 := wd_at.pt ew842 k813 (tg_ne tm18 ty (by decide))
                      have k855 := wd_at.pt ew842 k814 (tg_ne tm19 ty (by decide))
                      have k856 := wd_at.pt ew842 k815 (tg_ne tm20 ty (by decide))
                      have k857 := wd_at.pt ew842 k816 (tg_ne tm21 ty (by decide))
                      have k858 := wd_at.pt ew842 k817 (tg_ne tm22 ty (by decide))
                      have k859 := wd_at.pt ew842 k818 (tg_ne tm29 ty (by decide))
                      have k860 := wd_at.pt ew842 k819 (tg_ne tm30 ty (by decide))
                      have k861 := wd_at.pt ew842 k820 (tg_ne tm31 ty (by decide))
                      have k862 := wd_at.pt ew842 k821 (tg_ne tm32 ty (by decide))
                      have k863 := wd_at.pt ew842 k822 (tg_ne tm33 ty (by decide))
                      have k864 := wd_at.pt ew842 k823 (tg_ne tm34 ty (by decide))
                      have k865 := wd_at.pt ew842 k824 (tg_ne tm39 ty (by decide))
                      have k866 := wd_at.pt ew842 k825 (tg_ne tm40 ty (by decide))
                      have k867 := wd_at.pt ew842 k826 (tg_ne tm41 ty (by decide))
                      have k868 := wd_at.pt ew842 k827 (tg_ne tm42 ty (by decide))
                      have k869 := wd_at.pt ew842 k828 (tg_ne tm43 ty (by decide))
                      have k870 := wd_at.pt ew842 k829 (tg_ne tm44 ty (by decide))
                      have k871 := wd_at.pt ew842 k830 (tg_ne tm45 ty (by decide))
                      have k872 := wd_at.pt ew842 k831 (tg_ne tm46 ty (by decide))
                      have k873 := wd_at.pt ew842 k832 (tg_ne tm47 ty (by decide))
                      have k874 := wd_at.pt ew842 k833 (tg_ne tm48 ty (by decide))
                      have k875 := wd_at.pt ew842 k834 (tg_ne tm2 ty (by decide))
                      have k876 := wd_at.pt ew842 k835 (tg_ne tm3 ty (by decide))
                      have k877 := wd_at.pt ew842 k836 (tg_ne tm23 ty (by decide))
                      have fm878 : ∀ k9, k9 < 12 → qp k9 = some (pr k9) ∧ wd_at w841 (pr k9) (.inl (cy 2, 12, .inl (fp k9))) ∧ tg (pr k9) = 11000 + k9 := fun k9 hi9 => ⟨(fm837 k9 hi9).1, wd_at.pt ew842 (fm837 k9 hi9).2.1 (tg_ne (fm837 k9 hi9).2.2 ty (tnA (show 10000 < 11000 by decide))), (fm837 k9 hi9).2.2⟩
                      have fm879 : ∀ k9, k9 < 12 → qw k9 = some (wr k9) ∧ wd_at w841 (wr k9) (.inl (cy 2, 12, .inl (fw k9))) ∧ tg (wr k9) = 12000 + k9 := fun k9 hi9 => ⟨(fm838 k9 hi9).1, wd_at.pt ew842 (fm838 k9 hi9).2.1 (tg_ne (fm838 k9 hi9).2.2 ty (tnA (show 10000 < 12000 by decide))), (fm838 k9 hi9).2.2⟩
                      have fm880 : ∀ k9, k9 < 60 → qs k9 = some (sr k9) ∧ wd_at w841 (sr k9) (.inl (cy 2, 12, .inl (fs k9))) ∧ tg (sr k9) = 13000 + k9 := fun k9 hi9 => ⟨(fm839 k9 hi9).1, wd_at.pt ew842 (fm839 k9 hi9).2.1 (tg_ne (fm839 k9 hi9).2.2 ty (tnA (show 10000 < 13000 by decide))), (fm839 k9 hi9).2.2⟩
                      have kp881 := kp840.put ew842 s90
                      refine lv_iload hx hb dX11_show_553 (lv_at hl 10 rfl) ?_
                      exact y_ir K hP hD hS (Nat.le_of_ble_eq_true rfl) (Nat.le_of_ble_eq_true rfl) (ty := .int) rfl rfl dX11_show_555 (⟨(sh + 1), gx510, upd f13 (nI pp).toNatClampNeg ((f13 (nI pp).toNatClampNeg) + vv), upd f14 (nI pp).toNatClampNeg ((f14 (nI pp).toNatClampNeg) + 1), upd f39 (nI sh).toNatClampNeg (nI tw), upd f40 (nI sh).toNatClampNeg (nI pp), upd f41 (nI sh).toNatClampNeg x3, upd f42 (nI sh).toNatClampNeg vv, upd f43 (nI sh).toNatClampNeg x5, upd f44 (nI sh).toNatClampNeg ddj, upd f45 (nI sh).toNatClampNeg fdj, upd f46 (nI sh).toNatClampNeg td, upd (upd f47 (nI sh).toNatClampNeg 268435456) (nI sh).toNatClampNeg (td + (gx510 (0 : Int32).toNatClampNeg)), vp_updL (vp_updL f48 (nI sh).toNatClampNeg 0) (nI sh).toNatClampNeg ((vv.toInt64 * ((f5 (nI tw).toNatClampNeg).toInt64)) / 1000), ddj, rfl, ht.a (by omega) (by omega), hp.a (by omega) (by omega), by omega, kp881, k843, k845, k851, k852, k865, k866, k867, k868, k869, k870, k871, k872, k873, k874⟩)
                · refine lv_ldc (v := 268435456) hx hb hown (hts _ (List.mem_cons_of_mem _ (List.mem_append_left _ (List.mem_append_left _ (List.mem_of_getElem? (i := 23) rfl))))) dX11_show_491 ?_
                  refine lv_goto (tgt := 507) hx hb dX11_show_493 (by decide) ?_
                  refine y_iast F hP hD hS k542 (vp_in_nI (n := sh) (N := 200) (by omega) (by decide)) dX11_show_507 (fun w882 ew883 H locs hP hD hS => ?_)
                  have k884 := wd_at.pt ew883 k513 (tg_ne ty tm47 (by decide))
                  have k885 := wd_at.pt ew883 k514 (tg_ne tm5 tm47 (by decide))
                  have k886 := wd_at.pt ew883 k511 (tg_ne tm6 tm47 (by decide))
                  have k887 := wd_at.pt ew883 k515 (tg_ne tm8 tm47 (by decide))
                  have k888 := wd_at.pt ew883 k516 (tg_ne tm9 tm47 (by decide))
                  have k889 := wd_at.pt ew883 k517 (tg_ne tm10 tm47 (by decide))
                  have k890 := wd_at.pt ew883 k518 (tg_ne tm11 tm47 (by decide))
                  have k891 := wd_at.pt ew883 k519 (tg_ne tm12 tm47 (by decide))
                  have k892 := wd_at.pt ew883 k520 (tg_ne tm13 tm47 (by decide))
                  have k893 := wd_at.pt ew883 k521 (tg_ne tm14 tm47 (by decide))
                  have k894 := wd_at.pt ew883 k522 (tg_ne tm17 tm47 (by decide))
                  have k895 := wd_at.pt ew883 k523 (tg_ne tm18 tm47 (by decide))
                  have k896 := wd_at.pt ew883 k524 (tg_ne tm19 tm47 (by decide))
                  have k897 := wd_at.pt ew883 k525 (tg_ne tm20 tm47 (by decide))
                  have k898 := wd_at.pt ew883 k526 (tg_ne tm21 tm47 (by decide))
                  have k899 := wd_at.pt ew883 k527 (tg_ne tm22 tm47 (by decide))
                  have k900 := wd_at.pt ew883 k528 (tg_ne tm29 tm47 (by decide))
                  have k901 := wd_at.pt ew883 k529 (tg_ne tm30 tm47 (by decide))
                  have k902 := wd_at.pt ew883 k530 (tg_ne tm31 tm47 (by decide))
                  have k903 := wd_at.pt ew883 k531 (tg_ne tm32 tm47 (by decide))
                  have k904 := wd_at.pt ew883 k532 (tg_ne tm33 tm47 (by decide))
                  have k905 := wd_at.pt ew883 k533 (tg_ne tm34 tm47 (by decide))
                  have k906 := wd_at.pt ew883 k534 (tg_ne tm39 tm47 (by decide))
                  have k907 := wd_at.pt ew883 k535 (tg_ne tm40 tm47 (by decide))
                  have k908 := wd_at.pt ew883 k536 (tg_ne tm41 tm47 (by decide))
                  have k909 := wd_at.pt ew883 k537 (tg_ne tm42 tm47 (by decide))
                  have k910 := wd_at.pt ew883 k538 (tg_ne tm43 tm47 (by decide))
                  have k911 := wd_at.pt ew883 k539 (tg_ne tm44 tm47 (by decide))
                  have k912 := wd_at.pt ew883 k540 (tg_ne tm45 tm47 (by decide))
                  have k913 := wd_at.pt ew883 k541 (tg_ne tm46 tm47 (by decide))
                  have k914 : wd_at w882 m47 (.inl (cy 2, 200, .inl (upd (upd f47 (nI sh).toNatClampNeg 268435456) (nI sh).toNatClampNeg 268435456))) := wd_at.ps ew883 k542
                  have k915 := wd_at.pt ew883 k543 (tg_ne tm48 tm47 (by decide))
                  have k916 := wd_at.pt ew883 k544 (tg_ne tm2 tm47 (by decide))
                  have k917 := wd_at.pt ew883 k545 (tg_ne tm3 tm47 (by decide))
                  have k918 := wd_at.pt ew883 k546 (tg_ne tm23 tm47 (by decide))
                  have fm919 : ∀ k9, k9 < 12 → qp k9 = some (pr k9) ∧ wd_at w882 (pr k9) (.inl (cy 2, 12, .inl (fp k9))) ∧ tg (pr k9) = 11000 + k9 := fun k9 hi9 => ⟨(fm547 k9 hi9).1, wd_at.pt ew883 (fm547 k9 hi9).2.1 (tg_ne (fm547 k9 hi9).2.2 tm47 (tnA (show 10147 < 11000 by decide))), (fm547 k9 hi9).2.2⟩
                  have fm920 : ∀ k9, k9 < 12 → qw k9 = some (wr k9) ∧ wd_at w882 (wr k9) (.inl (cy 2, 12, .inl (fw k9))) ∧ tg (wr k9) = 12000 + k9 := fun k9 hi9 => ⟨(fm548 k9 hi9).1, wd_at.pt ew883 (fm548 k9 hi9).2.1 (tg_ne (fm548 k9 hi9).2.2 tm47 (tnA (show 10147 < 12000 by decide))), (fm548 k9 hi9).2.2⟩
                  have fm921 : ∀ k9, k9 < 60 → qs k9 = some (sr k9) ∧ wd_at w882 (sr k9) (.inl (cy 2, 12, .inl (fs k9))) ∧ tg (sr k9) = 13000 + k9 := fun k9 hi9 => ⟨(fm549 k9 hi9).1, wd_at.pt ew883 (fm549 k9 hi9).2.1 (tg_ne (fm549 k9 hi9).2.2 tm47 (tnA (show 10147 < 13000 by decide))), (fm549 k9 hi9).2.2⟩
                  have kp922 := kp550.put ew883 s912
                  refine lv_aload_n hx hb dX11_show_508 rfl (lv_at hl 0 rfl) ?_
                  refine x_get (ref := "NoteHouseModel") F hP k884 rfl (fun _ h => List.mem_cons_of_mem _ (List.mem_append_right _ (h))) 14 (Nat.le_of_ble_eq_true rfl) (List.mem_cons_of_mem _ (List.mem_append_left _ (List.mem_append_right _ (List.mem_append_left _ (List.mem_of_getElem? (i := 3) rfl))))) rfl rfl dX11_show_509 ?_
                  refine lv_iload_n hx hb dX11_show_512 rfl (lv_at hl 2 rfl) ?_
                  refine lv_dup2_11 hx hb dX11_show_513 rfl rfl ?_
                  refine x_iald F hP k893 (vp_in_nI (n := pp) (N := 30) (by omega) (by decide)) dX11_show_514 ?_
                  refine lv_iconst (v := 1) hx hb dX11_show_515 (by decide) ?_
                  refine lv_iadd hx hb dX11_show_516 ?_
                  refine y_iast F hP hD hS k893 (vp_in_nI (n := pp) (N := 30) (by omega) (by decide)) dX11_show_517 (fun w923 ew924 H locs hP hD hS => ?_)
                  have k925 := wd_at.pt ew924 k884 (tg_ne ty tm14 (by decide))
                  have k926 := wd_at.pt ew924 k885 (tg_ne tm5 tm14 (by decide))
                  have k927 := wd_at.pt ew924 k886 (tg_ne tm6 tm14 (by decide))
                  have k928 := wd_at.pt ew924 k887 (tg_ne tm8 tm14 (by decide))
                  have k929 := wd_at.pt ew924 k888 (tg_ne tm9 tm14 (by decide))
                  have k930 := wd_at.pt ew924 k889 (tg_ne tm10 tm14 (by decide))
                  have k931 := wd_at.pt ew924 k890 (tg_ne tm11 tm14 (by decide))
                  have k932 := wd_at.pt ew924 k891 (tg_ne tm12 tm14 (by decide))
                  have k933 := wd_at.pt ew924 k892 (tg_ne tm13 tm14 (by decide))
                  have k934 : wd_at w923 m14 (.inl (cy 2, 30, .inl (upd f14 (nI pp).toNatClampNeg ((f14 (nI pp).toNatClampNeg) + 1)))) := wd_at.ps ew924 k893
                  have k935 := wd_at.pt ew924 k894 (tg_ne tm17 tm14 (by decide))
                  have k936 := wd_at.pt ew924 k895 (tg_ne tm18 tm14 (by decide))
                  have k937 := wd_at.pt ew924 k896 (tg_ne tm19 tm14 (by decide))
                  have k938 := wd_at.pt ew924 k897 (tg_ne tm20 tm14 (by decide))
                  have k939 := wd_at.pt ew924 k898 (tg_ne tm21 tm14 (by decide))
                  have k940 := wd_at.pt ew924 k899 (tg_ne tm22 tm14 (by decide))
                  have k941 := wd_at.pt ew924 k900 (tg_ne tm29 tm14 (by decide))
                  have k942 := wd_at.pt ew924 k901 (tg_ne tm30 tm14 (by decide))
                  have k943 := wd_at.pt ew924 k902 (tg_ne tm31 tm14 (by decide))
                  have k944 := wd_at.pt ew924 k903 (tg_ne tm32 tm14 (by decide))
                  have k945 := wd_at.pt ew924 k904 (tg_ne tm33 tm14 (by decide))
                  have k946 := wd_at.pt ew924 k905 (tg_ne tm34 tm14 (by decide))
                  have k947 := wd_at.pt ew924 k906 (tg_ne tm39 tm14 (by decide))
                  have k948 := wd_at.pt ew924 k907 (tg_ne tm40 tm14 (by decide))
                  have k949 := wd_at.pt ew924 k908 (tg_ne tm41 tm14 (by decide))
                  have k950 := wd_at.pt ew924 k909 (tg_ne tm42 tm14 (by decide))
                  have k951 := wd_at.pt ew924 k910 (tg_ne tm43 tm14 (by decide))
                  have k952 := wd_at.pt ew924 k911 (tg_ne tm44 tm14 (by decide))
                  have k953 := wd_at.pt ew924 k912 (tg_ne tm45 tm14 (by decide))
                  have k954 := wd_at.pt ew924 k913 (tg_ne tm46 tm14 (by decide))
                  have k955 := wd_at.pt ew924 k914 (tg_ne tm47 tm14 (by decide))
                  have k956 := wd_at.pt ew924 k915 (tg_ne tm48 tm14 (by decide))
                  have k957 := wd_at.pt ew924 k916 (tg_ne tm2 tm14 (by decide))
                  have k958 := wd_at.pt ew924 k917 (tg_ne tm3 tm14 (by decide))
                  have k959 := wd_at.pt ew924 k918 (tg_ne tm23 tm14 (by decide))
                  have fm960 : ∀ k9, k9 < 12 → qp k9 = some (pr k9) ∧ wd_at w923 (pr k9) (.inl (cy 2, 12, .inl (fp k9))) ∧ tg (pr k9) = 11000 + k9 := fun k9 hi9 => ⟨(fm919 k9 hi9).1, wd_at.pt ew924 (fm919 k9 hi9).2.1 (tg_ne (fm919 k9 hi9).2.2 tm14 (tnA (show 10114 < 11000 by decide))), (fm919 k9 hi9).2.2⟩
                  have fm961 : ∀ k9, k9 < 12 → qw k9 = some (wr k9) ∧ wd_at w923 (wr k9) (.inl (cy 2, 12, .inl (fw k9))) ∧ tg (wr k9) = 12000 + k9 := fun k9 hi9 => ⟨(fm920 k9 hi9).1, wd_at.pt ew924 (fm920 k9 hi9).2.1 (tg_ne (fm920 k9 hi9).2.2 tm14 (tnA (show 10114 < 12000 by decide))), (fm920 k9 hi9).2.2⟩
                  have fm962 : ∀ k9, k9 < 60 → qs k9 = some (sr k9) ∧ wd_at w923 (sr k9) (.inl (cy 2, 12, .inl (fs k9))) ∧ tg (sr k9) = 13000 + k9 := fun k9 hi9 => ⟨(fm921 k9 hi9).1, wd_at.pt ew924 (fm921 k9 hi9).2.1 (tg_ne (fm921 k9 hi9).2.2 tm14 (tnA (show 10114 < 13000 by decide))), (fm921 k9 hi9).2.2⟩
                  have kp963 := kp922.put ew924 s93
                  refine lv_aload_n hx hb dX11_show_518 rfl (lv_at hl 0 rfl) ?_
                  refine x_get (ref := "NoteHouseModel") F hP k925 rfl (fun _ h => List.mem_cons_of_mem _ (List.mem_append_right _ (h))) 13 (Nat.le_of_ble_eq_true rfl) (List.mem_cons_of_mem _ (List.mem_append_left _ (List.mem_append_right _ (List.mem_append_left _ (List.mem_of_getElem? (i := 4) rfl))))) rfl rfl dX11_show_519 ?_
                  refine lv_iload_n hx hb dX11_show_522 rfl (lv_at hl 2 rfl) ?_
                  refine lv_dup2_11 hx hb dX11_show_523 rfl rfl ?_
                  refine x_iald F hP k933 (vp_in_nI (n := pp) (N := 30) (by omega) (by decide)) dX11_show_524 ?_
                  refine lv_iload hx hb dX11_show_525 (lv_at hl 7 rfl) ?_
                  refine lv_if_ne (tgt := 540) hx hb dX11_show_527 (by decide) (fun c_964 => ?_) (fun c_964 => ?_)
                  · refine lv_iconst (v := 0) hx hb dX11_show_540 (by decide) ?_
                    refine lv_iadd hx hb dX11_show_541 ?_
                    refine y_iast F hP hD hS k933 (vp_in_nI (n := pp) (N := 30) (by omega) (by decide)) dX11_show_542 (fun w965 ew966 H locs hP hD hS => ?_)
                    have k967 := wd_at.pt ew966 k925 (tg_ne ty tm13 (by decide))
                    have k968 := wd_at.pt ew966 k926 (tg_ne tm5 tm13 (by decide))
                    have k969 := wd_at.pt ew966 k927 (tg_ne tm6 tm13 (by decide))
                    have k970 := wd_at.pt ew966 k928 (tg_ne tm8 tm13 (by decide))
                    have k971 := wd_at.pt ew966 k929 (tg_ne tm9 tm13 (by decide))
                    have k972 := wd_at.pt ew966 k930 (tg_ne tm10 tm13 (by decide))
                    have k973 := wd_at.pt ew966 k931 (tg_ne tm11 tm13 (by decide))
                    have k974 := wd_at.pt ew966 k932 (tg_ne tm12 tm13 (by decide))
                    have k975 : wd_at w965 m13 (.inl (cy 2, 30, .inl (upd f13 (nI pp).toNatClampNeg ((f13 (nI pp).toNatClampNeg) + 0)))) := wd_at.ps ew966 k933
                    have k976 := wd_at.pt ew966 k934 (tg_ne tm14 tm13 (by decide))
                    have k977 := wd_at.pt ew966 k935 (tg_ne tm17 tm13 (by decide))
                    have k978 := wd_at.pt ew966 k936 (tg_ne tm18 tm13 (by decide))
                    have k979 := wd_at.pt ew966 k937 (tg_ne tm19 tm13 (by decide))
                    have k980 := wd_at.pt ew966 k938 (tg_ne tm20 tm13 (by decide))
                    have k981 := wd_at.pt ew966 k939 (tg_ne tm21 tm13 (by decide))
                    have k982 := wd_at.pt ew966 k940 (tg_ne tm22 tm13 (by decide))
                    have k983 := wd_at.pt ew966 k941 (tg_ne tm29 tm13 (by decide))
                    have k984 := wd_at.pt ew966 k942 (tg_ne tm30 tm13 (by decide))
                    have k985 := wd_at.pt ew966 k943 (tg_ne tm31 tm13 (by decide))
                    have k986 := wd_at.pt ew966 k944 (tg_ne tm32 tm13 (by decide))
                    have k987 := wd_at.pt ew966 k945 (tg_ne tm33 tm13 (by decide))
                    have k988 := wd_at.pt ew966 k946 (tg_ne tm34 tm13 (by decide))
                    have k989 := wd_at.pt ew966 k947 (tg_ne tm39 tm13 (by decide))
                    have k990 := wd_at.pt ew966 k948 (tg_ne tm40 tm13 (by decide))
                    have k991 := wd_at.pt ew966 k949 (tg_ne tm41 tm13 (by decide))
                    have k992 := wd_at.pt ew966 k950 (tg_ne tm42 tm13 (by decide))
                    have k993 := wd_at.pt ew966 k951 (tg_ne tm43 tm13 (by decide))
                    have k994 := wd_at.pt ew966 k952 (tg_ne tm44 tm13 (by decide))
                    have k995 := wd_at.pt ew966 k953 (tg_ne tm45 tm13 (by decide))
                    have k996 := wd_at.pt ew966 k954 (tg_ne tm46 tm13 (by decide))
                    have k997 := wd_at.pt ew966 k955 (tg_ne tm47 tm13 (by decide))
                    have k998 := wd_at.pt ew966 k956 (tg_ne tm48 tm13 (by decide))
                    have k999 := wd_at.pt ew966 k957 (tg_ne tm2 tm13 (by decide))
                    have k1000 := wd_at.pt ew966 k958 (tg_ne tm3 tm13 (by decide))
                    have k1001 := wd_at.pt ew966 k959 (tg_ne tm23 tm13 (by decide))
                    have fm1002 : ∀ k9, k9 < 12 → qp k9 = some (pr k9) ∧ wd_at w965 (pr k9) (.inl (cy 2, 12, .inl (fp k9))) ∧ tg (pr k9) = 11000 + k9 := fun k9 hi9 => ⟨(fm960 k9 hi9).1, wd_at.pt ew966 (fm960 k9 hi9).2.1 (tg_ne (fm960 k9 hi9).2.2 tm13 (tnA (show 10113 < 11000 by decide))), (fm960 k9 hi9).2.2⟩
                    have fm1003 : ∀ k9, k9 < 12 → qw k9 = some (wr k9) ∧ wd_at w965 (wr k9) (.inl (cy 2, 12, .inl (fw k9))) ∧ tg (wr k9) = 12000 + k9 := fun k9 hi9 => ⟨(fm961 k9 hi9).1, wd_at.pt ew966 (fm961 k9 hi9).2.1 (tg_ne (fm961 k9 hi9).2.2 tm13 (tnA (show 10113 < 12000 by decide))), (fm961 k9 hi9).2.2⟩
                    have fm1004 : ∀ k9, k9 < 60 → qs k9 = some (sr k9) ∧ wd_at w965 (sr k9) (.inl (cy 2, 12, .inl (fs k9))) ∧ tg (sr k9) = 13000 + k9 := fun k9 hi9 => ⟨(fm962 k9 hi9).1, wd_at.pt ew966 (fm962 k9 hi9).2.1 (tg_ne (fm962 k9 hi9).2.2 tm13 (tnA (show 10113 < 13000 by decide))), (fm962 k9 hi9).2.2⟩
                    have kp1005 := kp963.put ew966 s92
                    refine lv_aload_n hx hb dX11_show_543 rfl (lv_at hl 0 rfl) ?_
                    refine lv_dup hx hb dX11_show_544 rfl ?_
                    refine x_get (ref := "NoteHouseModel") F hP k967 rfl (fun _ h => List.mem_cons_of_mem _ (List.mem_append_right _ (h))) 38 (Nat.le_of_ble_eq_true rfl) (List.mem_cons_of_mem _ (List.mem_append_left _ (List.mem_append_left _ (List.mem_of_getElem? (i := 0) rfl)))) rfl rfl dX11_show_545 ?_
                    refine lv_iconst (v := 1) hx hb dX11_show_548 (by decide) ?_
                    refine lv_iadd hx hb dX11_show_549 ?_
                    rw [show ((nI sh) + 1 : Int32) = nI (sh + 1) from nI_add sh 1]
                    refine y_put (ref := "NoteHouseModel") F hP hD hS k967 rfl (fun _ h => List.mem_cons_of_mem _ (List.mem_append_right _ (h))) tyX11_ok nmX11 38 (Nat.le_of_ble_eq_true rfl) (List.mem_cons_of_mem _ (List.mem_append_left _ (List.mem_append_left _ (List.mem_of_getElem? (i := 0) rfl)))) rfl rfl rfl rfl (Nat.le_of_ble_eq_true rfl) dX11_show_550 (fun w1006 ew1007 H locs hP hD hS => ?_)
                    have k1008 : wd_at w1006 y (.inr (11, [.int v0, .int td, .ref m2, .ref m3, .ref m4, .ref m5, .ref m6, .int (nI pc), .ref m8, .ref m9, .ref m10, .ref m11, .ref m12, .ref m13, .ref m14, .int (nI ac), .int (nI sc), .ref m17, .ref m18, .ref m19, .ref m20, .ref m21, .ref m22, .ref m23, .ref m24, .int (nI ln), .int v26, .int v27, .int v28, .ref m29, .ref m30, .ref m31, .ref m32, .ref m33, .ref m34, .ref m35, .ref m36, .ref m37, .int (nI (sh + 1)), .ref m39, .ref m40, .ref m41, .ref m42, .ref m43, .ref m44, .ref m45, .ref m46, .ref m47, .ref m48, .ref m49, .int v50, .ref m51, .ref m52, .ref m53, .ref m54, .int (nI gf), .ref m56, .ref m57, .ref m58, .ref m59])) := wd_at.ps ew1007 k967
                    have k1009 := wd_at.pt ew1007 k968 (tg_ne tm5 ty (by decide))
                    have k1010 := wd_at.pt ew1007 k969 (tg_ne tm6 ty (by decide))
                    have k1011 := wd_at.pt ew1007 k970 (tg_ne tm8 ty (by decide))
                    have k1012 := wd_at.pt ew1007 k971 (tg_ne tm9 ty (by decide))
                    have k1013 := wd_at.pt ew1007 k972 (tg_ne tm10 ty (by decide))
                    have k1014 := wd_at.pt ew1007 k973 (tg_ne tm11 ty (by decide))
                    have k1015 := wd_at.pt ew1007 k974 (tg_ne tm12 ty (by decide))
                    have k1016 := wd_at.pt ew1007 k975 (tg_ne tm13 ty (by decide))
                    have k1017 := wd_at.pt ew1007 k976 (tg_ne tm14 ty (by decide))
                    have k1018 := wd_at.pt ew1007 k977 (tg_ne tm17 ty (by decide))
                    have k1019 := wd_at.pt ew1007 k978 (tg_ne tm18 ty (by decide))
                    have k1020 := wd_at.pt ew1007 k979 (tg_ne tm19 ty (by decide))
                    have k1021 := wd_at.pt ew1007 k980 (tg_ne tm20 ty (by decide))
                    have k1022 := wd_at.pt ew1007 k981 (tg_ne tm21 ty (by decide))
                    have k1023 := wd_at.pt ew1007 k982 (tg_ne tm22 ty (by decide))
                    have k1024 := wd_at.pt ew1007 k983 (tg_ne tm29 ty (by decide))
                    have k1025 := wd_at.pt ew1007 k984 (tg_ne tm30 ty (by decide))
                    have k1026 := wd_at.pt ew1007 k985 (tg_ne tm31 ty (by decide))
                    have k1027 := wd_at.pt ew1007 k986 (tg_ne tm32 ty (by decide))
                    have k1028 := wd_at.pt ew1007 k987 (tg_ne tm33 ty (by decide))
                    have k1029 := wd_at.pt ew1007 k988 (tg_ne tm34 ty (by decide))
                    have k1030 := wd_at.pt ew1007 k989 (tg_ne tm39 ty (by decide))
                    have k1031 := wd_at.pt ew1007 k990 (tg_ne tm40 ty (by decide))
                    have k1032 := wd_at.pt ew1007 k991 (tg_ne tm41 ty (by decide))
                    have k1033 := wd_at.pt ew1007 k992 (tg_ne tm42 ty (by decide))
                    have k1034 := wd_at.pt ew1007 k993 (tg_ne tm43 ty (by decide))
                    have k1035 := wd_at.pt ew1007 k994 (tg_ne tm44 ty (by decide))
                    have k1036 := wd_at.pt ew1007 k995 (tg_ne tm45 ty (by decide))
                    have k1037 := wd_at.pt ew1007 k996 (tg_ne tm46 ty (by decide))
                    have k1038 := wd_at.pt ew1007 k997 (tg_ne tm47 ty (by decide))
                    have k1039 := wd_at.pt ew1007 k998 (tg_ne tm48 ty (by decide))
                    have k1040 := wd_at.pt ew1007 k999 (tg_ne tm2 ty (by decide))
                    have k1041 := wd_at.pt ew1007 k1000 (tg_ne tm3 ty (by decide))
                    have k1042 := wd_at.pt ew1007 k1001 (tg_ne tm23 ty (by decide))
                    have fm1043 : ∀ k9, k9 < 12 → qp k9 = some (pr k9) ∧ wd_at w1006 (pr k9) (.inl (cy 2, 12, .inl (fp k9))) ∧ tg (pr k9) = 11000 + k9 := fun k9 hi9 => ⟨(fm1002 k9 hi9).1, wd_at.pt ew1007 (fm1002 k9 hi9).2.1 (tg_ne (fm1002 k9 hi9).2.2 ty (tnA (show 10000 < 11000 by decide))), (fm1002 k9 hi9).2.2⟩
                    have fm1044 : ∀ k9, k9 < 12 → qw k9 = some (wr k9) ∧ wd_at w1006 (wr k9) (.inl (cy 2, 12, .inl (fw k9))) ∧ tg (wr k9) = 12000 + k9 := fun k9 hi9 => ⟨(fm1003 k9 hi9).1, wd_at.pt ew1007 (fm1003 k9 hi9).2.1 (tg_ne (fm1003 k9 hi9).2.2 ty (tnA (show 10000 < 12000 by decide))), (fm1003 k9 hi9).2.2⟩
                    have fm1045 : ∀ k9, k9 < 60 → qs k9 = some (sr k9) ∧ wd_at w1006 (sr k9) (.inl (cy 2, 12, .inl (fs k9))) ∧ tg (sr k9) = 13000 + k9 := fun k9 hi9 => ⟨(fm1004 k9 hi9).1, wd_at.pt ew1007 (fm1004 k9 hi9).2.1 (tg_ne (fm1004 k9 hi9).2.2 ty (tnA (show 10000 < 13000 by decide))), (fm1004 k9 hi9).2.2⟩
                    have kp1046 := kp1005.put ew1007 s90
                    refine lv_iload hx hb dX11_show_553 (lv_at hl 10 rfl) ?_
                    exact y_ir K hP hD hS (Nat.le_of_ble_eq_true rfl) (Nat.le_of_ble_eq_true rfl) (ty := .int) rfl rfl dX11_show_555 (⟨(sh + 1), gx510, upd f13 (nI pp).toNatClampNeg ((f13 (nI pp).toNatClampNeg) + 0), upd f14 (nI pp).toNatClampNeg ((f14 (nI pp).toNatClampNeg) + 1), upd f39 (nI sh).toNatClampNeg (nI tw), upd f40 (nI sh).toNatClampNeg (nI pp), upd f41 (nI sh).toNatClampNeg x3, upd f42 (nI sh).toNatClampNeg vv, upd f43 (nI sh).toNatClampNeg x5, upd f44 (nI sh).toNatClampNeg ddj, upd f45 (nI sh).toNatClampNeg fdj, upd f46 (nI sh).toNatClampNeg td, upd (upd f47 (nI sh).toNatClampNeg 268435456) (nI sh).toNatClampNeg 268435456, vp_updL (vp_updL f48 (nI sh).toNatClampNeg 0) (nI sh).toNatClampNeg ((vv.toInt64 * ((f5 (nI tw).toNatClampNeg).toInt64)) / 1000), ddj, rfl, ht.a (by omega) (by omega), hp.a (by omega) (by omega), by omega, kp1046, k1008, k1010, k1016, k1017, k1030, k1031, k1032, k1033, k1034, k1035, k1036, k1037, k1038, k1039⟩)
                  · refine lv_iload hx hb dX11_show_530 (lv_at hl 6 rfl) ?_
                    refine lv_if_eq (tgt := 540) hx hb dX11_show_532 (by decide) (fun c_1047 => ?_) (fun c_1047 => ?_)
                    · refine lv_iconst (v := 0) hx hb dX11_show_540 (by decide) ?_
                      refine lv_iadd hx hb dX11_show_541 ?_
                      refine y_iast F hP hD hS k933 (vp_in_nI (n := pp) (N := 30) (by omega) (by decide)) dX11_show_542 (fun w1048 ew1049 H locs hP hD hS => ?_)
                      have k1050 := wd_at.pt ew1049 k925 (tg_ne ty tm13 (by decide))
                      have k1051 := wd_at.pt ew1049 k926 (tg_ne tm5 tm13 (by decide))
                      have k1052 := wd_at.pt ew1049 k927 (tg_ne tm6 tm13 (by decide))
                      have k1053 := wd_at.pt ew1049 k928 (tg_ne tm8 tm13 (by decide))
                      have k1054 := wd_at.pt ew1049 k929 (tg_ne tm9 tm13 (by decide))
                      have k1055 := wd_at.pt ew1049 k930 (tg_ne tm10 tm13 (by decide))
                      have k1056 := wd_at.pt ew1049 k931 (tg_ne tm11 tm13 (by decide))
                      have k1057 := wd_at.pt ew1049 k932 (tg_ne tm12 tm13 (by decide))
                      have k1058 : wd_at w1048 m13 (.inl (cy 2, 30, .inl (upd f13 (nI pp).toNatClampNeg ((f13 (nI pp).toNatClampNeg) + 0)))) := wd_at.ps ew1049 k933
                      have k1059 := wd_at.pt ew1049 k934 (tg_ne tm14 tm13 (by decide))
                      have k1060 := wd_at.pt ew1049 k935 (tg_ne tm17 tm13 (by decide))
                      have k1061 := wd_at.pt ew1049 k936 (tg_ne tm18 tm13 (by decide))
                      have k1062 := wd_at.pt ew1049 k937 (tg_ne tm19 tm13 (by decide))
                      have k1063 := wd_at.pt ew1049 k938 (tg_ne tm20 tm13 (by decide))
                      have k1064 := wd_at.pt ew1049 k939 (tg_ne tm21 tm13 (by decide))
                      have k1065 := wd_at.pt ew1049 k940 (tg_ne tm22 tm13 (by decide))
                      have k1066 := wd_at.pt ew1049 k941 (tg_ne tm29 tm13 (by decide))
                      have k1067 := wd_at.pt ew1049 k942 (tg_ne tm30 tm13 (by decide))
                      have k1068 := wd_at.pt ew1049 k943 (tg_ne tm31 tm13 (by decide))
                      have k1069 := wd_at.pt ew1049 k944 (tg_ne tm32 tm13 (by decide))
                      have k1070 := wd_at.pt ew1049 k945 (tg_ne tm33 tm13 (by decide))
                      have k1071 := wd_at.pt ew1049 k946 (tg_ne tm34 tm13 (by decide))
                      have k1072 := wd_at.pt ew1049 k947 (tg_ne tm39 tm13 (by decide))
                      have k1073 := wd_at.pt ew1049 k948 (tg_ne tm40 tm13 (by decide))
                      have k1074 := wd_at.pt ew1049 k949 (tg_ne tm41 tm13 (by decide))
                      have k1075 := wd_at.pt ew1049 k950 (tg_ne tm42 tm13 (by decide))
                      have k1076 := wd_at.pt ew1049 k951 (tg_ne tm43 tm13 (by decide))
                      have k1077 := wd_at.pt ew1049 k952 (tg_ne tm44 tm13 (by decide))
                      have k1078 := wd_at.pt ew1049 k953 (tg_ne tm45 tm13 (by decide))
                      have k1079 := wd_at.pt ew1049 k954 (tg_ne tm46 tm13 (by decide))
                      have k1080 := wd_at.pt ew1049 k955 (tg_ne tm47 tm13 (by decide))
                      have k1081 := wd_at.pt ew1049 k956 (tg_ne tm48 tm13 (by decide))
                      have k1082 := wd_at.pt ew1049 k957 (tg_ne tm2 tm13 (by decide))
                      have k1083 := wd_at.pt ew1049 k958 (tg_ne tm3 tm13 (by decide))
                      have k1084 := wd_at.pt ew1049 k959 (tg_ne tm23 tm13 (by decide))
                      have fm1085 : ∀ k9, k9 < 12 → qp k9 = some (pr k9) ∧ wd_at w1048 (pr k9) (.inl (cy 2, 12, .inl (fp k9))) ∧ tg (pr k9) = 11000 + k9 := fun k9 hi9 => ⟨(fm960 k9 hi9).1, wd_at.pt ew1049 (fm960 k9 hi9).2.1 (tg_ne (fm960 k9 hi9).2.2 tm13 (tnA (show 10113 < 11000 by decide))), (fm960 k9 hi9).2.2⟩
                      have fm1086 : ∀ k9, k9 < 12 → qw k9 = some (wr k9) ∧ wd_at w1048 (wr k9) (.inl (cy 2, 12, .inl (fw k9))) ∧ tg (wr k9) = 12000 + k9 := fun k9 hi9 => ⟨(fm961 k9 hi9).1, wd_at.pt ew1049 (fm961 k9 hi9).2.1 (tg_ne (fm961 k9 hi9).2.2 tm13 (tnA (show 10113 < 12000 by decide))), (fm961 k9 hi9).2.2⟩
                      have fm1087 : ∀ k9, k9 < 60 → qs k9 = some (sr k9) ∧ wd_at w1048 (sr k9) (.inl (cy 2, 12, .inl (fs k9))) ∧ tg (sr k9) = 13000 + k9 := fun k9 hi9 => ⟨(fm962 k9 hi9).1, wd_at.pt ew1049 (fm962 k9 hi9).2.1 (tg_ne (fm962 k9 hi9).2.2 tm13 (tnA (show 10113 < 13000 by decide))), (fm962 k9 hi9).2.2⟩
                      have kp1088 := kp963.put ew1049 s92
                      refine lv_aload_n hx hb dX11_show_543 rfl (lv_at hl 0 rfl) ?_
                      refine lv_dup hx hb dX11_show_544 rfl ?_
                      refine x_get (ref := "NoteHouseModel") F hP k1050 rfl (fun _ h => List.mem_cons_of_mem _ (List.mem_append_right _ (h))) 38 (Nat.le_of_ble_eq_true rfl) (List.mem_cons_of_mem _ (List.mem_append_left _ (List.mem_append_left _ (List.mem_of_getElem? (i := 0) rfl)))) rfl rfl dX11_show_545 ?_
                      refine lv_iconst (v := 1) hx hb dX11_show_548 (by decide) ?_
                      refine lv_iadd hx hb dX11_show_549 ?_
                      rw [show ((nI sh) + 1 : Int32) = nI (sh + 1) from nI_add sh 1]
                      refine y_put (ref := "NoteHouseModel") F hP hD hS k1050 rfl (fun _ h => List.mem_cons_of_mem _ (List.mem_append_right _ (h))) tyX11_ok nmX11 38 (Nat.le_of_ble_eq_true rfl) (List.mem_cons_of_mem _ (List.mem_append_left _ (List.mem_append_left _ (List.mem_of_getElem? (i := 0) rfl)))) rfl rfl rfl rfl (Nat.le_of_ble_eq_true rfl) dX11_show_550 (fun w1089 ew1090 H locs hP hD hS => ?_)
                      have k1091 : wd_at w1089 y (.inr (11, [.int v0, .int td, .ref m2, .ref m3, .ref m4, .ref m5, .ref m6, .int (nI pc), .ref m8, .ref m9, .ref m10, .ref m11, .ref m12, .ref m13, .ref m14, .int (nI ac), .int (nI sc), .ref m17, .ref m18, .ref m19, .ref m20, .ref m21, .ref m22, .ref m23, .ref m24, .int (nI ln), .int v26, .int v27, .int v28, .ref m29, .ref m30, .ref m31, .ref m32, .ref m33, .ref m34, .ref m35, .ref m36, .ref m37, .int (nI (sh + 1)), .ref m39, .ref m40, .ref m41, .ref m42, .ref m43, .ref m44, .ref m45, .ref m46, .ref m47, .ref m48, .ref m49, .int v50, .ref m51, .ref m52, .ref m53, .ref m54, .int (nI gf), .ref m56, .ref m57, .ref m58, .ref m59])) := wd_at.ps ew1090 k1050
                      have k1092 := wd_at.pt ew1090 k1051 (tg_ne tm5 ty (by decide))
                      have k1093 := wd_at.pt ew1090 k1052 (tg_ne tm6 ty (by decide))
                      have k1094 := wd_at.pt ew1090 k1053 (tg_ne tm8 ty (by decide))
                      have k1095 := wd_at.pt ew1090 k1054 (tg_ne tm9 ty (by decide))
                      have k1096 := wd_at.pt ew1090 k1055 (tg_ne tm10 ty (by decide))
                      have k1097 := wd_at.pt ew1090 k1056 (tg_ne tm11 ty (by decide))
                      have k1098 := wd_at.pt ew1090 k1057 (tg_ne tm12 ty (by decide))
                      have k1099 := wd_at.pt ew1090 k1058 (tg_ne tm13 ty (by decide))
                      have k1100 := wd_at.pt ew1090 k1059 (tg_ne tm14 ty (by decide))
                      have k1101 := wd_at.pt ew1090 k1060 (tg_ne tm17 ty (by decide))
                      have k1102 := wd_at.pt ew1090 k1061 (tg_ne tm18 ty (by decide))
                      have k1103 := wd_at.pt ew1090 k1062 (tg_ne tm19 ty (by decide))
                      have k1104 := wd_at.pt ew1090 k1063 (tg_ne tm20 ty (by decide))
                      have k1105 := wd_at.pt ew1090 k1064 (tg_ne tm21 ty (by decide))
                      have k1106 := wd_at.pt ew1090 k1065 (tg_ne tm22 ty (by decide))
                      have k1107 := wd_at.pt ew1090 k1066 (tg_ne tm29 ty (by decide))
                      have k1108 := wd_at.pt ew1090 k1067 (tg_ne tm30 ty (by decide))
                      have k1109 := wd_at.pt ew1090 k1068 (tg_ne tm31 ty (by decide))
                      have k1110 := wd_at.pt ew1090 k1069 (tg_ne tm32 ty (by decide))
                      have k1111 := wd_at.pt ew1090 k1070 (tg_ne tm33 ty (by decide))
                      have k1112 := wd_at.pt ew1090 k1071 (tg_ne tm34 ty (by decide))
                      have k1113 := wd_at.pt ew1090 k1072 (tg_ne tm39 ty (by decide))
                      have k1114 := wd_at.pt ew1090 k1073 (tg_ne tm40 ty (by decide))
                      have k1115 := wd_at.pt ew1090 k1074 (tg_ne tm41 ty (by decide))
                      have k1116 := wd_at.pt ew1090 k1075 (tg_ne tm42 ty (by decide))
                      have k1117 := wd_at.pt ew1090 k1076 (tg_ne tm43 ty (by decide))
                      have k1118 := wd_at.pt ew1090 k1077 (tg_ne tm44 ty (by decide))
                      have k1119 := wd_at.pt ew1090 k1078 (tg_ne tm45 ty (by decide))
                      have k1120 := wd_at.pt ew1090 k1079 (tg_ne tm46 ty (by decide))
                      have k1121 := wd_at.pt ew1090 k1080 (tg_ne tm47 ty (by decide))
                      have k1122 := wd_at.pt ew1090 k1081 (tg_ne tm48 ty (by decide))
                      have k1123 := wd_at.pt ew1090 k1082 (tg_ne tm2 ty (by decide))
                      have k1124 := wd_at.pt ew1090 k1083 (tg_ne tm3 ty (by decide))
                      have k1125 := wd_at.pt ew1090 k1084 (tg_ne tm23 ty (by decide))
                      have fm1126 : ∀ k9, k9 < 12 → qp k9 = some (pr k9) ∧ wd_at w1089 (pr k9) (.inl (cy 2, 12, .inl (fp k9))) ∧ tg (pr k9) = 11000 + k9 := fun k9 hi9 => ⟨(fm1085 k9 hi9).1, wd_at.pt ew1090 (fm1085 k9 hi9).2.1 (tg_ne (fm1085 k9 hi9).2.2 ty (tnA (show 10000 < 11000 by decide))), (fm1085 k9 hi9).2.2⟩
                      have fm1127 : ∀ k9, k9 < 12 → qw k9 = some (wr k9) ∧ wd_at w1089 (wr k9) (.inl (cy 2, 12, .inl (fw k9))) ∧ tg (wr k9) = 12000 + k9 := fun k9 hi9 => ⟨(fm1086 k9 hi9).1, wd_at.pt ew1090 (fm1086 k9 hi9).2.1 (tg_ne (fm1086 k9 hi9).2.2 ty (tnA (show 10000 < 12000 by decide))), (fm1086 k9 hi9).2.2⟩
                      have fm1128 : ∀ k9, k9 < 60 → qs k9 = some (sr k9) ∧ wd_at w1089 (sr k9) (.inl (cy 2, 12, .inl (fs k9))) ∧ tg (sr k9) = 13000 + k9 := fun k9 hi9 => ⟨(fm1087 k9 hi9).1, wd_at.pt ew1090 (fm1087 k9 hi9).2.1 (tg_ne (fm1087 k9 hi9).2.2 ty (tnA (show 10000 < 13000 by decide))), (fm1087 k9 hi9).2.2⟩
                      have kp1129 := kp1088.put ew1090 s90
                      refine lv_iload hx hb dX11_show_553 (lv_at hl 10 rfl) ?_
                      exact y_ir K hP hD hS (Nat.le_of_ble_eq_true rfl) (Nat.le_of_ble_eq_true rfl) (ty := .int) rfl rfl dX11_show_555 (⟨(sh + 1), gx510, upd f13 (nI pp).toNatClampNeg ((f13 (nI pp).toNatClampNeg) + 0), upd f14 (nI pp).toNatClampNeg ((f14 (nI pp).toNatClampNeg) + 1), upd f39 (nI sh).toNatClampNeg (nI tw), upd f40 (nI sh).toNatClampNeg (nI pp), upd f41 (nI sh).toNatClampNeg x3, upd f42 (nI sh).toNatClampNeg vv, upd f43 (nI sh).toNatClampNeg x5, upd f44 (nI sh).toNatClampNeg ddj, upd f45 (nI sh).toNatClampNeg fdj, upd f46 (nI sh).toNatClampNeg td, upd (upd f47 (nI sh).toNatClampNeg 268435456) (nI sh).toNatClampNeg 268435456, vp_updL (vp_updL f48 (nI sh).toNatClampNeg 0) (nI sh).toNatClampNeg ((vv.toInt64 * ((f5 (nI tw).toNatClampNeg).toInt64)) / 1000), ddj, rfl, ht.a (by omega) (by omega), hp.a (by omega) (by omega), by omega, kp1129, k1091, k1093, k1099, k1100, k1113, k1114, k1115, k1116, k1117, k1118, k1119, k1120, k1121, k1122⟩)
                    · refine lv_iload hx hb dX11_show_535 (lv_at hl 8 rfl) ?_
                      refine lv_goto (tgt := 541) hx hb dX11_show_537 (by decide) ?_
                      refine lv_iadd hx hb dX11_show_541 ?_
                      refine y_iast F hP hD hS k933 (vp_in_nI (n := pp) (N := 30) (by omega) (by decide)) dX11_show_542 (fun w1130 ew1131 H locs hP hD hS => ?_)
                      have k1132 := wd_at.pt ew1131 k925 (tg_ne ty tm13 (by decide))
                      have k1133 := wd_at.pt ew1131 k926 (tg_ne tm5 tm13 (by decide))
                      have k1134 := wd_at.pt ew1131 k927 (tg_ne tm6 tm13 (by decide))
                      have k1135 := wd_at.pt ew1131 k928 (tg_ne tm8 tm13 (by decide))
                      have k1136 := wd_at.pt ew1131 k929 (tg_ne tm9 tm13 (by decide))
                      have k1137 := wd_at.pt ew1131 k930 (tg_ne tm10 tm13 (by decide))
                      have k1138 := wd_at.pt ew1131 k931 (tg_ne tm11 tm13 (by decide))
                      have k1139 := wd_at.pt ew1131 k932 (tg_ne tm12 tm13 (by decide))
                      have k1140 : wd_at w1130 m13 (.inl (cy 2, 30, .inl (upd f13 (nI pp).toNatClampNeg ((f13 (nI pp).toNatClampNeg) + vv)))) := wd_at.ps ew1131 k933
                      have k1141 := wd_at.pt ew1131 k934 (tg_ne tm14 tm13 (by decide))
                      have k1142 := wd_at.pt ew1131 k935 (tg_ne tm17 tm13 (by decide))
                      have k1143 := wd_at.pt ew1131 k936 (tg_ne tm18 tm13 (by decide))
                      have k1144 := wd_at.pt ew1131 k937 (tg_ne tm19 tm13 (by decide))
                      have k1145 := wd_at.pt ew1131 k938 (tg_ne tm20 tm13 (by decide))
                      have k1146 := wd_at.pt ew1131 k939 (tg_ne tm21 tm13 (by decide))
                      have k1147 := wd_at.pt ew1131 k940 (tg_ne tm22 tm13 (by decide))
                      have k1148 := wd_at.pt ew1131 k941 (tg_ne tm29 tm13 (by decide))
                      have k1149 := wd_at.pt ew1131 k942 (tg_ne tm30 tm13 (by decide))
                      have k1150 := wd_at.pt ew1131 k943 (tg_ne tm31 tm13 (by decide))
                      have k1151 := wd_at.pt ew1131 k944 (tg_ne tm32 tm13 (by decide))
                      have k1152 := wd_at.pt ew1131 k945 (tg_ne tm33 tm13 (by decide))
                      have k1153 := wd_at.pt ew1131 k946 (tg_ne tm34 tm13 (by decide))
                      have k1154 := wd_at.pt ew1131 k947 (tg_ne tm39 tm13 (by decide))
                      have k1155 := wd_at.pt ew1131 k948 (tg_ne tm40 tm13 (by decide))
                      have k1156 := wd_at.pt ew1131 k949 (tg_ne tm41 tm13 (by decide))
                      have k1157 := wd_at.pt ew1131 k950 (tg_ne tm42 tm13 (by decide))
                      have k1158 := wd_at.pt ew1131 k951 (tg_ne tm43 tm13 (by decide))
                      have k1159 := wd_at.pt ew1131 k952 (tg_ne tm44 tm13 (by decide))
                      have k1160 := wd_at.pt ew1131 k953 (tg_ne tm45 tm13 (by decide))
                      have k1161 := wd_at.pt ew1131 k954 (tg_ne tm46 tm13 (by decide))
                      have k1162 := wd_at.pt ew1131 k955 (tg_ne tm47 tm13 (by decide))
                      have k1163 := wd_at.pt ew1131 k956 (tg_ne tm48 tm13 (by decide))
                      have k1164 := wd_at.pt ew1131 k957 (tg_ne tm2 tm13 (by decide))
                      have k1165 := wd_at.pt ew1131 k958 (tg_ne tm3 tm13 (by decide))
                      have k1166 := wd_at.pt ew1131 k959 (tg_ne tm23 tm13 (by decide))
                      have fm1167 : ∀ k9, k9 < 12 → qp k9 = some (pr k9) ∧ wd_at w1130 (pr k9) (.inl (cy 2, 12, .inl (fp k9))) ∧ tg (pr k9) = 11000 + k9 := fun k9 hi9 => ⟨(fm960 k9 hi9).1, wd_at.pt ew1131 (fm960 k9 hi9).2.1 (tg_ne (fm960 k9 hi9).2.2 tm13 (tnA (show 10113 < 11000 by decide))), (fm960 k9 hi9).2.2⟩
                      have fm1168 : ∀ k9, k9 < 12 → qw k9 = some (wr k9) ∧ wd_at w1130 (wr k9) (.inl (cy 2, 12, .inl (fw k9))) ∧ tg (wr k9) = 12000 + k9 := fun k9 hi9 => ⟨(fm961 k9 hi9).1, wd_at.pt ew1131 (fm961 k9 hi9).2.1 (tg_ne (fm961 k9 hi9).2.2 tm13 (tnA (show 10113 < 12000 by decide))), (fm961 k9 hi9).2.2⟩
                      have fm1169 : ∀ k9, k9 < 60 → qs k9 = some (sr k9) ∧ wd_at w1130 (sr k9) (.inl (cy 2, 12, .inl (fs k9))) ∧ tg (sr k9) = 13000 + k9 := fun k9 hi9 => ⟨(fm962 k9 hi9).1, wd_at.pt ew1131 (fm962 k9 hi9).2.1 (tg_ne (fm962 k9 hi9).2.2 tm13 (tnA (show 10113 < 13000 by decide))), (fm962 k9 hi9).2.2⟩
                      have kp1170 := kp963.put ew1131 s92
                      refine lv_aload_n hx hb dX11_show_543 rfl (lv_at hl 0 rfl) ?_
                      refine lv_dup hx hb dX11_show_544 rfl ?_
                      refine x_get (ref := "NoteHouseModel") F hP k1132 rfl (fun _ h => List.mem_cons_of_mem _ (List.mem_append_right _ (h))) 38 (Nat.le_of_ble_eq_true rfl) (List.mem_cons_of_mem _ (List.mem_append_left _ (List.mem_append_left _ (List.mem_of_getElem? (i := 0) rfl)))) rfl rfl dX11_show_545 ?_
                      refine lv_iconst (v := 1) hx hb dX11_show_548 (by decide) ?_
                      refine lv_iadd hx hb dX11_show_549 ?_
                      rw [show ((nI sh) + 1 : Int32) = nI (sh + 1) from nI_add sh 1]
                      refine y_put (ref := "NoteHouseModel") F hP hD hS k1132 rfl (fun _ h => List.mem_cons_of_mem _ (List.mem_append_right _ (h))) tyX11_ok nmX11 38 (Nat.le_of_ble_eq_true rfl) (List.mem_cons_of_mem _ (List.mem_append_left _ (List.mem_append_left _ (List.mem_of_getElem? (i := 0) rfl)))) rfl rfl rfl rfl (Nat.le_of_ble_eq_true rfl) dX11_show_550 (fun w1171 ew1172 H locs hP hD hS => ?_)
                      have k1173 : wd_at w1171 y (.inr (11, [.int v0, .int td, .ref m2, .ref m3, .ref m4, .ref m5, .ref m6, .int (nI pc), .ref m8, .ref m9, .ref m10, .ref m11, .ref m12, .ref m13, .ref m14, .int (nI ac), .int (nI sc), .ref m17, .ref m18, .ref m19, .ref m20, .ref m21, .ref m22, .ref m23, .ref m24, .int (nI ln), .int v26, .int v27, .int v28, .ref m29, .ref m30, .ref m31, .ref m32, .ref m33, .ref m34, .ref m35, .ref m36, .ref m37, .int (nI (sh + 1)), .ref m39, .ref m40, .ref m41, .ref m42, .ref m43, .ref m44, .ref m45, .ref m46, .ref m47, .ref m48, .ref m49, .int v50, .ref m51, .ref m52, .ref m53, .ref m54, .int (nI gf), .ref m56, .ref m57, .ref m58, .ref m59])) := wd_at.ps ew1172 k1132
                      have k1174 := wd_at.pt ew1172 k1133 (tg_ne tm5 ty (by decide))
                      have k1175 := wd_at.pt ew1172 k1134 (tg_ne tm6 ty (by decide))
                      have k1176 := wd_at.pt ew1172 k1135 (tg_ne tm8 ty (by decide))
                      have k1177 := wd_at.pt ew1172 k1136 (tg_ne tm9 ty (by decide))
                      have k1178 := wd_at.pt ew1172 k1137 (tg_ne tm10 ty (by decide))
                      have k1179 := wd_at.pt ew1172 k1138 (tg_ne tm11 ty (by decide))
                      have k1180 := wd_at.pt ew1172 k1139 (tg_ne tm12 ty (by decide))
                      have k1181 := wd_at.pt ew1172 k1140 (tg_ne tm13 ty (by decide))
                      have k1182 := wd_at.pt ew1172 k1141 (tg_ne tm14 ty (by decide))
                      have k1183 := wd_at.pt ew1172 k1142 (tg_ne tm17 ty (by decide))
                      have k1184 := wd_at.pt ew1172 k1143 (tg_ne tm18 ty (by decide))
                      have k1185 := wd_at.pt ew1172 k1144 (tg_ne tm19 ty (by decide))
                      have k1186 := wd_at.pt ew1172 k1145 (tg_ne tm20 ty (by decide))
                      have k1187 := wd_at.pt ew1172 k1146 (tg_ne tm21 ty (by decide))
                      have k1188 := wd_at.pt ew1172 k1147 (tg_ne tm22 ty (by decide))
                      have k1189 := wd_at.pt ew1172 k1148 (tg_ne tm29 ty (by decide))
                      have k1190 := wd_at.pt ew1172 k1149 (tg_ne tm30 ty (by decide))
                      have k1191 := wd_at.pt ew1172 k1150 (tg_ne tm31 ty (by decide))
                      have k1192 := wd_at.pt ew1172 k1151 (tg_ne tm32 ty (by decide))
                      have k1193 := wd_at.pt ew1172 k1152 (tg_ne tm33 ty (by decide))
                      have k1194 := wd_at.pt ew1172 k1153 (tg_ne tm34 ty (by decide))
                      have k1195 := wd_at.pt ew1172 k1154 (tg_ne tm39 ty (by decide))
                      have k1196 := wd_at.pt ew1172 k1155 (tg_ne tm40 ty (by decide))
                      have k1197 := wd_at.pt ew1172 k1156 (tg_ne tm41 ty (by decide))
                      have k1198 := wd_at.pt ew1172 k1157 (tg_ne tm42 ty (by decide))
                      have k1199 := wd_at.pt ew1172 k1158 (tg_ne tm43 ty (by decide))
                      have k1200 := wd_at.pt ew1172 k1159 (tg_ne tm44 ty (by decide))
                      have k1201 := wd_at.pt ew1172 k1160 (tg_ne tm45 ty (by decide))
                      have k1202 := wd_at.pt ew1172 k1161 (tg_ne tm46 ty (by decide))
                      have k1203 := wd_at.pt ew1172 k1162 (tg_ne tm47 ty (by decide))
                      have k1204 := wd_at.pt ew1172 k1163 (tg_ne tm48 ty (by decide))
                      have k1205 := wd_at.pt ew1172 k1164 (tg_ne tm2 ty (by decide))
                      have k1206 := wd_at.pt ew1172 k1165 (tg_ne tm3 ty (by decide))
                      have k1207 := wd_at.pt ew1172 k1166 (tg_ne tm23 ty (by decide))
                      have fm1208 : ∀ k9, k9 < 12 → qp k9 = some (pr k9) ∧ wd_at w1171 (pr k9) (.inl (cy 2, 12, .inl (fp k9))) ∧ tg (pr k9) = 11000 + k9 := fun k9 hi9 => ⟨(fm1167 k9 hi9).1, wd_at.pt ew1172 (fm1167 k9 hi9).2.1 (tg_ne (fm1167 k9 hi9).2.2 ty (tnA (show 10000 < 11000 by decide))), (fm1167 k9 hi9).2.2⟩
                      have fm1209 : ∀ k9, k9 < 12 → qw k9 = some (wr k9) ∧ wd_at w1171 (wr k9) (.inl (cy 2, 12, .inl (fw k9))) ∧ tg (wr k9) = 12000 + k9 := fun k9 hi9 => ⟨(fm1168 k9 hi9).1, wd_at.pt ew1172 (fm1168 k9 hi9).2.1 (tg_ne (fm1168 k9 hi9).2.2 ty (tnA (show 10000 < 12000 by decide))), (fm1168 k9 hi9).2.2⟩
                      have fm1210 : ∀ k9, k9 < 60 → qs k9 = some (sr k9) ∧ wd_at w1171 (sr k9) (.inl (cy 2, 12, .inl (fs k9))) ∧ tg (sr k9) = 13000 + k9 := fun k9 hi9 => ⟨(fm1169 k9 hi9).1, wd_at.pt ew1172 (fm1169 k9 hi9).2.1 (tg_ne (fm1169 k9 hi9).2.2 ty (tnA (show 10000 < 13000 by decide))), (fm1169 k9 hi9).2.2⟩
                      have kp1211 := kp1170.put ew1172 s90
                      refine lv_iload hx hb dX11_show_553 (lv_at hl 10 rfl) ?_
                      exact y_ir K hP hD hS (Nat.le_of_ble_eq_true rfl) (Nat.le_of_ble_eq_true rfl) (ty := .int) rfl rfl dX11_show_555 (⟨(sh + 1), gx510, upd f13 (nI pp).toNatClampNeg ((f13 (nI pp).toNatClampNeg) + vv), upd f14 (nI pp).toNatClampNeg ((f14 (nI pp).toNatClampNeg) + 1), upd f39 (nI sh).toNatClampNeg (nI tw), upd f40 (nI sh).toNatClampNeg (nI pp), upd f41 (nI sh).toNatClampNeg x3, upd f42 (nI sh).toNatClampNeg vv, upd f43 (nI sh).toNatClampNeg x5, upd f44 (nI sh).toNatClampNeg ddj, upd f45 (nI sh).toNatClampNeg fdj, upd f46 (nI sh).toNatClampNeg td, upd (upd f47 (nI sh).toNatClampNeg 268435456) (nI sh).toNatClampNeg 268435456, vp_updL (vp_updL f48 (nI sh).toNatClampNeg 0) (nI sh).toNatClampNeg ((vv.toInt64 * ((f5 (nI tw).toNatClampNeg).toInt64)) / 1000), ddj, rfl, ht.a (by omega) (by omega), hp.a (by omega) (by omega), by omega, kp1211, k1173, k1175, k1181, k1182, k1195, k1196, k1197, k1198, k1199, k1200, k1201, k1202, k1203, k1204⟩)
            refine lv_iconst (v := (-1)) hx hb dX11_show_120 (by decide) ?_
            refine lv_istore (lv' := [(9, .int (-1)), (0, .ref y), (1, .int (nI tw)), (2, .int (nI pp)), (3, .int x3), (4, .int x4), (5, .int x5), (6, .int x6), (7, .int bk), (8, .int vv)]) hx hb dX11_show_121 hl (by decide) rfl (fun ls hl => ?_)
            refine lv_iconst (v := 0) hx hb dX11_show_123 (by decide) ?_
            refine lv_istore (lv' := [(10, .int 0), (9, .int (-1)), (0, .ref y), (1, .int (nI tw)), (2, .int (nI pp)), (3, .int x3), (4, .int x4), (5, .int x5), (6, .int x6), (7, .int bk), (8, .int vv)]) hx hb dX11_show_124 hl (by decide) rfl (fun ls hl => ?_)
            have lp126 : ∀ (N : Nat) (r : Nat) (fd : Int32), (r + N = ru) → (fd = -1 ∨ ∃ k, k < 12 ∧ fd = nI k) → ∀ (ls : Array Slot), lv_has ls 15 [(0, .ref y), (1, .int (nI tw)), (2, .int (nI pp)), (3, .int x3), (4, .int x4), (5, .int x5), (6, .int x6), (7, .int bk), (8, .int vv), (9, .int fd), (10, .int (nI r))] → Wv p l e ({ frames := 2, cells := 0, slots := 0, locals := 52 }) s m args below meth c D A (0) (0) Q w (F0 m 126 ls []) := by
              intro N
              induction N with
              | zero =>
                intro r fd hN126 hfd ls hl H locs hP hD hS
                refine lv_iload hx hb dX11_show_126 (lv_at hl 10 rfl) ?_
                refine lv_aload_n hx hb dX11_show_128 rfl (lv_at hl 0 rfl) ?_
                refine x_get (ref := "NoteHouseModel") F hP c90 rfl (fun _ h => List.mem_cons_of_mem _ (List.mem_append_right _ (h))) 29 (Nat.le_of_ble_eq_true rfl) (List.mem_cons_of_mem _ (List.mem_append_left _ (List.mem_append_left _ (List.mem_of_getElem? (i := 6) rfl)))) rfl rfl dX11_show_129 ?_
                refine lv_iload_n hx hb dX11_show_132 rfl (lv_at hl 1 rfl) ?_
                refine x_iald F hP c916 (vp_in_nI (n := tw) (N := 12) (by omega) (by decide)) dX11_show_133 ?_
                rw [nI_clamp (n := tw) (by omega), eru]
                refine lv_icmp_ge (tgt := 305) hx hb dX11_show_134 (by decide) (fun c_1213 => ?_) (fun c_1213 => absurd (nI_le (a := ru) (b := r) (by omega) (by omega)) c_1213)
                refine lv_iload hx hb dX11_show_305 (lv_at hl 9 rfl) ?_
                refine lv_iconst (v := (-1)) hx hb dX11_show_307 (by decide) ?_
                refine lv_icmp_ne (tgt := 315) hx hb dX11_show_308 (by decide) (fun c_1214 => ?_) (fun c_1214 => ?_)
                · obtain ⟨kf, hkf, rfl⟩ := hfd.resolve_left c_1214
                  refine lv_aload_n hx hb dX11_show_315 rfl (lv_at hl 0 rfl) ?_
                  refine x_get (ref := "NoteHouseModel") F hP c90 rfl (fun _ h => List.mem_cons_of_mem _ (List.mem_append_right _ (h))) 30 (Nat.le_of_ble_eq_true rfl) (List.mem_cons_of_mem _ (List.mem_append_left _ (List.mem_append_left _ (List.mem_of_getElem? (i := 11) rfl)))) rfl rfl dX11_show_316 ?_
                  refine lv_bipush (v := 12) hx hb dX11_show_319 (by decide) ?_
                  refine lv_iload_n hx hb dX11_show_321 rfl (lv_at hl 1 rfl) ?_
                  refine lv_imul hx hb dX11_show_322 ?_
                  rw [show (12 * (nI tw) : Int32) = nI (12 * tw) from pk_mul 12 tw]
                  refine lv_iload hx hb dX11_show_323 (lv_at hl 9 rfl) ?_
                  refine lv_iadd hx hb dX11_show_325 ?_
                  rw [show ((nI (12 * tw)) + (nI kf) : Int32) = nI ((12 * tw) + kf) from nI_add (12 * tw) kf]
                  refine x_iald F hP c917 (vp_in_nI (n := ((12 * tw) + kf)) (N := 156) (by omega) (by decide)) dX11_show_326 ?_
                  refine lv_istore (lv' := [(10, .int (f30 (nI ((12 * tw) + kf)).toNatClampNeg)), (0, .ref y), (1, .int (nI tw)), (2, .int (nI pp)), (3, .int x3), (4, .int x4), (5, .int x5), (6, .int x6), (7, .int bk), (8, .int vv), (9, .int (nI kf))]) hx hb dX11_show_327 hl (by decide) rfl (fun ls hl => ?_)
                  exact jn329 (nI kf) (f30 (nI ((12 * tw) + kf)).toNatClampNeg) ls (lv_sub hl [1, 2, 3, 4, 5, 6, 7, 8, 9, 10, 0] rfl) H locs hP hD hS
                · refine lv_iconst (v := 1) hx hb dX11_show_311 (by decide) ?_
                  refine lv_goto (tgt := 327) hx hb dX11_show_312 (by decide) ?_
                  refine lv_istore (lv' := [(10, .int 1), (0, .ref y), (1, .int (nI tw)), (2, .int (nI pp)), (3, .int x3), (4, .int x4), (5, .int x5), (6, .int x6), (7, .int bk), (8, .int vv), (9, .int fd)]) hx hb dX11_show_327 hl (by decide) rfl (fun ls hl => ?_)
                  exact jn329 fd 1 ls (lv_sub hl [1, 2, 3, 4, 5, 6, 7, 8, 9, 10, 0] rfl) H locs hP hD hS
              | succ N ih126 =>
                intro r fd hN126 hfd ls hl H locs hP hD hS
                refine lv_iload hx hb dX11_show_126 (lv_at hl 10 rfl) ?_
                refine lv_aload_n hx hb dX11_show_128 rfl (lv_at hl 0 rfl) ?_
                refine x_get (ref := "NoteHouseModel") F hP c90 rfl (fun _ h => List.mem_cons_of_mem _ (List.mem_append_right _ (h))) 29 (Nat.le_of_ble_eq_true rfl) (List.mem_cons_of_mem _ (List.mem_append_left _ (List.mem_append_left _ (List.mem_of_getElem? (i := 6) rfl)))) rfl rfl dX11_show_129 ?_
                refine lv_iload_n hx hb dX11_show_132 rfl (lv_at hl 1 rfl) ?_
                refine x_iald F hP c916 (vp_in_nI (n := tw) (N := 12) (by omega) (by decide)) dX11_show_133 ?_
                rw [nI_clamp (n := tw) (by omega), eru]
                refine lv_icmp_ge (tgt := 305) hx hb dX11_show_134 (by decide) (fun c_1215 => absurd c_1215 (nI_ge (a := r) (b := ru) (by omega) (by omega))) (fun c_1215 => ?_)
                refine lv_iload hx hb dX11_show_137 (lv_at hl 9 rfl) ?_
                refine lv_iconst (v := (-1)) hx hb dX11_show_139 (by decide) ?_
                refine lv_icmp_ne (tgt := 305) hx hb dX11_show_140 (by decide) (fun c_1216 => ?_) (fun c_1216 => ?_)
                · refine lv_iload hx hb dX11_show_305 (lv_at hl 9 rfl) ?_
                  refine lv_iconst (v := (-1)) hx hb dX11_show_307 (by decide) ?_
                  refine lv_icmp_ne (tgt := 315) hx hb dX11_show_308 (by decide) (fun c_1217 => ?_) (fun c_1217 => ?_)
                  · obtain ⟨kf, hkf, rfl⟩ := hfd.resolve_left c_1217
                    refine lv_aload_n hx hb dX11_show_315 rfl (lv_at hl 0 rfl) ?_
                    refine x_get (ref := "NoteHouseModel") F hP c90 rfl (fun _ h => List.mem_cons_of_mem _ (List.mem_append_right _ (h))) 30 (Nat.le_of_ble_eq_true rfl) (List.mem_cons_of_mem _ (List.mem_append_left _ (List.mem_append_left _ (List.mem_of_getElem? (i := 11) rfl)))) rfl rfl dX11_show_316 ?_
                    refine lv_bipush (v := 12) hx hb dX11_show_319 (by decide) ?_
                    refine lv_iload_n hx hb dX11_show_321 rfl (lv_at hl 1 rfl) ?_
                    refine lv_imul hx hb dX11_show_322 ?_
                    rw [show (12 * (nI tw) : Int32) = nI (12 * tw) from pk_mul 12 tw]
                    refine lv_iload hx hb dX11_show_323 (lv_at hl 9 rfl) ?_
                    refine lv_iadd hx hb dX11_show_325 ?_
                    rw [show ((nI (12 * tw)) + (nI kf) : Int32) = nI ((12 * tw) + kf) from nI_add (12 * tw) kf]
                    refine x_iald F hP c917 (vp_in_nI (n := ((12 * tw) + kf)) (N := 156) (by omega) (by decide)) dX11_show_326 ?_
                    refine lv_istore (lv' := [(10, .int (f30 (nI ((12 * tw) + kf)).toNatClampNeg)), (0, .ref y), (1, .int (nI tw)), (2, .int (nI pp)), (3, .int x3), (4, .int x4), (5, .int x5), (6, .int x6), (7, .int bk), (8, .int vv), (9, .int (nI kf))]) hx hb dX11_show_327 hl (by decide) rfl (fun ls hl => ?_)
                    exact jn329 (nI kf) (f30 (nI ((12 * tw) + kf)).toNatClampNeg) ls (lv_sub hl [1, 2, 3, 4, 5, 6, 7, 8, 9, 10, 0] rfl) H locs hP hD hS
                  · refine lv_iconst (v := 1) hx hb dX11_show_311 (by decide) ?_
                    refine lv_goto (tgt := 327) hx hb dX11_show_312 (by decide) ?_
                    refine lv_istore (lv' := [(10, .int 1), (0, .ref y), (1, .int (nI tw)), (2, .int (nI pp)), (3, .int x3), (4, .int x4), (5, .int x5), (6, .int x6), (7, .int bk), (8, .int vv), (9, .int fd)]) hx hb dX11_show_327 hl (by decide) rfl (fun ls hl => ?_)
                    exact jn329 fd 1 ls (lv_sub hl [1, 2, 3, 4, 5, 6, 7, 8, 9, 10, 0] rfl) H locs hP hD hS
                · obtain ⟨cu, hcu, ecu⟩ := hc (12 * tw + r) (by omega)
                  refine lv_iconst (v := 1) hx hb dX11_show_143 (by decide) ?_
                  refine lv_istore (lv' := [(11, .int 1), (0, .ref y), (1, .int (nI tw)), (2, .int (nI pp)), (3, .int x3), (4, .int x4), (5, .int x5), (6, .int x6), (7, .int bk), (8, .int vv), (9, .int fd), (10, .int (nI r))]) hx hb dX11_show_144 hl (by decide) rfl (fun ls hl => ?_)
                  refine lv_iconst (v := 0) hx hb dX11_show_146 (by decide) ?_
                  refine lv_istore (lv' := [(12, .int 0), (11, .int 1), (0, .ref y), (1, .int (nI tw)), (2, .int (nI pp)), (3, .int x3), (4, .int x4), (5, .int x5), (6, .int x6), (7, .int bk), (8, .int vv), (9, .int fd), (10, .int (nI r))]) hx hb dX11_show_147 hl (by decide) rfl (fun ls hl => ?_)
                  have lp149 : ∀ (N : Nat) (cz : Nat) (al : Int32), (cz + N = cu) → ∀ (ls : Array Slot), lv_has ls 15 [(0, .ref y), (1, .int (nI tw)), (2, .int (nI pp)), (3, .int x3), (4, .int x4), (5, .int x5), (6, .int x6), (7, .int bk), (8, .int vv), (9, .int fd), (10, .int (nI r)), (11, .int al), (12, .int (nI cz))] → Wv p l e ({ frames := 2, cells := 0, slots := 0, locals := 52 }) s m args below meth c D A (0) (0) Q w (F0 m 149 ls []) := by
                    intro N
                    induction N with
                    | zero =>
                      intro cz al hN149 ls hl H locs hP hD hS
                      refine lv_iload hx hb dX11_show_149 (lv_at hl 12 rfl) ?_
                      refine lv_aload_n hx hb dX11_show_151 rfl (lv_at hl 0 rfl) ?_
                      refine x_get (ref := "NoteHouseModel") F hP c90 rfl (fun _ h => List.mem_cons_of_mem _ (List.mem_append_right _ (h))) 31 (Nat.le_of_ble_eq_true rfl) (List.mem_cons_of_mem _ (List.mem_append_left _ (List.mem_append_left _ (List.mem_of_getElem? (i := 7) rfl)))) rfl rfl dX11_show_152 ?_
                      refine lv_bipush (v := 12) hx hb dX11_show_155 (by decide) ?_
                      refine lv_iload_n hx hb dX11_show_157 rfl (lv_at hl 1 rfl) ?_
                      refine lv_imul hx hb dX11_show_158 ?_
                      rw [show (12 * (nI tw) : Int32) = nI (12 * tw) from pk_mul 12 tw]
                      refine lv_iload hx hb dX11_show_159 (lv_at hl 10 rfl) ?_
                      refine lv_iadd hx hb dX11_show_161 ?_
                      rw [show ((nI (12 * tw)) + (nI r) : Int32) = nI ((12 * tw) + r) from nI_add (12 * tw) r]
                      refine x_iald F hP c918 (vp_in_nI (n := ((12 * tw) + r)) (N := 156) (by omega) (by decide)) dX11_show_162 ?_
                      rw [nI_clamp (n := 12 * tw + r) (by omega), ecu]
                      refine lv_icmp_ge (tgt := 285) hx hb dX11_show_163 (by decide) (fun c_1219 => ?_) (fun c_1219 => absurd (nI_le (a := cu) (b := cz) (by omega) (by omega)) c_1219)
                      refine lv_iload hx hb dX11_show_285 (lv_at hl 11 rfl) ?_
                      refine lv_if_eq (tgt := 295) hx hb dX11_show_287 (by decide) (fun c_1220 => ?_) (fun c_1220 => ?_)
                      · refine lv_iload hx hb dX11_show_295 (lv_at hl 9 rfl) ?_
                        refine lv_istore (lv' := [(9, .int fd), (0, .ref y), (1, .int (nI tw)), (2, .int (nI pp)), (3, .int x3), (4, .int x4), (5, .int x5), (6, .int x6), (7, .int bk), (8, .int vv), (10, .int (nI r)), (11, .int al), (12, .int (nI cz))]) hx hb dX11_show_297 hl (by decide) rfl (fun ls hl => ?_)
                        refine lv_iinc (v := nI (r + 1)) (lv' := [(10, .int (nI (r + 1))), (9, .int fd), (0, .ref y), (1, .int (nI tw)), (2, .int (nI pp)), (3, .int x3), (4, .int x4), (5, .int x5), (6, .int x6), (7, .int bk), (8, .int vv), (11, .int al), (12, .int (nI cz))]) hx hb dX11_show_299 hl (k := 10) rfl (nI_1 r) (by decide) rfl (fun ls hl => ?_)
                        refine lv_goto (tgt := 126) hx hb dX11_show_302 (by decide) ?_
                        exact ih126 (r + 1) fd  (by omega) hfd   ls (lv_sub hl [2, 3, 4, 5, 6, 7, 8, 9, 10, 1, 0] rfl) H locs hP hD hS
                      · refine lv_iload hx hb dX11_show_290 (lv_at hl 10 rfl) ?_
                        refine lv_goto (tgt := 297) hx hb dX11_show_292 (by decide) ?_
                        refine lv_istore (lv' := [(9, .int (nI r)), (0, .ref y), (1, .int (nI tw)), (2, .int (nI pp)), (3, .int x3), (4, .int x4), (5, .int x5), (6, .int x6), (7, .int bk), (8, .int vv), (10, .int (nI r)), (11, .int al), (12, .int (nI cz))]) hx hb dX11_show_297 hl (by decide) rfl (fun ls hl => ?_)
                        refine lv_iinc (v := nI (r + 1)) (lv' := [(10, .int (nI (r + 1))), (9, .int (nI r)), (0, .ref y), (1, .int (nI tw)), (2, .int (nI pp)), (3, .int x3), (4, .int x4), (5, .int x5), (6, .int x6), (7, .int bk), (8, .int vv), (11, .int al), (12, .int (nI cz))]) hx hb dX11_show_299 hl (k := 10) rfl (nI_1 r) (by decide) rfl (fun ls hl => ?_)
                        refine lv_goto (tgt := 126) hx hb dX11_show_302 (by decide) ?_
                        exact ih126 (r + 1) (nI r)  (by omega) (Or.inr ⟨r, by omega, rfl⟩)   ls (lv_sub hl [2, 3, 4, 5, 6, 7, 8, 9, 10, 1, 0] rfl) H locs hP hD hS
                    | succ N ih149 =>
                      intro cz al hN149 ls hl H locs hP hD hS
                      refine lv_iload hx hb dX11_show_149 (lv_at hl 12 rfl) ?_
                      refine lv_aload_n hx hb dX11_show_151 rfl (lv_at hl 0 rfl) ?_
                      refine x_get (ref := "NoteHouseModel") F hP c90 rfl (fun _ h => List.mem_cons_of_mem _ (List.mem_append_right _ (h))) 31 (Nat.le_of_ble_eq_true rfl) (List.mem_cons_of_mem _ (List.mem_append_left _ (List.mem_append_left _ (List.mem_of_getElem? (i := 7) rfl)))) rfl rfl dX11_show_152 ?_
                      refine lv_bipush (v := 12) hx hb dX11_show_155 (by decide) ?_
                      refine lv_iload_n hx hb dX11_show_157 rfl (lv_at hl 1 rfl) ?_
                      refine lv_imul hx hb dX11_show_158 ?_
                      rw [show (12 * (nI tw) : Int32) = nI (12 * tw) from pk_mul 12 tw]
                      refine lv_iload hx hb dX11_show_159 (lv_at hl 10 rfl) ?_
                      refine lv_iadd hx hb dX11_show_161 ?_
                      rw [show ((nI (12 * tw)) + (nI r) : Int32) = nI ((12 * tw) + r) from nI_add (12 * tw) r]
                      refine x_iald F hP c918 (vp_in_nI (n := ((12 * tw) + r)) (N := 156) (by omega) (by decide)) dX11_show_162 ?_
                      rw [nI_clamp (n := 12 * tw + r) (by omega), ecu]
                      refine lv_icmp_ge (tgt := 285) hx hb dX11_show_163 (by decide) (fun c_1221 => absurd c_1221 (nI_ge (a := cz) (b := cu) (by omega) (by omega))) (fun c_1221 => ?_)
                      refine lv_bipush (v := 6) hx hb dX11_show_166 (by decide) ?_
                      refine lv_bipush (v := 12) hx hb dX11_show_168 (by decide) ?_
                      refine lv_iload_n hx hb dX11_show_170 rfl (lv_at hl 1 rfl) ?_
                      refine lv_imul hx hb dX11_show_171 ?_
                      rw [show (12 * (nI tw) : Int32) = nI (12 * tw) from pk_mul 12 tw]
                      refine lv_iload hx hb dX11_show_172 (lv_at hl 10 rfl) ?_
                      refine lv_iadd hx hb dX11_show_174 ?_
                      rw [show ((nI (12 * tw)) + (nI r) : Int32) = nI ((12 * tw) + r) from nI_add (12 * tw) r]
                      refine lv_imul hx hb dX11_show_175 ?_
                      rw [show (6 * (nI ((12 * tw) + r)) : Int32) = nI (6 * ((12 * tw) + r)) from pk_mul 6 ((12 * tw) + r)]
                      refine lv_iload hx hb dX11_show_176 (lv_at hl 12 rfl) ?_
                      refine lv_iadd hx hb dX11_show_178 ?_
                      rw [show ((nI (6 * ((12 * tw) + r))) + (nI cz) : Int32) = nI ((6 * ((12 * tw) + r)) + cz) from nI_add (6 * ((12 * tw) + r)) cz]
                      refine lv_istore (lv' := [(13, .int (nI ((6 * ((12 * tw) + r)) + cz))), (0, .ref y), (1, .int (nI tw)), (2, .int (nI pp)), (3, .int x3), (4, .int x4), (5, .int x5), (6, .int x6), (7, .int bk), (8, .int vv), (9, .int fd), (10, .int (nI r)), (11, .int al), (12, .int (nI cz))]) hx hb dX11_show_179 hl (by decide) rfl (fun ls hl => ?_)
                      refine lv_aload_n hx hb dX11_show_181 rfl (lv_at hl 1 rfl) ?_
                      refine lv_aload_n hx hb dX11_show_182 rfl (lv_at hl 1 rfl) ?_
                      refine x_get (ref := "NoteHouseModel") F hP c90 rfl (fun _ h => List.mem_cons_of_mem _ (List.mem_append_right _ (h))) 32 (Nat.le_of_ble_eq_true rfl) (List.mem_cons_of_mem _ (List.mem_append_left _ (List.mem_append_left _ (List.mem_of_getElem? (i := 8) rfl)))) rfl rfl dX11_show_183 ?_
                      refine lv_iload hx hb dX11_show_186 (lv_at hl 0 rfl) ?_
                      refine x_iald F hP c919 (vp_in_nI (n := ((6 * ((12 * tw) + r)) + cz)) (N := 936) (by omega) (by decide)) dX11_show_188 ?_
                      refine lv_iload_n hx hb dX11_show_189 rfl (lv_at hl 2 rfl) ?_
                      refine lv_iload_n hx hb dX11_show_190 rfl (lv_at hl 3 rfl) ?_
                      refine lv_iload_n hx hb dX11_show_191 rfl (lv_at hl 4 rfl) ?_
                      refine lv_iload hx hb dX11_show_192 (lv_at hl 9 rfl) ?_
                      refine lv_iload hx hb dX11_show_194 (lv_at hl 6 rfl) ?_
                      refine x_callV (n := 6) (As := [.int (f32 (nI ((6 * ((12 * tw) + r)) + cz)).toNatClampNeg), .int (nI tw), .int (nI pp), .int x3, .int vv, .int x5]) (rest := []) F hP hD hS (m_told l D cy sk sv w tg y m2 m3 m4 m5 m6 m8 m9 m10 m11 m12 m13 m14 m17 m18 m19 m20 m21 m22 m23 m24 m29 m30 m31 m32 m33 m34 m35 m36 m37 m39 m40 m41 m42 m43 m44 m45 m46 m47 m48 m49 m51 m52 m53 m54 m56 m57 m58 m59 pc ac sc ln sh gf v0 td v26 v27 v28 v50 f8 f9 f10 f11 f12 f13 f17 f18 f19 f20 f21 f22 qs sr fs (f32 (nI ((6 * ((12 * tw) + r)) + cz)).toNatClampNeg) x3 vv x5 tw pp c90 c93 c94 c95 c96 c97 c98 c910 c911 c912 c913 c914 c915 c934 hFSR ty tm8 tm9 tm10 tm11 tm12 tm13 tm17 tm18 tm19 tm20 tm21 tm22 tm23 (by omega) (by omega) (by omega) (by omega)) gX11_show_X11_told rfl rfl (by decide +kernel) ⟨(Nat.le_of_ble_eq_true rfl), (Nat.le_of_ble_eq_true rfl)⟩ rfl hl.1 (Nat.le_of_ble_eq_true rfl) c90 rfl dX11_show_196 rfl ⟨(Nat.le_of_ble_eq_true rfl), (Nat.le_of_ble_eq_true rfl)⟩ (fun v1223 w1224 hp1222 H locs hP hD hS => ?_)
                      obtain ⟨rx1225, rfl, rfl⟩ := hp1222
                      refine W.eq (g2 := F0 m 199 ls [.int rx1225]) rfl (W.widen (k := 0) (n := 0) (Nat.le_of_ble_eq_true rfl) (Nat.le_of_ble_eq_true rfl) ?_)
                      refine lv_istore (lv' := [(14, .int rx1225), (13, .int (nI ((6 * ((12 * tw) + r)) + cz))), (0, .ref y), (1, .int (nI tw)), (2, .int (nI pp)), (3, .int x3), (4, .int x4), (5, .int x5), (6, .int x6), (7, .int bk), (8, .int vv), (9, .int fd), (10, .int (nI r)), (11, .int al), (12, .int (nI cz))]) hx hb dX11_show_199 hl (by decide) rfl (fun ls hl => ?_)
                      refine lv_iload hx hb dX11_show_201 (lv_at hl 13 rfl) ?_
                      refine lv_if_eq (tgt := 276) hx hb dX11_show_203 (by decide) (fun c_1226 => ?_) (fun c_1226 => ?_)
                      · refine lv_iconst (v := 0) hx hb dX11_show_276 (by decide) ?_
                        refine lv_istore (lv' := [(11, .int 0), (14, .int rx1225), (13, .int (nI ((6 * ((12 * tw) + r)) + cz))), (0, .ref y), (1, .int (nI tw)), (2, .int (nI pp)), (3, .int x3), (4, .int x4), (5, .int x5), (6, .int x6), (7, .int bk), (8, .int vv), (9, .int fd), (10, .int (nI r)), (12, .int (nI cz))]) hx hb dX11_show_277 hl (by decide) rfl (fun ls hl => ?_)
                        refine lv_iinc (v := nI (cz + 1)) (lv' := [(12, .int (nI (cz + 1))), (11, .int 0), (14, .int rx1225), (13, .int (nI ((6 * ((12 * tw) + r)) + cz))), (0, .ref y), (1, .int (nI tw)), (2, .int (nI pp)), (3, .int x3), (4, .int x4), (5, .int x5), (6, .int x6), (7, .int bk), (8, .int vv), (9, .int fd), (10, .int (nI r))]) hx hb dX11_show_279 hl (k := 14) rfl (nI_1 cz) (by decide) rfl (fun ls hl => ?_)
                        refine lv_goto (tgt := 149) hx hb dX11_show_282 (by decide) ?_
                        exact ih149 (cz + 1) 0  (by omega)    ls (lv_sub hl [4, 5, 6, 7, 8, 9, 10, 11, 12, 13, 14, 1, 0] rfl) H locs hP hD hS
                      · refine lv_aload_n hx hb dX11_show_206 rfl (lv_at hl 2 rfl) ?_
                        refine x_get (ref := "NoteHouseModel") F hP c90 rfl (fun _ h => List.mem_cons_of_mem _ (List.mem_append_right _ (h))) 33 (Nat.le_of_ble_eq_true rfl) (List.mem_cons_of_mem _ (List.mem_append_left _ (List.mem_append_left _ (List.mem_of_getElem? (i := 9) rfl)))) rfl rfl dX11_show_207 ?_
                        refine lv_iload hx hb dX11_show_210 (lv_at hl 1 rfl) ?_
                        refine x_iald F hP c920 (vp_in_nI (n := ((6 * ((12 * tw) + r)) + cz)) (N := 936) (by omega) (by decide)) dX11_show_212 ?_
                        refine lv_bipush (v := 60) hx hb dX11_show_213 (by decide) ?_
                        refine lv_icmp_ne (tgt := 233) hx hb dX11_show_215 (by decide) (fun c_1227 => ?_) (fun c_1227 => ?_)
                        · refine lv_aload_n hx hb dX11_show_233 rfl (lv_at hl 2 rfl) ?_
                          refine x_get (ref := "NoteHouseModel") F hP c90 rfl (fun _ h => List.mem_cons_of_mem _ (List.mem_append_right _ (h))) 33 (Nat.le_of_ble_eq_true rfl) (List.mem_cons_of_mem _ (List.mem_append_left _ (List.mem_append_left _ (List.mem_of_getElem? (i := 9) rfl)))) rfl rfl dX11_show_234 ?_
                          refine lv_iload hx hb dX11_show_237 (lv_at hl 1 rfl) ?_
                          refine x_iald F hP c920 (vp_in_nI (n := ((6 * ((12 * tw) + r)) + cz)) (N := 936) (by omega) (by decide)) dX11_show_239 ?_
                          refine lv_bipush (v := 62) hx hb dX11_show_240 (by decide) ?_
                          refine lv_icmp_ne (tgt := 260) hx hb dX11_show_242 (by decide) (fun c_1228 => ?_) (fun c_1228 => ?_)
                          · refine lv_iload hx hb dX11_show_260 (lv_at hl 0 rfl) ?_
                            refine lv_aload_n hx hb dX11_show_262 rfl (lv_at hl 2 rfl) ?_
                            refine x_get (ref := "NoteHouseModel") F hP c90 rfl (fun _ h => List.mem_cons_of_mem _ (List.mem_append_right _ (h))) 34 (Nat.le_of_ble_eq_true rfl) (List.mem_cons_of_mem _ (List.mem_append_left _ (List.mem_append_left _ (List.mem_of_getElem? (i := 10) rfl)))) rfl rfl dX11_show_263 ?_
                            refine lv_iload hx hb dX11_show_266 (lv_at hl 1 rfl) ?_
                            refine x_iald F hP c921 (vp_in_nI (n := ((6 * ((12 * tw) + r)) + cz)) (N := 936) (by omega) (by decide)) dX11_show_268 ?_
                            refine lv_icmp_ne (tgt := 276) hx hb dX11_show_269 (by decide) (fun c_1229 => ?_) (fun c_1229 => ?_)
                            · refine lv_iconst (v := 0) hx hb dX11_show_276 (by decide) ?_
                              refine lv_istore (lv' := [(11, .int 0), (14, .int rx1225), (13, .int (nI ((6 * ((12 * tw) + r)) + cz))), (0, .ref y), (1, .int (nI tw)), (2, .int (nI pp)), (3, .int x3), (4, .int x4), (5, .int x5), (6, .int x6), (7, .int bk), (8, .int vv), (9, .int fd), (10, .int (nI r)), (12, .int (nI cz))]) hx hb dX11_show_277 hl (by decide) rfl (fun ls hl => ?_)
                              refine lv_iinc (v := nI (cz + 1)) (lv' := [(12, .int (nI (cz + 1))), (11, .int 0), (14, .int rx1225), (13, .int (nI ((6 * ((12 * tw) + r)) + cz))), (0, .ref y), (1, .int (nI tw)), (2, .int (nI pp)), (3, .int x3), (4, .int x4), (5, .int x5), (6, .int x6), (7, .int bk), (8, .int vv), (9, .int fd), (10, .int (nI r))]) hx hb dX11_show_279 hl (k := 14) rfl (nI_1 cz) (by decide) rfl (fun ls hl => ?_)
                              refine lv_goto (tgt := 149) hx hb dX11_show_282 (by decide) ?_
                              exact ih149 (cz + 1) 0  (by omega)    ls (lv_sub hl [4, 5, 6, 7, 8, 9, 10, 11, 12, 13, 14, 1, 0] rfl) H locs hP hD hS
                            · refine lv_iconst (v := 1) hx hb dX11_show_272 (by decide) ?_
                              refine lv_goto (tgt := 277) hx hb dX11_show_273 (by decide) ?_
                              refine lv_istore (lv' := [(11, .int 1), (14, .int rx1225), (13, .int (nI ((6 * ((12 * tw) + r)) + cz))), (0, .ref y), (1, .int (nI tw)), (2, .int (nI pp)), (3, .int x3), (4, .int x4), (5, .int x5), (6, .int x6), (7, .int bk), (8, .int vv), (9, .int fd), (10, .int (nI r)), (12, .int (nI cz))]) hx hb dX11_show_277 hl (by decide) rfl (fun ls hl => ?_)
                              refine lv_iinc (v := nI (cz + 1)) (lv' := [(12, .int (nI (cz + 1))), (11, .int 1), (14, .int rx1225), (13, .int (nI ((6 * ((12 * tw) + r)) + cz))), (0, .ref y), (1, .int (nI tw)), (2, .int (nI pp)), (3, .int x3), (4, .int x4), (5, .int x5), (6, .int x6), (7, .int bk), (8, .int vv), (9, .int fd), (10, .int (nI r))]) hx hb dX11_show_279 hl (k := 14) rfl (nI_1 cz) (by decide) rfl (fun ls hl => ?_)
                              refine lv_goto (tgt := 149) hx hb dX11_show_282 (by decide) ?_
                              exact ih149 (cz + 1) 1  (by omega)    ls (lv_sub hl [4, 5, 6, 7, 8, 9, 10, 11, 12, 13, 14, 1, 0] rfl) H locs hP hD hS
                          · refine lv_iload hx hb dX11_show_245 (lv_at hl 0 rfl) ?_
                            refine lv_aload_n hx hb dX11_show_247 rfl (lv_at hl 2 rfl) ?_
                            refine x_get (ref := "NoteHouseModel") F hP c90 rfl (fun _ h => List.mem_cons_of_mem _ (List.mem_append_right _ (h))) 34 (Nat.le_of_ble_eq_true rfl) (List.mem_cons_of_mem _ (List.mem_append_left _ (List.mem_append_left _ (List.mem_of_getElem? (i := 10) rfl)))) rfl rfl dX11_show_248 ?_
                            refine lv_iload hx hb dX11_show_251 (lv_at hl 1 rfl) ?_
                            refine x_iald F hP c921 (vp_in_nI (n := ((6 * ((12 * tw) + r)) + cz)) (N := 936) (by omega) (by decide)) dX11_show_253 ?_
                            refine lv_icmp_le (tgt := 276) hx hb dX11_show_254 (by decide) (fun c_1230 => ?_) (fun c_1230 => ?_)
                            · refine lv_iconst (v := 0) hx hb dX11_show_276 (by decide) ?_
                              refine lv_istore (lv' := [(11, .int 0), (14, .int rx1225), (13, .int (nI ((6 * ((12 * tw) + r)) + cz))), (0, .ref y), (1, .int (nI tw)), (2, .int (nI pp)), (3, .int x3), (4, .int x4), (5, .int x5), (6, .int x6), (7, .int bk), (8, .int vv), (9, .int fd), (10, .int (nI r)), (12, .int (nI cz))]) hx hb dX11_show_277 hl (by decide) rfl (fun ls hl => ?_)
                              refine lv_iinc (v := nI (cz + 1)) (lv' := [(12, .int (nI (cz + 1))), (11, .int 0), (14, .int rx1225), (13, .int (nI ((6 * ((12 * tw) + r)) + cz))), (0, .ref y), (1, .int (nI tw)), (2, .int (nI pp)), (3, .int x3), (4, .int x4), (5, .int x5), (6, .int x6), (7, .int bk), (8, .int vv), (9, .int fd), (10, .int (nI r))]) hx hb dX11_show_279 hl (k := 14) rfl (nI_1 cz) (by decide) rfl (fun ls hl => ?_)
                              refine lv_goto (tgt := 149) hx hb dX11_show_282 (by decide) ?_
                              exact ih149 (cz + 1) 0  (by omega)    ls (lv_sub hl [4, 5, 6, 7, 8, 9, 10, 11, 12, 13, 14, 1, 0] rfl) H locs hP hD hS
                            · refine lv_goto (tgt := 272) hx hb dX11_show_257 (by decide) ?_
                              refine lv_iconst (v := 1) hx hb dX11_show_272 (by decide) ?_
                              refine lv_goto (tgt := 277) hx hb dX11_show_273 (by decide) ?_
                              refine lv_istore (lv' := [(11, .int 1), (14, .int rx1225), (13, .int (nI ((6 * ((12 * tw) + r)) + cz))), (0, .ref y), (1, .int (nI tw)), (2, .int (nI pp)), (3, .int x3), (4, .int x4), (5, .int x5), (6, .int x6), (7, .int bk), (8, .int vv), (9, .int fd), (10, .int (nI r)), (12, .int (nI cz))]) hx hb dX11_show_277 hl (by decide) rfl (fun ls hl => ?_)
                              refine lv_iinc (v := nI (cz + 1)) (lv' := [(12, .int (nI (cz + 1))), (11, .int 1), (14, .int rx1225), (13, .int (nI ((6 * ((12 * tw) + r)) + cz))), (0, .ref y), (1, .int (nI tw)), (2, .int (nI pp)), (3, .int x3), (4, .int x4), (5, .int x5), (6, .int x6), (7, .int bk), (8, .int vv), (9, .int fd), (10, .int (nI r))]) hx hb dX11_show_279 hl (k := 14) rfl (nI_1 cz) (by decide) rfl (fun ls hl => ?_)
                              refine lv_goto (tgt := 149) hx hb dX11_show_282 (by decide) ?_
                              exact ih149 (cz + 1) 1  (by omega)    ls (lv_sub hl [4, 5, 6, 7, 8, 9, 10, 11, 12, 13, 14, 1, 0] rfl) H locs hP hD hS
                        · refine lv_iload hx hb dX11_show_218 (lv_at hl 0 rfl) ?_
                          refine lv_aload_n hx hb dX11_show_220 rfl (lv_at hl 2 rfl) ?_
                          refine x_get (ref := "NoteHouseModel") F hP c90 rfl (fun _ h => List.mem_cons_of_mem _ (List.mem_append_right _ (h))) 34 (Nat.le_of_ble_eq_true rfl) (List.mem_cons_of_mem _ (List.mem_append_left _ (List.mem_append_left _ (List.mem_of_getElem? (i := 10) rfl)))) rfl rfl dX11_show_221 ?_
                          refine lv_iload hx hb dX11_show_224 (lv_at hl 1 rfl) ?_
                          refine x_iald F hP c921 (vp_in_nI (n := ((6 * ((12 * tw) + r)) + cz)) (N := 936) (by omega) (by decide)) dX11_show_226 ?_
                          refine lv_icmp_ge (tgt := 276) hx hb dX11_show_227 (by decide) (fun c_1231 => ?_) (fun c_1231 => ?_)
                          · refine lv_iconst (v := 0) hx hb dX11_show_276 (by decide) ?_
                            refine lv_istore (lv' := [(11, .int 0), (14, .int rx1225), (13, .int (nI ((6 * ((12 * tw) + r)) + cz))), (0, .ref y), (1, .int (nI tw)), (2, .int (nI pp)), (3, .int x3), (4, .int x4), (5, .int x5), (6, .int x6), (7, .int bk), (8, .int vv), (9, .int fd), (10, .int (nI r)), (12, .int (nI cz))]) hx hb dX11_show_277 hl (by decide) rfl (fun ls hl => ?_)
                            refine lv_iinc (v := nI (cz + 1)) (lv' := [(12, .int (nI (cz + 1))), (11, .int 0), (14, .int rx1225), (13, .int (nI ((6 * ((12 * tw) + r)) + cz))), (0, .ref y), (1, .int (nI tw)), (2, .int (nI pp)), (3, .int x3), (4, .int x4), (5, .int x5), (6, .int x6), (7, .int bk), (8, .int vv), (9, .int fd), (10, .int (nI r))]) hx hb dX11_show_279 hl (k := 14) rfl (nI_1 cz) (by decide) rfl (fun ls hl => ?_)
                            refine lv_goto (tgt := 149) hx hb dX11_show_282 (by decide) ?_
                            exact ih149 (cz + 1) 0  (by omega)    ls (lv_sub hl [4, 5, 6, 7, 8, 9, 10, 11, 12, 13, 14, 1, 0] rfl) H locs hP hD hS
                          · refine lv_goto (tgt := 272) hx hb dX11_show_230 (by decide) ?_
                            refine lv_iconst (v := 1) hx hb dX11_show_272 (by decide) ?_
                            refine lv_goto (tgt := 277) hx hb dX11_show_273 (by decide) ?_
                            refine lv_istore (lv' := [(11, .int 1), (14, .int rx1225), (13, .int (nI ((6 * ((12 * tw) + r)) + cz))), (0, .ref y), (1, .int (nI tw)), (2, .int (nI pp)), (3, .int x3), (4, .int x4), (5, .int x5), (6, .int x6), (7, .int bk), (8, .int vv), (9, .int fd), (10, .int (nI r)), (12, .int (nI cz))]) hx hb dX11_show_277 hl (by decide) rfl (fun ls hl => ?_)
                            refine lv_iinc (v := nI (cz + 1)) (lv' := [(12, .int (nI (cz + 1))), (11, .int 1), (14, .int rx1225), (13, .int (nI ((6 * ((12 * tw) + r)) + cz))), (0, .ref y), (1, .int (nI tw)), (2, .int (nI pp)), (3, .int x3), (4, .int x4), (5, .int x5), (6, .int x6), (7, .int bk), (8, .int vv), (9, .int fd), (10, .int (nI r))]) hx hb dX11_show_279 hl (k := 14) rfl (nI_1 cz) (by decide) rfl (fun ls hl => ?_)
                            refine lv_goto (tgt := 149) hx hb dX11_show_282 (by decide) ?_
                            exact ih149 (cz + 1) 1  (by omega)    ls (lv_sub hl [4, 5, 6, 7, 8, 9, 10, 11, 12, 13, 14, 1, 0] rfl) H locs hP hD hS
                  exact lp149 _ 0 1  (Nat.zero_add cu)    ls (lv_sub hl [2, 3, 4, 5, 6, 7, 8, 9, 10, 11, 12, 1, 0] rfl) H locs hP hD hS
            exact lp126 _ 0 (-1)  (Nat.zero_add ru) (Or.inl rfl)   ls (lv_sub hl [2, 3, 4, 5, 6, 7, 8, 9, 10, 1, 0] rfl) H locs hP hD hS
          refine lv_aload_n hx hb dX11_show_44 rfl (lv_at hl 0 rfl) ?_
          refine x_get (ref := "NoteHouseModel") F hP c90 rfl (fun _ h => List.mem_cons_of_mem _ (List.mem_append_right _ (h))) 8 (Nat.le_of_ble_eq_true rfl) (List.mem_cons_of_mem _ (List.mem_append_left _ (List.mem_append_left _ (List.mem_of_getElem? (i := 3) rfl)))) rfl rfl dX11_show_45 ?_
          refine lv_iload_n hx hb dX11_show_48 rfl (lv_at hl 2 rfl) ?_
          refine x_iald F hP c93 (vp_in_nI (n := pp) (N := 30) (by omega) (by decide)) dX11_show_49 ?_
          refine lv_if_le (tgt := 57) hx hb dX11_show_50 (by decide) (fun c_1232 => ?_) (fun c_1232 => ?_)
          · refine lv_iconst (v := 0) hx hb dX11_show_57 (by decide) ?_
            refine lv_istore (lv' := [(7, .int 0), (0, .ref y), (1, .int (nI tw)), (2, .int (nI pp)), (3, .int x3), (4, .int x4), (5, .int x5), (6, .int x6)]) hx hb dX11_show_58 hl (by decide) rfl (fun ls hl => ?_)
            refine lv_iload hx hb dX11_show_60 (lv_at hl 0 rfl) ?_
            refine lv_if_eq (tgt := 84) hx hb dX11_show_62 (by decide) (fun c_1233 => ?_) (fun c_1233 => absurd (show (0 : Int32) = (0 : Int32) by decide) c_1233)
            refine lv_iload_n hx hb dX11_show_84 rfl (lv_at hl 4 rfl) ?_
            refine lv_iconst (v := (-1)) hx hb dX11_show_85 (by decide) ?_
            refine lv_icmp_ne (tgt := 100) hx hb dX11_show_86 (by decide) (fun c_1234 => ?_) (fun c_1234 => ?_)
            · refine lv_iconst (v := (-1)) hx hb dX11_show_100 (by decide) ?_
              exact y_ir K hP hD hS (Nat.le_of_ble_eq_true rfl) (Nat.le_of_ble_eq_true rfl) (ty := .int) rfl rfl dX11_show_101 (⟨sh, f6, f13, f14, f39, f40, f41, f42, f43, f44, f45, f46, f47, f48, (-1), rfl, ht, hp, by omega, kp0, c90, c92, c98, c99, c922, c923, c924, c925, c926, c927, c928, c929, c930, c931⟩)
            · refine lv_iload hx hb dX11_show_89 (lv_at hl 5 rfl) ?_
              refine lv_iconst (v := 1) hx hb dX11_show_91 (by decide) ?_
              refine lv_ldc (v := 100000) hx hb hown (hts _ (List.mem_cons_of_mem _ (List.mem_append_left _ (List.mem_append_left _ (List.mem_of_getElem? (i := 4) rfl))))) dX11_show_92 ?_
              refine x_callS (n := 3) (As := [.int x4, .int 1, .int 100000]) (rest := []) F hP hD hS (g_in l D cy sk sv w x4 1 100000) gX11_show_X11_in rfl (by decide +kernel) ⟨(Nat.le_of_ble_eq_true rfl), (Nat.le_of_ble_eq_true rfl)⟩ rfl hl.1 (Nat.le_of_ble_eq_true rfl) dX11_show_94 rfl ⟨(Nat.le_of_ble_eq_true rfl), (Nat.le_of_ble_eq_true rfl)⟩ (fun v1236 w1237 hp1235 H locs hP hD hS => ?_)
              obtain ⟨rfl, rfl⟩ := hp1235
              refine W.eq (g2 := F0 m 97 ls [.int (wi x4 1 100000)]) rfl (W.widen (k := 0) (n := 0) (Nat.le_of_ble_eq_true rfl) (Nat.le_of_ble_eq_true rfl) ?_)
              refine lv_if_ne (tgt := 102) hx hb dX11_show_97 (by decide) (fun c_1238 => ?_) (fun c_1238 => ?_)
              · refine lv_iload hx hb dX11_show_102 (lv_at hl 0 rfl) ?_
                refine lv_if_eq (tgt := 116) hx hb dX11_show_104 (by decide) (fun c_1239 => ?_) (fun c_1239 => absurd (show (0 : Int32) = (0 : Int32) by decide) c_1239)
                refine lv_iload hx hb dX11_show_116 (lv_at hl 5 rfl) ?_
                refine lv_istore (lv' := [(8, .int x4), (7, .int 0), (0, .ref y), (1, .int (nI tw)), (2, .int (nI pp)), (3, .int x3), (4, .int x4), (5, .int x5), (6, .int x6)]) hx hb dX11_show_118 hl (by decide) rfl (fun ls hl => ?_)
                exact jn120 0 x4 ls (lv_sub hl [2, 3, 4, 5, 6, 7, 8, 1, 0] rfl) H locs hP hD hS
              · refine lv_iconst (v := (-1)) hx hb dX11_show_100 (by decide) ?_
                exact y_ir K hP hD hS (Nat.le_of_ble_eq_true rfl) (Nat.le_of_ble_eq_true rfl) (ty := .int) rfl rfl dX11_show_101 (⟨sh, f6, f13, f14, f39, f40, f41, f42, f43, f44, f45, f46, f47, f48, (-1), rfl, ht, hp, by omega, kp0, c90, c92, c98, c99, c922, c923, c924, c925, c926, c927, c928, c929, c930, c931⟩)
          · refine lv_iconst (v := 1) hx hb dX11_show_53 (by decide) ?_
            refine lv_goto (tgt := 58) hx hb dX11_show_54 (by decide) ?_
            refine lv_istore (lv' := [(7, .int 1), (0, .ref y), (1, .int (nI tw)), (2, .int (nI pp)), (3, .int x3), (4, .int x4), (5, .int x5), (6, .int x6)]) hx hb dX11_show_58 hl (by decide) rfl (fun ls hl => ?_)
            refine lv_iload hx hb dX11_show_60 (lv_at hl 0 rfl) ?_
            refine lv_if_eq (tgt := 84) hx hb dX11_show_62 (by decide) (fun c_1240 => absurd c_1240 (show ¬ (1 : Int32) = (0 : Int32) by decide)) (fun c_1240 => ?_)
            refine lv_iload_n hx hb dX11_show_65 rfl (lv_at hl 4 rfl) ?_
            refine lv_iconst (v := 0) hx hb dX11_show_66 (by decide) ?_
            refine lv_aload_n hx hb dX11_show_67 rfl (lv_at hl 1 rfl) ?_
            refine x_get (ref := "NoteHouseModel") F hP c90 rfl (fun _ h => List.mem_cons_of_mem _ (List.mem_append_right _ (h))) 8 (Nat.le_of_ble_eq_true rfl) (List.mem_cons_of_mem _ (List.mem_append_left _ (List.mem_append_left _ (List.mem_of_getElem? (i := 3) rfl)))) rfl rfl dX11_show_68 ?_
            refine lv_iload_n hx hb dX11_show_71 rfl (lv_at hl 3 rfl) ?_
            refine x_iald F hP c93 (vp_in_nI (n := pp) (N := 30) (by omega) (by decide)) dX11_show_72 ?_
            refine lv_iconst (v := 1) hx hb dX11_show_73 (by decide) ?_
            refine lv_isub hx hb dX11_show_74 ?_
            refine x_callS (n := 3) (As := [.int x3, .int 0, .int ((f8 (nI pp).toNatClampNeg) - 1)]) (rest := []) F hP hD hS (g_in l D cy sk sv w x3 0 ((f8 (nI pp).toNatClampNeg) - 1)) gX11_show_X11_in rfl (by decide +kernel) ⟨(Nat.le_of_ble_eq_true rfl), (Nat.le_of_ble_eq_true rfl)⟩ rfl hl.1 (Nat.le_of_ble_eq_true rfl) dX11_show_75 rfl ⟨(Nat.le_of_ble_eq_true rfl), (Nat.le_of_ble_eq_true rfl)⟩ (fun v1242 w1243 hp1241 H locs hP hD hS => ?_)
            obtain ⟨rfl, rfl⟩ := hp1241
            refine W.eq (g2 := F0 m 78 ls [.int (wi x3 0 ((f8 (nI pp).toNatClampNeg) - 1))]) rfl (W.widen (k := 0) (n := 0) (Nat.le_of_ble_eq_true rfl) (Nat.le_of_ble_eq_true rfl) ?_)
            refine lv_if_ne (tgt := 102) hx hb dX11_show_78 (by decide) (fun c_1244 => ?_) (fun c_1244 => ?_)
            · refine lv_iload hx hb dX11_show_102 (lv_at hl 0 rfl) ?_
              refine lv_if_eq (tgt := 116) hx hb dX11_show_104 (by decide) (fun c_1245 => absurd c_1245 (show ¬ (1 : Int32) = (0 : Int32) by decide)) (fun c_1245 => ?_)
              refine lv_aload_n hx hb dX11_show_107 rfl (lv_at hl 1 rfl) ?_
              refine x_get (ref := "NoteHouseModel") F hP c90 rfl (fun _ h => List.mem_cons_of_mem _ (List.mem_append_right _ (h))) 9 (Nat.le_of_ble_eq_true rfl) (List.mem_cons_of_mem _ (List.mem_append_left _ (List.mem_append_left _ (List.mem_of_getElem? (i := 5) rfl)))) rfl rfl dX11_show_108 ?_
              refine lv_iload_n hx hb dX11_show_111 rfl (lv_at hl 3 rfl) ?_
              refine x_iald F hP c94 (vp_in_nI (n := pp) (N := 30) (by omega) (by decide)) dX11_show_112 ?_
              refine lv_goto (tgt := 118) hx hb dX11_show_113 (by decide) ?_
              refine lv_istore (lv' := [(8, .int (f9 (nI pp).toNatClampNeg)), (7, .int 1), (0, .ref y), (1, .int (nI tw)), (2, .int (nI pp)), (3, .int x3), (4, .int x4), (5, .int x5), (6, .int x6)]) hx hb dX11_show_118 hl (by decide) rfl (fun ls hl => ?_)
              exact jn120 1 (f9 (nI pp).toNatClampNeg) ls (lv_sub hl [2, 3, 4, 5, 6, 7, 8, 1, 0] rfl) H locs hP hD hS
            · refine lv_goto (tgt := 100) hx hb dX11_show_81 (by decide) ?_
              refine lv_iconst (v := (-1)) hx hb dX11_show_100 (by decide) ?_
              exact y_ir K hP hD hS (Nat.le_of_ble_eq_true rfl) (Nat.le_of_ble_eq_true rfl) (ty := .int) rfl rfl dX11_show_101 (⟨sh, f6, f13, f14, f39, f40, f41, f42, f43, f44, f45, f46, f47, f48, (-1), rfl, ht, hp, by omega, kp0, c90, c92, c98, c99, c922, c923, c924, c925, c926, c927, c928, c929, c930, c931⟩)
        · refine lv_iconst (v := (-1)) hx hb dX11_show_42 (by decide) ?_
          exact y_ir K hP hD hS (Nat.le_of_ble_eq_true rfl) (Nat.le_of_ble_eq_true rfl) (ty := .int) rfl rfl dX11_show_43 (⟨sh, f6, f13, f14, f39, f40, f41, f42, f43, f44, f45, f46, f47, f48, (-1), rfl, ht, hp, by omega, kp0, c90, c92, c98, c99, c922, c923, c924, c925, c926, c927, c928, c929, c930, c931⟩)
