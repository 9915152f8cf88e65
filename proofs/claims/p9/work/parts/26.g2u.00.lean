set_option maxHeartbeats 4000000 in
set_option maxRecDepth 100000 in
theorem X_init (l : Launch) (D : va_G) (cy : Nat → ClassId) (sk sv : Nat → Nat) (w : Wd) (tg0 : Nat → Nat) (x : Nat)  (hy : wd_at w x (.inr (10, [.null, .null, .null, .null, .null, .null, .null, .null, .null, .null, .null, .null, .int 0, .int 0, .int 0, .int 0, .int 0])))  (S : Nat → Prop) (sy : S x) (tq : tg0 x = 0) : Ct l D cy sk sv yX10_init wsX10_init ({ frames := 3, cells := 116, slots := 4731, locals := 52 }) [.ref x] w (fun v w1 => v = none ∧ wd_kp S w w1 ∧ ∃ (tg1 : Nat → Nat) , (∀ a, a ∈ w.1 → tg1 a = tg0 a) ∧ ∃ se : Nat → Int32, (∀ t, t < 12 → se t = 0) ∧ IX cy tg1 x 0 0 0 0 0 se (fun _ => 0) w1) := by
  refine Ct.by (cc := cX10_init) (maxL := 2) (ret := none) (by decide +kernel) rfl (Nat.le_of_ble_eq_true rfl) ?_
  intro p e s m args below meth c A Q F hnm K ls hl
  have F : wd_Fx p s m args meth c cX10_init 2 wsX10_init RX10 D cy sk sv A := F
  have hl : lv_has ls 2 [(0, .ref x)] := hl
  have hx := F.1.1
  have hb := F.1.2.1
  have hown := F.1.2.2.2.1
  have hts := F.1.2.2.2.2
  intro H locs hP hD hS
  have kp0 : wd_kp S w w := wd_kp.rf
  obtain ⟨tg, etg0⟩ : ∃ f : Nat → Nat, f = tg0 := ⟨_, rfl⟩
  have hext0 : ∀ a, a ∈ w.1 → tg a = tg0 a := fun a _ => by rw [etg0]
  have tq0 : tg x = 0 := by rw [etg0]; exact tq
  refine lv_aload_n hx hb dX10_init_0 rfl (lv_at hl 0 rfl) ?_
  refine x_objInit F (List.mem_cons_of_mem _ (List.mem_append_left _ (List.mem_append_left _ (List.mem_append_left _ (List.mem_append_left _ (List.mem_append_left _ (List.mem_append_left _ (List.mem_append_left _ (List.mem_append_left _ (List.mem_of_getElem? (i := 0) rfl)))))))))) (List.mem_cons_of_mem _ (List.mem_append_left _ (List.mem_append_left _ (List.mem_append_left _ (List.mem_append_left _ (List.mem_append_left _ (List.mem_append_left _ (List.mem_append_left _ (List.mem_append_left _ (List.mem_of_getElem? (i := 1) rfl)))))))))) (List.mem_cons_of_mem _ (List.mem_append_left _ (List.mem_append_left _ (List.mem_append_left _ (List.mem_append_left _ (List.mem_append_left _ (List.mem_append_left _ (List.mem_append_left _ (List.mem_append_left _ (List.mem_of_getElem? (i := 2) rfl)))))))))) hl.1 dX10_init_1 (Nat.le_of_ble_eq_true rfl) (Nat.le_of_ble_eq_true rfl) ?_
  refine lv_aload_n hx hb dX10_init_4 rfl (lv_at hl 0 rfl) ?_
  refine y_new (fs := [.null, .null, .null, .null]) F hP hD hS (ci := 9) rfl (fun _ h => List.mem_cons_of_mem _ (List.mem_append_left _ (List.mem_append_left _ (List.mem_append_left _ (List.mem_append_left _ (List.mem_append_left _ (List.mem_append_left _ (List.mem_append_right _ (h))))))))) tyX9_ok (List.mem_cons_of_mem _ (List.mem_append_left _ (List.mem_append_left _ (List.mem_append_left _ (List.mem_append_left _ (List.mem_append_left _ (List.mem_append_left _ (List.mem_append_left _ (List.mem_append_left _ (List.mem_of_getElem? (i := 3) rfl)))))))))) (List.mem_cons_of_mem _ (List.mem_append_left _ (List.mem_append_left _ (List.mem_append_left _ (List.mem_append_left _ (List.mem_append_left _ (List.mem_append_left _ (List.mem_append_left _ (List.mem_append_left _ (List.mem_of_getElem? (i := 4) rfl)))))))))) (List.mem_cons_of_mem _ (List.mem_append_left _ (List.mem_append_left _ (List.mem_append_left _ (List.mem_append_left _ (List.mem_append_left _ (List.mem_append_left _ (List.mem_append_left _ (List.mem_append_left _ (List.mem_of_getElem? (i := 5) rfl)))))))))) df_9 (Nat.le_of_ble_eq_true rfl) (Nat.le_of_ble_eq_true rfl) dX10_init_5 (fun a0 w1 ew2 hq3 H hP hD hS => ?_)
  refine W.widen (k := 1) (n := 4) (Nat.le_of_ble_eq_true rfl) (Nat.le_of_ble_eq_true rfl) ?_
  have k4 := wd_at.ad ew2 hq3 hy
  have k5 : wd_at w1 a0 (.inr (9, [.null, .null, .null, .null])) := wd_at.nw ew2
  have kp6 := kp0.add ew2 hq3
  obtain ⟨tg7, et8⟩ : ∃ f : Nat → Nat, f = va_up tg a0 (1) := ⟨_, rfl⟩
  have t9 := tgX et8 (wd_nL hq3 hy) tq0
  have hext10 := tgE et8 (kp0.out hq3) hext0
  refine lv_dup hx hb dX10_init_8 rfl ?_
  refine x_callI (ret := none) (n := 0) (As := []) (rest := [.ref a0, .ref x]) F hP hD hS (i_ways l D cy sk sv w1 tg7 a0 k5 (fun b => b = a0) rfl (tgN et8)) gX10_init_X9_init rfl (List.mem_cons_of_mem _ (List.mem_append_left _ (List.mem_append_left _ (List.mem_append_left _ (List.mem_append_left _ (List.mem_append_left _ (List.mem_append_left _ (List.mem_append_left _ (List.mem_append_left _ (List.mem_of_getElem? (i := 5) rfl)))))))))) (List.mem_cons_of_mem _ (List.mem_append_left _ (List.mem_append_left _ (List.mem_append_left _ (List.mem_append_left _ (List.mem_append_left _ (List.mem_append_left _ (List.mem_append_left _ (List.mem_append_right _ (List.mem_append_left _ (List.mem_of_getElem? (i := 14) rfl))))))))))) (List.mem_cons_of_mem _ (List.mem_append_left _ (List.mem_append_left _ (List.mem_append_left _ (List.mem_append_left _ (List.mem_append_left _ (List.mem_append_left _ (List.mem_append_left _ (List.mem_append_right _ (List.mem_append_left _ (List.mem_of_getElem? (i := 15) rfl))))))))))) rfl (by decide +kernel) ⟨(Nat.le_of_ble_eq_true rfl), (Nat.le_of_ble_eq_true rfl)⟩ rfl hl.1 (Nat.le_of_ble_eq_true rfl) dX10_init_9 rfl ⟨(Nat.le_of_ble_eq_true rfl), (Nat.le_of_ble_eq_true rfl)⟩ (fun v12 w13 hp11 H locs hP hD hS => ?_)
  obtain ⟨rfl, kq15, tg14, b0, b1, b2, b3, f0, f1, hag16, k17, k18, k19, k20, k21, t22, t23, t24, t25⟩ := hp11
  have k26 := kq15.2 _ _ k4 (wd_nL hq3 hy)
  have kp27 := kp6.tr kq15 (fun b9 hm q9 => (fun q9 => absurd (q9 ▸ hm) (kp0.out hq3)) q9)
  have t28 := (hag16 _ k4.1).trans t9
  have t29 := (hag16 _ k5.1).trans (tgN et8)
  have hext30 := fun a ha => (hag16 a (kp6.1 a ha)).trans (hext10 a ha)
  refine W.eq (g2 := F0 m 12 ls [.ref a0, .ref x]) rfl (W.widen (k := 5) (n := 316) (Nat.le_of_ble_eq_true rfl) (Nat.le_of_ble_eq_true rfl) ?_)
  refine y_putF (ref := "NoteHouse") F hP hD hS k26 rfl (fun _ h => List.mem_cons_of_mem _ (List.mem_append_left _ (List.mem_append_left _ (List.mem_append_left _ (List.mem_append_left _ (List.mem_append_left _ (List.mem_append_right _ (h)))))))) tyX10_ok nmX10 hnm 0 (Nat.le_of_ble_eq_true rfl) (List.mem_cons_of_mem _ (List.mem_append_left _ (List.mem_append_left _ (List.mem_append_left _ (List.mem_append_left _ (List.mem_append_left _ (List.mem_append_left _ (List.mem_append_left _ (List.mem_append_left _ (List.mem_of_getElem? (i := 6) rfl)))))))))) rfl rfl rfl rfl rfl (Nat.le_of_ble_eq_true rfl) dX10_init_12 (fun w31 ew32 H locs hP hD hS => ?_)
  have k33 : wd_at w31 x (.inr (10, [.ref a0, .null, .null, .null, .null, .null, .null, .null, .null, .null, .null, .null, .int 0, .int 0, .int 0, .int 0, .int 0])) := wd_at.ps ew32 k26
  have k34 := wd_at.pt ew32 k17 (tg_ne t29 t28 (by decide))
  have k35 := wd_at.pt ew32 k18 (tg_ne t22 t28 (by decide))
  have k36 := wd_at.pt ew32 k19 (tg_ne t23 t28 (by decide))
  have k37 := wd_at.pt ew32 k20 (tg_ne t24 t28 (by decide))
  have k38 := wd_at.pt ew32 k21 (tg_ne t25 t28 (by decide))
  have kp39 := kp27.put ew32 sy
  refine lv_aload_n hx hb dX10_init_15 rfl (lv_at hl 0 rfl) ?_
  refine lv_bipush (v := 12) hx hb dX10_init_16 (by decide) ?_
  refine y_newA (N := 12) (t0 := 9) F hP hD hS (List.mem_cons_of_mem _ (List.mem_append_left _ (List.mem_append_left _ (List.mem_append_left _ (List.mem_append_left _ (List.mem_append_left _ (List.mem_append_left _ (List.mem_append_left _ (List.mem_append_left _ (List.mem_of_getElem? (i := 7) rfl)))))))))) (by decide +kernel) rfl (by decide) (by decide) (by decide) (Nat.le_of_ble_eq_true rfl) (Nat.le_of_ble_eq_true rfl) dX10_init_18 (fun a1 w40 ew41 hq42 H hP hD hS => ?_)
  refine W.widen (k := 6) (n := 328) (Nat.le_of_ble_eq_true rfl) (Nat.le_of_ble_eq_true rfl) ?_
  have k43 := wd_at.ad ew41 hq42 k33
  have k44 := wd_at.ad ew41 hq42 k34
  have k45 := wd_at.ad ew41 hq42 k35
  have k46 := wd_at.ad ew41 hq42 k36
  have k47 := wd_at.ad ew41 hq42 k37
  have k48 := wd_at.ad ew41 hq42 k38
  have k49 : wd_at w40 a1 (.inl (cy 9, 12, .inr (.inr (.inr (.inr (fun _ => none)))))) := wd_at.nw ew41
  have kp50 := kp39.add ew41 hq42
  obtain ⟨tg51, et52⟩ : ∃ f : Nat → Nat, f = va_up tg14 a1 (6) := ⟨_, rfl⟩
  have t53 := tgX et52 (wd_nL hq42 k33) t28
  have t54 := tgX et52 (wd_nL hq42 k34) t29
  have t55 := tgX et52 (wd_nL hq42 k35) t22
  have t56 := tgX et52 (wd_nL hq42 k36) t23
  have t57 := tgX et52 (wd_nL hq42 k37) t24
  have t58 := tgX et52 (wd_nL hq42 k38) t25
  have hext59 := tgE et52 (kp39.out hq42) hext30
  refine y_putF (ref := "NoteHouse") F hP hD hS k43 rfl (fun _ h => List.mem_cons_of_mem _ (List.mem_append_left _ (List.mem_append_left _ (List.mem_append_left _ (List.mem_append_left _ (List.mem_append_left _ (List.mem_append_right _ (h)))))))) tyX10_ok nmX10 hnm 1 (Nat.le_of_ble_eq_true rfl) (List.mem_cons_of_mem _ (List.mem_append_left _ (List.mem_append_left _ (List.mem_append_left _ (List.mem_append_left _ (List.mem_append_left _ (List.mem_append_left _ (List.mem_append_left _ (List.mem_append_left _ (List.mem_of_getElem? (i := 8) rfl)))))))))) rfl rfl rfl rfl rfl (Nat.le_of_ble_eq_true rfl) dX10_init_21 (fun w60 ew61 H locs hP hD hS => ?_)
  have k62 : wd_at w60 x (.inr (10, [.ref a0, .ref a1, .null, .null, .null, .null, .null, .null, .null, .null, .null, .null, .int 0, .int 0, .int 0, .int 0, .int 0])) := wd_at.ps ew61 k43
  have k63 := wd_at.pt ew61 k44 (tg_ne t54 t53 (by decide))
  have k64 := wd_at.pt ew61 k45 (tg_ne t55 t53 (by decide))
  have k65 := wd_at.pt ew61 k46 (tg_ne t56 t53 (by decide))
  have k66 := wd_at.pt ew61 k47 (tg_ne t57 t53 (by decide))
  have k67 := wd_at.pt ew61 k48 (tg_ne t58 t53 (by decide))
  have k68 := wd_at.pt ew61 k49 (tg_ne (tgN et52) t53 (by decide))
  have kp69 := kp50.put ew61 sy
  refine lv_iconst (v := 0) hx hb dX10_init_24 (by decide) ?_
  refine lv_istore_n (lv' := [(1, .int 0), (0, .ref x)]) hx hb dX10_init_25 rfl hl (by decide) rfl (fun ls hl => ?_)
  have lp26 : ∀ (N : Nat) (i : Nat) (tgL : Nat → Nat) (tf : Nat → Option Nat) (tn : Nat → Nat) (ag : Nat → Nat) (co : Nat → Int32) (ra : Nat → Int32) (se : Nat → Int32) (aa : Nat → Nat) (ru : Nat → Nat) (df : Nat → Nat → Int32) (cf : Nat → Nat → Int32) (nf : Nat → Nat → Int32) (sf : Nat → Nat → Int32) (uf : Nat → Nat → Int32) (ga0 : Nat → Nat) (ga1 : Nat → Nat) (ga2 : Nat → Nat) (ga3 : Nat → Nat) (ga4 : Nat → Nat) (w70 : Wd), (i + N = 12) → (tgL x = 0) → (tgL a0 = 1) → (tgL b0 = 2) → (tgL b1 = 3) → (tgL b2 = 4) → (tgL b3 = 5) → (tgL a1 = 6) → (∀ a, a ∈ w.1 → tgL a = tg0 a) → (∀ z, z < i → ag z = aa z) → (∀ z, z < i → se z = 0) → (wd_at w70 x (.inr (10, [.ref a0, .ref a1, .null, .null, .null, .null, .null, .null, .null, .null, .null, .null, .int 0, .int 0, .int 0, .int 0, .int 0]))) → (wd_at w70 a0 (.inr (9, [.ref b0, .ref b1, .ref b2, .ref b3]))) → (wd_at w70 b0 (.inl (cy 2, 144, .inl f0))) → (wd_at w70 b1 (.inl (cy 2, 144, .inl f1))) → (wd_at w70 b2 (.inl (cy 2, 12, .inl (fun _ => 0)))) → (wd_at w70 b3 (.inl (cy 4, 12, .inl (fun _ => 0)))) → (wd_at w70 a1 (.inl (cy 9, 12, .inr (.inr (.inr (.inr tf)))))) → (∀ i9, i9 < i → tf i9 = some (tn i9) ∧ wd_at w70 (tn i9) (.inr (8, [.int (co i9), .int (ra i9), .int (se i9), .ref (ag i9)])) ∧ tgL (tn i9) = 100 + i9) → (∀ k9, k9 < i → (aOK (cf k9) (nf k9) ∧ ru k9 ≤ 12) ∧ wd_at w70 (aa k9) (.inr (1, [.ref (ga0 k9), .ref (ga1 k9), .ref (ga2 k9), .ref (ga3 k9), .ref (ga4 k9), .int (nI (ru k9))])) ∧ tgL (aa k9) = 200 + k9 ∧ wd_at w70 (ga0 k9) (.inl (cy 2, 12, .inl (df k9))) ∧ tgL (ga0 k9) = 220 + k9 ∧ wd_at w70 (ga1 k9) (.inl (cy 2, 12, .inl (cf k9))) ∧ tgL (ga1 k9) = 240 + k9 ∧ wd_at w70 (ga2 k9) (.inl (cy 2, 72, .inl (nf k9))) ∧ tgL (ga2 k9) = 260 + k9 ∧ wd_at w70 (ga3 k9) (.inl (cy 1, 72, .inl (sf k9))) ∧ tgL (ga3 k9) = 280 + k9 ∧ wd_at w70 (ga4 k9) (.inl (cy 2, 72, .inl (uf k9))) ∧ tgL (ga4 k9) = 300 + k9) → (wd_kp S w w70) → ∀ (ls : Array Slot), lv_has ls 2 [(0, .ref x), (1, .int (nI i))] → Wv p l e ({ frames := 3, cells := 116, slots := 4731, locals := 52 }) s m args below meth c D A (6 + 7 * i) (328 + 250 * i) Q w70 (F0 m 26 ls []) := by
    intro N
    induction N with
    | zero =>
      intro i tgL tf tn ag co ra se aa ru df cf nf sf uf ga0 ga1 ga2 ga3 ga4 w70 hN26 tL0 tL1 tL2 tL3 tL4 tL5 tL6 hextL hagL hseL k71 k72 k73 k74 k75 k76 k77 fm78 fm79 kp80 ls hl H locs hP hD hS
      refine W.widen (k := 90) (n := 3328) (by omega) (by omega) ?_
      refine lv_iload_n hx hb dX10_init_26 rfl (lv_at hl 1 rfl) ?_
      refine lv_bipush (v := 12) hx hb dX10_init_27 (by decide) ?_
      refine lv_icmp_ge (tgt := 51) hx hb dX10_init_29 (by decide) (fun c_81 => ?_) (fun c_81 => absurd (nI_le (a := 12) (b := i) (by omega) (by omega)) c_81)
      have fm82 : ∀ i9, i9 < 12 → tf i9 = some (tn i9) ∧ wd_at w70 (tn i9) (.inr (8, [.int (co i9), .int (ra i9), .int (se i9), .ref (ag i9)])) ∧ tgL (tn i9) = 100 + i9 := fun i9 hi9 => fm78 i9 (by omega)
      have fm83 : ∀ k9, k9 < 12 → (aOK (cf k9) (nf k9) ∧ ru k9 ≤ 12) ∧ wd_at w70 (aa k9) (.inr (1, [.ref (ga0 k9), .ref (ga1 k9), .ref (ga2 k9), .ref (ga3 k9), .ref (ga4 k9), .int (nI (ru k9))])) ∧ tgL (aa k9) = 200 + k9 ∧ wd_at w70 (ga0 k9) (.inl (cy 2, 12, .inl (df k9))) ∧ tgL (ga0 k9) = 220 + k9 ∧ wd_at w70 (ga1 k9) (.inl (cy 2, 12, .inl (cf k9))) ∧ tgL (ga1 k9) = 240 + k9 ∧ wd_at w70 (ga2 k9) (.inl (cy 2, 72, .inl (nf k9))) ∧ tgL (ga2 k9) = 260 + k9 ∧ wd_at w70 (ga3 k9) (.inl (cy 1, 72, .inl (sf k9))) ∧ tgL (ga3 k9) = 280 + k9 ∧ wd_at w70 (ga4 k9) (.inl (cy 2, 72, .inl (uf k9))) ∧ tgL (ga4 k9) = 300 + k9 := fun k9 hi9 => fm79 k9 (by omega)
      refine lv_aload_n hx hb dX10_init_51 rfl (lv_at hl 0 rfl) ?_
      refine lv_bipush (v := 30) hx hb dX10_init_52 (by decide) ?_
      refine y_newA (N := 30) (t0 := 6) F hP hD hS (List.mem_cons_of_mem _ (List.mem_append_left _ (List.mem_append_left _ (List.mem_append_left _ (List.mem_append_left _ (List.mem_append_left _ (List.mem_append_left _ (List.mem_append_left _ (List.mem_append_left _ (List.mem_of_getElem? (i := 11) rfl)))))))))) (by decide +kernel) rfl (by decide) (by decide) (by decide) (Nat.le_of_ble_eq_true rfl) (Nat.le_of_ble_eq_true rfl) dX10_init_54 (fun a2 w84 ew85 hq86 H hP hD hS => ?_)
      refine W.widen (k := 91) (n := 3358) (Nat.le_of_ble_eq_true rfl) (Nat.le_of_ble_eq_true rfl) ?_
      have k87 := wd_at.ad ew85 hq86 k71
      have k88 := wd_at.ad ew85 hq86 k72
      have k89 := wd_at.ad ew85 hq86 k73
      have k90 := wd_at.ad ew85 hq86 k74
      have k91 := wd_at.ad ew85 hq86 k75
      have k92 := wd_at.ad ew85 hq86 k76
      have k93 := wd_at.ad ew85 hq86 k77
      have k94 : wd_at w84 a2 (.inl (cy 6, 30, .inr (.inr (.inr (.inr (fun _ => none)))))) := wd_at.nw ew85
      have fm95 : ∀ i9, i9 < 12 → tf i9 = some (tn i9) ∧ wd_at w84 (tn i9) (.inr (8, [.int (co i9), .int (ra i9), .int (se i9), .ref (ag i9)])) ∧ tgL (tn i9) = 100 + i9 := fun i9 hi9 => ⟨(fm82 i9 hi9).1, wd_at.ad ew85 hq86 (fm82 i9 hi9).2.1, (fm82 i9 hi9).2.2⟩
      have fn96 : ∀ i9, i9 < 12 → (tn i9) ≠ a2 := fun i9 hi9 => wd_nL hq86 (fm82 i9 hi9).2.1
      have fm97 : ∀ k9, k9 < 12 → (aOK (cf k9) (nf k9) ∧ ru k9 ≤ 12) ∧ wd_at w84 (aa k9) (.inr (1, [.ref (ga0 k9), .ref (ga1 k9), .ref (ga2 k9), .ref (ga3 k9), .ref (ga4 k9), .int (nI (ru k9))])) ∧ tgL (aa k9) = 200 + k9 ∧ wd_at w84 (ga0 k9) (.inl (cy 2, 12, .inl (df k9))) ∧ tgL (ga0 k9) = 220 + k9 ∧ wd_at w84 (ga1 k9) (.inl (cy 2, 12, .inl (cf k9))) ∧ tgL (ga1 k9) = 240 + k9 ∧ wd_at w84 (ga2 k9) (.inl (cy 2, 72, .inl (nf k9))) ∧ tgL (ga2 k9) = 260 + k9 ∧ wd_at w84 (ga3 k9) (.inl (cy 1, 72, .inl (sf k9))) ∧ tgL (ga3 k9) = 280 + k9 ∧ wd_at w84 (ga4 k9) (.inl (cy 2, 72, .inl (uf k9))) ∧ tgL (ga4 k9) = 300 + k9 := fun k9 hi9 => ⟨(fm83 k9 hi9).1, wd_at.ad ew85 hq86 (fm83 k9 hi9).2.1, (fm83 k9 hi9).2.2.1, wd_at.ad ew85 hq86 (fm83 k9 hi9).2.2.2.1, (fm83 k9 hi9).2.2.2.2.1, wd_at.ad ew85 hq86 (fm83 k9 hi9).2.2.2.2.2.1, (fm83 k9 hi9).2.2.2.2.2.2.1, wd_at.ad ew85 hq86 (fm83 k9 hi9).2.2.2.2.2.2.2.1, (fm83 k9 hi9).2.2.2.2.2.2.2.2.1, wd_at.ad ew85 hq86 (fm83 k9 hi9).2.2.2.2.2.2.2.2.2.1, (fm83 k9 hi9).2.2.2.2.2.2.2.2.2.2.1, wd_at.ad ew85 hq86 (fm83 k9 hi9).2.2.2.2.2.2.2.2.2.2.2.1, (fm83 k9 hi9).2.2.2.2.2.2.2.2.2.2.2.2⟩
      have fn98 : ∀ k9, k9 < 12 → (aa k9) ≠ a2 ∧ (ga0 k9) ≠ a2 ∧ (ga1 k9) ≠ a2 ∧ (ga2 k9) ≠ a2 ∧ (ga3 k9) ≠ a2 ∧ (ga4 k9) ≠ a2 := fun k9 hi9 => ⟨wd_nL hq86 (fm83 k9 hi9).2.1, wd_nL hq86 (fm83 k9 hi9).2.2.2.1, wd_nL hq86 (fm83 k9 hi9).2.2.2.2.2.1, wd_nL hq86 (fm83 k9 hi9).2.2.2.2.2.2.2.1, wd_nL hq86 (fm83 k9 hi9).2.2.2.2.2.2.2.2.2.1, wd_nL hq86 (fm83 k9 hi9).2.2.2.2.2.2.2.2.2.2.2.1⟩
      have kp99 := kp80.add ew85 hq86
      obtain ⟨tg100, et101⟩ : ∃ f : Nat → Nat, f = va_up tgL a2 (7) := ⟨_, rfl⟩
      have t102 := tgX et101 (wd_nL hq86 k71) tL0
      have t103 := tgX et101 (wd_nL hq86 k72) tL1
      have t104 := tgX et101 (wd_nL hq86 k73) tL2
      have t105 := tgX et101 (wd_nL hq86 k74) tL3
      have t106 := tgX et101 (wd_nL hq86 k75) tL4
      have t107 := tgX et101 (wd_nL hq86 k76) tL5
      have t108 := tgX et101 (wd_nL hq86 k77) tL6
      have fm109 : ∀ i9, i9 < 12 → tf i9 = some (tn i9) ∧ wd_at w84 (tn i9) (.inr (8, [.int (co i9), .int (ra i9), .int (se i9), .ref (ag i9)])) ∧ tg100 (tn i9) = 100 + i9 := fun i9 hi9 => ⟨(fm95 i9 hi9).1, (fm95 i9 hi9).2.1, tgX et101 (fn96 i9 hi9) (fm95 i9 hi9).2.2⟩
      have fm110 : ∀ k9, k9 < 12 → (aOK (cf k9) (nf k9) ∧ ru k9 ≤ 12) ∧ wd_at w84 (aa k9) (.inr (1, [.ref (ga0 k9), .ref (ga1 k9), .ref (ga2 k9), .ref (ga3 k9), .ref (ga4 k9), .int (nI (ru k9))])) ∧ tg100 (aa k9) = 200 + k9 ∧ wd_at w84 (ga0 k9) (.inl (cy 2, 12, .inl (df k9))) ∧ tg100 (ga0 k9) = 220 + k9 ∧ wd_at w84 (ga1 k9) (.inl (cy 2, 12, .inl (cf k9))) ∧ tg100 (ga1 k9) = 240 + k9 ∧ wd_at w84 (ga2 k9) (.inl (cy 2, 72, .inl (nf k9))) ∧ tg100 (ga2 k9) = 260 + k9 ∧ wd_at w84 (ga3 k9) (.inl (cy 1, 72, .inl (sf k9))) ∧ tg100 (ga3 k9) = 280 + k9 ∧ wd_at w84 (ga4 k9) (.inl (cy 2, 72, .inl (uf k9))) ∧ tg100 (ga4 k9) = 300 + k9 := fun k9 hi9 => ⟨(fm97 k9 hi9).1, (fm97 k9 hi9).2.1, tgX et101 ((fn98 k9 hi9).1) (fm97 k9 hi9).2.2.1, (fm97 k9 hi9).2.2.2.1, tgX et101 ((fn98 k9 hi9).2.1) (fm97 k9 hi9).2.2.2.2.1, (fm97 k9 hi9).2.2.2.2.2.1, tgX et101 ((fn98 k9 hi9).2.2.1) (fm97 k9 hi9).2.2.2.2.2.2.1, (fm97 k9 hi9).2.2.2.2.2.2.2.1, tgX et101 ((fn98 k9 hi9).2.2.2.1) (fm97 k9 hi9).2.2.2.2.2.2.2.2.1, (fm97 k9 hi9).2.2.2.2.2.2.2.2.2.1, tgX et101 ((fn98 k9 hi9).2.2.2.2.1) (fm97 k9 hi9).2.2.2.2.2.2.2.2.2.2.1, (fm97 k9 hi9).2.2.2.2.2.2.2.2.2.2.2.1, tgX et101 ((fn98 k9 hi9).2.2.2.2.2) (fm97 k9 hi9).2.2.2.2.2.2.2.2.2.2.2.2⟩
      have hext111 := tgE et101 (kp80.out hq86) hextL
      refine y_putF (ref := "NoteHouse") F hP hD hS k87 rfl (fun _ h => List.mem_cons_of_mem _ (List.mem_append_left _ (List.mem_append_left _ (List.mem_append_left _ (List.mem_append_left _ (List.mem_append_left _ (List.mem_append_right _ (h)))))))) tyX10_ok nmX10 hnm 2 (Nat.le_of_ble_eq_true rfl) (List.mem_cons_of_mem _ (List.mem_append_left _ (List.mem_append_left _ (List.mem_append_left _ (List.mem_append_left _ (List.mem_append_left _ (List.mem_append_left _ (List.mem_append_left _ (List.mem_append_left _ (List.mem_of_getElem? (i := 12) rfl)))))))))) rfl rfl rfl rfl rfl (Nat.le_of_ble_eq_true rfl) dX10_init_57 (fun w112 ew113 H locs hP hD hS => ?_)
      have k114 : wd_at w112 x (.inr (10, [.ref a0, .ref a1, .ref a2, .null, .null, .null, .null, .null, .null, .null, .null, .null, .int 0, .int 0, .int 0, .int 0, .int 0])) := wd_at.ps ew113 k87
      have k115 := wd_at.pt ew113 k88 (tg_ne t103 t102 (by decide))
      have k116 := wd_at.pt ew113 k89 (tg_ne t104 t102 (by decide))
      have k117 := wd_at.pt ew113 k90 (tg_ne t105 t102 (by decide))
      have k118 := wd_at.pt ew113 k91 (tg_ne t106 t102 (by decide))
      have k119 := wd_at.pt ew113 k92 (tg_ne t107 t102 (by decide))
      have k120 := wd_at.pt ew113 k93 (tg_ne t108 t102 (by decide))
      have k121 := wd_at.pt ew113 k94 (tg_ne (tgN et101) t102 (by decide))
      have fm122 : ∀ i9, i9 < 12 → tf i9 = some (tn i9) ∧ wd_at w112 (tn i9) (.inr (8, [.int (co i9), .int (ra i9), .int (se i9), .ref (ag i9)])) ∧ tg100 (tn i9) = 100 + i9 := fun i9 hi9 => ⟨(fm109 i9 hi9).1, wd_at.pt ew113 (fm109 i9 hi9).2.1 (tg_ne (fm109 i9 hi9).2.2 t102 (tnA (show 0 < 100 by decide))), (fm109 i9 hi9).2.2⟩
      have fm123 : ∀ k9, k9 < 12 → (aOK (cf k9) (nf k9) ∧ ru k9 ≤ 12) ∧ wd_at w112 (aa k9) (.inr (1, [.ref (ga0 k9), .ref (ga1 k9), .ref (ga2 k9), .ref (ga3 k9), .ref (ga4 k9), .int (nI (ru k9))])) ∧ tg100 (aa k9) = 200 + k9 ∧ wd_at w112 (ga0 k9) (.inl (cy 2, 12, .inl (df k9))) ∧ tg100 (ga0 k9) = 220 + k9 ∧ wd_at w112 (ga1 k9) (.inl (cy 2, 12, .inl (cf k9))) ∧ tg100 (ga1 k9) = 240 + k9 ∧ wd_at w112 (ga2 k9) (.inl (cy 2, 72, .inl (nf k9))) ∧ tg100 (ga2 k9) = 260 + k9 ∧ wd_at w112 (ga3 k9) (.inl (cy 1, 72, .inl (sf k9))) ∧ tg100 (ga3 k9) = 280 + k9 ∧ wd_at w112 (ga4 k9) (.inl (cy 2, 72, .inl (uf k9))) ∧ tg100 (ga4 k9) = 300 + k9 := fun k9 hi9 => ⟨(fm110 k9 hi9).1, wd_at.pt ew113 (fm110 k9 hi9).2.1 (tg_ne (fm110 k9 hi9).2.2.1 t102 (tnA (show 0 < 200 by decide))), (fm110 k9 hi9).2.2.1, wd_at.pt ew113 (fm110 k9 hi9).2.2.2.1 (tg_ne (fm110 k9 hi9).2.2.2.2.1 t102 (tnA (show 0 < 220 by decide))), (fm110 k9 hi9).2.2.2.2.1, wd_at.pt ew113 (fm110 k9 hi9).2.2.2.2.2.1 (tg_ne (fm110 k9 hi9).2.2.2.2.2.2.1 t102 (tnA (show 0 < 240 by decide))), (fm110 k9 hi9).2.2.2.2.2.2.1, wd_at.pt ew113 (fm110 k9 hi9).2.2.2.2.2.2.2.1 (tg_ne (fm110 k9 hi9).2.2.2.2.2.2.2.2.1 t102 (tnA (show 0 < 260 by decide))), (fm110 k9 hi9).2.2.2.2.2.2.2.2.1, wd_at.pt ew113 (fm110 k9 hi9).2.2.2.2.2.2.2.2.2.1 (tg_ne (fm110 k9 hi9).2.2.2.2.2.2.2.2.2.2.1 t102 (tnA (show 0 < 280 by decide))), (fm110 k9 hi9).2.2.2.2.2.2.2.2.2.2.1, wd_at.pt ew113 (fm110 k9 hi9).2.2.2.2.2.2.2.2.2.2.2.1 (tg_ne (fm110 k9 hi9).2.2.2.2.2.2.2.2.2.2.2.2 t102 (tnA (show 0 < 300 by decide))), (fm110 k9 hi9).2.2.2.2.2.2.2.2.2.2.2.2⟩
      have kp124 := kp99.put ew113 sy
      refine lv_aload_n hx hb dX10_init_60 rfl (lv_at hl 0 rfl) ?_
      refine lv_bipush (v := 60) hx hb dX10_init_61 (by decide) ?_
      refine y_newA (N := 60) (t0 := 5) F hP hD hS (List.mem_cons_of_mem _ (List.mem_append_left _ (List.mem_append_left _ (List.mem_append_left _ (List.mem_append_left _ (List.mem_append_left _ (List.mem_append_left _ (List.mem_append_left _ (List.mem_append_left _ (List.mem_of_getElem? (i := 13) rfl)))))))))) (by decide +kernel) rfl (by decide) (by decide) (by decide) (Nat.le_of_ble_eq_true rfl) (Nat.le_of_ble_eq_true rfl) dX10_init_63 (fun a3 w125 ew126 hq127 H hP hD hS => ?_)
      refine W.widen (k := 92) (n := 3418) (Nat.le_of_ble_eq_true rfl) (Nat.le_of_ble_eq_true rfl) ?_
      have k128 := wd_at.ad ew126 hq127 k114
      have k129 := wd_at.ad ew126 hq127 k115
      have k130 := wd_at.ad ew126 hq127 k116
      have k131 := wd_at.ad ew126 hq127 k117
      have k132 := wd_at.ad ew126 hq127 k118
      have k133 := wd_at.ad ew126 hq127 k119
      have k134 := wd_at.ad ew126 hq127 k120
      have k135 := wd_at.ad ew126 hq127 k121
      have k136 : wd_at w125 a3 (.inl (cy 5, 60, .inr (.inr (.inr (.inr (fun _ => none)))))) := wd_at.nw ew126
      have fm137 : ∀ i9, i9 < 12 → tf i9 = some (tn i9) ∧ wd_at w125 (tn i9) (.inr (8, [.int (co i9), .int (ra i9), .int (se i9), .ref (ag i9)])) ∧ tg100 (tn i9) = 100 + i9 := fun i9 hi9 => ⟨(fm122 i9 hi9).1, wd_at.ad ew126 hq127 (fm122 i9 hi9).2.1, (fm122 i9 hi9).2.2⟩
      have fn138 : ∀ i9, i9 < 12 → (tn i9) ≠ a3 := fun i9 hi9 => wd_nL hq127 (fm122 i9 hi9).2.1
      have fm139 : ∀ k9, k9 < 12 → (aOK (cf k9) (nf k9) ∧ ru k9 ≤ 12) ∧ wd_at w125 (aa k9) (.inr (1, [.ref (ga0 k9), .ref (ga1 k9), .ref (ga2 k9), .ref (ga3 k9), .ref (ga4 k9), .int (nI (ru k9))])) ∧ tg100 (aa k9) = 200 + k9 ∧ wd_at w125 (ga0 k9) (.inl (cy 2, 12, .inl (df k9))) ∧ tg100 (ga0 k9) = 220 + k9 ∧ wd_at w125 (ga1 k9) (.inl (cy 2, 12, .inl (cf k9))) ∧ tg100 (ga1 k9) = 240 + k9 ∧ wd_at w125 (ga2 k9) (.inl (cy 2, 72, .inl (nf k9))) ∧ tg100 (ga2 k9) = 260 + k9 ∧ wd_at w125 (ga3 k9) (.inl (cy 1, 72, .inl (sf k9))) ∧ tg100 (ga3 k9) = 280 + k9 ∧ wd_at w125 (ga4 k9) (.inl (cy 2, 72, .inl (uf k9))) ∧ tg100 (ga4 k9) = 300 + k9 := fun k9 hi9 => ⟨(fm123 k9 hi9).1, wd_at.ad ew126 hq127 (fm123 k9 hi9).2.1, (fm123 k9 hi9).2.2.1, wd_at.ad ew126 hq127 (fm123 k9 hi9).2.2.2.1, (fm123 k9 hi9).2.2.2.2.1, wd_at.ad ew126 hq127 (fm123 k9 hi9).2.2.2.2.2.1, (fm123 k9 hi9).2.2.2.2.2.2.1, wd_at.ad ew126 hq127 (fm123 k9 hi9).2.2.2.2.2.2.2.1, (fm123 k9 hi9).2.2.2.2.2.2.2.2.1, wd_at.ad ew126 hq127 (fm123 k9 hi9).2.2.2.2.2.2.2.2.2.1, (fm123 k9 hi9).2.2.2.2.2.2.2.2.2.2.1, wd_at.ad ew126 hq127 (fm123 k9 hi9).2.2.2.2.2.2.2.2.2.2.2.1, (fm123 k9 hi9).2.2.2.2.2.2.2.2.2.2.2.2⟩
      have fn140 : ∀ k9, k9 < 12 → (aa k9) ≠ a3 ∧ (ga0 k9) ≠ a3 ∧ (ga1 k9) ≠ a3 ∧ (ga2 k9) ≠ a3 ∧ (ga3 k9) ≠ a3 ∧ (ga4 k9) ≠ a3 := fun k9 hi9 => ⟨wd_nL hq127 (fm123 k9 hi9).2.1, wd_nL hq127 (fm123 k9 hi9).2.2.2.1, wd_nL hq127 (fm123 k9 hi9).2.2.2.2.2.1, wd_nL hq127 (fm123 k9 hi9).2.2.2.2.2.2.2.1, wd_nL hq127 (fm123 k9 hi9).2.2.2.2.2.2.2.2.2.1, wd_nL hq127 (fm123 k9 hi9).2.2.2.2.2.2.2.2.2.2.2.1⟩
      have kp141 := kp124.add ew126 hq127
      obtain ⟨tg142, et143⟩ : ∃ f : Nat → Nat, f = va_up tg100 a3 (8) := ⟨_, rfl⟩
      have t144 := tgX et143 (wd_nL hq127 k114) t102
      have t145 := tgX et143 (wd_nL hq127 k115) t103
      have t146 := tgX et143 (wd_nL hq127 k116) t104
      have t147 := tgX et143 (wd_nL hq127 k117) t105
      have t148 := tgX et143 (wd_nL hq127 k118) t106
      have t149 := tgX et143 (wd_nL hq127 k119) t107
      have t150 := tgX et143 (wd_nL hq127 k120) t108
      have t151 := tgX et143 (wd_nL hq127 k121) (tgN et101)
      have fm152 : ∀ i9, i9 < 12 → tf i9 = some (tn i9) ∧ wd_at w125 (tn i9) (.inr (8, [.int (co i9), .int (ra i9), .int (se i9), .ref (ag i9)])) ∧ tg142 (tn i9) = 100 + i9 := fun i9 hi9 => ⟨(fm137 i9 hi9).1, (fm137 i9 hi9).2.1, tgX et143 (fn138 i9 hi9) (fm137 i9 hi9).2.2⟩
      have fm153 : ∀ k9, k9 < 12 → (aOK (cf k9) (nf k9) ∧ ru k9 ≤ 12) ∧ wd_at w125 (aa k9) (.inr (1, [.ref (ga0 k9), .ref (ga1 k9), .ref (ga2 k9), .ref (ga3 k9), .ref (ga4 k9), .int (nI (ru k9))])) ∧ tg142 (aa k9) = 200 + k9 ∧ wd_at w125 (ga0 k9) (.inl (cy 2, 12, .inl (df k9))) ∧ tg142 (ga0 k9) = 220 + k9 ∧ wd_at w125 (ga1 k9) (.inl (cy 2, 12, .inl (cf k9))) ∧ tg142 (ga1 k9) = 240 + k9 ∧ wd_at w125 (ga2 k9) (.inl (cy 2, 72, .inl (nf k9))) ∧ tg142 (ga2 k9) = 260 + k9 ∧ wd_at w125 (ga3 k9) (.inl (cy 1, 72, .inl (sf k9))) ∧ tg142 (ga3 k9) = 280 + k9 ∧ wd_at w125 (ga4 k9) (.inl (cy 2, 72, .inl (uf k9))) ∧ tg142 (ga4 k9) = 300 + k9 := fun k9 hi9 => ⟨(fm139 k9 hi9).1, (fm139 k9 hi9).2.1, tgX et143 ((fn140 k9 hi9).1) (fm139 k9 hi9).2.2.1, (fm139 k9 hi9).2.2.2.1, tgX et143 ((fn140 k9 hi9).2.1) (fm139 k9 hi9).2.2.2.2.1, (fm139 k9 hi9).2.2.2.2.2.1, tgX et143 ((fn140 k9 hi9).2.2.1) (fm139 k9 hi9).2.2.2.2.2.2.1, (fm139 k9 hi9).2.2.2.2.2.2.2.1, tgX et143 ((fn140 k9 hi9).2.2.2.1) (fm139 k9 hi9).2.2.2.2.2.2.2.2.1, (fm139 k9 hi9).2.2.2.2.2.2.2.2.2.1, tgX et143 ((fn140 k9 hi9).2.2.2.2.1) (fm139 k9 hi9).2.2.2.2.2.2.2.2.2.2.1, (fm139 k9 hi9).2.2.2.2.2.2.2.2.2.2.2.1, tgX et143 ((fn140 k9 hi9).2.2.2.2.2) (fm139 k9 hi9).2.2.2.2.2.2.2.2.2.2.2.2⟩
      have hext154 := tgE et143 (kp124.out hq127) hext111
      refine y_putF (ref := "NoteHouse") F hP hD hS k128 rfl (fun _ h => List.mem_cons_of_mem _ (List.mem_append_left _ (List.mem_append_left _ (List.mem_append_left _ (List.mem_append_left _ (List.mem_append_left _ (List.mem_append_right _ (h)))))))) tyX10_ok nmX10 hnm 3 (Nat.le_of_ble_eq_true rfl) (List.mem_cons_of_mem _ (List.mem_append_left _ (List.mem_append_left _ (List.mem_append_left _ (List.mem_append_left _ (List.mem_append_left _ (List.mem_append_left _ (List.mem_append_left _ (List.mem_append_left _ (List.mem_of_getElem? (i := 14) rfl)))))))))) rfl rfl rfl rfl rfl (Nat.le_of_ble_eq_true rfl) dX10_init_66 (fun w155 ew156 H locs hP hD hS => ?_)
      have k157 : wd_at w155 x (.inr (10, [.ref a0, .ref a1, .ref a2, .ref a3, .null, .null, .null, .null, .null, .null, .null, .null, .int 0, .int 0, .int 0, .int 0, .int 0])) := wd_at.ps ew156 k128
      have k158 := wd_at.pt ew156 k129 (tg_ne t145 t144 (by decide))
      have k159 := wd_at.pt ew156 k130 (tg_ne t146 t144 (by decide))
      have k160 := wd_at.pt ew156 k131 (tg_ne t147 t144 (by decide))
      have k161 := wd_at.pt ew156 k132 (tg_ne t148 t144 (by decide))
      have k162 := wd_at.pt ew156 k133 (tg_ne t149 t144 (by decide))
      have k163 := wd_at.pt ew156 k134 (tg_ne t150 t144 (by decide))
      have k164 := wd_at.pt ew156 k135 (tg_ne t151 t144 (by decide))
      have k165 := wd_at.pt ew156 k136 (tg_ne (tgN et143) t144 (by decide))
      have fm166 : ∀ i9, i9 < 12 → tf i9 = some (tn i9) ∧ wd_at w155 (tn i9) (.inr (8, [.int (co i9), .int (ra i9), .int (se i9), .ref (ag i9)])) ∧ tg142 (tn i9) = 100 + i9 := fun i9 hi9 => ⟨(fm152 i9 hi9).1, wd_at.pt ew156 (fm152 i9 hi9).2.1 (tg_ne (fm152 i9 hi9).2.2 t144 (tnA (show 0 < 100 by decide))), (fm152 i9 hi9).2.2⟩
      have fm167 : ∀ k9, k9 < 12 → (aOK (cf k9) (nf k9) ∧ ru k9 ≤ 12) ∧ wd_at w155 (aa k9) (.inr (1, [.ref (ga0 k9), .ref (ga1 k9), .ref (ga2 k9), .ref (ga3 k9), .ref (ga4 k9), .int (nI (ru k9))])) ∧ tg142 (aa k9) = 200 + k9 ∧ wd_at w155 (ga0 k9) (.inl (cy 2, 12, .inl (df k9))) ∧ tg142 (ga0 k9) = 220 + k9 ∧ wd_at w155 (ga1 k9) (.inl (cy 2, 12, .inl (cf k9))) ∧ tg142 (ga1 k9) = 240 + k9 ∧ wd_at w155 (ga2 k9) (.inl (cy 2, 72, .inl (nf k9))) ∧ tg142 (ga2 k9) = 260 + k9 ∧ wd_at w155 (ga3 k9) (.inl (cy 1, 72, .inl (sf k9))) ∧ tg142 (ga3 k9) = 280 + k9 ∧ wd_at w155 (ga4 k9) (.inl (cy 2, 72, .inl (uf k9))) ∧ tg142 (ga4 k9) = 300 + k9 := fun k9 hi9 => ⟨(fm153 k9 hi9).1, wd_at.pt ew156 (fm153 k9 hi9).2.1 (tg_ne (fm153 k9 hi9).2.2.1 t144 (tnA (show 0 < 200 by decide))), (fm153 k9 hi9).2.2.1, wd_at.pt ew156 (fm153 k9 hi9).2.2.2.1 (tg_ne (fm153 k9 hi9).2.2.2.2.1 t144 (tnA (show 0 < 220 by decide))), (fm153 k9 hi9).2.2.2.2.1, wd_at.pt ew156 (fm153 k9 hi9).2.2.2.2.2.1 (tg_ne (fm153 k9 hi9).2.2.2.2.2.2.1 t144 (tnA (show 0 < 240 by decide))), (fm153 k9 hi9).2.2.2.2.2.2.1, wd_at.pt ew156 (fm153 k9 hi9).2.2.2.2.2.2.2.1 (tg_ne (fm153 k9 hi9).2.2.2.2.2.2.2.2.1 t144 (tnA (show 0 < 260 by decide))), (fm153 k9 hi9).2.2.2.2.2.2.2.2.1, wd_at.pt ew156 (fm153 k9 hi9).2.2.2.2.2.2.2.2.2.1 (tg_ne (fm153 k9 hi9).2.2.2.2.2.2.2.2.2.2.1 t144 (tnA (show 0 < 280 by decide))), (fm153 k9 hi9).2.2.2.2.2.2.2.2.2.2.1, wd_at.pt ew156 (fm153 k9 hi9).2.2.2.2.2.2.2.2.2.2.2.1 (tg_ne (fm153 k9 hi9).2.2.2.2.2.2.2.2.2.2.2.2 t144 (tnA (show 0 < 300 by decide))), (fm153 k9 hi9).2.2.2.2.2.2.2.2.2.2.2.2⟩
      have kp168 := kp141.put ew156 sy
      refine lv_aload_n hx hb dX10_init_69 rfl (lv_at hl 0 rfl) ?_
      refine lv_bipush (v := 60) hx hb dX10_init_70 (by decide) ?_
      refine y_newA (N := 60) (t0 := 8) F hP hD hS (List.mem_cons_of_mem _ (List.mem_append_left _ (List.mem_append_left _ (List.mem_append_left _ (List.mem_append_left _ (List.mem_append_left _ (List.mem_append_left _ (List.mem_append_left _ (List.mem_append_left _ (List.mem_of_getElem? (i := 15) rfl)))))))))) (by decide +kernel) rfl (by decide) (by decide) (by decide) (Nat.le_of_ble_eq_true rfl) (Nat.le_of_ble_eq_true rfl) dX10_init_72 (fun a4 w169 ew170 hq171 H hP hD hS => ?_)
      refine W.widen (k := 93) (n := 3478) (Nat.le_of_ble_eq_true rfl) (Nat.le_of_ble_eq_true rfl) ?_
      have k172 := wd_at.ad ew170 hq171 k157
      have k173 := wd_at.ad ew170 hq171 k158
      have k174 := wd_at.ad ew170 hq171 k159
      have k175 := wd_at.ad ew170 hq171 k160
      have k176 := wd_at.ad ew170 hq171 k161
      have k177 := wd_at.ad ew170 hq171 k162
      have k178 := wd_at.ad ew170 hq171 k163
      have k179 := wd_at.ad ew170 hq171 k164
      have k180 := wd_at.ad ew170 hq171 k165
      have k181 : wd_at w169 a4 (.inl (cy 8, 60, .inr (.inr (.inr (.inr (fun _ => none)))))) := wd_at.nw ew170
      have fm182 : ∀ i9, i9 < 12 → tf i9 = some (tn i9) ∧ wd_at w169 (tn i9) (.inr (8, [.int (co i9), .int (ra i9), .int (se i9), .ref (ag i9)])) ∧ tg142 (tn i9) = 100 + i9 := fun i9 hi9 => ⟨(fm166 i9 hi9).1, wd_at.ad ew170 hq171 (fm166 i9 hi9).2.1, (fm166 i9 hi9).2.2⟩
      have fn183 : ∀ i9, i9 < 12 → (tn i9) ≠ a4 := fun i9 hi9 => wd_nL hq171 (fm166 i9 hi9).2.1
      have fm184 : ∀ k9, k9 < 12 → (aOK (cf k9) (nf k9) ∧ ru k9 ≤ 12) ∧ wd_at w169 (aa k9) (.inr (1, [.ref (ga0 k9), .ref (ga1 k9), .ref (ga2 k9), .ref (ga3 k9), .ref (ga4 k9), .int (nI (ru k9))])) ∧ tg142 (aa k9) = 200 + k9 ∧ wd_at w169 (ga0 k9) (.inl (cy 2, 12, .inl (df k9))) ∧ tg142 (ga0 k9) = 220 + k9 ∧ wd_at w169 (ga1 k9) (.inl (cy 2, 12, .inl (cf k9))) ∧ tg142 (ga1 k9) = 240 + k9 ∧ wd_at w169 (ga2 k9) (.inl (cy 2, 72, .inl (nf k9))) ∧ tg142 (ga2 k9) = 260 + k9 ∧ wd_at w169 (ga3 k9) (.inl (cy 1, 72, .inl (sf k9))) ∧ tg142 (ga3 k9) = 280 + k9 ∧ wd_at w169 (ga4 k9) (.inl (cy 2, 72, .inl (uf k9))) ∧ tg142 (ga4 k9) = 300 + k9 := fun k9 hi9 => ⟨(fm167 k9 hi9).1, wd_at.ad ew170 hq171 (fm167 k9 hi9).2.1, (fm167 k9 hi9).2.2.1, wd_at.ad ew170 hq171 (fm167 k9 hi9).2.2.2.1, (fm167 k9 hi9).2.2.2.2.1, wd_at.ad ew170 hq171 (fm167 k9 hi9).2.2.2.2.2.1, (fm167 k9 hi9).2.2.2.2.2.2.1, wd_at.ad ew170 hq171 (fm167 k9 hi9).2.2.2.2.2.2.2.1, (fm167 k9 hi9).2.2.2.2.2.2.2.2.1, wd_at.ad ew170 hq171 (fm167 k9 hi9).2.2.2.2.2.2.2.2.2.1, (fm167 k9 hi9).2.2.2.2.2.2.2.2.2.2.1, wd_at.ad ew170 hq171 (fm167 k9 hi9).2.2.2.2.2.2.2.2.2.2.2.1, (fm167 k9 hi9).2.2.2.2.2.2.2.2.2.2.2.2⟩
      have fn185 : ∀ k9, k9 < 12 → (aa k9) ≠ a4 ∧ (ga0 k9) ≠ a4 ∧ (ga1 k9) ≠ a4 ∧ (ga2 k9) ≠ a4 ∧ (ga3 k9) ≠ a4 ∧ (ga4 k9) ≠ a4 := fun k9 hi9 => ⟨wd_nL hq171 (fm167 k9 hi9).2.1, wd_nL hq171 (fm167 k9 hi9).2.2.2.1, wd_nL hq171 (fm167 k9 hi9).2.2.2.2.2.1, wd_nL hq171 (fm167 k9 hi9).2.2.2.2.2.2.2.1, wd_nL hq171 (fm167 k9 hi9).2.2.2.2.2.2.2.2.2.1, wd_nL hq171 (fm167 k9 hi9).2.2.2.2.2.2.2.2.2.2.2.1⟩
      have kp186 := kp168.add ew170 hq171
      obtain ⟨tg187, et188⟩ : ∃ f : Nat → Nat, f = va_up tg142 a4 (9) := ⟨_, rfl⟩
      have t189 := tgX et188 (wd_nL hq171 k157) t144
      have t190 := tgX et188 (wd_nL hq171 k158) t145
      have t191 := tgX et188 (wd_nL hq171 k159) t146
      have t192 := tgX et188 (wd_nL hq171 k160) t147
      have t193 := tgX et188 (wd_nL hq171 k161) t148
      have t194 := tgX et188 (wd_nL hq171 k162) t149
      have t195 := tgX et188 (wd_nL hq171 k163) t150
      have t196 := tgX et188 (wd_nL hq171 k164) t151
      have t197 := tgX et188 (wd_nL hq171 k165) (tgN et143)
      have fm198 : ∀ i9, i9 < 12 → tf i9 = some (tn i9) ∧ wd_at w169 (tn i9) (.inr (8, [.int (co i9), .int (ra i9), .int (se i9), .ref (ag i9)])) ∧ tg187 (tn i9) = 100 + i9 := fun i9 hi9 => ⟨(fm182 i9 hi9).1, (fm182 i9 hi9).2.1, tgX et188 (fn183 i9 hi9) (fm182 i9 hi9).2.2⟩
      have fm199 : ∀ k9, k9 < 12 → (aOK (cf k9) (nf k9) ∧ ru k9 ≤ 12) ∧ wd_at w169 (aa k9) (.inr (1, [.ref (ga0 k9), .ref (ga1 k9), .ref (ga2 k9), .ref (ga3 k9), .ref (ga4 k9), .int (nI (ru k9))])) ∧ tg187 (aa k9) = 200 + k9 ∧ wd_at w169 (ga0 k9) (.inl (cy 2, 12, .inl (df k9))) ∧ tg187 (ga0 k9) = 220 + k9 ∧ wd_at w169 (ga1 k9) (.inl (cy 2, 12, .inl (cf k9))) ∧ tg187 (ga1 k9) = 240 + k9 ∧ wd_at w169 (ga2 k9) (.inl (cy 2, 72, .inl (nf k9))) ∧ tg187 (ga2 k9) = 260 + k9 ∧ wd_at w169 (ga3 k9) (.inl (cy 1, 72, .inl (sf k9))) ∧ tg187 (ga3 k9) = 280 + k9 ∧ wd_at w169 (ga4 k9) (.inl (cy 2, 72, .inl (uf k9))) ∧ tg187 (ga4 k9) = 300 + k9 := fun k9 hi9 => ⟨(fm184 k9 hi9).1, (fm184 k9 hi9).2.1, tgX et188 ((fn185 k9 hi9).1) (fm184 k9 hi9).2.2.1, (fm184 k9 hi9).2.2.2.1, tgX et188 ((fn185 k9 hi9).2.1) (fm184 k9 hi9).2.2.2.2.1, (fm184 k9 hi9).2.2.2.2.2.1, tgX et188 ((fn185 k9 hi9).2.2.1) (fm184 k9 hi9).2.2.2.2.2.2.1, (fm184 k9 hi9).2.2.2.2.2.2.2.1, tgX et188 ((fn185 k9 hi9).2.2.2.1) (fm184 k9 hi9).2.2.2.2.2.2.2.2.1, (fm184 k9 hi9).2.2.2.2.2.2.2.2.2.1, tgX et188 ((fn185 k9 hi9).2.2.2.2.1) (fm184 k9 hi9).2.2.2.2.2.2.2.2.2.2.1, (fm184 k9 hi9).2.2.2.2.2.2.2.2.2.2.2.1, tgX et188 ((fn185 k9 hi9).2.2.2.2.2) (fm184 k9 hi9).2.2.2.2.2.2.2.2.2.2.2.2⟩
      have hext200 := tgE et188 (kp168.out hq171) hext154
      refine y_putF (ref := "NoteHouse") F hP hD hS k172 rfl (fun _ h => List.mem_cons_of_mem _ (List.mem_append_left _ (List.mem_append_left _ (List.mem_append_left _ (List.mem_append_left _ (List.mem_append_left _ (List.mem_append_right _ (h)))))))) tyX10_ok nmX10 hnm 4 (Nat.le_of_ble_eq_true rfl) (List.mem_cons_of_mem _ (List.mem_append_left _ (List.mem_append_left _ (List.mem_append_left _ (List.mem_append_left _ (List.mem_append_left _ (List.mem_append_left _ (List.mem_append_left _ (List.mem_append_left _ (List.mem_of_getElem? (i := 16) rfl)))))))))) rfl rfl rfl rfl rfl (Nat.le_of_ble_eq_true rfl) dX10_init_75 (fun w201 ew202 H locs hP hD hS => ?_)
      have k203 : wd_at w201 x (.inr (10, [.ref a0, .ref a1, .ref a2, .ref a3, .ref a4, .null, .null, .null, .null, .null, .null, .null, .int 0, .int 0, .int 0, .int 0, .int 0])) := wd_at.ps ew202 k172
      have k204 := wd_at.pt ew202 k173 (tg_ne t190 t189 (by decide))
      have k205 := wd_at.pt ew202 k174 (tg_ne t191 t189 (by decide))
      have k206 := wd_at.pt ew202 k175 (tg_ne t192 t189 (by decide))
      have k207 := wd_at.pt ew202 k176 (tg_ne t193 t189 (by decide))
      have k208 := wd_at.pt ew202 k177 (tg_ne t194 t189 (by decide))
      have k209 := wd_at.pt ew202 k178 (tg_ne t195 t189 (by decide))
      have k210 := wd_at.pt ew202 k179 (tg_ne t196 t189 (by decide))
      have k211 := wd_at.pt ew202 k180 (tg_ne t197 t189 (by decide))
      have k212 := wd_at.pt ew202 k181 (tg_ne (tgN et188) t189 (by decide))
      have fm213 : ∀ i9, i9 < 12 → tf i9 = some (tn i9) ∧ wd_at w201 (tn i9) (.inr (8, [.int (co i9), .int (ra i9), .int (se i9), .ref (ag i9)])) ∧ tg187 (tn i9) = 100 + i9 := fun i9 hi9 => ⟨(fm198 i9 hi9).1, wd_at.pt ew202 (fm198 i9 hi9).2.1 (tg_ne (fm198 i9 hi9).2.2 t189 (tnA (show 0 < 100 by decide))), (fm198 i9 hi9).2.2⟩
      have fm214 : ∀ k9, k9 < 12 → (aOK (cf k9) (nf k9) ∧ ru k9 ≤ 12) ∧ wd_at w201 (aa k9) (.inr (1, [.ref (ga0 k9), .ref (ga1 k9), .ref (ga2 k9), .ref (ga3 k9), .ref (ga4 k9), .int (nI (ru k9))])) ∧ tg187 (aa k9) = 200 + k9 ∧ wd_at w201 (ga0 k9) (.inl (cy 2, 12, .inl (df k9))) ∧ tg187 (ga0 k9) = 220 + k9 ∧ wd_at w201 (ga1 k9) (.inl (cy 2, 12, .inl (cf k9))) ∧ tg187 (ga1 k9) = 240 + k9 ∧ wd_at w201 (ga2 k9) (.inl (cy 2, 72, .inl (nf k9))) ∧ tg187 (ga2 k9) = 260 + k9 ∧ wd_at w201 (ga3 k9) (.inl (cy 1, 72, .inl (sf k9))) ∧ tg187 (ga3 k9) = 280 + k9 ∧ wd_at w201 (ga4 k9) (.inl (cy 2, 72, .inl (uf k9))) ∧ tg187 (ga4 k9) = 300 + k9 := fun k9 hi9 => ⟨(fm199 k9 hi9).1, wd_at.pt ew202 (fm199 k9 hi9).2.1 (tg_ne (fm199 k9 hi9).2.2.1 t189 (tnA (show 0 < 200 by decide))), (fm199 k9 hi9).2.2.1, wd_at.pt ew202 (fm199 k9 hi9).2.2.2.1 (tg_ne (fm199 k9 hi9).2.2.2.2.1 t189 (tnA (show 0 < 220 by decide))), (fm199 k9 hi9).2.2.2.2.1, wd_at.pt ew202 (fm199 k9 hi9).2.2.2.2.2.1 (tg_ne (fm199 k9 hi9).2.2.2.2.2.2.1 t189 (tnA (show 0 < 240 by decide))), (fm199 k9 hi9).2.2.2.2.2.2.1, wd_at.pt ew202 (fm199 k9 hi9).2.2.2.2.2.2.2.1 (tg_ne (fm199 k9 hi9).2.2.2.2.2.2.2.2.1 t189 (tnA (show 0 < 260 by decide))), (fm199 k9 hi9).2.2.2.2.2.2.2.2.1, wd_at.pt ew202 (fm199 k9 hi9).2.2.2.2.2.2.2.2.2.1 (tg_ne (fm199 k9 hi9).2.2.2.2.2.2.2.2.2.2.1 t189 (tnA (show 0 < 280 by decide))), (fm199 k9 hi9).2.2.2.2.2.2.2.2.2.2.1, wd_at.pt ew202 (fm199 k9 hi9).2.2.2.2.2.2.2.2.2.2.2.1 (tg_ne (fm199 k9 hi9).2.2.2.2.2.2.2.2.2.2.2.2 t189 (tnA (show 0 < 300 by decide))), (fm199 k9 hi9).2.2.2.2.2.2.2.2.2.2.2.2⟩
      have kp215 := kp186.put ew202 sy
      refine lv_aload_n hx hb dX10_init_78 rfl (lv_at hl 0 rfl) ?_
      refine lv_sipush (v := 200) hx hb dX10_init_79 (by decide) ?_
      refine y_newA (N := 200) (t0 := 7) F hP hD hS (List.mem_cons_of_mem _ (List.mem_append_left _ (List.mem_append_left _ (List.mem_append_left _ (List.mem_append_left _ (List.mem_append_left _ (List.mem_append_left _ (List.mem_append_left _ (List.mem_append_left _ (List.mem_of_getElem? (i := 17) rfl)))))))))) (by decide +kernel) rfl (by decide) (by decide) (by decide) (Nat.le_of_ble_eq_true rfl) (Nat.le_of_ble_eq_true rfl) dX10_init_82 (fun a5 w216 ew217 hq218 H hP hD hS => ?_)
      refine W.widen (k := 94) (n := 3678) (Nat.le_of_ble_eq_true rfl) (Nat.le_of_ble_eq_true rfl) ?_
      have k219 := wd_at.ad ew217 hq218 k203
      have k220 := wd_at.ad ew217 hq218 k204
      have k221 := wd_at.ad ew217 hq218 k205
      have k222 := wd_at.ad ew217 hq218 k206
      have k223 := wd_at.ad ew217 hq218 k207
      have k224 := wd_at.ad ew217 hq218 k208
      have k225 := wd_at.ad ew217 hq218 k209
      have k226 := wd_at.ad ew217 hq218 k210
      have k227 := wd_at.ad ew217 hq218 k211
      have k228 := wd_at.ad ew217 hq218 k212
      have k229 : wd_at w216 a5 (.inl (cy 7, 200, .inr (.inr (.inr (.inr (fun _ => none)))))) := wd_at.nw ew217
      have fm230 : ∀ i9, i9 < 12 → tf i9 = some (tn i9) ∧ wd_at w216 (tn i9) (.inr (8, [.int (co i9), .int (ra i9), .int (se i9), .ref (ag i9)])) ∧ tg187 (tn i9) = 100 + i9 := fun i9 hi9 => ⟨(fm213 i9 hi9).1, wd_at.ad ew217 hq218 (fm213 i9 hi9).2.1, (fm213 i9 hi9).2.2⟩
      have fn231 : ∀ i9, i9 < 12 → (tn i9) ≠ a5 := fun i9 hi9 => wd_nL hq218 (fm213 i9 hi9).2.1
      have fm232 : ∀ k9, k9 < 12 → (aOK (cf k9) (nf k9) ∧ ru k9 ≤ 12) ∧ wd_at w216 (aa k9) (.inr (1, [.ref (ga0 k9), .ref (ga1 k9), .ref (ga2 k9), .ref (ga3 k9), .ref (ga4 k9), .int (nI (ru k9))])) ∧ tg187 (aa k9) = 200 + k9 ∧ wd_at w216 (ga0 k9) (.inl (cy 2, 12, .inl (df k9))) ∧ tg187 (ga0 k9) = 220 + k9 ∧ wd_at w216 (ga1 k9) (.inl (cy 2, 12, .inl (cf k9))) ∧ tg187 (ga1 k9) = 240 + k9 ∧ wd_at w216 (ga2 k9) (.inl (cy 2, 72, .inl (nf k9))) ∧ tg187 (ga2 k9) = 260 + k9 ∧ wd_at w216 (ga3 k9) (.inl (cy 1, 72, .inl (sf k9))) ∧ tg187 (ga3 k9) = 280 + k9 ∧ wd_at w216 (ga4 k9) (.inl (cy 2, 72, .inl (uf k9))) ∧ tg187 (ga4 k9) = 300 + k9 := fun k9 hi9 => ⟨(fm214 k9 hi9).1, wd_at.ad ew217 hq218 (fm214 k9 hi9).2.1, (fm214 k9 hi9).2.2.1, wd_at.ad ew217 hq218 (fm214 k9 hi9).2.2.2.1, (fm214 k9 hi9).2.2.2.2.1, wd_at.ad ew217 hq218 (fm214 k9 hi9).2.2.2.2.2.1, (fm214 k9 hi9).2.2.2.2.2.2.1, wd_at.ad ew217 hq218 (fm214 k9 hi9).2.2.2.2.2.2.2.1, (fm214 k9 hi9).2.2.2.2.2.2.2.2.1, wd_at.ad ew217 hq218 (fm214 k9 hi9).2.2.2.2.2.2.2.2.2.1, (fm214 k9 hi9).2.2.2.2.2.2.2.2.2.2.1, wd_at.ad ew217 hq218 (fm214 k9 hi9).2.2.2.2.2.2.2.2.2.2.2.1, (fm214 k9 hi9).2.2.2.2.2.2.2.2.2.2.2.2⟩
      have fn233 : ∀ k9, k9 < 12 → (aa k9) ≠ a5 ∧ (ga0 k9) ≠ a5 ∧ (ga1 k9) ≠ a5 ∧ (ga2 k9) ≠ a5 ∧ (ga3 k9) ≠ a5 ∧ (ga4 k9) ≠ a5 := fun k9 hi9 => ⟨wd_nL hq218 (fm214 k9 hi9).2.1, wd_nL hq218 (fm214 k9 hi9).2.2.2.1, wd_nL hq218 (fm214 k9 hi9).2.2.2.2.2.1, wd_nL hq218 (fm214 k9 hi9).2.2.2.2.2.2.2.1, wd_nL hq218 (fm214 k9 hi9).2.2.2.2.2.2.2.2.2.1, wd_nL hq218 (fm214 k9 hi9).2.2.2.2.2.2.2.2.2.2.2.1⟩
      have kp234 := kp215.add ew217 hq218
      obtain ⟨tg235, et236⟩ : ∃ f : Nat → Nat, f = va_up tg187 a5 (10) := ⟨_, rfl⟩
      have t237 := tgX et236 (wd_nL hq218 k203) t189
      have t238 := tgX et236 (wd_nL hq218 k204) t190
      have t239 := tgX et236 (wd_nL hq218 k205) t191
      have t240 := tgX et236 (wd_nL hq218 k206) t192
      have t241 := tgX et236 (wd_nL hq218 k207) t193
      have t242 := tgX et236 (wd_nL hq218 k208) t194
      have t243 := tgX et236 (wd_nL hq218 k209) t195
      have t244 := tgX et236 (wd_nL hq218 k210) t196
      have t245 := tgX et236 (wd_nL hq218 k211) t197
      have t246 := tgX et236 (wd_nL hq218 k212) (tgN et188)
      have fm247 : ∀ i9, i9 < 12 → tf i9 = some (tn i9) ∧ wd_at w216 (tn i9) (.inr (8, [.int (co i9), .int (ra i9), .int (se i9), .ref (ag i9)])) ∧ tg235 (tn i9) = 100 + i9 := fun i9 hi9 => ⟨(fm230 i9 hi9).1, (fm230 i9 hi9).2.1, tgX et236 (fn231 i9 hi9) (fm230 i9 hi9).2.2⟩
      have fm248 : ∀ k9, k9 < 12 → (aOK (cf k9) (nf k9) ∧ ru k9 ≤ 12) ∧ wd_at w216 (aa k9) (.inr (1, [.ref (ga0 k9), .ref (ga1 k9), .ref (ga2 k9), .ref (ga3 k9), .ref (ga4 k9), .int (nI (ru k9))])) ∧ tg235 (aa k9) = 200 + k9 ∧ wd_at w216 (ga0 k9) (.inl (cy 2, 12, .inl (df k9))) ∧ tg235 (ga0 k9) = 220 + k9 ∧ wd_at w216 (ga1 k9) (.inl (cy 2, 12, .inl (cf k9))) ∧ tg235 (ga1 k9) = 240 + k9 ∧ wd_at w216 (ga2 k9) (.inl (cy 2, 72, .inl (nf k9))) ∧ tg235 (ga2 k9) = 260 + k9 ∧ wd_at w216 (ga3 k9) (.inl (cy 1, 72, .inl (sf k9))) ∧ tg235 (ga3 k9) = 280 + k9 ∧ wd_at w216 (ga4 k9) (.inl (cy 2, 72, .inl (uf k9))) ∧ tg235 (ga4 k9) = 300 + k9 := fun k9 hi9 => ⟨(fm232 k9 hi9).1, (fm232 k9 hi9).2.1, tgX et236 ((fn233 k9 hi9).1) (fm232 k9 hi9).2.2.1, (fm232 k9 hi9).2.2.2.1, tgX et236 ((fn233 k9 hi9).2.1) (fm232 k9 hi9).2.2.2.2.1, (fm232 k9 hi9).2.2.2.2.2.1, tgX et236 ((fn233 k9 hi9).2.2.1) (fm232 k9 hi9).2.2.2.2.2.2.1, (fm232 k9 hi9).2.2.2.2.2.2.2.1, tgX et236 ((fn233 k9 hi9).2.2.2.1) (fm232 k9 hi9).2.2.2.2.2.2.2.2.1, (fm232 k9 hi9).2.2.2.2.2.2.2.2.2.1, tgX et236 ((fn233 k9 hi9).2.2.2.2.1) (fm232 k9 hi9).2.2.2.2.2.2.2.2.2.2.1, (fm232 k9 hi9).2.2.2.2.2.2.2.2.2.2.2.1, tgX et236 ((fn233 k9 hi9).2.2.2.2.2) (fm232 k9 hi9).2.2.2.2.2.2.2.2.2.2.2.2⟩
      have hext249 := tgE et236 (kp215.out hq218) hext200
      refine y_putF (ref := "NoteHouse") F hP hD hS k219 rfl (fun _ h => List.mem_cons_of_mem _ (List.mem_append_left _ (List.mem_append_left _ (List.mem_append_left _ (List.mem_append_left _ (List.mem_append_left _ (List.mem_append_right _ (h)))))))) tyX10_ok nmX10 hnm 5 (Nat.le_of_ble_eq_true rfl) (List.mem_cons_of_mem _ (List.mem_append_left _ (List.mem_append_left _ (List.mem_append_left _ (List.mem_append_left _ (List.mem_append_left _ (List.mem_append_left _ (List.mem_append_left _ (List.mem_append_left _ (List.mem_of_getElem? (i := 18) rfl)))))))))) rfl rfl rfl rfl rfl (Nat.le_of_ble_eq_true rfl) dX10_init_85 (fun w250 ew251 H locs hP hD hS => ?_)
      have k252 : wd_at w250 x (.inr (10, [.ref a0, .ref a1, .ref a2, .ref a3, .ref a4, .ref a5, .null, .null, .null, .null, .null, .null, .int 0, .int 0, .int 0, .int 0, .int 0])) := wd_at.ps ew251 k219
      have k253 := wd_at.pt ew251 k220 (tg_ne t238 t237 (by decide))
      have k254 := wd_at.pt ew251 k221 (tg_ne t239 t237 (by decide))
      have k255 := wd_at.pt ew251 k222 (tg_ne t240 t237 (by decide))
      have k256 := wd_at.pt ew251 k223 (tg_ne t241 t237 (by decide))
      have k257 := wd_at.pt ew251 k224 (tg_ne t242 t237 (by decide))
      have k258 := wd_at.pt ew251 k225 (tg_ne t243 t237 (by decide))
      have k259 := wd_at.pt ew251 k226 (tg_ne t244 t237 (by decide))
      have k260 := wd_at.pt ew251 k227 (tg_ne t245 t237 (by decide))
      have k261 := wd_at.pt ew251 k228 (tg_ne t246 t237 (by decide))
      have k262 := wd_at.pt ew251 k229 (tg_ne (tgN et236) t237 (by decide))
      have fm263 : ∀ i9, i9 < 12 → tf i9 = some (tn i9) ∧ wd_at w250 (tn i9) (.inr (8, [.int (co i9), .int (ra i9), .int (se i9), .ref (ag i9)])) ∧ tg235 (tn i9) = 100 + i9 := fun i9 hi9 => ⟨(fm247 i9 hi9).1, wd_at.pt ew251 (fm247 i9 hi9).2.1 (tg_ne (fm247 i9 hi9).2.2 t237 (tnA (show 0 < 100 by decide))), (fm247 i9 hi9).2.2⟩
      have fm264 : ∀ k9, k9 < 12 → (aOK (cf k9) (nf k9) ∧ ru k9 ≤ 12) ∧ wd_at w250 (aa k9) (.inr (1, [.ref (ga0 k9), .ref (ga1 k9), .ref (ga2 k9), .ref (ga3 k9), .ref (ga4 k9), .int (nI (ru k9))])) ∧ tg235 (aa k9) = 200 + k9 ∧ wd_at w250 (ga0 k9) (.inl (cy 2, 12, .inl (df k9))) ∧ tg235 (ga0 k9) = 220 + k9 ∧ wd_at w250 (ga1 k9) (.inl (cy 2, 12, .inl (cf k9))) ∧ tg235 (ga1 k9) = 240 + k9 ∧ wd_at w250 (ga2 k9) (.inl (cy 2, 72, .inl (nf k9))) ∧ tg235 (ga2 k9) = 260 + k9 ∧ wd_at w250 (ga3 k9) (.inl (cy 1, 72, .inl (sf k9))) ∧ tg235 (ga3 k9) = 280 + k9 ∧ wd_at w250 (ga4 k9) (.inl (cy 2, 72, .inl (uf k9))) ∧ tg235 (ga4 k9) = 300 + k9 := fun k9 hi9 => ⟨(fm248 k9 hi9).1, wd_at.pt ew251 (fm248 k9 hi9).2.1 (tg_ne (fm248 k9 hi9).2.2.1 t237 (tnA (show 0 < 200 by decide))), (fm248 k9 hi9).2.2.1, wd_at.pt ew251 (fm248 k9 hi9).2.2.2.1 (tg_ne (fm248 k9 hi9).2.2.2.2.1 t237 (tnA (show 0 < 220 by decide))), (fm248 k9 hi9).2.2.2.2.1, wd_at.pt ew251 (fm248 k9 hi9).2.2.2.2.2.1 (tg_ne (fm248 k9 hi9).2.2.2.2.2.2.1 t237 (tnA (show 0 < 240 by decide))), (fm248 k9 hi9).2.2.2.2.2.2.1, wd_at.pt ew251 (fm248 k9 hi9).2.2.2.2.2.2.2.1 (tg_ne (fm248 k9 hi9).2.2.2.2.2.2.2.2.1 t237 (tnA (show 0 < 260 by decide))), (fm248 k9 hi9).2.2.2.2.2.2.2.2.1, wd_at.pt ew251 (fm248 k9 hi9).2.2.2.2.2.2.2.2.2.1 (tg_ne (fm248 k9 hi9).2.2.2.2.2.2.2.2.2.2.1 t237 (tnA (show 0 < 280 by decide))), (fm248 k9 hi9).2.2.2.2.2.2.2.2.2.2.1, wd_at.pt ew251 (fm248 k9 hi9).2.2.2.2.2.2.2.2.2.2.2.1 (tg_ne (fm248 k9 hi9).2.2.2.2.2.2.2.2.2.2.2.2 t237 (tnA (show 0 < 300 by decide))), (fm248 k9 hi9).2.2.2.2.2.2.2.2.2.2.2.2⟩
      have kp265 := kp234.put ew251 sy
      refine lv_aload_n hx hb dX10_init_88 rfl (lv_at hl 0 rfl) ?_
      refine y_new (fs := [.null, .int 0, .int 0]) F hP hD hS (ci := 7) rfl (fun _ h => List.mem_cons_of_mem _ (List.mem_append_left _ (List.mem_append_left _ (List.mem_append_left _ (List.mem_append_right _ (h)))))) tyX7_ok (List.mem_cons_of_mem _ (List.mem_append_left _ (List.mem_append_left _ (List.mem_append_left _ (List.mem_append_left _ (List.mem_append_left _ (List.mem_append_left _ (List.mem_append_left _ (List.mem_append_left _ (List.mem_of_getElem? (i := 19) rfl)))))))))) (List.mem_cons_of_mem _ (List.mem_append_left _ (List.mem_append_left _ (List.mem_append_left _ (List.mem_append_left _ (List.mem_append_left _ (List.mem_append_left _ (List.mem_append_left _ (List.mem_append_left _ (List.mem_of_getElem? (i := 20) rfl)))))))))) (List.mem_cons_of_mem _ (List.mem_append_left _ (List.mem_append_left _ (List.mem_append_left _ (List.mem_append_left _ (List.mem_append_left _ (List.mem_append_left _ (List.mem_append_left _ (List.mem_append_left _ (List.mem_of_getElem? (i := 21) rfl)))))))))) df_7 (Nat.le_of_ble_eq_true rfl) (Nat.le_of_ble_eq_true rfl) dX10_init_89 (fun a6 w266 ew267 hq268 H hP hD hS => ?_)
      refine W.widen (k := 95) (n := 3681) (Nat.le_of_ble_eq_true rfl) (Nat.le_of_ble_eq_true rfl) ?_
      have k269 := wd_at.ad ew267 hq268 k252
      have k270 := wd_at.ad ew267 hq268 k253
      have k271 := wd_at.ad ew267 hq268 k254
      have k272 := wd_at.ad ew267 hq268 k255
      have k273 := wd_at.ad ew267 hq268 k256
      have k274 := wd_at.ad ew267 hq268 k257
      have k275 := wd_at.ad ew267 hq268 k258
      have k276 := wd_at.ad ew267 hq268 k259
      have k277 := wd_at.ad ew267 hq268 k260
      have k278 := wd_at.ad ew267 hq268 k261
      have k279 := wd_at.ad ew267 hq268 k262
      have k280 : wd_at w266 a6 (.inr (7, [.null, .int 0, .int 0])) := wd_at.nw ew267
      have fm281 : ∀ i9, i9 < 12 → tf i9 = some (tn i9) ∧ wd_at w266 (tn i9) (.inr (8, [.int (co i9), .int (ra i9), .int (se i9), .ref (ag i9)])) ∧ tg235 (tn i9) = 100 + i9 := fun i9 hi9 => ⟨(fm263 i9 hi9).1, wd_at.ad ew267 hq268 (fm263 i9 hi9).2.1, (fm263 i9 hi9).2.2⟩
      have fn282 : ∀ i9, i9 < 12 → (tn i9) ≠ a6 := fun i9 hi9 => wd_nL hq268 (fm263 i9 hi9).2.1
      have fm283 : ∀ k9, k9 < 12 → (aOK (cf k9) (nf k9) ∧ ru k9 ≤ 12) ∧ wd_at w266 (aa k9) (.inr (1, [.ref (ga0 k9), .ref (ga1 k9), .ref (ga2 k9), .ref (ga3 k9), .ref (ga4 k9), .int (nI (ru k9))])) ∧ tg235 (aa k9) = 200 + k9 ∧ wd_at w266 (ga0 k9) (.inl (cy 2, 12, .inl (df k9))) ∧ tg235 (ga0 k9) = 220 + k9 ∧ wd_at w266 (ga1 k9) (.inl (cy 2, 12, .inl (cf k9))) ∧ tg235 (ga1 k9) = 240 + k9 ∧ wd_at w266 (ga2 k9) (.inl (cy 2, 72, .inl (nf k9))) ∧ tg235 (ga2 k9) = 260 + k9 ∧ wd_at w266 (ga3 k9) (.inl (cy 1, 72, .inl (sf k9))) ∧ tg235 (ga3 k9) = 280 + k9 ∧ wd_at w266 (ga4 k9) (.inl (cy 2, 72, .inl (uf k9))) ∧ tg235 (ga4 k9) = 300 + k9 := fun k9 hi9 => ⟨(fm264 k9 hi9).1, wd_at.ad ew267 hq268 (fm264 k9 hi9).2.1, (fm264 k9 hi9).2.2.1, wd_at.ad ew267 hq268 (fm264 k9 hi9).2.2.2.1, (fm264 k9 hi9).2.2.2.2.1, wd_at.ad ew267 hq268 (fm264 k9 hi9).2.2.2.2.2.1, (fm264 k9 hi9).2.2.2.2.2.2.1, wd_at.ad ew267 hq268 (fm264 k9 hi9).2.2.2.2.2.2.2.1, (fm264 k9 hi9).2.2.2.2.2.2.2.2.1, wd_at.ad ew267 hq268 (fm264 k9 hi9).2.2.2.2.2.2.2.2.2.1, (fm264 k9 hi9).2.2.2.2.2.2.2.2.2.2.1, wd_at.ad ew267 hq268 (fm264 k9 hi9).2.2.2.2.2.2.2.2.2.2.2.1, (fm264 k9 hi9).2.2.2.2.2.2.2.2.2.2.2.2⟩
      have fn284 : ∀ k9, k9 < 12 → (aa k9) ≠ a6 ∧ (ga0 k9) ≠ a6 ∧ (ga1 k9) ≠ a6 ∧ (ga2 k9) ≠ a6 ∧ (ga3 k9) ≠ a6 ∧ (ga4 k9) ≠ a6 := fun k9 hi9 => ⟨wd_nL hq268 (fm264 k9 hi9).2.1, wd_nL hq268 (fm264 k9 hi9).2.2.2.1, wd_nL hq268 (fm264 k9 hi9).2.2.2.2.2.1, wd_nL hq268 (fm264 k9 hi9).2.2.2.2.2.2.2.1, wd_nL hq268 (fm264 k9 hi9).2.2.2.2.2.2.2.2.2.1, wd_nL hq268 (fm264 k9 hi9).2.2.2.2.2.2.2.2.2.2.2.1⟩
      have kp285 := kp265.add ew267 hq268
      obtain ⟨tg286, et287⟩ : ∃ f : Nat → Nat, f = va_up tg235 a6 (11) := ⟨_, rfl⟩
      have t288 := tgX et287 (wd_nL hq268 k252) t237
      have t289 := tgX et287 (wd_nL hq268 k253) t238
      have t290 := tgX et287 (wd_nL hq268 k254) t239
      have t291 := tgX et287 (wd_nL hq268 k255) t240
      have t292 := tgX et287 (wd_nL hq268 k256) t241
      have t293 := tgX et287 (wd_nL hq268 k257) t242
      have t294 := tgX et287 (wd_nL hq268 k258) t243
      have t295 := tgX et287 (wd_nL hq268 k259) t244
      have t296 := tgX et287 (wd_nL hq268 k260) t245
      have t297 := tgX et287 (wd_nL hq268 k261) t246
      have t298 := tgX et287 (wd_nL hq268 k262) (tgN et236)
      have fm299 : ∀ i9, i9 < 12 → tf i9 = some (tn i9) ∧ wd_at w266 (tn i9) (.inr (8, [.int (co i9), .int (ra i9), .int (se i9), .ref (ag i9)])) ∧ tg286 (tn i9) = 100 + i9 := fun i9 hi9 => ⟨(fm281 i9 hi9).1, (fm281 i9 hi9).2.1, tgX et287 (fn282 i9 hi9) (fm281 i9 hi9).2.2⟩
      have fm300 : ∀ k9, k9 < 12 → (aOK (cf k9) (nf k9) ∧ ru k9 ≤ 12) ∧ wd_at w266 (aa k9) (.inr (1, [.ref (ga0 k9), .ref (ga1 k9), .ref (ga2 k9), .ref (ga3 k9), .ref (ga4 k9), .int (nI (ru k9))])) ∧ tg286 (aa k9) = 200 + k9 ∧ wd_at w266 (ga0 k9) (.inl (cy 2, 12, .inl (df k9))) ∧ tg286 (ga0 k9) = 220 + k9 ∧ wd_at w266 (ga1 k9) (.inl (cy 2, 12, .inl (cf k9))) ∧ tg286 (ga1 k9) = 240 + k9 ∧ wd_at w266 (ga2 k9) (.inl (cy 2, 72, .inl (nf k9))) ∧ tg286 (ga2 k9) = 260 + k9 ∧ wd_at w266 (ga3 k9) (.inl (cy 1, 72, .inl (sf k9))) ∧ tg286 (ga3 k9) = 280 + k9 ∧ wd_at w266 (ga4 k9) (.inl (cy 2, 72, .inl (uf k9))) ∧ tg286 (ga4 k9) = 300 + k9 := fun k9 hi9 => ⟨(fm283 k9 hi9).1, (fm283 k9 hi9).2.1, tgX et287 ((fn284 k9 hi9).1) (fm283 k9 hi9).2.2.1, (fm283 k9 hi9).2.2.2.1, tgX et287 ((fn284 k9 hi9).2.1) (fm283 k9 hi9).2.2.2.2.1, (fm283 k9 hi9).2.2.2.2.2.1, tgX et287 ((fn284 k9 hi9).2.2.1) (fm283 k9 hi9).2.2.2.2.2.2.1, (fm283 k9 hi9).2.2.2.2.2.2.2.1, tgX et287 ((fn284 k9 hi9).2.2.2.1) (fm283 k9 hi9).2.2.2.2.2.2.2.2.1, (fm283 k9 hi9).2.2.2.2.2.2.2.2.2.1, tgX et287 ((fn284 k9 hi9).2.2.2.2.1) (fm283 k9 hi9).2.2.2.2.2.2.2.2.2.2.1, (fm283 k9 hi9).2.2.2.2.2.2.2.2.2.2.2.1, tgX et287 ((fn284 k9 hi9).2.2.2.2.2) (fm283 k9 hi9).2.2.2.2.2.2.2.2.2.2.2.2⟩
      have hext301 := tgE et287 (kp265.out hq268) hext249
      refine lv_dup hx hb dX10_init_92 rfl ?_
      refine x_callIN (ret := none) (host := RX10) (n := 0) (As := []) (rest := [.ref a6, .ref x]) F hP hD hS (i_tape l D cy sk sv w266 tg286 a6 k280 (fun b => b = a6) rfl (tgN et287)) gX10_init_X7_init_n49 rfl (by decide +kernel) (List.mem_cons_of_mem _ (List.mem_append_left _ (List.mem_append_left _ (List.mem_append_left _ (List.mem_append_left _ (List.mem_append_left _ (List.mem_append_left _ (List.mem_append_left _ (List.mem_append_left _ (List.mem_of_getElem? (i := 21) rfl)))))))))) (List.mem_cons_of_mem _ (List.mem_append_left _ (List.mem_append_left _ (List.mem_append_left _ (List.mem_append_left _ (List.mem_append_left _ (List.mem_append_left _ (List.mem_append_left _ (List.mem_append_right _ (List.mem_append_right _ (List.mem_append_left _ (List.mem_of_getElem? (i := 22) rfl)))))))))))) rfl (by decide +kernel) ⟨(Nat.le_of_ble_eq_true rfl), (Nat.le_of_ble_eq_true rfl)⟩ rfl hl.1 (Nat.le_of_ble_eq_true rfl) dX10_init_93 rfl ⟨(Nat.le_of_ble_eq_true rfl), (Nat.le_of_ble_eq_true rfl)⟩ (fun v303 w304 hp302 H locs hP hD hS => ?_)
      obtain ⟨rfl, kq306, tg305, tb, hag307, k308, k309, t310⟩ := hp302
      have k311 := kq306.2 _ _ k269 (wd_nL hq268 k252)
      have k312 := kq306.2 _ _ k270 (wd_nL hq268 k253)
      have k313 := kq306.2 _ _ k271 (wd_nL hq268 k254)
      have k314 := kq306.2 _ _ k272 (wd_nL hq268 k255)
      have k315 := kq306.2 _ _ k273 (wd_nL hq268 k256)
      have k316 := kq306.2 _ _ k274 (wd_nL hq268 k257)
      have k317 := kq306.2 _ _ k275 (wd_nL hq268 k258)
      have k318 := kq306.2 _ _ k276 (wd_nL hq268 k259)
      have k319 := kq306.2 _ _ k277 (wd_nL hq268 k260)
      have k320 := kq306.2 _ _ k278 (wd_nL hq268 k261)
      have k321 := kq306.2 _ _ k279 (wd_nL hq268 k262)
      have fm322 : ∀ i9, i9 < 12 → tf i9 = some (tn i9) ∧ wd_at w304 (tn i9) (.inr (8, [.int (co i9), .int (ra i9), .int (se i9), .ref (ag i9)])) ∧ tg286 (tn i9) = 100 + i9 := fun i9 hi9 => ⟨(fm299 i9 hi9).1, kq306.2 _ _ (fm299 i9 hi9).2.1 (fn282 i9 hi9), (fm299 i9 hi9).2.2⟩
      have fm323 : ∀ k9, k9 < 12 → (aOK (cf k9) (nf k9) ∧ ru k9 ≤ 12) ∧ wd_at w304 (aa k9) (.inr (1, [.ref (ga0 k9), .ref (ga1 k9), .ref (ga2 k9), .ref (ga3 k9), .ref (ga4 k9), .int (nI (ru k9))])) ∧ tg286 (aa k9) = 200 + k9 ∧ wd_at w304 (ga0 k9) (.inl (cy 2, 12, .inl (df k9))) ∧ tg286 (ga0 k9) = 220 + k9 ∧ wd_at w304 (ga1 k9) (.inl (cy 2, 12, .inl (cf k9))) ∧ tg286 (ga1 k9) = 240 + k9 ∧ wd_at w304 (ga2 k9) (.inl (cy 2, 72, .inl (nf k9))) ∧ tg286 (ga2 k9) = 260 + k9 ∧ wd_at w304 (ga3 k9) (.inl (cy 1, 72, .inl (sf k9))) ∧ tg286 (ga3 k9) = 280 + k9 ∧ wd_at w304 (ga4 k9) (.inl (cy 2, 72, .inl (uf k9))) ∧ tg286 (ga4 k9) = 300 + k9 := fun k9 hi9 => ⟨(fm300 k9 hi9).1, kq306.2 _ _ (fm300 k9 hi9).2.1 ((fn284 k9 hi9).1), (fm300 k9 hi9).2.2.1, kq306.2 _ _ (fm300 k9 hi9).2.2.2.1 ((fn284 k9 hi9).2.1), (fm300 k9 hi9).2.2.2.2.1, kq306.2 _ _ (fm300 k9 hi9).2.2.2.2.2.1 ((fn284 k9 hi9).2.2.1), (fm300 k9 hi9).2.2.2.2.2.2.1, kq306.2 _ _ (fm300 k9 hi9).2.2.2.2.2.2.2.1 ((fn284 k9 hi9).2.2.2.1), (fm300 k9 hi9).2.2.2.2.2.2.2.2.1, kq306.2 _ _ (fm300 k9 hi9).2.2.2.2.2.2.2.2.2.1 ((fn284 k9 hi9).2.2.2.2.1), (fm300 k9 hi9).2.2.2.2.2.2.2.2.2.2.1, kq306.2 _ _ (fm300 k9 hi9).2.2.2.2.2.2.2.2.2.2.2.1 ((fn284 k9 hi9).2.2.2.2.2), (fm300 k9 hi9).2.2.2.2.2.2.2.2.2.2.2.2⟩
      have kp324 := kp285.tr kq306 (fun b9 hm q9 => (fun q9 => absurd (q9 ▸ hm) (kp265.out hq268)) q9)
      have t325 := (hag307 _ k269.1).trans t288
      have t326 := (hag307 _ k270.1).trans t289
      have t327 := (hag307 _ k271.1).trans t290
      have t328 := (hag307 _ k272.1).trans t291
      have t329 := (hag307 _ k273.1).trans t292
      have t330 := (hag307 _ k274.1).trans t293
      have t331 := (hag307 _ k275.1).trans t294
      have t332 := (hag307 _ k276.1).trans t295
      have t333 := (hag307 _ k277.1).trans t296
      have t334 := (hag307 _ k278.1).trans t297
      have t335 := (hag307 _ k279.1).trans t298
      have t336 := (hag307 _ k280.1).trans (tgN et287)
      have fm337 : ∀ i9, i9 < 12 → tf i9 = some (tn i9) ∧ wd_at w304 (tn i9) (.inr (8, [.int (co i9), .int (ra i9), .int (se i9), .ref (ag i9)])) ∧ tg305 (tn i9) = 100 + i9 := fun i9 hi9 => ⟨(fm322 i9 hi9).1, (fm322 i9 hi9).2.1, (hag307 _ ((fm299 i9 hi9).2.1).1).trans (fm322 i9 hi9).2.2⟩
      have fm338 : ∀ k9, k9 < 12 → (aOK (cf k9) (nf k9) ∧ ru k9 ≤ 12) ∧ wd_at w304 (aa k9) (.inr (1, [.ref (ga0 k9), .ref (ga1 k9), .ref (ga2 k9), .ref (ga3 k9), .ref (ga4 k9), .int (nI (ru k9))])) ∧ tg305 (aa k9) = 200 + k9 ∧ wd_at w304 (ga0 k9) (.inl (cy 2, 12, .inl (df k9))) ∧ tg305 (ga0 k9) = 220 + k9 ∧ wd_at w304 (ga1 k9) (.inl (cy 2, 12, .inl (cf k9))) ∧ tg305 (ga1 k9) = 240 + k9 ∧ wd_at w304 (ga2 k9) (.inl (cy 2, 72, .inl (nf k9))) ∧ tg305 (ga2 k9) = 260 + k9 ∧ wd_at w304 (ga3 k9) (.inl (cy 1, 72, .inl (sf k9))) ∧ tg305 (ga3 k9) = 280 + k9 ∧ wd_at w304 (ga4 k9) (.inl (cy 2, 72, .inl (uf k9))) ∧ tg305 (ga4 k9) = 300 + k9 := fun k9 hi9 => ⟨(fm323 k9 hi9).1, (fm323 k9 hi9).2.1, (hag307 _ ((fm300 k9 hi9).2.1).1).trans (fm323 k9 hi9).2.2.1, (fm323 k9 hi9).2.2.2.1, (hag307 _ ((fm300 k9 hi9).2.2.2.1).1).trans (fm323 k9 hi9).2.2.2.2.1, (fm323 k9 hi9).2.2.2.2.2.1, (hag307 _ ((fm300 k9 hi9).2.2.2.2.2.1).1).trans (fm323 k9 hi9).2.2.2.2.2.2.1, (fm323 k9 hi9).2.2.2.2.2.2.2.1, (hag307 _ ((fm300 k9 hi9).2.2.2.2.2.2.2.1).1).trans (fm323 k9 hi9).2.2.2.2.2.2.2.2.1, (fm323 k9 hi9).2.2.2.2.2.2.2.2.2.1, (hag307 _ ((fm300 k9 hi9).2.2.2.2.2.2.2.2.2.1).1).trans (fm323 k9 hi9).2.2.2.2.2.2.2.2.2.2.1, (fm323 k9 hi9).2.2.2.2.2.2.2.2.2.2.2.1, (hag307 _ ((fm300 k9 hi9).2.2.2.2.2.2.2.2.2.2.2.1).1).trans (fm323 k9 hi9).2.2.2.2.2.2.2.2.2.2.2.2⟩
      have hext339 := fun a ha => (hag307 a (kp285.1 a ha)).trans (hext301 a ha)
      refine W.eq (g2 := F0 m 96 ls [.ref a6, .ref x]) rfl (W.widen (k := 96) (n := 3981) (Nat.le_of_ble_eq_true rfl) (Nat.le_of_ble_eq_true rfl) ?_)
      refine y_putF (ref := "NoteHouse") F hP hD hS k311 rfl (fun _ h => List.mem_cons_of_mem _ (List.mem_append_left _ (List.mem_append_left _ (List.mem_append_left _ (List.mem_append_left _ (List.mem_append_left _ (List.mem_append_right _ (h)))))))) tyX10_ok nmX10 hnm 6 (Nat.le_of_ble_eq_true rfl) (List.mem_cons_of_mem _ (List.mem_append_left _ (List.mem_append_left _ (List.mem_append_left _ (List.mem_append_left _ (List.mem_append_left _ (List.mem_append_left _ (List.mem_append_left _ (List.mem_append_left _ (List.mem_of_getElem? (i := 22) rfl)))))))))) rfl rfl rfl rfl rfl (Nat.le_of_ble_eq_true rfl) dX10_init_96 (fun w340 ew341 H locs hP hD hS => ?_)
      have k342 : wd_at w340 x (.inr (10, [.ref a0, .ref a1, .ref a2, .ref a3, .ref a4, .ref a5, .ref a6, .null, .null, .null, .null, .null, .int 0, .int 0, .int 0, .int 0, .int 0])) := wd_at.ps ew341 k311
      have k343 := wd_at.pt ew341 k312 (tg_ne t326 t325 (by decide))
      have k344 := wd_at.pt ew341 k313 (tg_ne t327 t325 (by decide))
      have k345 := wd_at.pt ew341 k314 (tg_ne t328 t325 (by decide))
      have k346 := wd_at.pt ew341 k315 (tg_ne t329 t325 (by decide))
      have k347 := wd_at.pt ew341 k316 (tg_ne t330 t325 (by decide))
      have k348 := wd_at.pt ew341 k317 (tg_ne t331 t325 (by decide))
      have k349 := wd_at.pt ew341 k318 (tg_ne t332 t325 (by decide))
      have k350 := wd_at.pt ew341 k319 (tg_ne t333 t325 (by decide))
      have k351 := wd_at.pt ew341 k320 (tg_ne t334 t325 (by decide))
      have k352 := wd_at.pt ew341 k321 (tg_ne t335 t325 (by decide))
      have k353 := wd_at.pt ew341 k308 (tg_ne t336 t325 (by decide))
      have k354 := wd_at.pt ew341 k309 (tg_ne t310 t325 (by decide))
      have fm355 : ∀ i9, i9 < 12 → tf i9 = some (tn i9) ∧ wd_at w340 (tn i9) (.inr (8, [.int (co i9), .int (ra i9), .int (se i9), .ref (ag i9)])) ∧ tg305 (tn i9) = 100 + i9 := fun i9 hi9 => ⟨(fm337 i9 hi9).1, wd_at.pt ew341 (fm337 i9 hi9).2.1 (tg_ne (fm337 i9 hi9).2.2 t325 (tnA (show 0 < 100 by decide))), (fm337 i9 hi9).2.2⟩
      have fm356 : ∀ k9, k9 < 12 → (aOK (cf k9) (nf k9) ∧ ru k9 ≤ 12) ∧ wd_at w340 (aa k9) (.inr (1, [.ref (ga0 k9), .ref (ga1 k9), .ref (ga2 k9), .ref (ga3 k9), .ref (ga4 k9), .int (nI (ru k9))])) ∧ tg305 (aa k9) = 200 + k9 ∧ wd_at w340 (ga0 k9) (.inl (cy 2, 12, .inl (df k9))) ∧ tg305 (ga0 k9) = 220 + k9 ∧ wd_at w340 (ga1 k9) (.inl (cy 2, 12, .inl (cf k9))) ∧ tg305 (ga1 k9) = 240 + k9 ∧ wd_at w340 (ga2 k9) (.inl (cy 2, 72, .inl (nf k9))) ∧ tg305 (ga2 k9) = 260 + k9 ∧ wd_at w340 (ga3 k9) (.inl (cy 1, 72, .inl (sf k9))) ∧ tg305 (ga3 k9) = 280 + k9 ∧ wd_at w340 (ga4 k9) (.inl (cy 2, 72, .inl (uf k9))) ∧ tg305 (ga4 k9) = 300 + k9 := fun k9 hi9 => ⟨(fm338 k9 hi9).1, wd_at.pt ew341 (fm338 k9 hi9).2.1 (tg_ne (fm338 k9 hi9).2.2.1 t325 (tnA (show 0 < 200 by decide))), (fm338 k9 hi9).2.2.1, wd_at.pt ew341 (fm338 k9 hi9).2.2.2.1 (tg_ne (fm338 k9 hi9).2.2.2.2.1 t325 (tnA (show 0 < 220 by decide))), (fm338 k9 hi9).2.2.2.2.1, wd_at.pt ew341 (fm338 k9 hi9).2.2.2.2.2.1 (tg_ne (fm338 k9 hi9).2.2.2.2.2.2.1 t325 (tnA (show 0 < 240 by decide))), (fm338 k9 hi9).2.2.2.2.2.2.1, wd_at.pt ew341 (fm338 k9 hi9).2.2.2.2.2.2.2.1 (tg_ne (fm338 k9 hi9).2.2.2.2.2.2.2.2.1 t325 (tnA (show 0 < 260 by decide))), (fm338 k9 hi9).2.2.2.2.2.2.2.2.1, wd_at.pt ew341 (fm338 k9 hi9).2.2.2.2.2.2.2.2.2.1 (tg_ne (fm338 k9 hi9).2.2.2.2.2.2.2.2.2.2.1 t325 (tnA (show 0 < 280 by decide))), (fm338 k9 hi9).2.2.2.2.2.2.2.2.2.2.1, wd_at.pt ew341 (fm338 k9 hi9).2.2.2.2.2.2.2.2.2.2.2.1 (tg_ne (fm338 k9 hi9).2.2.2.2.2.2.2.2.2.2.2.2 t325 (tnA (show 0 < 300 by decide))), (fm338 k9 hi9).2.2.2.2.2.2.2.2.2.2.2.2⟩
      have kp357 := kp324.put ew341 sy
      refine lv_aload_n hx hb dX10_init_99 rfl (lv_at hl 0 rfl) ?_
      refine y_new (fs := [.null, .null, .null, .null, .null, .null, .null, .null, .int 0, .int 0]) F hP hD hS (ci := 4) rfl (fun _ h => List.mem_cons_of_mem _ (List.mem_append_left _ (List.mem_append_left _ (List.mem_append_right _ (h))))) tyX4_ok (List.mem_cons_of_mem _ (List.mem_append_left _ (List.mem_append_left _ (List.mem_append_left _ (List.mem_append_left _ (List.mem_append_left _ (List.mem_append_left _ (List.mem_append_left _ (List.mem_append_left _ (List.mem_of_getElem? (i := 23) rfl)))))))))) (List.mem_cons_of_mem _ (List.mem_append_left _ (List.mem_append_left _ (List.mem_append_left _ (List.mem_append_left _ (List.mem_append_left _ (List.mem_append_left _ (List.mem_append_left _ (List.mem_append_right _ (List.mem_append_left _ (List.mem_of_getElem? (i := 0) rfl))))))))))) (List.mem_cons_of_mem _ (List.mem_append_left _ (List.mem_append_left _ (List.mem_append_left _ (List.mem_append_left _ (List.mem_append_left _ (List.mem_append_left _ (List.mem_append_left _ (List.mem_append_right _ (List.mem_append_left _ (List.mem_of_getElem? (i := 1) rfl))))))))))) df_4 (Nat.le_of_ble_eq_true rfl) (Nat.le_of_ble_eq_true rfl) dX10_init_100 (fun a7 w358 ew359 hq360 H hP hD hS => ?_)
      refine W.widen (k := 97) (n := 3991) (Nat.le_of_ble_eq_true rfl) (Nat.le_of_ble_eq_true rfl) ?_
      have k361 := wd_at.ad ew359 hq360 k342
      have k362 := wd_at.ad ew359 hq360 k343
      have k363 := wd_at.ad ew359 hq360 k344
      have k364 := wd_at.ad ew359 hq360 k345
      have k365 := wd_at.ad ew359 hq360 k346
      have k366 := wd_at.ad ew359 hq360 k347
      have k367 := wd_at.ad ew359 hq360 k348
      have k368 := wd_at.ad ew359 hq360 k349
      have k369 := wd_at.ad ew359 hq360 k350
      have k370 := wd_at.ad ew359 hq360 k351
      have k371 := wd_at.ad ew359 hq360 k352
      have k372 := wd_at.ad ew359 hq360 k353
      have k373 := wd_at.ad ew359 hq360 k354
      have k374 : wd_at w358 a7 (.inr (4, [.null, .null, .null, .null, .null, .null, .null, .null, .int 0, .int 0])) := wd_at.nw ew359
      have fm375 : ∀ i9, i9 < 12 → tf i9 = some (tn i9) ∧ wd_at w358 (tn i9) (.inr (8, [.int (co i9), .int (ra i9), .int (se i9), .ref (ag i9)])) ∧ tg305 (tn i9) = 100 + i9 := fun i9 hi9 => ⟨(fm355 i9 hi9).1, wd_at.ad ew359 hq360 (fm355 i9 hi9).2.1, (fm355 i9 hi9).2.2⟩
      have fn376 : ∀ i9, i9 < 12 → (tn i9) ≠ a7 := fun i9 hi9 => wd_nL hq360 (fm355 i9 hi9).2.1
      have fm377 : ∀ k9, k9 < 12 → (aOK (cf k9) (nf k9) ∧ ru k9 ≤ 12) ∧ wd_at w358 (aa k9) (.inr (1, [.ref (ga0 k9), .ref (ga1 k9), .ref (ga2 k9), .ref (ga3 k9), .ref (ga4 k9), .int (nI (ru k9))])) ∧ tg305 (aa k9) = 200 + k9 ∧ wd_at w358 (ga0 k9) (.inl (cy 2, 12, .inl (df k9))) ∧ tg305 (ga0 k9) = 220 + k9 ∧ wd_at w358 (ga1 k9) (.inl (cy 2, 12, .inl (cf k9))) ∧ tg305 (ga1 k9) = 240 + k9 ∧ wd_at w358 (ga2 k9) (.inl (cy 2, 72, .inl (nf k9))) ∧ tg305 (ga2 k9) = 260 + k9 ∧ wd_at w358 (ga3 k9) (.inl (cy 1, 72, .inl (sf k9))) ∧ tg305 (ga3 k9) = 280 + k9 ∧ wd_at w358 (ga4 k9) (.inl (cy 2, 72, .inl (uf k9))) ∧ tg305 (ga4 k9) = 300 + k9 := fun k9 hi9 => ⟨(fm356 k9 hi9).1, wd_at.ad ew359 hq360 (fm356 k9 hi9).2.1, (fm356 k9 hi9).2.2.1, wd_at.ad ew359 hq360 (fm356 k9 hi9).2.2.2.1, (fm356 k9 hi9).2.2.2.2.1, wd_at.ad ew359 hq360 (fm356 k9 hi9).2.2.2.2.2.1, (fm356 k9 hi9).2.2.2.2.2.2.1, wd_at.ad ew359 hq360 (fm356 k9 hi9).2.2.2.2.2.2.2.1, (fm356 k9 hi9).2.2.2.2.2.2.2.2.1, wd_at.ad ew359 hq360 (fm356 k9 hi9).2.2.2.2.2.2.2.2.2.1, (fm356 k9 hi9).2.2.2.2.2.2.2.2.2.2.1, wd_at.ad ew359 hq360 (fm356 k9 hi9).2.2.2.2.2.2.2.2.2.2.2.1, (fm356 k9 hi9).2.2.2.2.2.2.2.2.2.2.2.2⟩
      have fn378 : ∀ k9, k9 < 12 → (aa k9) ≠ a7 ∧ (ga0 k9) ≠ a7 ∧ (ga1 k9) ≠ a7 ∧ (ga2 k9) ≠ a7 ∧ (ga3 k9) ≠ a7 ∧ (ga4 k9) ≠ a7 := fun k9 hi9 => ⟨wd_nL hq360 (fm356 k9 hi9).2.1, wd_nL hq360 (fm356 k9 hi9).2.2.2.1, wd_nL hq360 (fm356 k9 hi9).2.2.2.2.2.1, wd_nL hq360 (fm356 k9 hi9).2.2.2.2.2.2.2.1, wd_nL hq360 (fm356 k9 hi9).2.2.2.2.2.2.2.2.2.1, wd_nL hq360 (fm356 k9 hi9).2.2.2.2.2.2.2.2.2.2.2.1⟩
      have kp379 := kp357.add ew359 hq360
      obtain ⟨tg380, et381⟩ : ∃ f : Nat → Nat, f = va_up tg305 a7 (13) := ⟨_, rfl⟩
      have t382 := tgX et381 (wd_nL hq360 k342) t325
      have t383 := tgX et381 (wd_nL hq360 k343) t326
      have t384 := tgX et381 (wd_nL hq360 k344) t327
      have t385 := tgX et381 (wd_nL hq360 k345) t328
      have t386 := tgX et381 (wd_nL hq360 k346) t329
      have t387 := tgX et381 (wd_nL hq360 k347) t330
      have t388 := tgX et381 (wd_nL hq360 k348) t331
      have t389 := tgX et381 (wd_nL hq360 k349) t332
      have t390 := tgX et381 (wd_nL hq360 k350) t333
      have t391 := tgX et381 (wd_nL hq360 k351) t334
      have t392 := tgX et381 (wd_nL hq360 k352) t335
      have t393 := tgX et381 (wd_nL hq360 k353) t336
      have t394 := tgX et381 (wd_nL hq360 k354) t310
      have fm395 : ∀ i9, i9 < 12 → tf i9 = some (tn i9) ∧ wd_at w358 (tn i9) (.inr (8, [.int (co i9), .int (ra i9), .int (se i9), .ref (ag i9)])) ∧ tg380 (tn i9) = 100 + i9 := fun i9 hi9 => ⟨(fm375 i9 hi9).1, (fm375 i9 hi9).2.1, tgX et381 (fn376 i9 hi9) (fm375 i9 hi9).2.2⟩
      have fm396 : ∀ k9, k9 < 12 → (aOK (cf k9) (nf k9) ∧ ru k9 ≤ 12) ∧ wd_at w358 (aa k9) (.inr (1, [.ref (ga0 k9), .ref (ga1 k9), .ref (ga2 k9), .ref (ga3 k9), .ref (ga4 k9), .int (nI (ru k9))])) ∧ tg380 (aa k9) = 200 + k9 ∧ wd_at w358 (ga0 k9) (.inl (cy 2, 12, .inl (df k9))) ∧ tg380 (ga0 k9) = 220 + k9 ∧ wd_at w358 (ga1 k9) (.inl (cy 2, 12, .inl (cf k9))) ∧ tg380 (ga1 k9) = 240 + k9 ∧ wd_at w358 (ga2 k9) (.inl (cy 2, 72, .inl (nf k9))) ∧ tg380 (ga2 k9) = 260 + k9 ∧ wd_at w358 (ga3 k9) (.inl (cy 1, 72, .inl (sf k9))) ∧ tg380 (ga3 k9) = 280 + k9 ∧ wd_at w358 (ga4 k9) (.inl (cy 2, 72, .inl (uf k9))) ∧ tg380 (ga4 k9) = 300 + k9 := fun k9 hi9 => ⟨(fm377 k9 hi9).1, (fm377 k9 hi9).2.1, tgX et381 ((fn378 k9 hi9).1) (fm377 k9 hi9).2.2.1, (fm377 k9 hi9).2.2.2.1, tgX et381 ((fn378 k9 hi9).2.1) (fm377 k9 hi9).2.2.2.2.1, (fm377 k9 hi9).2.2.2.2.2.1, tgX et381 ((fn378 k9 hi9).2.2.1) (fm377 k9 hi9).2.2.2.2.2.2.1, (fm377 k9 hi9).2.2.2.2.2.2.2.1, tgX et381 ((fn378 k9 hi9).2.2.2.1) (fm377 k9 hi9).2.2.2.2.2.2.2.2.1, (fm377 k9 hi9).2.2.2.2.2.2.2.2.2.1, tgX et381 ((fn378 k9 hi9).2.2.2.2.1) (fm377 k9 hi9).2.2.2.2.2.2.2.2.2.2.1, (fm377 k9 hi9).2.2.2.2.2.2.2.2.2.2.2.1, tgX et381 ((fn378 k9 hi9).2.2.2.2.2) (fm377 k9 hi9).2.2.2.2.2.2.2.2.2.2.2.2⟩
      have hext397 := tgE et381 (kp357.out hq360) hext339
      refine lv_dup hx hb dX10_init_103 rfl ?_
      refine x_callI (ret := none) (n := 0) (As := []) (rest := [.ref a7, .ref x]) F hP hD hS (i_sett l D cy sk sv w358 tg380 a7 k374 (fun b => b = a7) rfl (tgN et381)) gX10_init_X4_init rfl (List.mem_cons_of_mem _ (List.mem_append_left _ (List.mem_append_left _ (List.mem_append_left _ (List.mem_append_left _ (List.mem_append_left _ (List.mem_append_left _ (List.mem_append_left _ (List.mem_append_right _ (List.mem_append_left _ (List.mem_of_getElem? (i := 1) rfl))))))))))) (List.mem_cons_of_mem _ (List.mem_append_left _ (List.mem_append_left _ (List.mem_append_left _ (List.mem_append_left _ (List.mem_append_left _ (List.mem_append_left _ (List.mem_append_left _ (List.mem_append_right _ (List.mem_append_right _ (List.mem_append_right _ (List.mem_append_left _ (List.mem_of_getElem? (i := 5) rfl))))))))))))) (List.mem_cons_of_mem _ (List.mem_append_left _ (List.mem_append_left _ (List.mem_append_left _ (List.mem_append_left _ (List.mem_append_left _ (List.mem_append_left _ (List.mem_append_left _ (List.mem_append_right _ (List.mem_append_right _ (List.mem_append_right _ (List.mem_append_left _ (List.mem_of_getElem? (i := 6) rfl))))))))))))) rfl (by decide +kernel) ⟨(Nat.le_of_ble_eq_true rfl), (Nat.le_of_ble_eq_true rfl)⟩ rfl hl.1 (Nat.le_of_ble_eq_true rfl) dX10_init_104 rfl ⟨(Nat.le_of_ble_eq_true rfl), (Nat.le_of_ble_eq_true rfl)⟩ (fun v399 w400 hp398 H locs hP hD hS => ?_)
      obtain ⟨rfl, kq402, tg401, l0, l1, l2, l3, l4, l5, l6, l7, e0, hag403, k404, k405, k406, k407, k408, k409, k410, k411, k412, t413, t414, t415, t416, t417, t418, t419, t420⟩ := hp398
      have k421 := kq402.2 _ _ k361 (wd_nL hq360 k342)
      have k422 := kq402.2 _ _ k362 (wd_nL hq360 k343)
      have k423 := kq402.2 _ _ k363 (wd_nL hq360 k344)
      have k424 := kq402.2 _ _ k364 (wd_nL hq360 k345)
      have k425 := kq402.2 _ _ k365 (wd_nL hq360 k346)
      have k426 := kq402.2 _ _ k366 (wd_nL hq360 k347)
      have k427 := kq402.2 _ _ k367 (wd_nL hq360 k348)
      have k428 := kq402.2 _ _ k368 (wd_nL hq360 k349)
      have k429 := kq402.2 _ _ k369 (wd_nL hq360 k350)
      have k430 := kq402.2 _ _ k370 (wd_nL hq360 k351)
      have k431 := kq402.2 _ _ k371 (wd_nL hq360 k352)
      have k432 := kq402.2 _ _ k372 (wd_nL hq360 k353)
      have k433 := kq402.2 _ _ k373 (wd_nL hq360 k354)
      have fm434 : ∀ i9, i9 < 12 → tf i9 = some (tn i9) ∧ wd_at w400 (tn i9) (.inr (8, [.int (co i9), .int (ra i9), .int (se i9), .ref (ag i9)])) ∧ tg380 (tn i9) = 100 + i9 := fun i9 hi9 => ⟨(fm395 i9 hi9).1, kq402.2 _ _ (fm395 i9 hi9).2.1 (fn376 i9 hi9), (fm395 i9 hi9).2.2⟩
      have fm435 : ∀ k9, k9 < 12 → (aOK (cf k9) (nf k9) ∧ ru k9 ≤ 12) ∧ wd_at w400 (aa k9) (.inr (1, [.ref (ga0 k9), .ref (ga1 k9), .ref (ga2 k9), .ref (ga3 k9), .ref (ga4 k9), .int (nI (ru k9))])) ∧ tg380 (aa k9) = 200 + k9 ∧ wd_at w400 (ga0 k9) (.inl (cy 2, 12, .inl (df k9))) ∧ tg380 (ga0 k9) = 220 + k9 ∧ wd_at w400 (ga1 k9) (.inl (cy 2, 12, .inl (cf k9))) ∧ tg380 (ga1 k9) = 240 + k9 ∧ wd_at w400 (ga2 k9) (.inl (cy 2, 72, .inl (nf k9))) ∧ tg380 (ga2 k9) = 260 + k9 ∧ wd_at w400 (ga3 k9) (.inl (cy 1, 72, .inl (sf k9))) ∧ tg380 (ga3 k9) = 280 + k9 ∧ wd_at w400 (ga4 k9) (.inl (cy 2, 72, .inl (uf k9))) ∧ tg380 (ga4 k9) = 300 + k9 := fun k9 hi9 => ⟨(fm396 k9 hi9).1, kq402.2 _ _ (fm396 k9 hi9).2.1 ((fn378 k9 hi9).1), (fm396 k9 hi9).2.2.1, kq402.2 _ _ (fm396 k9 hi9).2.2.2.1 ((fn378 k9 hi9).2.1), (fm396 k9 hi9).2.2.2.2.1, kq402.2 _ _ (fm396 k9 hi9).2.2.2.2.2.1 ((fn378 k9 hi9).2.2.1), (fm396 k9 hi9).2.2.2.2.2.2.1, kq402.2 _ _ (fm396 k9 hi9).2.2.2.2.2.2.2.1 ((fn378 k9 hi9).2.2.2.1), (fm396 k9 hi9).2.2.2.2.2.2.2.2.1, kq402.2 _ _ (fm396 k9 hi9).2.2.2.2.2.2.2.2.2.1 ((fn378 k9 hi9).2.2.2.2.1), (fm396 k9 hi9).2.2.2.2.2.2.2.2.2.2.1, kq402.2 _ _ (fm396 k9 hi9).2.2.2.2.2.2.2.2.2.2.2.1 ((fn378 k9 hi9).2.2.2.2.2), (fm396 k9 hi9).2.2.2.2.2.2.2.2.2.2.2.2⟩
      have kp436 := kp379.tr kq402 (fun b9 hm q9 => (fun q9 => absurd (q9 ▸ hm) (kp357.out hq360)) q9)
      have t437 := (hag403 _ k361.1).trans t382
      have t438 := (hag403 _ k362.1).trans t383
      have t439 := (hag403 _ k363.1).trans t384
      have t440 := (hag403 _ k364.1).trans t385
      have t441 := (hag403 _ k365.1).trans t386
      have t442 := (hag403 _ k366.1).trans t387
      have t443 := (hag403 _ k367.1).trans t388
      have t444 := (hag403 _ k368.1).trans t389
      have t445 := (hag403 _ k369.1).trans t390
      have t446 := (hag403 _ k370.1).trans t391
      have t447 := (hag403 _ k371.1).trans t392
      have t448 := (hag403 _ k372.1).trans t393
      have t449 := (hag403 _ k373.1).trans t394
      have t450 := (hag403 _ k374.1).trans (tgN et381)
      have fm451 : ∀ i9, i9 < 12 → tf i9 = some (tn i9) ∧ wd_at w400 (tn i9) (.inr (8, [.int (co i9), .int (ra i9), .int (se i9), .ref (ag i9)])) ∧ tg401 (tn i9) = 100 + i9 := fun i9 hi9 => ⟨(fm434 i9 hi9).1, (fm434 i9 hi9).2.1, (hag403 _ ((fm395 i9 hi9).2.1).1).trans (fm434 i9 hi9).2.2⟩
      have fm452 : ∀ k9, k9 < 12 → (aOK (cf k9) (nf k9) ∧ ru k9 ≤ 12) ∧ wd_at w400 (aa k9) (.inr (1, [.ref (ga0 k9), .ref (ga1 k9), .ref (ga2 k9), .ref (ga3 k9), .ref (ga4 k9), .int (nI (ru k9))])) ∧ tg401 (aa k9) = 200 + k9 ∧ wd_at w400 (ga0 k9) (.inl (cy 2, 12, .inl (df k9))) ∧ tg401 (ga0 k9) = 220 + k9 ∧ wd_at w400 (ga1 k9) (.inl (cy 2, 12, .inl (cf k9))) ∧ tg401 (ga1 k9) = 240 + k9 ∧ wd_at w400 (ga2 k9) (.inl (cy 2, 72, .inl (nf k9))) ∧ tg401 (ga2 k9) = 260 + k9 ∧ wd_at w400 (ga3 k9) (.inl (cy 1, 72, .inl (sf k9))) ∧ tg401 (ga3 k9) = 280 + k9 ∧ wd_at w400 (ga4 k9) (.inl (cy 2, 72, .inl (uf k9))) ∧ tg401 (ga4 k9) = 300 + k9 := fun k9 hi9 => ⟨(fm435 k9 hi9).1, (fm435 k9 hi9).2.1, (hag403 _ ((fm396 k9 hi9).2.1).1).trans (fm435 k9 hi9).2.2.1, (fm435 k9 hi9).2.2.2.1, (hag403 _ ((fm396 k9 hi9).2.2.2.1).1).trans (fm435 k9 hi9).2.2.2.2.1, (fm435 k9 hi9).2.2.2.2.2.1, (hag403 _ ((fm396 k9 hi9).2.2.2.2.2.1).1).trans (fm435 k9 hi9).2.2.2.2.2.2.1, (fm435 k9 hi9).2.2.2.2.2.2.2.1, (hag403 _ ((fm396 k9 hi9).2.2.2.2.2.2.2.1).1).trans (fm435 k9 hi9).2.2.2.2.2.2.2.2.1, (fm435 k9 hi9).2.2.2.2.2.2.2.2.2.1, (hag403 _ ((fm396 k9 hi9).2.2.2.2.2.2.2.2.2.1).1).trans (fm435 k9 hi9).2.2.2.2.2.2.2.2.2.2.1, (fm435 k9 hi9).2.2.2.2.2.2.2.2.2.2.2.1, (hag403 _ ((fm396 k9 hi9).2.2.2.2.2.2.2.2.2.2.2.1).1).trans (fm435 k9 hi9).2.2.2.2.2.2.2.2.2.2.2.2⟩
      have hext453 := fun a ha => (hag403 a (kp379.1 a ha)).trans (hext397 a ha)
      refine W.eq (g2 := F0 m 107 ls [.ref a7, .ref x]) rfl (W.widen (k := 105) (n := 4463) (Nat.le_of_ble_eq_true rfl) (Nat.le_of_ble_eq_true rfl) ?_)
      refine y_putF (ref := "NoteHouse") F hP hD hS k421 rfl (fun _ h => List.mem_cons_of_mem _ (List.mem_append_left _ (List.mem_append_left _ (List.mem_append_left _ (List.mem_append_left _ (List.mem_append_left _ (List.mem_append_right _ (h)))))))) tyX10_ok nmX10 hnm 7 (Nat.le_of_ble_eq_true rfl) (List.mem_cons_of_mem _ (List.mem_append_left _ (List.mem_append_left _ (List.mem_append_left _ (List.mem_append_left _ (List.mem_append_left _ (List.mem_append_left _ (List.mem_append_left _ (List.mem_append_right _ (List.mem_append_left _ (List.mem_of_getElem? (i := 2) rfl))))))))))) rfl rfl rfl rfl rfl (Nat.le_of_ble_eq_true rfl) dX10_init_107 (fun w454 ew455 H locs hP hD hS => ?_)
      have k456 : wd_at w454 x (.inr (10, [.ref a0, .ref a1, .ref a2, .ref a3, .ref a4, .ref a5, .ref a6, .ref a7, .null, .null, .null, .null, .int 0, .int 0, .int 0, .int 0, .int 0])) := wd_at.ps ew455 k421
      have k457 := wd_at.pt ew455 k422 (tg_ne t438 t437 (by decide))
      have k458 := wd_at.pt ew455 k423 (tg_ne t439 t437 (by decide))
      have k459 := wd_at.pt ew455 k424 (tg_ne t440 t437 (by decide))
      have k460 := wd_at.pt ew455 k425 (tg_ne t441 t437 (by decide))
      have k461 := wd_at.pt ew455 k426 (tg_ne t442 t437 (by decide))
      have k462 := wd_at.pt ew455 k427 (tg_ne t443 t437 (by decide))
      have k463 := wd_at.pt ew455 k428 (tg_ne t444 t437 (by decide))
      have k464 := wd_at.pt ew455 k429 (tg_ne t445 t437 (by decide))
      have k465 := wd_at.pt ew455 k430 (tg_ne t446 t437 (by decide))
      have k466 := wd_at.pt ew455 k431 (tg_ne t447 t437 (by decide))
      have k467 := wd_at.pt ew455 k432 (tg_ne t448 t437 (by decide))
      have k468 := wd_at.pt ew455 k433 (tg_ne t449 t437 (by decide))
      have k469 := wd_at.pt ew455 k404 (tg_ne t450 t437 (by decide))
      have k470 := wd_at.pt ew455 k405 (tg_ne t413 t437 (by decide))
      have k471 := wd_at.pt ew455 k406 (tg_ne t414 t437 (by decide))
      have k472 := wd_at.pt ew455 k407 (tg_ne t415 t437 (by decide))
      have k473 := wd_at.pt ew455 k408 (tg_ne t416 t437 (by decide))
      have k474 := wd_at.pt ew455 k409 (tg_ne t417 t437 (by decide))
      have k475 := wd_at.pt ew455 k410 (tg_ne t418 t437 (by decide))
      have k476 := wd_at.pt ew455 k411 (tg_ne t419 t437 (by decide))
      have k477 := wd_at.pt ew455 k412 (tg_ne t420 t437 (by decide))
      have fm478 : ∀ i9, i9 < 12 → tf i9 = some (tn i9) ∧ wd_at w454 (tn i9) (.inr (8, [.int (co i9), .int (ra i9), .int (se i9), .ref (ag i9)])) ∧ tg401 (tn i9) = 100 + i9 := fun i9 hi9 => ⟨(fm451 i9 hi9).1, wd_at.pt ew455 (fm451 i9 hi9).2.1 (tg_ne (fm451 i9 hi9).2.2 t437 (tnA (show 0 < 100 by decide))), (fm451 i9 hi9).2.2⟩
      have fm479 : ∀ k9, k9 < 12 → (aOK (cf k9) (nf k9) ∧ ru k9 ≤ 12) ∧ wd_at w454 (aa k9) (.inr (1, [.ref (ga0 k9), .ref (ga1 k9), .ref (ga2 k9), .ref (ga3 k9), .ref (ga4 k9), .int (nI (ru k9))])) ∧ tg401 (aa k9) = 200 + k9 ∧ wd_at w454 (ga0 k9) (.inl (cy 2, 12, .inl (df k9))) ∧ tg401 (ga0 k9) = 220 + k9 ∧ wd_at w454 (ga1 k9) (.inl (cy 2, 12, .inl (cf k9))) ∧ tg401 (ga1 k9) = 240 + k9 ∧ wd_at w454 (ga2 k9) (.inl (cy 2, 72, .inl (nf k9))) ∧ tg401 (ga2 k9) = 260 + k9 ∧ wd_at w454 (ga3 k9) (.inl (cy 1, 72, .inl (sf k9))) ∧ tg401 (ga3 k9) = 280 + k9 ∧ wd_at w454 (ga4 k9) (.inl (cy 2, 72, .inl (uf k9))) ∧ tg401 (ga4 k9) = 300 + k9 := fun k9 hi9 => ⟨(fm452 k9 hi9).1, wd_at.pt ew455 (fm452 k9 hi9).2.1 (tg_ne (fm452 k9 hi9).2.2.1 t437 (tnA (show 0 < 200 by decide))), (fm452 k9 hi9).2.2.1, wd_at.pt ew455 (fm452 k9 hi9).2.2.2.1 (tg_ne (fm452 k9 hi9).2.2.2.2.1 t437 (tnA (show 0 < 220 by decide))), (fm452 k9 hi9).2.2.2.2.1, wd_at.pt ew455 (fm452 k9 hi9).2.2.2.2.2.1 (tg_ne (fm452 k9 hi9).2.2.2.2.2.2.1 t437 (tnA (show 0 < 240 by decide))), (fm452 k9 hi9).2.2.2.2.2.2.1, wd_at.pt ew455 (fm452 k9 hi9).2.2.2.2.2.2.2.1 (tg_ne (fm452 k9 hi9).2.2.2.2.2.2.2.2.1 t437 (tnA (show 0 < 260 by decide))), (fm452 k9 hi9).2.2.2.2.2.2.2.2.1, wd_at.pt ew455 (fm452 k9 hi9).2.2.2.2.2.2.2.2.2.1 (tg_ne (fm452 k9 hi9).2.2.2.2.2.2.2.2.2.2.1 t437 (tnA (show 0 < 280 by decide))), (fm452 k9 hi9).2.2.2.2.2.2.2.2.2.2.1, wd_at.pt ew455 (fm452 k9 hi9).2.2.2.2.2.2.2.2.2.2.2.1 (tg_ne (fm452 k9 hi9).2.2.2.2.2.2.2.2.2.2.2.2 t437 (tnA (show 0 < 300 by decide))), (fm452 k9 hi9).2.2.2.2.2.2.2.2.2.2.2.2⟩
      have kp480 := kp436.put ew455 sy
      refine lv_aload_n hx hb dX10_init_110 rfl (lv_at hl 0 rfl) ?_
      refine lv_bipush (v := 8) hx hb dX10_init_111 (by decide) ?_
      refine y_newI (N := 8) F hP hD hS (List.mem_cons_of_mem _ (List.mem_append_left _ (List.mem_append_left _ (List.mem_append_left _ (List.mem_append_left _ (List.mem_append_left _ (List.mem_append_left _ (List.mem_append_left _ (List.mem_append_right _ (List.mem_append_left _ (List.mem_of_getElem? (i := 3) rfl))))))))))) (by decide) (by decide) (by decide) (Nat.le_of_ble_eq_true rfl) (Nat.le_of_ble_eq_true rfl) dX10_init_113 (fun a8 w481 ew482 hq483 H hP hD hS => ?_)
      refine W.widen (k := 106) (n := 4471) (Nat.le_of_ble_eq_true rfl) (Nat.le_of_ble_eq_true rfl) ?_
      have k484 := wd_at.ad ew482 hq483 k456
      have k485 := wd_at.ad ew482 hq483 k457
      have k486 := wd_at.ad ew482 hq483 k458
      have k487 := wd_at.ad ew482 hq483 k459
      have k488 := wd_at.ad ew482 hq483 k460
      have k489 := wd_at.ad ew482 hq483 k461
      have k490 := wd_at.ad ew482 hq483 k462
      have k491 := wd_at.ad ew482 hq483 k463
      have k492 := wd_at.ad ew482 hq483 k464
      have k493 := wd_at.ad ew482 hq483 k465
      have k494 := wd_at.ad ew482 hq483 k466
      have k495 := wd_at.ad ew482 hq483 k467
      have k496 := wd_at.ad ew482 hq483 k468
      have k497 := wd_at.ad ew482 hq483 k469
      have k498 := wd_at.ad ew482 hq483 k470
      have k499 := wd_at.ad ew482 hq483 k471
      have k500 := wd_at.ad ew482 hq483 k472
      have k501 := wd_at.ad ew482 hq483 k473
      have k502 := wd_at.ad ew482 hq483 k474
      have k503 := wd_at.ad ew482 hq483 k475
      have k504 := wd_at.ad ew482 hq483 k476
      have k505 := wd_at.ad ew482 hq483 k477
      have k506 : wd_at w481 a8 (.inl (cy 2, 8, .inl (fun _ => 0))) := wd_at.nw ew482
      have fm507 : ∀ i9, i9 < 12 → tf i9 = some (tn i9) ∧ wd_at w481 (tn i9) (.inr (8, [.int (co i9), .int (ra i9), .int (se i9), .ref (ag i9)])) ∧ tg401 (tn i9) = 100 + i9 := fun i9 hi9 => ⟨(fm478 i9 hi9).1, wd_at.ad ew482 hq483 (fm478 i9 hi9).2.1, (fm478 i9 hi9).2.2⟩
      have fn508 : ∀ i9, i9 < 12 → (tn i9) ≠ a8 := fun i9 hi9 => wd_nL hq483 (fm478 i9 hi9).2.1
      have fm509 : ∀ k9, k9 < 12 → (aOK (cf k9) (nf k9) ∧ ru k9 ≤ 12) ∧ wd_at w481 (aa k9) (.inr (1, [.ref (ga0 k9), .ref (ga1 k9), .ref (ga2 k9), .ref (ga3 k9), .ref (ga4 k9), .int (nI (ru k9))])) ∧ tg401 (aa k9) = 200 + k9 ∧ wd_at w481 (ga0 k9) (.inl (cy 2, 12, .inl (df k9))) ∧ tg401 (ga0 k9) = 220 + k9 ∧ wd_at w481 (ga1 k9) (.inl (cy 2, 12, .inl (cf k9))) ∧ tg401 (ga1 k9) = 240 + k9 ∧ wd_at w481 (ga2 k9) (.inl (cy 2, 72, .inl (nf k9))) ∧ tg401 (ga2 k9) = 260 + k9 ∧ wd_at w481 (ga3 k9) (.inl (cy 1, 72, .inl (sf k9))) ∧ tg401 (ga3 k9) = 280 + k9 ∧ wd_at w481 (ga4 k9) (.inl (cy 2, 72, .inl (uf k9))) ∧ tg401 (ga4 k9) = 300 + k9 := fun k9 hi9 => ⟨(fm479 k9 hi9).1, wd_at.ad ew482 hq483 (fm479 k9 hi9).2.1, (fm479 k9 hi9).2.2.1, wd_at.ad ew482 hq483 (fm479 k9 hi9).2.2.2.1, (fm479 k9 hi9).2.2.2.2.1, wd_at.ad ew482 hq483 (fm479 k9 hi9).2.2.2.2.2.1, (fm479 k9 hi9).2.2.2.2.2.2.1, wd_at.ad ew482 hq483 (fm479 k9 hi9).2.2.2.2.2.2.2.1, (fm479 k9 hi9).2.2.2.2.2.2.2.2.1, wd_at.ad ew482 hq483 (fm479 k9 hi9).2.2.2.2.2.2.2.2.2.1, (fm479 k9 hi9).2.2.2.2.2.2.2.2.2.2.1, wd_at.ad ew482 hq483 (fm479 k9 hi9).2.2.2.2.2.2.2.2.2.2.2.1, (fm479 k9 hi9).2.2.2.2.2.2.2.2.2.2.2.2⟩
      have fn510 : ∀ k9, k9 < 12 → (aa k9) ≠ a8 ∧ (ga0 k9) ≠ a8 ∧ (ga1 k9) ≠ a8 ∧ (ga2 k9) ≠ a8 ∧ (ga3 k9) ≠ a8 ∧ (ga4 k9) ≠ a8 := fun k9 hi9 => ⟨wd_nL hq483 (fm479 k9 hi9).2.1, wd_nL hq483 (fm479 k9 hi9).2.2.2.1, wd_nL hq483 (fm479 k9 hi9).2.2.2.2.2.1, wd_nL hq483 (fm479 k9 hi9).2.2.2.2.2.2.2.1, wd_nL hq483 (fm479 k9 hi9).2.2.2.2.2.2.2.2.2.1, wd_nL hq483 (fm479 k9 hi9).2.2.2.2.2.2.2.2.2.2.2.1⟩
      have kp511 := kp480.add ew482 hq483
      obtain ⟨tg512, et513⟩ : ∃ f : Nat → Nat, f = va_up tg401 a8 (22) := ⟨_, rfl⟩
      have t514 := tgX et513 (wd_nL hq483 k456) t437
      have t515 := tgX et513 (wd_nL hq483 k457) t438
      have t516 := tgX et513 (wd_nL hq483 k458) t439
      have t517 := tgX et513 (wd_nL hq483 k459) t440
      have t518 := tgX et513 (wd_nL hq483 k460) t441
      have t519 := tgX et513 (wd_nL hq483 k461) t442
      have t520 := tgX et513 (wd_nL hq483 k462) t443
      have t521 := tgX et513 (wd_nL hq483 k463) t444
      have t522 := tgX et513 (wd_nL hq483 k464) t445
      have t523 := tgX et513 (wd_nL hq483 k465) t446
      have t524 := tgX et513 (wd_nL hq483 k466) t447
      have t525 := tgX et513 (wd_nL hq483 k467) t448
      have t526 := tgX et513 (wd_nL hq483 k468) t449
      have t527 := tgX et513 (wd_nL hq483 k469) t450
      have t528 := tgX et513 (wd_nL hq483 k470) t413
      have t529 := tgX et513 (wd_nL hq483 k471) t414
      have t530 := tgX et513 (wd_nL hq483 k472) t415
      have t531 := tgX et513 (wd_nL hq483 k473) t416
      have t532 := tgX et513 (wd_nL hq483 k474) t417
      have t533 := tgX et513 (wd_nL hq483 k475) t418
      have t534 := tgX et513 (wd_nL hq483 k476) t419
      have t535 := tgX et513 (wd_nL hq483 k477) t420
      have fm536 : ∀ i9, i9 < 12 → tf i9 = some (tn i9) ∧ wd_at w481 (tn i9) (.inr (8, [.int (co i9), .int (ra i9), .int (se i9), .ref (ag i9)])) ∧ tg512 (tn i9) = 100 + i9 := fun i9 hi9 => ⟨(fm507 i9 hi9).1, (fm507 i9 hi9).2.1, tgX et513 (fn508 i9 hi9) (fm507 i9 hi9).2.2⟩
      have fm537 : ∀ k9, k9 < 12 → (aOK (cf k9) (nf k9) ∧ ru k9 ≤ 12) ∧ wd_at w481 (aa k9) (.inr (1, [.ref (ga0 k9), .ref (ga1 k9), .ref (ga2 k9), .ref (ga3 k9), .ref (ga4 k9), .int (nI (ru k9))])) ∧ tg512 (aa k9) = 200 + k9 ∧ wd_at w481 (ga0 k9) (.inl (cy 2, 12, .inl (df k9))) ∧ tg512 (ga0 k9) = 220 + k9 ∧ wd_at w481 (ga1 k9) (.inl (cy 2, 12, .inl (cf k9))) ∧ tg512 (ga1 k9) = 240 + k9 ∧ wd_at w481 (ga2 k9) (.inl (cy 2, 72, .inl (nf k9))) ∧ tg512 (ga2 k9) = 260 + k9 ∧ wd_at w481 (ga3 k9) (.inl (cy 1, 72, .inl (sf k9))) ∧ tg512 (ga3 k9) = 280 + k9 ∧ wd_at w481 (ga4 k9) (.inl (cy 2, 72, .inl (uf k9))) ∧ tg512 (ga4 k9) = 300 + k9 := fun k9 hi9 => ⟨(fm509 k9 hi9).1, (fm509 k9 hi9).2.1, tgX et513 ((fn510 k9 hi9).1) (fm509 k9 hi9).2.2.1, (fm509 k9 hi9).2.2.2.1, tgX et513 ((fn510 k9 hi9).2.1) (fm509 k9 hi9).2.2.2.2.1, (fm509 k9 hi9).2.2.2.2.2.1, tgX et513 ((fn510 k9 hi9).2.2.1) (fm509 k9 hi9).2.2.2.2.2.2.1, (fm509 k9 hi9).2.2.2.2.2.2.2.1, tgX et513 ((fn510 k9 hi9).2.2.2.1) (fm509 k9 hi9).2.2.2.2.2.2.2.2.1, (fm509 k9 hi9).2.2.2.2.2.2.2.2.2.1, tgX et513 ((fn510 k9 hi9).2.2.2.2.1) (fm509 k9 hi9).2.2.2.2.2.2.2.2.2.2.1, (fm509 k9 hi9).2.2.2.2.2.2.2.2.2.2.2.1, tgX et513 ((fn510 k9 hi9).2.2.2.2.2) (fm509 k9 hi9).2.2.2.2.2.2.2.2.2.2.2.2⟩
      have hext538 := tgE et513 (kp480.out hq483) hext453
      refine y_putF (ref := "NoteHouse") F hP hD hS k484 rfl (fun _ h => List.mem_cons_of_mem _ (List.mem_append_left _ (List.mem_append_left _ (List.mem_append_left _ (List.mem_append_left _ (List.mem_append_left _ (List.mem_append_right _ (h)))))))) tyX10_ok nmX10 hnm 8 (Nat.le_of_ble_eq_true rfl) (List.mem_cons_of_mem _ (List.mem_append_left _ (List.mem_append_left _ (List.mem_append_left _ (List.mem_append_left _ (List.mem_append_left _ (List.mem_append_left _ (List.mem_append_left _ (List.mem_append_right _ (List.mem_append_left _ (List.mem_of_getElem? (i := 4) rfl))))))))))) rfl rfl rfl rfl rfl (Nat.le_of_ble_eq_true rfl) dX10_init_115 (fun w539 ew540 H locs hP hD hS => ?_)
      have k541 : wd_at w539 x (.inr (10, [.ref a0, .ref a1, .ref a2, .ref a3, .ref a4, .ref a5, .ref a6, .ref a7, .ref a8, .null, .null, .null, .int 0, .int 0, .int 0, .int 0, .int 0])) := wd_at.ps ew540 k484
      have k542 := wd_at.pt ew540 k485 (tg_ne t515 t514 (by decide))
      have k543 := wd_at.pt ew540 k486 (tg_ne t516 t514 (by decide))
      have k544 := wd_at.pt ew540 k487 (tg_ne t517 t514 (by decide))
      have k545 := wd_at.pt ew540 k488 (tg_ne t518 t514 (by decide))
      have k546 := wd_at.pt ew540 k489 (tg_ne t519 t514 (by decide))
      have k547 := wd_at.pt ew540 k490 (tg_ne t520 t514 (by decide))
      have k548 := wd_at.pt ew540 k491 (tg_ne t521 t514 (by decide))
      have k549 := wd_at.pt ew540 k492 (tg_ne t522 t514 (by decide))
      have k550 := wd_at.pt ew540 k493 (tg_ne t523 t514 (by decide))
      have k551 := wd_at.pt ew540 k494 (tg_ne t524 t514 (by decide))
      have k552 := wd_at.pt ew540 k495 (tg_ne t525 t514 (by decide))
      have k553 := wd_at.pt ew540 k496 (tg_ne t526 t514 (by decide))
      have k554 := wd_at.pt ew540 k497 (tg_ne t527 t514 (by decide))
      have k555 := wd_at.pt ew540 k498 (tg_ne t528 t514 (by decide))
      have k556 := wd_at.pt ew540 k499 (tg_ne t529 t514 (by decide))
      have k557 := wd_at.pt ew540 k500 (tg_ne t530 t514 (by decide))
      have k558 := wd_at.pt ew540 k501 (tg_ne t531 t514 (by decide))
      have k559 := wd_at.pt ew540 k502 (tg_ne t532 t514 (by decide))
      have k560 := wd_at.pt ew540 k503 (tg_ne t533 t514 (by decide))
      have k561 := wd_at.pt ew540 k504 (tg_ne t534 t514 (by decide))
      have k562 := wd_at.pt ew540 k505 (tg_ne t535 t514 (by decide))
      have k563 := wd_at.pt ew540 k506 (tg_ne (tgN et513) t514 (by decide))
      have fm564 : ∀ i9, i9 < 12 → tf i9 = some (tn i9) ∧ wd_at w539 (tn i9) (.inr (8, [.int (co i9), .int (ra i9), .int (se i9), .ref (ag i9)])) ∧ tg512 (tn i9) = 100 + i9 := fun i9 hi9 => ⟨(fm536 i9 hi9).1, wd_at.pt ew540 (fm536 i9 hi9).2.1 (tg_ne (fm536 i9 hi9).2.2 t514 (tnA (show 0 < 100 by decide))), (fm536 i9 hi9).2.2⟩
      have fm565 : ∀ k9, k9 < 12 → (aOK (cf k9) (nf k9) ∧ ru k9 ≤ 12) ∧ wd_at w539 (aa k9) (.inr (1, [.ref (ga0 k9), .ref (ga1 k9), .ref (ga2 k9), .ref (ga3 k9), .ref (ga4 k9), .int (nI (ru k9))])) ∧ tg512 (aa k9) = 200 + k9 ∧ wd_at w539 (ga0 k9) (.inl (cy 2, 12, .inl (df k9))) ∧ tg512 (ga0 k9) = 220 + k9 ∧ wd_at w539 (ga1 k9) (.inl (cy 2, 12, .inl (cf k9))) ∧ tg512 (ga1 k9) = 240 + k9 ∧ wd_at w539 (ga2 k9) (.inl (cy 2, 72, .inl (nf k9))) ∧ tg512 (ga2 k9) = 260 + k9 ∧ wd_at w539 (ga3 k9) (.inl (cy 1, 72, .inl (sf k9))) ∧ tg512 (ga3 k9) = 280 + k9 ∧ wd_at w539 (ga4 k9) (.inl (cy 2, 72, .inl (uf k9))) ∧ tg512 (ga4 k9) = 300 + k9 := fun k9 hi9 => ⟨(fm537 k9 hi9).1, wd_at.pt ew540 (fm537 k9 hi9).2.1 (tg_ne (fm537 k9 hi9).2.2.1 t514 (tnA (show 0 < 200 by decide))), (fm537 k9 hi9).2.2.1, wd_at.pt ew540 (fm537 k9 hi9).2.2.2.1 (tg_ne (fm537 k9 hi9).2.2.2.2.1 t514 (tnA (show 0 < 220 by decide))), (fm537 k9 hi9).2.2.2.2.1, wd_at.pt ew540 (fm537 k9 hi9).2.2.2.2.2.1 (tg_ne (fm537 k9 hi9).2.2.2.2.2.2.1 t514 (tnA (show 0 < 240 by decide))), (fm537 k9 hi9).2.2.2.2.2.2.1, wd_at.pt ew540 (fm537 k9 hi9).2.2.2.2.2.2.2.1 (tg_ne (fm537 k9 hi9).2.2.2.2.2.2.2.2.1 t514 (tnA (show 0 < 260 by decide))), (fm537 k9 hi9).2.2.2.2.2.2.2.2.1, wd_at.pt ew540 (fm537 k9 hi9).2.2.2.2.2.2.2.2.2.1 (tg_ne (fm537 k9 hi9).2.2.2.2.2.2.2.2.2.2.1 t514 (tnA (show 0 < 280 by decide))), (fm537 k9 hi9).2.2.2.2.2.2.2.2.2.2.1, wd_at.pt ew540 (fm537 k9 hi9).2.2.2.2.2.2.2.2.2.2.2.1 (tg_ne (fm537 k9 hi9).2.2.2.2.2.2.2.2.2.2.2.2 t514 (tnA (show 0 < 300 by decide))), (fm537 k9 hi9).2.2.2.2.2.2.2.2.2.2.2.2⟩
      have kp566 := kp511.put ew540 sy
      refine lv_aload_n hx hb dX10_init_118 rfl (lv_at hl 0 rfl) ?_
      refine y_new (fs := [.null, .null, .null, .null, .null, .int 0]) F hP hD hS (ci := 1) rfl (fun _ h => List.mem_cons_of_mem _ (List.mem_append_left _ (List.mem_append_right _ (h)))) tyX1_ok (List.mem_cons_of_mem _ (List.mem_append_left _ (List.mem_append_left _ (List.mem_append_left _ (List.mem_append_left _ (List.mem_append_left _ (List.mem_append_left _ (List.mem_append_left _ (List.mem_append_right _ (List.mem_append_left _ (List.mem_of_getElem? (i := 5) rfl))))))))))) (List.mem_cons_of_mem _ (List.mem_append_left _ (List.mem_append_left _ (List.mem_append_left _ (List.mem_append_left _ (List.mem_append_left _ (List.mem_append_left _ (List.mem_append_left _ (List.mem_append_right _ (List.mem_append_left _ (List.mem_of_getElem? (i := 6) rfl))))))))))) (List.mem_cons_of_mem _ (List.mem_append_left _ (List.mem_append_left _ (List.mem_append_left _ (List.mem_append_left _ (List.mem_append_left _ (List.mem_append_left _ (List.mem_append_left _ (List.mem_append_right _ (List.mem_append_left _ (List.mem_of_getElem? (i := 7) rfl))))))))))) df_1 (Nat.le_of_ble_eq_true rfl) (Nat.le_of_ble_eq_true rfl) dX10_init_119 (fun a9 w567 ew568 hq569 H hP hD hS => ?_)
      refine W.widen (k := 107) (n := 4477) (Nat.le_of_ble_eq_true rfl) (Nat.le_of_ble_eq_true rfl) ?_
      have k570 := wd_at.ad ew568 hq569 k541
      have k571 := wd_at.ad ew568 hq569 k542
      have k572 := wd_at.ad ew568 hq569 k543
      have k573 := wd_at.ad ew568 hq569 k544
      have k574 := wd_at.ad ew568 hq569 k545
      have k575 := wd_at.ad ew568 hq569 k546
      have k576 := wd_at.ad ew568 hq569 k547
      have k577 := wd_at.ad ew568 hq569 k548
      have k578 := wd_at.ad ew568 hq569 k549
      have k579 := wd_at.ad ew568 hq569 k550
      have k580 := wd_at.ad ew568 hq569 k551
      have k581 := wd_at.ad ew568 hq569 k552
      have k582 := wd_at.ad ew568 hq569 k553
      have k583 := wd_at.ad ew568 hq569 k554
      have k584 := wd_at.ad ew568 hq569 k555
      have k585 := wd_at.ad ew568 hq569 k556
      have k586 := wd_at.ad ew568 hq569 k557
      have k587 := wd_at.ad ew568 hq569 k558
      have k588 := wd_at.ad ew568 hq569 k559
      have k589 := wd_at.ad ew568 hq569 k560
      have k590 := wd_at.ad ew568 hq569 k561
      have k591 := wd_at.ad ew568 hq569 k562
      have k592 := wd_at.ad ew568 hq569 k563
      have k593 : wd_at w567 a9 (.inr (1, [.null, .null, .null, .null, .null, .int 0])) := wd_at.nw ew568
      have fm594 : ∀ i9, i9 < 12 → tf i9 = some (tn i9) ∧ wd_at w567 (tn i9) (.inr (8, [.int (co i9), .int (ra i9), .int (se i9), .ref (ag i9)])) ∧ tg512 (tn i9) = 100 + i9 := fun i9 hi9 => ⟨(fm564 i9 hi9).1, wd_at.ad ew568 hq569 (fm564 i9 hi9).2.1, (fm564 i9 hi9).2.2⟩
      have fn595 : ∀ i9, i9 < 12 → (tn i9) ≠ a9 := fun i9 hi9 => wd_nL hq569 (fm564 i9 hi9).2.1
      have fm596 : ∀ k9, k9 < 12 → (aOK (cf k9) (nf k9) ∧ ru k9 ≤ 12) ∧ wd_at w567 (aa k9) (.inr (1, [.ref (ga0 k9), .ref (ga1 k9), .ref (ga2 k9), .ref (ga3 k9), .ref (ga4 k9), .int (nI (ru k9))])) ∧ tg512 (aa k9) = 200 + k9 ∧ wd_at w567 (ga0 k9) (.inl (cy 2, 12, .inl (df k9))) ∧ tg512 (ga0 k9) = 220 + k9 ∧ wd_at w567 (ga1 k9) (.inl (cy 2, 12, .inl (cf k9))) ∧ tg512 (ga1 k9) = 240 + k9 ∧ wd_at w567 (ga2 k9) (.inl (cy 2, 72, .inl (nf k9))) ∧ tg512 (ga2 k9) = 260 + k9 ∧ wd_at w567 (ga3 k9) (.inl (cy 1, 72, .inl (sf k9))) ∧ tg512 (ga3 k9) = 280 + k9 ∧ wd_at w567 (ga4 k9) (.inl (cy 2, 72, .inl (uf k9))) ∧ tg512 (ga4 k9) = 300 + k9 := fun k9 hi9 => ⟨(fm565 k9 hi9).1, wd_at.ad ew568 hq569 (fm565 k9 hi9).2.1, (fm565 k9 hi9).2.2.1, wd_at.ad ew568 hq569 (fm565 k9 hi9).2.2.2.1, (fm565 k9 hi9).2.2.2.2.1, wd_at.ad ew568 hq569 (fm565 k9 hi9).2.2.2.2.2.1, (fm565 k9 hi9).2.2.2.2.2.2.1, wd_at.ad ew568 hq569 (fm565 k9 hi9).2.2.2.2.2.2.2.1, (fm565 k9 hi9).2.2.2.2.2.2.2.2.1, wd_at.ad ew568 hq569 (fm565 k9 hi9).2.2.2.2.2.2.2.2.2.1, (fm565 k9 hi9).2.2.2.2.2.2.2.2.2.2.1, wd_at.ad ew568 hq569 (fm565 k9 hi9).2.2.2.2.2.2.2.2.2.2.2.1, (fm565 k9 hi9).2.2.2.2.2.2.2.2.2.2.2.2⟩
      have fn597 : ∀ k9, k9 < 12 → (aa k9) ≠ a9 ∧ (ga0 k9) ≠ a9 ∧ (ga1 k9) ≠ a9 ∧ (ga2 k9) ≠ a9 ∧ (ga3 k9) ≠ a9 ∧ (ga4 k9) ≠ a9 := fun k9 hi9 => ⟨wd_nL hq569 (fm565 k9 hi9).2.1, wd_nL hq569 (fm565 k9 hi9).2.2.2.1, wd_nL hq569 (fm565 k9 hi9).2.2.2.2.2.1, wd_nL hq569 (fm565 k9 hi9).2.2.2.2.2.2.2.1, wd_nL hq569 (fm565 k9 hi9).2.2.2.2.2.2.2.2.2.1, wd_nL hq569 (fm565 k9 hi9).2.2.2.2.2.2.2.2.2.2.2.1⟩
      have kp598 := kp566.add ew568 hq569
      obtain ⟨tg599, et600⟩ : ∃ f : Nat → Nat, f = va_up tg512 a9 (200 + 12) := ⟨_, rfl⟩
      have t601 := tgX et600 (wd_nL hq569 k541) t514
      have t602 := tgX et600 (wd_nL hq569 k542) t515
      have t603 := tgX et600 (wd_nL hq569 k543) t516
      have t604 := tgX et600 (wd_nL hq569 k544) t517
      have t605 := tgX et600 (wd_nL hq569 k545) t518
      have t606 := tgX et600 (wd_nL hq569 k546) t519
      have t607 := tgX et600 (wd_nL hq569 k547) t520
      have t608 := tgX et600 (wd_nL hq569 k548) t521
      have t609 := tgX et600 (wd_nL hq569 k549) t522
      have t610 := tgX et600 (wd_nL hq569 k550) t523
      have t611 := tgX et600 (wd_nL hq569 k551) t524
      have t612 := tgX et600 (wd_nL hq569 k552) t525
      have t613 := tgX et600 (wd_nL hq569 k553) t526
      have t614 := tgX et600 (wd_nL hq569 k554) t527
      have t615 := tgX et600 (wd_nL hq569 k555) t528
      have t616 := tgX et600 (wd_nL hq569 k556) t529
      have t617 := tgX et600 (wd_nL hq569 k557) t530
      have t618 := tgX et600 (wd_nL hq569 k558) t531
      have t619 := tgX et600 (wd_nL hq569 k559) t532
      have t620 := tgX et600 (wd_nL hq569 k560) t533
      have t621 := tgX et600 (wd_nL hq569 k561) t534
      have t622 := tgX et600 (wd_nL hq569 k562) t535
      have t623 := tgX et600 (wd_nL hq569 k563) (tgN et513)
      have fm624 : ∀ i9, i9 < 12 → tf i9 = some (tn i9) ∧ wd_at w567 (tn i9) (.inr (8, [.int (co i9), .int (ra i9), .int (se i9), .ref (ag i9)])) ∧ tg599 (tn i9) = 100 + i9 := fun i9 hi9 => ⟨(fm594 i9 hi9).1, (fm594 i9 hi9).2.1, tgX et600 (fn595 i9 hi9) (fm594 i9 hi9).2.2⟩
      have fm625 : ∀ k9, k9 < 12 → (aOK (cf k9) (nf k9) ∧ ru k9 ≤ 12) ∧ wd_at w567 (aa k9) (.inr (1, [.ref (ga0 k9), .ref (ga1 k9), .ref (ga2 k9), .ref (ga3 k9), .ref (ga4 k9), .int (nI (ru k9))])) ∧ tg599 (aa k9) = 200 + k9 ∧ wd_at w567 (ga0 k9) (.inl (cy 2, 12, .inl (df k9))) ∧ tg599 (ga0 k9) = 220 + k9 ∧ wd_at w567 (ga1 k9) (.inl (cy 2, 12, .inl (cf k9))) ∧ tg599 (ga1 k9) = 240 + k9 ∧ wd_at w567 (ga2 k9) (.inl (cy 2, 72, .inl (nf k9))) ∧ tg599 (ga2 k9) = 260 + k9 ∧ wd_at w567 (ga3 k9) (.inl (cy 1, 72, .inl (sf k9))) ∧ tg599 (ga3 k9) = 280 + k9 ∧ wd_at w567 (ga4 k9) (.inl (cy 2, 72, .inl (uf k9))) ∧ tg599 (ga4 k9) = 300 + k9 := fun k9 hi9 => ⟨(fm596 k9 hi9).1, (fm596 k9 hi9).2.1, tgX et600 ((fn597 k9 hi9).1) (fm596 k9 hi9).2.2.1, (fm596 k9 hi9).2.2.2.1, tgX et600 ((fn597 k9 hi9).2.1) (fm596 k9 hi9).2.2.2.2.1, (fm596 k9 hi9).2.2.2.2.2.1, tgX et600 ((fn597 k9 hi9).2.2.1) (fm596 k9 hi9).2.2.2.2.2.2.1, (fm596 k9 hi9).2.2.2.2.2.2.2.1, tgX et600 ((fn597 k9 hi9).2.2.2.1) (fm596 k9 hi9).2.2.2.2.2.2.2.2.1, (fm596 k9 hi9).2.2.2.2.2.2.2.2.2.1, tgX et600 ((fn597 k9 hi9).2.2.2.2.1) (fm596 k9 hi9).2.2.2.2.2.2.2.2.2.2.1, (fm596 k9 hi9).2.2.2.2.2.2.2.2.2.2.2.1, tgX et600 ((fn597 k9 hi9).2.2.2.2.2) (fm596 k9 hi9).2.2.2.2.2.2.2.2.2.2.2.2⟩
      have hext626 := tgE et600 (kp566.out hq569) hext538
      refine lv_dup hx hb dX10_init_122 rfl ?_
      refine x_callIN (ret := none) (host := RX10) (n := 0) (As := []) (rest := [.ref a9, .ref x]) F hP hD hS (i_agent l D cy sk sv w567 tg599 12 a9 k593 (fun b => b = a9) rfl (tgN et600)) gX10_init_X1_init_n67 rfl (by decide +kernel) (List.mem_cons_of_mem _ (List.mem_append_left _ (List.mem_append_left _ (List.mem_append_left _ (List.mem_append_left _ (List.mem_append_left _ (List.mem_append_left _ (List.mem_append_left _ (List.mem_append_right _ (List.mem_append_left _ (List.mem_of_getElem? (i := 7) rfl))))))))))) (List.mem_cons_of_mem _ (List.mem_append_left _ (List.mem_append_left _ (List.mem_append_left _ (List.mem_append_left _ (List.mem_append_left _ (List.mem_append_left _ (List.mem_append_left _ (List.mem_append_right _ (List.mem_append_right _ (List.mem_append_left _ (List.mem_of_getElem? (i := 12) rfl)))))))))))) rfl (by decide +kernel) ⟨(Nat.le_of_ble_eq_true rfl), (Nat.le_of_ble_eq_true rfl)⟩ rfl hl.1 (Nat.le_of_ble_eq_true rfl) dX10_init_123 rfl ⟨(Nat.le_of_ble_eq_true rfl), (Nat.le_of_ble_eq_true rfl)⟩ (fun v628 w629 hp627 H locs hP hD hS => ?_)
      obtain ⟨rfl, kq631, tg630, sg0, sg1, sg2, sg3, sg4, hag632, k633, k634, k635, k636, k637, k638, t639, t640, t641, t642, t643⟩ := hp627
      have k644 := kq631.2 _ _ k570 (wd_nL hq569 k541)
      have k645 := kq631.2 _ _ k571 (wd_nL hq569 k542)
      have k646 := kq631.2 _ _ k572 (wd_nL hq569 k543)
      have k647 := kq631.2 _ _ k573 (wd_nL hq569 k544)
      have k648 := kq631.2 _ _ k574 (wd_nL hq569 k545)
      have k649 := kq631.2 _ _ k575 (wd_nL hq569 k546)
      have k650 := kq631.2 _ _ k576 (wd_nL hq569 k547)
      have k651 := kq631.2 _ _ k577 (wd_nL hq569 k548)
      have k652 := kq631.2 _ _ k578 (wd_nL hq569 k549)
      have k653 := kq631.2 _ _ k579 (wd_nL hq569 k550)
      have k654 := kq631.2 _ _ k580 (wd_nL hq569 k551)
      have k655 := kq631.2 _ _ k581 (wd_nL hq569 k552)
      have k656 := kq631.2 _ _ k582 (wd_nL hq569 k553)
      have k657 := kq631.2 _ _ k583 (wd_nL hq569 k554)
      have k658 := kq631.2 _ _ k584 (wd_nL hq569 k555)
      have k659 := kq631.2 _ _ k585 (wd_nL hq569 k556)
      have k660 := kq631.2 _ _ k586 (wd_nL hq569 k557)
      have k661 := kq631.2 _ _ k587 (wd_nL hq569 k558)
      have k662 := kq631.2 _ _ k588 (wd_nL hq569 k559)
      have k663 := kq631.2 _ _ k589 (wd_nL hq569 k560)
      have k664 := kq631.2 _ _ k590 (wd_nL hq569 k561)
      have k665 := kq631.2 _ _ k591 (wd_nL hq569 k562)
      have k666 := kq631.2 _ _ k592 (wd_nL hq569 k563)
      have fm667 : ∀ i9, i9 < 12 → tf i9 = some (tn i9) ∧ wd_at w629 (tn i9) (.inr (8, [.int (co i9), .int (ra i9), .int (se i9), .ref (ag i9)])) ∧ tg599 (tn i9) = 100 + i9 := fun i9 hi9 => ⟨(fm624 i9 hi9).1, kq631.2 _ _ (fm624 i9 hi9).2.1 (fn595 i9 hi9), (fm624 i9 hi9).2.2⟩
      have fm668 : ∀ k9, k9 < 12 → (aOK (cf k9) (nf k9) ∧ ru k9 ≤ 12) ∧ wd_at w629 (aa k9) (.inr (1, [.ref (ga0 k9), .ref (ga1 k9), .ref (ga2 k9), .ref (ga3 k9), .ref (ga4 k9), .int (nI (ru k9))])) ∧ tg599 (aa k9) = 200 + k9 ∧ wd_at w629 (ga0 k9) (.inl (cy 2, 12, .inl (df k9))) ∧ tg599 (ga0 k9) = 220 + k9 ∧ wd_at w629 (ga1 k9) (.inl (cy 2, 12, .inl (cf k9))) ∧ tg599 (ga1 k9) = 240 + k9 ∧ wd_at w629 (ga2 k9) (.inl (cy 2, 72, .inl (nf k9))) ∧ tg599 (ga2 k9) = 260 + k9 ∧ wd_at w629 (ga3 k9) (.inl (cy 1, 72, .inl (sf k9))) ∧ tg599 (ga3 k9) = 280 + k9 ∧ wd_at w629 (ga4 k9) (.inl (cy 2, 72, .inl (uf k9))) ∧ tg599 (ga4 k9) = 300 + k9 := fun k9 hi9 => ⟨(fm625 k9 hi9).1, kq631.2 _ _ (fm625 k9 hi9).2.1 ((fn597 k9 hi9).1), (fm625 k9 hi9).2.2.1, kq631.2 _ _ (fm625 k9 hi9).2.2.2.1 ((fn597 k9 hi9).2.1), (fm625 k9 hi9).2.2.2.2.1, kq631.2 _ _ (fm625 k9 hi9).2.2.2.2.2.1 ((fn597 k9 hi9).2.2.1), (fm625 k9 hi9).2.2.2.2.2.2.1, kq631.2 _ _ (fm625 k9 hi9).2.2.2.2.2.2.2.1 ((fn597 k9 hi9).2.2.2.1), (fm625 k9 hi9).2.2.2.2.2.2.2.2.1, kq631.2 _ _ (fm625 k9 hi9).2.2.2.2.2.2.2.2.2.1 ((fn597 k9 hi9).2.2.2.2.1), (fm625 k9 hi9).2.2.2.2.2.2.2.2.2.2.1, kq631.2 _ _ (fm625 k9 hi9).2.2.2.2.2.2.2.2.2.2.2.1 ((fn597 k9 hi9).2.2.2.2.2), (fm625 k9 hi9).2.2.2.2.2.2.2.2.2.2.2.2⟩
      have kp669 := kp598.tr kq631 (fun b9 hm q9 => (fun q9 => absurd (q9 ▸ hm) (kp566.out hq569)) q9)
      have t670 := (hag632 _ k570.1).trans t601
      have t671 := (hag632 _ k571.1).trans t602
      have t672 := (hag632 _ k572.1).trans t603
      have t673 := (hag632 _ k573.1).trans t604
      have t674 := (hag632 _ k574.1).trans t605
      have t675 := (hag632 _ k575.1).trans t606
      have t676 := (hag632 _ k576.1).trans t607
      have t677 := (hag632 _ k577.1).trans t608
      have t678 := (hag632 _ k578.1).trans t609
      have t679 := (hag632 _ k579.1).trans t610
      have t680 := (hag632 _ k580.1).trans t611
      have t681 := (hag632 _ k581.1).trans t612
      have t682 := (hag632 _ k582.1).trans t613
      have t683 := (hag632 _ k583.1).trans t614
      have t684 := (hag632 _ k584.1).trans t615
      have t685 := (hag632 _ k585.1).trans t616
      have t686 := (hag632 _ k586.1).trans t617
      have t687 := (hag632 _ k587.1).trans t618
      have t688 := (hag632 _ k588.1).trans t619
      have t689 := (hag632 _ k589.1).trans t620
      have t690 := (hag632 _ k590.1).trans t621
      have t691 := (hag632 _ k591.1).trans t622
      have t692 := (hag632 _ k592.1).trans t623
      have t693 := (hag632 _ k593.1).trans (tgN et600)
      have fm694 : ∀ i9, i9 < 12 → tf i9 = some (tn i9) ∧ wd_at w629 (tn i9) (.inr (8, [.int (co i9), .int (ra i9), .int (se i9), .ref (ag i9)])) ∧ tg630 (tn i9) = 100 + i9 := fun i9 hi9 => ⟨(fm667 i9 hi9).1, (fm667 i9 hi9).2.1, (hag632 _ ((fm624 i9 hi9).2.1).1).trans (fm667 i9 hi9).2.2⟩
      have fm695 : ∀ k9, k9 < 12 → (aOK (cf k9) (nf k9) ∧ ru k9 ≤ 12) ∧ wd_at w629 (aa k9) (.inr (1, [.ref (ga0 k9), .ref (ga1 k9), .ref (ga2 k9), .ref (ga3 k9), .ref (ga4 k9), .int (nI (ru k9))])) ∧ tg630 (aa k9) = 200 + k9 ∧ wd_at w629 (ga0 k9) (.inl (cy 2, 12, .inl (df k9))) ∧ tg630 (ga0 k9) = 220 + k9 ∧ wd_at w629 (ga1 k9) (.inl (cy 2, 12, .inl (cf k9))) ∧ tg630 (ga1 k9) = 240 + k9 ∧ wd_at w629 (ga2 k9) (.inl (cy 2, 72, .inl (nf k9))) ∧ tg630 (ga2 k9) = 260 + k9 ∧ wd_at w629 (ga3 k9) (.inl (cy 1, 72, .inl (sf k9))) ∧ tg630 (ga3 k9) = 280 + k9 ∧ wd_at w629 (ga4 k9) (.inl (cy 2, 72, .inl (uf k9))) ∧ tg630 (ga4 k9) = 300 + k9 := fun k9 hi9 => ⟨(fm668 k9 hi9).1, (fm668 k9 hi9).2.1, (hag632 _ ((fm625 k9 hi9).2.1).1).trans (fm668 k9 hi9).2.2.1, (fm668 k9 hi9).2.2.2.1, (hag632 _ ((fm625 k9 hi9).2.2.2.1).1).trans (fm668 k9 hi9).2.2.2.2.1, (fm668 k9 hi9).2.2.2.2.2.1, (hag632 _ ((fm625 k9 hi9).2.2.2.2.2.1).1).trans (fm668 k9 hi9).2.2.2.2.2.2.1, (fm668 k9 hi9).2.2.2.2.2.2.2.1, (hag632 _ ((fm625 k9 hi9).2.2.2.2.2.2.2.1).1).trans (fm668 k9 hi9).2.2.2.2.2.2.2.2.1, (fm668 k9 hi9).2.2.2.2.2.2.2.2.2.1, (hag632 _ ((fm625 k9 hi9).2.2.2.2.2.2.2.2.2.1).1).trans (fm668 k9 hi9).2.2.2.2.2.2.2.2.2.2.1, (fm668 k9 hi9).2.2.2.2.2.2.2.2.2.2.2.1, (hag632 _ ((fm625 k9 hi9).2.2.2.2.2.2.2.2.2.2.2.1).1).trans (fm668 k9 hi9).2.2.2.2.2.2.2.2.2.2.2.2⟩
      have hext696 := fun a ha => (hag632 a (kp598.1 a ha)).trans (hext626 a ha)
      refine W.eq (g2 := F0 m 126 ls [.ref a9, .ref x]) rfl (W.widen (k := 112) (n := 4717) (Nat.le_of_ble_eq_true rfl) (Nat.le_of_ble_eq_true rfl) ?_)
      have fm697 : ∀ k9, k9 < 13 → (aOK ((va_up cf 12 (fun _ => 0)) k9) ((va_up nf 12 (fun _ => 0)) k9) ∧ (va_up ru 12 0) k9 ≤ 12) ∧ wd_at w629 ((va_up aa 12 a9) k9) (.inr (1, [.ref ((va_up ga0 12 sg0) k9), .ref ((va_up ga1 12 sg1) k9), .ref ((va_up ga2 12 sg2) k9), .ref ((va_up ga3 12 sg3) k9), .ref ((va_up ga4 12 sg4) k9), .int (nI ((va_up ru 12 0) k9))])) ∧ tg630 ((va_up aa 12 a9) k9) = 200 + k9 ∧ wd_at w629 ((va_up ga0 12 sg0) k9) (.inl (cy 2, 12, .inl ((va_up df 12 (fun _ => 0)) k9))) ∧ tg630 ((va_up ga0 12 sg0) k9) = 220 + k9 ∧ wd_at w629 ((va_up ga1 12 sg1) k9) (.inl (cy 2, 12, .inl ((va_up cf 12 (fun _ => 0)) k9))) ∧ tg630 ((va_up ga1 12 sg1) k9) = 240 + k9 ∧ wd_at w629 ((va_up ga2 12 sg2) k9) (.inl (cy 2, 72, .inl ((va_up nf 12 (fun _ => 0)) k9))) ∧ tg630 ((va_up ga2 12 sg2) k9) = 260 + k9 ∧ wd_at w629 ((va_up ga3 12 sg3) k9) (.inl (cy 1, 72, .inl ((va_up sf 12 (fun _ => 0)) k9))) ∧ tg630 ((va_up ga3 12 sg3) k9) = 280 + k9 ∧ wd_at w629 ((va_up ga4 12 sg4) k9) (.inl (cy 2, 72, .inl ((va_up uf 12 (fun _ => 0)) k9))) ∧ tg630 ((va_up ga4 12 sg4) k9) = 300 + k9 := by
        intro k9 hi9
        by_cases e9 : k9 = 12
        · rw [e9]
          exact ⟨(by simp only [va_up_self]; exact ⟨aOK0, Nat.zero_le 12⟩), (by simp only [va_up_self]; exact k633), (by rw [va_up_self]; exact t693), (by simp only [va_up_self]; exact k634), (by rw [va_up_self]; exact t639), (by simp only [va_up_self]; exact k635), (by rw [va_up_self]; exact t640), (by simp only [va_up_self]; exact k636), (by rw [va_up_self]; exact t641), (by simp only [va_up_self]; exact k637), (by rw [va_up_self]; exact t642), (by simp only [va_up_self]; exact k638), (by rw [va_up_self]; exact t643)⟩
        · simp only [va_up_ne _ _ e9]
          exact fm695 k9 (by omega)
      obtain ⟨aan, eaan⟩ : ∃ f : Nat → Nat, f = (va_up aa 12 a9) := ⟨_, rfl⟩
      obtain ⟨run, erun⟩ : ∃ f : Nat → Nat, f = (va_up ru 12 0) := ⟨_, rfl⟩
      obtain ⟨dfn, edfn⟩ : ∃ f : Nat → Nat → Int32, f = (va_up df 12 (fun _ => 0)) := ⟨_, rfl⟩
      obtain ⟨cfn, ecfn⟩ : ∃ f : Nat → Nat → Int32, f = (va_up cf 12 (fun _ => 0)) := ⟨_, rfl⟩
      obtain ⟨nfn, enfn⟩ : ∃ f : Nat → Nat → Int32, f = (va_up nf 12 (fun _ => 0)) := ⟨_, rfl⟩
      obtain ⟨sfn, esfn⟩ : ∃ f : Nat → Nat → Int32, f = (va_up sf 12 (fun _ => 0)) := ⟨_, rfl⟩
      obtain ⟨ufn, eufn⟩ : ∃ f : Nat → Nat → Int32, f = (va_up uf 12 (fun _ => 0)) := ⟨_, rfl⟩
      obtain ⟨ga0n, ega0n⟩ : ∃ f : Nat → Nat, f = (va_up ga0 12 sg0) := ⟨_, rfl⟩
      obtain ⟨ga1n, ega1n⟩ : ∃ f : Nat → Nat, f = (va_up ga1 12 sg1) := ⟨_, rfl⟩
      obtain ⟨ga2n, ega2n⟩ : ∃ f : Nat → Nat, f = (va_up ga2 12 sg2) := ⟨_, rfl⟩
      obtain ⟨ga3n, ega3n⟩ : ∃ f : Nat → Nat, f = (va_up ga3 12 sg3) := ⟨_, rfl⟩
      obtain ⟨ga4n, ega4n⟩ : ∃ f : Nat → Nat, f = (va_up ga4 12 sg4) := ⟨_, rfl⟩
      have fm698 : ∀ k9, k9 < 13 → (aOK (cfn k9) (nfn k9) ∧ run k9 ≤ 12) ∧ wd_at w629 (aan k9) (.inr (1, [.ref (ga0n k9), .ref (ga1n k9), .ref (ga2n k9), .ref (ga3n k9), .ref (ga4n k9), .int (nI (run k9))])) ∧ tg630 (aan k9) = 200 + k9 ∧ wd_at w629 (ga0n k9) (.inl (cy 2, 12, .inl (dfn k9))) ∧ tg630 (ga0n k9) = 220 + k9 ∧ wd_at w629 (ga1n k9) (.inl (cy 2, 12, .inl (cfn k9))) ∧ tg630 (ga1n k9) = 240 + k9 ∧ wd_at w629 (ga2n k9) (.inl (cy 2, 72, .inl (nfn k9))) ∧ tg630 (ga2n k9) = 260 + k9 ∧ wd_at w629 (ga3n k9) (.inl (cy 1, 72, .inl (sfn k9))) ∧ tg630 (ga3n k9) = 280 + k9 ∧ wd_at w629 (ga4n k9) (.inl (cy 2, 72, .inl (ufn k9))) ∧ tg630 (ga4n k9) = 300 + k9 := by rw [eaan, erun, edfn, ecfn, enfn, esfn, eufn, ega0n, ega1n, ega2n, ega3n, ega4n]; exact fm697
      refine y_put (ref := "NoteHouse") F hP hD hS k644 rfl (fun _ h => List.mem_cons_of_mem _ (List.mem_append_left _ (List.mem_append_left _ (List.mem_append_left _ (List.mem_append_left _ (List.mem_append_left _ (List.mem_append_right _ (h)))))))) tyX10_ok nmX10 9 (Nat.le_of_ble_eq_true rfl) (List.mem_cons_of_mem _ (List.mem_append_left _ (List.mem_append_left _ (List.mem_append_left _ (List.mem_append_left _ (List.mem_append_left _ (List.mem_append_left _ (List.mem_append_left _ (List.mem_append_right _ (List.mem_append_left _ (List.mem_of_getElem? (i := 8) rfl))))))))))) rfl rfl rfl rfl (Nat.le_of_ble_eq_true rfl) dX10_init_126 (fun w699 ew700 H locs hP hD hS => ?_)
      have k701 : wd_at w699 x (.inr (10, [.ref a0, .ref a1, .ref a2, .ref a3, .ref a4, .ref a5, .ref a6, .ref a7, .ref a8, .ref a9, .null, .null, .int 0, .int 0, .int 0, .int 0, .int 0])) := wd_at.ps ew700 k644
      have k702 := wd_at.pt ew700 k645 (tg_ne t671 t670 (by decide))
      have k703 := wd_at.pt ew700 k646 (tg_ne t672 t670 (by decide))
      have k704 := wd_at.pt ew700 k647 (tg_ne t673 t670 (by decide))
      have k705 := wd_at.pt ew700 k648 (tg_ne t674 t670 (by decide))
      have k706 := wd_at.pt ew700 k649 (tg_ne t675 t670 (by decide))
      have k707 := wd_at.pt ew700 k650 (tg_ne t676 t670 (by decide))
      have k708 := wd_at.pt ew700 k651 (tg_ne t677 t670 (by decide))
      have k709 := wd_at.pt ew700 k652 (tg_ne t678 t670 (by decide))
      have k710 := wd_at.pt ew700 k653 (tg_ne t679 t670 (by decide))
      have k711 := wd_at.pt ew700 k654 (tg_ne t680 t670 (by decide))
      have k712 := wd_at.pt ew700 k655 (tg_ne t681 t670 (by decide))
      have k713 := wd_at.pt ew700 k656 (tg_ne t682 t670 (by decide))
      have k714 := wd_at.pt ew700 k657 (tg_ne t683 t670 (by decide))
      have k715 := wd_at.pt ew700 k658 (tg_ne t684 t670 (by decide))
      have k716 := wd_at.pt ew700 k659 (tg_ne t685 t670 (by decide))
      have k717 := wd_at.pt ew700 k660 (tg_ne t686 t670 (by decide))
      have k718 := wd_at.pt ew700 k661 (tg_ne t687 t670 (by decide))
      have k719 := wd_at.pt ew700 k662 (tg_ne t688 t670 (by decide))
      have k720 := wd_at.pt ew700 k663 (tg_ne t689 t670 (by decide))
      have k721 := wd_at.pt ew700 k664 (tg_ne t690 t670 (by decide))
      have k722 := wd_at.pt ew700 k665 (tg_ne t691 t670 (by decide))
      have k723 := wd_at.pt ew700 k666 (tg_ne t692 t670 (by decide))
      have k724 := wd_at.pt ew700 k633 (tg_ne t693 t670 (tnA (show 0 < 200 by decide)))
      have k725 := wd_at.pt ew700 k634 (tg_ne t639 t670 (tnA (show 0 < 220 by decide)))
      have k726 := wd_at.pt ew700 k635 (tg_ne t640 t670 (tnA (show 0 < 240 by decide)))
      have k727 := wd_at.pt ew700 k636 (tg_ne t641 t670 (tnA (show 0 < 260 by decide)))
      have k728 := wd_at.pt ew700 k637 (tg_ne t642 t670 (tnA (show 0 < 280 by decide)))
      have k729 := wd_at.pt ew700 k638 (tg_ne t643 t670 (tnA (show 0 < 300 by decide)))
      have fm730 : ∀ i9, i9 < 12 → tf i9 = some (tn i9) ∧ wd_at w699 (tn i9) (.inr (8, [.int (co i9), .int (ra i9), .int (se i9), .ref (ag i9)])) ∧ tg630 (tn i9) = 100 + i9 := fun i9 hi9 => ⟨(fm694 i9 hi9).1, wd_at.pt ew700 (fm694 i9 hi9).2.1 (tg_ne (fm694 i9 hi9).2.2 t670 (tnA (show 0 < 100 by decide))), (fm694 i9 hi9).2.2⟩
      have fm731 : ∀ k9, k9 < 13 → (aOK (cfn k9) (nfn k9) ∧ run k9 ≤ 12) ∧ wd_at w699 (aan k9) (.inr (1, [.ref (ga0n k9), .ref (ga1n k9), .ref (ga2n k9), .ref (ga3n k9), .ref (ga4n k9), .int (nI (run k9))])) ∧ tg630 (aan k9) = 200 + k9 ∧ wd_at w699 (ga0n k9) (.inl (cy 2, 12, .inl (dfn k9))) ∧ tg630 (ga0n k9) = 220 + k9 ∧ wd_at w699 (ga1n k9) (.inl (cy 2, 12, .inl (cfn k9))) ∧ tg630 (ga1n k9) = 240 + k9 ∧ wd_at w699 (ga2n k9) (.inl (cy 2, 72, .inl (nfn k9))) ∧ tg630 (ga2n k9) = 260 + k9 ∧ wd_at w699 (ga3n k9) (.inl (cy 1, 72, .inl (sfn k9))) ∧ tg630 (ga3n k9) = 280 + k9 ∧ wd_at w699 (ga4n k9) (.inl (cy 2, 72, .inl (ufn k9))) ∧ tg630 (ga4n k9) = 300 + k9 := fun k9 hi9 => ⟨(fm698 k9 hi9).1, wd_at.pt ew700 (fm698 k9 hi9).2.1 (tg_ne (fm698 k9 hi9).2.2.1 t670 (tnA (show 0 < 200 by decide))), (fm698 k9 hi9).2.2.1, wd_at.pt ew700 (fm698 k9 hi9).2.2.2.1 (tg_ne (fm698 k9 hi9).2.2.2.2.1 t670 (tnA (show 0 < 220 by decide))), (fm698 k9 hi9).2.2.2.2.1, wd_at.pt ew700 (fm698 k9 hi9).2.2.2.2.2.1 (tg_ne (fm698 k9 hi9).2.2.2.2.2.2.1 t670 (tnA (show 0 < 240 by decide))), (fm698 k9 hi9).2.2.2.2.2.2.1, wd_at.pt ew700 (fm698 k9 hi9).2.2.2.2.2.2.2.1 (tg_ne (fm698 k9 hi9).2.2.2.2.2.2.2.2.1 t670 (tnA (show 0 < 260 by decide))), (fm698 k9 hi9).2.2.2.2.2.2.2.2.1, wd_at.pt ew700 (fm698 k9 hi9).2.2.2.2.2.2.2.2.2.1 (tg_ne (fm698 k9 hi9).2.2.2.2.2.2.2.2.2.2.1 t670 (tnA (show 0 < 280 by decide))), (fm698 k9 hi9).2.2.2.2.2.2.2.2.2.2.1, wd_at.pt ew700 (fm698 k9 hi9).2.2.2.2.2.2.2.2.2.2.2.1 (tg_ne (fm698 k9 hi9).2.2.2.2.2.2.2.2.2.2.2.2 t670 (tnA (show 0 < 300 by decide))), (fm698 k9 hi9).2.2.2.2.2.2.2.2.2.2.2.2⟩
      have kp732 := kp669.put ew700 sy
      refine lv_aload_n hx hb dX10_init_129 rfl (lv_at hl 0 rfl) ?_
      refine y_new (fs := [.null, .int 0, .int 0]) F hP hD hS (ci := 2) rfl (fun _ h => List.mem_cons_of_mem _ (List.mem_append_right _ (h))) tyX2_ok (List.mem_cons_of_mem _ (List.mem_append_left _ (List.mem_append_left _ (List.mem_append_left _ (List.mem_append_left _ (List.mem_append_left _ (List.mem_append_left _ (List.mem_append_left _ (List.mem_append_right _ (List.mem_append_left _ (List.mem_of_getElem? (i := 9) rfl))))))))))) (List.mem_cons_of_mem _ (List.mem_append_left _ (List.mem_append_left _ (List.mem_append_left _ (List.mem_append_left _ (List.mem_append_left _ (List.mem_append_left _ (List.mem_append_left _ (List.mem_append_right _ (List.mem_append_left _ (List.mem_of_getElem? (i := 10) rfl))))))))))) (List.mem_cons_of_mem _ (List.mem_append_left _ (List.mem_append_left _ (List.mem_append_left _ (List.mem_append_left _ (List.mem_append_left _ (List.mem_append_left _ (List.mem_append_left _ (List.mem_append_right _ (List.mem_append_left _ (List.mem_of_getElem? (i := 11) rfl))))))))))) df_2 (Nat.le_of_ble_eq_true rfl) (Nat.le_of_ble_eq_true rfl) dX10_init_130 (fun a10 w733 ew734 hq735 H hP hD hS => ?_)
      refine W.widen (k := 113) (n := 4720) (Nat.le_of_ble_eq_true rfl) (Nat.le_of_ble_eq_true rfl) ?_
      have k736 := wd_at.ad ew734 hq735 k701
      have k737 := wd_at.ad ew734 hq735 k702
      have k738 := wd_at.ad ew734 hq735 k703
      have k739 := wd_at.ad ew734 hq735 k704
      have k740 := wd_at.ad ew734 hq735 k705
      have k741 := wd_at.ad ew734 hq735 k706
      have k742 := wd_at.ad ew734 hq735 k707
      have k743 := wd_at.ad ew734 hq735 k708
      have k744 := wd_at.ad ew734 hq735 k709
      have k745 := wd_at.ad ew734 hq735 k710
      have k746 := wd_at.ad ew734 hq735 k711
      have k747 := wd_at.ad ew734 hq735 k712
      have k748 := wd_at.ad ew734 hq735 k713
      have k749 := wd_at.ad ew734 hq735 k714
      have k750 := wd_at.ad ew734 hq735 k715
      have k751 := wd_at.ad ew734 hq735 k716
      have k752 := wd_at.ad ew734 hq735 k717
      have k753 := wd_at.ad ew734 hq735 k718
      have k754 := wd_at.ad ew734 hq735 k719
      have k755 := wd_at.ad ew734 hq735 k720
      have k756 := wd_at.ad ew734 hq735 k721
      have k757 := wd_at.ad ew734 hq735 k722
      have k758 := wd_at.ad ew734 hq735 k723
      have k759 := wd_at.ad ew734 hq735 k724
      have k760 := wd_at.ad ew734 hq735 k725
      have k761 := wd_at.ad ew734 hq735 k726
      have k762 := wd_at.ad ew734 hq735 k727
      have k763 := wd_at.ad ew734 hq735 k728
      have k764 := wd_at.ad ew734 hq735 k729
      have k765 : wd_at w733 a10 (.inr (2, [.null, .int 0, .int 0])) := wd_at.nw ew734
      have fm766 : ∀ i9, i9 < 12 → tf i9 = some (tn i9) ∧ wd_at w733 (tn i9) (.inr (8, [.int (co i9), .int (ra i9), .int (se i9), .ref (ag i9)])) ∧ tg630 (tn i9) = 100 + i9 := fun i9 hi9 => ⟨(fm730 i9 hi9).1, wd_at.ad ew734 hq735 (fm730 i9 hi9).2.1, (fm730 i9 hi9).2.2⟩
      have fn767 : ∀ i9, i9 < 12 → (tn i9) ≠ a10 := fun i9 hi9 => wd_nL hq735 (fm730 i9 hi9).2.1
      have fm768 : ∀ k9, k9 < 13 → (aOK (cfn k9) (nfn k9) ∧ run k9 ≤ 12) ∧ wd_at w733 (aan k9) (.inr (1, [.ref (ga0n k9), .ref (ga1n k9), .ref (ga2n k9), .ref (ga3n k9), .ref (ga4n k9), .int (nI (run k9))])) ∧ tg630 (aan k9) = 200 + k9 ∧ wd_at w733 (ga0n k9) (.inl (cy 2, 12, .inl (dfn k9))) ∧ tg630 (ga0n k9) = 220 + k9 ∧ wd_at w733 (ga1n k9) (.inl (cy 2, 12, .inl (cfn k9))) ∧ tg630 (ga1n k9) = 240 + k9 ∧ wd_at w733 (ga2n k9) (.inl (cy 2, 72, .inl (nfn k9))) ∧ tg630 (ga2n k9) = 260 + k9 ∧ wd_at w733 (ga3n k9) (.inl (cy 1, 72, .inl (sfn k9))) ∧ tg630 (ga3n k9) = 280 + k9 ∧ wd_at w733 (ga4n k9) (.inl (cy 2, 72, .inl (ufn k9))) ∧ tg630 (ga4n k9) = 300 + k9 := fun k9 hi9 => ⟨(fm731 k9 hi9).1, wd_at.ad ew734 hq735 (fm731 k9 hi9).2.1, (fm731 k9 hi9).2.2.1, wd_at.ad ew734 hq735 (fm731 k9 hi9).2.2.2.1, (fm731 k9 hi9).2.2.2.2.1, wd_at.ad ew734 hq735 (fm731 k9 hi9).2.2.2.2.2.1, (fm731 k9 hi9).2.2.2.2.2.2.1, wd_at.ad ew734 hq735 (fm731 k9 hi9).2.2.2.2.2.2.2.1, (fm731 k9 hi9).2.2.2.2.2.2.2.2.1, wd_at.ad ew734 hq735 (fm731 k9 hi9).2.2.2.2.2.2.2.2.2.1, (fm731 k9 hi9).2.2.2.2.2.2.2.2.2.2.1, wd_at.ad ew734 hq735 (fm731 k9 hi9).2.2.2.2.2.2.2.2.2.2.2.1, (fm731 k9 hi9).2.2.2.2.2.2.2.2.2.2.2.2⟩
      have fn769 : ∀ k9, k9 < 13 → (aan k9) ≠ a10 ∧ (ga0n k9) ≠ a10 ∧ (ga1n k9) ≠ a10 ∧ (ga2n k9) ≠ a10 ∧ (ga3n k9) ≠ a10 ∧ (ga4n k9) ≠ a10 := fun k9 hi9 => ⟨wd_nL hq735 (fm731 k9 hi9).2.1, wd_nL hq735 (fm731 k9 hi9).2.2.2.1, wd_nL hq735 (fm731 k9 hi9).2.2.2.2.2.1, wd_nL hq735 (fm731 k9 hi9).2.2.2.2.2.2.2.1, wd_nL hq735 (fm731 k9 hi9).2.2.2.2.2.2.2.2.2.1, wd_nL hq735 (fm731 k9 hi9).2.2.2.2.2.2.2.2.2.2.2.1⟩
      have kp770 := kp732.add ew734 hq735
      obtain ⟨tg771, et772⟩ : ∃ f : Nat → Nat, f = va_up tg630 a10 (30 + 0) := ⟨_, rfl⟩
      have t773 := tgX et772 (wd_nL hq735 k701) t670
      have t774 := tgX et772 (wd_nL hq735 k702) t671
      have t775 := tgX et772 (wd_nL hq735 k703) t672
      have t776 := tgX et772 (wd_nL hq735 k704) t673
      have t777 := tgX et772 (wd_nL hq735 k705) t674
      have t778 := tgX et772 (wd_nL hq735 k706) t675
      have t779 := tgX et772 (wd_nL hq735 k707) t676
      have t780 := tgX et772 (wd_nL hq735 k708) t677
      have t781 := tgX et772 (wd_nL hq735 k709) t678
      have t782 := tgX et772 (wd_nL hq735 k710) t679
      have t783 := tgX et772 (wd_nL hq735 k711) t680
      have t784 := tgX et772 (wd_nL hq735 k712) t681
      have t785 := tgX et772 (wd_nL hq735 k713) t682
      have t786 := tgX et772 (wd_nL hq735 k714) t683
      have t787 := tgX et772 (wd_nL hq735 k715) t684
      have t788 := tgX et772 (wd_nL hq735 k716) t685
      have t789 := tgX et772 (wd_nL hq735 k717) t686
      have t790 := tgX et772 (wd_nL hq735 k718) t687
      have t791 := tgX et772 (wd_nL hq735 k719) t688
      have t792 := tgX et772 (wd_nL hq735 k720) t689
      have t793 := tgX et772 (wd_nL hq735 k721) t690
      have t794 := tgX et772 (wd_nL hq735 k722) t691
      have t795 := tgX et772 (wd_nL hq735 k723) t692
      have t796 := tgX et772 (wd_nL hq735 k724) t693
      have t797 := tgX et772 (wd_nL hq735 k725) t639
      have t798 := tgX et772 (wd_nL hq735 k726) t640
      have t799 := tgX et772 (wd_nL hq735 k727) t641
      have t800 := tgX et772 (wd_nL hq735 k728) t642
      have t801 := tgX et772 (wd_nL hq735 k729) t643
      have fm802 : ∀ i9, i9 < 12 → tf i9 = some (tn i9) ∧ wd_at w733 (tn i9) (.inr (8, [.int (co i9), .int (ra i9), .int (se i9), .ref (ag i9)])) ∧ tg771 (tn i9) = 100 + i9 := fun i9 hi9 => ⟨(fm766 i9 hi9).1, (fm766 i9 hi9).2.1, tgX et772 (fn767 i9 hi9) (fm766 i9 hi9).2.2⟩
      have fm803 : ∀ k9, k9 < 13 → (aOK (cfn k9) (nfn k9) ∧ run k9 ≤ 12) ∧ wd_at w733 (aan k9) (.inr (1, [.ref (ga0n k9), .ref (ga1n k9), .ref (ga2n k9), .ref (ga3n k9), .ref (ga4n k9), .int (nI (run k9))])) ∧ tg771 (aan k9) = 200 + k9 ∧ wd_at w733 (ga0n k9) (.inl (cy 2, 12, .inl (dfn k9))) ∧ tg771 (ga0n k9) = 220 + k9 ∧ wd_at w733 (ga1n k9) (.inl (cy 2, 12, .inl (cfn k9))) ∧ tg771 (ga1n k9) = 240 + k9 ∧ wd_at w733 (ga2n k9) (.inl (cy 2, 72, .inl (nfn k9))) ∧ tg771 (ga2n k9) = 260 + k9 ∧ wd_at w733 (ga3n k9) (.inl (cy 1, 72, .inl (sfn k9))) ∧ tg771 (ga3n k9) = 280 + k9 ∧ wd_at w733 (ga4n k9) (.inl (cy 2, 72, .inl (ufn k9))) ∧ tg771 (ga4n k9) = 300 + k9 := fun k9 hi9 => ⟨(fm768 k9 hi9).1, (fm768 k9 hi9).2.1, tgX et772 ((fn769 k9 hi9).1) (fm768 k9 hi9).2.2.1, (fm768 k9 hi9).2.2.2.1, tgX et772 ((fn769 k9 hi9).2.1) (fm768 k9 hi9).2.2.2.2.1, (fm768 k9 hi9).2.2.2.2.2.1, tgX et772 ((fn769 k9 hi9).2.2.1) (fm768 k9 hi9).2.2.2.2.2.2.1, (fm768 k9 hi9).2.2.2.2.2.2.2.1, tgX et772 ((fn769 k9 hi9).2.2.2.1) (fm768 k9 hi9).2.2.2.2.2.2.2.2.1, (fm768 k9 hi9).2.2.2.2.2.2.2.2.2.1, tgX et772 ((fn769 k9 hi9).2.2.2.2.1) (fm768 k9 hi9).2.2.2.2.2.2.2.2.2.2.1, (fm768 k9 hi9).2.2.2.2.2.2.2.2.2.2.2.1, tgX et772 ((fn769 k9 hi9).2.2.2.2.2) (fm768 k9 hi9).2.2.2.2.2.2.2.2.2.2.2.2⟩
      have hext804 := tgE et772 (kp732.out hq735) hext696
      refine lv_dup hx hb dX10_init_133 rfl ?_
      refine x_callI (ret := none) (n := 0) (As := []) (rest := [.ref a10, .ref x]) F hP hD hS (i_law l D cy sk sv w733 tg771 0 a10 k765 (fun b => b = a10) rfl (tgN et772)) gX10_init_X2_init rfl (List.mem_cons_of_mem _ (List.mem_append_left _ (List.mem_append_left _ (List.mem_append_left _ (List.mem_append_left _ (List.mem_append_left _ (List.mem_append_left _ (List.mem_append_left _ (List.mem_append_right _ (List.mem_append_left _ (List.mem_of_getElem? (i := 11) rfl))))))))))) (List.mem_cons_of_mem _ (List.mem_append_left _ (List.mem_append_left _ (List.mem_append_left _ (List.mem_append_left _ (List.mem_append_left _ (List.mem_append_left _ (List.mem_append_left _ (List.mem_append_right _ (List.mem_append_right _ (List.mem_append_right _ (List.mem_append_left _ (List.mem_of_getElem? (i := 21) rfl))))))))))))) (List.mem_cons_of_mem _ (List.mem_append_left _ (List.mem_append_left _ (List.mem_append_left _ (List.mem_append_left _ (List.mem_append_left _ (List.mem_append_left _ (List.mem_append_left _ (List.mem_append_right _ (List.mem_append_right _ (List.mem_append_right _ (List.mem_append_left _ (List.mem_of_getElem? (i := 22) rfl))))))))))))) rfl (by decide +kernel) ⟨(Nat.le_of_ble_eq_true rfl), (Nat.le_of_ble_eq_true rfl)⟩ rfl hl.1 (Nat.le_of_ble_eq_true rfl) dX10_init_134 rfl ⟨(Nat.le_of_ble_eq_true rfl), (Nat.le_of_ble_eq_true rfl)⟩ (fun v806 w807 hp805 H locs hP hD hS => ?_)
      obtain ⟨rfl, kq809, tg808, bl, bf, hag810, k811, k812, t813⟩ := hp805
      have k814 := kq809.2 _ _ k736 (wd_nL hq735 k701)
      have k815 := kq809.2 _ _ k737 (wd_nL hq735 k702)
      have k816 := kq809.2 _ _ k738 (wd_nL hq735 k703)
      have k817 := kq809.2 _ _ k739 (wd_nL hq735 k704)
      have k818 := kq809.2 _ _ k740 (wd_nL hq735 k705)
      have k819 := kq809.2 _ _ k741 (wd_nL hq735 k706)
      have k820 := kq809.2 _ _ k742 (wd_nL hq735 k707)
      have k821 := kq809.2 _ _ k743 (wd_nL hq735 k708)
      have k822 := kq809.2 _ _ k744 (wd_nL hq735 k709)
      have k823 := kq809.2 _ _ k745 (wd_nL hq735 k710)
      have k824 := kq809.2 _ _ k746 (wd_nL hq735 k711)
      have k825 := kq809.2 _ _ k747 (wd_nL hq735 k712)
      have k826 := kq809.2 _ _ k748 (wd_nL hq735 k713)
      have k827 := kq809.2 _ _ k749 (wd_nL hq735 k714)
      have k828 := kq809.2 _ _ k750 (wd_nL hq735 k715)
      have k829 := kq809.2 _ _ k751 (wd_nL hq735 k716)
      have k830 := kq809.2 _ _ k752 (wd_nL hq735 k717)
      have k831 := kq809.2 _ _ k753 (wd_nL hq735 k718)
      have k832 := kq809.2 _ _ k754 (wd_nL hq735 k719)
      have k833 := kq809.2 _ _ k755 (wd_nL hq735 k720)
      have k834 := kq809.2 _ _ k756 (wd_nL hq735 k721)
      have k835 := kq809.2 _ _ k757 (wd_nL hq735 k722)
      have k836 := kq809.2 _ _ k758 (wd_nL hq735 k723)
      have k837 := kq809.2 _ _ k759 (wd_nL hq735 k724)
      have k838 := kq809.2 _ _ k760 (wd_nL hq735 k725)
      have k839 := kq809.2 _ _ k761 (wd_nL hq735 k726)
      have k840 := kq809.2 _ _ k762 (wd_nL hq735 k727)
      have k841 := kq809.2 _ _ k763 (wd_nL hq735 k728)
      have k842 := kq809.2 _ _ k764 (wd_nL hq735 k729)
      have fm843 : ∀ i9, i9 < 12 → tf i9 = some (tn i9) ∧ wd_at w807 (tn i9) (.inr (8, [.int (co i9), .int (ra i9), .int (se i9), .ref (ag i9)])) ∧ tg771 (tn i9) = 100 + i9 := fun i9 hi9 => ⟨(fm802 i9 hi9).1, kq809.2 _ _ (fm802 i9 hi9).2.1 (fn767 i9 hi9), (fm802 i9 hi9).2.2⟩
      have fm844 : ∀ k9, k9 < 13 → (aOK (cfn k9) (nfn k9) ∧ run k9 ≤ 12) ∧ wd_at w807 (aan k9) (.inr (1, [.ref (ga0n k9), .ref (ga1n k9), .ref (ga2n k9), .ref (ga3n k9), .ref (ga4n k9), .int (nI (run k9))])) ∧ tg771 (aan k9) = 200 + k9 ∧ wd_at w807 (ga0n k9) (.inl (cy 2, 12, .inl (dfn k9))) ∧ tg771 (ga0n k9) = 220 + k9 ∧ wd_at w807 (ga1n k9) (.inl (cy 2, 12, .inl (cfn k9))) ∧ tg771 (ga1n k9) = 240 + k9 ∧ wd_at w807 (ga2n k9) (.inl (cy 2, 72, .inl (nfn k9))) ∧ tg771 (ga2n k9) = 260 + k9 ∧ wd_at w807 (ga3n k9) (.inl (cy 1, 72, .inl (sfn k9))) ∧ tg771 (ga3n k9) = 280 + k9 ∧ wd_at w807 (ga4n k9) (.inl (cy 2, 72, .inl (ufn k9))) ∧ tg771 (ga4n k9) = 300 + k9 := fun k9 hi9 => ⟨(fm803 k9 hi9).1, kq809.2 _ _ (fm803 k9 hi9).2.1 ((fn769 k9 hi9).1), (fm803 k9 hi9).2.2.1, kq809.2 _ _ (fm803 k9 hi9).2.2.2.1 ((fn769 k9 hi9).2.1), (fm803 k9 hi9).2.2.2.2.1, kq809.2 _ _ (fm803 k9 hi9).2.2.2.2.2.1 ((fn769 k9 hi9).2.2.1), (fm803 k9 hi9).2.2.2.2.2.2.1, kq809.2 _ _ (fm803 k9 hi9).2.2.2.2.2.2.2.1 ((fn769 k9 hi9).2.2.2.1), (fm803 k9 hi9).2.2.2.2.2.2.2.2.1, kq809.2 _ _ (fm803 k9 hi9).2.2.2.2.2.2.2.2.2.1 ((fn769 k9 hi9).2.2.2.2.1), (fm803 k9 hi9).2.2.2.2.2.2.2.2.2.2.1, kq809.2 _ _ (fm803 k9 hi9).2.2.2.2.2.2.2.2.2.2.2.1 ((fn769 k9 hi9).2.2.2.2.2), (fm803 k9 hi9).2.2.2.2.2.2.2.2.2.2.2.2⟩
      have kp845 := kp770.tr kq809 (fun b9 hm q9 => (fun q9 => absurd (q9 ▸ hm) (kp732.out hq735)) q9)
      have t846 := (hag810 _ k736.1).trans t773
      have t847 := (hag810 _ k737.1).trans t774
      have t848 := (hag810 _ k738.1).trans t775
      have t849 := (hag810 _ k739.1).trans t776
      have t850 := (hag810 _ k740.1).trans t777
      have t851 := (hag810 _ k741.1).trans t778
      have t852 := (hag810 _ k742.1).trans t779
      have t853 := (hag810 _ k743.1).trans t780
      have t854 := (hag810 _ k744.1).trans t781
      have t855 := (hag810 _ k745.1).trans t782
      have t856 := (hag810 _ k746.1).trans t783
      have t857 := (hag810 _ k747.1).trans t784
      have t858 := (hag810 _ k748.1).trans t785
      have t859 := (hag810 _ k749.1).trans t786
      have t860 := (hag810 _ k750.1).trans t787
      have t861 := (hag810 _ k751.1).trans t788
      have t862 := (hag810 _ k752.1).trans t789
      have t863 := (hag810 _ k753.1).trans t790
      have t864 := (hag810 _ k754.1).trans t791
      have t865 := (hag810 _ k755.1).trans t792
      have t866 := (hag810 _ k756.1).trans t793
      have t867 := (hag810 _ k757.1).trans t794
      have t868 := (hag810 _ k758.1).trans t795
      have t869 := (hag810 _ k759.1).trans t796
      have t870 := (hag810 _ k760.1).trans t797
      have t871 := (hag810 _ k761.1).trans t798
      have t872 := (hag810 _ k762.1).trans t799
      have t873 := (hag810 _ k763.1).trans t800
      have t874 := (hag810 _ k764.1).trans t801
      have t875 := (hag810 _ k765.1).trans (tgN et772)
      have fm876 : ∀ i9, i9 < 12 → tf i9 = some (tn i9) ∧ wd_at w807 (tn i9) (.inr (8, [.int (co i9), .int (ra i9), .int (se i9), .ref (ag i9)])) ∧ tg808 (tn i9) = 100 + i9 := fun i9 hi9 => ⟨(fm843 i9 hi9).1, (fm843 i9 hi9).2.1, (hag810 _ ((fm802 i9 hi9).2.1).1).trans (fm843 i9 hi9).2.2⟩
      have fm877 : ∀ k9, k9 < 13 → (aOK (cfn k9) (nfn k9) ∧ run k9 ≤ 12) ∧ wd_at w807 (aan k9) (.inr (1, [.ref (ga0n k9), .ref (ga1n k9), .ref (ga2n k9), .ref (ga3n k9), .ref (ga4n k9), .int (nI (run k9))])) ∧ tg808 (aan k9) = 200 + k9 ∧ wd_at w807 (ga0n k9) (.inl (cy 2, 12, .inl (dfn k9))) ∧ tg808 (ga0n k9) = 220 + k9 ∧ wd_at w807 (ga1n k9) (.inl (cy 2, 12, .inl (cfn k9))) ∧ tg808 (ga1n k9) = 240 + k9 ∧ wd_at w807 (ga2n k9) (.inl (cy 2, 72, .inl (nfn k9))) ∧ tg808 (ga2n k9) = 260 + k9 ∧ wd_at w807 (ga3n k9) (.inl (cy 1, 72, .inl (sfn k9))) ∧ tg808 (ga3n k9) = 280 + k9 ∧ wd_at w807 (ga4n k9) (.inl (cy 2, 72, .inl (ufn k9))) ∧ tg808 (ga4n k9) = 300 + k9 := fun k9 hi9 => ⟨(fm844 k9 hi9).1, (fm844 k9 hi9).2.1, (hag810 _ ((fm803 k9 hi9).2.1).1).trans (fm844 k9 hi9).2.2.1, (fm844 k9 hi9).2.2.2.1, (hag810 _ ((fm803 k9 hi9).2.2.2.1).1).trans (fm844 k9 hi9).2.2.2.2.1, (fm844 k9 hi9).2.2.2.2.2.1, (hag810 _ ((fm803 k9 hi9).2.2.2.2.2.1).1).trans (fm844 k9 hi9).2.2.2.2.2.2.1, (fm844 k9 hi9).2.2.2.2.2.2.2.1, (hag810 _ ((fm803 k9 hi9).2.2.2.2.2.2.2.1).1).trans (fm844 k9 hi9).2.2.2.2.2.2.2.2.1, (fm844 k9 hi9).2.2.2.2.2.2.2.2.2.1, (hag810 _ ((fm803 k9 hi9).2.2.2.2.2.2.2.2.2.1).1).trans (fm844 k9 hi9).2.2.2.2.2.2.2.2.2.2.1, (fm844 k9 hi9).2.2.2.2.2.2.2.2.2.2.2.1, (hag810 _ ((fm803 k9 hi9).2.2.2.2.2.2.2.2.2.2.2.1).1).trans (fm844 k9 hi9).2.2.2.2.2.2.2.2.2.2.2.2⟩
      have hext878 := fun a ha => (hag810 a (kp770.1 a ha)).trans (hext804 a ha)
      refine W.eq (g2 := F0 m 137 ls [.ref a10, .ref x]) rfl (W.widen (k := 114) (n := 4724) (Nat.le_of_ble_eq_true rfl) (Nat.le_of_ble_eq_true rfl) ?_)
      refine y_put (ref := "NoteHouse") F hP hD hS k814 rfl (fun _ h => List.mem_cons_of_mem _ (List.mem_append_left _ (List.mem_append_left _ (List.mem_append_left _ (List.mem_append_left _ (List.mem_append_left _ (List.mem_append_right _ (h)))))))) tyX10_ok nmX10 10 (Nat.le_of_ble_eq_true rfl) (List.mem_cons_of_mem _ (List.mem_append_left _ (List.mem_append_left _ (List.mem_append_left _ (List.mem_append_left _ (List.mem_append_left _ (List.mem_append_left _ (List.mem_append_left _ (List.mem_append_right _ (List.mem_append_left _ (List.mem_of_getElem? (i := 12) rfl))))))))))) rfl rfl rfl rfl (Nat.le_of_ble_eq_true rfl) dX10_init_137 (fun w879 ew880 H locs hP hD hS => ?_)
      have k881 : wd_at w879 x (.inr (10, [.ref a0, .ref a1, .ref a2, .ref a3, .ref a4, .ref a5, .ref a6, .ref a7, .ref a8, .ref a9, .ref a10, .null, .int 0, .int 0, .int 0, .int 0, .int 0])) := wd_at.ps ew880 k814
      have k882 := wd_at.pt ew880 k815 (tg_ne t847 t846 (by decide))
      have k883 := wd_at.pt ew880 k816 (tg_ne t848 t846 (by decide))
      have k884 := wd_at.pt ew880 k817 (tg_ne t849 t846 (by decide))
      have k885 := wd_at.pt ew880 k818 (tg_ne t850 t846 (by decide))
      have k886 := wd_at.pt ew880 k819 (tg_ne t851 t846 (by decide))
      have k887 := wd_at.pt ew880 k820 (tg_ne t852 t846 (by decide))
      have k888 := wd_at.pt ew880 k821 (tg_ne t853 t846 (by decide))
      have k889 := wd_at.pt ew880 k822 (tg_ne t854 t846 (by decide))
      have k890 := wd_at.pt ew880 k823 (tg_ne t855 t846 (by decide))
      have k891 := wd_at.pt ew880 k824 (tg_ne t856 t846 (by decide))
      have k892 := wd_at.pt ew880 k825 (tg_ne t857 t846 (by decide))
      have k893 := wd_at.pt ew880 k826 (tg_ne t858 t846 (by decide))
      have k894 := wd_at.pt ew880 k827 (tg_ne t859 t846 (by decide))
      have k895 := wd_at.pt ew880 k828 (tg_ne t860 t846 (by decide))
      have k896 := wd_at.pt ew880 k829 (tg_ne t861 t846 (by decide))
      have k897 := wd_at.pt ew880 k830 (tg_ne t862 t846 (by decide))
      have k898 := wd_at.pt ew880 k831 (tg_ne t863 t846 (by decide))
      have k899 := wd_at.pt ew880 k832 (tg_ne t864 t846 (by decide))
      have k900 := wd_at.pt ew880 k833 (tg_ne t865 t846 (by decide))
      have k901 := wd_at.pt ew880 k834 (tg_ne t866 t846 (by decide))
      have k902 := wd_at.pt ew880 k835 (tg_ne t867 t846 (by decide))
      have k903 := wd_at.pt ew880 k836 (tg_ne t868 t846 (by decide))
      have k904 := wd_at.pt ew880 k837 (tg_ne t869 t846 (tnA (show 0 < 200 by decide)))
      have k905 := wd_at.pt ew880 k838 (tg_ne t870 t846 (tnA (show 0 < 220 by decide)))
      have k906 := wd_at.pt ew880 k839 (tg_ne t871 t846 (tnA (show 0 < 240 by decide)))
      have k907 := wd_at.pt ew880 k840 (tg_ne t872 t846 (tnA (show 0 < 260 by decide)))
      have k908 := wd_at.pt ew880 k841 (tg_ne t873 t846 (tnA (show 0 < 280 by decide)))
      have k909 := wd_at.pt ew880 k842 (tg_ne t874 t846 (tnA (show 0 < 300 by decide)))
      have k910 := wd_at.pt ew880 k811 (tg_ne t875 t846 (tnA (show 0 < 30 by decide)))
      have k911 := wd_at.pt ew880 k812 (tg_ne t813 t846 (tnA (show 0 < 32 by decide)))
      have fm912 : ∀ i9, i9 < 12 → tf i9 = some (tn i9) ∧ wd_at w879 (tn i9) (.inr (8, [.int (co i9), .int (ra i9), .int (se i9), .ref (ag i9)])) ∧ tg808 (tn i9) = 100 + i9 := fun i9 hi9 => ⟨(fm876 i9 hi9).1, wd_at.pt ew880 (fm876 i9 hi9).2.1 (tg_ne (fm876 i9 hi9).2.2 t846 (tnA (show 0 < 100 by decide))), (fm876 i9 hi9).2.2⟩
      have fm913 : ∀ k9, k9 < 13 → (aOK (cfn k9) (nfn k9) ∧ run k9 ≤ 12) ∧ wd_at w879 (aan k9) (.inr (1, [.ref (ga0n k9), .ref (ga1n k9), .ref (ga2n k9), .ref (ga3n k9), .ref (ga4n k9), .int (nI (run k9))])) ∧ tg808 (aan k9) = 200 + k9 ∧ wd_at w879 (ga0n k9) (.inl (cy 2, 12, .inl (dfn k9))) ∧ tg808 (ga0n k9) = 220 + k9 ∧ wd_at w879 (ga1n k9) (.inl (cy 2, 12, .inl (cfn k9))) ∧ tg808 (ga1n k9) = 240 + k9 ∧ wd_at w879 (ga2n k9) (.inl (cy 2, 72, .inl (nfn k9))) ∧ tg808 (ga2n k9) = 260 + k9 ∧ wd_at w879 (ga3n k9) (.inl (cy 1, 72, .inl (sfn k9))) ∧ tg808 (ga3n k9) = 280 + k9 ∧ wd_at w879 (ga4n k9) (.inl (cy 2, 72, .inl (ufn k9))) ∧ tg808 (ga4n k9) = 300 + k9 := fun k9 hi9 => ⟨(fm877 k9 hi9).1, wd_at.pt ew880 (fm877 k9 hi9).2.1 (tg_ne (fm877 k9 hi9).2.2.1 t846 (tnA (show 0 < 200 by decide))), (fm877 k9 hi9).2.2.1, wd_at.pt ew880 (fm877 k9 hi9).2.2.2.1 (tg_ne (fm877 k9 hi9).2.2.2.2.1 t846 (tnA (show 0 < 220 by decide))), (fm877 k9 hi9).2.2.2.2.1, wd_at.pt ew880 (fm877 k9 hi9).2.2.2.2.2.1 (tg_ne (fm877 k9 hi9).2.2.2.2.2.2.1 t846 (tnA (show 0 < 240 by decide))), (fm877 k9 hi9).2.2.2.2.2.2.1, wd_at.pt ew880 (fm877 k9 hi9).2.2.2.2.2.2.2.1 (tg_ne (fm877 k9 hi9).2.2.2.2.2.2.2.2.1 t846 (tnA (show 0 < 260 by decide))), (fm877 k9 hi9).2.2.2.2.2.2.2.2.1, wd_at.pt ew880 (fm877 k9 hi9).2.2.2.2.2.2.2.2.2.1 (tg_ne (fm877 k9 hi9).2.2.2.2.2.2.2.2.2.2.1 t846 (tnA (show 0 < 280 by decide))), (fm877 k9 hi9).2.2.2.2.2.2.2.2.2.2.1, wd_at.pt ew880 (fm877 k9 hi9).2.2.2.2.2.2.2.2.2.2.2.1 (tg_ne (fm877 k9 hi9).2.2.2.2.2.2.2.2.2.2.2.2 t846 (tnA (show 0 < 300 by decide))), (fm877 k9 hi9).2.2.2.2.2.2.2.2.2.2.2.2⟩
      have kp914 := kp845.put ew880 sy
      refine lv_aload_n hx hb dX10_init_140 rfl (lv_at hl 0 rfl) ?_
      refine y_new (fs := [.null, .int 0, .int 0]) F hP hD hS (ci := 2) rfl (fun _ h => List.mem_cons_of_mem _ (List.mem_append_right _ (h))) tyX2_ok (List.mem_cons_of_mem _ (List.mem_append_left _ (List.mem_append_left _ (List.mem_append_left _ (List.mem_append_left _ (List.mem_append_left _ (List.mem_append_left _ (List.mem_append_left _ (List.mem_append_right _ (List.mem_append_left _ (List.mem_of_getElem? (i := 9) rfl))))))))))) (List.mem_cons_of_mem _ (List.mem_append_left _ (List.mem_append_left _ (List.mem_append_left _ (List.mem_append_left _ (List.mem_append_left _ (List.mem_append_left _ (List.mem_append_left _ (List.mem_append_right _ (List.mem_append_left _ (List.mem_of_getElem? (i := 10) rfl))))))))))) (List.mem_cons_of_mem _ (List.mem_append_left _ (List.mem_append_left _ (List.mem_append_left _ (List.mem_append_left _ (List.mem_append_left _ (List.mem_append_left _ (List.mem_append_left _ (List.mem_append_right _ (List.mem_append_left _ (List.mem_of_getElem? (i := 11) rfl))))))))))) df_2 (Nat.le_of_ble_eq_true rfl) (Nat.le_of_ble_eq_true rfl) dX10_init_141 (fun a11 w915 ew916 hq917 H hP hD hS => ?_)
      refine W.widen (k := 115) (n := 4727) (Nat.le_of_ble_eq_true rfl) (Nat.le_of_ble_eq_true rfl) ?_
      have k918 := wd_at.ad ew916 hq917 k881
      have k919 := wd_at.ad ew916 hq917 k882
      have k920 := wd_at.ad ew916 hq917 k883
      have k921 := wd_at.ad ew916 hq917 k884
      have k922 := wd_at.ad ew916 hq917 k885
      have k923 := wd_at.ad ew916 hq917 k886
      have k924 := wd_at.ad ew916 hq917 k887
      have k925 := wd_at.ad ew916 hq917 k888
      have k926 := wd_at.ad ew916 hq917 k889
      have k927 := wd_at.ad ew916 hq917 k890
      have k928 := wd_at.ad ew916 hq917 k891
      have k929 := wd_at.ad ew916 hq917 k892
      have k930 := wd_at.ad ew916 hq917 k893
      have k931 := wd_at.ad ew916 hq917 k894
      have k932 := wd_at.ad ew916 hq917 k895
      have k933 := wd_at.ad ew916 hq917 k896
      have k934 := wd_at.ad ew916 hq917 k897
      have k935 := wd_at.ad ew916 hq917 k898
      have k936 := wd_at.ad ew916 hq917 k899
      have k937 := wd_at.ad ew916 hq917 k900
      have k938 := wd_at.ad ew916 hq917 k901
      have k939 := wd_at.ad ew916 hq917 k902
      have k940 := wd_at.ad ew916 hq917 k903
      have k941 := wd_at.ad ew916 hq917 k904
      have k942 := wd_at.ad ew916 hq917 k905
      have k943 := wd_at.ad ew916 hq917 k906
      have k944 := wd_at.ad ew916 hq917 k907
      have k945 := wd_at.ad ew916 hq917 k908
      have k946 := wd_at.ad ew916 hq917 k909
      have k947 := wd_at.ad ew916 hq917 k910
      have k948 := wd_at.ad ew916 hq917 k911
      have k949 : wd_at w915 a11 (.inr (2, [.null, .int 0, .int 0])) := wd_at.nw ew916
      have fm950 : ∀ i9, i9 < 12 → tf i9 = some (tn i9) ∧ wd_at w915 (tn i9) (.inr (8, [.int (co i9), .int (ra i9), .int (se i9), .ref (ag i9)])) ∧ tg808 (tn i9) = 100 + i9 := fun i9 hi9 => ⟨(fm912 i9 hi9).1, wd_at.ad ew916 hq917 (fm912 i9 hi9).2.1, (fm912 i9 hi9).2.2⟩
      have fn951 : ∀ i9, i9 < 12 → (tn i9) ≠ a11 := fun i9 hi9 => wd_nL hq917 (fm912 i9 hi9).2.1
      have fm952 : ∀ k9, k9 < 13 → (aOK (cfn k9) (nfn k9) ∧ run k9 ≤ 12) ∧ wd_at w915 (aan k9) (.inr (1, [.ref (ga0n k9), .ref (ga1n k9), .ref (ga2n k9), .ref (ga3n k9), .ref (ga4n k9), .int (nI (run k9))])) ∧ tg808 (aan k9) = 200 + k9 ∧ wd_at w915 (ga0n k9) (.inl (cy 2, 12, .inl (dfn k9))) ∧ tg808 (ga0n k9) = 220 + k9 ∧ wd_at w915 (ga1n k9) (.inl (cy 2, 12, .inl (cfn k9))) ∧ tg808 (ga1n k9) = 240 + k9 ∧ wd_at w915 (ga2n k9) (.inl (cy 2, 72, .inl (nfn k9))) ∧ tg808 (ga2n k9) = 260 + k9 ∧ wd_at w915 (ga3n k9) (.inl (cy 1, 72, .inl (sfn k9))) ∧ tg808 (ga3n k9) = 280 + k9 ∧ wd_at w915 (ga4n k9) (.inl (cy 2, 72, .inl (ufn k9))) ∧ tg808 (ga4n k9) = 300 + k9 := fun k9 hi9 => ⟨(fm913 k9 hi9).1, wd_at.ad ew916 hq917 (fm913 k9 hi9).2.1, (fm913 k9 hi9).2.2.1, wd_at.ad ew916 hq917 (fm913 k9 hi9).2.2.2.1, (fm913 k9 hi9).2.2.2.2.1, wd_at.ad ew916 hq917 (fm913 k9 hi9).2.2.2.2.2.1, (fm913 k9 hi9).2.2.2.2.2.2.1, wd_at.ad ew916 hq917 (fm913 k9 hi9).2.2.2.2.2.2.2.1, (fm913 k9 hi9).2.2.2.2.2.2.2.2.1, wd_at.ad ew916 hq917 (fm913 k9 hi9).2.2.2.2.2.2.2.2.2.1, (fm913 k9 hi9).2.2.2.2.2.2.2.2.2.2.1, wd_at.ad ew916 hq917 (fm913 k9 hi9).2.2.2.2.2.2.2.2.2.2.2.1, (fm913 k9 hi9).2.2.2.2.2.2.2.2.2.2.2.2⟩
      have fn953 : ∀ k9, k9 < 13 → (aan k9) ≠ a11 ∧ (ga0n k9) ≠ a11 ∧ (ga1n k9) ≠ a11 ∧ (ga2n k9) ≠ a11 ∧ (ga3n k9) ≠ a11 ∧ (ga4n k9) ≠ a11 := fun k9 hi9 => ⟨wd_nL hq917 (fm913 k9 hi9).2.1, wd_nL hq917 (fm913 k9 hi9).2.2.2.1, wd_nL hq917 (fm913 k9 hi9).2.2.2.2.2.1, wd_nL hq917 (fm913 k9 hi9).2.2.2.2.2.2.2.1, wd_nL hq917 (fm913 k9 hi9).2.2.2.2.2.2.2.2.2.1, wd_nL hq917 (fm913 k9 hi9).2.2.2.2.2.2.2.2.2.2.2.1⟩
      have kp954 := kp914.add ew916 hq917
      obtain ⟨tg955, et956⟩ : ∃ f : Nat → Nat, f = va_up tg808 a11 (30 + 1) := ⟨_, rfl⟩
      have t957 := tgX et956 (wd_nL hq917 k881) t846
      have t958 := tgX et956 (wd_nL hq917 k882) t847
      have t959 := tgX et956 (wd_nL hq917 k883) t848
      have t960 := tgX et956 (wd_nL hq917 k884) t849
      have t961 := tgX et956 (wd_nL hq917 k885) t850
      have t962 := tgX et956 (wd_nL hq917 k886) t851
      have t963 := tgX et956 (wd_nL hq917 k887) t852
      have t964 := tgX et956 (wd_nL hq917 k888) t853
      have t965 := tgX et956 (wd_nL hq917 k889) t854
      have t966 := tgX et956 (wd_nL hq917 k890) t855
      have t967 := tgX et956 (wd_nL hq917 k891) t856
      have t968 := tgX et956 (wd_nL hq917 k892) t857
      have t969 := tgX et956 (wd_nL hq917 k893) t858
      have t970 := tgX et956 (wd_nL hq917 k894) t859
      have t971 := tgX et956 (wd_nL hq917 k895) t860
      have t972 := tgX et956 (wd_nL hq917 k896) t861
      have t973 := tgX et956 (wd_nL hq917 k897) t862
      have t974 := tgX et956 (wd_nL hq917 k898) t863
      have t975 := tgX et956 (wd_nL hq917 k899) t864
      have t976 := tgX et956 (wd_nL hq917 k900) t865
      have t977 := tgX et956 (wd_nL hq917 k901) t866
      have t978 := tgX et956 (wd_nL hq917 k902) t867
      have t979 := tgX et956 (wd_nL hq917 k903) t868
      have t980 := tgX et956 (wd_nL hq917 k904) t869
      have t981 := tgX et956 (wd_nL hq917 k905) t870
      have t982 := tgX et956 (wd_nL hq917 k906) t871
      have t983 := tgX et956 (wd_nL hq917 k907) t872
      have t984 := tgX et956 (wd_nL hq917 k908) t873
      have t985 := tgX et956 (wd_nL hq917 k909) t874
      have t986 := tgX et956 (wd_nL hq917 k910) t875
      have t987 := tgX et956 (wd_nL hq917 k911) t813
      have fm988 : ∀ i9, i9 < 12 → tf i9 = some (tn i9) ∧ wd_at w915 (tn i9) (.inr (8, [.int (co i9), .int (ra i9), .int (se i9), .ref (ag i9)])) ∧ tg955 (tn i9) = 100 + i9 := fun i9 hi9 => ⟨(fm950 i9 hi9).1, (fm950 i9 hi9).2.1, tgX et956 (fn951 i9 hi9) (fm950 i9 hi9).2.2⟩
      have fm989 : ∀ k9, k9 < 13 → (aOK (cfn k9) (nfn k9) ∧ run k9 ≤ 12) ∧ wd_at w915 (aan k9) (.inr (1, [.ref (ga0n k9), .ref (ga1n k9), .ref (ga2n k9), .ref (ga3n k9), .ref (ga4n k9), .int (nI (run k9))])) ∧ tg955 (aan k9) = 200 + k9 ∧ wd_at w915 (ga0n k9) (.inl (cy 2, 12, .inl (dfn k9))) ∧ tg955 (ga0n k9) = 220 + k9 ∧ wd_at w915 (ga1n k9) (.inl (cy 2, 12, .inl (cfn k9))) ∧ tg955 (ga1n k9) = 240 + k9 ∧ wd_at w915 (ga2n k9) (.inl (cy 2, 72, .inl (nfn k9))) ∧ tg955 (ga2n k9) = 260 + k9 ∧ wd_at w915 (ga3n k9) (.inl (cy 1, 72, .inl (sfn k9))) ∧ tg955 (ga3n k9) = 280 + k9 ∧ wd_at w915 (ga4n k9) (.inl (cy 2, 72, .inl (ufn k9))) ∧ tg955 (ga4n k9) = 300 + k9 := fun k9 hi9 => ⟨(fm952 k9 hi9).1, (fm952 k9 hi9).2.1, tgX et956 ((fn953 k9 hi9).1) (fm952 k9 hi9).2.2.1, (fm952 k9 hi9).2.2.2.1, tgX et956 ((fn953 k9 hi9).2.1) (fm952 k9 hi9).2.2.2.2.1, (fm952 k9 hi9).2.2.2.2.2.1, tgX et956 ((fn953 k9 hi9).2.2.1) (fm952 k9 hi9).2.2.2.2.2.2.1, (fm952 k9 hi9).2.2.2.2.2.2.2.1, tgX et956 ((fn953 k9 hi9).2.2.2.1) (fm952 k9 hi9).2.2.2.2.2.2.2.2.1, (fm952 k9 hi9).2.2.2.2.2.2.2.2.2.1, tgX et956 ((fn953 k9 hi9).2.2.2.2.1) (fm952 k9 hi9).2.2.2.2.2.2.2.2.2.2.1, (fm952 k9 hi9).2.2.2.2.2.2.2.2.2.2.2.1, tgX et956 ((fn953 k9 hi9).2.2.2.2.2) (fm952 k9 hi9).2.2.2.2.2.2.2.2.2.2.2.2⟩
      have hext990 := tgE et956 (kp914.out hq917) hext878
      refine lv_dup hx hb dX10_init_144 rfl ?_
      refine x_callI (ret := none) (n := 0) (As := []) (rest := [.ref a11, .ref x]) F hP hD hS (i_law l D cy sk sv w915 tg955 1 a11 k949 (fun b => b = a11) rfl (tgN et956)) gX10_init_X2_init rfl (List.mem_cons_of_mem _ (List.mem_append_left _ (List.mem_append_left _ (List.mem_append_left _ (List.mem_append_left _ (List.mem_append_left _ (List.mem_append_left _ (List.mem_append_left _ (List.mem_append_right _ (List.mem_append_left _ (List.mem_of_getElem? (i := 11) rfl))))))))))) (List.mem_cons_of_mem _ (List.mem_append_left _ (List.mem_append_left _ (List.mem_append_left _ (List.mem_append_left _ (List.mem_append_left _ (List.mem_append_left _ (List.mem_append_left _ (List.mem_append_right _ (List.mem_append_right _ (List.mem_append_right _ (List.mem_append_left _ (List.mem_of_getElem? (i := 21) rfl))))))))))))) (List.mem_cons_of_mem _ (List.mem_append_left _ (List.mem_append_left _ (List.mem_append_left _ (List.mem_append_left _ (List.mem_append_left _ (List.mem_append_left _ (List.mem_append_left _ (List.mem_append_right _ (List.mem_append_right _ (List.mem_append_right _ (List.mem_append_left _ (List.mem_of_getElem? (i := 22) rfl))))))))))))) rfl (by decide +kernel) ⟨(Nat.le_of_ble_eq_true rfl), (Nat.le_of_ble_eq_true rfl)⟩ rfl hl.1 (Nat.le_of_ble_eq_true rfl) dX10_init_145 rfl ⟨(Nat.le_of_ble_eq_true rfl), (Nat.le_of_ble_eq_true rfl)⟩ (fun v992 w993 hp991 H locs hP hD hS => ?_)
      obtain ⟨rfl, kq995, tg994, bm, bf2, hag996, k997, k998, t999⟩ := hp991
      have k1000 := kq995.2 _ _ k918 (wd_nL hq917 k881)
      have k1001 := kq995.2 _ _ k919 (wd_nL hq917 k882)
      have k1002 := kq995.2 _ _ k920 (wd_nL hq917 k883)
      have k1003 := kq995.2 _ _ k921 (wd_nL hq917 k884)
      have k1004 := kq995.2 _ _ k922 (wd_nL hq917 k885)
      have k1005 := kq995.2 _ _ k923 (wd_nL hq917 k886)
      have k1006 := kq995.2 _ _ k924 (wd_nL hq917 k887)
      have k1007 := kq995.2 _ _ k925 (wd_nL hq917 k888)
      have k1008 := kq995.2 _ _ k926 (wd_nL hq917 k889)
      have k1009 := kq995.2 _ _ k927 (wd_nL hq917 k890)
      have k1010 := kq995.2 _ _ k928 (wd_nL hq917 k891)
      have k1011 := kq995.2 _ _ k929 (wd_nL hq917 k892)
      have k1012 := kq995.2 _ _ k930 (wd_nL hq917 k893)
      have k1013 := kq995.2 _ _ k931 (wd_nL hq917 k894)
      have k1014 := kq995.2 _ _ k932 (wd_nL hq917 k895)
      have k1015 := kq995.2 _ _ k933 (wd_nL hq917 k896)
      have k1016 := kq995.2 _ _ k934 (wd_nL hq917 k897)
      have k1017 := kq995.2 _ _ k935 (wd_nL hq917 k898)
      have k1018 := kq995.2 _ _ k936 (wd_nL hq917 k899)
      have k1019 := kq995.2 _ _ k937 (wd_nL hq917 k900)
      have k1020 := kq995.2 _ _ k938 (wd_nL hq917 k901)
      have k1021 := kq995.2 _ _ k939 (wd_nL hq917 k902)
      have k1022 := kq995.2 _ _ k940 (wd_nL hq917 k903)
      have k1023 := kq995.2 _ _ k941 (wd_nL hq917 k904)
      have k1024 := kq995.2 _ _ k942 (wd_nL hq917 k905)
      have k1025 := kq995.2 _ _ k943 (wd_nL hq917 k906)
      have k1026 := kq995.2 _ _ k944 (wd_nL hq917 k907)
      have k1027 := kq995.2 _ _ k945 (wd_nL hq917 k908)
      have k1028 := kq995.2 _ _ k946 (wd_nL hq917 k909)
      have k1029 := kq995.2 _ _ k947 (wd_nL hq917 k910)
      have k1030 := kq995.2 _ _ k948 (wd_nL hq917 k911)
      have fm1031 : ∀ i9, i9 < 12 → tf i9 = some (tn i9) ∧ wd_at w993 (tn i9) (.inr (8, [.int (co i9), .int (ra i9), .int (se i9), .ref (ag i9)])) ∧ tg955 (tn i9) = 100 + i9 := fun i9 hi9 => ⟨(fm988 i9 hi9).1, kq995.2 _ _ (fm988 i9 hi9).2.1 (fn951 i9 hi9), (fm988 i9 hi9).2.2⟩
      have fm1032 : ∀ k9, k9 < 13 → (aOK (cfn k9) (nfn k9) ∧ run k9 ≤ 12) ∧ wd_at w993 (aan k9) (.inr (1, [.ref (ga0n k9), .ref (ga1n k9), .ref (ga2n k9), .ref (ga3n k9), .ref (ga4n k9), .int (nI (run k9))])) ∧ tg955 (aan k9) = 200 + k9 ∧ wd_at w993 (ga0n k9) (.inl (cy 2, 12, .inl (dfn k9))) ∧ tg955 (ga0n k9) = 220 + k9 ∧ wd_at w993 (ga1n k9) (.inl (cy 2, 12, .inl (cfn k9))) ∧ tg955 (ga1n k9) = 240 + k9 ∧ wd_at w993 (ga2n k9) (.inl (cy 2, 72, .inl (nfn k9))) ∧ tg955 (ga2n k9) = 260 + k9 ∧ wd_at w993 (ga3n k9) (.inl (cy 1, 72, .inl (sfn k9))) ∧ tg955 (ga3n k9) = 280 + k9 ∧ wd_at w993 (ga4n k9) (.inl (cy 2, 72, .inl (ufn k9))) ∧ tg955 (ga4n k9) = 300 + k9 := fun k9 hi9 => ⟨(fm989 k9 hi9).1, kq995.2 _ _ (fm989 k9 hi9).2.1 ((fn953 k9 hi9).1), (fm989 k9 hi9).2.2.1, kq995.2 _ _ (fm989 k9 hi9).2.2.2.1 ((fn953 k9 hi9).2.1), (fm989 k9 hi9).2.2.2.2.1, kq995.2 _ _ (fm989 k9 hi9).2.2.2.2.2.1 ((fn953 k9 hi9).2.2.1), (fm989 k9 hi9).2.2.2.2.2.2.1, kq995.2 _ _ (fm989 k9 hi9).2.2.2.2.2.2.2.1 ((fn953 k9 hi9).2.2.2.1), (fm989 k9 hi9).2.2.2.2.2.2.2.2.1, kq995.2 _ _ (fm989 k9 hi9).2.2.2.2.2.2.2.2.2.1 ((fn953 k9 hi9).2.2.2.2.1), (fm989 k9 hi9).2.2.2.2.2.2.2.2.2.2.1, kq995.2 _ _ (fm989 k9 hi9).2.2.2.2.2.2.2.2.2.2.2.1 ((fn953 k9 hi9).2.2.2.2.2), (fm989 k9 hi9).2.2.2.2.2.2.2.2.2.2.2.2⟩
      have kp1033 := kp954.tr kq995 (fun b9 hm q9 => (fun q9 => absurd (q9 ▸ hm) (kp914.out hq917)) q9)
      have t1034 := (hag996 _ k918.1).trans t957
      have t1035 := (hag996 _ k919.1).trans t958
      have t1036 := (hag996 _ k920.1).trans t959
      have t1037 := (hag996 _ k921.1).trans t960
      have t1038 := (hag996 _ k922.1).trans t961
      have t1039 := (hag996 _ k923.1).trans t962
      have t1040 := (hag996 _ k924.1).trans t963
      have t1041 := (hag996 _ k925.1).trans t964
      have t1042 := (hag996 _ k926.1).trans t965
      have t1043 := (hag996 _ k927.1).trans t966
      have t1044 := (hag996 _ k928.1).trans t967
      have t1045 := (hag996 _ k929.1).trans t968
      have t1046 := (hag996 _ k930.1).trans t969
      have t1047 := (hag996 _ k931.1).trans t970
      have t1048 := (hag996 _ k932.1).trans t971
      have t1049 := (hag996 _ k933.1).trans t972
      have t1050 := (hag996 _ k934.1).trans t973
      have t1051 := (hag996 _ k935.1).trans t974
      have t1052 := (hag996 _ k936.1).trans t975
      have t1053 := (hag996 _ k937.1).trans t976
      have t1054 := (hag996 _ k938.1).trans t977
      have t1055 := (hag996 _ k939.1).trans t978
      have t1056 := (hag996 _ k940.1).trans t979
      have t1057 := (hag996 _ k941.1).trans t980
      have t1058 := (hag996 _ k942.1).trans t981
      have t1059 := (hag996 _ k943.1).trans t982
      have t1060 := (hag996 _ k944.1).trans t983
      have t1061 := (hag996 _ k945.1).trans t984
      have t1062 := (hag996 _ k946.1).trans t985
      have t1063 := (hag996 _ k947.1).trans t986
      have t1064 := (hag996 _ k948.1).trans t987
      have t1065 := (hag996 _ k949.1).trans (tgN et956)
      have fm1066 : ∀ i9, i9 < 12 → tf i9 = some (tn i9) ∧ wd_at w993 (tn i9) (.inr (8, [.int (co i9), .int (ra i9), .int (se i9), .ref (ag i9)])) ∧ tg994 (tn i9) = 100 + i9 := fun i9 hi9 => ⟨(fm1031 i9 hi9).1, (fm1031 i9 hi9).2.1, (hag996 _ ((fm988 i9 hi9).2.1).1).trans (fm1031 i9 hi9).2.2⟩
      have fm1067 : ∀ k9, k9 < 13 → (aOK (cfn k9) (nfn k9) ∧ run k9 ≤ 12) ∧ wd_at w993 (aan k9) (.inr (1, [.ref (ga0n k9), .ref (ga1n k9), .ref (ga2n k9), .ref (ga3n k9), .ref (ga4n k9), .int (nI (run k9))])) ∧ tg994 (aan k9) = 200 + k9 ∧ wd_at w993 (ga0n k9) (.inl (cy 2, 12, .inl (dfn k9))) ∧ tg994 (ga0n k9) = 220 + k9 ∧ wd_at w993 (ga1n k9) (.inl (cy 2, 12, .inl (cfn k9))) ∧ tg994 (ga1n k9) = 240 + k9 ∧ wd_at w993 (ga2n k9) (.inl (cy 2, 72, .inl (nfn k9))) ∧ tg994 (ga2n k9) = 260 + k9 ∧ wd_at w993 (ga3n k9) (.inl (cy 1, 72, .inl (sfn k9))) ∧ tg994 (ga3n k9) = 280 + k9 ∧ wd_at w993 (ga4n k9) (.inl (cy 2, 72, .inl (ufn k9))) ∧ tg994 (ga4n k9) = 300 + k9 := fun k9 hi9 => ⟨(fm1032 k9 hi9).1, (fm1032 k9 hi9).2.1, (hag996 _ ((fm989 k9 hi9).2.1).1).trans (fm1032 k9 hi9).2.2.1, (fm1032 k9 hi9).2.2.2.1, (hag996 _ ((fm989 k9 hi9).2.2.2.1).1).trans (fm1032 k9 hi9).2.2.2.2.1, (fm1032 k9 hi9).2.2.2.2.2.1, (hag996 _ ((fm989 k9 hi9).2.2.2.2.2.1).1).trans (fm1032 k9 hi9).2.2.2.2.2.2.1, (fm1032 k9 hi9).2.2.2.2.2.2.2.1, (hag996 _ ((fm989 k9 hi9).2.2.2.2.2.2.2.1).1).trans (fm1032 k9 hi9).2.2.2.2.2.2.2.2.1, (fm1032 k9 hi9).2.2.2.2.2.2.2.2.2.1, (hag996 _ ((fm989 k9 hi9).2.2.2.2.2.2.2.2.2.1).1).trans (fm1032 k9 hi9).2.2.2.2.2.2.2.2.2.2.1, (fm1032 k9 hi9).2.2.2.2.2.2.2.2.2.2.2.1, (hag996 _ ((fm989 k9 hi9).2.2.2.2.2.2.2.2.2.2.2.1).1).trans (fm1032 k9 hi9).2.2.2.2.2.2.2.2.2.2.2.2⟩
      have hext1068 := fun a ha => (hag996 a (kp954.1 a ha)).trans (hext990 a ha)
      refine W.eq (g2 := F0 m 148 ls [.ref a11, .ref x]) rfl (W.widen (k := 116) (n := 4731) (Nat.le_of_ble_eq_true rfl) (Nat.le_of_ble_eq_true rfl) ?_)
      refine y_put (ref := "NoteHouse") F hP hD hS k1000 rfl (fun _ h => List.mem_cons_of_mem _ (List.mem_append_left _ (List.mem_append_left _ (List.mem_append_left _ (List.mem_append_left _ (List.mem_append_left _ (List.mem_append_right _ (h)))))))) tyX10_ok nmX10 11 (Nat.le_of_ble_eq_true rfl) (List.mem_cons_of_mem _ (List.mem_append_left _ (List.mem_append_left _ (List.mem_append_left _ (List.mem_append_left _ (List.mem_append_left _ (List.mem_append_left _ (List.mem_append_left _ (List.mem_append_right _ (List.mem_append_left _ (List.mem_of_getElem? (i := 13) rfl))))))))))) rfl rfl rfl rfl (Nat.le_of_ble_eq_true rfl) dX10_init_148 (fun w1069 ew1070 H locs hP hD hS => ?_)
      have k1071 : wd_at w1069 x (.inr (10, [.ref a0, .ref a1, .ref a2, .ref a3, .ref a4, .ref a5, .ref a6, .ref a7, .ref a8, .ref a9, .ref a10, .ref a11, .int 0, .int 0, .int 0, .int 0, .int 0])) := wd_at.ps ew1070 k1000
      have k1072 := wd_at.pt ew1070 k1001 (tg_ne t1035 t1034 (by decide))
      have k1073 := wd_at.pt ew1070 k1002 (tg_ne t1036 t1034 (by decide))
      have k1074 := wd_at.pt ew1070 k1003 (tg_ne t1037 t1034 (by decide))
      have k1075 := wd_at.pt ew1070 k1004 (tg_ne t1038 t1034 (by decide))
      have k1076 := wd_at.pt ew1070 k1005 (tg_ne t1039 t1034 (by decide))
      have k1077 := wd_at.pt ew1070 k1006 (tg_ne t1040 t1034 (by decide))
      have k1078 := wd_at.pt ew1070 k1007 (tg_ne t1041 t1034 (by decide))
      have k1079 := wd_at.pt ew1070 k1008 (tg_ne t1042 t1034 (by decide))
      have k1080 := wd_at.pt ew1070 k1009 (tg_ne t1043 t1034 (by decide))
      have k1081 := wd_at.pt ew1070 k1010 (tg_ne t1044 t1034 (by decide))
      have k1082 := wd_at.pt ew1070 k1011 (tg_ne t1045 t1034 (by decide))
      have k1083 := wd_at.pt ew1070 k1012 (tg_ne t1046 t1034 (by decide))
      have k1084 := wd_at.pt ew1070 k1013 (tg_ne t1047 t1034 (by decide))
      have k1085 := wd_at.pt ew1070 k1014 (tg_ne t1048 t1034 (by decide))
      have k1086 := wd_at.pt ew1070 k1015 (tg_ne t1049 t1034 (by decide))
      have k1087 := wd_at.pt ew1070 k1016 (tg_ne t1050 t1034 (by decide))
      have k1088 := wd_at.pt ew1070 k1017 (tg_ne t1051 t1034 (by decide))
      have k1089 := wd_at.pt ew1070 k1018 (tg_ne t1052 t1034 (by decide))
      have k1090 := wd_at.pt ew1070 k1019 (tg_ne t1053 t1034 (by decide))
      have k1091 := wd_at.pt ew1070 k1020 (tg_ne t1054 t1034 (by decide))
      have k1092 := wd_at.pt ew1070 k1021 (tg_ne t1055 t1034 (by decide))
      have k1093 := wd_at.pt ew1070 k1022 (tg_ne t1056 t1034 (by decide))
      have k1094 := wd_at.pt ew1070 k1023 (tg_ne t1057 t1034 (tnA (show 0 < 200 by decide)))
      have k1095 := wd_at.pt ew1070 k1024 (tg_ne t1058 t1034 (tnA (show 0 < 220 by decide)))
      have k1096 := wd_at.pt ew1070 k1025 (tg_ne t1059 t1034 (tnA (show 0 < 240 by decide)))
      have k1097 := wd_at.pt ew1070 k1026 (tg_ne t1060 t1034 (tnA (show 0 < 260 by decide)))
      have k1098 := wd_at.pt ew1070 k1027 (tg_ne t1061 t1034 (tnA (show 0 < 280 by decide)))
      have k1099 := wd_at.pt ew1070 k1028 (tg_ne t1062 t1034 (tnA (show 0 < 300 by decide)))
      have k1100 := wd_at.pt ew1070 k1029 (tg_ne t1063 t1034 (tnA (show 0 < 30 by decide)))
      have k1101 := wd_at.pt ew1070 k1030 (tg_ne t1064 t1034 (tnA (show 0 < 32 by decide)))
      have k1102 := wd_at.pt ew1070 k997 (tg_ne t1065 t1034 (tnA (show 0 < 30 by decide)))
      have k1103 := wd_at.pt ew1070 k998 (tg_ne t999 t1034 (tnA (show 0 < 32 by decide)))
      have fm1104 : ∀ i9, i9 < 12 → tf i9 = some (tn i9) ∧ wd_at w1069 (tn i9) (.inr (8, [.int (co i9), .int (ra i9), .int (se i9), .ref (ag i9)])) ∧ tg994 (tn i9) = 100 + i9 := fun i9 hi9 => ⟨(fm1066 i9 hi9).1, wd_at.pt ew1070 (fm1066 i9 hi9).2.1 (tg_ne (fm1066 i9 hi9).2.2 t1034 (tnA (show 0 < 100 by decide))), (fm1066 i9 hi9).2.2⟩
      have fm1105 : ∀ k9, k9 < 13 → (aOK (cfn k9) (nfn k9) ∧ run k9 ≤ 12) ∧ wd_at w1069 (aan k9) (.inr (1, [.ref (ga0n k9), .ref (ga1n k9), .ref (ga2n k9), .ref (ga3n k9), .ref (ga4n k9), .int (nI (run k9))])) ∧ tg994 (aan k9) = 200 + k9 ∧ wd_at w1069 (ga0n k9) (.inl (cy 2, 12, .inl (dfn k9))) ∧ tg994 (ga0n k9) = 220 + k9 ∧ wd_at w1069 (ga1n k9) (.inl (cy 2, 12, .inl (cfn k9))) ∧ tg994 (ga1n k9) = 240 + k9 ∧ wd_at w1069 (ga2n k9) (.inl (cy 2, 72, .inl (nfn k9))) ∧ tg994 (ga2n k9) = 260 + k9 ∧ wd_at w1069 (ga3n k9) (.inl (cy 1, 72, .inl (sfn k9))) ∧ tg994 (ga3n k9) = 280 + k9 ∧ wd_at w1069 (ga4n k9) (.inl (cy 2, 72, .inl (ufn k9))) ∧ tg994 (ga4n k9) = 300 + k9 := fun k9 hi9 => ⟨(fm1067 k9 hi9).1, wd_at.pt ew1070 (fm1067 k9 hi9).2.1 (tg_ne (fm1067 k9 hi9).2.2.1 t1034 (tnA (show 0 < 200 by decide))), (fm1067 k9 hi9).2.2.1, wd_at.pt ew1070 (fm1067 k9 hi9).2.2.2.1 (tg_ne (fm1067 k9 hi9).2.2.2.2.1 t1034 (tnA (show 0 < 220 by decide))), (fm1067 k9 hi9).2.2.2.2.1, wd_at.pt ew1070 (fm1067 k9 hi9).2.2.2.2.2.1 (tg_ne (fm1067 k9 hi9).2.2.2.2.2.2.1 t1034 (tnA (show 0 < 240 by decide))), (fm1067 k9 hi9).2.2.2.2.2.2.1, wd_at.pt ew1070 (fm1067 k9 hi9).2.2.2.2.2.2.2.1 (tg_ne (fm1067 k9 hi9).2.2.2.2.2.2.2.2.1 t1034 (tnA (show 0 < 260 by decide))), (fm1067 k9 hi9).2.2.2.2.2.2.2.2.1, wd_at.pt ew1070 (fm1067 k9 hi9).2.2.2.2.2.2.2.2.2.1 (tg_ne (fm1067 k9 hi9).2.2.2.2.2.2.2.2.2.2.1 t1034 (tnA (show 0 < 280 by decide))), (fm1067 k9 hi9).2.2.2.2.2.2.2.2.2.2.1, wd_at.pt ew1070 (fm1067 k9 hi9).2.2.2.2.2.2.2.2.2.2.2.1 (tg_ne (fm1067 k9 hi9).2.2.2.2.2.2.2.2.2.2.2.2 t1034 (tnA (show 0 < 300 by decide))), (fm1067 k9 hi9).2.2.2.2.2.2.2.2.2.2.2.2⟩
      have kp1106 := kp1033.put ew1070 sy
      have hagF : ∀ z, z < 12 → ∃ s, s < 13 ∧ ag z = aan s := fun z hz => ⟨z, by omega, by rw [eaan, va_up_ne _ _ (show z ≠ 12 by omega)]; exact hagL z (by omega)⟩
      have k1107 : wd_at w1069 x (.inr (10, [.ref a0, .ref a1, .ref a2, .ref a3, .ref a4, .ref a5, .ref a6, .ref a7, .ref a8, .ref (aan 12), .ref a10, .ref a11, .int 0, .int (nI 0), .int (nI 0), .int (nI 0), .int (nI 0)])) := by rw [eaan, va_up_self]; exact k1071
      have hX1108 : IX cy tg994 x 0 0 0 0 0 se (fun _ => 0) w1069 := IX.mk a0 a1 a2 a3 a4 a5 a6 a7 a8 a10 a11 b0 b1 b2 b3 tb l0 l1 l2 l3 l4 l5 l6 l7 bl bm 0 0 12 0 1 f0 f1 (fun _ => 0) (fun _ => 0) (fun _ => 0) e0 (fun _ => 0) (fun _ => 0) (fun _ => 0) (fun _ => 0) (fun _ => 0) bf bf2 (fun _ => 0) (fun _ => 0) (fun _ => 0) 0 0 10 0 10 0 tf tn ag co ra aan run ga0n ga1n ga2n ga3n ga4n dfn cfn nfn sfn ufn (fun _ => none) (fun _ => 0) (fun _ => 0) (fun _ => 0) (fun _ => 0) (fun _ => 0) (fun _ => 0) (fun _ => 0) (fun _ => none) (fun _ => 0) (fun _ => 0) (fun _ => 0) (fun _ => 0) (fun _ => 0) (fun _ => none) (fun _ => 0) (fun _ => 0) (fun _ => 0) (fun _ => 0) (fun _ _ => 0) (fun _ => none) (fun _ => 0) (fun _ => 0) (fun _ => 0) (fun _ => 0) (fun _ => 0) (fun _ => 0) (fun _ => 0) (fun _ => 0) (fun _ => 0) (fun _ => 0) (fun _ => 0) (by omega) (by omega) (by omega) (by omega) (by omega) (by omega) (by omega) (by omega) hagF k1107 t1034 k1072 t1035 k1073 t1036 k1074 t1037 k1075 t1038 k1076 t1039 k1077 t1040 k1078 t1041 k1079 t1042 k1080 t1043 k1081 t1044 k1082 t1045 k1083 t1046 k1084 t1047 k1085 t1048 k1086 t1049 k1087 t1050 k1088 t1051 k1089 t1052 k1090 t1053 k1091 t1054 k1092 t1055 k1093 t1056 k1100 t1063 k1101 t1064 k1102 t1065 k1103 t999 fm1104 fm1105 (fun k9 hi9 => absurd hi9 (Nat.not_lt_zero k9)) (fun k9 hi9 => absurd hi9 (Nat.not_lt_zero k9)) (fun k9 hi9 => absurd hi9 (Nat.not_lt_zero k9)) (fun k9 hi9 => absurd hi9 (Nat.not_lt_zero k9))
      exact y_vr K hP hD hS (Nat.le_of_ble_eq_true rfl) (Nat.le_of_ble_eq_true rfl) rfl dX10_init_151 (⟨rfl, kp1106, tg994, hext1068, ⟨se, fun z hz => hseL z (by omega), hX1108⟩⟩)
    | succ N ih26 =>
      intro i tgL tf tn ag co ra se aa ru df cf nf sf uf ga0 ga1 ga2 ga3 ga4 w70 hN26 tL0 tL1 tL2 tL3 tL4 tL5 tL6 hextL hagL hseL k71 k72 k73 k74 k75 k76 k77 fm78 fm79 kp80 ls hl H locs hP hD hS
      refine lv_iload_n hx hb dX10_init_26 rfl (lv_at hl 1 rfl) ?_
      refine lv_bipush (v := 12) hx hb dX10_init_27 (by decide) ?_
      refine lv_icmp_ge (tgt := 51) hx hb dX10_init_29 (by decide) (fun c_1109 => absurd c_1109 (nI_ge (a := i) (b := 12) (by omega) (by omega))) (fun c_1109 => ?_)
      refine lv_aload_n hx hb dX10_init_32 rfl (lv_at hl 0 rfl) ?_
      refine x_get (ref := "NoteHouse") F hP k71 rfl (fun _ h => List.mem_cons_of_mem _ (List.mem_append_left _ (List.mem_append_left _ (List.mem_append_left _ (List.mem_append_left _ (List.mem_append_left _ (List.mem_append_right _ (h)))))))) 1 (Nat.le_of_ble_eq_true rfl) (List.mem_cons_of_mem _ (List.mem_append_left _ (List.mem_append_left _ (List.mem_append_left _ (List.mem_append_left _ (List.mem_append_left _ (List.mem_append_left _ (List.mem_append_left _ (List.mem_append_left _ (List.mem_of_getElem? (i := 8) rfl)))))))))) rfl rfl dX10_init_33 ?_
      refine lv_iload_n hx hb dX10_init_36 rfl (lv_at hl 1 rfl) ?_
      refine y_new (fs := [.int 0, .int 0, .int 0, .null]) F hP hD hS (ci := 8) rfl (fun _ h => List.mem_cons_of_mem _ (List.mem_append_left _ (List.mem_append_left _ (List.mem_append_left _ (List.mem_append_left _ (List.mem_append_right _ (h))))))) tyX8_ok (List.mem_cons_of_mem _ (List.mem_append_left _ (List.mem_append_left _ (List.mem_append_left _ (List.mem_append_left _ (List.mem_append_left _ (List.mem_append_left _ (List.mem_append_left _ (List.mem_append_left _ (List.mem_of_getElem? (i := 7) rfl)))))))))) (List.mem_cons_of_mem _ (List.mem_append_left _ (List.mem_append_left _ (List.mem_append_left _ (List.mem_append_left _ (List.mem_append_left _ (List.mem_append_left _ (List.mem_append_left _ (List.mem_append_left _ (List.mem_of_getElem? (i := 9) rfl)))))))))) (List.mem_cons_of_mem _ (List.mem_append_left _ (List.mem_append_left _ (List.mem_append_left _ (List.mem_append_left _ (List.mem_append_left _ (List.mem_append_left _ (List.mem_append_left _ (List.mem_append_left _ (List.mem_of_getElem? (i := 10) rfl)))))))))) df_8 (show 6 + 7 * i + 1 ≤ 116 from by omega) (show 328 + 250 * i + 4 ≤ 4731 from by omega) dX10_init_37 (fun qt w1110 ew1111 hq1112 H hP hD hS => ?_)
      refine W.widen (k := 6 + 7 * i + 1) (n := 328 + 250 * i + 4) (Nat.le_refl _) (Nat.le_refl _) ?_
      have k1113 := wd_at.ad ew1111 hq1112 k71
      have k1114 := wd_at.ad ew1111 hq1112 k72
      have k1115 := wd_at.ad ew1111 hq1112 k73
      have k1116 := wd_at.ad ew1111 hq1112 k74
      have k1117 := wd_at.ad ew1111 hq1112 k75
      have k1118 := wd_at.ad ew1111 hq1112 k76
      have k1119 := wd_at.ad ew1111 hq1112 k77
      have k1120 : wd_at w1110 qt (.inr (8, [.int 0, .int 0, .int 0, .null])) := wd_at.nw ew1111
      have fm1121 : ∀ i9, i9 < i → tf i9 = some (tn i9) ∧ wd_at w1110 (tn i9) (.inr (8, [.int (co i9), .int (ra i9), .int (se i9), .ref (ag i9)])) ∧ tgL (tn i9) = 100 + i9 := fun i9 hi9 => ⟨(fm78 i9 hi9).1, wd_at.ad ew1111 hq1112 (fm78 i9 hi9).2.1, (fm78 i9 hi9).2.2⟩
      have fn1122 : ∀ i9, i9 < i → (tn i9) ≠ qt := fun i9 hi9 => wd_nL hq1112 (fm78 i9 hi9).2.1
      have fm1123 : ∀ k9, k9 < i → (aOK (cf k9) (nf k9) ∧ ru k9 ≤ 12) ∧ wd_at w1110 (aa k9) (.inr (1, [.ref (ga0 k9), .ref (ga1 k9), .ref (ga2 k9), .ref (ga3 k9), .ref (ga4 k9), .int (nI (ru k9))])) ∧ tgL (aa k9) = 200 + k9 ∧ wd_at w1110 (ga0 k9) (.inl (cy 2, 12, .inl (df k9))) ∧ tgL (ga0 k9) = 220 + k9 ∧ wd_at w1110 (ga1 k9) (.inl (cy 2, 12, .inl (cf k9))) ∧ tgL (ga1 k9) = 240 + k9 ∧ wd_at w1110 (ga2 k9) (.inl (cy 2, 72, .inl (nf k9))) ∧ tgL (ga2 k9) = 260 + k9 ∧ wd_at w1110 (ga3 k9) (.inl (cy 1, 72, .inl (sf k9))) ∧ tgL (ga3 k9) = 280 + k9 ∧ wd_at w1110 (ga4 k9) (.inl (cy 2, 72, .inl (uf k9))) ∧ tgL (ga4 k9) = 300 + k9 := fun k9 hi9 => ⟨(fm79 k9 hi9).1, wd_at.ad ew1111 hq1112 (fm79 k9 hi9).2.1, (fm79 k9 hi9).2.2.1, wd_at.ad ew1111 hq1112 (fm79 k9 hi9).2.2.2.1, (fm79 k9 hi9).2.2.2.2.1, wd_at.ad ew1111 hq1112 (fm79 k9 hi9).2.2.2.2.2.1, (fm79 k9 hi9).2.2.2.2.2.2.1, wd_at.ad ew1111 hq1112 (fm79 k9 hi9).2.2.2.2.2.2.2.1, (fm79 k9 hi9).2.2.2.2.2.2.2.2.1, wd_at.ad ew1111 hq1112 (fm79 k9 hi9).2.2.2.2.2.2.2.2.2.1, (fm79 k9 hi9).2.2.2.2.2.2.2.2.2.2.1, wd_at.ad ew1111 hq1112 (fm79 k9 hi9).2.2.2.2.2.2.2.2.2.2.2.1, (fm79 k9 hi9).2.2.2.2.2.2.2.2.2.2.2.2⟩
      have fn1124 : ∀ k9, k9 < i → (aa k9) ≠ qt ∧ (ga0 k9) ≠ qt ∧ (ga1 k9) ≠ qt ∧ (ga2 k9) ≠ qt ∧ (ga3 k9) ≠ qt ∧ (ga4 k9) ≠ qt := fun k9 hi9 => ⟨wd_nL hq1112 (fm79 k9 hi9).2.1, wd_nL hq1112 (fm79 k9 hi9).2.2.2.1, wd_nL hq1112 (fm79 k9 hi9).2.2.2.2.2.1, wd_nL hq1112 (fm79 k9 hi9).2.2.2.2.2.2.2.1, wd_nL hq1112 (fm79 k9 hi9).2.2.2.2.2.2.2.2.2.1, wd_nL hq1112 (fm79 k9 hi9).2.2.2.2.2.2.2.2.2.2.2.1⟩
      have kp1125 := kp80.add ew1111 hq1112
      obtain ⟨tg1126, et1127⟩ : ∃ f : Nat → Nat, f = va_up tgL qt (100 + i) := ⟨_, rfl⟩
      have t1128 := tgX et1127 (wd_nL hq1112 k71) tL0
      have t1129 := tgX et1127 (wd_nL hq1112 k72) tL1
      have t1130 := tgX et1127 (wd_nL hq1112 k73) tL2
      have t1131 := tgX et1127 (wd_nL hq1112 k74) tL3
      have t1132 := tgX et1127 (wd_nL hq1112 k75) tL4
      have t1133 := tgX et1127 (wd_nL hq1112 k76) tL5
      have t1134 := tgX et1127 (wd_nL hq1112 k77) tL6
      have fm1135 : ∀ i9, i9 < i → tf i9 = some (tn i9) ∧ wd_at w1110 (tn i9) (.inr (8, [.int (co i9), .int (ra i9), .int (se i9), .ref (ag i9)])) ∧ tg1126 (tn i9) = 100 + i9 := fun i9 hi9 => ⟨(fm1121 i9 hi9).1, (fm1121 i9 hi9).2.1, tgX et1127 (fn1122 i9 hi9) (fm1121 i9 hi9).2.2⟩
      have fm1136 : ∀ k9, k9 < i → (aOK (cf k9) (nf k9) ∧ ru k9 ≤ 12) ∧ wd_at w1110 (aa k9) (.inr (1, [.ref (ga0 k9), .ref (ga1 k9), .ref (ga2 k9), .ref (ga3 k9), .ref (ga4 k9), .int (nI (ru k9))])) ∧ tg1126 (aa k9) = 200 + k9 ∧ wd_at w1110 (ga0 k9) (.inl (cy 2, 12, .inl (df k9))) ∧ tg1126 (ga0 k9) = 220 + k9 ∧ wd_at w1110 (ga1 k9) (.inl (cy 2, 12, .inl (cf k9))) ∧ tg1126 (ga1 k9) = 240 + k9 ∧ wd_at w1110 (ga2 k9) (.inl (cy 2, 72, .inl (nf k9))) ∧ tg1126 (ga2 k9) = 260 + k9 ∧ wd_at w1110 (ga3 k9) (.inl (cy 1, 72, .inl (sf k9))) ∧ tg1126 (ga3 k9) = 280 + k9 ∧ wd_at w1110 (ga4 k9) (.inl (cy 2, 72, .inl (uf k9))) ∧ tg1126 (ga4 k9) = 300 + k9 := fun k9 hi9 => ⟨(fm1123 k9 hi9).1, (fm1123 k9 hi9).2.1, tgX et1127 ((fn1124 k9 hi9).1) (fm1123 k9 hi9).2.2.1, (fm1123 k9 hi9).2.2.2.1, tgX et1127 ((fn1124 k9 hi9).2.1) (fm1123 k9 hi9).2.2.2.2.1, (fm1123 k9 hi9).2.2.2.2.2.1, tgX et1127 ((fn1124 k9 hi9).2.2.1) (fm1123 k9 hi9).2.2.2.2.2.2.1, (fm1123 k9 hi9).2.2.2.2.2.2.2.1, tgX et1127 ((fn1124 k9 hi9).2.2.2.1) (fm1123 k9 hi9).2.2.2.2.2.2.2.2.1, (fm1123 k9 hi9).2.2.2.2.2.2.2.2.2.1, tgX et1127 ((fn1124 k9 hi9).2.2.2.2.1) (fm1123 k9 hi9).2.2.2.2.2.2.2.2.2.2.1, (fm1123 k9 hi9).2.2.2.2.2.2.2.2.2.2.2.1, tgX et1127 ((fn1124 k9 hi9).2.2.2.2.2) (fm1123 k9 hi9).2.2.2.2.2.2.2.2.2.2.2.2⟩
      have hext1137 := tgE et1127 (kp80.out hq1112) hextL
      refine lv_dup hx hb dX10_init_40 rfl ?_
      refine x_callIN (ret := none) (host := RX10) (n := 0) (As := []) (rest := [.ref qt, .int (nI i), .ref a1]) F hP hD hS (i_town l D cy sk sv w1110 tg1126 i qt k1120 (fun b => b = qt) rfl (tgN et1127)) gX10_init_X8_init_n22 rfl (by decide +kernel) (List.mem_cons_of_mem _ (List.mem_append_left _ (List.mem_append_left _ (List.mem_append_left _ (List.mem_append_left _ (List.mem_append_left _ (List.mem_append_left _ (List.mem_append_left _ (List.mem_append_left _ (List.mem_of_getElem? (i := 10) rfl)))))))))) (List.mem_cons_of_mem _ (List.mem_append_left _ (List.mem_append_left _ (List.mem_append_left _ (List.mem_append_left _ (List.mem_append_left _ (List.mem_append_left _ (List.mem_append_left _ (List.mem_append_right _ (List.mem_append_right _ (List.mem_append_left _ (List.mem_of_getElem? (i := 4) rfl)))))))))))) rfl (by decide +kernel) ⟨(Nat.le_of_ble_eq_true rfl), (Nat.le_of_ble_eq_true rfl)⟩ rfl hl.1 (Nat.le_of_ble_eq_true rfl) dX10_init_41 rfl ⟨(show 6 + 7 * i + 1 + 6 ≤ 116 from by omega), (show 328 + 250 * i + 4 + 246 ≤ 4731 from by omega)⟩ (fun v1139 w1140 hp1138 H locs hP hD hS => ?_)
      obtain ⟨rfl, kq1142, tg1141, qa, qg0, qg1, qg2, qg3, qg4, hag1143, k1144, k1145, k1146, k1147, k1148, k1149, k1150, t1151, t1152, t1153, t1154, t1155, t1156⟩ := hp1138
      have k1157 := kq1142.2 _ _ k1113 (wd_nL hq1112 k71)
      have k1158 := kq1142.2 _ _ k1114 (wd_nL hq1112 k72)
      have k1159 := kq1142.2 _ _ k1115 (wd_nL hq1112 k73)
      have k1160 := kq1142.2 _ _ k1116 (wd_nL hq1112 k74)
      have k1161 := kq1142.2 _ _ k1117 (wd_nL hq1112 k75)
      have k1162 := kq1142.2 _ _ k1118 (wd_nL hq1112 k76)
      have k1163 := kq1142.2 _ _ k1119 (wd_nL hq1112 k77)
      have fm1164 : ∀ i9, i9 < i → tf i9 = some (tn i9) ∧ wd_at w1140 (tn i9) (.inr (8, [.int (co i9), .int (ra i9), .int (se i9), .ref (ag i9)])) ∧ tg1126 (tn i9) = 100 + i9 := fun i9 hi9 => ⟨(fm1135 i9 hi9).1, kq1142.2 _ _ (fm1135 i9 hi9).2.1 (fn1122 i9 hi9), (fm1135 i9 hi9).2.2⟩
      have fm1165 : ∀ k9, k9 < i → (aOK (cf k9) (nf k9) ∧ ru k9 ≤ 12) ∧ wd_at w1140 (aa k9) (.inr (1, [.ref (ga0 k9), .ref (ga1 k9), .ref (ga2 k9), .ref (ga3 k9), .ref (ga4 k9), .int (nI (ru k9))])) ∧ tg1126 (aa k9) = 200 + k9 ∧ wd_at w1140 (ga0 k9) (.inl (cy 2, 12, .inl (df k9))) ∧ tg1126 (ga0 k9) = 220 + k9 ∧ wd_at w1140 (ga1 k9) (.inl (cy 2, 12, .inl (cf k9))) ∧ tg1126 (ga1 k9) = 240 + k9 ∧ wd_at w1140 (ga2 k9) (.inl (cy 2, 72, .inl (nf k9))) ∧ tg1126 (ga2 k9) = 260 + k9 ∧ wd_at w1140 (ga3 k9) (.inl (cy 1, 72, .inl (sf k9))) ∧ tg1126 (ga3 k9) = 280 + k9 ∧ wd_at w1140 (ga4 k9) (.inl (cy 2, 72, .inl (uf k9))) ∧ tg1126 (ga4 k9) = 300 + k9 := fun k9 hi9 => ⟨(fm1136 k9 hi9).1, kq1142.2 _ _ (fm1136 k9 hi9).2.1 ((fn1124 k9 hi9).1), (fm1136 k9 hi9).2.2.1, kq1142.2 _ _ (fm1136 k9 hi9).2.2.2.1 ((fn1124 k9 hi9).2.1), (fm1136 k9 hi9).2.2.2.2.1, kq1142.2 _ _ (fm1136 k9 hi9).2.2.2.2.2.1 ((fn1124 k9 hi9).2.2.1), (fm1136 k9 hi9).2.2.2.2.2.2.1, kq1142.2 _ _ (fm1136 k9 hi9).2.2.2.2.2.2.2.1 ((fn1124 k9 hi9).2.2.2.1), (fm1136 k9 hi9).2.2.2.2.2.2.2.2.1, kq1142.2 _ _ (fm1136 k9 hi9).2.2.2.2.2.2.2.2.2.1 ((fn1124 k9 hi9).2.2.2.2.1), (fm1136 k9 hi9).2.2.2.2.2.2.2.2.2.2.1, kq1142.2 _ _ (fm1136 k9 hi9).2.2.2.2.2.2.2.2.2.2.2.1 ((fn1124 k9 hi9).2.2.2.2.2), (fm1136 k9 hi9).2.2.2.2.2.2.2.2.2.2.2.2⟩
      have kp1166 := kp1125.tr kq1142 (fun b9 hm q9 => (fun q9 => absurd (q9 ▸ hm) (kp80.out hq1112)) q9)
      have t1167 := (hag1143 _ k1113.1).trans t1128
      have t1168 := (hag1143 _ k1114.1).trans t1129
      have t1169 := (hag1143 _ k1115.1).trans t1130
      have t1170 := (hag1143 _ k1116.1).trans t1131
      have t1171 := (hag1143 _ k1117.1).trans t1132
      have t1172 := (hag1143 _ k1118.1).trans t1133
      have t1173 := (hag1143 _ k1119.1).trans t1134
      have t1174 := (hag1143 _ k1120.1).trans (tgN et1127)
      have fm1175 : ∀ i9, i9 < i → tf i9 = some (tn i9) ∧ wd_at w1140 (tn i9) (.inr (8, [.int (co i9), .int (ra i9), .int (se i9), .ref (ag i9)])) ∧ tg1141 (tn i9) = 100 + i9 := fun i9 hi9 => ⟨(fm1164 i9 hi9).1, (fm1164 i9 hi9).2.1, (hag1143 _ ((fm1135 i9 hi9).2.1).1).trans (fm1164 i9 hi9).2.2⟩
      have fm1176 : ∀ k9, k9 < i → (aOK (cf k9) (nf k9) ∧ ru k9 ≤ 12) ∧ wd_at w1140 (aa k9) (.inr (1, [.ref (ga0 k9), .ref (ga1 k9), .ref (ga2 k9), .ref (ga3 k9), .ref (ga4 k9), .int (nI (ru k9))])) ∧ tg1141 (aa k9) = 200 + k9 ∧ wd_at w1140 (ga0 k9) (.inl (cy 2, 12, .inl (df k9))) ∧ tg1141 (ga0 k9) = 220 + k9 ∧ wd_at w1140 (ga1 k9) (.inl (cy 2, 12, .inl (cf k9))) ∧ tg1141 (ga1 k9) = 240 + k9 ∧ wd_at w1140 (ga2 k9) (.inl (cy 2, 72, .inl (nf k9))) ∧ tg1141 (ga2 k9) = 260 + k9 ∧ wd_at w1140 (ga3 k9) (.inl (cy 1, 72, .inl (sf k9))) ∧ tg1141 (ga3 k9) = 280 + k9 ∧ wd_at w1140 (ga4 k9) (.inl (cy 2, 72, .inl (uf k9))) ∧ tg1141 (ga4 k9) = 300 + k9 := fun k9 hi9 => ⟨(fm1165 k9 hi9).1, (fm1165 k9 hi9).2.1, (hag1143 _ ((fm1136 k9 hi9).2.1).1).trans (fm1165 k9 hi9).2.2.1, (fm1165 k9 hi9).2.2.2.1, (hag1143 _ ((fm1136 k9 hi9).2.2.2.1).1).trans (fm1165 k9 hi9).2.2.2.2.1, (fm1165 k9 hi9).2.2.2.2.2.1, (hag1143 _ ((fm1136 k9 hi9).2.2.2.2.2.1).1).trans (fm1165 k9 hi9).2.2.2.2.2.2.1, (fm1165 k9 hi9).2.2.2.2.2.2.2.1, (hag1143 _ ((fm1136 k9 hi9).2.2.2.2.2.2.2.1).1).trans (fm1165 k9 hi9).2.2.2.2.2.2.2.2.1, (fm1165 k9 hi9).2.2.2.2.2.2.2.2.2.1, (hag1143 _ ((fm1136 k9 hi9).2.2.2.2.2.2.2.2.2.1).1).trans (fm1165 k9 hi9).2.2.2.2.2.2.2.2.2.2.1, (fm1165 k9 hi9).2.2.2.2.2.2.2.2.2.2.2.1, (hag1143 _ ((fm1136 k9 hi9).2.2.2.2.2.2.2.2.2.2.2.1).1).trans (fm1165 k9 hi9).2.2.2.2.2.2.2.2.2.2.2.2⟩
      have hext1177 := fun a ha => (hag1143 a (kp1125.1 a ha)).trans (hext1137 a ha)
      refine W.eq (g2 := F0 m 44 ls [.ref qt, .int (nI i), .ref a1]) rfl (W.widen (k := 6 + 7 * i + 1 + 6) (n := 328 + 250 * i + 4 + 246) (Nat.le_refl _) (Nat.le_refl _) ?_)
      refine y_aast F hP hD hS k1163 rfl k1144 rfl (vp_in_nI (n := i) (N := 12) (by omega) (by decide)) dX10_init_44 (fun w1178 ew1179 H locs hP hD hS => ?_)
      have k1180 := wd_at.pt ew1179 k1157 (wd_nL hq42 k33)
      have k1181 := wd_at.pt ew1179 k1158 (wd_nL hq42 k34)
      have k1182 := wd_at.pt ew1179 k1159 (wd_nL hq42 k35)
      have k1183 := wd_at.pt ew1179 k1160 (wd_nL hq42 k36)
      have k1184 := wd_at.pt ew1179 k1161 (wd_nL hq42 k37)
      have k1185 := wd_at.pt ew1179 k1162 (wd_nL hq42 k38)
      have k1186 : wd_at w1178 a1 (.inl (cy 9, 12, .inr (.inr (.inr (.inr (va_up tf (nI i).toNatClampNeg (some qt))))))) := wd_at.ps ew1179 k1163
      have k1187 := wd_at.pt ew1179 k1144 (tg_ne t1174 t1173 (tnA (show 6 < 100 by decide)))
      have k1188 := wd_at.pt ew1179 k1145 (tg_ne t1151 t1173 (tnA (show 6 < 200 by decide)))
      have k1189 := wd_at.pt ew1179 k1146 (tg_ne t1152 t1173 (tnA (show 6 < 220 by decide)))
      have k1190 := wd_at.pt ew1179 k1147 (tg_ne t1153 t1173 (tnA (show 6 < 240 by decide)))
      have k1191 := wd_at.pt ew1179 k1148 (tg_ne t1154 t1173 (tnA (show 6 < 260 by decide)))
      have k1192 := wd_at.pt ew1179 k1149 (tg_ne t1155 t1173 (tnA (show 6 < 280 by decide)))
      have k1193 := wd_at.pt ew1179 k1150 (tg_ne t1156 t1173 (tnA (show 6 < 300 by decide)))
      have fm1194 : ∀ i9, i9 < i → tf i9 = some (tn i9) ∧ wd_at w1178 (tn i9) (.inr (8, [.int (co i9), .int (ra i9), .int (se i9), .ref (ag i9)])) ∧ tg1141 (tn i9) = 100 + i9 := fun i9 hi9 => ⟨(fm1175 i9 hi9).1, wd_at.pt ew1179 (fm1175 i9 hi9).2.1 (tg_ne (fm1175 i9 hi9).2.2 t1173 (tnA (show 6 < 100 by decide))), (fm1175 i9 hi9).2.2⟩
      have fm1195 : ∀ k9, k9 < i → (aOK (cf k9) (nf k9) ∧ ru k9 ≤ 12) ∧ wd_at w1178 (aa k9) (.inr (1, [.ref (ga0 k9), .ref (ga1 k9), .ref (ga2 k9), .ref (ga3 k9), .ref (ga4 k9), .int (nI (ru k9))])) ∧ tg1141 (aa k9) = 200 + k9 ∧ wd_at w1178 (ga0 k9) (.inl (cy 2, 12, .inl (df k9))) ∧ tg1141 (ga0 k9) = 220 + k9 ∧ wd_at w1178 (ga1 k9) (.inl (cy 2, 12, .inl (cf k9))) ∧ tg1141 (ga1 k9) = 240 + k9 ∧ wd_at w1178 (ga2 k9) (.inl (cy 2, 72, .inl (nf k9))) ∧ tg1141 (ga2 k9) = 260 + k9 ∧ wd_at w1178 (ga3 k9) (.inl (cy 1, 72, .inl (sf k9))) ∧ tg1141 (ga3 k9) = 280 + k9 ∧ wd_at w1178 (ga4 k9) (.inl (cy 2, 72, .inl (uf k9))) ∧ tg1141 (ga4 k9) = 300 + k9 := fun k9 hi9 => ⟨(fm1176 k9 hi9).1, wd_at.pt ew1179 (fm1176 k9 hi9).2.1 (tg_ne (fm1176 k9 hi9).2.2.1 t1173 (tnA (show 6 < 200 by decide))), (fm1176 k9 hi9).2.2.1, wd_at.pt ew1179 (fm1176 k9 hi9).2.2.2.1 (tg_ne (fm1176 k9 hi9).2.2.2.2.1 t1173 (tnA (show 6 < 220 by decide))), (fm1176 k9 hi9).2.2.2.2.1, wd_at.pt ew1179 (fm1176 k9 hi9).2.2.2.2.2.1 (tg_ne (fm1176 k9 hi9).2.2.2.2.2.2.1 t1173 (tnA (show 6 < 240 by decide))), (fm1176 k9 hi9).2.2.2.2.2.2.1, wd_at.pt ew1179 (fm1176 k9 hi9).2.2.2.2.2.2.2.1 (tg_ne (fm1176 k9 hi9).2.2.2.2.2.2.2.2.1 t1173 (tnA (show 6 < 260 by decide))), (fm1176 k9 hi9).2.2.2.2.2.2.2.2.1, wd_at.pt ew1179 (fm1176 k9 hi9).2.2.2.2.2.2.2.2.2.1 (tg_ne (fm1176 k9 hi9).2.2.2.2.2.2.2.2.2.2.1 t1173 (tnA (show 6 < 280 by decide))), (fm1176 k9 hi9).2.2.2.2.2.2.2.2.2.2.1, wd_at.pt ew1179 (fm1176 k9 hi9).2.2.2.2.2.2.2.2.2.2.2.1 (tg_ne (fm1176 k9 hi9).2.2.2.2.2.2.2.2.2.2.2.2 t1173 (tnA (show 6 < 300 by decide))), (fm1176 k9 hi9).2.2.2.2.2.2.2.2.2.2.2.2⟩
      have kp1196 := kp1166.putN ew1179 (kp39.out hq42)
      have k1197 : wd_at w1178 a1 (.inl (cy 9, 12, .inr (.inr (.inr (.inr (va_up tf i (some qt))))))) := by have h9 := k1186; rw [nI_clamp (n := i) (by omega)] at h9; exact h9
      have fm1198 : ∀ i9, i9 < (i + 1) → (va_up tf i (some qt)) i9 = some ((va_up tn i qt) i9) ∧ wd_at w1178 ((va_up tn i qt) i9) (.inr (8, [.int ((va_up co i 0) i9), .int ((va_up ra i 1000) i9), .int ((va_up se i 0) i9), .ref ((va_up ag i qa) i9)])) ∧ tg1141 ((va_up tn i qt) i9) = 100 + i9 := by
        intro i9 hi9
        by_cases e9 : i9 = i
        · rw [e9]
          exact ⟨(by rw [va_up_self, va_up_self]), (by simp only [va_up_self]; exact k1187), (by rw [va_up_self]; exact t1174)⟩
        · simp only [va_up_ne _ _ e9]
          exact fm1194 i9 (by omega)
      have fm1199 : ∀ k9, k9 < (i + 1) → (aOK ((va_up cf i (fun _ => 0)) k9) ((va_up nf i (fun _ => 0)) k9) ∧ (va_up ru i 0) k9 ≤ 12) ∧ wd_at w1178 ((va_up aa i qa) k9) (.inr (1, [.ref ((va_up ga0 i qg0) k9), .ref ((va_up ga1 i qg1) k9), .ref ((va_up ga2 i qg2) k9), .ref ((va_up ga3 i qg3) k9), .ref ((va_up ga4 i qg4) k9), .int (nI ((va_up ru i 0) k9))])) ∧ tg1141 ((va_up aa i qa) k9) = 200 + k9 ∧ wd_at w1178 ((va_up ga0 i qg0) k9) (.inl (cy 2, 12, .inl ((va_up df i (fun _ => 0)) k9))) ∧ tg1141 ((va_up ga0 i qg0) k9) = 220 + k9 ∧ wd_at w1178 ((va_up ga1 i qg1) k9) (.inl (cy 2, 12, .inl ((va_up cf i (fun _ => 0)) k9))) ∧ tg1141 ((va_up ga1 i qg1) k9) = 240 + k9 ∧ wd_at w1178 ((va_up ga2 i qg2) k9) (.inl (cy 2, 72, .inl ((va_up nf i (fun _ => 0)) k9))) ∧ tg1141 ((va_up ga2 i qg2) k9) = 260 + k9 ∧ wd_at w1178 ((va_up ga3 i qg3) k9) (.inl (cy 1, 72, .inl ((va_up sf i (fun _ => 0)) k9))) ∧ tg1141 ((va_up ga3 i qg3) k9) = 280 + k9 ∧ wd_at w1178 ((va_up ga4 i qg4) k9) (.inl (cy 2, 72, .inl ((va_up uf i (fun _ => 0)) k9))) ∧ tg1141 ((va_up ga4 i qg4) k9) = 300 + k9 := by
        intro k9 hi9
        by_cases e9 : k9 = i
        · rw [e9]
          exact ⟨(by simp only [va_up_self]; exact ⟨aOK0, Nat.zero_le 12⟩), (by simp only [va_up_self]; exact k1188), (by rw [va_up_self]; exact t1151), (by simp only [va_up_self]; exact k1189), (by rw [va_up_self]; exact t1152), (by simp only [va_up_self]; exact k1190), (by rw [va_up_self]; exact t1153), (by simp only [va_up_self]; exact k1191), (by rw [va_up_self]; exact t1154), (by simp only [va_up_self]; exact k1192), (by rw [va_up_self]; exact t1155), (by simp only [va_up_self]; exact k1193), (by rw [va_up_self]; exact t1156)⟩
        · simp only [va_up_ne _ _ e9]
          exact fm1195 k9 (by omega)
      refine lv_iinc (v := nI (i + 1)) (lv' := [(1, .int (nI (i + 1))), (0, .ref x)]) hx hb dX10_init_45 hl (k := 1) rfl (nI_1 i) (by decide) rfl (fun ls hl => ?_)
      refine lv_goto (tgt := 26) hx hb dX10_init_48 (by decide) ?_
      refine W.widen (k := 6 + 7 * (i + 1)) (n := 328 + 250 * (i + 1)) (by omega) (by omega) ?_
      exact ih26 (i + 1) tg1141 (va_up tf i (some qt)) (va_up tn i qt) (va_up ag i qa) (va_up co i 0) (va_up ra i 1000) (va_up se i 0) (va_up aa i qa) (va_up ru i 0) (va_up df i (fun _ => 0)) (va_up cf i (fun _ => 0)) (va_up nf i (fun _ => 0)) (va_up sf i (fun _ => 0)) (va_up uf i (fun _ => 0)) (va_up ga0 i qg0) (va_up ga1 i qg1) (va_up ga2 i qg2) (va_up ga3 i qg3) (va_up ga4 i qg4) w1178 (by omega) t1167 t1168 t1169 t1170 t1171 t1172 t1173 hext1177 (up_ag hagL) (up_se hseL) k1180 k1181 k1182 k1183 k1184 k1185 k1197 fm1198 fm1199 kp1196 ls (lv_sub hl [1, 0] rfl) H locs hP hD hS
  refine W.widen (k := 6 + 7 * 0) (n := 328 + 250 * 0) (by omega) (by omega) ?_
  exact lp26 _ 0 tg51 (fun _ => none) (fun _ => 0) (fun _ => 0) (fun _ => 0) (fun _ => 0) (fun _ => 0) (fun _ => 0) (fun _ => 0) (fun _ _ => 0) (fun _ _ => 0) (fun _ _ => 0) (fun _ _ => 0) (fun _ _ => 0) (fun _ => 0) (fun _ => 0) (fun _ => 0) (fun _ => 0) (fun _ => 0) w60 (Nat.zero_add 12) t53 t54 t55 t56 t57 t58 (tgN et52) hext59 (fun z hz => absurd hz (Nat.not_lt_zero z)) (fun z hz => absurd hz (Nat.not_lt_zero z)) k62 k63 k64 k65 k66 k67 k68 (fun k9 hi9 => absurd hi9 (Nat.not_lt_zero k9)) (fun k9 hi9 => absurd hi9 (Nat.not_lt_zero k9)) kp69 ls (lv_sub hl [1, 0] rfl) H locs hP hD hS
