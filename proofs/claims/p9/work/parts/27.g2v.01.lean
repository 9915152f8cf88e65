set_option maxHeartbeats 4000000 in
set_option maxRecDepth 100000 in
theorem M_init (l : Launch) (D : va_G) (cy : Nat → ClassId) (sk sv : Nat → Nat) (w : Wd) (tg0 : Nat → Nat) (y : Nat)  (hy : wd_at w y (.inr (11, [.int 0, .int 0, .null, .null, .null, .null, .null, .int 0, .null, .null, .null, .null, .null, .null, .null, .int 0, .int 0, .null, .null, .null, .null, .null, .null, .null, .null, .int 0, .int 0, .int 0, .int 0, .null, .null, .null, .null, .null, .null, .null, .null, .null, .int 0, .null, .null, .null, .null, .null, .null, .null, .null, .null, .null, .null, .int 0, .null, .null, .null, .null, .int 0, .null, .null, .null, .null])))  (S : Nat → Prop) (sy : S y) (tq : tg0 y = 10000) : Ct l D cy sk sv yX11_init wsX11_init ({ frames := 2, cells := 132, slots := 7821, locals := 41 }) [.ref y] w (fun v w1 => v = none ∧ wd_kp S w w1 ∧ ∃ (tg1 : Nat → Nat) , (∀ a, a ∈ w.1 → tg1 a = tg0 a) ∧ (∀ se : Nat → Int32, (∀ t, t < 12 → se t = 0) → IM cy tg1 y 0 0 0 0 0 se (fun _ => 0) w1)) := by
  refine Ct.by (cc := cX11_init) (maxL := 3) (ret := none) (by decide +kernel) rfl (Nat.le_of_ble_eq_true rfl) ?_
  intro p e s m args below meth c A Q F hnm K ls hl
  have F : wd_Fx p s m args meth c cX11_init 3 wsX11_init RX11 D cy sk sv A := F
  have hl : lv_has ls 3 [(0, .ref y)] := hl
  have hx := F.1.1
  have hb := F.1.2.1
  have hown := F.1.2.2.2.1
  have hts := F.1.2.2.2.2
  intro H locs hP hD hS
  have kp0 : wd_kp S w w := wd_kp.rf
  obtain ⟨tg, etg0⟩ : ∃ f : Nat → Nat, f = tg0 := ⟨_, rfl⟩
  have hext0 : ∀ a, a ∈ w.1 → tg a = tg0 a := fun a _ => by rw [etg0]
  have tq0 : tg y = 10000 := by rw [etg0]; exact tq
  refine lv_aload_n hx hb dX11_init_0 rfl (lv_at hl 0 rfl) ?_
  refine x_objInit F (List.mem_cons_of_mem _ (List.mem_append_left _ (List.mem_append_left _ (List.mem_of_getElem? (i := 0) rfl)))) (List.mem_cons_of_mem _ (List.mem_append_left _ (List.mem_append_left _ (List.mem_of_getElem? (i := 1) rfl)))) (List.mem_cons_of_mem _ (List.mem_append_left _ (List.mem_append_left _ (List.mem_of_getElem? (i := 2) rfl)))) hl.1 dX11_init_1 (Nat.le_of_ble_eq_true rfl) (Nat.le_of_ble_eq_true rfl) ?_
  refine lv_aload_n hx hb dX11_init_4 rfl (lv_at hl 0 rfl) ?_
  refine lv_bipush (v := 12) hx hb dX11_init_5 (by decide) ?_
  refine lv_bipush (v := 12) hx hb dX11_init_7 (by decide) ?_
  refine y_mna (N := 12) (M := 12) F hP hD hS (List.mem_cons_of_mem _ (List.mem_append_left _ (List.mem_append_left _ (List.mem_of_getElem? (i := 3) rfl)))) (List.mem_cons_of_mem _ (List.mem_append_left _ (List.mem_append_left _ (List.mem_of_getElem? (i := 4) rfl)))) (by decide) (by decide) (by decide) (by decide) (by decide) (by decide) (Nat.le_of_ble_eq_true rfl) (Nat.le_of_ble_eq_true rfl) dX11_init_9 (fun m2 pr w1 ew2 hq3 hr4 hj5 hz6 H hP hD hS => ?_)
  refine W.widen (k := 13) (n := 156) (Nat.le_of_ble_eq_true rfl) (Nat.le_of_ble_eq_true rfl) ?_
  obtain ⟨qp, eqp⟩ : ∃ f : Nat → Option Nat, f = fun i => if i < 12 then some (pr i) else none := ⟨_, rfl⟩
  obtain ⟨fp, efp⟩ : ∃ f : Nat → Nat → Int32, f = fun _ _ => 0 := ⟨_, rfl⟩
  obtain ⟨tg7, et8⟩ : ∃ f : Nat → Nat, f = tgR tg pr 12 11000 := ⟨_, rfl⟩
  obtain ⟨tg9, et10⟩ : ∃ f : Nat → Nat, f = va_up tg7 m2 (10102) := ⟨_, rfl⟩
  have k11 := wd_at.mo ew2 hq3 hr4 hy
  have t12 := tgX et10 (wd_nL hq3 hy) (tgR_n et8 (fun i hi9 e9 => hr4 i hi9 (e9 ▸ hy.1)) tq0)
  have k13 : wd_at w1 m2 (.inl (cy 10, 12, .inr (.inr (.inr (.inr qp))))) := by rw [eqp]; exact wd_at.mq ew2
  have fm14 : ∀ k9, k9 < 12 → qp k9 = some (pr k9) ∧ wd_at w1 (pr k9) (.inl (cy 2, 12, .inl (fp k9))) ∧ tg9 (pr k9) = 11000 + k9 := fun k9 hi9 => ⟨by rw [eqp]; exact if_pos hi9, by rw [efp]; exact wd_at.mr ew2 hz6 k9 hi9, tgX et10 (hz6 k9 hi9) (tgR_r et8 hj5 hi9)⟩
  have fn15 : ∀ k9, k9 < 12 → (pr k9) ≠ m2 := hz6
  have ho2 : ∀ i, i < 12 → pr i ∉ w.1 := fun i hi9 => kp0.out (hr4 i hi9)
  have hext16 := tgE et10 (kp0.out hq3) (tgR_E et8 ho2 hext0)
  have kp17 := kp0.mna ew2 hq3 hr4
  refine y_putF (ref := "NoteHouseModel") F hP hD hS k11 rfl (fun _ h => List.mem_cons_of_mem _ (List.mem_append_right _ (h))) tyX11_ok nmX11 hnm 2 (Nat.le_of_ble_eq_true rfl) (List.mem_cons_of_mem _ (List.mem_append_left _ (List.mem_append_left _ (List.mem_of_getElem? (i := 5) rfl)))) rfl rfl rfl rfl rfl (Nat.le_of_ble_eq_true rfl) dX11_init_13 (fun w18 ew19 H locs hP hD hS => ?_)
  have k20 : wd_at w18 y (.inr (11, [.int 0, .int 0, .ref m2, .null, .null, .null, .null, .int 0, .null, .null, .null, .null, .null, .null, .null, .int 0, .int 0, .null, .null, .null, .null, .null, .null, .null, .null, .int 0, .int 0, .int 0, .int 0, .null, .null, .null, .null, .null, .null, .null, .null, .null, .int 0, .null, .null, .null, .null, .null, .null, .null, .null, .null, .null, .null, .int 0, .null, .null, .null, .null, .int 0, .null, .null, .null, .null])) := wd_at.ps ew19 k11
  have k21 := wd_at.pt ew19 k13 (tg_ne (tgN et10) t12 (by decide))
  have fm22 : ∀ k9, k9 < 12 → qp k9 = some (pr k9) ∧ wd_at w18 (pr k9) (.inl (cy 2, 12, .inl (fp k9))) ∧ tg9 (pr k9) = 11000 + k9 := fun k9 hi9 => ⟨(fm14 k9 hi9).1, wd_at.pt ew19 (fm14 k9 hi9).2.1 (tg_ne (fm14 k9 hi9).2.2 t12 (tnA (show 10000 < 11000 by decide))), (fm14 k9 hi9).2.2⟩
  have kp23 := kp17.put ew19 sy
  have hbn0 : bnd w18 tg9 [] := bnd.nil
  have hb924 := bnd.cons hbn0 k21 (tgN et10) (show 10000 < 10102 by decide)
  refine lv_aload_n hx hb dX11_init_16 rfl (lv_at hl 0 rfl) ?_
  refine lv_bipush (v := 12) hx hb dX11_init_17 (by decide) ?_
  refine lv_bipush (v := 12) hx hb dX11_init_19 (by decide) ?_
  refine y_mna (N := 12) (M := 12) F hP hD hS (List.mem_cons_of_mem _ (List.mem_append_left _ (List.mem_append_left _ (List.mem_of_getElem? (i := 3) rfl)))) (List.mem_cons_of_mem _ (List.mem_append_left _ (List.mem_append_left _ (List.mem_of_getElem? (i := 4) rfl)))) (by decide) (by decide) (by decide) (by decide) (by decide) (by decide) (Nat.le_of_ble_eq_true rfl) (Nat.le_of_ble_eq_true rfl) dX11_init_21 (fun m3 wr w25 ew26 hq27 hr28 hj29 hz30 H hP hD hS => ?_)
  refine W.widen (k := 26) (n := 312) (Nat.le_of_ble_eq_true rfl) (Nat.le_of_ble_eq_true rfl) ?_
  obtain ⟨qw, eqw⟩ : ∃ f : Nat → Option Nat, f = fun i => if i < 12 then some (wr i) else none := ⟨_, rfl⟩
  obtain ⟨fw, efw⟩ : ∃ f : Nat → Nat → Int32, f = fun _ _ => 0 := ⟨_, rfl⟩
  obtain ⟨tg31, et32⟩ : ∃ f : Nat → Nat, f = tgR tg9 wr 12 12000 := ⟨_, rfl⟩
  obtain ⟨tg33, et34⟩ : ∃ f : Nat → Nat, f = va_up tg31 m3 (10103) := ⟨_, rfl⟩
  have k35 := wd_at.mo ew26 hq27 hr28 k20
  have t36 := tgX et34 (wd_nL hq27 k20) (tgR_n et32 (fun i hi9 e9 => hr28 i hi9 (e9 ▸ k20.1)) t12)
  have fn37 : ∀ k9, k9 < 12 → (pr k9) ≠ m3 := fun k9 hi9 => wd_nL hq27 ((fm22 k9 hi9).2.1)
  have fm38 : ∀ k9, k9 < 12 → qp k9 = some (pr k9) ∧ wd_at w25 (pr k9) (.inl (cy 2, 12, .inl (fp k9))) ∧ tg33 (pr k9) = 11000 + k9 := fun k9 hi9 => ⟨(fm22 k9 hi9).1, wd_at.mo ew26 hq27 hr28 (fm22 k9 hi9).2.1, tgX et34 (wd_nL hq27 ((fm22 k9 hi9).2.1)) (tgR_n et32 (fun i hi8 e9 => hr28 i hi8 (e9 ▸ ((fm22 k9 hi9).2.1).1)) (fm22 k9 hi9).2.2)⟩
  have k39 : wd_at w25 m3 (.inl (cy 10, 12, .inr (.inr (.inr (.inr qw))))) := by rw [eqw]; exact wd_at.mq ew26
  have fm40 : ∀ k9, k9 < 12 → qw k9 = some (wr k9) ∧ wd_at w25 (wr k9) (.inl (cy 2, 12, .inl (fw k9))) ∧ tg33 (wr k9) = 12000 + k9 := fun k9 hi9 => ⟨by rw [eqw]; exact if_pos hi9, by rw [efw]; exact wd_at.mr ew26 hz30 k9 hi9, tgX et34 (hz30 k9 hi9) (tgR_r et32 hj29 hi9)⟩
  have fn41 : ∀ k9, k9 < 12 → (wr k9) ≠ m3 := hz30
  have ho3 : ∀ i, i < 12 → wr i ∉ w.1 := fun i hi9 => kp23.out (hr28 i hi9)
  have hext42 := tgE et34 (kp23.out hq27) (tgR_E et32 ho3 hext16)
  have kp43 := kp23.mna ew26 hq27 hr28
  have hb944 := bnd.mo ew26 hq27 hr28 et32 et34 hb924
  refine y_putF (ref := "NoteHouseModel") F hP hD hS k35 rfl (fun _ h => List.mem_cons_of_mem _ (List.mem_append_right _ (h))) tyX11_ok nmX11 hnm 3 (Nat.le_of_ble_eq_true rfl) (List.mem_cons_of_mem _ (List.mem_append_left _ (List.mem_append_left _ (List.mem_of_getElem? (i := 6) rfl)))) rfl rfl rfl rfl rfl (Nat.le_of_ble_eq_true rfl) dX11_init_25 (fun w45 ew46 H locs hP hD hS => ?_)
  have k47 : wd_at w45 y (.inr (11, [.int 0, .int 0, .ref m2, .ref m3, .null, .null, .null, .int 0, .null, .null, .null, .null, .null, .null, .null, .int 0, .int 0, .null, .null, .null, .null, .null, .null, .null, .null, .int 0, .int 0, .int 0, .int 0, .null, .null, .null, .null, .null, .null, .null, .null, .null, .int 0, .null, .null, .null, .null, .null, .null, .null, .null, .null, .null, .null, .int 0, .null, .null, .null, .null, .int 0, .null, .null, .null, .null])) := wd_at.ps ew46 k35
  have k48 := wd_at.pt ew46 k39 (tg_ne (tgN et34) t36 (by decide))
  have fm49 : ∀ k9, k9 < 12 → qp k9 = some (pr k9) ∧ wd_at w45 (pr k9) (.inl (cy 2, 12, .inl (fp k9))) ∧ tg33 (pr k9) = 11000 + k9 := fun k9 hi9 => ⟨(fm38 k9 hi9).1, wd_at.pt ew46 (fm38 k9 hi9).2.1 (tg_ne (fm38 k9 hi9).2.2 t36 (tnA (show 10000 < 11000 by decide))), (fm38 k9 hi9).2.2⟩
  have fm50 : ∀ k9, k9 < 12 → qw k9 = some (wr k9) ∧ wd_at w45 (wr k9) (.inl (cy 2, 12, .inl (fw k9))) ∧ tg33 (wr k9) = 12000 + k9 := fun k9 hi9 => ⟨(fm40 k9 hi9).1, wd_at.pt ew46 (fm40 k9 hi9).2.1 (tg_ne (fm40 k9 hi9).2.2 t36 (tnA (show 10000 < 12000 by decide))), (fm40 k9 hi9).2.2⟩
  have kp51 := kp43.put ew46 sy
  have hb952 := bnd.pt ew46 t36 hb944
  have hb953 := bnd.cons hb952 k48 (tgN et34) (show 10000 < 10103 by decide)
  refine lv_aload_n hx hb dX11_init_28 rfl (lv_at hl 0 rfl) ?_
  refine lv_bipush (v := 12) hx hb dX11_init_29 (by decide) ?_
  refine y_newI (N := 12) F hP hD hS (List.mem_cons_of_mem _ (List.mem_append_left _ (List.mem_append_left _ (List.mem_of_getElem? (i := 4) rfl)))) (by decide) (by decide) (by decide) (Nat.le_of_ble_eq_true rfl) (Nat.le_of_ble_eq_true rfl) dX11_init_31 (fun m4 w54 ew55 hq56 H hP hD hS => ?_)
  refine W.widen (k := 27) (n := 324) (Nat.le_of_ble_eq_true rfl) (Nat.le_of_ble_eq_true rfl) ?_
  have k57 := wd_at.ad ew55 hq56 k47
  have k58 : wd_at w54 m4 (.inl (cy 2, 12, .inl (fun _ => 0))) := wd_at.nw ew55
  have fm59 : ∀ k9, k9 < 12 → qp k9 = some (pr k9) ∧ wd_at w54 (pr k9) (.inl (cy 2, 12, .inl (fp k9))) ∧ tg33 (pr k9) = 11000 + k9 := fun k9 hi9 => ⟨(fm49 k9 hi9).1, wd_at.ad ew55 hq56 (fm49 k9 hi9).2.1, (fm49 k9 hi9).2.2⟩
  have fn60 : ∀ k9, k9 < 12 → (pr k9) ≠ m4 := fun k9 hi9 => wd_nL hq56 (fm49 k9 hi9).2.1
  have fm61 : ∀ k9, k9 < 12 → qw k9 = some (wr k9) ∧ wd_at w54 (wr k9) (.inl (cy 2, 12, .inl (fw k9))) ∧ tg33 (wr k9) = 12000 + k9 := fun k9 hi9 => ⟨(fm50 k9 hi9).1, wd_at.ad ew55 hq56 (fm50 k9 hi9).2.1, (fm50 k9 hi9).2.2⟩
  have fn62 : ∀ k9, k9 < 12 → (wr k9) ≠ m4 := fun k9 hi9 => wd_nL hq56 (fm50 k9 hi9).2.1
  have kp63 := kp51.add ew55 hq56
  obtain ⟨tg64, et65⟩ : ∃ f : Nat → Nat, f = va_up tg33 m4 (10104) := ⟨_, rfl⟩
  have t66 := tgX et65 (wd_nL hq56 k47) t36
  have fm67 : ∀ k9, k9 < 12 → qp k9 = some (pr k9) ∧ wd_at w54 (pr k9) (.inl (cy 2, 12, .inl (fp k9))) ∧ tg64 (pr k9) = 11000 + k9 := fun k9 hi9 => ⟨(fm59 k9 hi9).1, (fm59 k9 hi9).2.1, tgX et65 (fn60 k9 hi9) (fm59 k9 hi9).2.2⟩
  have fm68 : ∀ k9, k9 < 12 → qw k9 = some (wr k9) ∧ wd_at w54 (wr k9) (.inl (cy 2, 12, .inl (fw k9))) ∧ tg64 (wr k9) = 12000 + k9 := fun k9 hi9 => ⟨(fm61 k9 hi9).1, (fm61 k9 hi9).2.1, tgX et65 (fn62 k9 hi9) (fm61 k9 hi9).2.2⟩
  have hext69 := tgE et65 (kp51.out hq56) hext42
  have hb970 := bnd.ad ew55 hq56 et65 hb953
  refine y_putF (ref := "NoteHouseModel") F hP hD hS k57 rfl (fun _ h => List.mem_cons_of_mem _ (List.mem_append_right _ (h))) tyX11_ok nmX11 hnm 4 (Nat.le_of_ble_eq_true rfl) (List.mem_cons_of_mem _ (List.mem_append_left _ (List.mem_append_left _ (List.mem_of_getElem? (i := 7) rfl)))) rfl rfl rfl rfl rfl (Nat.le_of_ble_eq_true rfl) dX11_init_33 (fun w71 ew72 H locs hP hD hS => ?_)
  have k73 : wd_at w71 y (.inr (11, [.int 0, .int 0, .ref m2, .ref m3, .ref m4, .null, .null, .int 0, .null, .null, .null, .null, .null, .null, .null, .int 0, .int 0, .null, .null, .null, .null, .null, .null, .null, .null, .int 0, .int 0, .int 0, .int 0, .null, .null, .null, .null, .null, .null, .null, .null, .null, .int 0, .null, .null, .null, .null, .null, .null, .null, .null, .null, .null, .null, .int 0, .null, .null, .null, .null, .int 0, .null, .null, .null, .null])) := wd_at.ps ew72 k57
  have k74 := wd_at.pt ew72 k58 (tg_ne (tgN et65) t66 (by decide))
  have fm75 : ∀ k9, k9 < 12 → qp k9 = some (pr k9) ∧ wd_at w71 (pr k9) (.inl (cy 2, 12, .inl (fp k9))) ∧ tg64 (pr k9) = 11000 + k9 := fun k9 hi9 => ⟨(fm67 k9 hi9).1, wd_at.pt ew72 (fm67 k9 hi9).2.1 (tg_ne (fm67 k9 hi9).2.2 t66 (tnA (show 10000 < 11000 by decide))), (fm67 k9 hi9).2.2⟩
  have fm76 : ∀ k9, k9 < 12 → qw k9 = some (wr k9) ∧ wd_at w71 (wr k9) (.inl (cy 2, 12, .inl (fw k9))) ∧ tg64 (wr k9) = 12000 + k9 := fun k9 hi9 => ⟨(fm68 k9 hi9).1, wd_at.pt ew72 (fm68 k9 hi9).2.1 (tg_ne (fm68 k9 hi9).2.2 t66 (tnA (show 10000 < 12000 by decide))), (fm68 k9 hi9).2.2⟩
  have kp77 := kp63.put ew72 sy
  have hb978 := bnd.pt ew72 t66 hb970
  have hb979 := bnd.cons hb978 k74 (tgN et65) (show 10000 < 10104 by decide)
  refine lv_aload_n hx hb dX11_init_36 rfl (lv_at hl 0 rfl) ?_
  refine lv_bipush (v := 12) hx hb dX11_init_37 (by decide) ?_
  refine y_newI (N := 12) F hP hD hS (List.mem_cons_of_mem _ (List.mem_append_left _ (List.mem_append_left _ (List.mem_of_getElem? (i := 4) rfl)))) (by decide) (by decide) (by decide) (Nat.le_of_ble_eq_true rfl) (Nat.le_of_ble_eq_true rfl) dX11_init_39 (fun m5 w80 ew81 hq82 H hP hD hS => ?_)
  refine W.widen (k := 28) (n := 336) (Nat.le_of_ble_eq_true rfl) (Nat.le_of_ble_eq_true rfl) ?_
  have k83 := wd_at.ad ew81 hq82 k73
  have k84 : wd_at w80 m5 (.inl (cy 2, 12, .inl (fun _ => 0))) := wd_at.nw ew81
  have fm85 : ∀ k9, k9 < 12 → qp k9 = some (pr k9) ∧ wd_at w80 (pr k9) (.inl (cy 2, 12, .inl (fp k9))) ∧ tg64 (pr k9) = 11000 + k9 := fun k9 hi9 => ⟨(fm75 k9 hi9).1, wd_at.ad ew81 hq82 (fm75 k9 hi9).2.1, (fm75 k9 hi9).2.2⟩
  have fn86 : ∀ k9, k9 < 12 → (pr k9) ≠ m5 := fun k9 hi9 => wd_nL hq82 (fm75 k9 hi9).2.1
  have fm87 : ∀ k9, k9 < 12 → qw k9 = some (wr k9) ∧ wd_at w80 (wr k9) (.inl (cy 2, 12, .inl (fw k9))) ∧ tg64 (wr k9) = 12000 + k9 := fun k9 hi9 => ⟨(fm76 k9 hi9).1, wd_at.ad ew81 hq82 (fm76 k9 hi9).2.1, (fm76 k9 hi9).2.2⟩
  have fn88 : ∀ k9, k9 < 12 → (wr k9) ≠ m5 := fun k9 hi9 => wd_nL hq82 (fm76 k9 hi9).2.1
  have kp89 := kp77.add ew81 hq82
  obtain ⟨tg90, et91⟩ : ∃ f : Nat → Nat, f = va_up tg64 m5 (10105) := ⟨_, rfl⟩
  have t92 := tgX et91 (wd_nL hq82 k73) t66
  have fm93 : ∀ k9, k9 < 12 → qp k9 = some (pr k9) ∧ wd_at w80 (pr k9) (.inl (cy 2, 12, .inl (fp k9))) ∧ tg90 (pr k9) = 11000 + k9 := fun k9 hi9 => ⟨(fm85 k9 hi9).1, (fm85 k9 hi9).2.1, tgX et91 (fn86 k9 hi9) (fm85 k9 hi9).2.2⟩
  have fm94 : ∀ k9, k9 < 12 → qw k9 = some (wr k9) ∧ wd_at w80 (wr k9) (.inl (cy 2, 12, .inl (fw k9))) ∧ tg90 (wr k9) = 12000 + k9 := fun k9 hi9 => ⟨(fm87 k9 hi9).1, (fm87 k9 hi9).2.1, tgX et91 (fn88 k9 hi9) (fm87 k9 hi9).2.2⟩
  have hext95 := tgE et91 (kp77.out hq82) hext69
  have hb996 := bnd.ad ew81 hq82 et91 hb979
  refine y_putF (ref := "NoteHouseModel") F hP hD hS k83 rfl (fun _ h => List.mem_cons_of_mem _ (List.mem_append_right _ (h))) tyX11_ok nmX11 hnm 5 (Nat.le_of_ble_eq_true rfl) (List.mem_cons_of_mem _ (List.mem_append_left _ (List.mem_append_left _ (List.mem_of_getElem? (i := 8) rfl)))) rfl rfl rfl rfl rfl (Nat.le_of_ble_eq_true rfl) dX11_init_41 (fun w97 ew98 H locs hP hD hS => ?_)
  have k99 : wd_at w97 y (.inr (11, [.int 0, .int 0, .ref m2, .ref m3, .ref m4, .ref m5, .null, .int 0, .null, .null, .null, .null, .null, .null, .null, .int 0, .int 0, .null, .null, .null, .null, .null, .null, .null, .null, .int 0, .int 0, .int 0, .int 0, .null, .null, .null, .null, .null, .null, .null, .null, .null, .int 0, .null, .null, .null, .null, .null, .null, .null, .null, .null, .null, .null, .int 0, .null, .null, .null, .null, .int 0, .null, .null, .null, .null])) := wd_at.ps ew98 k83
  have k100 := wd_at.pt ew98 k84 (tg_ne (tgN et91) t92 (by decide))
  have fm101 : ∀ k9, k9 < 12 → qp k9 = some (pr k9) ∧ wd_at w97 (pr k9) (.inl (cy 2, 12, .inl (fp k9))) ∧ tg90 (pr k9) = 11000 + k9 := fun k9 hi9 => ⟨(fm93 k9 hi9).1, wd_at.pt ew98 (fm93 k9 hi9).2.1 (tg_ne (fm93 k9 hi9).2.2 t92 (tnA (show 10000 < 11000 by decide))), (fm93 k9 hi9).2.2⟩
  have fm102 : ∀ k9, k9 < 12 → qw k9 = some (wr k9) ∧ wd_at w97 (wr k9) (.inl (cy 2, 12, .inl (fw k9))) ∧ tg90 (wr k9) = 12000 + k9 := fun k9 hi9 => ⟨(fm94 k9 hi9).1, wd_at.pt ew98 (fm94 k9 hi9).2.1 (tg_ne (fm94 k9 hi9).2.2 t92 (tnA (show 10000 < 12000 by decide))), (fm94 k9 hi9).2.2⟩
  have kp103 := kp89.put ew98 sy
  have hb9104 := bnd.pt ew98 t92 hb996
  have hb9105 := bnd.cons hb9104 k100 (tgN et91) (show 10000 < 10105 by decide)
  refine lv_aload_n hx hb dX11_init_44 rfl (lv_at hl 0 rfl) ?_
  refine lv_bipush (v := 12) hx hb dX11_init_45 (by decide) ?_
  refine y_newI (N := 12) F hP hD hS (List.mem_cons_of_mem _ (List.mem_append_left _ (List.mem_append_left _ (List.mem_of_getElem? (i := 4) rfl)))) (by decide) (by decide) (by decide) (Nat.le_of_ble_eq_true rfl) (Nat.le_of_ble_eq_true rfl) dX11_init_47 (fun m6 w106 ew107 hq108 H hP hD hS => ?_)
  refine W.widen (k := 29) (n := 348) (Nat.le_of_ble_eq_true rfl) (Nat.le_of_ble_eq_true rfl) ?_
  have k109 := wd_at.ad ew107 hq108 k99
  have k110 : wd_at w106 m6 (.inl (cy 2, 12, .inl (fun _ => 0))) := wd_at.nw ew107
  have fm111 : ∀ k9, k9 < 12 → qp k9 = some (pr k9) ∧ wd_at w106 (pr k9) (.inl (cy 2, 12, .inl (fp k9))) ∧ tg90 (pr k9) = 11000 + k9 := fun k9 hi9 => ⟨(fm101 k9 hi9).1, wd_at.ad ew107 hq108 (fm101 k9 hi9).2.1, (fm101 k9 hi9).2.2⟩
  have fn112 : ∀ k9, k9 < 12 → (pr k9) ≠ m6 := fun k9 hi9 => wd_nL hq108 (fm101 k9 hi9).2.1
  have fm113 : ∀ k9, k9 < 12 → qw k9 = some (wr k9) ∧ wd_at w106 (wr k9) (.inl (cy 2, 12, .inl (fw k9))) ∧ tg90 (wr k9) = 12000 + k9 := fun k9 hi9 => ⟨(fm102 k9 hi9).1, wd_at.ad ew107 hq108 (fm102 k9 hi9).2.1, (fm102 k9 hi9).2.2⟩
  have fn114 : ∀ k9, k9 < 12 → (wr k9) ≠ m6 := fun k9 hi9 => wd_nL hq108 (fm102 k9 hi9).2.1
  have kp115 := kp103.add ew107 hq108
  obtain ⟨tg116, et117⟩ : ∃ f : Nat → Nat, f = va_up tg90 m6 (10106) := ⟨_, rfl⟩
  have t118 := tgX et117 (wd_nL hq108 k99) t92
  have fm119 : ∀ k9, k9 < 12 → qp k9 = some (pr k9) ∧ wd_at w106 (pr k9) (.inl (cy 2, 12, .inl (fp k9))) ∧ tg116 (pr k9) = 11000 + k9 := fun k9 hi9 => ⟨(fm111 k9 hi9).1, (fm111 k9 hi9).2.1, tgX et117 (fn112 k9 hi9) (fm111 k9 hi9).2.2⟩
  have fm120 : ∀ k9, k9 < 12 → qw k9 = some (wr k9) ∧ wd_at w106 (wr k9) (.inl (cy 2, 12, .inl (fw k9))) ∧ tg116 (wr k9) = 12000 + k9 := fun k9 hi9 => ⟨(fm113 k9 hi9).1, (fm113 k9 hi9).2.1, tgX et117 (fn114 k9 hi9) (fm113 k9 hi9).2.2⟩
  have hext121 := tgE et117 (kp103.out hq108) hext95
  have hb9122 := bnd.ad ew107 hq108 et117 hb9105
  refine y_putF (ref := "NoteHouseModel") F hP hD hS k109 rfl (fun _ h => List.mem_cons_of_mem _ (List.mem_append_right _ (h))) tyX11_ok nmX11 hnm 6 (Nat.le_of_ble_eq_true rfl) (List.mem_cons_of_mem _ (List.mem_append_left _ (List.mem_append_left _ (List.mem_of_getElem? (i := 9) rfl)))) rfl rfl rfl rfl rfl (Nat.le_of_ble_eq_true rfl) dX11_init_49 (fun w123 ew124 H locs hP hD hS => ?_)
  have k125 : wd_at w123 y (.inr (11, [.int 0, .int 0, .ref m2, .ref m3, .ref m4, .ref m5, .ref m6, .int 0, .null, .null, .null, .null, .null, .null, .null, .int 0, .int 0, .null, .null, .null, .null, .null, .null, .null, .null, .int 0, .int 0, .int 0, .int 0, .null, .null, .null, .null, .null, .null, .null, .null, .null, .int 0, .null, .null, .null, .null, .null, .null, .null, .null, .null, .null, .null, .int 0, .null, .null, .null, .null, .int 0, .null, .null, .null, .null])) := wd_at.ps ew124 k109
  have k126 := wd_at.pt ew124 k110 (tg_ne (tgN et117) t118 (by decide))
  have fm127 : ∀ k9, k9 < 12 → qp k9 = some (pr k9) ∧ wd_at w123 (pr k9) (.inl (cy 2, 12, .inl (fp k9))) ∧ tg116 (pr k9) = 11000 + k9 := fun k9 hi9 => ⟨(fm119 k9 hi9).1, wd_at.pt ew124 (fm119 k9 hi9).2.1 (tg_ne (fm119 k9 hi9).2.2 t118 (tnA (show 10000 < 11000 by decide))), (fm119 k9 hi9).2.2⟩
  have fm128 : ∀ k9, k9 < 12 → qw k9 = some (wr k9) ∧ wd_at w123 (wr k9) (.inl (cy 2, 12, .inl (fw k9))) ∧ tg116 (wr k9) = 12000 + k9 := fun k9 hi9 => ⟨(fm120 k9 hi9).1, wd_at.pt ew124 (fm120 k9 hi9).2.1 (tg_ne (fm120 k9 hi9).2.2 t118 (tnA (show 10000 < 12000 by decide))), (fm120 k9 hi9).2.2⟩
  have kp129 := kp115.put ew124 sy
  have hb9130 := bnd.pt ew124 t118 hb9122
  have hb9131 := bnd.cons hb9130 k126 (tgN et117) (show 10000 < 10106 by decide)
  refine lv_aload_n hx hb dX11_init_52 rfl (lv_at hl 0 rfl) ?_
  refine lv_bipush (v := 30) hx hb dX11_init_53 (by decide) ?_
  refine y_newI (N := 30) F hP hD hS (List.mem_cons_of_mem _ (List.mem_append_left _ (List.mem_append_left _ (List.mem_of_getElem? (i := 4) rfl)))) (by decide) (by decide) (by decide) (Nat.le_of_ble_eq_true rfl) (Nat.le_of_ble_eq_true rfl) dX11_init_55 (fun m8 w132 ew133 hq134 H hP hD hS => ?_)
  refine W.widen (k := 30) (n := 378) (Nat.le_of_ble_eq_true rfl) (Nat.le_of_ble_eq_true rfl) ?_
  have k135 := wd_at.ad ew133 hq134 k125
  have k136 : wd_at w132 m8 (.inl (cy 2, 30, .inl (fun _ => 0))) := wd_at.nw ew133
  have fm137 : ∀ k9, k9 < 12 → qp k9 = some (pr k9) ∧ wd_at w132 (pr k9) (.inl (cy 2, 12, .inl (fp k9))) ∧ tg116 (pr k9) = 11000 + k9 := fun k9 hi9 => ⟨(fm127 k9 hi9).1, wd_at.ad ew133 hq134 (fm127 k9 hi9).2.1, (fm127 k9 hi9).2.2⟩
  have fn138 : ∀ k9, k9 < 12 → (pr k9) ≠ m8 := fun k9 hi9 => wd_nL hq134 (fm127 k9 hi9).2.1
  have fm139 : ∀ k9, k9 < 12 → qw k9 = some (wr k9) ∧ wd_at w132 (wr k9) (.inl (cy 2, 12, .inl (fw k9))) ∧ tg116 (wr k9) = 12000 + k9 := fun k9 hi9 => ⟨(fm128 k9 hi9).1, wd_at.ad ew133 hq134 (fm128 k9 hi9).2.1, (fm128 k9 hi9).2.2⟩
  have fn140 : ∀ k9, k9 < 12 → (wr k9) ≠ m8 := fun k9 hi9 => wd_nL hq134 (fm128 k9 hi9).2.1
  have kp141 := kp129.add ew133 hq134
  obtain ⟨tg142, et143⟩ : ∃ f : Nat → Nat, f = va_up tg116 m8 (10108) := ⟨_, rfl⟩
  have t144 := tgX et143 (wd_nL hq134 k125) t118
  have fm145 : ∀ k9, k9 < 12 → qp k9 = some (pr k9) ∧ wd_at w132 (pr k9) (.inl (cy 2, 12, .inl (fp k9))) ∧ tg142 (pr k9) = 11000 + k9 := fun k9 hi9 => ⟨(fm137 k9 hi9).1, (fm137 k9 hi9).2.1, tgX et143 (fn138 k9 hi9) (fm137 k9 hi9).2.2⟩
  have fm146 : ∀ k9, k9 < 12 → qw k9 = some (wr k9) ∧ wd_at w132 (wr k9) (.inl (cy 2, 12, .inl (fw k9))) ∧ tg142 (wr k9) = 12000 + k9 := fun k9 hi9 => ⟨(fm139 k9 hi9).1, (fm139 k9 hi9).2.1, tgX et143 (fn140 k9 hi9) (fm139 k9 hi9).2.2⟩
  have hext147 := tgE et143 (kp129.out hq134) hext121
  have hb9148 := bnd.ad ew133 hq134 et143 hb9131
  refine y_putF (ref := "NoteHouseModel") F hP hD hS k135 rfl (fun _ h => List.mem_cons_of_mem _ (List.mem_append_right _ (h))) tyX11_ok nmX11 hnm 8 (Nat.le_of_ble_eq_true rfl) (List.mem_cons_of_mem _ (List.mem_append_left _ (List.mem_append_left _ (List.mem_of_getElem? (i := 10) rfl)))) rfl rfl rfl rfl rfl (Nat.le_of_ble_eq_true rfl) dX11_init_57 (fun w149 ew150 H locs hP hD hS => ?_)
  have k151 : wd_at w149 y (.inr (11, [.int 0, .int 0, .ref m2, .ref m3, .ref m4, .ref m5, .ref m6, .int 0, .ref m8, .null, .null, .null, .null, .null, .null, .int 0, .int 0, .null, .null, .null, .null, .null, .null, .null, .null, .int 0, .int 0, .int 0, .int 0, .null, .null, .null, .null, .null, .null, .null, .null, .null, .int 0, .null, .null, .null, .null, .null, .null, .null, .null, .null, .null, .null, .int 0, .null, .null, .null, .null, .int 0, .null, .null, .null, .null])) := wd_at.ps ew150 k135
  have k152 := wd_at.pt ew150 k136 (tg_ne (tgN et143) t144 (by decide))
  have fm153 : ∀ k9, k9 < 12 → qp k9 = some (pr k9) ∧ wd_at w149 (pr k9) (.inl (cy 2, 12, .inl (fp k9))) ∧ tg142 (pr k9) = 11000 + k9 := fun k9 hi9 => ⟨(fm145 k9 hi9).1, wd_at.pt ew150 (fm145 k9 hi9).2.1 (tg_ne (fm145 k9 hi9).2.2 t144 (tnA (show 10000 < 11000 by decide))), (fm145 k9 hi9).2.2⟩
  have fm154 : ∀ k9, k9 < 12 → qw k9 = some (wr k9) ∧ wd_at w149 (wr k9) (.inl (cy 2, 12, .inl (fw k9))) ∧ tg142 (wr k9) = 12000 + k9 := fun k9 hi9 => ⟨(fm146 k9 hi9).1, wd_at.pt ew150 (fm146 k9 hi9).2.1 (tg_ne (fm146 k9 hi9).2.2 t144 (tnA (show 10000 < 12000 by decide))), (fm146 k9 hi9).2.2⟩
  have kp155 := kp141.put ew150 sy
  have hb9156 := bnd.pt ew150 t144 hb9148
  have hb9157 := bnd.cons hb9156 k152 (tgN et143) (show 10000 < 10108 by decide)
  refine lv_aload_n hx hb dX11_init_60 rfl (lv_at hl 0 rfl) ?_
  refine lv_bipush (v := 30) hx hb dX11_init_61 (by decide) ?_
  refine y_newI (N := 30) F hP hD hS (List.mem_cons_of_mem _ (List.mem_append_left _ (List.mem_append_left _ (List.mem_of_getElem? (i := 4) rfl)))) (by decide) (by decide) (by decide) (Nat.le_of_ble_eq_true rfl) (Nat.le_of_ble_eq_true rfl) dX11_init_63 (fun m9 w158 ew159 hq160 H hP hD hS => ?_)
  refine W.widen (k := 31) (n := 408) (Nat.le_of_ble_eq_true rfl) (Nat.le_of_ble_eq_true rfl) ?_
  have k161 := wd_at.ad ew159 hq160 k151
  have k162 : wd_at w158 m9 (.inl (cy 2, 30, .inl (fun _ => 0))) := wd_at.nw ew159
  have fm163 : ∀ k9, k9 < 12 → qp k9 = some (pr k9) ∧ wd_at w158 (pr k9) (.inl (cy 2, 12, .inl (fp k9))) ∧ tg142 (pr k9) = 11000 + k9 := fun k9 hi9 => ⟨(fm153 k9 hi9).1, wd_at.ad ew159 hq160 (fm153 k9 hi9).2.1, (fm153 k9 hi9).2.2⟩
  have fn164 : ∀ k9, k9 < 12 → (pr k9) ≠ m9 := fun k9 hi9 => wd_nL hq160 (fm153 k9 hi9).2.1
  have fm165 : ∀ k9, k9 < 12 → qw k9 = some (wr k9) ∧ wd_at w158 (wr k9) (.inl (cy 2, 12, .inl (fw k9))) ∧ tg142 (wr k9) = 12000 + k9 := fun k9 hi9 => ⟨(fm154 k9 hi9).1, wd_at.ad ew159 hq160 (fm154 k9 hi9).2.1, (fm154 k9 hi9).2.2⟩
  have fn166 : ∀ k9, k9 < 12 → (wr k9) ≠ m9 := fun k9 hi9 => wd_nL hq160 (fm154 k9 hi9).2.1
  have kp167 := kp155.add ew159 hq160
  obtain ⟨tg168, et169⟩ : ∃ f : Nat → Nat, f = va_up tg142 m9 (10109) := ⟨_, rfl⟩
  have t170 := tgX et169 (wd_nL hq160 k151) t144
  have fm171 : ∀ k9, k9 < 12 → qp k9 = some (pr k9) ∧ wd_at w158 (pr k9) (.inl (cy 2, 12, .inl (fp k9))) ∧ tg168 (pr k9) = 11000 + k9 := fun k9 hi9 => ⟨(fm163 k9 hi9).1, (fm163 k9 hi9).2.1, tgX et169 (fn164 k9 hi9) (fm163 k9 hi9).2.2⟩
  have fm172 : ∀ k9, k9 < 12 → qw k9 = some (wr k9) ∧ wd_at w158 (wr k9) (.inl (cy 2, 12, .inl (fw k9))) ∧ tg168 (wr k9) = 12000 + k9 := fun k9 hi9 => ⟨(fm165 k9 hi9).1, (fm165 k9 hi9).2.1, tgX et169 (fn166 k9 hi9) (fm165 k9 hi9).2.2⟩
  have hext173 := tgE et169 (kp155.out hq160) hext147
  have hb9174 := bnd.ad ew159 hq160 et169 hb9157
  refine y_putF (ref := "NoteHouseModel") F hP hD hS k161 rfl (fun _ h => List.mem_cons_of_mem _ (List.mem_append_right _ (h))) tyX11_ok nmX11 hnm 9 (Nat.le_of_ble_eq_true rfl) (List.mem_cons_of_mem _ (List.mem_append_left _ (List.mem_append_left _ (List.mem_of_getElem? (i := 11) rfl)))) rfl rfl rfl rfl rfl (Nat.le_of_ble_eq_true rfl) dX11_init_65 (fun w175 ew176 H locs hP hD hS => ?_)
  have k177 : wd_at w175 y (.inr (11, [.int 0, .int 0, .ref m2, .ref m3, .ref m4, .ref m5, .ref m6, .int 0, .ref m8, .ref m9, .null, .null, .null, .null, .null, .int 0, .int 0, .null, .null, .null, .null, .null, .null, .null, .null, .int 0, .int 0, .int 0, .int 0, .null, .null, .null, .null, .null, .null, .null, .null, .null, .int 0, .null, .null, .null, .null, .null, .null, .null, .null, .null, .null, .null, .int 0, .null, .null, .null, .null, .int 0, .null, .null, .null, .null])) := wd_at.ps ew176 k161
  have k178 := wd_at.pt ew176 k162 (tg_ne (tgN et169) t170 (by decide))
  have fm179 : ∀ k9, k9 < 12 → qp k9 = some (pr k9) ∧ wd_at w175 (pr k9) (.inl (cy 2, 12, .inl (fp k9))) ∧ tg168 (pr k9) = 11000 + k9 := fun k9 hi9 => ⟨(fm171 k9 hi9).1, wd_at.pt ew176 (fm171 k9 hi9).2.1 (tg_ne (fm171 k9 hi9).2.2 t170 (tnA (show 10000 < 11000 by decide))), (fm171 k9 hi9).2.2⟩
  have fm180 : ∀ k9, k9 < 12 → qw k9 = some (wr k9) ∧ wd_at w175 (wr k9) (.inl (cy 2, 12, .inl (fw k9))) ∧ tg168 (wr k9) = 12000 + k9 := fun k9 hi9 => ⟨(fm172 k9 hi9).1, wd_at.pt ew176 (fm172 k9 hi9).2.1 (tg_ne (fm172 k9 hi9).2.2 t170 (tnA (show 10000 < 12000 by decide))), (fm172 k9 hi9).2.2⟩
  have kp181 := kp167.put ew176 sy
  have hb9182 := bnd.pt ew176 t170 hb9174
  have hb9183 := bnd.cons hb9182 k178 (tgN et169) (show 10000 < 10109 by decide)
  refine lv_aload_n hx hb dX11_init_68 rfl (lv_at hl 0 rfl) ?_
  refine lv_bipush (v := 30) hx hb dX11_init_69 (by decide) ?_
  refine y_newI (N := 30) F hP hD hS (List.mem_cons_of_mem _ (List.mem_append_left _ (List.mem_append_left _ (List.mem_of_getElem? (i := 4) rfl)))) (by decide) (by decide) (by decide) (Nat.le_of_ble_eq_true rfl) (Nat.le_of_ble_eq_true rfl) dX11_init_71 (fun m10 w184 ew185 hq186 H hP hD hS => ?_)
  refine W.widen (k := 32) (n := 438) (Nat.le_of_ble_eq_true rfl) (Nat.le_of_ble_eq_true rfl) ?_
  have k187 := wd_at.ad ew185 hq186 k177
  have k188 : wd_at w184 m10 (.inl (cy 2, 30, .inl (fun _ => 0))) := wd_at.nw ew185
  have fm189 : ∀ k9, k9 < 12 → qp k9 = some (pr k9) ∧ wd_at w184 (pr k9) (.inl (cy 2, 12, .inl (fp k9))) ∧ tg168 (pr k9) = 11000 + k9 := fun k9 hi9 => ⟨(fm179 k9 hi9).1, wd_at.ad ew185 hq186 (fm179 k9 hi9).2.1, (fm179 k9 hi9).2.2⟩
  have fn190 : ∀ k9, k9 < 12 → (pr k9) ≠ m10 := fun k9 hi9 => wd_nL hq186 (fm179 k9 hi9).2.1
  have fm191 : ∀ k9, k9 < 12 → qw k9 = some (wr k9) ∧ wd_at w184 (wr k9) (.inl (cy 2, 12, .inl (fw k9))) ∧ tg168 (wr k9) = 12000 + k9 := fun k9 hi9 => ⟨(fm180 k9 hi9).1, wd_at.ad ew185 hq186 (fm180 k9 hi9).2.1, (fm180 k9 hi9).2.2⟩
  have fn192 : ∀ k9, k9 < 12 → (wr k9) ≠ m10 := fun k9 hi9 => wd_nL hq186 (fm180 k9 hi9).2.1
  have kp193 := kp181.add ew185 hq186
  obtain ⟨tg194, et195⟩ : ∃ f : Nat → Nat, f = va_up tg168 m10 (10110) := ⟨_, rfl⟩
  have t196 := tgX et195 (wd_nL hq186 k177) t170
  have fm197 : ∀ k9, k9 < 12 → qp k9 = some (pr k9) ∧ wd_at w184 (pr k9) (.inl (cy 2, 12, .inl (fp k9))) ∧ tg194 (pr k9) = 11000 + k9 := fun k9 hi9 => ⟨(fm189 k9 hi9).1, (fm189 k9 hi9).2.1, tgX et195 (fn190 k9 hi9) (fm189 k9 hi9).2.2⟩
  have fm198 : ∀ k9, k9 < 12 → qw k9 = some (wr k9) ∧ wd_at w184 (wr k9) (.inl (cy 2, 12, .inl (fw k9))) ∧ tg194 (wr k9) = 12000 + k9 := fun k9 hi9 => ⟨(fm191 k9 hi9).1, (fm191 k9 hi9).2.1, tgX et195 (fn192 k9 hi9) (fm191 k9 hi9).2.2⟩
  have hext199 := tgE et195 (kp181.out hq186) hext173
  have hb9200 := bnd.ad ew185 hq186 et195 hb9183
  refine y_putF (ref := "NoteHouseModel") F hP hD hS k187 rfl (fun _ h => List.mem_cons_of_mem _ (List.mem_append_right _ (h))) tyX11_ok nmX11 hnm 10 (Nat.le_of_ble_eq_true rfl) (List.mem_cons_of_mem _ (List.mem_append_left _ (List.mem_append_left _ (List.mem_of_getElem? (i := 12) rfl)))) rfl rfl rfl rfl rfl (Nat.le_of_ble_eq_true rfl) dX11_init_73 (fun w201 ew202 H locs hP hD hS => ?_)
  have k203 : wd_at w201 y (.inr (11, [.int 0, .int 0, .ref m2, .ref m3, .ref m4, .ref m5, .ref m6, .int 0, .ref m8, .ref m9, .ref m10, .null, .null, .null, .null, .int 0, .int 0, .null, .null, .null, .null, .null, .null, .null, .null, .int 0, .int 0, .int 0, .int 0, .null, .null, .null, .null, .null, .null, .null, .null, .null, .int 0, .null, .null, .null, .null, .null, .null, .null, .null, .null, .null, .null, .int 0, .null, .null, .null, .null, .int 0, .null, .null, .null, .null])) := wd_at.ps ew202 k187
  have k204 := wd_at.pt ew202 k188 (tg_ne (tgN et195) t196 (by decide))
  have fm205 : ∀ k9, k9 < 12 → qp k9 = some (pr k9) ∧ wd_at w201 (pr k9) (.inl (cy 2, 12, .inl (fp k9))) ∧ tg194 (pr k9) = 11000 + k9 := fun k9 hi9 => ⟨(fm197 k9 hi9).1, wd_at.pt ew202 (fm197 k9 hi9).2.1 (tg_ne (fm197 k9 hi9).2.2 t196 (tnA (show 10000 < 11000 by decide))), (fm197 k9 hi9).2.2⟩
  have fm206 : ∀ k9, k9 < 12 → qw k9 = some (wr k9) ∧ wd_at w201 (wr k9) (.inl (cy 2, 12, .inl (fw k9))) ∧ tg194 (wr k9) = 12000 + k9 := fun k9 hi9 => ⟨(fm198 k9 hi9).1, wd_at.pt ew202 (fm198 k9 hi9).2.1 (tg_ne (fm198 k9 hi9).2.2 t196 (tnA (show 10000 < 12000 by decide))), (fm198 k9 hi9).2.2⟩
  have kp207 := kp193.put ew202 sy
  have hb9208 := bnd.pt ew202 t196 hb9200
  have hb9209 := bnd.cons hb9208 k204 (tgN et195) (show 10000 < 10110 by decide)
  refine lv_aload_n hx hb dX11_init_76 rfl (lv_at hl 0 rfl) ?_
  refine lv_bipush (v := 30) hx hb dX11_init_77 (by decide) ?_
  refine y_newI (N := 30) F hP hD hS (List.mem_cons_of_mem _ (List.mem_append_left _ (List.mem_append_left _ (List.mem_of_getElem? (i := 4) rfl)))) (by decide) (by decide) (by decide) (Nat.le_of_ble_eq_true rfl) (Nat.le_of_ble_eq_true rfl) dX11_init_79 (fun m11 w210 ew211 hq212 H hP hD hS => ?_)
  refine W.widen (k := 33) (n := 468) (Nat.le_of_ble_eq_true rfl) (Nat.le_of_ble_eq_true rfl) ?_
  have k213 := wd_at.ad ew211 hq212 k203
  have k214 : wd_at w210 m11 (.inl (cy 2, 30, .inl (fun _ => 0))) := wd_at.nw ew211
  have fm215 : ∀ k9, k9 < 12 → qp k9 = some (pr k9) ∧ wd_at w210 (pr k9) (.inl (cy 2, 12, .inl (fp k9))) ∧ tg194 (pr k9) = 11000 + k9 := fun k9 hi9 => ⟨(fm205 k9 hi9).1, wd_at.ad ew211 hq212 (fm205 k9 hi9).2.1, (fm205 k9 hi9).2.2⟩
  have fn216 : ∀ k9, k9 < 12 → (pr k9) ≠ m11 := fun k9 hi9 => wd_nL hq212 (fm205 k9 hi9).2.1
  have fm217 : ∀ k9, k9 < 12 → qw k9 = some (wr k9) ∧ wd_at w210 (wr k9) (.inl (cy 2, 12, .inl (fw k9))) ∧ tg194 (wr k9) = 12000 + k9 := fun k9 hi9 => ⟨(fm206 k9 hi9).1, wd_at.ad ew211 hq212 (fm206 k9 hi9).2.1, (fm206 k9 hi9).2.2⟩
  have fn218 : ∀ k9, k9 < 12 → (wr k9) ≠ m11 := fun k9 hi9 => wd_nL hq212 (fm206 k9 hi9).2.1
  have kp219 := kp207.add ew211 hq212
  obtain ⟨tg220, et221⟩ : ∃ f : Nat → Nat, f = va_up tg194 m11 (10111) := ⟨_, rfl⟩
  have t222 := tgX et221 (wd_nL hq212 k203) t196
  have fm223 : ∀ k9, k9 < 12 → qp k9 = some (pr k9) ∧ wd_at w210 (pr k9) (.inl (cy 2, 12, .inl (fp k9))) ∧ tg220 (pr k9) = 11000 + k9 := fun k9 hi9 => ⟨(fm215 k9 hi9).1, (fm215 k9 hi9).2.1, tgX et221 (fn216 k9 hi9) (fm215 k9 hi9).2.2⟩
  have fm224 : ∀ k9, k9 < 12 → qw k9 = some (wr k9) ∧ wd_at w210 (wr k9) (.inl (cy 2, 12, .inl (fw k9))) ∧ tg220 (wr k9) = 12000 + k9 := fun k9 hi9 => ⟨(fm217 k9 hi9).1, (fm217 k9 hi9).2.1, tgX et221 (fn218 k9 hi9) (fm217 k9 hi9).2.2⟩
  have hext225 := tgE et221 (kp207.out hq212) hext199
  have hb9226 := bnd.ad ew211 hq212 et221 hb9209
  refine y_putF (ref := "NoteHouseModel") F hP hD hS k213 rfl (fun _ h => List.mem_cons_of_mem _ (List.mem_append_right _ (h))) tyX11_ok nmX11 hnm 11 (Nat.le_of_ble_eq_true rfl) (List.mem_cons_of_mem _ (List.mem_append_left _ (List.mem_append_left _ (List.mem_of_getElem? (i := 13) rfl)))) rfl rfl rfl rfl rfl (Nat.le_of_ble_eq_true rfl) dX11_init_81 (fun w227 ew228 H locs hP hD hS => ?_)
  have k229 : wd_at w227 y (.inr (11, [.int 0, .int 0, .ref m2, .ref m3, .ref m4, .ref m5, .ref m6, .int 0, .ref m8, .ref m9, .ref m10, .ref m11, .null, .null, .null, .int 0, .int 0, .null, .null, .null, .null, .null, .null, .null, .null, .int 0, .int 0, .int 0, .int 0, .null, .null, .null, .null, .null, .null, .null, .null, .null, .int 0, .null, .null, .null, .null, .null, .null, .null, .null, .null, .null, .null, .int 0, .null, .null, .null, .null, .int 0, .null, .null, .null, .null])) := wd_at.ps ew228 k213
  have k230 := wd_at.pt ew228 k214 (tg_ne (tgN et221) t222 (by decide))
  have fm231 : ∀ k9, k9 < 12 → qp k9 = some (pr k9) ∧ wd_at w227 (pr k9) (.inl (cy 2, 12, .inl (fp k9))) ∧ tg220 (pr k9) = 11000 + k9 := fun k9 hi9 => ⟨(fm223 k9 hi9).1, wd_at.pt ew228 (fm223 k9 hi9).2.1 (tg_ne (fm223 k9 hi9).2.2 t222 (tnA (show 10000 < 11000 by decide))), (fm223 k9 hi9).2.2⟩
  have fm232 : ∀ k9, k9 < 12 → qw k9 = some (wr k9) ∧ wd_at w227 (wr k9) (.inl (cy 2, 12, .inl (fw k9))) ∧ tg220 (wr k9) = 12000 + k9 := fun k9 hi9 => ⟨(fm224 k9 hi9).1, wd_at.pt ew228 (fm224 k9 hi9).2.1 (tg_ne (fm224 k9 hi9).2.2 t222 (tnA (show 10000 < 12000 by decide))), (fm224 k9 hi9).2.2⟩
  have kp233 := kp219.put ew228 sy
  have hb9234 := bnd.pt ew228 t222 hb9226
  have hb9235 := bnd.cons hb9234 k230 (tgN et221) (show 10000 < 10111 by decide)
  refine lv_aload_n hx hb dX11_init_84 rfl (lv_at hl 0 rfl) ?_
  refine lv_bipush (v := 30) hx hb dX11_init_85 (by decide) ?_
  refine y_newI (N := 30) F hP hD hS (List.mem_cons_of_mem _ (List.mem_append_left _ (List.mem_append_left _ (List.mem_of_getElem? (i := 4) rfl)))) (by decide) (by decide) (by decide) (Nat.le_of_ble_eq_true rfl) (Nat.le_of_ble_eq_true rfl) dX11_init_87 (fun m12 w236 ew237 hq238 H hP hD hS => ?_)
  refine W.widen (k := 34) (n := 498) (Nat.le_of_ble_eq_true rfl) (Nat.le_of_ble_eq_true rfl) ?_
  have k239 := wd_at.ad ew237 hq238 k229
  have k240 : wd_at w236 m12 (.inl (cy 2, 30, .inl (fun _ => 0))) := wd_at.nw ew237
  have fm241 : ∀ k9, k9 < 12 → qp k9 = some (pr k9) ∧ wd_at w236 (pr k9) (.inl (cy 2, 12, .inl (fp k9))) ∧ tg220 (pr k9) = 11000 + k9 := fun k9 hi9 => ⟨(fm231 k9 hi9).1, wd_at.ad ew237 hq238 (fm231 k9 hi9).2.1, (fm231 k9 hi9).2.2⟩
  have fn242 : ∀ k9, k9 < 12 → (pr k9) ≠ m12 := fun k9 hi9 => wd_nL hq238 (fm231 k9 hi9).2.1
  have fm243 : ∀ k9, k9 < 12 → qw k9 = some (wr k9) ∧ wd_at w236 (wr k9) (.inl (cy 2, 12, .inl (fw k9))) ∧ tg220 (wr k9) = 12000 + k9 := fun k9 hi9 => ⟨(fm232 k9 hi9).1, wd_at.ad ew237 hq238 (fm232 k9 hi9).2.1, (fm232 k9 hi9).2.2⟩
  have fn244 : ∀ k9, k9 < 12 → (wr k9) ≠ m12 := fun k9 hi9 => wd_nL hq238 (fm232 k9 hi9).2.1
  have kp245 := kp233.add ew237 hq238
  obtain ⟨tg246, et247⟩ : ∃ f : Nat → Nat, f = va_up tg220 m12 (10112) := ⟨_, rfl⟩
  have t248 := tgX et247 (wd_nL hq238 k229) t222
  have fm249 : ∀ k9, k9 < 12 → qp k9 = some (pr k9) ∧ wd_at w236 (pr k9) (.inl (cy 2, 12, .inl (fp k9))) ∧ tg246 (pr k9) = 11000 + k9 := fun k9 hi9 => ⟨(fm241 k9 hi9).1, (fm241 k9 hi9).2.1, tgX et247 (fn242 k9 hi9) (fm241 k9 hi9).2.2⟩
  have fm250 : ∀ k9, k9 < 12 → qw k9 = some (wr k9) ∧ wd_at w236 (wr k9) (.inl (cy 2, 12, .inl (fw k9))) ∧ tg246 (wr k9) = 12000 + k9 := fun k9 hi9 => ⟨(fm243 k9 hi9).1, (fm243 k9 hi9).2.1, tgX et247 (fn244 k9 hi9) (fm243 k9 hi9).2.2⟩
  have hext251 := tgE et247 (kp233.out hq238) hext225
  have hb9252 := bnd.ad ew237 hq238 et247 hb9235
  refine y_putF (ref := "NoteHouseModel") F hP hD hS k239 rfl (fun _ h => List.mem_cons_of_mem _ (List.mem_append_right _ (h))) tyX11_ok nmX11 hnm 12 (Nat.le_of_ble_eq_true rfl) (List.mem_cons_of_mem _ (List.mem_append_left _ (List.mem_append_left _ (List.mem_of_getElem? (i := 14) rfl)))) rfl rfl rfl rfl rfl (Nat.le_of_ble_eq_true rfl) dX11_init_89 (fun w253 ew254 H locs hP hD hS => ?_)
  have k255 : wd_at w253 y (.inr (11, [.int 0, .int 0, .ref m2, .ref m3, .ref m4, .ref m5, .ref m6, .int 0, .ref m8, .ref m9, .ref m10, .ref m11, .ref m12, .null, .null, .int 0, .int 0, .null, .null, .null, .null, .null, .null, .null, .null, .int 0, .int 0, .int 0, .int 0, .null, .null, .null, .null, .null, .null, .null, .null, .null, .int 0, .null, .null, .null, .null, .null, .null, .null, .null, .null, .null, .null, .int 0, .null, .null, .null, .null, .int 0, .null, .null, .null, .null])) := wd_at.ps ew254 k239
  have k256 := wd_at.pt ew254 k240 (tg_ne (tgN et247) t248 (by decide))
  have fm257 : ∀ k9, k9 < 12 → qp k9 = some (pr k9) ∧ wd_at w253 (pr k9) (.inl (cy 2, 12, .inl (fp k9))) ∧ tg246 (pr k9) = 11000 + k9 := fun k9 hi9 => ⟨(fm249 k9 hi9).1, wd_at.pt ew254 (fm249 k9 hi9).2.1 (tg_ne (fm249 k9 hi9).2.2 t248 (tnA (show 10000 < 11000 by decide))), (fm249 k9 hi9).2.2⟩
  have fm258 : ∀ k9, k9 < 12 → qw k9 = some (wr k9) ∧ wd_at w253 (wr k9) (.inl (cy 2, 12, .inl (fw k9))) ∧ tg246 (wr k9) = 12000 + k9 := fun k9 hi9 => ⟨(fm250 k9 hi9).1, wd_at.pt ew254 (fm250 k9 hi9).2.1 (tg_ne (fm250 k9 hi9).2.2 t248 (tnA (show 10000 < 12000 by decide))), (fm250 k9 hi9).2.2⟩
  have kp259 := kp245.put ew254 sy
  have hb9260 := bnd.pt ew254 t248 hb9252
  have hb9261 := bnd.cons hb9260 k256 (tgN et247) (show 10000 < 10112 by decide)
  refine lv_aload_n hx hb dX11_init_92 rfl (lv_at hl 0 rfl) ?_
  refine lv_bipush (v := 30) hx hb dX11_init_93 (by decide) ?_
  refine y_newI (N := 30) F hP hD hS (List.mem_cons_of_mem _ (List.mem_append_left _ (List.mem_append_left _ (List.mem_of_getElem? (i := 4) rfl)))) (by decide) (by decide) (by decide) (Nat.le_of_ble_eq_true rfl) (Nat.le_of_ble_eq_true rfl) dX11_init_95 (fun m13 w262 ew263 hq264 H hP hD hS => ?_)
  refine W.widen (k := 35) (n := 528) (Nat.le_of_ble_eq_true rfl) (Nat.le_of_ble_eq_true rfl) ?_
  have k265 := wd_at.ad ew263 hq264 k255
  have k266 : wd_at w262 m13 (.inl (cy 2, 30, .inl (fun _ => 0))) := wd_at.nw ew263
  have fm267 : ∀ k9, k9 < 12 → qp k9 = some (pr k9) ∧ wd_at w262 (pr k9) (.inl (cy 2, 12, .inl (fp k9))) ∧ tg246 (pr k9) = 11000 + k9 := fun k9 hi9 => ⟨(fm257 k9 hi9).1, wd_at.ad ew263 hq264 (fm257 k9 hi9).2.1, (fm257 k9 hi9).2.2⟩
  have fn268 : ∀ k9, k9 < 12 → (pr k9) ≠ m13 := fun k9 hi9 => wd_nL hq264 (fm257 k9 hi9).2.1
  have fm269 : ∀ k9, k9 < 12 → qw k9 = some (wr k9) ∧ wd_at w262 (wr k9) (.inl (cy 2, 12, .inl (fw k9))) ∧ tg246 (wr k9) = 12000 + k9 := fun k9 hi9 => ⟨(fm258 k9 hi9).1, wd_at.ad ew263 hq264 (fm258 k9 hi9).2.1, (fm258 k9 hi9).2.2⟩
  have fn270 : ∀ k9, k9 < 12 → (wr k9) ≠ m13 := fun k9 hi9 => wd_nL hq264 (fm258 k9 hi9).2.1
  have kp271 := kp259.add ew263 hq264
  obtain ⟨tg272, et273⟩ : ∃ f : Nat → Nat, f = va_up tg246 m13 (10113) := ⟨_, rfl⟩
  have t274 := tgX et273 (wd_nL hq264 k255) t248
  have fm275 : ∀ k9, k9 < 12 → qp k9 = some (pr k9) ∧ wd_at w262 (pr k9) (.inl (cy 2, 12, .inl (fp k9))) ∧ tg272 (pr k9) = 11000 + k9 := fun k9 hi9 => ⟨(fm267 k9 hi9).1, (fm267 k9 hi9).2.1, tgX et273 (fn268 k9 hi9) (fm267 k9 hi9).2.2⟩
  have fm276 : ∀ k9, k9 < 12 → qw k9 = some (wr k9) ∧ wd_at w262 (wr k9) (.inl (cy 2, 12, .inl (fw k9))) ∧ tg272 (wr k9) = 12000 + k9 := fun k9 hi9 => ⟨(fm269 k9 hi9).1, (fm269 k9 hi9).2.1, tgX et273 (fn270 k9 hi9) (fm269 k9 hi9).2.2⟩
  have hext277 := tgE et273 (kp259.out hq264) hext251
  have hb9278 := bnd.ad ew263 hq264 et273 hb9261
  refine y_putF (ref := "NoteHouseModel") F hP hD hS k265 rfl (fun _ h => List.mem_cons_of_mem _ (List.mem_append_right _ (h))) tyX11_ok nmX11 hnm 13 (Nat.le_of_ble_eq_true rfl) (List.mem_cons_of_mem _ (List.mem_append_left _ (List.mem_append_left _ (List.mem_of_getElem? (i := 15) rfl)))) rfl rfl rfl rfl rfl (Nat.le_of_ble_eq_true rfl) dX11_init_97 (fun w279 ew280 H locs hP hD hS => ?_)
  have k281 : wd_at w279 y (.inr (11, [.int 0, .int 0, .ref m2, .ref m3, .ref m4, .ref m5, .ref m6, .int 0, .ref m8, .ref m9, .ref m10, .ref m11, .ref m12, .ref m13, .null, .int 0, .int 0, .null, .null, .null, .null, .null, .null, .null, .null, .int 0, .int 0, .int 0, .int 0, .null, .null, .null, .null, .null, .null, .null, .null, .null, .int 0, .null, .null, .null, .null, .null, .null, .null, .null, .null, .null, .null, .int 0, .null, .null, .null, .null, .int 0, .null, .null, .null, .null])) := wd_at.ps ew280 k265
  have k282 := wd_at.pt ew280 k266 (tg_ne (tgN et273) t274 (by decide))
  have fm283 : ∀ k9, k9 < 12 → qp k9 = some (pr k9) ∧ wd_at w279 (pr k9) (.inl (cy 2, 12, .inl (fp k9))) ∧ tg272 (pr k9) = 11000 + k9 := fun k9 hi9 => ⟨(fm275 k9 hi9).1, wd_at.pt ew280 (fm275 k9 hi9).2.1 (tg_ne (fm275 k9 hi9).2.2 t274 (tnA (show 10000 < 11000 by decide))), (fm275 k9 hi9).2.2⟩
  have fm284 : ∀ k9, k9 < 12 → qw k9 = some (wr k9) ∧ wd_at w279 (wr k9) (.inl (cy 2, 12, .inl (fw k9))) ∧ tg272 (wr k9) = 12000 + k9 := fun k9 hi9 => ⟨(fm276 k9 hi9).1, wd_at.pt ew280 (fm276 k9 hi9).2.1 (tg_ne (fm276 k9 hi9).2.2 t274 (tnA (show 10000 < 12000 by decide))), (fm276 k9 hi9).2.2⟩
  have kp285 := kp271.put ew280 sy
  have hb9286 := bnd.pt ew280 t274 hb9278
  have hb9287 := bnd.cons hb9286 k282 (tgN et273) (show 10000 < 10113 by decide)
  refine lv_aload_n hx hb dX11_init_100 rfl (lv_at hl 0 rfl) ?_
  refine lv_bipush (v := 30) hx hb dX11_init_101 (by decide) ?_
  refine y_newI (N := 30) F hP hD hS (List.mem_cons_of_mem _ (List.mem_append_left _ (List.mem_append_left _ (List.mem_of_getElem? (i := 4) rfl)))) (by decide) (by decide) (by decide) (Nat.le_of_ble_eq_true rfl) (Nat.le_of_ble_eq_true rfl) dX11_init_103 (fun m14 w288 ew289 hq290 H hP hD hS => ?_)
  refine W.widen (k := 36) (n := 558) (Nat.le_of_ble_eq_true rfl) (Nat.le_of_ble_eq_true rfl) ?_
  have k291 := wd_at.ad ew289 hq290 k281
  have k292 : wd_at w288 m14 (.inl (cy 2, 30, .inl (fun _ => 0))) := wd_at.nw ew289
  have fm293 : ∀ k9, k9 < 12 → qp k9 = some (pr k9) ∧ wd_at w288 (pr k9) (.inl (cy 2, 12, .inl (fp k9))) ∧ tg272 (pr k9) = 11000 + k9 := fun k9 hi9 => ⟨(fm283 k9 hi9).1, wd_at.ad ew289 hq290 (fm283 k9 hi9).2.1, (fm283 k9 hi9).2.2⟩
  have fn294 : ∀ k9, k9 < 12 → (pr k9) ≠ m14 := fun k9 hi9 => wd_nL hq290 (fm283 k9 hi9).2.1
  have fm295 : ∀ k9, k9 < 12 → qw k9 = some (wr k9) ∧ wd_at w288 (wr k9) (.inl (cy 2, 12, .inl (fw k9))) ∧ tg272 (wr k9) = 12000 + k9 := fun k9 hi9 => ⟨(fm284 k9 hi9).1, wd_at.ad ew289 hq290 (fm284 k9 hi9).2.1, (fm284 k9 hi9).2.2⟩
  have fn296 : ∀ k9, k9 < 12 → (wr k9) ≠ m14 := fun k9 hi9 => wd_nL hq290 (fm284 k9 hi9).2.1
  have kp297 := kp285.add ew289 hq290
  obtain ⟨tg298, et299⟩ : ∃ f : Nat → Nat, f = va_up tg272 m14 (10114) := ⟨_, rfl⟩
  have t300 := tgX et299 (wd_nL hq290 k281) t274
  have fm301 : ∀ k9, k9 < 12 → qp k9 = some (pr k9) ∧ wd_at w288 (pr k9) (.inl (cy 2, 12, .inl (fp k9))) ∧ tg298 (pr k9) = 11000 + k9 := fun k9 hi9 => ⟨(fm293 k9 hi9).1, (fm293 k9 hi9).2.1, tgX et299 (fn294 k9 hi9) (fm293 k9 hi9).2.2⟩
  have fm302 : ∀ k9, k9 < 12 → qw k9 = some (wr k9) ∧ wd_at w288 (wr k9) (.inl (cy 2, 12, .inl (fw k9))) ∧ tg298 (wr k9) = 12000 + k9 := fun k9 hi9 => ⟨(fm295 k9 hi9).1, (fm295 k9 hi9).2.1, tgX et299 (fn296 k9 hi9) (fm295 k9 hi9).2.2⟩
  have hext303 := tgE et299 (kp285.out hq290) hext277
  have hb9304 := bnd.ad ew289 hq290 et299 hb9287
  refine y_putF (ref := "NoteHouseModel") F hP hD hS k291 rfl (fun _ h => List.mem_cons_of_mem _ (List.mem_append_right _ (h))) tyX11_ok nmX11 hnm 14 (Nat.le_of_ble_eq_true rfl) (List.mem_cons_of_mem _ (List.mem_append_left _ (List.mem_append_left _ (List.mem_of_getElem? (i := 16) rfl)))) rfl rfl rfl rfl rfl (Nat.le_of_ble_eq_true rfl) dX11_init_105 (fun w305 ew306 H locs hP hD hS => ?_)
  have k307 : wd_at w305 y (.inr (11, [.int 0, .int 0, .ref m2, .ref m3, .ref m4, .ref m5, .ref m6, .int 0, .ref m8, .ref m9, .ref m10, .ref m11, .ref m12, .ref m13, .ref m14, .int 0, .int 0, .null, .null, .null, .null, .null, .null, .null, .null, .int 0, .int 0, .int 0, .int 0, .null, .null, .null, .null, .null, .null, .null, .null, .null, .int 0, .null, .null, .null, .null, .null, .null, .null, .null, .null, .null, .null, .int 0, .null, .null, .null, .null, .int 0, .null, .null, .null, .null])) := wd_at.ps ew306 k291
  have k308 := wd_at.pt ew306 k292 (tg_ne (tgN et299) t300 (by decide))
  have fm309 : ∀ k9, k9 < 12 → qp k9 = some (pr k9) ∧ wd_at w305 (pr k9) (.inl (cy 2, 12, .inl (fp k9))) ∧ tg298 (pr k9) = 11000 + k9 := fun k9 hi9 => ⟨(fm301 k9 hi9).1, wd_at.pt ew306 (fm301 k9 hi9).2.1 (tg_ne (fm301 k9 hi9).2.2 t300 (tnA (show 10000 < 11000 by decide))), (fm301 k9 hi9).2.2⟩
  have fm310 : ∀ k9, k9 < 12 → qw k9 = some (wr k9) ∧ wd_at w305 (wr k9) (.inl (cy 2, 12, .inl (fw k9))) ∧ tg298 (wr k9) = 12000 + k9 := fun k9 hi9 => ⟨(fm302 k9 hi9).1, wd_at.pt ew306 (fm302 k9 hi9).2.1 (tg_ne (fm302 k9 hi9).2.2 t300 (tnA (show 10000 < 12000 by decide))), (fm302 k9 hi9).2.2⟩
  have kp311 := kp297.put ew306 sy
  have hb9312 := bnd.pt ew306 t300 hb9304
  have hb9313 := bnd.cons hb9312 k308 (tgN et299) (show 10000 < 10114 by decide)
  refine lv_aload_n hx hb dX11_init_108 rfl (lv_at hl 0 rfl) ?_
  refine lv_bipush (v := 60) hx hb dX11_init_109 (by decide) ?_
  refine y_newI (N := 60) F hP hD hS (List.mem_cons_of_mem _ (List.mem_append_left _ (List.mem_append_left _ (List.mem_of_getElem? (i := 4) rfl)))) (by decide) (by decide) (by decide) (Nat.le_of_ble_eq_true rfl) (Nat.le_of_ble_eq_true rfl) dX11_init_111 (fun m17 w314 ew315 hq316 H hP hD hS => ?_)
  refine W.widen (k := 37) (n := 618) (Nat.le_of_ble_eq_true rfl) (Nat.le_of_ble_eq_true rfl) ?_
  have k317 := wd_at.ad ew315 hq316 k307
  have k318 : wd_at w314 m17 (.inl (cy 2, 60, .inl (fun _ => 0))) := wd_at.nw ew315
  have fm319 : ∀ k9, k9 < 12 → qp k9 = some (pr k9) ∧ wd_at w314 (pr k9) (.inl (cy 2, 12, .inl (fp k9))) ∧ tg298 (pr k9) = 11000 + k9 := fun k9 hi9 => ⟨(fm309 k9 hi9).1, wd_at.ad ew315 hq316 (fm309 k9 hi9).2.1, (fm309 k9 hi9).2.2⟩
  have fn320 : ∀ k9, k9 < 12 → (pr k9) ≠ m17 := fun k9 hi9 => wd_nL hq316 (fm309 k9 hi9).2.1
  have fm321 : ∀ k9, k9 < 12 → qw k9 = some (wr k9) ∧ wd_at w314 (wr k9) (.inl (cy 2, 12, .inl (fw k9))) ∧ tg298 (wr k9) = 12000 + k9 := fun k9 hi9 => ⟨(fm310 k9 hi9).1, wd_at.ad ew315 hq316 (fm310 k9 hi9).2.1, (fm310 k9 hi9).2.2⟩
  have fn322 : ∀ k9, k9 < 12 → (wr k9) ≠ m17 := fun k9 hi9 => wd_nL hq316 (fm310 k9 hi9).2.1
  have kp323 := kp311.add ew315 hq316
  obtain ⟨tg324, et325⟩ : ∃ f : Nat → Nat, f = va_up tg298 m17 (10117) := ⟨_, rfl⟩
  have t326 := tgX et325 (wd_nL hq316 k307) t300
  have fm327 : ∀ k9, k9 < 12 → qp k9 = some (pr k9) ∧ wd_at w314 (pr k9) (.inl (cy 2, 12, .inl (fp k9))) ∧ tg324 (pr k9) = 11000 + k9 := fun k9 hi9 => ⟨(fm319 k9 hi9).1, (fm319 k9 hi9).2.1, tgX et325 (fn320 k9 hi9) (fm319 k9 hi9).2.2⟩
  have fm328 : ∀ k9, k9 < 12 → qw k9 = some (wr k9) ∧ wd_at w314 (wr k9) (.inl (cy 2, 12, .inl (fw k9))) ∧ tg324 (wr k9) = 12000 + k9 := fun k9 hi9 => ⟨(fm321 k9 hi9).1, (fm321 k9 hi9).2.1, tgX et325 (fn322 k9 hi9) (fm321 k9 hi9).2.2⟩
  have hext329 := tgE et325 (kp311.out hq316) hext303
  have hb9330 := bnd.ad ew315 hq316 et325 hb9313
  refine y_putF (ref := "NoteHouseModel") F hP hD hS k317 rfl (fun _ h => List.mem_cons_of_mem _ (List.mem_append_right _ (h))) tyX11_ok nmX11 hnm 17 (Nat.le_of_ble_eq_true rfl) (List.mem_cons_of_mem _ (List.mem_append_left _ (List.mem_append_left _ (List.mem_of_getElem? (i := 17) rfl)))) rfl rfl rfl rfl rfl (Nat.le_of_ble_eq_true rfl) dX11_init_113 (fun w331 ew332 H locs hP hD hS => ?_)
  have k333 : wd_at w331 y (.inr (11, [.int 0, .int 0, .ref m2, .ref m3, .ref m4, .ref m5, .ref m6, .int 0, .ref m8, .ref m9, .ref m10, .ref m11, .ref m12, .ref m13, .ref m14, .int 0, .int 0, .ref m17, .null, .null, .null, .null, .null, .null, .null, .int 0, .int 0, .int 0, .int 0, .null, .null, .null, .null, .null, .null, .null, .null, .null, .int 0, .null, .null, .null, .null, .null, .null, .null, .null, .null, .null, .null, .int 0, .null, .null, .null, .null, .int 0, .null, .null, .null, .null])) := wd_at.ps ew332 k317
  have k334 := wd_at.pt ew332 k318 (tg_ne (tgN et325) t326 (by decide))
  have fm335 : ∀ k9, k9 < 12 → qp k9 = some (pr k9) ∧ wd_at w331 (pr k9) (.inl (cy 2, 12, .inl (fp k9))) ∧ tg324 (pr k9) = 11000 + k9 := fun k9 hi9 => ⟨(fm327 k9 hi9).1, wd_at.pt ew332 (fm327 k9 hi9).2.1 (tg_ne (fm327 k9 hi9).2.2 t326 (tnA (show 10000 < 11000 by decide))), (fm327 k9 hi9).2.2⟩
  have fm336 : ∀ k9, k9 < 12 → qw k9 = some (wr k9) ∧ wd_at w331 (wr k9) (.inl (cy 2, 12, .inl (fw k9))) ∧ tg324 (wr k9) = 12000 + k9 := fun k9 hi9 => ⟨(fm328 k9 hi9).1, wd_at.pt ew332 (fm328 k9 hi9).2.1 (tg_ne (fm328 k9 hi9).2.2 t326 (tnA (show 10000 < 12000 by decide))), (fm328 k9 hi9).2.2⟩
  have kp337 := kp323.put ew332 sy
  have hb9338 := bnd.pt ew332 t326 hb9330
  have hb9339 := bnd.cons hb9338 k334 (tgN et325) (show 10000 < 10117 by decide)
  refine lv_aload_n hx hb dX11_init_116 rfl (lv_at hl 0 rfl) ?_
  refine lv_bipush (v := 60) hx hb dX11_init_117 (by decide) ?_
  refine y_newI (N := 60) F hP hD hS (List.mem_cons_of_mem _ (List.mem_append_left _ (List.mem_append_left _ (List.mem_of_getElem? (i := 4) rfl)))) (by decide) (by decide) (by decide) (Nat.le_of_ble_eq_true rfl) (Nat.le_of_ble_eq_true rfl) dX11_init_119 (fun m18 w340 ew341 hq342 H hP hD hS => ?_)
  refine W.widen (k := 38) (n := 678) (Nat.le_of_ble_eq_true rfl) (Nat.le_of_ble_eq_true rfl) ?_
  have k343 := wd_at.ad ew341 hq342 k333
  have k344 : wd_at w340 m18 (.inl (cy 2, 60, .inl (fun _ => 0))) := wd_at.nw ew341
  have fm345 : ∀ k9, k9 < 12 → qp k9 = some (pr k9) ∧ wd_at w340 (pr k9) (.inl (cy 2, 12, .inl (fp k9))) ∧ tg324 (pr k9) = 11000 + k9 := fun k9 hi9 => ⟨(fm335 k9 hi9).1, wd_at.ad ew341 hq342 (fm335 k9 hi9).2.1, (fm335 k9 hi9).2.2⟩
  have fn346 : ∀ k9, k9 < 12 → (pr k9) ≠ m18 := fun k9 hi9 => wd_nL hq342 (fm335 k9 hi9).2.1
  have fm347 : ∀ k9, k9 < 12 → qw k9 = some (wr k9) ∧ wd_at w340 (wr k9) (.inl (cy 2, 12, .inl (fw k9))) ∧ tg324 (wr k9) = 12000 + k9 := fun k9 hi9 => ⟨(fm336 k9 hi9).1, wd_at.ad ew341 hq342 (fm336 k9 hi9).2.1, (fm336 k9 hi9).2.2⟩
  have fn348 : ∀ k9, k9 < 12 → (wr k9) ≠ m18 := fun k9 hi9 => wd_nL hq342 (fm336 k9 hi9).2.1
  have kp349 := kp337.add ew341 hq342
  obtain ⟨tg350, et351⟩ : ∃ f : Nat → Nat, f = va_up tg324 m18 (10118) := ⟨_, rfl⟩
  have t352 := tgX et351 (wd_nL hq342 k333) t326
  have fm353 : ∀ k9, k9 < 12 → qp k9 = some (pr k9) ∧ wd_at w340 (pr k9) (.inl (cy 2, 12, .inl (fp k9))) ∧ tg350 (pr k9) = 11000 + k9 := fun k9 hi9 => ⟨(fm345 k9 hi9).1, (fm345 k9 hi9).2.1, tgX et351 (fn346 k9 hi9) (fm345 k9 hi9).2.2⟩
  have fm354 : ∀ k9, k9 < 12 → qw k9 = some (wr k9) ∧ wd_at w340 (wr k9) (.inl (cy 2, 12, .inl (fw k9))) ∧ tg350 (wr k9) = 12000 + k9 := fun k9 hi9 => ⟨(fm347 k9 hi9).1, (fm347 k9 hi9).2.1, tgX et351 (fn348 k9 hi9) (fm347 k9 hi9).2.2⟩
  have hext355 := tgE et351 (kp337.out hq342) hext329
  have hb9356 := bnd.ad ew341 hq342 et351 hb9339
  refine y_putF (ref := "NoteHouseModel") F hP hD hS k343 rfl (fun _ h => List.mem_cons_of_mem _ (List.mem_append_right _ (h))) tyX11_ok nmX11 hnm 18 (Nat.le_of_ble_eq_true rfl) (List.mem_cons_of_mem _ (List.mem_append_left _ (List.mem_append_left _ (List.mem_of_getElem? (i := 18) rfl)))) rfl rfl rfl rfl rfl (Nat.le_of_ble_eq_true rfl) dX11_init_121 (fun w357 ew358 H locs hP hD hS => ?_)
  have k359 : wd_at w357 y (.inr (11, [.int 0, .int 0, .ref m2, .ref m3, .ref m4, .ref m5, .ref m6, .int 0, .ref m8, .ref m9, .ref m10, .ref m11, .ref m12, .ref m13, .ref m14, .int 0, .int 0, .ref m17, .ref m18, .null, .null, .null, .null, .null, .null, .int 0, .int 0, .int 0, .int 0, .null, .null, .null, .null, .null, .null, .null, .null, .null, .int 0, .null, .null, .null, .null, .null, .null, .null, .null, .null, .null, .null, .int 0, .null, .null, .null, .null, .int 0, .null, .null, .null, .null])) := wd_at.ps ew358 k343
  have k360 := wd_at.pt ew358 k344 (tg_ne (tgN et351) t352 (by decide))
  have fm361 : ∀ k9, k9 < 12 → qp k9 = some (pr k9) ∧ wd_at w357 (pr k9) (.inl (cy 2, 12, .inl (fp k9))) ∧ tg350 (pr k9) = 11000 + k9 := fun k9 hi9 => ⟨(fm353 k9 hi9).1, wd_at.pt ew358 (fm353 k9 hi9).2.1 (tg_ne (fm353 k9 hi9).2.2 t352 (tnA (show 10000 < 11000 by decide))), (fm353 k9 hi9).2.2⟩
  have fm362 : ∀ k9, k9 < 12 → qw k9 = some (wr k9) ∧ wd_at w357 (wr k9) (.inl (cy 2, 12, .inl (fw k9))) ∧ tg350 (wr k9) = 12000 + k9 := fun k9 hi9 => ⟨(fm354 k9 hi9).1, wd_at.pt ew358 (fm354 k9 hi9).2.1 (tg_ne (fm354 k9 hi9).2.2 t352 (tnA (show 10000 < 12000 by decide))), (fm354 k9 hi9).2.2⟩
  have kp363 := kp349.put ew358 sy
  have hb9364 := bnd.pt ew358 t352 hb9356
  have hb9365 := bnd.cons hb9364 k360 (tgN et351) (show 10000 < 10118 by decide)
  refine lv_aload_n hx hb dX11_init_124 rfl (lv_at hl 0 rfl) ?_
  refine lv_bipush (v := 60) hx hb dX11_init_125 (by decide) ?_
  refine y_newI (N := 60) F hP hD hS (List.mem_cons_of_mem _ (List.mem_append_left _ (List.mem_append_left _ (List.mem_of_getElem? (i := 4) rfl)))) (by decide) (by decide) (by decide) (Nat.le_of_ble_eq_true rfl) (Nat.le_of_ble_eq_true rfl) dX11_init_127 (fun m19 w366 ew367 hq368 H hP hD hS => ?_)
  refine W.widen (k := 39) (n := 738) (Nat.le_of_ble_eq_true rfl) (Nat.le_of_ble_eq_true rfl) ?_
  have k369 := wd_at.ad ew367 hq368 k359
  have k370 : wd_at w366 m19 (.inl (cy 2, 60, .inl (fun _ => 0))) := wd_at.nw ew367
  have fm371 : ∀ k9, k9 < 12 → qp k9 = some (pr k9) ∧ wd_at w366 (pr k9) (.inl (cy 2, 12, .inl (fp k9))) ∧ tg350 (pr k9) = 11000 + k9 := fun k9 hi9 => ⟨(fm361 k9 hi9).1, wd_at.ad ew367 hq368 (fm361 k9 hi9).2.1, (fm361 k9 hi9).2.2⟩
  have fn372 : ∀ k9, k9 < 12 → (pr k9) ≠ m19 := fun k9 hi9 => wd_nL hq368 (fm361 k9 hi9).2.1
  have fm373 : ∀ k9, k9 < 12 → qw k9 = some (wr k9) ∧ wd_at w366 (wr k9) (.inl (cy 2, 12, .inl (fw k9))) ∧ tg350 (wr k9) = 12000 + k9 := fun k9 hi9 => ⟨(fm362 k9 hi9).1, wd_at.ad ew367 hq368 (fm362 k9 hi9).2.1, (fm362 k9 hi9).2.2⟩
  have fn374 : ∀ k9, k9 < 12 → (wr k9) ≠ m19 := fun k9 hi9 => wd_nL hq368 (fm362 k9 hi9).2.1
  have kp375 := kp363.add ew367 hq368
  obtain ⟨tg376, et377⟩ : ∃ f : Nat → Nat, f = va_up tg350 m19 (10119) := ⟨_, rfl⟩
  have t378 := tgX et377 (wd_nL hq368 k359) t352
  have fm379 : ∀ k9, k9 < 12 → qp k9 = some (pr k9) ∧ wd_at w366 (pr k9) (.inl (cy 2, 12, .inl (fp k9))) ∧ tg376 (pr k9) = 11000 + k9 := fun k9 hi9 => ⟨(fm371 k9 hi9).1, (fm371 k9 hi9).2.1, tgX et377 (fn372 k9 hi9) (fm371 k9 hi9).2.2⟩
  have fm380 : ∀ k9, k9 < 12 → qw k9 = some (wr k9) ∧ wd_at w366 (wr k9) (.inl (cy 2, 12, .inl (fw k9))) ∧ tg376 (wr k9) = 12000 + k9 := fun k9 hi9 => ⟨(fm373 k9 hi9).1, (fm373 k9 hi9).2.1, tgX et377 (fn374 k9 hi9) (fm373 k9 hi9).2.2⟩
  have hext381 := tgE et377 (kp363.out hq368) hext355
  have hb9382 := bnd.ad ew367 hq368 et377 hb9365
  refine y_putF (ref := "NoteHouseModel") F hP hD hS k369 rfl (fun _ h => List.mem_cons_of_mem _ (List.mem_append_right _ (h))) tyX11_ok nmX11 hnm 19 (Nat.le_of_ble_eq_true rfl) (List.mem_cons_of_mem _ (List.mem_append_left _ (List.mem_append_left _ (List.mem_of_getElem? (i := 19) rfl)))) rfl rfl rfl rfl rfl (Nat.le_of_ble_eq_true rfl) dX11_init_129 (fun w383 ew384 H locs hP hD hS => ?_)
  have k385 : wd_at w383 y (.inr (11, [.int 0, .int 0, .ref m2, .ref m3, .ref m4, .ref m5, .ref m6, .int 0, .ref m8, .ref m9, .ref m10, .ref m11, .ref m12, .ref m13, .ref m14, .int 0, .int 0, .ref m17, .ref m18, .ref m19, .null, .null, .null, .null, .null, .int 0, .int 0, .int 0, .int 0, .null, .null, .null, .null, .null, .null, .null, .null, .null, .int 0, .null, .null, .null, .null, .null, .null, .null, .null, .null, .null, .null, .int 0, .null, .null, .null, .null, .int 0, .null, .null, .null, .null])) := wd_at.ps ew384 k369
  have k386 := wd_at.pt ew384 k370 (tg_ne (tgN et377) t378 (by decide))
  have fm387 : ∀ k9, k9 < 12 → qp k9 = some (pr k9) ∧ wd_at w383 (pr k9) (.inl (cy 2, 12, .inl (fp k9))) ∧ tg376 (pr k9) = 11000 + k9 := fun k9 hi9 => ⟨(fm379 k9 hi9).1, wd_at.pt ew384 (fm379 k9 hi9).2.1 (tg_ne (fm379 k9 hi9).2.2 t378 (tnA (show 10000 < 11000 by decide))), (fm379 k9 hi9).2.2⟩
  have fm388 : ∀ k9, k9 < 12 → qw k9 = some (wr k9) ∧ wd_at w383 (wr k9) (.inl (cy 2, 12, .inl (fw k9))) ∧ tg376 (wr k9) = 12000 + k9 := fun k9 hi9 => ⟨(fm380 k9 hi9).1, wd_at.pt ew384 (fm380 k9 hi9).2.1 (tg_ne (fm380 k9 hi9).2.2 t378 (tnA (show 10000 < 12000 by decide))), (fm380 k9 hi9).2.2⟩
  have kp389 := kp375.put ew384 sy
  have hb9390 := bnd.pt ew384 t378 hb9382
  have hb9391 := bnd.cons hb9390 k386 (tgN et377) (show 10000 < 10119 by decide)
  refine lv_aload_n hx hb dX11_init_132 rfl (lv_at hl 0 rfl) ?_
  refine lv_bipush (v := 60) hx hb dX11_init_133 (by decide) ?_
  refine y_newZ (N := 60) F hP hD hS (List.mem_cons_of_mem _ (List.mem_append_left _ (List.mem_append_left _ (List.mem_of_getElem? (i := 20) rfl)))) (by decide) (by decide) (by decide) (Nat.le_of_ble_eq_true rfl) (Nat.le_of_ble_eq_true rfl) dX11_init_135 (fun m20 w392 ew393 hq394 H hP hD hS => ?_)
  refine W.widen (k := 40) (n := 798) (Nat.le_of_ble_eq_true rfl) (Nat.le_of_ble_eq_true rfl) ?_
  have k395 := wd_at.ad ew393 hq394 k385
  have k396 : wd_at w392 m20 (.inl (cy 4, 60, .inl (fun _ => 0))) := wd_at.nw ew393
  have fm397 : ∀ k9, k9 < 12 → qp k9 = some (pr k9) ∧ wd_at w392 (pr k9) (.inl (cy 2, 12, .inl (fp k9))) ∧ tg376 (pr k9) = 11000 + k9 := fun k9 hi9 => ⟨(fm387 k9 hi9).1, wd_at.ad ew393 hq394 (fm387 k9 hi9).2.1, (fm387 k9 hi9).2.2⟩
  have fn398 : ∀ k9, k9 < 12 → (pr k9) ≠ m20 := fun k9 hi9 => wd_nL hq394 (fm387 k9 hi9).2.1
  have fm399 : ∀ k9, k9 < 12 → qw k9 = some (wr k9) ∧ wd_at w392 (wr k9) (.inl (cy 2, 12, .inl (fw k9))) ∧ tg376 (wr k9) = 12000 + k9 := fun k9 hi9 => ⟨(fm388 k9 hi9).1, wd_at.ad ew393 hq394 (fm388 k9 hi9).2.1, (fm388 k9 hi9).2.2⟩
  have fn400 : ∀ k9, k9 < 12 → (wr k9) ≠ m20 := fun k9 hi9 => wd_nL hq394 (fm388 k9 hi9).2.1
  have kp401 := kp389.add ew393 hq394
  obtain ⟨tg402, et403⟩ : ∃ f : Nat → Nat, f = va_up tg376 m20 (10120) := ⟨_, rfl⟩
  have t404 := tgX et403 (wd_nL hq394 k385) t378
  have fm405 : ∀ k9, k9 < 12 → qp k9 = some (pr k9) ∧ wd_at w392 (pr k9) (.inl (cy 2, 12, .inl (fp k9))) ∧ tg402 (pr k9) = 11000 + k9 := fun k9 hi9 => ⟨(fm397 k9 hi9).1, (fm397 k9 hi9).2.1, tgX et403 (fn398 k9 hi9) (fm397 k9 hi9).2.2⟩
  have fm406 : ∀ k9, k9 < 12 → qw k9 = some (wr k9) ∧ wd_at w392 (wr k9) (.inl (cy 2, 12, .inl (fw k9))) ∧ tg402 (wr k9) = 12000 + k9 := fun k9 hi9 => ⟨(fm399 k9 hi9).1, (fm399 k9 hi9).2.1, tgX et403 (fn400 k9 hi9) (fm399 k9 hi9).2.2⟩
  have hext407 := tgE et403 (kp389.out hq394) hext381
  have hb9408 := bnd.ad ew393 hq394 et403 hb9391
  refine y_putF (ref := "NoteHouseModel") F hP hD hS k395 rfl (fun _ h => List.mem_cons_of_mem _ (List.mem_append_right _ (h))) tyX11_ok nmX11 hnm 20 (Nat.le_of_ble_eq_true rfl) (List.mem_cons_of_mem _ (List.mem_append_left _ (List.mem_append_left _ (List.mem_of_getElem? (i := 21) rfl)))) rfl rfl rfl rfl rfl (Nat.le_of_ble_eq_true rfl) dX11_init_137 (fun w409 ew410 H locs hP hD hS => ?_)
  have k411 : wd_at w409 y (.inr (11, [.int 0, .int 0, .ref m2, .ref m3, .ref m4, .ref m5, .ref m6, .int 0, .ref m8, .ref m9, .ref m10, .ref m11, .ref m12, .ref m13, .ref m14, .int 0, .int 0, .ref m17, .ref m18, .ref m19, .ref m20, .null, .null, .null, .null, .int 0, .int 0, .int 0, .int 0, .null, .null, .null, .null, .null, .null, .null, .null, .null, .int 0, .null, .null, .null, .null, .null, .null, .null, .null, .null, .null, .null, .int 0, .null, .null, .null, .null, .int 0, .null, .null, .null, .null])) := wd_at.ps ew410 k395
  have k412 := wd_at.pt ew410 k396 (tg_ne (tgN et403) t404 (by decide))
  have fm413 : ∀ k9, k9 < 12 → qp k9 = some (pr k9) ∧ wd_at w409 (pr k9) (.inl (cy 2, 12, .inl (fp k9))) ∧ tg402 (pr k9) = 11000 + k9 := fun k9 hi9 => ⟨(fm405 k9 hi9).1, wd_at.pt ew410 (fm405 k9 hi9).2.1 (tg_ne (fm405 k9 hi9).2.2 t404 (tnA (show 10000 < 11000 by decide))), (fm405 k9 hi9).2.2⟩
  have fm414 : ∀ k9, k9 < 12 → qw k9 = some (wr k9) ∧ wd_at w409 (wr k9) (.inl (cy 2, 12, .inl (fw k9))) ∧ tg402 (wr k9) = 12000 + k9 := fun k9 hi9 => ⟨(fm406 k9 hi9).1, wd_at.pt ew410 (fm406 k9 hi9).2.1 (tg_ne (fm406 k9 hi9).2.2 t404 (tnA (show 10000 < 12000 by decide))), (fm406 k9 hi9).2.2⟩
  have kp415 := kp401.put ew410 sy
  have hb9416 := bnd.pt ew410 t404 hb9408
  have hb9417 := bnd.cons hb9416 k412 (tgN et403) (show 10000 < 10120 by decide)
  refine lv_aload_n hx hb dX11_init_140 rfl (lv_at hl 0 rfl) ?_
  refine lv_bipush (v := 60) hx hb dX11_init_141 (by decide) ?_
  refine y_newI (N := 60) F hP hD hS (List.mem_cons_of_mem _ (List.mem_append_left _ (List.mem_append_left _ (List.mem_of_getElem? (i := 4) rfl)))) (by decide) (by decide) (by decide) (Nat.le_of_ble_eq_true rfl) (Nat.le_of_ble_eq_true rfl) dX11_init_143 (fun m21 w418 ew419 hq420 H hP hD hS => ?_)
  refine W.widen (k := 41) (n := 858) (Nat.le_of_ble_eq_true rfl) (Nat.le_of_ble_eq_true rfl) ?_
  have k421 := wd_at.ad ew419 hq420 k411
  have k422 : wd_at w418 m21 (.inl (cy 2, 60, .inl (fun _ => 0))) := wd_at.nw ew419
  have fm423 : ∀ k9, k9 < 12 → qp k9 = some (pr k9) ∧ wd_at w418 (pr k9) (.inl (cy 2, 12, .inl (fp k9))) ∧ tg402 (pr k9) = 11000 + k9 := fun k9 hi9 => ⟨(fm413 k9 hi9).1, wd_at.ad ew419 hq420 (fm413 k9 hi9).2.1, (fm413 k9 hi9).2.2⟩
  have fn424 : ∀ k9, k9 < 12 → (pr k9) ≠ m21 := fun k9 hi9 => wd_nL hq420 (fm413 k9 hi9).2.1
  have fm425 : ∀ k9, k9 < 12 → qw k9 = some (wr k9) ∧ wd_at w418 (wr k9) (.inl (cy 2, 12, .inl (fw k9))) ∧ tg402 (wr k9) = 12000 + k9 := fun k9 hi9 => ⟨(fm414 k9 hi9).1, wd_at.ad ew419 hq420 (fm414 k9 hi9).2.1, (fm414 k9 hi9).2.2⟩
  have fn426 : ∀ k9, k9 < 12 → (wr k9) ≠ m21 := fun k9 hi9 => wd_nL hq420 (fm414 k9 hi9).2.1
  have kp427 := kp415.add ew419 hq420
  obtain ⟨tg428, et429⟩ : ∃ f : Nat → Nat, f = va_up tg402 m21 (10121) := ⟨_, rfl⟩
  have t430 := tgX et429 (wd_nL hq420 k411) t404
  have fm431 : ∀ k9, k9 < 12 → qp k9 = some (pr k9) ∧ wd_at w418 (pr k9) (.inl (cy 2, 12, .inl (fp k9))) ∧ tg428 (pr k9) = 11000 + k9 := fun k9 hi9 => ⟨(fm423 k9 hi9).1, (fm423 k9 hi9).2.1, tgX et429 (fn424 k9 hi9) (fm423 k9 hi9).2.2⟩
  have fm432 : ∀ k9, k9 < 12 → qw k9 = some (wr k9) ∧ wd_at w418 (wr k9) (.inl (cy 2, 12, .inl (fw k9))) ∧ tg428 (wr k9) = 12000 + k9 := fun k9 hi9 => ⟨(fm425 k9 hi9).1, (fm425 k9 hi9).2.1, tgX et429 (fn426 k9 hi9) (fm425 k9 hi9).2.2⟩
  have hext433 := tgE et429 (kp415.out hq420) hext407
  have hb9434 := bnd.ad ew419 hq420 et429 hb9417
  refine y_putF (ref := "NoteHouseModel") F hP hD hS k421 rfl (fun _ h => List.mem_cons_of_mem _ (List.mem_append_right _ (h))) tyX11_ok nmX11 hnm 21 (Nat.le_of_ble_eq_true rfl) (List.mem_cons_of_mem _ (List.mem_append_left _ (List.mem_append_left _ (List.mem_of_getElem? (i := 22) rfl)))) rfl rfl rfl rfl rfl (Nat.le_of_ble_eq_true rfl) dX11_init_145 (fun w435 ew436 H locs hP hD hS => ?_)
  have k437 : wd_at w435 y (.inr (11, [.int 0, .int 0, .ref m2, .ref m3, .ref m4, .ref m5, .ref m6, .int 0, .ref m8, .ref m9, .ref m10, .ref m11, .ref m12, .ref m13, .ref m14, .int 0, .int 0, .ref m17, .ref m18, .ref m19, .ref m20, .ref m21, .null, .null, .null, .int 0, .int 0, .int 0, .int 0, .null, .null, .null, .null, .null, .null, .null, .null, .null, .int 0, .null, .null, .null, .null, .null, .null, .null, .null, .null, .null, .null, .int 0, .null, .null, .null, .null, .int 0, .null, .null, .null, .null])) := wd_at.ps ew436 k421
  have k438 := wd_at.pt ew436 k422 (tg_ne (tgN et429) t430 (by decide))
  have fm439 : ∀ k9, k9 < 12 → qp k9 = some (pr k9) ∧ wd_at w435 (pr k9) (.inl (cy 2, 12, .inl (fp k9))) ∧ tg428 (pr k9) = 11000 + k9 := fun k9 hi9 => ⟨(fm431 k9 hi9).1, wd_at.pt ew436 (fm431 k9 hi9).2.1 (tg_ne (fm431 k9 hi9).2.2 t430 (tnA (show 10000 < 11000 by decide))), (fm431 k9 hi9).2.2⟩
  have fm440 : ∀ k9, k9 < 12 → qw k9 = some (wr k9) ∧ wd_at w435 (wr k9) (.inl (cy 2, 12, .inl (fw k9))) ∧ tg428 (wr k9) = 12000 + k9 := fun k9 hi9 => ⟨(fm432 k9 hi9).1, wd_at.pt ew436 (fm432 k9 hi9).2.1 (tg_ne (fm432 k9 hi9).2.2 t430 (tnA (show 10000 < 12000 by decide))), (fm432 k9 hi9).2.2⟩
  have kp441 := kp427.put ew436 sy
  have hb9442 := bnd.pt ew436 t430 hb9434
  have hb9443 := bnd.cons hb9442 k438 (tgN et429) (show 10000 < 10121 by decide)
  refine lv_aload_n hx hb dX11_init_148 rfl (lv_at hl 0 rfl) ?_
  refine lv_bipush (v := 60) hx hb dX11_init_149 (by decide) ?_
  refine y_newI (N := 60) F hP hD hS (List.mem_cons_of_mem _ (List.mem_append_left _ (List.mem_append_left _ (List.mem_of_getElem? (i := 4) rfl)))) (by decide) (by decide) (by decide) (Nat.le_of_ble_eq_true rfl) (Nat.le_of_ble_eq_true rfl) dX11_init_151 (fun m22 w444 ew445 hq446 H hP hD hS => ?_)
  refine W.widen (k := 42) (n := 918) (Nat.le_of_ble_eq_true rfl) (Nat.le_of_ble_eq_true rfl) ?_
  have k447 := wd_at.ad ew445 hq446 k437
  have k448 : wd_at w444 m22 (.inl (cy 2, 60, .inl (fun _ => 0))) := wd_at.nw ew445
  have fm449 : ∀ k9, k9 < 12 → qp k9 = some (pr k9) ∧ wd_at w444 (pr k9) (.inl (cy 2, 12, .inl (fp k9))) ∧ tg428 (pr k9) = 11000 + k9 := fun k9 hi9 => ⟨(fm439 k9 hi9).1, wd_at.ad ew445 hq446 (fm439 k9 hi9).2.1, (fm439 k9 hi9).2.2⟩
  have fn450 : ∀ k9, k9 < 12 → (pr k9) ≠ m22 := fun k9 hi9 => wd_nL hq446 (fm439 k9 hi9).2.1
  have fm451 : ∀ k9, k9 < 12 → qw k9 = some (wr k9) ∧ wd_at w444 (wr k9) (.inl (cy 2, 12, .inl (fw k9))) ∧ tg428 (wr k9) = 12000 + k9 := fun k9 hi9 => ⟨(fm440 k9 hi9).1, wd_at.ad ew445 hq446 (fm440 k9 hi9).2.1, (fm440 k9 hi9).2.2⟩
  have fn452 : ∀ k9, k9 < 12 → (wr k9) ≠ m22 := fun k9 hi9 => wd_nL hq446 (fm440 k9 hi9).2.1
  have kp453 := kp441.add ew445 hq446
  obtain ⟨tg454, et455⟩ : ∃ f : Nat → Nat, f = va_up tg428 m22 (10122) := ⟨_, rfl⟩
  have t456 := tgX et455 (wd_nL hq446 k437) t430
  have fm457 : ∀ k9, k9 < 12 → qp k9 = some (pr k9) ∧ wd_at w444 (pr k9) (.inl (cy 2, 12, .inl (fp k9))) ∧ tg454 (pr k9) = 11000 + k9 := fun k9 hi9 => ⟨(fm449 k9 hi9).1, (fm449 k9 hi9).2.1, tgX et455 (fn450 k9 hi9) (fm449 k9 hi9).2.2⟩
  have fm458 : ∀ k9, k9 < 12 → qw k9 = some (wr k9) ∧ wd_at w444 (wr k9) (.inl (cy 2, 12, .inl (fw k9))) ∧ tg454 (wr k9) = 12000 + k9 := fun k9 hi9 => ⟨(fm451 k9 hi9).1, (fm451 k9 hi9).2.1, tgX et455 (fn452 k9 hi9) (fm451 k9 hi9).2.2⟩
  have hext459 := tgE et455 (kp441.out hq446) hext433
  have hb9460 := bnd.ad ew445 hq446 et455 hb9443
  refine y_putF (ref := "NoteHouseModel") F hP hD hS k447 rfl (fun _ h => List.mem_cons_of_mem _ (List.mem_append_right _ (h))) tyX11_ok nmX11 hnm 22 (Nat.le_of_ble_eq_true rfl) (List.mem_cons_of_mem _ (List.mem_append_left _ (List.mem_append_left _ (List.mem_of_getElem? (i := 23) rfl)))) rfl rfl rfl rfl rfl (Nat.le_of_ble_eq_true rfl) dX11_init_153 (fun w461 ew462 H locs hP hD hS => ?_)
  have k463 : wd_at w461 y (.inr (11, [.int 0, .int 0, .ref m2, .ref m3, .ref m4, .ref m5, .ref m6, .int 0, .ref m8, .ref m9, .ref m10, .ref m11, .ref m12, .ref m13, .ref m14, .int 0, .int 0, .ref m17, .ref m18, .ref m19, .ref m20, .ref m21, .ref m22, .null, .null, .int 0, .int 0, .int 0, .int 0, .null, .null, .null, .null, .null, .null, .null, .null, .null, .int 0, .null, .null, .null, .null, .null, .null, .null, .null, .null, .null, .null, .int 0, .null, .null, .null, .null, .int 0, .null, .null, .null, .null])) := wd_at.ps ew462 k447
  have k464 := wd_at.pt ew462 k448 (tg_ne (tgN et455) t456 (by decide))
  have fm465 : ∀ k9, k9 < 12 → qp k9 = some (pr k9) ∧ wd_at w461 (pr k9) (.inl (cy 2, 12, .inl (fp k9))) ∧ tg454 (pr k9) = 11000 + k9 := fun k9 hi9 => ⟨(fm457 k9 hi9).1, wd_at.pt ew462 (fm457 k9 hi9).2.1 (tg_ne (fm457 k9 hi9).2.2 t456 (tnA (show 10000 < 11000 by decide))), (fm457 k9 hi9).2.2⟩
  have fm466 : ∀ k9, k9 < 12 → qw k9 = some (wr k9) ∧ wd_at w461 (wr k9) (.inl (cy 2, 12, .inl (fw k9))) ∧ tg454 (wr k9) = 12000 + k9 := fun k9 hi9 => ⟨(fm458 k9 hi9).1, wd_at.pt ew462 (fm458 k9 hi9).2.1 (tg_ne (fm458 k9 hi9).2.2 t456 (tnA (show 10000 < 12000 by decide))), (fm458 k9 hi9).2.2⟩
  have kp467 := kp453.put ew462 sy
  have hb9468 := bnd.pt ew462 t456 hb9460
  have hb9469 := bnd.cons hb9468 k464 (tgN et455) (show 10000 < 10122 by decide)
  refine lv_aload_n hx hb dX11_init_156 rfl (lv_at hl 0 rfl) ?_
  refine lv_bipush (v := 60) hx hb dX11_init_157 (by decide) ?_
  refine lv_bipush (v := 12) hx hb dX11_init_159 (by decide) ?_
  refine y_mna (N := 60) (M := 12) F hP hD hS (List.mem_cons_of_mem _ (List.mem_append_left _ (List.mem_append_left _ (List.mem_of_getElem? (i := 3) rfl)))) (List.mem_cons_of_mem _ (List.mem_append_left _ (List.mem_append_left _ (List.mem_of_getElem? (i := 4) rfl)))) (by decide) (by decide) (by decide) (by decide) (by decide) (by decide) (Nat.le_of_ble_eq_true rfl) (Nat.le_of_ble_eq_true rfl) dX11_init_161 (fun m23 sr w470 ew471 hq472 hr473 hj474 hz475 H hP hD hS => ?_)
  refine W.widen (k := 103) (n := 1698) (Nat.le_of_ble_eq_true rfl) (Nat.le_of_ble_eq_true rfl) ?_
  obtain ⟨qs, eqs⟩ : ∃ f : Nat → Option Nat, f = fun i => if i < 60 then some (sr i) else none := ⟨_, rfl⟩
  obtain ⟨fs, efs⟩ : ∃ f : Nat → Nat → Int32, f = fun _ _ => 0 := ⟨_, rfl⟩
  obtain ⟨tg476, et477⟩ : ∃ f : Nat → Nat, f = tgR tg454 sr 60 13000 := ⟨_, rfl⟩
  obtain ⟨tg478, et479⟩ : ∃ f : Nat → Nat, f = va_up tg476 m23 (10123) := ⟨_, rfl⟩
  have k480 := wd_at.mo ew471 hq472 hr473 k463
  have t481 := tgX et479 (wd_nL hq472 k463) (tgR_n et477 (fun i hi9 e9 => hr473 i hi9 (e9 ▸ k463.1)) t456)
  have fn482 : ∀ k9, k9 < 12 → (pr k9) ≠ m23 := fun k9 hi9 => wd_nL hq472 ((fm465 k9 hi9).2.1)
  have fm483 : ∀ k9, k9 < 12 → qp k9 = some (pr k9) ∧ wd_at w470 (pr k9) (.inl (cy 2, 12, .inl (fp k9))) ∧ tg478 (pr k9) = 11000 + k9 := fun k9 hi9 => ⟨(fm465 k9 hi9).1, wd_at.mo ew471 hq472 hr473 (fm465 k9 hi9).2.1, tgX et479 (wd_nL hq472 ((fm465 k9 hi9).2.1)) (tgR_n et477 (fun i hi8 e9 => hr473 i hi8 (e9 ▸ ((fm465 k9 hi9).2.1).1)) (fm465 k9 hi9).2.2)⟩
  have fn484 : ∀ k9, k9 < 12 → (wr k9) ≠ m23 := fun k9 hi9 => wd_nL hq472 ((fm466 k9 hi9).2.1)
  have fm485 : ∀ k9, k9 < 12 → qw k9 = some (wr k9) ∧ wd_at w470 (wr k9) (.inl (cy 2, 12, .inl (fw k9))) ∧ tg478 (wr k9) = 12000 + k9 := fun k9 hi9 => ⟨(fm466 k9 hi9).1, wd_at.mo ew471 hq472 hr473 (fm466 k9 hi9).2.1, tgX et479 (wd_nL hq472 ((fm466 k9 hi9).2.1)) (tgR_n et477 (fun i hi8 e9 => hr473 i hi8 (e9 ▸ ((fm466 k9 hi9).2.1).1)) (fm466 k9 hi9).2.2)⟩
  have k486 : wd_at w470 m23 (.inl (cy 10, 60, .inr (.inr (.inr (.inr qs))))) := by rw [eqs]; exact wd_at.mq ew471
  have fm487 : ∀ k9, k9 < 60 → qs k9 = some (sr k9) ∧ wd_at w470 (sr k9) (.inl (cy 2, 12, .inl (fs k9))) ∧ tg478 (sr k9) = 13000 + k9 := fun k9 hi9 => ⟨by rw [eqs]; exact if_pos hi9, by rw [efs]; exact wd_at.mr ew471 hz475 k9 hi9, tgX et479 (hz475 k9 hi9) (tgR_r et477 hj474 hi9)⟩
  have fn488 : ∀ k9, k9 < 60 → (sr k9) ≠ m23 := hz475
  have ho23 : ∀ i, i < 60 → sr i ∉ w.1 := fun i hi9 => kp467.out (hr473 i hi9)
  have hext489 := tgE et479 (kp467.out hq472) (tgR_E et477 ho23 hext459)
  have kp490 := kp467.mna ew471 hq472 hr473
  have hb9491 := bnd.mo ew471 hq472 hr473 et477 et479 hb9469
  refine y_putF (ref := "NoteHouseModel") F hP hD hS k480 rfl (fun _ h => List.mem_cons_of_mem _ (List.mem_append_right _ (h))) tyX11_ok nmX11 hnm 23 (Nat.le_of_ble_eq_true rfl) (List.mem_cons_of_mem _ (List.mem_append_left _ (List.mem_append_right _ (List.mem_append_left _ (List.mem_of_getElem? (i := 0) rfl))))) rfl rfl rfl rfl rfl (Nat.le_of_ble_eq_true rfl) dX11_init_165 (fun w492 ew493 H locs hP hD hS => ?_)
  have k494 : wd_at w492 y (.inr (11, [.int 0, .int 0, .ref m2, .ref m3, .ref m4, .ref m5, .ref m6, .int 0, .ref m8, .ref m9, .ref m10, .ref m11, .ref m12, .ref m13, .ref m14, .int 0, .int 0, .ref m17, .ref m18, .ref m19, .ref m20, .ref m21, .ref m22, .ref m23, .null, .int 0, .int 0, .int 0, .int 0, .null, .null, .null, .null, .null, .null, .null, .null, .null, .int 0, .null, .null, .null, .null, .null, .null, .null, .null, .null, .null, .null, .int 0, .null, .null, .null, .null, .int 0, .null, .null, .null, .null])) := wd_at.ps ew493 k480
  have k495 := wd_at.pt ew493 k486 (tg_ne (tgN et479) t481 (by decide))
  have fm496 : ∀ k9, k9 < 12 → qp k9 = some (pr k9) ∧ wd_at w492 (pr k9) (.inl (cy 2, 12, .inl (fp k9))) ∧ tg478 (pr k9) = 11000 + k9 := fun k9 hi9 => ⟨(fm483 k9 hi9).1, wd_at.pt ew493 (fm483 k9 hi9).2.1 (tg_ne (fm483 k9 hi9).2.2 t481 (tnA (show 10000 < 11000 by decide))), (fm483 k9 hi9).2.2⟩
  have fm497 : ∀ k9, k9 < 12 → qw k9 = some (wr k9) ∧ wd_at w492 (wr k9) (.inl (cy 2, 12, .inl (fw k9))) ∧ tg478 (wr k9) = 12000 + k9 := fun k9 hi9 => ⟨(fm485 k9 hi9).1, wd_at.pt ew493 (fm485 k9 hi9).2.1 (tg_ne (fm485 k9 hi9).2.2 t481 (tnA (show 10000 < 12000 by decide))), (fm485 k9 hi9).2.2⟩
  have fm498 : ∀ k9, k9 < 60 → qs k9 = some (sr k9) ∧ wd_at w492 (sr k9) (.inl (cy 2, 12, .inl (fs k9))) ∧ tg478 (sr k9) = 13000 + k9 := fun k9 hi9 => ⟨(fm487 k9 hi9).1, wd_at.pt ew493 (fm487 k9 hi9).2.1 (tg_ne (fm487 k9 hi9).2.2 t481 (tnA (show 10000 < 13000 by decide))), (fm487 k9 hi9).2.2⟩
  have kp499 := kp490.put ew493 sy
  have hb9500 := bnd.pt ew493 t481 hb9491
  have hb9501 := bnd.cons hb9500 k495 (tgN et479) (show 10000 < 10123 by decide)
  refine lv_aload_n hx hb dX11_init_168 rfl (lv_at hl 0 rfl) ?_
  refine lv_sipush (v := 300) hx hb dX11_init_169 (by decide) ?_
  refine y_newB (N := 300) F hP hD hS (List.mem_cons_of_mem _ (List.mem_append_left _ (List.mem_append_right _ (List.mem_append_left _ (List.mem_of_getElem? (i := 1) rfl))))) (by decide) (by decide) (by decide) (Nat.le_of_ble_eq_true rfl) (Nat.le_of_ble_eq_true rfl) dX11_init_172 (fun m24 w502 ew503 hq504 H hP hD hS => ?_)
  refine W.widen (k := 104) (n := 1998) (Nat.le_of_ble_eq_true rfl) (Nat.le_of_ble_eq_true rfl) ?_
  have k505 := wd_at.ad ew503 hq504 k494
  have k506 : wd_at w502 m24 (.inl (cy 0, 300, .inl (fun _ => 0))) := wd_at.nw ew503
  have fm507 : ∀ k9, k9 < 12 → qp k9 = some (pr k9) ∧ wd_at w502 (pr k9) (.inl (cy 2, 12, .inl (fp k9))) ∧ tg478 (pr k9) = 11000 + k9 := fun k9 hi9 => ⟨(fm496 k9 hi9).1, wd_at.ad ew503 hq504 (fm496 k9 hi9).2.1, (fm496 k9 hi9).2.2⟩
  have fn508 : ∀ k9, k9 < 12 → (pr k9) ≠ m24 := fun k9 hi9 => wd_nL hq504 (fm496 k9 hi9).2.1
  have fm509 : ∀ k9, k9 < 12 → qw k9 = some (wr k9) ∧ wd_at w502 (wr k9) (.inl (cy 2, 12, .inl (fw k9))) ∧ tg478 (wr k9) = 12000 + k9 := fun k9 hi9 => ⟨(fm497 k9 hi9).1, wd_at.ad ew503 hq504 (fm497 k9 hi9).2.1, (fm497 k9 hi9).2.2⟩
  have fn510 : ∀ k9, k9 < 12 → (wr k9) ≠ m24 := fun k9 hi9 => wd_nL hq504 (fm497 k9 hi9).2.1
  have fm511 : ∀ k9, k9 < 60 → qs k9 = some (sr k9) ∧ wd_at w502 (sr k9) (.inl (cy 2, 12, .inl (fs k9))) ∧ tg478 (sr k9) = 13000 + k9 := fun k9 hi9 => ⟨(fm498 k9 hi9).1, wd_at.ad ew503 hq504 (fm498 k9 hi9).2.1, (fm498 k9 hi9).2.2⟩
  have fn512 : ∀ k9, k9 < 60 → (sr k9) ≠ m24 := fun k9 hi9 => wd_nL hq504 (fm498 k9 hi9).2.1
  have kp513 := kp499.add ew503 hq504
  obtain ⟨tg514, et515⟩ : ∃ f : Nat → Nat, f = va_up tg478 m24 (10124) := ⟨_, rfl⟩
  have t516 := tgX et515 (wd_nL hq504 k494) t481
  have fm517 : ∀ k9, k9 < 12 → qp k9 = some (pr k9) ∧ wd_at w502 (pr k9) (.inl (cy 2, 12, .inl (fp k9))) ∧ tg514 (pr k9) = 11000 + k9 := fun k9 hi9 => ⟨(fm507 k9 hi9).1, (fm507 k9 hi9).2.1, tgX et515 (fn508 k9 hi9) (fm507 k9 hi9).2.2⟩
  have fm518 : ∀ k9, k9 < 12 → qw k9 = some (wr k9) ∧ wd_at w502 (wr k9) (.inl (cy 2, 12, .inl (fw k9))) ∧ tg514 (wr k9) = 12000 + k9 := fun k9 hi9 => ⟨(fm509 k9 hi9).1, (fm509 k9 hi9).2.1, tgX et515 (fn510 k9 hi9) (fm509 k9 hi9).2.2⟩
  have fm519 : ∀ k9, k9 < 60 → qs k9 = some (sr k9) ∧ wd_at w502 (sr k9) (.inl (cy 2, 12, .inl (fs k9))) ∧ tg514 (sr k9) = 13000 + k9 := fun k9 hi9 => ⟨(fm511 k9 hi9).1, (fm511 k9 hi9).2.1, tgX et515 (fn512 k9 hi9) (fm511 k9 hi9).2.2⟩
  have hext520 := tgE et515 (kp499.out hq504) hext489
  have hb9521 := bnd.ad ew503 hq504 et515 hb9501
  refine y_putF (ref := "NoteHouseModel") F hP hD hS k505 rfl (fun _ h => List.mem_cons_of_mem _ (List.mem_append_right _ (h))) tyX11_ok nmX11 hnm 24 (Nat.le_of_ble_eq_true rfl) (List.mem_cons_of_mem _ (List.mem_append_left _ (List.mem_append_right _ (List.mem_append_left _ (List.mem_of_getElem? (i := 2) rfl))))) rfl rfl rfl rfl rfl (Nat.le_of_ble_eq_true rfl) dX11_init_174 (fun w522 ew523 H locs hP hD hS => ?_)
  have k524 : wd_at w522 y (.inr (11, [.int 0, .int 0, .ref m2, .ref m3, .ref m4, .ref m5, .ref m6, .int 0, .ref m8, .ref m9, .ref m10, .ref m11, .ref m12, .ref m13, .ref m14, .int 0, .int 0, .ref m17, .ref m18, .ref m19, .ref m20, .ref m21, .ref m22, .ref m23, .ref m24, .int 0, .int 0, .int 0, .int 0, .null, .null, .null, .null, .null, .null, .null, .null, .null, .int 0, .null, .null, .null, .null, .null, .null, .null, .null, .null, .null, .null, .int 0, .null, .null, .null, .null, .int 0, .null, .null, .null, .null])) := wd_at.ps ew523 k505
  have k525 := wd_at.pt ew523 k506 (tg_ne (tgN et515) t516 (by decide))
  have fm526 : ∀ k9, k9 < 12 → qp k9 = some (pr k9) ∧ wd_at w522 (pr k9) (.inl (cy 2, 12, .inl (fp k9))) ∧ tg514 (pr k9) = 11000 + k9 := fun k9 hi9 => ⟨(fm517 k9 hi9).1, wd_at.pt ew523 (fm517 k9 hi9).2.1 (tg_ne (fm517 k9 hi9).2.2 t516 (tnA (show 10000 < 11000 by decide))), (fm517 k9 hi9).2.2⟩
  have fm527 : ∀ k9, k9 < 12 → qw k9 = some (wr k9) ∧ wd_at w522 (wr k9) (.inl (cy 2, 12, .inl (fw k9))) ∧ tg514 (wr k9) = 12000 + k9 := fun k9 hi9 => ⟨(fm518 k9 hi9).1, wd_at.pt ew523 (fm518 k9 hi9).2.1 (tg_ne (fm518 k9 hi9).2.2 t516 (tnA (show 10000 < 12000 by decide))), (fm518 k9 hi9).2.2⟩
  have fm528 : ∀ k9, k9 < 60 → qs k9 = some (sr k9) ∧ wd_at w522 (sr k9) (.inl (cy 2, 12, .inl (fs k9))) ∧ tg514 (sr k9) = 13000 + k9 := fun k9 hi9 => ⟨(fm519 k9 hi9).1, wd_at.pt ew523 (fm519 k9 hi9).2.1 (tg_ne (fm519 k9 hi9).2.2 t516 (tnA (show 10000 < 13000 by decide))), (fm519 k9 hi9).2.2⟩
  have kp529 := kp513.put ew523 sy
  have hb9530 := bnd.pt ew523 t516 hb9521
  have hb9531 := bnd.cons hb9530 k525 (tgN et515) (show 10000 < 10124 by decide)
  refine lv_aload_n hx hb dX11_init_177 rfl (lv_at hl 0 rfl) ?_
  refine lv_bipush (v := 12) hx hb dX11_init_178 (by decide) ?_
  refine y_newI (N := 12) F hP hD hS (List.mem_cons_of_mem _ (List.mem_append_left _ (List.mem_append_left _ (List.mem_of_getElem? (i := 4) rfl)))) (by decide) (by decide) (by decide) (Nat.le_of_ble_eq_true rfl) (Nat.le_of_ble_eq_true rfl) dX11_init_180 (fun m29 w532 ew533 hq534 H hP hD hS => ?_)
  refine W.widen (k := 105) (n := 2010) (Nat.le_of_ble_eq_true rfl) (Nat.le_of_ble_eq_true rfl) ?_
  have k535 := wd_at.ad ew533 hq534 k524
  have k536 : wd_at w532 m29 (.inl (cy 2, 12, .inl (fun _ => 0))) := wd_at.nw ew533
  have fm537 : ∀ k9, k9 < 12 → qp k9 = some (pr k9) ∧ wd_at w532 (pr k9) (.inl (cy 2, 12, .inl (fp k9))) ∧ tg514 (pr k9) = 11000 + k9 := fun k9 hi9 => ⟨(fm526 k9 hi9).1, wd_at.ad ew533 hq534 (fm526 k9 hi9).2.1, (fm526 k9 hi9).2.2⟩
  have fn538 : ∀ k9, k9 < 12 → (pr k9) ≠ m29 := fun k9 hi9 => wd_nL hq534 (fm526 k9 hi9).2.1
  have fm539 : ∀ k9, k9 < 12 → qw k9 = some (wr k9) ∧ wd_at w532 (wr k9) (.inl (cy 2, 12, .inl (fw k9))) ∧ tg514 (wr k9) = 12000 + k9 := fun k9 hi9 => ⟨(fm527 k9 hi9).1, wd_at.ad ew533 hq534 (fm527 k9 hi9).2.1, (fm527 k9 hi9).2.2⟩
  have fn540 : ∀ k9, k9 < 12 → (wr k9) ≠ m29 := fun k9 hi9 => wd_nL hq534 (fm527 k9 hi9).2.1
  have fm541 : ∀ k9, k9 < 60 → qs k9 = some (sr k9) ∧ wd_at w532 (sr k9) (.inl (cy 2, 12, .inl (fs k9))) ∧ tg514 (sr k9) = 13000 + k9 := fun k9 hi9 => ⟨(fm528 k9 hi9).1, wd_at.ad ew533 hq534 (fm528 k9 hi9).2.1, (fm528 k9 hi9).2.2⟩
  have fn542 : ∀ k9, k9 < 60 → (sr k9) ≠ m29 := fun k9 hi9 => wd_nL hq534 (fm528 k9 hi9).2.1
  have kp543 := kp529.add ew533 hq534
  obtain ⟨tg544, et545⟩ : ∃ f : Nat → Nat, f = va_up tg514 m29 (10129) := ⟨_, rfl⟩
  have t546 := tgX et545 (wd_nL hq534 k524) t516
  have fm547 : ∀ k9, k9 < 12 → qp k9 = some (pr k9) ∧ wd_at w532 (pr k9) (.inl (cy 2, 12, .inl (fp k9))) ∧ tg544 (pr k9) = 11000 + k9 := fun k9 hi9 => ⟨(fm537 k9 hi9).1, (fm537 k9 hi9).2.1, tgX et545 (fn538 k9 hi9) (fm537 k9 hi9).2.2⟩
  have fm548 : ∀ k9, k9 < 12 → qw k9 = some (wr k9) ∧ wd_at w532 (wr k9) (.inl (cy 2, 12, .inl (fw k9))) ∧ tg544 (wr k9) = 12000 + k9 := fun k9 hi9 => ⟨(fm539 k9 hi9).1, (fm539 k9 hi9).2.1, tgX et545 (fn540 k9 hi9) (fm539 k9 hi9).2.2⟩
  have fm549 : ∀ k9, k9 < 60 → qs k9 = some (sr k9) ∧ wd_at w532 (sr k9) (.inl (cy 2, 12, .inl (fs k9))) ∧ tg544 (sr k9) = 13000 + k9 := fun k9 hi9 => ⟨(fm541 k9 hi9).1, (fm541 k9 hi9).2.1, tgX et545 (fn542 k9 hi9) (fm541 k9 hi9).2.2⟩
  have hext550 := tgE et545 (kp529.out hq534) hext520
  have hb9551 := bnd.ad ew533 hq534 et545 hb9531
  refine y_putF (ref := "NoteHouseModel") F hP hD hS k535 rfl (fun _ h => List.mem_cons_of_mem _ (List.mem_append_right _ (h))) tyX11_ok nmX11 hnm 29 (Nat.le_of_ble_eq_true rfl) (List.mem_cons_of_mem _ (List.mem_append_left _ (List.mem_append_right _ (List.mem_append_left _ (List.mem_of_getElem? (i := 3) rfl))))) rfl rfl rfl rfl rfl (Nat.le_of_ble_eq_true rfl) dX11_init_182 (fun w552 ew553 H locs hP hD hS => ?_)
  have k554 : wd_at w552 y (.inr (11, [.int 0, .int 0, .ref m2, .ref m3, .ref m4, .ref m5, .ref m6, .int 0, .ref m8, .ref m9, .ref m10, .ref m11, .ref m12, .ref m13, .ref m14, .int 0, .int 0, .ref m17, .ref m18, .ref m19, .ref m20, .ref m21, .ref m22, .ref m23, .ref m24, .int 0, .int 0, .int 0, .int 0, .ref m29, .null, .null, .null, .null, .null, .null, .null, .null, .int 0, .null, .null, .null, .null, .null, .null, .null, .null, .null, .null, .null, .int 0, .null, .null, .null, .null, .int 0, .null, .null, .null, .null])) := wd_at.ps ew553 k535
  have k555 := wd_at.pt ew553 k536 (tg_ne (tgN et545) t546 (by decide))
  have fm556 : ∀ k9, k9 < 12 → qp k9 = some (pr k9) ∧ wd_at w552 (pr k9) (.inl (cy 2, 12, .inl (fp k9))) ∧ tg544 (pr k9) = 11000 + k9 := fun k9 hi9 => ⟨(fm547 k9 hi9).1, wd_at.pt ew553 (fm547 k9 hi9).2.1 (tg_ne (fm547 k9 hi9).2.2 t546 (tnA (show 10000 < 11000 by decide))), (fm547 k9 hi9).2.2⟩
  have fm557 : ∀ k9, k9 < 12 → qw k9 = some (wr k9) ∧ wd_at w552 (wr k9) (.inl (cy 2, 12, .inl (fw k9))) ∧ tg544 (wr k9) = 12000 + k9 := fun k9 hi9 => ⟨(fm548 k9 hi9).1, wd_at.pt ew553 (fm548 k9 hi9).2.1 (tg_ne (fm548 k9 hi9).2.2 t546 (tnA (show 10000 < 12000 by decide))), (fm548 k9 hi9).2.2⟩
  have fm558 : ∀ k9, k9 < 60 → qs k9 = some (sr k9) ∧ wd_at w552 (sr k9) (.inl (cy 2, 12, .inl (fs k9))) ∧ tg544 (sr k9) = 13000 + k9 := fun k9 hi9 => ⟨(fm549 k9 hi9).1, wd_at.pt ew553 (fm549 k9 hi9).2.1 (tg_ne (fm549 k9 hi9).2.2 t546 (tnA (show 10000 < 13000 by decide))), (fm549 k9 hi9).2.2⟩
  have kp559 := kp543.put ew553 sy
  have hb9560 := bnd.pt ew553 t546 hb9551
  have hb9561 := bnd.cons hb9560 k555 (tgN et545) (show 10000 < 10129 by decide)
  refine lv_aload_n hx hb dX11_init_185 rfl (lv_at hl 0 rfl) ?_
  refine lv_sipush (v := 156) hx hb dX11_init_186 (by decide) ?_
  refine y_newI (N := 156) F hP hD hS (List.mem_cons_of_mem _ (List.mem_append_left _ (List.mem_append_left _ (List.mem_of_getElem? (i := 4) rfl)))) (by decide) (by decide) (by decide) (Nat.le_of_ble_eq_true rfl) (Nat.le_of_ble_eq_true rfl) dX11_init_189 (fun m30 w562 ew563 hq564 H hP hD hS => ?_)
  refine W.widen (k := 106) (n := 2166) (Nat.le_of_ble_eq_true rfl) (Nat.le_of_ble_eq_true rfl) ?_
  have k565 := wd_at.ad ew563 hq564 k554
  have k566 : wd_at w562 m30 (.inl (cy 2, 156, .inl (fun _ => 0))) := wd_at.nw ew563
  have fm567 : ∀ k9, k9 < 12 → qp k9 = some (pr k9) ∧ wd_at w562 (pr k9) (.inl (cy 2, 12, .inl (fp k9))) ∧ tg544 (pr k9) = 11000 + k9 := fun k9 hi9 => ⟨(fm556 k9 hi9).1, wd_at.ad ew563 hq564 (fm556 k9 hi9).2.1, (fm556 k9 hi9).2.2⟩
  have fn568 : ∀ k9, k9 < 12 → (pr k9) ≠ m30 := fun k9 hi9 => wd_nL hq564 (fm556 k9 hi9).2.1
  have fm569 : ∀ k9, k9 < 12 → qw k9 = some (wr k9) ∧ wd_at w562 (wr k9) (.inl (cy 2, 12, .inl (fw k9))) ∧ tg544 (wr k9) = 12000 + k9 := fun k9 hi9 => ⟨(fm557 k9 hi9).1, wd_at.ad ew563 hq564 (fm557 k9 hi9).2.1, (fm557 k9 hi9).2.2⟩
  have fn570 : ∀ k9, k9 < 12 → (wr k9) ≠ m30 := fun k9 hi9 => wd_nL hq564 (fm557 k9 hi9).2.1
  have fm571 : ∀ k9, k9 < 60 → qs k9 = some (sr k9) ∧ wd_at w562 (sr k9) (.inl (cy 2, 12, .inl (fs k9))) ∧ tg544 (sr k9) = 13000 + k9 := fun k9 hi9 => ⟨(fm558 k9 hi9).1, wd_at.ad ew563 hq564 (fm558 k9 hi9).2.1, (fm558 k9 hi9).2.2⟩
  have fn572 : ∀ k9, k9 < 60 → (sr k9) ≠ m30 := fun k9 hi9 => wd_nL hq564 (fm558 k9 hi9).2.1
  have kp573 := kp559.add ew563 hq564
  obtain ⟨tg574, et575⟩ : ∃ f : Nat → Nat, f = va_up tg544 m30 (10130) := ⟨_, rfl⟩
  have t576 := tgX et575 (wd_nL hq564 k554) t546
  have fm577 : ∀ k9, k9 < 12 → qp k9 = some (pr k9) ∧ wd_at w562 (pr k9) (.inl (cy 2, 12, .inl (fp k9))) ∧ tg574 (pr k9) = 11000 + k9 := fun k9 hi9 => ⟨(fm567 k9 hi9).1, (fm567 k9 hi9).2.1, tgX et575 (fn568 k9 hi9) (fm567 k9 hi9).2.2⟩
  have fm578 : ∀ k9, k9 < 12 → qw k9 = some (wr k9) ∧ wd_at w562 (wr k9) (.inl (cy 2, 12, .inl (fw k9))) ∧ tg574 (wr k9) = 12000 + k9 := fun k9 hi9 => ⟨(fm569 k9 hi9).1, (fm569 k9 hi9).2.1, tgX et575 (fn570 k9 hi9) (fm569 k9 hi9).2.2⟩
  have fm579 : ∀ k9, k9 < 60 → qs k9 = some (sr k9) ∧ wd_at w562 (sr k9) (.inl (cy 2, 12, .inl (fs k9))) ∧ tg574 (sr k9) = 13000 + k9 := fun k9 hi9 => ⟨(fm571 k9 hi9).1, (fm571 k9 hi9).2.1, tgX et575 (fn572 k9 hi9) (fm571 k9 hi9).2.2⟩
  have hext580 := tgE et575 (kp559.out hq564) hext550
  have hb9581 := bnd.ad ew563 hq564 et575 hb9561
  refine y_putF (ref := "NoteHouseModel") F hP hD hS k565 rfl (fun _ h => List.mem_cons_of_mem _ (List.mem_append_right _ (h))) tyX11_ok nmX11 hnm 30 (Nat.le_of_ble_eq_true rfl) (List.mem_cons_of_mem _ (List.mem_append_left _ (List.mem_append_right _ (List.mem_append_left _ (List.mem_of_getElem? (i := 4) rfl))))) rfl rfl rfl rfl rfl (Nat.le_of_ble_eq_true rfl) dX11_init_191 (fun w582 ew583 H locs hP hD hS => ?_)
  have k584 : wd_at w582 y (.inr (11, [.int 0, .int 0, .ref m2, .ref m3, .ref m4, .ref m5, .ref m6, .int 0, .ref m8, .ref m9, .ref m10, .ref m11, .ref m12, .ref m13, .ref m14, .int 0, .int 0, .ref m17, .ref m18, .ref m19, .ref m20, .ref m21, .ref m22, .ref m23, .ref m24, .int 0, .int 0, .int 0, .int 0, .ref m29, .ref m30, .null, .null, .null, .null, .null, .null, .null, .int 0, .null, .null, .null, .null, .null, .null, .null, .null, .null, .null, .null, .int 0, .null, .null, .null, .null, .int 0, .null, .null, .null, .null])) := wd_at.ps ew583 k565
  have k585 := wd_at.pt ew583 k566 (tg_ne (tgN et575) t576 (by decide))
  have fm586 : ∀ k9, k9 < 12 → qp k9 = some (pr k9) ∧ wd_at w582 (pr k9) (.inl (cy 2, 12, .inl (fp k9))) ∧ tg574 (pr k9) = 11000 + k9 := fun k9 hi9 => ⟨(fm577 k9 hi9).1, wd_at.pt ew583 (fm577 k9 hi9).2.1 (tg_ne (fm577 k9 hi9).2.2 t576 (tnA (show 10000 < 11000 by decide))), (fm577 k9 hi9).2.2⟩
  have fm587 : ∀ k9, k9 < 12 → qw k9 = some (wr k9) ∧ wd_at w582 (wr k9) (.inl (cy 2, 12, .inl (fw k9))) ∧ tg574 (wr k9) = 12000 + k9 := fun k9 hi9 => ⟨(fm578 k9 hi9).1, wd_at.pt ew583 (fm578 k9 hi9).2.1 (tg_ne (fm578 k9 hi9).2.2 t576 (tnA (show 10000 < 12000 by decide))), (fm578 k9 hi9).2.2⟩
  have fm588 : ∀ k9, k9 < 60 → qs k9 = some (sr k9) ∧ wd_at w582 (sr k9) (.inl (cy 2, 12, .inl (fs k9))) ∧ tg574 (sr k9) = 13000 + k9 := fun k9 hi9 => ⟨(fm579 k9 hi9).1, wd_at.pt ew583 (fm579 k9 hi9).2.1 (tg_ne (fm579 k9 hi9).2.2 t576 (tnA (show 10000 < 13000 by decide))), (fm579 k9 hi9).2.2⟩
  have kp589 := kp573.put ew583 sy
  have hb9590 := bnd.pt ew583 t576 hb9581
  have hb9591 := bnd.cons hb9590 k585 (tgN et575) (show 10000 < 10130 by decide)
  refine lv_aload_n hx hb dX11_init_194 rfl (lv_at hl 0 rfl) ?_
  refine lv_sipush (v := 156) hx hb dX11_init_195 (by decide) ?_
  refine y_newI (N := 156) F hP hD hS (List.mem_cons_of_mem _ (List.mem_append_left _ (List.mem_append_left _ (List.mem_of_getElem? (i := 4) rfl)))) (by decide) (by decide) (by decide) (Nat.le_of_ble_eq_true rfl) (Nat.le_of_ble_eq_true rfl) dX11_init_198 (fun m31 w592 ew593 hq594 H hP hD hS => ?_)
  refine W.widen (k := 107) (n := 2322) (Nat.le_of_ble_eq_true rfl) (Nat.le_of_ble_eq_true rfl) ?_
  have k595 := wd_at.ad ew593 hq594 k584
  have k596 : wd_at w592 m31 (.inl (cy 2, 156, .inl (fun _ => 0))) := wd_at.nw ew593
  have fm597 : ∀ k9, k9 < 12 → qp k9 = some (pr k9) ∧ wd_at w592 (pr k9) (.inl (cy 2, 12, .inl (fp k9))) ∧ tg574 (pr k9) = 11000 + k9 := fun k9 hi9 => ⟨(fm586 k9 hi9).1, wd_at.ad ew593 hq594 (fm586 k9 hi9).2.1, (fm586 k9 hi9).2.2⟩
  have fn598 : ∀ k9, k9 < 12 → (pr k9) ≠ m31 := fun k9 hi9 => wd_nL hq594 (fm586 k9 hi9).2.1
  have fm599 : ∀ k9, k9 < 12 → qw k9 = some (wr k9) ∧ wd_at w592 (wr k9) (.inl (cy 2, 12, .inl (fw k9))) ∧ tg574 (wr k9) = 12000 + k9 := fun k9 hi9 => ⟨(fm587 k9 hi9).1, wd_at.ad ew593 hq594 (fm587 k9 hi9).2.1, (fm587 k9 hi9).2.2⟩
  have fn600 : ∀ k9, k9 < 12 → (wr k9) ≠ m31 := fun k9 hi9 => wd_nL hq594 (fm587 k9 hi9).2.1
  have fm601 : ∀ k9, k9 < 60 → qs k9 = some (sr k9) ∧ wd_at w592 (sr k9) (.inl (cy 2, 12, .inl (fs k9))) ∧ tg574 (sr k9) = 13000 + k9 := fun k9 hi9 => ⟨(fm588 k9 hi9).1, wd_at.ad ew593 hq594 (fm588 k9 hi9).2.1, (fm588 k9 hi9).2.2⟩
  have fn602 : ∀ k9, k9 < 60 → (sr k9) ≠ m31 := fun k9 hi9 => wd_nL hq594 (fm588 k9 hi9).2.1
  have kp603 := kp589.add ew593 hq594
  obtain ⟨tg604, et605⟩ : ∃ f : Nat → Nat, f = va_up tg574 m31 (10131) := ⟨_, rfl⟩
  have t606 := tgX et605 (wd_nL hq594 k584) t576
  have fm607 : ∀ k9, k9 < 12 → qp k9 = some (pr k9) ∧ wd_at w592 (pr k9) (.inl (cy 2, 12, .inl (fp k9))) ∧ tg604 (pr k9) = 11000 + k9 := fun k9 hi9 => ⟨(fm597 k9 hi9).1, (fm597 k9 hi9).2.1, tgX et605 (fn598 k9 hi9) (fm597 k9 hi9).2.2⟩
  have fm608 : ∀ k9, k9 < 12 → qw k9 = some (wr k9) ∧ wd_at w592 (wr k9) (.inl (cy 2, 12, .inl (fw k9))) ∧ tg604 (wr k9) = 12000 + k9 := fun k9 hi9 => ⟨(fm599 k9 hi9).1, (fm599 k9 hi9).2.1, tgX et605 (fn600 k9 hi9) (fm599 k9 hi9).2.2⟩
  have fm609 : ∀ k9, k9 < 60 → qs k9 = some (sr k9) ∧ wd_at w592 (sr k9) (.inl (cy 2, 12, .inl (fs k9))) ∧ tg604 (sr k9) = 13000 + k9 := fun k9 hi9 => ⟨(fm601 k9 hi9).1, (fm601 k9 hi9).2.1, tgX et605 (fn602 k9 hi9) (fm601 k9 hi9).2.2⟩
  have hext610 := tgE et605 (kp589.out hq594) hext580
  have hb9611 := bnd.ad ew593 hq594 et605 hb9591
  refine y_putF (ref := "NoteHouseModel") F hP hD hS k595 rfl (fun _ h => List.mem_cons_of_mem _ (List.mem_append_right _ (h))) tyX11_ok nmX11 hnm 31 (Nat.le_of_ble_eq_true rfl) (List.mem_cons_of_mem _ (List.mem_append_left _ (List.mem_append_right _ (List.mem_append_left _ (List.mem_of_getElem? (i := 5) rfl))))) rfl rfl rfl rfl rfl (Nat.le_of_ble_eq_true rfl) dX11_init_200 (fun w612 ew613 H locs hP hD hS => ?_)
  have k614 : wd_at w612 y (.inr (11, [.int 0, .int 0, .ref m2, .ref m3, .ref m4, .ref m5, .ref m6, .int 0, .ref m8, .ref m9, .ref m10, .ref m11, .ref m12, .ref m13, .ref m14, .int 0, .int 0, .ref m17, .ref m18, .ref m19, .ref m20, .ref m21, .ref m22, .ref m23, .ref m24, .int 0, .int 0, .int 0, .int 0, .ref m29, .ref m30, .ref m31, .null, .null, .null, .null, .null, .null, .int 0, .null, .null, .null, .null, .null, .null, .null, .null, .null, .null, .null, .int 0, .null, .null, .null, .null, .int 0, .null, .null, .null, .null])) := wd_at.ps ew613 k595
  have k615 := wd_at.pt ew613 k596 (tg_ne (tgN et605) t606 (by decide))
  have fm616 : ∀ k9, k9 < 12 → qp k9 = some (pr k9) ∧ wd_at w612 (pr k9) (.inl (cy 2, 12, .inl (fp k9))) ∧ tg604 (pr k9) = 11000 + k9 := fun k9 hi9 => ⟨(fm607 k9 hi9).1, wd_at.pt ew613 (fm607 k9 hi9).2.1 (tg_ne (fm607 k9 hi9).2.2 t606 (tnA (show 10000 < 11000 by decide))), (fm607 k9 hi9).2.2⟩
  have fm617 : ∀ k9, k9 < 12 → qw k9 = some (wr k9) ∧ wd_at w612 (wr k9) (.inl (cy 2, 12, .inl (fw k9))) ∧ tg604 (wr k9) = 12000 + k9 := fun k9 hi9 => ⟨(fm608 k9 hi9).1, wd_at.pt ew613 (fm608 k9 hi9).2.1 (tg_ne (fm608 k9 hi9).2.2 t606 (tnA (show 10000 < 12000 by decide))), (fm608 k9 hi9).2.2⟩
  have fm618 : ∀ k9, k9 < 60 → qs k9 = some (sr k9) ∧ wd_at w612 (sr k9) (.inl (cy 2, 12, .inl (fs k9))) ∧ tg604 (sr k9) = 13000 + k9 := fun k9 hi9 => ⟨(fm609 k9 hi9).1, wd_at.pt ew613 (fm609 k9 hi9).2.1 (tg_ne (fm609 k9 hi9).2.2 t606 (tnA (show 10000 < 13000 by decide))), (fm609 k9 hi9).2.2⟩
  have kp619 := kp603.put ew613 sy
  have hb9620 := bnd.pt ew613 t606 hb9611
  have hb9621 := bnd.cons hb9620 k615 (tgN et605) (show 10000 < 10131 by decide)
  refine lv_aload_n hx hb dX11_init_203 rfl (lv_at hl 0 rfl) ?_
  refine lv_sipush (v := 936) hx hb dX11_init_204 (by decide) ?_
  refine y_newI (N := 936) F hP hD hS (List.mem_cons_of_mem _ (List.mem_append_left _ (List.mem_append_left _ (List.mem_of_getElem? (i := 4) rfl)))) (by decide) (by decide) (by decide) (Nat.le_of_ble_eq_true rfl) (Nat.le_of_ble_eq_true rfl) dX11_init_207 (fun m32 w622 ew623 hq624 H hP hD hS => ?_)
  refine W.widen (k := 108) (n := 3258) (Nat.le_of_ble_eq_true rfl) (Nat.le_of_ble_eq_true rfl) ?_
  have k625 := wd_at.ad ew623 hq624 k614
  have k626 : wd_at w622 m32 (.inl (cy 2, 936, .inl (fun _ => 0))) := wd_at.nw ew623
  have fm627 : ∀ k9, k9 < 12 → qp k9 = some (pr k9) ∧ wd_at w622 (pr k9) (.inl (cy 2, 12, .inl (fp k9))) ∧ tg604 (pr k9) = 11000 + k9 := fun k9 hi9 => ⟨(fm616 k9 hi9).1, wd_at.ad ew623 hq624 (fm616 k9 hi9).2.1, (fm616 k9 hi9).2.2⟩
  have fn628 : ∀ k9, k9 < 12 → (pr k9) ≠ m32 := fun k9 hi9 => wd_nL hq624 (fm616 k9 hi9).2.1
  have fm629 : ∀ k9, k9 < 12 → qw k9 = some (wr k9) ∧ wd_at w622 (wr k9) (.inl (cy 2, 12, .inl (fw k9))) ∧ tg604 (wr k9) = 12000 + k9 := fun k9 hi9 => ⟨(fm617 k9 hi9).1, wd_at.ad ew623 hq624 (fm617 k9 hi9).2.1, (fm617 k9 hi9).2.2⟩
  have fn630 : ∀ k9, k9 < 12 → (wr k9) ≠ m32 := fun k9 hi9 => wd_nL hq624 (fm617 k9 hi9).2.1
  have fm631 : ∀ k9, k9 < 60 → qs k9 = some (sr k9) ∧ wd_at w622 (sr k9) (.inl (cy 2, 12, .inl (fs k9))) ∧ tg604 (sr k9) = 13000 + k9 := fun k9 hi9 => ⟨(fm618 k9 hi9).1, wd_at.ad ew623 hq624 (fm618 k9 hi9).2.1, (fm618 k9 hi9).2.2⟩
  have fn632 : ∀ k9, k9 < 60 → (sr k9) ≠ m32 := fun k9 hi9 => wd_nL hq624 (fm618 k9 hi9).2.1
  have kp633 := kp619.add ew623 hq624
  obtain ⟨tg634, et635⟩ : ∃ f : Nat → Nat, f = va_up tg604 m32 (10132) := ⟨_, rfl⟩
  have t636 := tgX et635 (wd_nL hq624 k614) t606
  have fm637 : ∀ k9, k9 < 12 → qp k9 = some (pr k9) ∧ wd_at w622 (pr k9) (.inl (cy 2, 12, .inl (fp k9))) ∧ tg634 (pr k9) = 11000 + k9 := fun k9 hi9 => ⟨(fm627 k9 hi9).1, (fm627 k9 hi9).2.1, tgX et635 (fn628 k9 hi9) (fm627 k9 hi9).2.2⟩
  have fm638 : ∀ k9, k9 < 12 → qw k9 = some (wr k9) ∧ wd_at w622 (wr k9) (.inl (cy 2, 12, .inl (fw k9))) ∧ tg634 (wr k9) = 12000 + k9 := fun k9 hi9 => ⟨(fm629 k9 hi9).1, (fm629 k9 hi9).2.1, tgX et635 (fn630 k9 hi9) (fm629 k9 hi9).2.2⟩
  have fm639 : ∀ k9, k9 < 60 → qs k9 = some (sr k9) ∧ wd_at w622 (sr k9) (.inl (cy 2, 12, .inl (fs k9))) ∧ tg634 (sr k9) = 13000 + k9 := fun k9 hi9 => ⟨(fm631 k9 hi9).1, (fm631 k9 hi9).2.1, tgX et635 (fn632 k9 hi9) (fm631 k9 hi9).2.2⟩
  have hext640 := tgE et635 (kp619.out hq624) hext610
  have hb9641 := bnd.ad ew623 hq624 et635 hb9621
  refine y_putF (ref := "NoteHouseModel") F hP hD hS k625 rfl (fun _ h => List.mem_cons_of_mem _ (List.mem_append_right _ (h))) tyX11_ok nmX11 hnm 32 (Nat.le_of_ble_eq_true rfl) (List.mem_cons_of_mem _ (List.mem_append_left _ (List.mem_append_right _ (List.mem_append_left _ (List.mem_of_getElem? (i := 6) rfl))))) rfl rfl rfl rfl rfl (Nat.le_of_ble_eq_true rfl) dX11_init_209 (fun w642 ew643 H locs hP hD hS => ?_)
  have k644 : wd_at w642 y (.inr (11, [.int 0, .int 0, .ref m2, .ref m3, .ref m4, .ref m5, .ref m6, .int 0, .ref m8, .ref m9, .ref m10, .ref m11, .ref m12, .ref m13, .ref m14, .int 0, .int 0, .ref m17, .ref m18, .ref m19, .ref m20, .ref m21, .ref m22, .ref m23, .ref m24, .int 0, .int 0, .int 0, .int 0, .ref m29, .ref m30, .ref m31, .ref m32, .null, .null, .null, .null, .null, .int 0, .null, .null, .null, .null, .null, .null, .null, .null, .null, .null, .null, .int 0, .null, .null, .null, .null, .int 0, .null, .null, .null, .null])) := wd_at.ps ew643 k625
  have k645 := wd_at.pt ew643 k626 (tg_ne (tgN et635) t636 (by decide))
  have fm646 : ∀ k9, k9 < 12 → qp k9 = some (pr k9) ∧ wd_at w642 (pr k9) (.inl (cy 2, 12, .inl (fp k9))) ∧ tg634 (pr k9) = 11000 + k9 := fun k9 hi9 => ⟨(fm637 k9 hi9).1, wd_at.pt ew643 (fm637 k9 hi9).2.1 (tg_ne (fm637 k9 hi9).2.2 t636 (tnA (show 10000 < 11000 by decide))), (fm637 k9 hi9).2.2⟩
  have fm647 : ∀ k9, k9 < 12 → qw k9 = some (wr k9) ∧ wd_at w642 (wr k9) (.inl (cy 2, 12, .inl (fw k9))) ∧ tg634 (wr k9) = 12000 + k9 := fun k9 hi9 => ⟨(fm638 k9 hi9).1, wd_at.pt ew643 (fm638 k9 hi9).2.1 (tg_ne (fm638 k9 hi9).2.2 t636 (tnA (show 10000 < 12000 by decide))), (fm638 k9 hi9).2.2⟩
  have fm648 : ∀ k9, k9 < 60 → qs k9 = some (sr k9) ∧ wd_at w642 (sr k9) (.inl (cy 2, 12, .inl (fs k9))) ∧ tg634 (sr k9) = 13000 + k9 := fun k9 hi9 => ⟨(fm639 k9 hi9).1, wd_at.pt ew643 (fm639 k9 hi9).2.1 (tg_ne (fm639 k9 hi9).2.2 t636 (tnA (show 10000 < 13000 by decide))), (fm639 k9 hi9).2.2⟩
  have kp649 := kp633.put ew643 sy
  have hb9650 := bnd.pt ew643 t636 hb9641
  have hb9651 := bnd.cons hb9650 k645 (tgN et635) (show 10000 < 10132 by decide)
  refine lv_aload_n hx hb dX11_init_212 rfl (lv_at hl 0 rfl) ?_
  refine lv_sipush (v := 936) hx hb dX11_init_213 (by decide) ?_
  refine y_newI (N := 936) F hP hD hS (List.mem_cons_of_mem _ (List.mem_append_left _ (List.mem_append_left _ (List.mem_of_getElem? (i := 4) rfl)))) (by decide) (by decide) (by decide) (Nat.le_of_ble_eq_true rfl) (Nat.le_of_ble_eq_true rfl) dX11_init_216 (fun m33 w652 ew653 hq654 H hP hD hS => ?_)
  refine W.widen (k := 109) (n := 4194) (Nat.le_of_ble_eq_true rfl) (Nat.le_of_ble_eq_true rfl) ?_
  have k655 := wd_at.ad ew653 hq654 k644
  have k656 : wd_at w652 m33 (.inl (cy 2, 936, .inl (fun _ => 0))) := wd_at.nw ew653
  have fm657 : ∀ k9, k9 < 12 → qp k9 = some (pr k9) ∧ wd_at w652 (pr k9) (.inl (cy 2, 12, .inl (fp k9))) ∧ tg634 (pr k9) = 11000 + k9 := fun k9 hi9 => ⟨(fm646 k9 hi9).1, wd_at.ad ew653 hq654 (fm646 k9 hi9).2.1, (fm646 k9 hi9).2.2⟩
  have fn658 : ∀ k9, k9 < 12 → (pr k9) ≠ m33 := fun k9 hi9 => wd_nL hq654 (fm646 k9 hi9).2.1
  have fm659 : ∀ k9, k9 < 12 → qw k9 = some (wr k9) ∧ wd_at w652 (wr k9) (.inl (cy 2, 12, .inl (fw k9))) ∧ tg634 (wr k9) = 12000 + k9 := fun k9 hi9 => ⟨(fm647 k9 hi9).1, wd_at.ad ew653 hq654 (fm647 k9 hi9).2.1, (fm647 k9 hi9).2.2⟩
  have fn660 : ∀ k9, k9 < 12 → (wr k9) ≠ m33 := fun k9 hi9 => wd_nL hq654 (fm647 k9 hi9).2.1
  have fm661 : ∀ k9, k9 < 60 → qs k9 = some (sr k9) ∧ wd_at w652 (sr k9) (.inl (cy 2, 12, .inl (fs k9))) ∧ tg634 (sr k9) = 13000 + k9 := fun k9 hi9 => ⟨(fm648 k9 hi9).1, wd_at.ad ew653 hq654 (fm648 k9 hi9).2.1, (fm648 k9 hi9).2.2⟩
  have fn662 : ∀ k9, k9 < 60 → (sr k9) ≠ m33 := fun k9 hi9 => wd_nL hq654 (fm648 k9 hi9).2.1
  have kp663 := kp649.add ew653 hq654
  obtain ⟨tg664, et665⟩ : ∃ f : Nat → Nat, f = va_up tg634 m33 (10133) := ⟨_, rfl⟩
  have t666 := tgX et665 (wd_nL hq654 k644) t636
  have fm667 : ∀ k9, k9 < 12 → qp k9 = some (pr k9) ∧ wd_at w652 (pr k9) (.inl (cy 2, 12, .inl (fp k9))) ∧ tg664 (pr k9) = 11000 + k9 := fun k9 hi9 => ⟨(fm657 k9 hi9).1, (fm657 k9 hi9).2.1, tgX et665 (fn658 k9 hi9) (fm657 k9 hi9).2.2⟩
  have fm668 : ∀ k9, k9 < 12 → qw k9 = some (wr k9) ∧ wd_at w652 (wr k9) (.inl (cy 2, 12, .inl (fw k9))) ∧ tg664 (wr k9) = 12000 + k9 := fun k9 hi9 => ⟨(fm659 k9 hi9).1, (fm659 k9 hi9).2.1, tgX et665 (fn660 k9 hi9) (fm659 k9 hi9).2.2⟩
  have fm669 : ∀ k9, k9 < 60 → qs k9 = some (sr k9) ∧ wd_at w652 (sr k9) (.inl (cy 2, 12, .inl (fs k9))) ∧ tg664 (sr k9) = 13000 + k9 := fun k9 hi9 => ⟨(fm661 k9 hi9).1, (fm661 k9 hi9).2.1, tgX et665 (fn662 k9 hi9) (fm661 k9 hi9).2.2⟩
  have hext670 := tgE et665 (kp649.out hq654) hext640
  have hb9671 := bnd.ad ew653 hq654 et665 hb9651
  refine y_putF (ref := "NoteHouseModel") F hP hD hS k655 rfl (fun _ h => List.mem_cons_of_mem _ (List.mem_append_right _ (h))) tyX11_ok nmX11 hnm 33 (Nat.le_of_ble_eq_true rfl) (List.mem_cons_of_mem _ (List.mem_append_left _ (List.mem_append_right _ (List.mem_append_left _ (List.mem_of_getElem? (i := 7) rfl))))) rfl rfl rfl rfl rfl (Nat.le_of_ble_eq_true rfl) dX11_init_218 (fun w672 ew673 H locs hP hD hS => ?_)
  have k674 : wd_at w672 y (.inr (11, [.int 0, .int 0, .ref m2, .ref m3, .ref m4, .ref m5, .ref m6, .int 0, .ref m8, .ref m9, .ref m10, .ref m11, .ref m12, .ref m13, .ref m14, .int 0, .int 0, .ref m17, .ref m18, .ref m19, .ref m20, .ref m21, .ref m22, .ref m23, .ref m24, .int 0, .int 0, .int 0, .int 0, .ref m29, .ref m30, .ref m31, .ref m32, .ref m33, .null, .null, .null, .null, .int 0, .null, .null, .null, .null, .null, .null, .null, .null, .null, .null, .null, .int 0, .null, .null, .null, .null, .int 0, .null, .null, .null, .null])) := wd_at.ps ew673 k655
  have k675 := wd_at.pt ew673 k656 (tg_ne (tgN et665) t666 (by decide))
  have fm676 : ∀ k9, k9 < 12 → qp k9 = some (pr k9) ∧ wd_at w672 (pr k9) (.inl (cy 2, 12, .inl (fp k9))) ∧ tg664 (pr k9) = 11000 + k9 := fun k9 hi9 => ⟨(fm667 k9 hi9).1, wd_at.pt ew673 (fm667 k9 hi9).2.1 (tg_ne (fm667 k9 hi9).2.2 t666 (tnA (show 10000 < 11000 by decide))), (fm667 k9 hi9).2.2⟩
  have fm677 : ∀ k9, k9 < 12 → qw k9 = some (wr k9) ∧ wd_at w672 (wr k9) (.inl (cy 2, 12, .inl (fw k9))) ∧ tg664 (wr k9) = 12000 + k9 := fun k9 hi9 => ⟨(fm668 k9 hi9).1, wd_at.pt ew673 (fm668 k9 hi9).2.1 (tg_ne (fm668 k9 hi9).2.2 t666 (tnA (show 10000 < 12000 by decide))), (fm668 k9 hi9).2.2⟩
  have fm678 : ∀ k9, k9 < 60 → qs k9 = some (sr k9) ∧ wd_at w672 (sr k9) (.inl (cy 2, 12, .inl (fs k9))) ∧ tg664 (sr k9) = 13000 + k9 := fun k9 hi9 => ⟨(fm669 k9 hi9).1, wd_at.pt ew673 (fm669 k9 hi9).2.1 (tg_ne (fm669 k9 hi9).2.2 t666 (tnA (show 10000 < 13000 by decide))), (fm669 k9 hi9).2.2⟩
  have kp679 := kp663.put ew673 sy
  have hb9680 := bnd.pt ew673 t666 hb9671
  have hb9681 := bnd.cons hb9680 k675 (tgN et665) (show 10000 < 10133 by decide)
  refine lv_aload_n hx hb dX11_init_221 rfl (lv_at hl 0 rfl) ?_
  refine lv_sipush (v := 936) hx hb dX11_init_222 (by decide) ?_
  refine y_newI (N := 936) F hP hD hS (List.mem_cons_of_mem _ (List.mem_append_left _ (List.mem_append_left _ (List.mem_of_getElem? (i := 4) rfl)))) (by decide) (by decide) (by decide) (Nat.le_of_ble_eq_true rfl) (Nat.le_of_ble_eq_true rfl) dX11_init_225 (fun m34 w682 ew683 hq684 H hP hD hS => ?_)
  refine W.widen (k := 110) (n := 5130) (Nat.le_of_ble_eq_true rfl) (Nat.le_of_ble_eq_true rfl) ?_
  have k685 := wd_at.ad ew683 hq684 k674
  have k686 : wd_at w682 m34 (.inl (cy 2, 936, .inl (fun _ => 0))) := wd_at.nw ew683
  have fm687 : ∀ k9, k9 < 12 → qp k9 = some (pr k9) ∧ wd_at w682 (pr k9) (.inl (cy 2, 12, .inl (fp k9))) ∧ tg664 (pr k9) = 11000 + k9 := fun k9 hi9 => ⟨(fm676 k9 hi9).1, wd_at.ad ew683 hq684 (fm676 k9 hi9).2.1, (fm676 k9 hi9).2.2⟩
  have fn688 : ∀ k9, k9 < 12 → (pr k9) ≠ m34 := fun k9 hi9 => wd_nL hq684 (fm676 k9 hi9).2.1
  have fm689 : ∀ k9, k9 < 12 → qw k9 = some (wr k9) ∧ wd_at w682 (wr k9) (.inl (cy 2, 12, .inl (fw k9))) ∧ tg664 (wr k9) = 12000 + k9 := fun k9 hi9 => ⟨(fm677 k9 hi9).1, wd_at.ad ew683 hq684 (fm677 k9 hi9).2.1, (fm677 k9 hi9).2.2⟩
  have fn690 : ∀ k9, k9 < 12 → (wr k9) ≠ m34 := fun k9 hi9 => wd_nL hq684 (fm677 k9 hi9).2.1
  have fm691 : ∀ k9, k9 < 60 → qs k9 = some (sr k9) ∧ wd_at w682 (sr k9) (.inl (cy 2, 12, .inl (fs k9))) ∧ tg664 (sr k9) = 13000 + k9 := fun k9 hi9 => ⟨(fm678 k9 hi9).1, wd_at.ad ew683 hq684 (fm678 k9 hi9).2.1, (fm678 k9 hi9).2.2⟩
  have fn692 : ∀ k9, k9 < 60 → (sr k9) ≠ m34 := fun k9 hi9 => wd_nL hq684 (fm678 k9 hi9).2.1
  have kp693 := kp679.add ew683 hq684
  obtain ⟨tg694, et695⟩ : ∃ f : Nat → Nat, f = va_up tg664 m34 (10134) := ⟨_, rfl⟩
  have t696 := tgX et695 (wd_nL hq684 k674) t666
  have fm697 : ∀ k9, k9 < 12 → qp k9 = some (pr k9) ∧ wd_at w682 (pr k9) (.inl (cy 2, 12, .inl (fp k9))) ∧ tg694 (pr k9) = 11000 + k9 := fun k9 hi9 => ⟨(fm687 k9 hi9).1, (fm687 k9 hi9).2.1, tgX et695 (fn688 k9 hi9) (fm687 k9 hi9).2.2⟩
  have fm698 : ∀ k9, k9 < 12 → qw k9 = some (wr k9) ∧ wd_at w682 (wr k9) (.inl (cy 2, 12, .inl (fw k9))) ∧ tg694 (wr k9) = 12000 + k9 := fun k9 hi9 => ⟨(fm689 k9 hi9).1, (fm689 k9 hi9).2.1, tgX et695 (fn690 k9 hi9) (fm689 k9 hi9).2.2⟩
  have fm699 : ∀ k9, k9 < 60 → qs k9 = some (sr k9) ∧ wd_at w682 (sr k9) (.inl (cy 2, 12, .inl (fs k9))) ∧ tg694 (sr k9) = 13000 + k9 := fun k9 hi9 => ⟨(fm691 k9 hi9).1, (fm691 k9 hi9).2.1, tgX et695 (fn692 k9 hi9) (fm691 k9 hi9).2.2⟩
  have hext700 := tgE et695 (kp679.out hq684) hext670
  have hb9701 := bnd.ad ew683 hq684 et695 hb9681
  refine y_putF (ref := "NoteHouseModel") F hP hD hS k685 rfl (fun _ h => List.mem_cons_of_mem _ (List.mem_append_right _ (h))) tyX11_ok nmX11 hnm 34 (Nat.le_of_ble_eq_true rfl) (List.mem_cons_of_mem _ (List.mem_append_left _ (List.mem_append_right _ (List.mem_append_left _ (List.mem_of_getElem? (i := 8) rfl))))) rfl rfl rfl rfl rfl (Nat.le_of_ble_eq_true rfl) dX11_init_227 (fun w702 ew703 H locs hP hD hS => ?_)
  have k704 : wd_at w702 y (.inr (11, [.int 0, .int 0, .ref m2, .ref m3, .ref m4, .ref m5, .ref m6, .int 0, .ref m8, .ref m9, .ref m10, .ref m11, .ref m12, .ref m13, .ref m14, .int 0, .int 0, .ref m17, .ref m18, .ref m19, .ref m20, .ref m21, .ref m22, .ref m23, .ref m24, .int 0, .int 0, .int 0, .int 0, .ref m29, .ref m30, .ref m31, .ref m32, .ref m33, .ref m34, .null, .null, .null, .int 0, .null, .null, .null, .null, .null, .null, .null, .null, .null, .null, .null, .int 0, .null, .null, .null, .null, .int 0, .null, .null, .null, .null])) := wd_at.ps ew703 k685
  have k705 := wd_at.pt ew703 k686 (tg_ne (tgN et695) t696 (by decide))
  have fm706 : ∀ k9, k9 < 12 → qp k9 = some (pr k9) ∧ wd_at w702 (pr k9) (.inl (cy 2, 12, .inl (fp k9))) ∧ tg694 (pr k9) = 11000 + k9 := fun k9 hi9 => ⟨(fm697 k9 hi9).1, wd_at.pt ew703 (fm697 k9 hi9).2.1 (tg_ne (fm697 k9 hi9).2.2 t696 (tnA (show 10000 < 11000 by decide))), (fm697 k9 hi9).2.2⟩
  have fm707 : ∀ k9, k9 < 12 → qw k9 = some (wr k9) ∧ wd_at w702 (wr k9) (.inl (cy 2, 12, .inl (fw k9))) ∧ tg694 (wr k9) = 12000 + k9 := fun k9 hi9 => ⟨(fm698 k9 hi9).1, wd_at.pt ew703 (fm698 k9 hi9).2.1 (tg_ne (fm698 k9 hi9).2.2 t696 (tnA (show 10000 < 12000 by decide))), (fm698 k9 hi9).2.2⟩
  have fm708 : ∀ k9, k9 < 60 → qs k9 = some (sr k9) ∧ wd_at w702 (sr k9) (.inl (cy 2, 12, .inl (fs k9))) ∧ tg694 (sr k9) = 13000 + k9 := fun k9 hi9 => ⟨(fm699 k9 hi9).1, wd_at.pt ew703 (fm699 k9 hi9).2.1 (tg_ne (fm699 k9 hi9).2.2 t696 (tnA (show 10000 < 13000 by decide))), (fm699 k9 hi9).2.2⟩
  have kp709 := kp693.put ew703 sy
  have hb9710 := bnd.pt ew703 t696 hb9701
  have hb9711 := bnd.cons hb9710 k705 (tgN et695) (show 10000 < 10134 by decide)
  refine lv_aload_n hx hb dX11_init_230 rfl (lv_at hl 0 rfl) ?_
  refine lv_iconst (v := 5) hx hb dX11_init_231 (by decide) ?_
  refine y_newI (N := 5) F hP hD hS (List.mem_cons_of_mem _ (List.mem_append_left _ (List.mem_append_left _ (List.mem_of_getElem? (i := 4) rfl)))) (by decide) (by decide) (by decide) (Nat.le_of_ble_eq_true rfl) (Nat.le_of_ble_eq_true rfl) dX11_init_232 (fun m35 w712 ew713 hq714 H hP hD hS => ?_)
  refine W.widen (k := 111) (n := 5135) (Nat.le_of_ble_eq_true rfl) (Nat.le_of_ble_eq_true rfl) ?_
  have k715 := wd_at.ad ew713 hq714 k704
  have k716 : wd_at w712 m35 (.inl (cy 2, 5, .inl (fun _ => 0))) := wd_at.nw ew713
  have fm717 : ∀ k9, k9 < 12 → qp k9 = some (pr k9) ∧ wd_at w712 (pr k9) (.inl (cy 2, 12, .inl (fp k9))) ∧ tg694 (pr k9) = 11000 + k9 := fun k9 hi9 => ⟨(fm706 k9 hi9).1, wd_at.ad ew713 hq714 (fm706 k9 hi9).2.1, (fm706 k9 hi9).2.2⟩
  have fn718 : ∀ k9, k9 < 12 → (pr k9) ≠ m35 := fun k9 hi9 => wd_nL hq714 (fm706 k9 hi9).2.1
  have fm719 : ∀ k9, k9 < 12 → qw k9 = some (wr k9) ∧ wd_at w712 (wr k9) (.inl (cy 2, 12, .inl (fw k9))) ∧ tg694 (wr k9) = 12000 + k9 := fun k9 hi9 => ⟨(fm707 k9 hi9).1, wd_at.ad ew713 hq714 (fm707 k9 hi9).2.1, (fm707 k9 hi9).2.2⟩
  have fn720 : ∀ k9, k9 < 12 → (wr k9) ≠ m35 := fun k9 hi9 => wd_nL hq714 (fm707 k9 hi9).2.1
  have fm721 : ∀ k9, k9 < 60 → qs k9 = some (sr k9) ∧ wd_at w712 (sr k9) (.inl (cy 2, 12, .inl (fs k9))) ∧ tg694 (sr k9) = 13000 + k9 := fun k9 hi9 => ⟨(fm708 k9 hi9).1, wd_at.ad ew713 hq714 (fm708 k9 hi9).2.1, (fm708 k9 hi9).2.2⟩
  have fn722 : ∀ k9, k9 < 60 → (sr k9) ≠ m35 := fun k9 hi9 => wd_nL hq714 (fm708 k9 hi9).2.1
  have kp723 := kp709.add ew713 hq714
  obtain ⟨tg724, et725⟩ : ∃ f : Nat → Nat, f = va_up tg694 m35 (10135) := ⟨_, rfl⟩
  have t726 := tgX et725 (wd_nL hq714 k704) t696
  have fm727 : ∀ k9, k9 < 12 → qp k9 = some (pr k9) ∧ wd_at w712 (pr k9) (.inl (cy 2, 12, .inl (fp k9))) ∧ tg724 (pr k9) = 11000 + k9 := fun k9 hi9 => ⟨(fm717 k9 hi9).1, (fm717 k9 hi9).2.1, tgX et725 (fn718 k9 hi9) (fm717 k9 hi9).2.2⟩
  have fm728 : ∀ k9, k9 < 12 → qw k9 = some (wr k9) ∧ wd_at w712 (wr k9) (.inl (cy 2, 12, .inl (fw k9))) ∧ tg724 (wr k9) = 12000 + k9 := fun k9 hi9 => ⟨(fm719 k9 hi9).1, (fm719 k9 hi9).2.1, tgX et725 (fn720 k9 hi9) (fm719 k9 hi9).2.2⟩
  have fm729 : ∀ k9, k9 < 60 → qs k9 = some (sr k9) ∧ wd_at w712 (sr k9) (.inl (cy 2, 12, .inl (fs k9))) ∧ tg724 (sr k9) = 13000 + k9 := fun k9 hi9 => ⟨(fm721 k9 hi9).1, (fm721 k9 hi9).2.1, tgX et725 (fn722 k9 hi9) (fm721 k9 hi9).2.2⟩
  have hext730 := tgE et725 (kp709.out hq714) hext700
  have hb9731 := bnd.ad ew713 hq714 et725 hb9711
  refine y_putF (ref := "NoteHouseModel") F hP hD hS k715 rfl (fun _ h => List.mem_cons_of_mem _ (List.mem_append_right _ (h))) tyX11_ok nmX11 hnm 35 (Nat.le_of_ble_eq_true rfl) (List.mem_cons_of_mem _ (List.mem_append_left _ (List.mem_append_right _ (List.mem_append_left _ (List.mem_of_getElem? (i := 9) rfl))))) rfl rfl rfl rfl rfl (Nat.le_of_ble_eq_true rfl) dX11_init_234 (fun w732 ew733 H locs hP hD hS => ?_)
  have k734 : wd_at w732 y (.inr (11, [.int 0, .int 0, .ref m2, .ref m3, .ref m4, .ref m5, .ref m6, .int 0, .ref m8, .ref m9, .ref m10, .ref m11, .ref m12, .ref m13, .ref m14, .int 0, .int 0, .ref m17, .ref m18, .ref m19, .ref m20, .ref m21, .ref m22, .ref m23, .ref m24, .int 0, .int 0, .int 0, .int 0, .ref m29, .ref m30, .ref m31, .ref m32, .ref m33, .ref m34, .ref m35, .null, .null, .int 0, .null, .null, .null, .null, .null, .null, .null, .null, .null, .null, .null, .int 0, .null, .null, .null, .null, .int 0, .null, .null, .null, .null])) := wd_at.ps ew733 k715
  have k735 := wd_at.pt ew733 k716 (tg_ne (tgN et725) t726 (by decide))
  have fm736 : ∀ k9, k9 < 12 → qp k9 = some (pr k9) ∧ wd_at w732 (pr k9) (.inl (cy 2, 12, .inl (fp k9))) ∧ tg724 (pr k9) = 11000 + k9 := fun k9 hi9 => ⟨(fm727 k9 hi9).1, wd_at.pt ew733 (fm727 k9 hi9).2.1 (tg_ne (fm727 k9 hi9).2.2 t726 (tnA (show 10000 < 11000 by decide))), (fm727 k9 hi9).2.2⟩
  have fm737 : ∀ k9, k9 < 12 → qw k9 = some (wr k9) ∧ wd_at w732 (wr k9) (.inl (cy 2, 12, .inl (fw k9))) ∧ tg724 (wr k9) = 12000 + k9 := fun k9 hi9 => ⟨(fm728 k9 hi9).1, wd_at.pt ew733 (fm728 k9 hi9).2.1 (tg_ne (fm728 k9 hi9).2.2 t726 (tnA (show 10000 < 12000 by decide))), (fm728 k9 hi9).2.2⟩
  have fm738 : ∀ k9, k9 < 60 → qs k9 = some (sr k9) ∧ wd_at w732 (sr k9) (.inl (cy 2, 12, .inl (fs k9))) ∧ tg724 (sr k9) = 13000 + k9 := fun k9 hi9 => ⟨(fm729 k9 hi9).1, wd_at.pt ew733 (fm729 k9 hi9).2.1 (tg_ne (fm729 k9 hi9).2.2 t726 (tnA (show 10000 < 13000 by decide))), (fm729 k9 hi9).2.2⟩
  have kp739 := kp723.put ew733 sy
  have hb9740 := bnd.pt ew733 t726 hb9731
  have hb9741 := bnd.cons hb9740 k735 (tgN et725) (show 10000 < 10135 by decide)
  refine lv_aload_n hx hb dX11_init_237 rfl (lv_at hl 0 rfl) ?_
  refine lv_iconst (v := 5) hx hb dX11_init_238 (by decide) ?_
  refine y_newZ (N := 5) F hP hD hS (List.mem_cons_of_mem _ (List.mem_append_left _ (List.mem_append_left _ (List.mem_of_getElem? (i := 20) rfl)))) (by decide) (by decide) (by decide) (Nat.le_of_ble_eq_true rfl) (Nat.le_of_ble_eq_true rfl) dX11_init_239 (fun m36 w742 ew743 hq744 H hP hD hS => ?_)
  refine W.widen (k := 112) (n := 5140) (Nat.le_of_ble_eq_true rfl) (Nat.le_of_ble_eq_true rfl) ?_
  have k745 := wd_at.ad ew743 hq744 k734
  have k746 : wd_at w742 m36 (.inl (cy 4, 5, .inl (fun _ => 0))) := wd_at.nw ew743
  have fm747 : ∀ k9, k9 < 12 → qp k9 = some (pr k9) ∧ wd_at w742 (pr k9) (.inl (cy 2, 12, .inl (fp k9))) ∧ tg724 (pr k9) = 11000 + k9 := fun k9 hi9 => ⟨(fm736 k9 hi9).1, wd_at.ad ew743 hq744 (fm736 k9 hi9).2.1, (fm736 k9 hi9).2.2⟩
  have fn748 : ∀ k9, k9 < 12 → (pr k9) ≠ m36 := fun k9 hi9 => wd_nL hq744 (fm736 k9 hi9).2.1
  have fm749 : ∀ k9, k9 < 12 → qw k9 = some (wr k9) ∧ wd_at w742 (wr k9) (.inl (cy 2, 12, .inl (fw k9))) ∧ tg724 (wr k9) = 12000 + k9 := fun k9 hi9 => ⟨(fm737 k9 hi9).1, wd_at.ad ew743 hq744 (fm737 k9 hi9).2.1, (fm737 k9 hi9).2.2⟩
  have fn750 : ∀ k9, k9 < 12 → (wr k9) ≠ m36 := fun k9 hi9 => wd_nL hq744 (fm737 k9 hi9).2.1
  have fm751 : ∀ k9, k9 < 60 → qs k9 = some (sr k9) ∧ wd_at w742 (sr k9) (.inl (cy 2, 12, .inl (fs k9))) ∧ tg724 (sr k9) = 13000 + k9 := fun k9 hi9 => ⟨(fm738 k9 hi9).1, wd_at.ad ew743 hq744 (fm738 k9 hi9).2.1, (fm738 k9 hi9).2.2⟩
  have fn752 : ∀ k9, k9 < 60 → (sr k9) ≠ m36 := fun k9 hi9 => wd_nL hq744 (fm738 k9 hi9).2.1
  have kp753 := kp739.add ew743 hq744
  obtain ⟨tg754, et755⟩ : ∃ f : Nat → Nat, f = va_up tg724 m36 (10136) := ⟨_, rfl⟩
  have t756 := tgX et755 (wd_nL hq744 k734) t726
  have fm757 : ∀ k9, k9 < 12 → qp k9 = some (pr k9) ∧ wd_at w742 (pr k9) (.inl (cy 2, 12, .inl (fp k9))) ∧ tg754 (pr k9) = 11000 + k9 := fun k9 hi9 => ⟨(fm747 k9 hi9).1, (fm747 k9 hi9).2.1, tgX et755 (fn748 k9 hi9) (fm747 k9 hi9).2.2⟩
  have fm758 : ∀ k9, k9 < 12 → qw k9 = some (wr k9) ∧ wd_at w742 (wr k9) (.inl (cy 2, 12, .inl (fw k9))) ∧ tg754 (wr k9) = 12000 + k9 := fun k9 hi9 => ⟨(fm749 k9 hi9).1, (fm749 k9 hi9).2.1, tgX et755 (fn750 k9 hi9) (fm749 k9 hi9).2.2⟩
  have fm759 : ∀ k9, k9 < 60 → qs k9 = some (sr k9) ∧ wd_at w742 (sr k9) (.inl (cy 2, 12, .inl (fs k9))) ∧ tg754 (sr k9) = 13000 + k9 := fun k9 hi9 => ⟨(fm751 k9 hi9).1, (fm751 k9 hi9).2.1, tgX et755 (fn752 k9 hi9) (fm751 k9 hi9).2.2⟩
  have hext760 := tgE et755 (kp739.out hq744) hext730
  have hb9761 := bnd.ad ew743 hq744 et755 hb9741
  refine y_putF (ref := "NoteHouseModel") F hP hD hS k745 rfl (fun _ h => List.mem_cons_of_mem _ (List.mem_append_right _ (h))) tyX11_ok nmX11 hnm 36 (Nat.le_of_ble_eq_true rfl) (List.mem_cons_of_mem _ (List.mem_append_left _ (List.mem_append_right _ (List.mem_append_left _ (List.mem_of_getElem? (i := 10) rfl))))) rfl rfl rfl rfl rfl (Nat.le_of_ble_eq_true rfl) dX11_init_241 (fun w762 ew763 H locs hP hD hS => ?_)
  have k764 : wd_at w762 y (.inr (11, [.int 0, .int 0, .ref m2, .ref m3, .ref m4, .ref m5, .ref m6, .int 0, .ref m8, .ref m9, .ref m10, .ref m11, .ref m12, .ref m13, .ref m14, .int 0, .int 0, .ref m17, .ref m18, .ref m19, .ref m20, .ref m21, .ref m22, .ref m23, .ref m24, .int 0, .int 0, .int 0, .int 0, .ref m29, .ref m30, .ref m31, .ref m32, .ref m33, .ref m34, .ref m35, .ref m36, .null, .int 0, .null, .null, .null, .null, .null, .null, .null, .null, .null, .null, .null, .int 0, .null, .null, .null, .null, .int 0, .null, .null, .null, .null])) := wd_at.ps ew763 k745
  have k765 := wd_at.pt ew763 k746 (tg_ne (tgN et755) t756 (by decide))
  have fm766 : ∀ k9, k9 < 12 → qp k9 = some (pr k9) ∧ wd_at w762 (pr k9) (.inl (cy 2, 12, .inl (fp k9))) ∧ tg754 (pr k9) = 11000 + k9 := fun k9 hi9 => ⟨(fm757 k9 hi9).1, wd_at.pt ew763 (fm757 k9 hi9).2.1 (tg_ne (fm757 k9 hi9).2.2 t756 (tnA (show 10000 < 11000 by decide))), (fm757 k9 hi9).2.2⟩
  have fm767 : ∀ k9, k9 < 12 → qw k9 = some (wr k9) ∧ wd_at w762 (wr k9) (.inl (cy 2, 12, .inl (fw k9))) ∧ tg754 (wr k9) = 12000 + k9 := fun k9 hi9 => ⟨(fm758 k9 hi9).1, wd_at.pt ew763 (fm758 k9 hi9).2.1 (tg_ne (fm758 k9 hi9).2.2 t756 (tnA (show 10000 < 12000 by decide))), (fm758 k9 hi9).2.2⟩
  have fm768 : ∀ k9, k9 < 60 → qs k9 = some (sr k9) ∧ wd_at w762 (sr k9) (.inl (cy 2, 12, .inl (fs k9))) ∧ tg754 (sr k9) = 13000 + k9 := fun k9 hi9 => ⟨(fm759 k9 hi9).1, wd_at.pt ew763 (fm759 k9 hi9).2.1 (tg_ne (fm759 k9 hi9).2.2 t756 (tnA (show 10000 < 13000 by decide))), (fm759 k9 hi9).2.2⟩
  have kp769 := kp753.put ew763 sy
  have hb9770 := bnd.pt ew763 t756 hb9761
  have hb9771 := bnd.cons hb9770 k765 (tgN et755) (show 10000 < 10136 by decide)
  refine lv_aload_n hx hb dX11_init_244 rfl (lv_at hl 0 rfl) ?_
  refine lv_iconst (v := 5) hx hb dX11_init_245 (by decide) ?_
  refine y_newI (N := 5) F hP hD hS (List.mem_cons_of_mem _ (List.mem_append_left _ (List.mem_append_left _ (List.mem_of_getElem? (i := 4) rfl)))) (by decide) (by decide) (by decide) (Nat.le_of_ble_eq_true rfl) (Nat.le_of_ble_eq_true rfl) dX11_init_246 (fun m37 w772 ew773 hq774 H hP hD hS => ?_)
  refine W.widen (k := 113) (n := 5145) (Nat.le_of_ble_eq_true rfl) (Nat.le_of_ble_eq_true rfl) ?_
  have k775 := wd_at.ad ew773 hq774 k764
  have k776 : wd_at w772 m37 (.inl (cy 2, 5, .inl (fun _ => 0))) := wd_at.nw ew773
  have fm777 : ∀ k9, k9 < 12 → qp k9 = some (pr k9) ∧ wd_at w772 (pr k9) (.inl (cy 2, 12, .inl (fp k9))) ∧ tg754 (pr k9) = 11000 + k9 := fun k9 hi9 => ⟨(fm766 k9 hi9).1, wd_at.ad ew773 hq774 (fm766 k9 hi9).2.1, (fm766 k9 hi9).2.2⟩
  have fn778 : ∀ k9, k9 < 12 → (pr k9) ≠ m37 := fun k9 hi9 => wd_nL hq774 (fm766 k9 hi9).2.1
  have fm779 : ∀ k9, k9 < 12 → qw k9 = some (wr k9) ∧ wd_at w772 (wr k9) (.inl (cy 2, 12, .inl (fw k9))) ∧ tg754 (wr k9) = 12000 + k9 := fun k9 hi9 => ⟨(fm767 k9 hi9).1, wd_at.ad ew773 hq774 (fm767 k9 hi9).2.1, (fm767 k9 hi9).2.2⟩
  have fn780 : ∀ k9, k9 < 12 → (wr k9) ≠ m37 := fun k9 hi9 => wd_nL hq774 (fm767 k9 hi9).2.1
  have fm781 : ∀ k9, k9 < 60 → qs k9 = some (sr k9) ∧ wd_at w772 (sr k9) (.inl (cy 2, 12, .inl (fs k9))) ∧ tg754 (sr k9) = 13000 + k9 := fun k9 hi9 => ⟨(fm768 k9 hi9).1, wd_at.ad ew773 hq774 (fm768 k9 hi9).2.1, (fm768 k9 hi9).2.2⟩
  have fn782 : ∀ k9, k9 < 60 → (sr k9) ≠ m37 := fun k9 hi9 => wd_nL hq774 (fm768 k9 hi9).2.1
  have kp783 := kp769.add ew773 hq774
  obtain ⟨tg784, et785⟩ : ∃ f : Nat → Nat, f = va_up tg754 m37 (10137) := ⟨_, rfl⟩
  have t786 := tgX et785 (wd_nL hq774 k764) t756
  have fm787 : ∀ k9, k9 < 12 → qp k9 = some (pr k9) ∧ wd_at w772 (pr k9) (.inl (cy 2, 12, .inl (fp k9))) ∧ tg784 (pr k9) = 11000 + k9 := fun k9 hi9 => ⟨(fm777 k9 hi9).1, (fm777 k9 hi9).2.1, tgX et785 (fn778 k9 hi9) (fm777 k9 hi9).2.2⟩
  have fm788 : ∀ k9, k9 < 12 → qw k9 = some (wr k9) ∧ wd_at w772 (wr k9) (.inl (cy 2, 12, .inl (fw k9))) ∧ tg784 (wr k9) = 12000 + k9 := fun k9 hi9 => ⟨(fm779 k9 hi9).1, (fm779 k9 hi9).2.1, tgX et785 (fn780 k9 hi9) (fm779 k9 hi9).2.2⟩
  have fm789 : ∀ k9, k9 < 60 → qs k9 = some (sr k9) ∧ wd_at w772 (sr k9) (.inl (cy 2, 12, .inl (fs k9))) ∧ tg784 (sr k9) = 13000 + k9 := fun k9 hi9 => ⟨(fm781 k9 hi9).1, (fm781 k9 hi9).2.1, tgX et785 (fn782 k9 hi9) (fm781 k9 hi9).2.2⟩
  have hext790 := tgE et785 (kp769.out hq774) hext760
  have hb9791 := bnd.ad ew773 hq774 et785 hb9771
  refine y_putF (ref := "NoteHouseModel") F hP hD hS k775 rfl (fun _ h => List.mem_cons_of_mem _ (List.mem_append_right _ (h))) tyX11_ok nmX11 hnm 37 (Nat.le_of_ble_eq_true rfl) (List.mem_cons_of_mem _ (List.mem_append_left _ (List.mem_append_right _ (List.mem_append_left _ (List.mem_of_getElem? (i := 11) rfl))))) rfl rfl rfl rfl rfl (Nat.le_of_ble_eq_true rfl) dX11_init_248 (fun w792 ew793 H locs hP hD hS => ?_)
  have k794 : wd_at w792 y (.inr (11, [.int 0, .int 0, .ref m2, .ref m3, .ref m4, .ref m5, .ref m6, .int 0, .ref m8, .ref m9, .ref m10, .ref m11, .ref m12, .ref m13, .ref m14, .int 0, .int 0, .ref m17, .ref m18, .ref m19, .ref m20, .ref m21, .ref m22, .ref m23, .ref m24, .int 0, .int 0, .int 0, .int 0, .ref m29, .ref m30, .ref m31, .ref m32, .ref m33, .ref m34, .ref m35, .ref m36, .ref m37, .int 0, .null, .null, .null, .null, .null, .null, .null, .null, .null, .null, .null, .int 0, .null, .null, .null, .null, .int 0, .null, .null, .null, .null])) := wd_at.ps ew793 k775
  have k795 := wd_at.pt ew793 k776 (tg_ne (tgN et785) t786 (by decide))
  have fm796 : ∀ k9, k9 < 12 → qp k9 = some (pr k9) ∧ wd_at w792 (pr k9) (.inl (cy 2, 12, .inl (fp k9))) ∧ tg784 (pr k9) = 11000 + k9 := fun k9 hi9 => ⟨(fm787 k9 hi9).1, wd_at.pt ew793 (fm787 k9 hi9).2.1 (tg_ne (fm787 k9 hi9).2.2 t786 (tnA (show 10000 < 11000 by decide))), (fm787 k9 hi9).2.2⟩
  have fm797 : ∀ k9, k9 < 12 → qw k9 = some (wr k9) ∧ wd_at w792 (wr k9) (.inl (cy 2, 12, .inl (fw k9))) ∧ tg784 (wr k9) = 12000 + k9 := fun k9 hi9 => ⟨(fm788 k9 hi9).1, wd_at.pt ew793 (fm788 k9 hi9).2.1 (tg_ne (fm788 k9 hi9).2.2 t786 (tnA (show 10000 < 12000 by decide))), (fm788 k9 hi9).2.2⟩
  have fm798 : ∀ k9, k9 < 60 → qs k9 = some (sr k9) ∧ wd_at w792 (sr k9) (.inl (cy 2, 12, .inl (fs k9))) ∧ tg784 (sr k9) = 13000 + k9 := fun k9 hi9 => ⟨(fm789 k9 hi9).1, wd_at.pt ew793 (fm789 k9 hi9).2.1 (tg_ne (fm789 k9 hi9).2.2 t786 (tnA (show 10000 < 13000 by decide))), (fm789 k9 hi9).2.2⟩
  have kp799 := kp783.put ew793 sy
  have hb9800 := bnd.pt ew793 t786 hb9791
  have hb9801 := bnd.cons hb9800 k795 (tgN et785) (show 10000 < 10137 by decide)
  refine lv_aload_n hx hb dX11_init_251 rfl (lv_at hl 0 rfl) ?_
  refine lv_sipush (v := 200) hx hb dX11_init_252 (by decide) ?_
  refine y_newI (N := 200) F hP hD hS (List.mem_cons_of_mem _ (List.mem_append_left _ (List.mem_append_left _ (List.mem_of_getElem? (i := 4) rfl)))) (by decide) (by decide) (by decide) (Nat.le_of_ble_eq_true rfl) (Nat.le_of_ble_eq_true rfl) dX11_init_255 (fun m39 w802 ew803 hq804 H hP hD hS => ?_)
  refine W.widen (k := 114) (n := 5345) (Nat.le_of_ble_eq_true rfl) (Nat.le_of_ble_eq_true rfl) ?_
  have k805 := wd_at.ad ew803 hq804 k794
  have k806 : wd_at w802 m39 (.inl (cy 2, 200, .inl (fun _ => 0))) := wd_at.nw ew803
  have fm807 : ∀ k9, k9 < 12 → qp k9 = some (pr k9) ∧ wd_at w802 (pr k9) (.inl (cy 2, 12, .inl (fp k9))) ∧ tg784 (pr k9) = 11000 + k9 := fun k9 hi9 => ⟨(fm796 k9 hi9).1, wd_at.ad ew803 hq804 (fm796 k9 hi9).2.1, (fm796 k9 hi9).2.2⟩
  have fn808 : ∀ k9, k9 < 12 → (pr k9) ≠ m39 := fun k9 hi9 => wd_nL hq804 (fm796 k9 hi9).2.1
  have fm809 : ∀ k9, k9 < 12 → qw k9 = some (wr k9) ∧ wd_at w802 (wr k9) (.inl (cy 2, 12, .inl (fw k9))) ∧ tg784 (wr k9) = 12000 + k9 := fun k9 hi9 => ⟨(fm797 k9 hi9).1, wd_at.ad ew803 hq804 (fm797 k9 hi9).2.1, (fm797 k9 hi9).2.2⟩
  have fn810 : ∀ k9, k9 < 12 → (wr k9) ≠ m39 := fun k9 hi9 => wd_nL hq804 (fm797 k9 hi9).2.1
  have fm811 : ∀ k9, k9 < 60 → qs k9 = some (sr k9) ∧ wd_at w802 (sr k9) (.inl (cy 2, 12, .inl (fs k9))) ∧ tg784 (sr k9) = 13000 + k9 := fun k9 hi9 => ⟨(fm798 k9 hi9).1, wd_at.ad ew803 hq804 (fm798 k9 hi9).2.1, (fm798 k9 hi9).2.2⟩
  have fn812 : ∀ k9, k9 < 60 → (sr k9) ≠ m39 := fun k9 hi9 => wd_nL hq804 (fm798 k9 hi9).2.1
  have kp813 := kp799.add ew803 hq804
  obtain ⟨tg814, et815⟩ : ∃ f : Nat → Nat, f = va_up tg784 m39 (10139) := ⟨_, rfl⟩
  have t816 := tgX et815 (wd_nL hq804 k794) t786
  have fm817 : ∀ k9, k9 < 12 → qp k9 = some (pr k9) ∧ wd_at w802 (pr k9) (.inl (cy 2, 12, .inl (fp k9))) ∧ tg814 (pr k9) = 11000 + k9 := fun k9 hi9 => ⟨(fm807 k9 hi9).1, (fm807 k9 hi9).2.1, tgX et815 (fn808 k9 hi9) (fm807 k9 hi9).2.2⟩
  have fm818 : ∀ k9, k9 < 12 → qw k9 = some (wr k9) ∧ wd_at w802 (wr k9) (.inl (cy 2, 12, .inl (fw k9))) ∧ tg814 (wr k9) = 12000 + k9 := fun k9 hi9 => ⟨(fm809 k9 hi9).1, (fm809 k9 hi9).2.1, tgX et815 (fn810 k9 hi9) (fm809 k9 hi9).2.2⟩
  have fm819 : ∀ k9, k9 < 60 → qs k9 = some (sr k9) ∧ wd_at w802 (sr k9) (.inl (cy 2, 12, .inl (fs k9))) ∧ tg814 (sr k9) = 13000 + k9 := fun k9 hi9 => ⟨(fm811 k9 hi9).1, (fm811 k9 hi9).2.1, tgX et815 (fn812 k9 hi9) (fm811 k9 hi9).2.2⟩
  have hext820 := tgE et815 (kp799.out hq804) hext790
  have hb9821 := bnd.ad ew803 hq804 et815 hb9801
  refine y_putF (ref := "NoteHouseModel") F hP hD hS k805 rfl (fun _ h => List.mem_cons_of_mem _ (List.mem_append_right _ (h))) tyX11_ok nmX11 hnm 39 (Nat.le_of_ble_eq_true rfl) (List.mem_cons_of_mem _ (List.mem_append_left _ (List.mem_append_right _ (List.mem_append_left _ (List.mem_of_getElem? (i := 12) rfl))))) rfl rfl rfl rfl rfl (Nat.le_of_ble_eq_true rfl) dX11_init_257 (fun w822 ew823 H locs hP hD hS => ?_)
  have k824 : wd_at w822 y (.inr (11, [.int 0, .int 0, .ref m2, .ref m3, .ref m4, .ref m5, .ref m6, .int 0, .ref m8, .ref m9, .ref m10, .ref m11, .ref m12, .ref m13, .ref m14, .int 0, .int 0, .ref m17, .ref m18, .ref m19, .ref m20, .ref m21, .ref m22, .ref m23, .ref m24, .int 0, .int 0, .int 0, .int 0, .ref m29, .ref m30, .ref m31, .ref m32, .ref m33, .ref m34, .ref m35, .ref m36, .ref m37, .int 0, .ref m39, .null, .null, .null, .null, .null, .null, .null, .null, .null, .null, .int 0, .null, .null, .null, .null, .int 0, .null, .null, .null, .null])) := wd_at.ps ew823 k805
  have k825 := wd_at.pt ew823 k806 (tg_ne (tgN et815) t816 (by decide))
  have fm826 : ∀ k9, k9 < 12 → qp k9 = some (pr k9) ∧ wd_at w822 (pr k9) (.inl (cy 2, 12, .inl (fp k9))) ∧ tg814 (pr k9) = 11000 + k9 := fun k9 hi9 => ⟨(fm817 k9 hi9).1, wd_at.pt ew823 (fm817 k9 hi9).2.1 (tg_ne (fm817 k9 hi9).2.2 t816 (tnA (show 10000 < 11000 by decide))), (fm817 k9 hi9).2.2⟩
  have fm827 : ∀ k9, k9 < 12 → qw k9 = some (wr k9) ∧ wd_at w822 (wr k9) (.inl (cy 2, 12, .inl (fw k9))) ∧ tg814 (wr k9) = 12000 + k9 := fun k9 hi9 => ⟨(fm818 k9 hi9).1, wd_at.pt ew823 (fm818 k9 hi9).2.1 (tg_ne (fm818 k9 hi9).2.2 t816 (tnA (show 10000 < 12000 by decide))), (fm818 k9 hi9).2.2⟩
  have fm828 : ∀ k9, k9 < 60 → qs k9 = some (sr k9) ∧ wd_at w822 (sr k9) (.inl (cy 2, 12, .inl (fs k9))) ∧ tg814 (sr k9) = 13000 + k9 := fun k9 hi9 => ⟨(fm819 k9 hi9).1, wd_at.pt ew823 (fm819 k9 hi9).2.1 (tg_ne (fm819 k9 hi9).2.2 t816 (tnA (show 10000 < 13000 by decide))), (fm819 k9 hi9).2.2⟩
  have kp829 := kp813.put ew823 sy
  have hb9830 := bnd.pt ew823 t816 hb9821
  have hb9831 := bnd.cons hb9830 k825 (tgN et815) (show 10000 < 10139 by decide)
  refine lv_aload_n hx hb dX11_init_260 rfl (lv_at hl 0 rfl) ?_
  refine lv_sipush (v := 200) hx hb dX11_init_261 (by decide) ?_
  refine y_newI (N := 200) F hP hD hS (List.mem_cons_of_mem _ (List.mem_append_left _ (List.mem_append_left _ (List.mem_of_getElem? (i := 4) rfl)))) (by decide) (by decide) (by decide) (Nat.le_of_ble_eq_true rfl) (Nat.le_of_ble_eq_true rfl) dX11_init_264 (fun m40 w832 ew833 hq834 H hP hD hS => ?_)
  refine W.widen (k := 115) (n := 5545) (Nat.le_of_ble_eq_true rfl) (Nat.le_of_ble_eq_true rfl) ?_
  have k835 := wd_at.ad ew833 hq834 k824
  have k836 : wd_at w832 m40 (.inl (cy 2, 200, .inl (fun _ => 0))) := wd_at.nw ew833
  have fm837 : ∀ k9, k9 < 12 → qp k9 = some (pr k9) ∧ wd_at w832 (pr k9) (.inl (cy 2, 12, .inl (fp k9))) ∧ tg814 (pr k9) = 11000 + k9 := fun k9 hi9 => ⟨(fm826 k9 hi9).1, wd_at.ad ew833 hq834 (fm826 k9 hi9).2.1, (fm826 k9 hi9).2.2⟩
  have fn838 : ∀ k9, k9 < 12 → (pr k9) ≠ m40 := fun k9 hi9 => wd_nL hq834 (fm826 k9 hi9).2.1
  have fm839 : ∀ k9, k9 < 12 → qw k9 = some (wr k9) ∧ wd_at w832 (wr k9) (.inl (cy 2, 12, .inl (fw k9))) ∧ tg814 (wr k9) = 12000 + k9 := fun k9 hi9 => ⟨(fm827 k9 hi9).1, wd_at.ad ew833 hq834 (fm827 k9 hi9).2.1, (fm827 k9 hi9).2.2⟩
  have fn840 : ∀ k9, k9 < 12 → (wr k9) ≠ m40 := fun k9 hi9 => wd_nL hq834 (fm827 k9 hi9).2.1
  have fm841 : ∀ k9, k9 < 60 → qs k9 = some (sr k9) ∧ wd_at w832 (sr k9) (.inl (cy 2, 12, .inl (fs k9))) ∧ tg814 (sr k9) = 13000 + k9 := fun k9 hi9 => ⟨(fm828 k9 hi9).1, wd_at.ad ew833 hq834 (fm828 k9 hi9).2.1, (fm828 k9 hi9).2.2⟩
  have fn842 : ∀ k9, k9 < 60 → (sr k9) ≠ m40 := fun k9 hi9 => wd_nL hq834 (fm828 k9 hi9).2.1
  have kp843 := kp829.add ew833 hq834
  obtain ⟨tg844, et845⟩ : ∃ f : Nat → Nat, f = va_up tg814 m40 (10140) := ⟨_, rfl⟩
  have t846 := tgX et845 (wd_nL hq834 k824) t816
  have fm847 : ∀ k9, k9 < 12 → qp k9 = some (pr k9) ∧ wd_at w832 (pr k9) (.inl (cy 2, 12, .inl (fp k9))) ∧ tg844 (pr k9) = 11000 + k9 := fun k9 hi9 => ⟨(fm837 k9 hi9).1, (fm837 k9 hi9).2.1, tgX et845 (fn838 k9 hi9) (fm837 k9 hi9).2.2⟩
  have fm848 : ∀ k9, k9 < 12 → qw k9 = some (wr k9) ∧ wd_at w832 (wr k9) (.inl (cy 2, 12, .inl (fw k9))) ∧ tg844 (wr k9) = 12000 + k9 := fun k9 hi9 => ⟨(fm839 k9 hi9).1, (fm839 k9 hi9).2.1, tgX et845 (fn840 k9 hi9) (fm839 k9 hi9).2.2⟩
  have fm849 : ∀ k9, k9 < 60 → qs k9 = some (sr k9) ∧ wd_at w832 (sr k9) (.inl (cy 2, 12, .inl (fs k9))) ∧ tg844 (sr k9) = 13000 + k9 := fun k9 hi9 => ⟨(fm841 k9 hi9).1, (fm841 k9 hi9).2.1, tgX et845 (fn842 k9 hi9) (fm841 k9 hi9).2.2⟩
  have hext850 := tgE et845 (kp829.out hq834) hext820
  have hb9851 := bnd.ad ew833 hq834 et845 hb9831
  refine y_putF (ref := "NoteHouseModel") F hP hD hS k835 rfl (fun _ h => List.mem_cons_of_mem _ (List.mem_append_right _ (h))) tyX11_ok nmX11 hnm 40 (Nat.le_of_ble_eq_true rfl) (List.mem_cons_of_mem _ (List.mem_append_left _ (List.mem_append_right _ (List.mem_append_left _ (List.mem_of_getElem? (i := 13) rfl))))) rfl rfl rfl rfl rfl (Nat.le_of_ble_eq_true rfl) dX11_init_266 (fun w852 ew853 H locs hP hD hS => ?_)
  have k854 : wd_at w852 y (.inr (11, [.int 0, .int 0, .ref m2, .ref m3, .ref m4, .ref m5, .ref m6, .int 0, .ref m8, .ref m9, .ref m10, .ref m11, .ref m12, .ref m13, .ref m14, .int 0, .int 0, .ref m17, .ref m18, .ref m19, .ref m20, .ref m21, .ref m22, .ref m23, .ref m24, .int 0, .int 0, .int 0, .int 0, .ref m29, .ref m30, .ref m31, .ref m32, .ref m33, .ref m34, .ref m35, .ref m36, .ref m37, .int 0, .ref m39, .ref m40, .null, .null, .null, .null, .null, .null, .null, .null, .null, .int 0, .null, .null, .null, .null, .int 0, .null, .null, .null, .null])) := wd_at.ps ew853 k835
  have k855 := wd_at.pt ew853 k836 (tg_ne (tgN et845) t846 (by decide))
  have fm856 : ∀ k9, k9 < 12 → qp k9 = some (pr k9) ∧ wd_at w852 (pr k9) (.inl (cy 2, 12, .inl (fp k9))) ∧ tg844 (pr k9) = 11000 + k9 := fun k9 hi9 => ⟨(fm847 k9 hi9).1, wd_at.pt ew853 (fm847 k9 hi9).2.1 (tg_ne (fm847 k9 hi9).2.2 t846 (tnA (show 10000 < 11000 by decide))), (fm847 k9 hi9).2.2⟩
  have fm857 : ∀ k9, k9 < 12 → qw k9 = some (wr k9) ∧ wd_at w852 (wr k9) (.inl (cy 2, 12, .inl (fw k9))) ∧ tg844 (wr k9) = 12000 + k9 := fun k9 hi9 => ⟨(fm848 k9 hi9).1, wd_at.pt ew853 (fm848 k9 hi9).2.1 (tg_ne (fm848 k9 hi9).2.2 t846 (tnA (show 10000 < 12000 by decide))), (fm848 k9 hi9).2.2⟩
  have fm858 : ∀ k9, k9 < 60 → qs k9 = some (sr k9) ∧ wd_at w852 (sr k9) (.inl (cy 2, 12, .inl (fs k9))) ∧ tg844 (sr k9) = 13000 + k9 := fun k9 hi9 => ⟨(fm849 k9 hi9).1, wd_at.pt ew853 (fm849 k9 hi9).2.1 (tg_ne (fm849 k9 hi9).2.2 t846 (tnA (show 10000 < 13000 by decide))), (fm849 k9 hi9).2.2⟩
  have kp859 := kp843.put ew853 sy
  have hb9860 := bnd.pt ew853 t846 hb9851
  have hb9861 := bnd.cons hb9860 k855 (tgN et845) (show 10000 < 10140 by decide)
  refine lv_aload_n hx hb dX11_init_269 rfl (lv_at hl 0 rfl) ?_
  refine lv_sipush (v := 200) hx hb dX11_init_270 (by decide) ?_
  refine y_newI (N := 200) F hP hD hS (List.mem_cons_of_mem _ (List.mem_append_left _ (List.mem_append_left _ (List.mem_of_getElem? (i := 4) rfl)))) (by decide) (by decide) (by decide) (Nat.le_of_ble_eq_true rfl) (Nat.le_of_ble_eq_true rfl) dX11_init_273 (fun m41 w862 ew863 hq864 H hP hD hS => ?_)
  refine W.widen (k := 116) (n := 5745) (Nat.le_of_ble_eq_true rfl) (Nat.le_of_ble_eq_true rfl) ?_
  have k865 := wd_at.ad ew863 hq864 k854
  have k866 : wd_at w862 m41 (.inl (cy 2, 200, .inl (fun _ => 0))) := wd_at.nw ew863
  have fm867 : ∀ k9, k9 < 12 → qp k9 = some (pr k9) ∧ wd_at w862 (pr k9) (.inl (cy 2, 12, .inl (fp k9))) ∧ tg844 (pr k9) = 11000 + k9 := fun k9 hi9 => ⟨(fm856 k9 hi9).1, wd_at.ad ew863 hq864 (fm856 k9 hi9).2.1, (fm856 k9 hi9).2.2⟩
  have fn868 : ∀ k9, k9 < 12 → (pr k9) ≠ m41 := fun k9 hi9 => wd_nL hq864 (fm856 k9 hi9).2.1
  have fm869 : ∀ k9, k9 < 12 → qw k9 = some (wr k9) ∧ wd_at w862 (wr k9) (.inl (cy 2, 12, .inl (fw k9))) ∧ tg844 (wr k9) = 12000 + k9 := fun k9 hi9 => ⟨(fm857 k9 hi9).1, wd_at.ad ew863 hq864 (fm857 k9 hi9).2.1, (fm857 k9 hi9).2.2⟩
  have fn870 : ∀ k9, k9 < 12 → (wr k9) ≠ m41 := fun k9 hi9 => wd_nL hq864 (fm857 k9 hi9).2.1
  have fm871 : ∀ k9, k9 < 60 → qs k9 = some (sr k9) ∧ wd_at w862 (sr k9) (.inl (cy 2, 12, .inl (fs k9))) ∧ tg844 (sr k9) = 13000 + k9 := fun k9 hi9 => ⟨(fm858 k9 hi9).1, wd_at.ad ew863 hq864 (fm858 k9 hi9).2.1, (fm858 k9 hi9).2.2⟩
  have fn872 : ∀ k9, k9 < 60 → (sr k9) ≠ m41 := fun k9 hi9 => wd_nL hq864 (fm858 k9 hi9).2.1
  have kp873 := kp859.add ew863 hq864
  obtain ⟨tg874, et875⟩ : ∃ f : Nat → Nat, f = va_up tg844 m41 (10141) := ⟨_, rfl⟩
  have t876 := tgX et875 (wd_nL hq864 k854) t846
  have fm877 : ∀ k9, k9 < 12 → qp k9 = some (pr k9) ∧ wd_at w862 (pr k9) (.inl (cy 2, 12, .inl (fp k9))) ∧ tg874 (pr k9) = 11000 + k9 := fun k9 hi9 => ⟨(fm867 k9 hi9).1, (fm867 k9 hi9).2.1, tgX et875 (fn868 k9 hi9) (fm867 k9 hi9).2.2⟩
  have fm878 : ∀ k9, k9 < 12 → qw k9 = some (wr k9) ∧ wd_at w862 (wr k9) (.inl (cy 2, 12, .inl (fw k9))) ∧ tg874 (wr k9) = 12000 + k9 := fun k9 hi9 => ⟨(fm869 k9 hi9).1, (fm869 k9 hi9).2.1, tgX et875 (fn870 k9 hi9) (fm869 k9 hi9).2.2⟩
  have fm879 : ∀ k9, k9 < 60 → qs k9 = some (sr k9) ∧ wd_at w862 (sr k9) (.inl (cy 2, 12, .inl (fs k9))) ∧ tg874 (sr k9) = 13000 + k9 := fun k9 hi9 => ⟨(fm871 k9 hi9).1, (fm871 k9 hi9).2.1, tgX et875 (fn872 k9 hi9) (fm871 k9 hi9).2.2⟩
  have hext880 := tgE et875 (kp859.out hq864) hext850
  have hb9881 := bnd.ad ew863 hq864 et875 hb9861
  refine y_putF (ref := "NoteHouseModel") F hP hD hS k865 rfl (fun _ h => List.mem_cons_of_mem _ (List.mem_append_right _ (h))) tyX11_ok nmX11 hnm 41 (Nat.le_of_ble_eq_true rfl) (List.mem_cons_of_mem _ (List.mem_append_left _ (List.mem_append_right _ (List.mem_append_left _ (List.mem_of_getElem? (i := 14) rfl))))) rfl rfl rfl rfl rfl (Nat.le_of_ble_eq_true rfl) dX11_init_275 (fun w882 ew883 H locs hP hD hS => ?_)
  have k884 : wd_at w882 y (.inr (11, [.int 0, .int 0, .ref m2, .ref m3, .ref m4, .ref m5, .ref m6, .int 0, .ref m8, .ref m9, .ref m10, .ref m11, .ref m12, .ref m13, .ref m14, .int 0, .int 0, .ref m17, .ref m18, .ref m19, .ref m20, .ref m21, .ref m22, .ref m23, .ref m24, .int 0, .int 0, .int 0, .int 0, .ref m29, .ref m30, .ref m31, .ref m32, .ref m33, .ref m34, .ref m35, .ref m36, .ref m37, .int 0, .ref m39, .ref m40, .ref m41, .null, .null, .null, .null, .null, .null, .null, .null, .int 0, .null, .null, .null, .null, .int 0, .null, .null, .null, .null])) := wd_at.ps ew883 k865
  have k885 := wd_at.pt ew883 k866 (tg_ne (tgN et875) t876 (by decide))
  have fm886 : ∀ k9, k9 < 12 → qp k9 = some (pr k9) ∧ wd_at w882 (pr k9) (.inl (cy 2, 12, .inl (fp k9))) ∧ tg874 (pr k9) = 11000 + k9 := fun k9 hi9 => ⟨(fm877 k9 hi9).1, wd_at.pt ew883 (fm877 k9 hi9).2.1 (tg_ne (fm877 k9 hi9).2.2 t876 (tnA (show 10000 < 11000 by decide))), (fm877 k9 hi9).2.2⟩
  have fm887 : ∀ k9, k9 < 12 → qw k9 = some (wr k9) ∧ wd_at w882 (wr k9) (.inl (cy 2, 12, .inl (fw k9))) ∧ tg874 (wr k9) = 12000 + k9 := fun k9 hi9 => ⟨(fm878 k9 hi9).1, wd_at.pt ew883 (fm878 k9 hi9).2.1 (tg_ne (fm878 k9 hi9).2.2 t876 (tnA (show 10000 < 12000 by decide))), (fm878 k9 hi9).2.2⟩
  have fm888 : ∀ k9, k9 < 60 → qs k9 = some (sr k9) ∧ wd_at w882 (sr k9) (.inl (cy 2, 12, .inl (fs k9))) ∧ tg874 (sr k9) = 13000 + k9 := fun k9 hi9 => ⟨(fm879 k9 hi9).1, wd_at.pt ew883 (fm879 k9 hi9).2.1 (tg_ne (fm879 k9 hi9).2.2 t876 (tnA (show 10000 < 13000 by decide))), (fm879 k9 hi9).2.2⟩
  have kp889 := kp873.put ew883 sy
  have hb9890 := bnd.pt ew883 t876 hb9881
  have hb9891 := bnd.cons hb9890 k885 (tgN et875) (show 10000 < 10141 by decide)
  refine lv_aload_n hx hb dX11_init_278 rfl (lv_at hl 0 rfl) ?_
  refine lv_sipush (v := 200) hx hb dX11_init_279 (by decide) ?_
  refine y_newI (N := 200) F hP hD hS (List.mem_cons_of_mem _ (List.mem_append_left _ (List.mem_append_left _ (List.mem_of_getElem? (i := 4) rfl)))) (by decide) (by decide) (by decide) (Nat.le_of_ble_eq_true rfl) (Nat.le_of_ble_eq_true rfl) dX11_init_282 (fun m42 w892 ew893 hq894 H hP hD hS => ?_)
  refine W.widen (k := 117) (n := 5945) (Nat.le_of_ble_eq_true rfl) (Nat.le_of_ble_eq_true rfl) ?_
  have k895 := wd_at.ad ew893 hq894 k884
  have k896 : wd_at w892 m42 (.inl (cy 2, 200, .inl (fun _ => 0))) := wd_at.nw ew893
  have fm897 : ∀ k9, k9 < 12 → qp k9 = some (pr k9) ∧ wd_at w892 (pr k9) (.inl (cy 2, 12, .inl (fp k9))) ∧ tg874 (pr k9) = 11000 + k9 := fun k9 hi9 => ⟨(fm886 k9 hi9).1, wd_at.ad ew893 hq894 (fm886 k9 hi9).2.1, (fm886 k9 hi9).2.2⟩
  have fn898 : ∀ k9, k9 < 12 → (pr k9) ≠ m42 := fun k9 hi9 => wd_nL hq894 (fm886 k9 hi9).2.1
  have fm899 : ∀ k9, k9 < 12 → qw k9 = some (wr k9) ∧ wd_at w892 (wr k9) (.inl (cy 2, 12, .inl (fw k9))) ∧ tg874 (wr k9) = 12000 + k9 := fun k9 hi9 => ⟨(fm887 k9 hi9).1, wd_at.ad ew893 hq894 (fm887 k9 hi9).2.1, (fm887 k9 hi9).2.2⟩
  have fn900 : ∀ k9, k9 < 12 → (wr k9) ≠ m42 := fun k9 hi9 => wd_nL hq894 (fm887 k9 hi9).2.1
  have fm901 : ∀ k9, k9 < 60 → qs k9 = some (sr k9) ∧ wd_at w892 (sr k9) (.inl (cy 2, 12, .inl (fs k9))) ∧ tg874 (sr k9) = 13000 + k9 := fun k9 hi9 => ⟨(fm888 k9 hi9).1, wd_at.ad ew893 hq894 (fm888 k9 hi9).2.1, (fm888 k9 hi9).2.2⟩
  have fn902 : ∀ k9, k9 < 60 → (sr k9) ≠ m42 := fun k9 hi9 => wd_nL hq894 (fm888 k9 hi9).2.1
  have kp903 := kp889.add ew893 hq894
  obtain ⟨tg904, et905⟩ : ∃ f : Nat → Nat, f = va_up tg874 m42 (10142) := ⟨_, rfl⟩
  have t906 := tgX et905 (wd_nL hq894 k884) t876
  have fm907 : ∀ k9, k9 < 12 → qp k9 = some (pr k9) ∧ wd_at w892 (pr k9) (.inl (cy 2, 12, .inl (fp k9))) ∧ tg904 (pr k9) = 11000 + k9 := fun k9 hi9 => ⟨(fm897 k9 hi9).1, (fm897 k9 hi9).2.1, tgX et905 (fn898 k9 hi9) (fm897 k9 hi9).2.2⟩
  have fm908 : ∀ k9, k9 < 12 → qw k9 = some (wr k9) ∧ wd_at w892 (wr k9) (.inl (cy 2, 12, .inl (fw k9))) ∧ tg904 (wr k9) = 12000 + k9 := fun k9 hi9 => ⟨(fm899 k9 hi9).1, (fm899 k9 hi9).2.1, tgX et905 (fn900 k9 hi9) (fm899 k9 hi9).2.2⟩
  have fm909 : ∀ k9, k9 < 60 → qs k9 = some (sr k9) ∧ wd_at w892 (sr k9) (.inl (cy 2, 12, .inl (fs k9))) ∧ tg904 (sr k9) = 13000 + k9 := fun k9 hi9 => ⟨(fm901 k9 hi9).1, (fm901 k9 hi9).2.1, tgX et905 (fn902 k9 hi9) (fm901 k9 hi9).2.2⟩
  have hext910 := tgE et905 (kp889.out hq894) hext880
  have hb9911 := bnd.ad ew893 hq894 et905 hb9891
  refine y_putF (ref := "NoteHouseModel") F hP hD hS k895 rfl (fun _ h => List.mem_cons_of_mem _ (List.mem_append_right _ (h))) tyX11_ok nmX11 hnm 42 (Nat.le_of_ble_eq_true rfl) (List.mem_cons_of_mem _ (List.mem_append_left _ (List.mem_append_right _ (List.mem_append_left _ (List.mem_of_getElem? (i := 15) rfl))))) rfl rfl rfl rfl rfl (Nat.le_of_ble_eq_true rfl) dX11_init_284 (fun w912 ew913 H locs hP hD hS => ?_)
  have k914 : wd_at w912 y (.inr (11, [.int 0, .int 0, .ref m2, .ref m3, .ref m4, .ref m5, .ref m6, .int 0, .ref m8, .ref m9, .ref m10, .ref m11, .ref m12, .ref m13, .ref m14, .int 0, .int 0, .ref m17, .ref m18, .ref m19, .ref m20, .ref m21, .ref m22, .ref m23, .ref m24, .int 0, .int 0, .int 0, .int 0, .ref m29, .ref m30, .ref m31, .ref m32, .ref m33, .ref m34, .ref m35, .ref m36, .ref m37, .int 0, .ref m39, .ref m40, .ref m41, .ref m42, .null, .null, .null, .null, .null, .null, .null, .int 0, .null, .null, .null, .null, .int 0, .null, .null, .null, .null])) := wd_at.ps ew913 k895
  have k915 := wd_at.pt ew913 k896 (tg_ne (tgN et905) t906 (by decide))
  have fm916 : ∀ k9, k9 < 12 → qp k9 = some (pr k9) ∧ wd_at w912 (pr k9) (.inl (cy 2, 12, .inl (fp k9))) ∧ tg904 (pr k9) = 11000 + k9 := fun k9 hi9 => ⟨(fm907 k9 hi9).1, wd_at.pt ew913 (fm907 k9 hi9).2.1 (tg_ne (fm907 k9 hi9).2.2 t906 (tnA (show 10000 < 11000 by decide))), (fm907 k9 hi9).2.2⟩
  have fm917 : ∀ k9, k9 < 12 → qw k9 = some (wr k9) ∧ wd_at w912 (wr k9) (.inl (cy 2, 12, .inl (fw k9))) ∧ tg904 (wr k9) = 12000 + k9 := fun k9 hi9 => ⟨(fm908 k9 hi9).1, wd_at.pt ew913 (fm908 k9 hi9).2.1 (tg_ne (fm908 k9 hi9).2.2 t906 (tnA (show 10000 < 12000 by decide))), (fm908 k9 hi9).2.2⟩
  have fm918 : ∀ k9, k9 < 60 → qs k9 = some (sr k9) ∧ wd_at w912 (sr k9) (.inl (cy 2, 12, .inl (fs k9))) ∧ tg904 (sr k9) = 13000 + k9 := fun k9 hi9 => ⟨(fm909 k9 hi9).1, wd_at.pt ew913 (fm909 k9 hi9).2.1 (tg_ne (fm909 k9 hi9).2.2 t906 (tnA (show 10000 < 13000 by decide))), (fm909 k9 hi9).2.2⟩
  have kp919 := kp903.put ew913 sy
  have hb9920 := bnd.pt ew913 t906 hb9911
  have hb9921 := bnd.cons hb9920 k915 (tgN et905) (show 10000 < 10142 by decide)
  refine lv_aload_n hx hb dX11_init_287 rfl (lv_at hl 0 rfl) ?_
  refine lv_sipush (v := 200) hx hb dX11_init_288 (by decide) ?_
  refine y_newI (N := 200) F hP hD hS (List.mem_cons_of_mem _ (List.mem_append_left _ (List.mem_append_left _ (List.mem_of_getElem? (i := 4) rfl)))) (by decide) (by decide) (by decide) (Nat.le_of_ble_eq_true rfl) (Nat.le_of_ble_eq_true rfl) dX11_init_291 (fun m43 w922 ew923 hq924 H hP hD hS => ?_)
  refine W.widen (k := 118) (n := 6145) (Nat.le_of_ble_eq_true rfl) (Nat.le_of_ble_eq_true rfl) ?_
  have k925 := wd_at.ad ew923 hq924 k914
  have k926 : wd_at w922 m43 (.inl (cy 2, 200, .inl (fun _ => 0))) := wd_at.nw ew923
  have fm927 : ∀ k9, k9 < 12 → qp k9 = some (pr k9) ∧ wd_at w922 (pr k9) (.inl (cy 2, 12, .inl (fp k9))) ∧ tg904 (pr k9) = 11000 + k9 := fun k9 hi9 => ⟨(fm916 k9 hi9).1, wd_at.ad ew923 hq924 (fm916 k9 hi9).2.1, (fm916 k9 hi9).2.2⟩
  have fn928 : ∀ k9, k9 < 12 → (pr k9) ≠ m43 := fun k9 hi9 => wd_nL hq924 (fm916 k9 hi9).2.1
  have fm929 : ∀ k9, k9 < 12 → qw k9 = some (wr k9) ∧ wd_at w922 (wr k9) (.inl (cy 2, 12, .inl (fw k9))) ∧ tg904 (wr k9) = 12000 + k9 := fun k9 hi9 => ⟨(fm917 k9 hi9).1, wd_at.ad ew923 hq924 (fm917 k9 hi9).2.1, (fm917 k9 hi9).2.2⟩
  have fn930 : ∀ k9, k9 < 12 → (wr k9) ≠ m43 := fun k9 hi9 => wd_nL hq924 (fm917 k9 hi9).2.1
  have fm931 : ∀ k9, k9 < 60 → qs k9 = some (sr k9) ∧ wd_at w922 (sr k9) (.inl (cy 2, 12, .inl (fs k9))) ∧ tg904 (sr k9) = 13000 + k9 := fun k9 hi9 => ⟨(fm918 k9 hi9).1, wd_at.ad ew923 hq924 (fm918 k9 hi9).2.1, (fm918 k9 hi9).2.2⟩
  have fn932 : ∀ k9, k9 < 60 → (sr k9) ≠ m43 := fun k9 hi9 => wd_nL hq924 (fm918 k9 hi9).2.1
  have kp933 := kp919.add ew923 hq924
  obtain ⟨tg934, et935⟩ : ∃ f : Nat → Nat, f = va_up tg904 m43 (10143) := ⟨_, rfl⟩
  have t936 := tgX et935 (wd_nL hq924 k914) t906
  have fm937 : ∀ k9, k9 < 12 → qp k9 = some (pr k9) ∧ wd_at w922 (pr k9) (.inl (cy 2, 12, .inl (fp k9))) ∧ tg934 (pr k9) = 11000 + k9 := fun k9 hi9 => ⟨(fm927 k9 hi9).1, (fm927 k9 hi9).2.1, tgX et935 (fn928 k9 hi9) (fm927 k9 hi9).2.2⟩
  have fm938 : ∀ k9, k9 < 12 → qw k9 = some (wr k9) ∧ wd_at w922 (wr k9) (.inl (cy 2, 12, .inl (fw k9))) ∧ tg934 (wr k9) = 12000 + k9 := fun k9 hi9 => ⟨(fm929 k9 hi9).1, (fm929 k9 hi9).2.1, tgX et935 (fn930 k9 hi9) (fm929 k9 hi9).2.2⟩
  have fm939 : ∀ k9, k9 < 60 → qs k9 = some (sr k9) ∧ wd_at w922 (sr k9) (.inl (cy 2, 12, .inl (fs k9))) ∧ tg934 (sr k9) = 13000 + k9 := fun k9 hi9 => ⟨(fm931 k9 hi9).1, (fm931 k9 hi9).2.1, tgX et935 (fn932 k9 hi9) (fm931 k9 hi9).2.2⟩
  have hext940 := tgE et935 (kp919.out hq924) hext910
  have hb9941 := bnd.ad ew923 hq924 et935 hb9921
  refine y_putF (ref := "NoteHouseModel") F hP hD hS k925 rfl (fun _ h => List.mem_cons_of_mem _ (List.mem_append_right _ (h))) tyX11_ok nmX11 hnm 43 (Nat.le_of_ble_eq_true rfl) (List.mem_cons_of_mem _ (List.mem_append_left _ (List.mem_append_right _ (List.mem_append_left _ (List.mem_of_getElem? (i := 16) rfl))))) rfl rfl rfl rfl rfl (Nat.le_of_ble_eq_true rfl) dX11_init_293 (fun w942 ew943 H locs hP hD hS => ?_)
  have k944 : wd_at w942 y (.inr (11, [.int 0, .int 0, .ref m2, .ref m3, .ref m4, .ref m5, .ref m6, .int 0, .ref m8, .ref m9, .ref m10, .ref m11, .ref m12, .ref m13, .ref m14, .int 0, .int 0, .ref m17, .ref m18, .ref m19, .ref m20, .ref m21, .ref m22, .ref m23, .ref m24, .int 0, .int 0, .int 0, .int 0, .ref m29, .ref m30, .ref m31, .ref m32, .ref m33, .ref m34, .ref m35, .ref m36, .ref m37, .int 0, .ref m39, .ref m40, .ref m41, .ref m42, .ref m43, .null, .null, .null, .null, .null, .null, .int 0, .null, .null, .null, .null, .int 0, .null, .null, .null, .null])) := wd_at.ps ew943 k925
  have k945 := wd_at.pt ew943 k926 (tg_ne (tgN et935) t936 (by decide))
  have fm946 : ∀ k9, k9 < 12 → qp k9 = some (pr k9) ∧ wd_at w942 (pr k9) (.inl (cy 2, 12, .inl (fp k9))) ∧ tg934 (pr k9) = 11000 + k9 := fun k9 hi9 => ⟨(fm937 k9 hi9).1, wd_at.pt ew943 (fm937 k9 hi9).2.1 (tg_ne (fm937 k9 hi9).2.2 t936 (tnA (show 10000 < 11000 by decide))), (fm937 k9 hi9).2.2⟩
  have fm947 : ∀ k9, k9 < 12 → qw k9 = some (wr k9) ∧ wd_at w942 (wr k9) (.inl (cy 2, 12, .inl (fw k9))) ∧ tg934 (wr k9) = 12000 + k9 := fun k9 hi9 => ⟨(fm938 k9 hi9).1, wd_at.pt ew943 (fm938 k9 hi9).2.1 (tg_ne (fm938 k9 hi9).2.2 t936 (tnA (show 10000 < 12000 by decide))), (fm938 k9 hi9).2.2⟩
  have fm948 : ∀ k9, k9 < 60 → qs k9 = some (sr k9) ∧ wd_at w942 (sr k9) (.inl (cy 2, 12, .inl (fs k9))) ∧ tg934 (sr k9) = 13000 + k9 := fun k9 hi9 => ⟨(fm939 k9 hi9).1, wd_at.pt ew943 (fm939 k9 hi9).2.1 (tg_ne (fm939 k9 hi9).2.2 t936 (tnA (show 10000 < 13000 by decide))), (fm939 k9 hi9).2.2⟩
  have kp949 := kp933.put ew943 sy
  have hb9950 := bnd.pt ew943 t936 hb9941
  have hb9951 := bnd.cons hb9950 k945 (tgN et935) (show 10000 < 10143 by decide)
  refine lv_aload_n hx hb dX11_init_296 rfl (lv_at hl 0 rfl) ?_
  refine lv_sipush (v := 200) hx hb dX11_init_297 (by decide) ?_
  refine y_newI (N := 200) F hP hD hS (List.mem_cons_of_mem _ (List.mem_append_left _ (List.mem_append_left _ (List.mem_of_getElem? (i := 4) rfl)))) (by decide) (by decide) (by decide) (Nat.le_of_ble_eq_true rfl) (Nat.le_of_ble_eq_true rfl) dX11_init_300 (fun m44 w952 ew953 hq954 H hP hD hS => ?_)
  refine W.widen (k := 119) (n := 6345) (Nat.le_of_ble_eq_true rfl) (Nat.le_of_ble_eq_true rfl) ?_
  have k955 := wd_at.ad ew953 hq954 k944
  have k956 : wd_at w952 m44 (.inl (cy 2, 200, .inl (fun _ => 0))) := wd_at.nw ew953
  have fm957 : ∀ k9, k9 < 12 → qp k9 = some (pr k9) ∧ wd_at w952 (pr k9) (.inl (cy 2, 12, .inl (fp k9))) ∧ tg934 (pr k9) = 11000 + k9 := fun k9 hi9 => ⟨(fm946 k9 hi9).1, wd_at.ad ew953 hq954 (fm946 k9 hi9).2.1, (fm946 k9 hi9).2.2⟩
  have fn958 : ∀ k9, k9 < 12 → (pr k9) ≠ m44 := fun k9 hi9 => wd_nL hq954 (fm946 k9 hi9).2.1
  have fm959 : ∀ k9, k9 < 12 → qw k9 = some (wr k9) ∧ wd_at w952 (wr k9) (.inl (cy 2, 12, .inl (fw k9))) ∧ tg934 (wr k9) = 12000 + k9 := fun k9 hi9 => ⟨(fm947 k9 hi9).1, wd_at.ad ew953 hq954 (fm947 k9 hi9).2.1, (fm947 k9 hi9).2.2⟩
  have fn960 : ∀ k9, k9 < 12 → (wr k9) ≠ m44 := fun k9 hi9 => wd_nL hq954 (fm947 k9 hi9).2.1
  have fm961 : ∀ k9, k9 < 60 → qs k9 = some (sr k9) ∧ wd_at w952 (sr k9) (.inl (cy 2, 12, .inl (fs k9))) ∧ tg934 (sr k9) = 13000 + k9 := fun k9 hi9 => ⟨(fm948 k9 hi9).1, wd_at.ad ew953 hq954 (fm948 k9 hi9).2.1, (fm948 k9 hi9).2.2⟩
  have fn962 : ∀ k9, k9 < 60 → (sr k9) ≠ m44 := fun k9 hi9 => wd_nL hq954 (fm948 k9 hi9).2.1
  have kp963 := kp949.add ew953 hq954
  obtain ⟨tg964, et965⟩ : ∃ f : Nat → Nat, f = va_up tg934 m44 (10144) := ⟨_, rfl⟩
  have t966 := tgX et965 (wd_nL hq954 k944) t936
  have fm967 : ∀ k9, k9 < 12 → qp k9 = some (pr k9) ∧ wd_at w952 (pr k9) (.inl (cy 2, 12, .inl (fp k9))) ∧ tg964 (pr k9) = 11000 + k9 := fun k9 hi9 => ⟨(fm957 k9 hi9).1, (fm957 k9 hi9).2.1, tgX et965 (fn958 k9 hi9) (fm957 k9 hi9).2.2⟩
  have fm968 : ∀ k9, k9 < 12 → qw k9 = some (wr k9) ∧ wd_at w952 (wr k9) (.inl (cy 2, 12, .inl (fw k9))) ∧ tg964 (wr k9) = 12000 + k9 := fun k9 hi9 => ⟨(fm959 k9 hi9).1, (fm959 k9 hi9).2.1, tgX et965 (fn960 k9 hi9) (fm959 k9 hi9).2.2⟩
  have fm969 : ∀ k9, k9 < 60 → qs k9 = some (sr k9) ∧ wd_at w952 (sr k9) (.inl (cy 2, 12, .inl (fs k9))) ∧ tg964 (sr k9) = 13000 + k9 := fun k9 hi9 => ⟨(fm961 k9 hi9).1, (fm961 k9 hi9).2.1, tgX et965 (fn962 k9 hi9) (fm961 k9 hi9).2.2⟩
  have hext970 := tgE et965 (kp949.out hq954) hext940
  have hb9971 := bnd.ad ew953 hq954 et965 hb9951
  refine y_putF (ref := "NoteHouseModel") F hP hD hS k955 rfl (fun _ h => List.mem_cons_of_mem _ (List.mem_append_right _ (h))) tyX11_ok nmX11 hnm 44 (Nat.le_of_ble_eq_true rfl) (List.mem_cons_of_mem _ (List.mem_append_left _ (List.mem_append_right _ (List.mem_append_left _ (List.mem_of_getElem? (i := 17) rfl))))) rfl rfl rfl rfl rfl (Nat.le_of_ble_eq_true rfl) dX11_init_302 (fun w972 ew973 H locs hP hD hS => ?_)
  have k974 : wd_at w972 y (.inr (11, [.int 0, .int 0, .ref m2, .ref m3, .ref m4, .ref m5, .ref m6, .int 0, .ref m8, .ref m9, .ref m10, .ref m11, .ref m12, .ref m13, .ref m14, .int 0, .int 0, .ref m17, .ref m18, .ref m19, .ref m20, .ref m21, .ref m22, .ref m23, .ref m24, .int 0, .int 0, .int 0, .int 0, .ref m29, .ref m30, .ref m31, .ref m32, .ref m33, .ref m34, .ref m35, .ref m36, .ref m37, .int 0, .ref m39, .ref m40, .ref m41, .ref m42, .ref m43, .ref m44, .null, .null, .null, .null, .null, .int 0, .null, .null, .null, .null, .int 0, .null, .null, .null, .null])) := wd_at.ps ew973 k955
  have k975 := wd_at.pt ew973 k956 (tg_ne (tgN et965) t966 (by decide))
  have fm976 : ∀ k9, k9 < 12 → qp k9 = some (pr k9) ∧ wd_at w972 (pr k9) (.inl (cy 2, 12, .inl (fp k9))) ∧ tg964 (pr k9) = 11000 + k9 := fun k9 hi9 => ⟨(fm967 k9 hi9).1, wd_at.pt ew973 (fm967 k9 hi9).2.1 (tg_ne (fm967 k9 hi9).2.2 t966 (tnA (show 10000 < 11000 by decide))), (fm967 k9 hi9).2.2⟩
  have fm977 : ∀ k9, k9 < 12 → qw k9 = some (wr k9) ∧ wd_at w972 (wr k9) (.inl (cy 2, 12, .inl (fw k9))) ∧ tg964 (wr k9) = 12000 + k9 := fun k9 hi9 => ⟨(fm968 k9 hi9).1, wd_at.pt ew973 (fm968 k9 hi9).2.1 (tg_ne (fm968 k9 hi9).2.2 t966 (tnA (show 10000 < 12000 by decide))), (fm968 k9 hi9).2.2⟩
  have fm978 : ∀ k9, k9 < 60 → qs k9 = some (sr k9) ∧ wd_at w972 (sr k9) (.inl (cy 2, 12, .inl (fs k9))) ∧ tg964 (sr k9) = 13000 + k9 := fun k9 hi9 => ⟨(fm969 k9 hi9).1, wd_at.pt ew973 (fm969 k9 hi9).2.1 (tg_ne (fm969 k9 hi9).2.2 t966 (tnA (show 10000 < 13000 by decide))), (fm969 k9 hi9).2.2⟩
  have kp979 := kp963.put ew973 sy
  have hb9980 := bnd.pt ew973 t966 hb9971
  have hb9981 := bnd.cons hb9980 k975 (tgN et965) (show 10000 < 10144 by decide)
  refine lv_aload_n hx hb dX11_init_305 rfl (lv_at hl 0 rfl) ?_
  refine lv_sipush (v := 200) hx hb dX11_init_306 (by decide) ?_
  refine y_newI (N := 200) F hP hD hS (List.mem_cons_of_mem _ (List.mem_append_left _ (List.mem_append_left _ (List.mem_of_getElem? (i := 4) rfl)))) (by decide) (by decide) (by decide) (Nat.le_of_ble_eq_true rfl) (Nat.le_of_ble_eq_true rfl) dX11_init_309 (fun m45 w982 ew983 hq984 H hP hD hS => ?_)
  refine W.widen (k := 120) (n := 6545) (Nat.le_of_ble_eq_true rfl) (Nat.le_of_ble_eq_true rfl) ?_
  have k985 := wd_at.ad ew983 hq984 k974
  have k986 : wd_at w982 m45 (.inl (cy 2, 200, .inl (fun _ => 0))) := wd_at.nw ew983
  have fm987 : ∀ k9, k9 < 12 → qp k9 = some (pr k9) ∧ wd_at w982 (pr k9) (.inl (cy 2, 12, .inl (fp k9))) ∧ tg964 (pr k9) = 11000 + k9 := fun k9 hi9 => ⟨(fm976 k9 hi9).1, wd_at.ad ew983 hq984 (fm976 k9 hi9).2.1, (fm976 k9 hi9).2.2⟩
  have fn988 : ∀ k9, k9 < 12 → (pr k9) ≠ m45 := fun k9 hi9 => wd_nL hq984 (fm976 k9 hi9).2.1
  have fm989 : ∀ k9, k9 < 12 → qw k9 = some (wr k9) ∧ wd_at w982 (wr k9) (.inl (cy 2, 12, .inl (fw k9))) ∧ tg964 (wr k9) = 12000 + k9 := fun k9 hi9 => ⟨(fm977 k9 hi9).1, wd_at.ad ew983 hq984 (fm977 k9 hi9).2.1, (fm977 k9 hi9).2.2⟩
  have fn990 : ∀ k9, k9 < 12 → (wr k9) ≠ m45 := fun k9 hi9 => wd_nL hq984 (fm977 k9 hi9).2.1
  have fm991 : ∀ k9, k9 < 60 → qs k9 = some (sr k9) ∧ wd_at w982 (sr k9) (.inl (cy 2, 12, .inl (fs k9))) ∧ tg964 (sr k9) = 13000 + k9 := fun k9 hi9 => ⟨(fm978 k9 hi9).1, wd_at.ad ew983 hq984 (fm978 k9 hi9).2.1, (fm978 k9 hi9).2.2⟩
  have fn992 : ∀ k9, k9 < 60 → (sr k9) ≠ m45 := fun k9 hi9 => wd_nL hq984 (fm978 k9 hi9).2.1
  have kp993 := kp979.add ew983 hq984
  obtain ⟨tg994, et995⟩ : ∃ f : Nat → Nat, f = va_up tg964 m45 (10145) := ⟨_, rfl⟩
  have t996 := tgX et995 (wd_nL hq984 k974) t966
  have fm997 : ∀ k9, k9 < 12 → qp k9 = some (pr k9) ∧ wd_at w982 (pr k9) (.inl (cy 2, 12, .inl (fp k9))) ∧ tg994 (pr k9) = 11000 + k9 := fun k9 hi9 => ⟨(fm987 k9 hi9).1, (fm987 k9 hi9).2.1, tgX et995 (fn988 k9 hi9) (fm987 k9 hi9).2.2⟩
  have fm998 : ∀ k9, k9 < 12 → qw k9 = some (wr k9) ∧ wd_at w982 (wr k9) (.inl (cy 2, 12, .inl (fw k9))) ∧ tg994 (wr k9) = 12000 + k9 := fun k9 hi9 => ⟨(fm989 k9 hi9).1, (fm989 k9 hi9).2.1, tgX et995 (fn990 k9 hi9) (fm989 k9 hi9).2.2⟩
  have fm999 : ∀ k9, k9 < 60 → qs k9 = some (sr k9) ∧ wd_at w982 (sr k9) (.inl (cy 2, 12, .inl (fs k9))) ∧ tg994 (sr k9) = 13000 + k9 := fun k9 hi9 => ⟨(fm991 k9 hi9).1, (fm991 k9 hi9).2.1, tgX et995 (fn992 k9 hi9) (fm991 k9 hi9).2.2⟩
  have hext1000 := tgE et995 (kp979.out hq984) hext970
  have hb91001 := bnd.ad ew983 hq984 et995 hb9981
  refine y_putF (ref := "NoteHouseModel") F hP hD hS k985 rfl (fun _ h => List.mem_cons_of_mem _ (List.mem_append_right _ (h))) tyX11_ok nmX11 hnm 45 (Nat.le_of_ble_eq_true rfl) (List.mem_cons_of_mem _ (List.mem_append_left _ (List.mem_append_right _ (List.mem_append_left _ (List.mem_of_getElem? (i := 18) rfl))))) rfl rfl rfl rfl rfl (Nat.le_of_ble_eq_true rfl) dX11_init_311 (fun w1002 ew1003 H locs hP hD hS => ?_)
  have k1004 : wd_at w1002 y (.inr (11, [.int 0, .int 0, .ref m2, .ref m3, .ref m4, .ref m5, .ref m6, .int 0, .ref m8, .ref m9, .ref m10, .ref m11, .ref m12, .ref m13, .ref m14, .int 0, .int 0, .ref m17, .ref m18, .ref m19, .ref m20, .ref m21, .ref m22, .ref m23, .ref m24, .int 0, .int 0, .int 0, .int 0, .ref m29, .ref m30, .ref m31, .ref m32, .ref m33, .ref m34, .ref m35, .ref m36, .ref m37, .int 0, .ref m39, .ref m40, .ref m41, .ref m42, .ref m43, .ref m44, .ref m45, .null, .null, .null, .null, .int 0, .null, .null, .null, .null, .int 0, .null, .null, .null, .null])) := wd_at.ps ew1003 k985
  have k1005 := wd_at.pt ew1003 k986 (tg_ne (tgN et995) t996 (by decide))
  have fm1006 : ∀ k9, k9 < 12 → qp k9 = some (pr k9) ∧ wd_at w1002 (pr k9) (.inl (cy 2, 12, .inl (fp k9))) ∧ tg994 (pr k9) = 11000 + k9 := fun k9 hi9 => ⟨(fm997 k9 hi9).1, wd_at.pt ew1003 (fm997 k9 hi9).2.1 (tg_ne (fm997 k9 hi9).2.2 t996 (tnA (show 10000 < 11000 by decide))), (fm997 k9 hi9).2.2⟩
  have fm1007 : ∀ k9, k9 < 12 → qw k9 = some (wr k9) ∧ wd_at w1002 (wr k9) (.inl (cy 2, 12, .inl (fw k9))) ∧ tg994 (wr k9) = 12000 + k9 := fun k9 hi9 => ⟨(fm998 k9 hi9).1, wd_at.pt ew1003 (fm998 k9 hi9).2.1 (tg_ne (fm998 k9 hi9).2.2 t996 (tnA (show 10000 < 12000 by decide))), (fm998 k9 hi9).2.2⟩
  have fm1008 : ∀ k9, k9 < 60 → qs k9 = some (sr k9) ∧ wd_at w1002 (sr k9) (.inl (cy 2, 12, .inl (fs k9))) ∧ tg994 (sr k9) = 13000 + k9 := fun k9 hi9 => ⟨(fm999 k9 hi9).1, wd_at.pt ew1003 (fm999 k9 hi9).2.1 (tg_ne (fm999 k9 hi9).2.2 t996 (tnA (show 10000 < 13000 by decide))), (fm999 k9 hi9).2.2⟩
  have kp1009 := kp993.put ew1003 sy
  have hb91010 := bnd.pt ew1003 t996 hb91001
  have hb91011 := bnd.cons hb91010 k1005 (tgN et995) (show 10000 < 10145 by decide)
  refine lv_aload_n hx hb dX11_init_314 rfl (lv_at hl 0 rfl) ?_
  refine lv_sipush (v := 200) hx hb dX11_init_315 (by decide) ?_
  refine y_newI (N := 200) F hP hD hS (List.mem_cons_of_mem _ (List.mem_append_left _ (List.mem_append_left _ (List.mem_of_getElem? (i := 4) rfl)))) (by decide) (by decide) (by decide) (Nat.le_of_ble_eq_true rfl) (Nat.le_of_ble_eq_true rfl) dX11_init_318 (fun m46 w1012 ew1013 hq1014 H hP hD hS => ?_)
  refine W.widen (k := 121) (n := 6745) (Nat.le_of_ble_eq_true rfl) (Nat.le_of_ble_eq_true rfl) ?_
  have k1015 := wd_at.ad ew1013 hq1014 k1004
  have k1016 : wd_at w1012 m46 (.inl (cy 2, 200, .inl (fun _ => 0))) := wd_at.nw ew1013
  have fm1017 : ∀ k9, k9 < 12 → qp k9 = some (pr k9) ∧ wd_at w1012 (pr k9) (.inl (cy 2, 12, .inl (fp k9))) ∧ tg994 (pr k9) = 11000 + k9 := fun k9 hi9 => ⟨(fm1006 k9 hi9).1, wd_at.ad ew1013 hq1014 (fm1006 k9 hi9).2.1, (fm1006 k9 hi9).2.2⟩
  have fn1018 : ∀ k9, k9 < 12 → (pr k9) ≠ m46 := fun k9 hi9 => wd_nL hq1014 (fm1006 k9 hi9).2.1
  have fm1019 : ∀ k9, k9 < 12 → qw k9 = some (wr k9) ∧ wd_at w1012 (wr k9) (.inl (cy 2, 12, .inl (fw k9))) ∧ tg994 (wr k9) = 12000 + k9 := fun k9 hi9 => ⟨(fm1007 k9 hi9).1, wd_at.ad ew1013 hq1014 (fm1007 k9 hi9).2.1, (fm1007 k9 hi9).2.2⟩
  have fn1020 : ∀ k9, k9 < 12 → (wr k9) ≠ m46 := fun k9 hi9 => wd_nL hq1014 (fm1007 k9 hi9).2.1
  have fm1021 : ∀ k9, k9 < 60 → qs k9 = some (sr k9) ∧ wd_at w1012 (sr k9) (.inl (cy 2, 12, .inl (fs k9))) ∧ tg994 (sr k9) = 13000 + k9 := fun k9 hi9 => ⟨(fm1008 k9 hi9).1, wd_at.ad ew1013 hq1014 (fm1008 k9 hi9).2.1, (fm1008 k9 hi9).2.2⟩
  have fn1022 : ∀ k9, k9 < 60 → (sr k9) ≠ m46 := fun k9 hi9 => wd_nL hq1014 (fm1008 k9 hi9).2.1
  have kp1023 := kp1009.add ew1013 hq1014
  obtain ⟨tg1024, et1025⟩ : ∃ f : Nat → Nat, f = va_up tg994 m46 (10146) := ⟨_, rfl⟩
  have t1026 := tgX et1025 (wd_nL hq1014 k1004) t996
  have fm1027 : ∀ k9, k9 < 12 → qp k9 = some (pr k9) ∧ wd_at w1012 (pr k9) (.inl (cy 2, 12, .inl (fp k9))) ∧ tg1024 (pr k9) = 11000 + k9 := fun k9 hi9 => ⟨(fm1017 k9 hi9).1, (fm1017 k9 hi9).2.1, tgX et1025 (fn1018 k9 hi9) (fm1017 k9 hi9).2.2⟩
  have fm1028 : ∀ k9, k9 < 12 → qw k9 = some (wr k9) ∧ wd_at w1012 (wr k9) (.inl (cy 2, 12, .inl (fw k9))) ∧ tg1024 (wr k9) = 12000 + k9 := fun k9 hi9 => ⟨(fm1019 k9 hi9).1, (fm1019 k9 hi9).2.1, tgX et1025 (fn1020 k9 hi9) (fm1019 k9 hi9).2.2⟩
  have fm1029 : ∀ k9, k9 < 60 → qs k9 = some (sr k9) ∧ wd_at w1012 (sr k9) (.inl (cy 2, 12, .inl (fs k9))) ∧ tg1024 (sr k9) = 13000 + k9 := fun k9 hi9 => ⟨(fm1021 k9 hi9).1, (fm1021 k9 hi9).2.1, tgX et1025 (fn1022 k9 hi9) (fm1021 k9 hi9).2.2⟩
  have hext1030 := tgE et1025 (kp1009.out hq1014) hext1000
  have hb91031 := bnd.ad ew1013 hq1014 et1025 hb91011
  refine y_putF (ref := "NoteHouseModel") F hP hD hS k1015 rfl (fun _ h => List.mem_cons_of_mem _ (List.mem_append_right _ (h))) tyX11_ok nmX11 hnm 46 (Nat.le_of_ble_eq_true rfl) (List.mem_cons_of_mem _ (List.mem_append_left _ (List.mem_append_right _ (List.mem_append_left _ (List.mem_of_getElem? (i := 19) rfl))))) rfl rfl rfl rfl rfl (Nat.le_of_ble_eq_true rfl) dX11_init_320 (fun w1032 ew1033 H locs hP hD hS => ?_)
  have k1034 : wd_at w1032 y (.inr (11, [.int 0, .int 0, .ref m2, .ref m3, .ref m4, .ref m5, .ref m6, .int 0, .ref m8, .ref m9, .ref m10, .ref m11, .ref m12, .ref m13, .ref m14, .int 0, .int 0, .ref m17, .ref m18, .ref m19, .ref m20, .ref m21, .ref m22, .ref m23, .ref m24, .int 0, .int 0, .int 0, .int 0, .ref m29, .ref m30, .ref m31, .ref m32, .ref m33, .ref m34, .ref m35, .ref m36, .ref m37, .int 0, .ref m39, .ref m40, .ref m41, .ref m42, .ref m43, .ref m44, .ref m45, .ref m46, .null, .null, .null, .int 0, .null, .null, .null, .null, .int 0, .null, .null, .null, .null])) := wd_at.ps ew1033 k1015
  have k1035 := wd_at.pt ew1033 k1016 (tg_ne (tgN et1025) t1026 (by decide))
  have fm1036 : ∀ k9, k9 < 12 → qp k9 = some (pr k9) ∧ wd_at w1032 (pr k9) (.inl (cy 2, 12, .inl (fp k9))) ∧ tg1024 (pr k9) = 11000 + k9 := fun k9 hi9 => ⟨(fm1027 k9 hi9).1, wd_at.pt ew1033 (fm1027 k9 hi9).2.1 (tg_ne (fm1027 k9 hi9).2.2 t1026 (tnA (show 10000 < 11000 by decide))), (fm1027 k9 hi9).2.2⟩
  have fm1037 : ∀ k9, k9 < 12 → qw k9 = some (wr k9) ∧ wd_at w1032 (wr k9) (.inl (cy 2, 12, .inl (fw k9))) ∧ tg1024 (wr k9) = 12000 + k9 := fun k9 hi9 => ⟨(fm1028 k9 hi9).1, wd_at.pt ew1033 (fm1028 k9 hi9).2.1 (tg_ne (fm1028 k9 hi9).2.2 t1026 (tnA (show 10000 < 12000 by decide))), (fm1028 k9 hi9).2.2⟩
  have fm1038 : ∀ k9, k9 < 60 → qs k9 = some (sr k9) ∧ wd_at w1032 (sr k9) (.inl (cy 2, 12, .inl (fs k9))) ∧ tg1024 (sr k9) = 13000 + k9 := fun k9 hi9 => ⟨(fm1029 k9 hi9).1, wd_at.pt ew1033 (fm1029 k9 hi9).2.1 (tg_ne (fm1029 k9 hi9).2.2 t1026 (tnA (show 10000 < 13000 by decide))), (fm1029 k9 hi9).2.2⟩
  have kp1039 := kp1023.put ew1033 sy
  have hb91040 := bnd.pt ew1033 t1026 hb91031
  have hb91041 := bnd.cons hb91040 k1035 (tgN et1025) (show 10000 < 10146 by decide)
  refine lv_aload_n hx hb dX11_init_323 rfl (lv_at hl 0 rfl) ?_
  refine lv_sipush (v := 200) hx hb dX11_init_324 (by decide) ?_
  refine y_newI (N := 200) F hP hD hS (List.mem_cons_of_mem _ (List.mem_append_left _ (List.mem_append_left _ (List.mem_of_getElem? (i := 4) rfl)))) (by decide) (by decide) (by decide) (Nat.le_of_ble_eq_true rfl) (Nat.le_of_ble_eq_true rfl) dX11_init_327 (fun m47 w1042 ew1043 hq1044 H hP hD hS => ?_)
  refine W.widen (k := 122) (n := 6945) (Nat.le_of_ble_eq_true rfl) (Nat.le_of_ble_eq_true rfl) ?_
  have k1045 := wd_at.ad ew1043 hq1044 k1034
  have k1046 : wd_at w1042 m47 (.inl (cy 2, 200, .inl (fun _ => 0))) := wd_at.nw ew1043
  have fm1047 : ∀ k9, k9 < 12 → qp k9 = some (pr k9) ∧ wd_at w1042 (pr k9) (.inl (cy 2, 12, .inl (fp k9))) ∧ tg1024 (pr k9) = 11000 + k9 := fun k9 hi9 => ⟨(fm1036 k9 hi9).1, wd_at.ad ew1043 hq1044 (fm1036 k9 hi9).2.1, (fm1036 k9 hi9).2.2⟩
  have fn1048 : ∀ k9, k9 < 12 → (pr k9) ≠ m47 := fun k9 hi9 => wd_nL hq1044 (fm1036 k9 hi9).2.1
  have fm1049 : ∀ k9, k9 < 12 → qw k9 = some (wr k9) ∧ wd_at w1042 (wr k9) (.inl (cy 2, 12, .inl (fw k9))) ∧ tg1024 (wr k9) = 12000 + k9 := fun k9 hi9 => ⟨(fm1037 k9 hi9).1, wd_at.ad ew1043 hq1044 (fm1037 k9 hi9).2.1, (fm1037 k9 hi9).2.2⟩
  have fn1050 : ∀ k9, k9 < 12 → (wr k9) ≠ m47 := fun k9 hi9 => wd_nL hq1044 (fm1037 k9 hi9).2.1
  have fm1051 : ∀ k9, k9 < 60 → qs k9 = some (sr k9) ∧ wd_at w1042 (sr k9) (.inl (cy 2, 12, .inl (fs k9))) ∧ tg1024 (sr k9) = 13000 + k9 := fun k9 hi9 => ⟨(fm1038 k9 hi9).1, wd_at.ad ew1043 hq1044 (fm1038 k9 hi9).2.1, (fm1038 k9 hi9).2.2⟩
  have fn1052 : ∀ k9, k9 < 60 → (sr k9) ≠ m47 := fun k9 hi9 => wd_nL hq1044 (fm1038 k9 hi9).2.1
  have kp1053 := kp1039.add ew1043 hq1044
  obtain ⟨tg1054, et1055⟩ : ∃ f : Nat → Nat, f = va_up tg1024 m47 (10147) := ⟨_, rfl⟩
  have t1056 := tgX et1055 (wd_nL hq1044 k1034) t1026
  have fm1057 : ∀ k9, k9 < 12 → qp k9 = some (pr k9) ∧ wd_at w1042 (pr k9) (.inl (cy 2, 12, .inl (fp k9))) ∧ tg1054 (pr k9) = 11000 + k9 := fun k9 hi9 => ⟨(fm1047 k9 hi9).1, (fm1047 k9 hi9).2.1, tgX et1055 (fn1048 k9 hi9) (fm1047 k9 hi9).2.2⟩
  have fm1058 : ∀ k9, k9 < 12 → qw k9 = some (wr k9) ∧ wd_at w1042 (wr k9) (.inl (cy 2, 12, .inl (fw k9))) ∧ tg1054 (wr k9) = 12000 + k9 := fun k9 hi9 => ⟨(fm1049 k9 hi9).1, (fm1049 k9 hi9).2.1, tgX et1055 (fn1050 k9 hi9) (fm1049 k9 hi9).2.2⟩
  have fm1059 : ∀ k9, k9 < 60 → qs k9 = some (sr k9) ∧ wd_at w1042 (sr k9) (.inl (cy 2, 12, .inl (fs k9))) ∧ tg1054 (sr k9) = 13000 + k9 := fun k9 hi9 => ⟨(fm1051 k9 hi9).1, (fm1051 k9 hi9).2.1, tgX et1055 (fn1052 k9 hi9) (fm1051 k9 hi9).2.2⟩
  have hext1060 := tgE et1055 (kp1039.out hq1044) hext1030
  have hb91061 := bnd.ad ew1043 hq1044 et1055 hb91041
  refine y_putF (ref := "NoteHouseModel") F hP hD hS k1045 rfl (fun _ h => List.mem_cons_of_mem _ (List.mem_append_right _ (h))) tyX11_ok nmX11 hnm 47 (Nat.le_of_ble_eq_true rfl) (List.mem_cons_of_mem _ (List.mem_append_left _ (List.mem_append_right _ (List.mem_append_left _ (List.mem_of_getElem? (i := 20) rfl))))) rfl rfl rfl rfl rfl (Nat.le_of_ble_eq_true rfl) dX11_init_329 (fun w1062 ew1063 H locs hP hD hS => ?_)
  have k1064 : wd_at w1062 y (.inr (11, [.int 0, .int 0, .ref m2, .ref m3, .ref m4, .ref m5, .ref m6, .int 0, .ref m8, .ref m9, .ref m10, .ref m11, .ref m12, .ref m13, .ref m14, .int 0, .int 0, .ref m17, .ref m18, .ref m19, .ref m20, .ref m21, .ref m22, .ref m23, .ref m24, .int 0, .int 0, .int 0, .int 0, .ref m29, .ref m30, .ref m31, .ref m32, .ref m33, .ref m34, .ref m35, .ref m36, .ref m37, .int 0, .ref m39, .ref m40, .ref m41, .ref m42, .ref m43, .ref m44, .ref m45, .ref m46, .ref m47, .null, .null, .int 0, .null, .null, .null, .null, .int 0, .null, .null, .null, .null])) := wd_at.ps ew1063 k1045
  have k1065 := wd_at.pt ew1063 k1046 (tg_ne (tgN et1055) t1056 (by decide))
  have fm1066 : ∀ k9, k9 < 12 → qp k9 = some (pr k9) ∧ wd_at w1062 (pr k9) (.inl (cy 2, 12, .inl (fp k9))) ∧ tg1054 (pr k9) = 11000 + k9 := fun k9 hi9 => ⟨(fm1057 k9 hi9).1, wd_at.pt ew1063 (fm1057 k9 hi9).2.1 (tg_ne (fm1057 k9 hi9).2.2 t1056 (tnA (show 10000 < 11000 by decide))), (fm1057 k9 hi9).2.2⟩
  have fm1067 : ∀ k9, k9 < 12 → qw k9 = some (wr k9) ∧ wd_at w1062 (wr k9) (.inl (cy 2, 12, .inl (fw k9))) ∧ tg1054 (wr k9) = 12000 + k9 := fun k9 hi9 => ⟨(fm1058 k9 hi9).1, wd_at.pt ew1063 (fm1058 k9 hi9).2.1 (tg_ne (fm1058 k9 hi9).2.2 t1056 (tnA (show 10000 < 12000 by decide))), (fm1058 k9 hi9).2.2⟩
  have fm1068 : ∀ k9, k9 < 60 → qs k9 = some (sr k9) ∧ wd_at w1062 (sr k9) (.inl (cy 2, 12, .inl (fs k9))) ∧ tg1054 (sr k9) = 13000 + k9 := fun k9 hi9 => ⟨(fm1059 k9 hi9).1, wd_at.pt ew1063 (fm1059 k9 hi9).2.1 (tg_ne (fm1059 k9 hi9).2.2 t1056 (tnA (show 10000 < 13000 by decide))), (fm1059 k9 hi9).2.2⟩
  have kp1069 := kp1053.put ew1063 sy
  have hb91070 := bnd.pt ew1063 t1056 hb91061
  have hb91071 := bnd.cons hb91070 k1065 (tgN et1055) (show 10000 < 10147 by decide)
  refine lv_aload_n hx hb dX11_init_332 rfl (lv_at hl 0 rfl) ?_
  refine lv_sipush (v := 200) hx hb dX11_init_333 (by decide) ?_
  refine y_newJ (N := 200) F hP hD hS (List.mem_cons_of_mem _ (List.mem_append_left _ (List.mem_append_right _ (List.mem_append_left _ (List.mem_of_getElem? (i := 21) rfl))))) (by decide) (by decide) (by decide) (Nat.le_of_ble_eq_true rfl) (Nat.le_of_ble_eq_true rfl) dX11_init_336 (fun m48 w1072 ew1073 hq1074 H hP hD hS => ?_)
  refine W.widen (k := 123) (n := 7145) (Nat.le_of_ble_eq_true rfl) (Nat.le_of_ble_eq_true rfl) ?_
  have k1075 := wd_at.ad ew1073 hq1074 k1064
  have k1076 : wd_at w1072 m48 (.inl (cy 3, 200, .inr (.inl (fun _ => 0)))) := wd_at.nw ew1073
  have fm1077 : ∀ k9, k9 < 12 → qp k9 = some (pr k9) ∧ wd_at w1072 (pr k9) (.inl (cy 2, 12, .inl (fp k9))) ∧ tg1054 (pr k9) = 11000 + k9 := fun k9 hi9 => ⟨(fm1066 k9 hi9).1, wd_at.ad ew1073 hq1074 (fm1066 k9 hi9).2.1, (fm1066 k9 hi9).2.2⟩
  have fn1078 : ∀ k9, k9 < 12 → (pr k9) ≠ m48 := fun k9 hi9 => wd_nL hq1074 (fm1066 k9 hi9).2.1
  have fm1079 : ∀ k9, k9 < 12 → qw k9 = some (wr k9) ∧ wd_at w1072 (wr k9) (.inl (cy 2, 12, .inl (fw k9))) ∧ tg1054 (wr k9) = 12000 + k9 := fun k9 hi9 => ⟨(fm1067 k9 hi9).1, wd_at.ad ew1073 hq1074 (fm1067 k9 hi9).2.1, (fm1067 k9 hi9).2.2⟩
  have fn1080 : ∀ k9, k9 < 12 → (wr k9) ≠ m48 := fun k9 hi9 => wd_nL hq1074 (fm1067 k9 hi9).2.1
  have fm1081 : ∀ k9, k9 < 60 → qs k9 = some (sr k9) ∧ wd_at w1072 (sr k9) (.inl (cy 2, 12, .inl (fs k9))) ∧ tg1054 (sr k9) = 13000 + k9 := fun k9 hi9 => ⟨(fm1068 k9 hi9).1, wd_at.ad ew1073 hq1074 (fm1068 k9 hi9).2.1, (fm1068 k9 hi9).2.2⟩
  have fn1082 : ∀ k9, k9 < 60 → (sr k9) ≠ m48 := fun k9 hi9 => wd_nL hq1074 (fm1068 k9 hi9).2.1
  have kp1083 := kp1069.add ew1073 hq1074
  obtain ⟨tg1084, et1085⟩ : ∃ f : Nat → Nat, f = va_up tg1054 m48 (10148) := ⟨_, rfl⟩
  have t1086 := tgX et1085 (wd_nL hq1074 k1064) t1056
  have fm1087 : ∀ k9, k9 < 12 → qp k9 = some (pr k9) ∧ wd_at w1072 (pr k9) (.inl (cy 2, 12, .inl (fp k9))) ∧ tg1084 (pr k9) = 11000 + k9 := fun k9 hi9 => ⟨(fm1077 k9 hi9).1, (fm1077 k9 hi9).2.1, tgX et1085 (fn1078 k9 hi9) (fm1077 k9 hi9).2.2⟩
  have fm1088 : ∀ k9, k9 < 12 → qw k9 = some (wr k9) ∧ wd_at w1072 (wr k9) (.inl (cy 2, 12, .inl (fw k9))) ∧ tg1084 (wr k9) = 12000 + k9 := fun k9 hi9 => ⟨(fm1079 k9 hi9).1, (fm1079 k9 hi9).2.1, tgX et1085 (fn1080 k9 hi9) (fm1079 k9 hi9).2.2⟩
  have fm1089 : ∀ k9, k9 < 60 → qs k9 = some (sr k9) ∧ wd_at w1072 (sr k9) (.inl (cy 2, 12, .inl (fs k9))) ∧ tg1084 (sr k9) = 13000 + k9 := fun k9 hi9 => ⟨(fm1081 k9 hi9).1, (fm1081 k9 hi9).2.1, tgX et1085 (fn1082 k9 hi9) (fm1081 k9 hi9).2.2⟩
  have hext1090 := tgE et1085 (kp1069.out hq1074) hext1060
  have hb91091 := bnd.ad ew1073 hq1074 et1085 hb91071
  refine y_putF (ref := "NoteHouseModel") F hP hD hS k1075 rfl (fun _ h => List.mem_cons_of_mem _ (List.mem_append_right _ (h))) tyX11_ok nmX11 hnm 48 (Nat.le_of_ble_eq_true rfl) (List.mem_cons_of_mem _ (List.mem_append_left _ (List.mem_append_right _ (List.mem_append_left _ (List.mem_of_getElem? (i := 22) rfl))))) rfl rfl rfl rfl rfl (Nat.le_of_ble_eq_true rfl) dX11_init_338 (fun w1092 ew1093 H locs hP hD hS => ?_)
  have k1094 : wd_at w1092 y (.inr (11, [.int 0, .int 0, .ref m2, .ref m3, .ref m4, .ref m5, .ref m6, .int 0, .ref m8, .ref m9, .ref m10, .ref m11, .ref m12, .ref m13, .ref m14, .int 0, .int 0, .ref m17, .ref m18, .ref m19, .ref m20, .ref m21, .ref m22, .ref m23, .ref m24, .int 0, .int 0, .int 0, .int 0, .ref m29, .ref m30, .ref m31, .ref m32, .ref m33, .ref m34, .ref m35, .ref m36, .ref m37, .int 0, .ref m39, .ref m40, .ref m41, .ref m42, .ref m43, .ref m44, .ref m45, .ref m46, .ref m47, .ref m48, .null, .int 0, .null, .null, .null, .null, .int 0, .null, .null, .null, .null])) := wd_at.ps ew1093 k1075
  have k1095 := wd_at.pt ew1093 k1076 (tg_ne (tgN et1085) t1086 (by decide))
  have fm1096 : ∀ k9, k9 < 12 → qp k9 = some (pr k9) ∧ wd_at w1092 (pr k9) (.inl (cy 2, 12, .inl (fp k9))) ∧ tg1084 (pr k9) = 11000 + k9 := fun k9 hi9 => ⟨(fm1087 k9 hi9).1, wd_at.pt ew1093 (fm1087 k9 hi9).2.1 (tg_ne (fm1087 k9 hi9).2.2 t1086 (tnA (show 10000 < 11000 by decide))), (fm1087 k9 hi9).2.2⟩
  have fm1097 : ∀ k9, k9 < 12 → qw k9 = some (wr k9) ∧ wd_at w1092 (wr k9) (.inl (cy 2, 12, .inl (fw k9))) ∧ tg1084 (wr k9) = 12000 + k9 := fun k9 hi9 => ⟨(fm1088 k9 hi9).1, wd_at.pt ew1093 (fm1088 k9 hi9).2.1 (tg_ne (fm1088 k9 hi9).2.2 t1086 (tnA (show 10000 < 12000 by decide))), (fm1088 k9 hi9).2.2⟩
  have fm1098 : ∀ k9, k9 < 60 → qs k9 = some (sr k9) ∧ wd_at w1092 (sr k9) (.inl (cy 2, 12, .inl (fs k9))) ∧ tg1084 (sr k9) = 13000 + k9 := fun k9 hi9 => ⟨(fm1089 k9 hi9).1, wd_at.pt ew1093 (fm1089 k9 hi9).2.1 (tg_ne (fm1089 k9 hi9).2.2 t1086 (tnA (show 10000 < 13000 by decide))), (fm1089 k9 hi9).2.2⟩
  have kp1099 := kp1083.put ew1093 sy
  have hb91100 := bnd.pt ew1093 t1086 hb91091
  have hb91101 := bnd.cons hb91100 k1095 (tgN et1085) (show 10000 < 10148 by decide)
  refine lv_aload_n hx hb dX11_init_341 rfl (lv_at hl 0 rfl) ?_
  refine lv_bipush (v := 12) hx hb dX11_init_342 (by decide) ?_
  refine y_newI (N := 12) F hP hD hS (List.mem_cons_of_mem _ (List.mem_append_left _ (List.mem_append_left _ (List.mem_of_getElem? (i := 4) rfl)))) (by decide) (by decide) (by decide) (Nat.le_of_ble_eq_true rfl) (Nat.le_of_ble_eq_true rfl) dX11_init_344 (fun m49 w1102 ew1103 hq1104 H hP hD hS => ?_)
  refine W.widen (k := 124) (n := 7157) (Nat.le_of_ble_eq_true rfl) (Nat.le_of_ble_eq_true rfl) ?_
  have k1105 := wd_at.ad ew1103 hq1104 k1094
  have k1106 : wd_at w1102 m49 (.inl (cy 2, 12, .inl (fun _ => 0))) := wd_at.nw ew1103
  have fm1107 : ∀ k9, k9 < 12 → qp k9 = some (pr k9) ∧ wd_at w1102 (pr k9) (.inl (cy 2, 12, .inl (fp k9))) ∧ tg1084 (pr k9) = 11000 + k9 := fun k9 hi9 => ⟨(fm1096 k9 hi9).1, wd_at.ad ew1103 hq1104 (fm1096 k9 hi9).2.1, (fm1096 k9 hi9).2.2⟩
  have fn1108 : ∀ k9, k9 < 12 → (pr k9) ≠ m49 := fun k9 hi9 => wd_nL hq1104 (fm1096 k9 hi9).2.1
  have fm1109 : ∀ k9, k9 < 12 → qw k9 = some (wr k9) ∧ wd_at w1102 (wr k9) (.inl (cy 2, 12, .inl (fw k9))) ∧ tg1084 (wr k9) = 12000 + k9 := fun k9 hi9 => ⟨(fm1097 k9 hi9).1, wd_at.ad ew1103 hq1104 (fm1097 k9 hi9).2.1, (fm1097 k9 hi9).2.2⟩
  have fn1110 : ∀ k9, k9 < 12 → (wr k9) ≠ m49 := fun k9 hi9 => wd_nL hq1104 (fm1097 k9 hi9).2.1
  have fm1111 : ∀ k9, k9 < 60 → qs k9 = some (sr k9) ∧ wd_at w1102 (sr k9) (.inl (cy 2, 12, .inl (fs k9))) ∧ tg1084 (sr k9) = 13000 + k9 := fun k9 hi9 => ⟨(fm1098 k9 hi9).1, wd_at.ad ew1103 hq1104 (fm1098 k9 hi9).2.1, (fm1098 k9 hi9).2.2⟩
  have fn1112 : ∀ k9, k9 < 60 → (sr k9) ≠ m49 := fun k9 hi9 => wd_nL hq1104 (fm1098 k9 hi9).2.1
  have kp1113 := kp1099.add ew1103 hq1104
  obtain ⟨tg1114, et1115⟩ : ∃ f : Nat → Nat, f = va_up tg1084 m49 (10149) := ⟨_, rfl⟩
  have t1116 := tgX et1115 (wd_nL hq1104 k1094) t1086
  have fm1117 : ∀ k9, k9 < 12 → qp k9 = some (pr k9) ∧ wd_at w1102 (pr k9) (.inl (cy 2, 12, .inl (fp k9))) ∧ tg1114 (pr k9) = 11000 + k9 := fun k9 hi9 => ⟨(fm1107 k9 hi9).1, (fm1107 k9 hi9).2.1, tgX et1115 (fn1108 k9 hi9) (fm1107 k9 hi9).2.2⟩
  have fm1118 : ∀ k9, k9 < 12 → qw k9 = some (wr k9) ∧ wd_at w1102 (wr k9) (.inl (cy 2, 12, .inl (fw k9))) ∧ tg1114 (wr k9) = 12000 + k9 := fun k9 hi9 => ⟨(fm1109 k9 hi9).1, (fm1109 k9 hi9).2.1, tgX et1115 (fn1110 k9 hi9) (fm1109 k9 hi9).2.2⟩
  have fm1119 : ∀ k9, k9 < 60 → qs k9 = some (sr k9) ∧ wd_at w1102 (sr k9) (.inl (cy 2, 12, .inl (fs k9))) ∧ tg1114 (sr k9) = 13000 + k9 := fun k9 hi9 => ⟨(fm1111 k9 hi9).1, (fm1111 k9 hi9).2.1, tgX et1115 (fn1112 k9 hi9) (fm1111 k9 hi9).2.2⟩
  have hext1120 := tgE et1115 (kp1099.out hq1104) hext1090
  have hb91121 := bnd.ad ew1103 hq1104 et1115 hb91101
  refine y_putF (ref := "NoteHouseModel") F hP hD hS k1105 rfl (fun _ h => List.mem_cons_of_mem _ (List.mem_append_right _ (h))) tyX11_ok nmX11 hnm 49 (Nat.le_of_ble_eq_true rfl) (List.mem_cons_of_mem _ (List.mem_append_left _ (List.mem_append_right _ (List.mem_append_left _ (List.mem_of_getElem? (i := 23) rfl))))) rfl rfl rfl rfl rfl (Nat.le_of_ble_eq_true rfl) dX11_init_346 (fun w1122 ew1123 H locs hP hD hS => ?_)
  have k1124 : wd_at w1122 y (.inr (11, [.int 0, .int 0, .ref m2, .ref m3, .ref m4, .ref m5, .ref m6, .int 0, .ref m8, .ref m9, .ref m10, .ref m11, .ref m12, .ref m13, .ref m14, .int 0, .int 0, .ref m17, .ref m18, .ref m19, .ref m20, .ref m21, .ref m22, .ref m23, .ref m24, .int 0, .int 0, .int 0, .int 0, .ref m29, .ref m30, .ref m31, .ref m32, .ref m33, .ref m34, .ref m35, .ref m36, .ref m37, .int 0, .ref m39, .ref m40, .ref m41, .ref m42, .ref m43, .ref m44, .ref m45, .ref m46, .ref m47, .ref m48, .ref m49, .int 0, .null, .null, .null, .null, .int 0, .null, .null, .null, .null])) := wd_at.ps ew1123 k1105
  have k1125 := wd_at.pt ew1123 k1106 (tg_ne (tgN et1115) t1116 (by decide))
  have fm1126 : ∀ k9, k9 < 12 → qp k9 = some (pr k9) ∧ wd_at w1122 (pr k9) (.inl (cy 2, 12, .inl (fp k9))) ∧ tg1114 (pr k9) = 11000 + k9 := fun k9 hi9 => ⟨(fm1117 k9 hi9).1, wd_at.pt ew1123 (fm1117 k9 hi9).2.1 (tg_ne (fm1117 k9 hi9).2.2 t1116 (tnA (show 10000 < 11000 by decide))), (fm1117 k9 hi9).2.2⟩
  have fm1127 : ∀ k9, k9 < 12 → qw k9 = some (wr k9) ∧ wd_at w1122 (wr k9) (.inl (cy 2, 12, .inl (fw k9))) ∧ tg1114 (wr k9) = 12000 + k9 := fun k9 hi9 => ⟨(fm1118 k9 hi9).1, wd_at.pt ew1123 (fm1118 k9 hi9).2.1 (tg_ne (fm1118 k9 hi9).2.2 t1116 (tnA (show 10000 < 12000 by decide))), (fm1118 k9 hi9).2.2⟩
  have fm1128 : ∀ k9, k9 < 60 → qs k9 = some (sr k9) ∧ wd_at w1122 (sr k9) (.inl (cy 2, 12, .inl (fs k9))) ∧ tg1114 (sr k9) = 13000 + k9 := fun k9 hi9 => ⟨(fm1119 k9 hi9).1, wd_at.pt ew1123 (fm1119 k9 hi9).2.1 (tg_ne (fm1119 k9 hi9).2.2 t1116 (tnA (show 10000 < 13000 by decide))), (fm1119 k9 hi9).2.2⟩
  have kp1129 := kp1113.put ew1123 sy
  have hb91130 := bnd.pt ew1123 t1116 hb91121
  have hb91131 := bnd.cons hb91130 k1125 (tgN et1115) (show 10000 < 10149 by decide)
  refine lv_aload_n hx hb dX11_init_349 rfl (lv_at hl 0 rfl) ?_
  refine lv_sipush (v := 200) hx hb dX11_init_350 (by decide) ?_
  refine y_newI (N := 200) F hP hD hS (List.mem_cons_of_mem _ (List.mem_append_left _ (List.mem_append_left _ (List.mem_of_getElem? (i := 4) rfl)))) (by decide) (by decide) (by decide) (Nat.le_of_ble_eq_true rfl) (Nat.le_of_ble_eq_true rfl) dX11_init_353 (fun m51 w1132 ew1133 hq1134 H hP hD hS => ?_)
  refine W.widen (k := 125) (n := 7357) (Nat.le_of_ble_eq_true rfl) (Nat.le_of_ble_eq_true rfl) ?_
  have k1135 := wd_at.ad ew1133 hq1134 k1124
  have k1136 : wd_at w1132 m51 (.inl (cy 2, 200, .inl (fun _ => 0))) := wd_at.nw ew1133
  have fm1137 : ∀ k9, k9 < 12 → qp k9 = some (pr k9) ∧ wd_at w1132 (pr k9) (.inl (cy 2, 12, .inl (fp k9))) ∧ tg1114 (pr k9) = 11000 + k9 := fun k9 hi9 => ⟨(fm1126 k9 hi9).1, wd_at.ad ew1133 hq1134 (fm1126 k9 hi9).2.1, (fm1126 k9 hi9).2.2⟩
  have fn1138 : ∀ k9, k9 < 12 → (pr k9) ≠ m51 := fun k9 hi9 => wd_nL hq1134 (fm1126 k9 hi9).2.1
  have fm1139 : ∀ k9, k9 < 12 → qw k9 = some (wr k9) ∧ wd_at w1132 (wr k9) (.inl (cy 2, 12, .inl (fw k9))) ∧ tg1114 (wr k9) = 12000 + k9 := fun k9 hi9 => ⟨(fm1127 k9 hi9).1, wd_at.ad ew1133 hq1134 (fm1127 k9 hi9).2.1, (fm1127 k9 hi9).2.2⟩
  have fn1140 : ∀ k9, k9 < 12 → (wr k9) ≠ m51 := fun k9 hi9 => wd_nL hq1134 (fm1127 k9 hi9).2.1
  have fm1141 : ∀ k9, k9 < 60 → qs k9 = some (sr k9) ∧ wd_at w1132 (sr k9) (.inl (cy 2, 12, .inl (fs k9))) ∧ tg1114 (sr k9) = 13000 + k9 := fun k9 hi9 => ⟨(fm1128 k9 hi9).1, wd_at.ad ew1133 hq1134 (fm1128 k9 hi9).2.1, (fm1128 k9 hi9).2.2⟩
  have fn1142 : ∀ k9, k9 < 60 → (sr k9) ≠ m51 := fun k9 hi9 => wd_nL hq1134 (fm1128 k9 hi9).2.1
  have kp1143 := kp1129.add ew1133 hq1134
  obtain ⟨tg1144, et1145⟩ : ∃ f : Nat → Nat, f = va_up tg1114 m51 (10151) := ⟨_, rfl⟩
  have t1146 := tgX et1145 (wd_nL hq1134 k1124) t1116
  have fm1147 : ∀ k9, k9 < 12 → qp k9 = some (pr k9) ∧ wd_at w1132 (pr k9) (.inl (cy 2, 12, .inl (fp k9))) ∧ tg1144 (pr k9) = 11000 + k9 := fun k9 hi9 => ⟨(fm1137 k9 hi9).1, (fm1137 k9 hi9).2.1, tgX et1145 (fn1138 k9 hi9) (fm1137 k9 hi9).2.2⟩
  have fm1148 : ∀ k9, k9 < 12 → qw k9 = some (wr k9) ∧ wd_at w1132 (wr k9) (.inl (cy 2, 12, .inl (fw k9))) ∧ tg1144 (wr k9) = 12000 + k9 := fun k9 hi9 => ⟨(fm1139 k9 hi9).1, (fm1139 k9 hi9).2.1, tgX et1145 (fn1140 k9 hi9) (fm1139 k9 hi9).2.2⟩
  have fm1149 : ∀ k9, k9 < 60 → qs k9 = some (sr k9) ∧ wd_at w1132 (sr k9) (.inl (cy 2, 12, .inl (fs k9))) ∧ tg1144 (sr k9) = 13000 + k9 := fun k9 hi9 => ⟨(fm1141 k9 hi9).1, (fm1141 k9 hi9).2.1, tgX et1145 (fn1142 k9 hi9) (fm1141 k9 hi9).2.2⟩
  have hext1150 := tgE et1145 (kp1129.out hq1134) hext1120
  have hb91151 := bnd.ad ew1133 hq1134 et1145 hb91131
  refine y_putF (ref := "NoteHouseModel") F hP hD hS k1135 rfl (fun _ h => List.mem_cons_of_mem _ (List.mem_append_right _ (h))) tyX11_ok nmX11 hnm 51 (Nat.le_of_ble_eq_true rfl) (List.mem_cons_of_mem _ (List.mem_append_left _ (List.mem_append_right _ (List.mem_append_right _ (List.mem_of_getElem? (i := 0) rfl))))) rfl rfl rfl rfl rfl (Nat.le_of_ble_eq_true rfl) dX11_init_355 (fun w1152 ew1153 H locs hP hD hS => ?_)
  have k1154 : wd_at w1152 y (.inr (11, [.int 0, .int 0, .ref m2, .ref m3, .ref m4, .ref m5, .ref m6, .int 0, .ref m8, .ref m9, .ref m10, .ref m11, .ref m12, .ref m13, .ref m14, .int 0, .int 0, .ref m17, .ref m18, .ref m19, .ref m20, .ref m21, .ref m22, .ref m23, .ref m24, .int 0, .int 0, .int 0, .int 0, .ref m29, .ref m30, .ref m31, .ref m32, .ref m33, .ref m34, .ref m35, .ref m36, .ref m37, .int 0, .ref m39, .ref m40, .ref m41, .ref m42, .ref m43, .ref m44, .ref m45, .ref m46, .ref m47, .ref m48, .ref m49, .int 0, .ref m51, .null, .null, .null, .int 0, .null, .null, .null, .null])) := wd_at.ps ew1153 k1135
  have k1155 := wd_at.pt ew1153 k1136 (tg_ne (tgN et1145) t1146 (by decide))
  have fm1156 : ∀ k9, k9 < 12 → qp k9 = some (pr k9) ∧ wd_at w1152 (pr k9) (.inl (cy 2, 12, .inl (fp k9))) ∧ tg1144 (pr k9) = 11000 + k9 := fun k9 hi9 => ⟨(fm1147 k9 hi9).1, wd_at.pt ew1153 (fm1147 k9 hi9).2.1 (tg_ne (fm1147 k9 hi9).2.2 t1146 (tnA (show 10000 < 11000 by decide))), (fm1147 k9 hi9).2.2⟩
  have fm1157 : ∀ k9, k9 < 12 → qw k9 = some (wr k9) ∧ wd_at w1152 (wr k9) (.inl (cy 2, 12, .inl (fw k9))) ∧ tg1144 (wr k9) = 12000 + k9 := fun k9 hi9 => ⟨(fm1148 k9 hi9).1, wd_at.pt ew1153 (fm1148 k9 hi9).2.1 (tg_ne (fm1148 k9 hi9).2.2 t1146 (tnA (show 10000 < 12000 by decide))), (fm1148 k9 hi9).2.2⟩
  have fm1158 : ∀ k9, k9 < 60 → qs k9 = some (sr k9) ∧ wd_at w1152 (sr k9) (.inl (cy 2, 12, .inl (fs k9))) ∧ tg1144 (sr k9) = 13000 + k9 := fun k9 hi9 => ⟨(fm1149 k9 hi9).1, wd_at.pt ew1153 (fm1149 k9 hi9).2.1 (tg_ne (fm1149 k9 hi9).2.2 t1146 (tnA (show 10000 < 13000 by decide))), (fm1149 k9 hi9).2.2⟩
  have kp1159 := kp1143.put ew1153 sy
  have hb91160 := bnd.pt ew1153 t1146 hb91151
  have hb91161 := bnd.cons hb91160 k1155 (tgN et1145) (show 10000 < 10151 by decide)
  refine lv_aload_n hx hb dX11_init_358 rfl (lv_at hl 0 rfl) ?_
  refine lv_sipush (v := 200) hx hb dX11_init_359 (by decide) ?_
  refine y_newJ (N := 200) F hP hD hS (List.mem_cons_of_mem _ (List.mem_append_left _ (List.mem_append_right _ (List.mem_append_left _ (List.mem_of_getElem? (i := 21) rfl))))) (by decide) (by decide) (by decide) (Nat.le_of_ble_eq_true rfl) (Nat.le_of_ble_eq_true rfl) dX11_init_362 (fun m52 w1162 ew1163 hq1164 H hP hD hS => ?_)
  refine W.widen (k := 126) (n := 7557) (Nat.le_of_ble_eq_true rfl) (Nat.le_of_ble_eq_true rfl) ?_
  have k1165 := wd_at.ad ew1163 hq1164 k1154
  have k1166 : wd_at w1162 m52 (.inl (cy 3, 200, .inr (.inl (fun _ => 0)))) := wd_at.nw ew1163
  have fm1167 : ∀ k9, k9 < 12 → qp k9 = some (pr k9) ∧ wd_at w1162 (pr k9) (.inl (cy 2, 12, .inl (fp k9))) ∧ tg1144 (pr k9) = 11000 + k9 := fun k9 hi9 => ⟨(fm1156 k9 hi9).1, wd_at.ad ew1163 hq1164 (fm1156 k9 hi9).2.1, (fm1156 k9 hi9).2.2⟩
  have fn1168 : ∀ k9, k9 < 12 → (pr k9) ≠ m52 := fun k9 hi9 => wd_nL hq1164 (fm1156 k9 hi9).2.1
  have fm1169 : ∀ k9, k9 < 12 → qw k9 = some (wr k9) ∧ wd_at w1162 (wr k9) (.inl (cy 2, 12, .inl (fw k9))) ∧ tg1144 (wr k9) = 12000 + k9 := fun k9 hi9 => ⟨(fm1157 k9 hi9).1, wd_at.ad ew1163 hq1164 (fm1157 k9 hi9).2.1, (fm1157 k9 hi9).2.2⟩
  have fn1170 : ∀ k9, k9 < 12 → (wr k9) ≠ m52 := fun k9 hi9 => wd_nL hq1164 (fm1157 k9 hi9).2.1
  have fm1171 : ∀ k9, k9 < 60 → qs k9 = some (sr k9) ∧ wd_at w1162 (sr k9) (.inl (cy 2, 12, .inl (fs k9))) ∧ tg1144 (sr k9) = 13000 + k9 := fun k9 hi9 => ⟨(fm1158 k9 hi9).1, wd_at.ad ew1163 hq1164 (fm1158 k9 hi9).2.1, (fm1158 k9 hi9).2.2⟩
  have fn1172 : ∀ k9, k9 < 60 → (sr k9) ≠ m52 := fun k9 hi9 => wd_nL hq1164 (fm1158 k9 hi9).2.1
  have kp1173 := kp1159.add ew1163 hq1164
  obtain ⟨tg1174, et1175⟩ : ∃ f : Nat → Nat, f = va_up tg1144 m52 (10152) := ⟨_, rfl⟩
  have t1176 := tgX et1175 (wd_nL hq1164 k1154) t1146
  have fm1177 : ∀ k9, k9 < 12 → qp k9 = some (pr k9) ∧ wd_at w1162 (pr k9) (.inl (cy 2, 12, .inl (fp k9))) ∧ tg1174 (pr k9) = 11000 + k9 := fun k9 hi9 => ⟨(fm1167 k9 hi9).1, (fm1167 k9 hi9).2.1, tgX et1175 (fn1168 k9 hi9) (fm1167 k9 hi9).2.2⟩
  have fm1178 : ∀ k9, k9 < 12 → qw k9 = some (wr k9) ∧ wd_at w1162 (wr k9) (.inl (cy 2, 12, .inl (fw k9))) ∧ tg1174 (wr k9) = 12000 + k9 := fun k9 hi9 => ⟨(fm1169 k9 hi9).1, (fm1169 k9 hi9).2.1, tgX et1175 (fn1170 k9 hi9) (fm1169 k9 hi9).2.2⟩
  have fm1179 : ∀ k9, k9 < 60 → qs k9 = some (sr k9) ∧ wd_at w1162 (sr k9) (.inl (cy 2, 12, .inl (fs k9))) ∧ tg1174 (sr k9) = 13000 + k9 := fun k9 hi9 => ⟨(fm1171 k9 hi9).1, (fm1171 k9 hi9).2.1, tgX et1175 (fn1172 k9 hi9) (fm1171 k9 hi9).2.2⟩
  have hext1180 := tgE et1175 (kp1159.out hq1164) hext1150
  have hb91181 := bnd.ad ew1163 hq1164 et1175 hb91161
  refine y_putF (ref := "NoteHouseModel") F hP hD hS k1165 rfl (fun _ h => List.mem_cons_of_mem _ (List.mem_append_right _ (h))) tyX11_ok nmX11 hnm 52 (Nat.le_of_ble_eq_true rfl) (List.mem_cons_of_mem _ (List.mem_append_left _ (List.mem_append_right _ (List.mem_append_right _ (List.mem_of_getElem? (i := 1) rfl))))) rfl rfl rfl rfl rfl (Nat.le_of_ble_eq_true rfl) dX11_init_364 (fun w1182 ew1183 H locs hP hD hS => ?_)
  have k1184 : wd_at w1182 y (.inr (11, [.int 0, .int 0, .ref m2, .ref m3, .ref m4, .ref m5, .ref m6, .int 0, .ref m8, .ref m9, .ref m10, .ref m11, .ref m12, .ref m13, .ref m14, .int 0, .int 0, .ref m17, .ref m18, .ref m19, .ref m20, .ref m21, .ref m22, .ref m23, .ref m24, .int 0, .int 0, .int 0, .int 0, .ref m29, .ref m30, .ref m31, .ref m32, .ref m33, .ref m34, .ref m35, .ref m36, .ref m37, .int 0, .ref m39, .ref m40, .ref m41, .ref m42, .ref m43, .ref m44, .ref m45, .ref m46, .ref m47, .ref m48, .ref m49, .int 0, .ref m51, .ref m52, .null, .null, .int 0, .null, .null, .null, .null])) := wd_at.ps ew1183 k1165
  have k1185 := wd_at.pt ew1183 k1166 (tg_ne (tgN et1175) t1176 (by decide))
  have fm1186 : ∀ k9, k9 < 12 → qp k9 = some (pr k9) ∧ wd_at w1182 (pr k9) (.inl (cy 2, 12, .inl (fp k9))) ∧ tg1174 (pr k9) = 11000 + k9 := fun k9 hi9 => ⟨(fm1177 k9 hi9).1, wd_at.pt ew1183 (fm1177 k9 hi9).2.1 (tg_ne (fm1177 k9 hi9).2.2 t1176 (tnA (show 10000 < 11000 by decide))), (fm1177 k9 hi9).2.2⟩
  have fm1187 : ∀ k9, k9 < 12 → qw k9 = some (wr k9) ∧ wd_at w1182 (wr k9) (.inl (cy 2, 12, .inl (fw k9))) ∧ tg1174 (wr k9) = 12000 + k9 := fun k9 hi9 => ⟨(fm1178 k9 hi9).1, wd_at.pt ew1183 (fm1178 k9 hi9).2.1 (tg_ne (fm1178 k9 hi9).2.2 t1176 (tnA (show 10000 < 12000 by decide))), (fm1178 k9 hi9).2.2⟩
  have fm1188 : ∀ k9, k9 < 60 → qs k9 = some (sr k9) ∧ wd_at w1182 (sr k9) (.inl (cy 2, 12, .inl (fs k9))) ∧ tg1174 (sr k9) = 13000 + k9 := fun k9 hi9 => ⟨(fm1179 k9 hi9).1, wd_at.pt ew1183 (fm1179 k9 hi9).2.1 (tg_ne (fm1179 k9 hi9).2.2 t1176 (tnA (show 10000 < 13000 by decide))), (fm1179 k9 hi9).2.2⟩
  have kp1189 := kp1173.put ew1183 sy
  have hb91190 := bnd.pt ew1183 t1176 hb91181
  have hb91191 := bnd.cons hb91190 k1185 (tgN et1175) (show 10000 < 10152 by decide)
  refine lv_aload_n hx hb dX11_init_367 rfl (lv_at hl 0 rfl) ?_
  refine lv_bipush (v := 12) hx hb dX11_init_368 (by decide) ?_
  refine y_newJ (N := 12) F hP hD hS (List.mem_cons_of_mem _ (List.mem_append_left _ (List.mem_append_right _ (List.mem_append_left _ (List.mem_of_getElem? (i := 21) rfl))))) (by decide) (by decide) (by decide) (Nat.le_of_ble_eq_true rfl) (Nat.le_of_ble_eq_true rfl) dX11_init_370 (fun m53 w1192 ew1193 hq1194 H hP hD hS => ?_)
  refine W.widen (k := 127) (n := 7569) (Nat.le_of_ble_eq_true rfl) (Nat.le_of_ble_eq_true rfl) ?_
  have k1195 := wd_at.ad ew1193 hq1194 k1184
  have k1196 : wd_at w1192 m53 (.inl (cy 3, 12, .inr (.inl (fun _ => 0)))) := wd_at.nw ew1193
  have fm1197 : ∀ k9, k9 < 12 → qp k9 = some (pr k9) ∧ wd_at w1192 (pr k9) (.inl (cy 2, 12, .inl (fp k9))) ∧ tg1174 (pr k9) = 11000 + k9 := fun k9 hi9 => ⟨(fm1186 k9 hi9).1, wd_at.ad ew1193 hq1194 (fm1186 k9 hi9).2.1, (fm1186 k9 hi9).2.2⟩
  have fn1198 : ∀ k9, k9 < 12 → (pr k9) ≠ m53 := fun k9 hi9 => wd_nL hq1194 (fm1186 k9 hi9).2.1
  have fm1199 : ∀ k9, k9 < 12 → qw k9 = some (wr k9) ∧ wd_at w1192 (wr k9) (.inl (cy 2, 12, .inl (fw k9))) ∧ tg1174 (wr k9) = 12000 + k9 := fun k9 hi9 => ⟨(fm1187 k9 hi9).1, wd_at.ad ew1193 hq1194 (fm1187 k9 hi9).2.1, (fm1187 k9 hi9).2.2⟩
  have fn1200 : ∀ k9, k9 < 12 → (wr k9) ≠ m53 := fun k9 hi9 => wd_nL hq1194 (fm1187 k9 hi9).2.1
  have fm1201 : ∀ k9, k9 < 60 → qs k9 = some (sr k9) ∧ wd_at w1192 (sr k9) (.inl (cy 2, 12, .inl (fs k9))) ∧ tg1174 (sr k9) = 13000 + k9 := fun k9 hi9 => ⟨(fm1188 k9 hi9).1, wd_at.ad ew1193 hq1194 (fm1188 k9 hi9).2.1, (fm1188 k9 hi9).2.2⟩
  have fn1202 : ∀ k9, k9 < 60 → (sr k9) ≠ m53 := fun k9 hi9 => wd_nL hq1194 (fm1188 k9 hi9).2.1
  have kp1203 := kp1189.add ew1193 hq1194
  obtain ⟨tg1204, et1205⟩ : ∃ f : Nat → Nat, f = va_up tg1174 m53 (10153) := ⟨_, rfl⟩
  have t1206 := tgX et1205 (wd_nL hq1194 k1184) t1176
  have fm1207 : ∀ k9, k9 < 12 → qp k9 = some (pr k9) ∧ wd_at w1192 (pr k9) (.inl (cy 2, 12, .inl (fp k9))) ∧ tg1204 (pr k9) = 11000 + k9 := fun k9 hi9 => ⟨(fm1197 k9 hi9).1, (fm1197 k9 hi9).2.1, tgX et1205 (fn1198 k9 hi9) (fm1197 k9 hi9).2.2⟩
  have fm1208 : ∀ k9, k9 < 12 → qw k9 = some (wr k9) ∧ wd_at w1192 (wr k9) (.inl (cy 2, 12, .inl (fw k9))) ∧ tg1204 (wr k9) = 12000 + k9 := fun k9 hi9 => ⟨(fm1199 k9 hi9).1, (fm1199 k9 hi9).2.1, tgX et1205 (fn1200 k9 hi9) (fm1199 k9 hi9).2.2⟩
  have fm1209 : ∀ k9, k9 < 60 → qs k9 = some (sr k9) ∧ wd_at w1192 (sr k9) (.inl (cy 2, 12, .inl (fs k9))) ∧ tg1204 (sr k9) = 13000 + k9 := fun k9 hi9 => ⟨(fm1201 k9 hi9).1, (fm1201 k9 hi9).2.1, tgX et1205 (fn1202 k9 hi9) (fm1201 k9 hi9).2.2⟩
  have hext1210 := tgE et1205 (kp1189.out hq1194) hext1180
  have hb91211 := bnd.ad ew1193 hq1194 et1205 hb91191
  refine y_putF (ref := "NoteHouseModel") F hP hD hS k1195 rfl (fun _ h => List.mem_cons_of_mem _ (List.mem_append_right _ (h))) tyX11_ok nmX11 hnm 53 (Nat.le_of_ble_eq_true rfl) (List.mem_cons_of_mem _ (List.mem_append_left _ (List.mem_append_right _ (List.mem_append_right _ (List.mem_of_getElem? (i := 2) rfl))))) rfl rfl rfl rfl rfl (Nat.le_of_ble_eq_true rfl) dX11_init_372 (fun w1212 ew1213 H locs hP hD hS => ?_)
  have k1214 : wd_at w1212 y (.inr (11, [.int 0, .int 0, .ref m2, .ref m3, .ref m4, .ref m5, .ref m6, .int 0, .ref m8, .ref m9, .ref m10, .ref m11, .ref m12, .ref m13, .ref m14, .int 0, .int 0, .ref m17, .ref m18, .ref m19, .ref m20, .ref m21, .ref m22, .ref m23, .ref m24, .int 0, .int 0, .int 0, .int 0, .ref m29, .ref m30, .ref m31, .ref m32, .ref m33, .ref m34, .ref m35, .ref m36, .ref m37, .int 0, .ref m39, .ref m40, .ref m41, .ref m42, .ref m43, .ref m44, .ref m45, .ref m46, .ref m47, .ref m48, .ref m49, .int 0, .ref m51, .ref m52, .ref m53, .null, .int 0, .null, .null, .null, .null])) := wd_at.ps ew1213 k1195
  have k1215 := wd_at.pt ew1213 k1196 (tg_ne (tgN et1205) t1206 (by decide))
  have fm1216 : ∀ k9, k9 < 12 → qp k9 = some (pr k9) ∧ wd_at w1212 (pr k9) (.inl (cy 2, 12, .inl (fp k9))) ∧ tg1204 (pr k9) = 11000 + k9 := fun k9 hi9 => ⟨(fm1207 k9 hi9).1, wd_at.pt ew1213 (fm1207 k9 hi9).2.1 (tg_ne (fm1207 k9 hi9).2.2 t1206 (tnA (show 10000 < 11000 by decide))), (fm1207 k9 hi9).2.2⟩
  have fm1217 : ∀ k9, k9 < 12 → qw k9 = some (wr k9) ∧ wd_at w1212 (wr k9) (.inl (cy 2, 12, .inl (fw k9))) ∧ tg1204 (wr k9) = 12000 + k9 := fun k9 hi9 => ⟨(fm1208 k9 hi9).1, wd_at.pt ew1213 (fm1208 k9 hi9).2.1 (tg_ne (fm1208 k9 hi9).2.2 t1206 (tnA (show 10000 < 12000 by decide))), (fm1208 k9 hi9).2.2⟩
  have fm1218 : ∀ k9, k9 < 60 → qs k9 = some (sr k9) ∧ wd_at w1212 (sr k9) (.inl (cy 2, 12, .inl (fs k9))) ∧ tg1204 (sr k9) = 13000 + k9 := fun k9 hi9 => ⟨(fm1209 k9 hi9).1, wd_at.pt ew1213 (fm1209 k9 hi9).2.1 (tg_ne (fm1209 k9 hi9).2.2 t1206 (tnA (show 10000 < 13000 by decide))), (fm1209 k9 hi9).2.2⟩
  have kp1219 := kp1203.put ew1213 sy
  have hb91220 := bnd.pt ew1213 t1206 hb91211
  have hb91221 := bnd.cons hb91220 k1215 (tgN et1205) (show 10000 < 10153 by decide)
  refine lv_aload_n hx hb dX11_init_375 rfl (lv_at hl 0 rfl) ?_
  refine lv_bipush (v := 12) hx hb dX11_init_376 (by decide) ?_
  refine y_newJ (N := 12) F hP hD hS (List.mem_cons_of_mem _ (List.mem_append_left _ (List.mem_append_right _ (List.mem_append_left _ (List.mem_of_getElem? (i := 21) rfl))))) (by decide) (by decide) (by decide) (Nat.le_of_ble_eq_true rfl) (Nat.le_of_ble_eq_true rfl) dX11_init_378 (fun m54 w1222 ew1223 hq1224 H hP hD hS => ?_)
  refine W.widen (k := 128) (n := 7581) (Nat.le_of_ble_eq_true rfl) (Nat.le_of_ble_eq_true rfl) ?_
  have k1225 := wd_at.ad ew1223 hq1224 k1214
  have k1226 : wd_at w1222 m54 (.inl (cy 3, 12, .inr (.inl (fun _ => 0)))) := wd_at.nw ew1223
  have fm1227 : ∀ k9, k9 < 12 → qp k9 = some (pr k9) ∧ wd_at w1222 (pr k9) (.inl (cy 2, 12, .inl (fp k9))) ∧ tg1204 (pr k9) = 11000 + k9 := fun k9 hi9 => ⟨(fm1216 k9 hi9).1, wd_at.ad ew1223 hq1224 (fm1216 k9 hi9).2.1, (fm1216 k9 hi9).2.2⟩
  have fn1228 : ∀ k9, k9 < 12 → (pr k9) ≠ m54 := fun k9 hi9 => wd_nL hq1224 (fm1216 k9 hi9).2.1
  have fm1229 : ∀ k9, k9 < 12 → qw k9 = some (wr k9) ∧ wd_at w1222 (wr k9) (.inl (cy 2, 12, .inl (fw k9))) ∧ tg1204 (wr k9) = 12000 + k9 := fun k9 hi9 => ⟨(fm1217 k9 hi9).1, wd_at.ad ew1223 hq1224 (fm1217 k9 hi9).2.1, (fm1217 k9 hi9).2.2⟩
  have fn1230 : ∀ k9, k9 < 12 → (wr k9) ≠ m54 := fun k9 hi9 => wd_nL hq1224 (fm1217 k9 hi9).2.1
  have fm1231 : ∀ k9, k9 < 60 → qs k9 = some (sr k9) ∧ wd_at w1222 (sr k9) (.inl (cy 2, 12, .inl (fs k9))) ∧ tg1204 (sr k9) = 13000 + k9 := fun k9 hi9 => ⟨(fm1218 k9 hi9).1, wd_at.ad ew1223 hq1224 (fm1218 k9 hi9).2.1, (fm1218 k9 hi9).2.2⟩
  have fn1232 : ∀ k9, k9 < 60 → (sr k9) ≠ m54 := fun k9 hi9 => wd_nL hq1224 (fm1218 k9 hi9).2.1
  have kp1233 := kp1219.add ew1223 hq1224
  obtain ⟨tg1234, et1235⟩ : ∃ f : Nat → Nat, f = va_up tg1204 m54 (10154) := ⟨_, rfl⟩
  have t1236 := tgX et1235 (wd_nL hq1224 k1214) t1206
  have fm1237 : ∀ k9, k9 < 12 → qp k9 = some (pr k9) ∧ wd_at w1222 (pr k9) (.inl (cy 2, 12, .inl (fp k9))) ∧ tg1234 (pr k9) = 11000 + k9 := fun k9 hi9 => ⟨(fm1227 k9 hi9).1, (fm1227 k9 hi9).2.1, tgX et1235 (fn1228 k9 hi9) (fm1227 k9 hi9).2.2⟩
  have fm1238 : ∀ k9, k9 < 12 → qw k9 = some (wr k9) ∧ wd_at w1222 (wr k9) (.inl (cy 2, 12, .inl (fw k9))) ∧ tg1234 (wr k9) = 12000 + k9 := fun k9 hi9 => ⟨(fm1229 k9 hi9).1, (fm1229 k9 hi9).2.1, tgX et1235 (fn1230 k9 hi9) (fm1229 k9 hi9).2.2⟩
  have fm1239 : ∀ k9, k9 < 60 → qs k9 = some (sr k9) ∧ wd_at w1222 (sr k9) (.inl (cy 2, 12, .inl (fs k9))) ∧ tg1234 (sr k9) = 13000 + k9 := fun k9 hi9 => ⟨(fm1231 k9 hi9).1, (fm1231 k9 hi9).2.1, tgX et1235 (fn1232 k9 hi9) (fm1231 k9 hi9).2.2⟩
  have hext1240 := tgE et1235 (kp1219.out hq1224) hext1210
  have hb91241 := bnd.ad ew1223 hq1224 et1235 hb91221
  refine y_putF (ref := "NoteHouseModel") F hP hD hS k1225 rfl (fun _ h => List.mem_cons_of_mem _ (List.mem_append_right _ (h))) tyX11_ok nmX11 hnm 54 (Nat.le_of_ble_eq_true rfl) (List.mem_cons_of_mem _ (List.mem_append_left _ (List.mem_append_right _ (List.mem_append_right _ (List.mem_of_getElem? (i := 3) rfl))))) rfl rfl rfl rfl rfl (Nat.le_of_ble_eq_true rfl) dX11_init_380 (fun w1242 ew1243 H locs hP hD hS => ?_)
  have k1244 : wd_at w1242 y (.inr (11, [.int 0, .int 0, .ref m2, .ref m3, .ref m4, .ref m5, .ref m6, .int 0, .ref m8, .ref m9, .ref m10, .ref m11, .ref m12, .ref m13, .ref m14, .int 0, .int 0, .ref m17, .ref m18, .ref m19, .ref m20, .ref m21, .ref m22, .ref m23, .ref m24, .int 0, .int 0, .int 0, .int 0, .ref m29, .ref m30, .ref m31, .ref m32, .ref m33, .ref m34, .ref m35, .ref m36, .ref m37, .int 0, .ref m39, .ref m40, .ref m41, .ref m42, .ref m43, .ref m44, .ref m45, .ref m46, .ref m47, .ref m48, .ref m49, .int 0, .ref m51, .ref m52, .ref m53, .ref m54, .int 0, .null, .null, .null, .null])) := wd_at.ps ew1243 k1225
  have k1245 := wd_at.pt ew1243 k1226 (tg_ne (tgN et1235) t1236 (by decide))
  have fm1246 : ∀ k9, k9 < 12 → qp k9 = some (pr k9) ∧ wd_at w1242 (pr k9) (.inl (cy 2, 12, .inl (fp k9))) ∧ tg1234 (pr k9) = 11000 + k9 := fun k9 hi9 => ⟨(fm1237 k9 hi9).1, wd_at.pt ew1243 (fm1237 k9 hi9).2.1 (tg_ne (fm1237 k9 hi9).2.2 t1236 (tnA (show 10000 < 11000 by decide))), (fm1237 k9 hi9).2.2⟩
  have fm1247 : ∀ k9, k9 < 12 → qw k9 = some (wr k9) ∧ wd_at w1242 (wr k9) (.inl (cy 2, 12, .inl (fw k9))) ∧ tg1234 (wr k9) = 12000 + k9 := fun k9 hi9 => ⟨(fm1238 k9 hi9).1, wd_at.pt ew1243 (fm1238 k9 hi9).2.1 (tg_ne (fm1238 k9 hi9).2.2 t1236 (tnA (show 10000 < 12000 by decide))), (fm1238 k9 hi9).2.2⟩
  have fm1248 : ∀ k9, k9 < 60 → qs k9 = some (sr k9) ∧ wd_at w1242 (sr k9) (.inl (cy 2, 12, .inl (fs k9))) ∧ tg1234 (sr k9) = 13000 + k9 := fun k9 hi9 => ⟨(fm1239 k9 hi9).1, wd_at.pt ew1243 (fm1239 k9 hi9).2.1 (tg_ne (fm1239 k9 hi9).2.2 t1236 (tnA (show 10000 < 13000 by decide))), (fm1239 k9 hi9).2.2⟩
  have kp1249 := kp1233.put ew1243 sy
  have hb91250 := bnd.pt ew1243 t1236 hb91241
  have hb91251 := bnd.cons hb91250 k1245 (tgN et1235) (show 10000 < 10154 by decide)
  refine lv_aload_n hx hb dX11_init_383 rfl (lv_at hl 0 rfl) ?_
  refine lv_bipush (v := 60) hx hb dX11_init_384 (by decide) ?_
  refine y_newI (N := 60) F hP hD hS (List.mem_cons_of_mem _ (List.mem_append_left _ (List.mem_append_left _ (List.mem_of_getElem? (i := 4) rfl)))) (by decide) (by decide) (by decide) (Nat.le_of_ble_eq_true rfl) (Nat.le_of_ble_eq_true rfl) dX11_init_386 (fun m56 w1252 ew1253 hq1254 H hP hD hS => ?_)
  refine W.widen (k := 129) (n := 7641) (Nat.le_of_ble_eq_true rfl) (Nat.le_of_ble_eq_true rfl) ?_
  have k1255 := wd_at.ad ew1253 hq1254 k1244
  have k1256 : wd_at w1252 m56 (.inl (cy 2, 60, .inl (fun _ => 0))) := wd_at.nw ew1253
  have fm1257 : ∀ k9, k9 < 12 → qp k9 = some (pr k9) ∧ wd_at w1252 (pr k9) (.inl (cy 2, 12, .inl (fp k9))) ∧ tg1234 (pr k9) = 11000 + k9 := fun k9 hi9 => ⟨(fm1246 k9 hi9).1, wd_at.ad ew1253 hq1254 (fm1246 k9 hi9).2.1, (fm1246 k9 hi9).2.2⟩
  have fn1258 : ∀ k9, k9 < 12 → (pr k9) ≠ m56 := fun k9 hi9 => wd_nL hq1254 (fm1246 k9 hi9).2.1
  have fm1259 : ∀ k9, k9 < 12 → qw k9 = some (wr k9) ∧ wd_at w1252 (wr k9) (.inl (cy 2, 12, .inl (fw k9))) ∧ tg1234 (wr k9) = 12000 + k9 := fun k9 hi9 => ⟨(fm1247 k9 hi9).1, wd_at.ad ew1253 hq1254 (fm1247 k9 hi9).2.1, (fm1247 k9 hi9).2.2⟩
  have fn1260 : ∀ k9, k9 < 12 → (wr k9) ≠ m56 := fun k9 hi9 => wd_nL hq1254 (fm1247 k9 hi9).2.1
  have fm1261 : ∀ k9, k9 < 60 → qs k9 = some (sr k9) ∧ wd_at w1252 (sr k9) (.inl (cy 2, 12, .inl (fs k9))) ∧ tg1234 (sr k9) = 13000 + k9 := fun k9 hi9 => ⟨(fm1248 k9 hi9).1, wd_at.ad ew1253 hq1254 (fm1248 k9 hi9).2.1, (fm1248 k9 hi9).2.2⟩
  have fn1262 : ∀ k9, k9 < 60 → (sr k9) ≠ m56 := fun k9 hi9 => wd_nL hq1254 (fm1248 k9 hi9).2.1
  have kp1263 := kp1249.add ew1253 hq1254
  obtain ⟨tg1264, et1265⟩ : ∃ f : Nat → Nat, f = va_up tg1234 m56 (10156) := ⟨_, rfl⟩
  have t1266 := tgX et1265 (wd_nL hq1254 k1244) t1236
  have fm1267 : ∀ k9, k9 < 12 → qp k9 = some (pr k9) ∧ wd_at w1252 (pr k9) (.inl (cy 2, 12, .inl (fp k9))) ∧ tg1264 (pr k9) = 11000 + k9 := fun k9 hi9 => ⟨(fm1257 k9 hi9).1, (fm1257 k9 hi9).2.1, tgX et1265 (fn1258 k9 hi9) (fm1257 k9 hi9).2.2⟩
  have fm1268 : ∀ k9, k9 < 12 → qw k9 = some (wr k9) ∧ wd_at w1252 (wr k9) (.inl (cy 2, 12, .inl (fw k9))) ∧ tg1264 (wr k9) = 12000 + k9 := fun k9 hi9 => ⟨(fm1259 k9 hi9).1, (fm1259 k9 hi9).2.1, tgX et1265 (fn1260 k9 hi9) (fm1259 k9 hi9).2.2⟩
  have fm1269 : ∀ k9, k9 < 60 → qs k9 = some (sr k9) ∧ wd_at w1252 (sr k9) (.inl (cy 2, 12, .inl (fs k9))) ∧ tg1264 (sr k9) = 13000 + k9 := fun k9 hi9 => ⟨(fm1261 k9 hi9).1, (fm1261 k9 hi9).2.1, tgX et1265 (fn1262 k9 hi9) (fm1261 k9 hi9).2.2⟩
  have hext1270 := tgE et1265 (kp1249.out hq1254) hext1240
  have hb91271 := bnd.ad ew1253 hq1254 et1265 hb91251
  refine y_putF (ref := "NoteHouseModel") F hP hD hS k1255 rfl (fun _ h => List.mem_cons_of_mem _ (List.mem_append_right _ (h))) tyX11_ok nmX11 hnm 56 (Nat.le_of_ble_eq_true rfl) (List.mem_cons_of_mem _ (List.mem_append_left _ (List.mem_append_right _ (List.mem_append_right _ (List.mem_of_getElem? (i := 4) rfl))))) rfl rfl rfl rfl rfl (Nat.le_of_ble_eq_true rfl) dX11_init_388 (fun w1272 ew1273 H locs hP hD hS => ?_)
  have k1274 : wd_at w1272 y (.inr (11, [.int 0, .int 0, .ref m2, .ref m3, .ref m4, .ref m5, .ref m6, .int 0, .ref m8, .ref m9, .ref m10, .ref m11, .ref m12, .ref m13, .ref m14, .int 0, .int 0, .ref m17, .ref m18, .ref m19, .ref m20, .ref m21, .ref m22, .ref m23, .ref m24, .int 0, .int 0, .int 0, .int 0, .ref m29, .ref m30, .ref m31, .ref m32, .ref m33, .ref m34, .ref m35, .ref m36, .ref m37, .int 0, .ref m39, .ref m40, .ref m41, .ref m42, .ref m43, .ref m44, .ref m45, .ref m46, .ref m47, .ref m48, .ref m49, .int 0, .ref m51, .ref m52, .ref m53, .ref m54, .int 0, .ref m56, .null, .null, .null])) := wd_at.ps ew1273 k1255
  have k1275 := wd_at.pt ew1273 k1256 (tg_ne (tgN et1265) t1266 (by decide))
  have fm1276 : ∀ k9, k9 < 12 → qp k9 = some (pr k9) ∧ wd_at w1272 (pr k9) (.inl (cy 2, 12, .inl (fp k9))) ∧ tg1264 (pr k9) = 11000 + k9 := fun k9 hi9 => ⟨(fm1267 k9 hi9).1, wd_at.pt ew1273 (fm1267 k9 hi9).2.1 (tg_ne (fm1267 k9 hi9).2.2 t1266 (tnA (show 10000 < 11000 by decide))), (fm1267 k9 hi9).2.2⟩
  have fm1277 : ∀ k9, k9 < 12 → qw k9 = some (wr k9) ∧ wd_at w1272 (wr k9) (.inl (cy 2, 12, .inl (fw k9))) ∧ tg1264 (wr k9) = 12000 + k9 := fun k9 hi9 => ⟨(fm1268 k9 hi9).1, wd_at.pt ew1273 (fm1268 k9 hi9).2.1 (tg_ne (fm1268 k9 hi9).2.2 t1266 (tnA (show 10000 < 12000 by decide))), (fm1268 k9 hi9).2.2⟩
  have fm1278 : ∀ k9, k9 < 60 → qs k9 = some (sr k9) ∧ wd_at w1272 (sr k9) (.inl (cy 2, 12, .inl (fs k9))) ∧ tg1264 (sr k9) = 13000 + k9 := fun k9 hi9 => ⟨(fm1269 k9 hi9).1, wd_at.pt ew1273 (fm1269 k9 hi9).2.1 (tg_ne (fm1269 k9 hi9).2.2 t1266 (tnA (show 10000 < 13000 by decide))), (fm1269 k9 hi9).2.2⟩
  have kp1279 := kp1263.put ew1273 sy
  have hb91280 := bnd.pt ew1273 t1266 hb91271
  have hb91281 := bnd.cons hb91280 k1275 (tgN et1265) (show 10000 < 10156 by decide)
  refine lv_aload_n hx hb dX11_init_391 rfl (lv_at hl 0 rfl) ?_
  refine lv_bipush (v := 60) hx hb dX11_init_392 (by decide) ?_
  refine y_newI (N := 60) F hP hD hS (List.mem_cons_of_mem _ (List.mem_append_left _ (List.mem_append_left _ (List.mem_of_getElem? (i := 4) rfl)))) (by decide) (by decide) (by decide) (Nat.le_of_ble_eq_true rfl) (Nat.le_of_ble_eq_true rfl) dX11_init_394 (fun m57 w1282 ew1283 hq1284 H hP hD hS => ?_)
  refine W.widen (k := 130) (n := 7701) (Nat.le_of_ble_eq_true rfl) (Nat.le_of_ble_eq_true rfl) ?_
  have k1285 := wd_at.ad ew1283 hq1284 k1274
  have k1286 : wd_at w1282 m57 (.inl (cy 2, 60, .inl (fun _ => 0))) := wd_at.nw ew1283
  have fm1287 : ∀ k9, k9 < 12 → qp k9 = some (pr k9) ∧ wd_at w1282 (pr k9) (.inl (cy 2, 12, .inl (fp k9))) ∧ tg1264 (pr k9) = 11000 + k9 := fun k9 hi9 => ⟨(fm1276 k9 hi9).1, wd_at.ad ew1283 hq1284 (fm1276 k9 hi9).2.1, (fm1276 k9 hi9).2.2⟩
  have fn1288 : ∀ k9, k9 < 12 → (pr k9) ≠ m57 := fun k9 hi9 => wd_nL hq1284 (fm1276 k9 hi9).2.1
  have fm1289 : ∀ k9, k9 < 12 → qw k9 = some (wr k9) ∧ wd_at w1282 (wr k9) (.inl (cy 2, 12, .inl (fw k9))) ∧ tg1264 (wr k9) = 12000 + k9 := fun k9 hi9 => ⟨(fm1277 k9 hi9).1, wd_at.ad ew1283 hq1284 (fm1277 k9 hi9).2.1, (fm1277 k9 hi9).2.2⟩
  have fn1290 : ∀ k9, k9 < 12 → (wr k9) ≠ m57 := fun k9 hi9 => wd_nL hq1284 (fm1277 k9 hi9).2.1
  have fm1291 : ∀ k9, k9 < 60 → qs k9 = some (sr k9) ∧ wd_at w1282 (sr k9) (.inl (cy 2, 12, .inl (fs k9))) ∧ tg1264 (sr k9) = 13000 + k9 := fun k9 hi9 => ⟨(fm1278 k9 hi9).1, wd_at.ad ew1283 hq1284 (fm1278 k9 hi9).2.1, (fm1278 k9 hi9).2.2⟩
  have fn1292 : ∀ k9, k9 < 60 → (sr k9) ≠ m57 := fun k9 hi9 => wd_nL hq1284 (fm1278 k9 hi9).2.1
  have kp1293 := kp1279.add ew1283 hq1284
  obtain ⟨tg1294, et1295⟩ : ∃ f : Nat → Nat, f = va_up tg1264 m57 (10157) := ⟨_, rfl⟩
  have t1296 := tgX et1295 (wd_nL hq1284 k1274) t1266
  have fm1297 : ∀ k9, k9 < 12 → qp k9 = some (pr k9) ∧ wd_at w1282 (pr k9) (.inl (cy 2, 12, .inl (fp k9))) ∧ tg1294 (pr k9) = 11000 + k9 := fun k9 hi9 => ⟨(fm1287 k9 hi9).1, (fm1287 k9 hi9).2.1, tgX et1295 (fn1288 k9 hi9) (fm1287 k9 hi9).2.2⟩
  have fm1298 : ∀ k9, k9 < 12 → qw k9 = some (wr k9) ∧ wd_at w1282 (wr k9) (.inl (cy 2, 12, .inl (fw k9))) ∧ tg1294 (wr k9) = 12000 + k9 := fun k9 hi9 => ⟨(fm1289 k9 hi9).1, (fm1289 k9 hi9).2.1, tgX et1295 (fn1290 k9 hi9) (fm1289 k9 hi9).2.2⟩
  have fm1299 : ∀ k9, k9 < 60 → qs k9 = some (sr k9) ∧ wd_at w1282 (sr k9) (.inl (cy 2, 12, .inl (fs k9))) ∧ tg1294 (sr k9) = 13000 + k9 := fun k9 hi9 => ⟨(fm1291 k9 hi9).1, (fm1291 k9 hi9).2.1, tgX et1295 (fn1292 k9 hi9) (fm1291 k9 hi9).2.2⟩
  have hext1300 := tgE et1295 (kp1279.out hq1284) hext1270
  have hb91301 := bnd.ad ew1283 hq1284 et1295 hb91281
  refine y_putF (ref := "NoteHouseModel") F hP hD hS k1285 rfl (fun _ h => List.mem_cons_of_mem _ (List.mem_append_right _ (h))) tyX11_ok nmX11 hnm 57 (Nat.le_of_ble_eq_true rfl) (List.mem_cons_of_mem _ (List.mem_append_left _ (List.mem_append_right _ (List.mem_append_right _ (List.mem_of_getElem? (i := 5) rfl))))) rfl rfl rfl rfl rfl (Nat.le_of_ble_eq_true rfl) dX11_init_396 (fun w1302 ew1303 H locs hP hD hS => ?_)
  have k1304 : wd_at w1302 y (.inr (11, [.int 0, .int 0, .ref m2, .ref m3, .ref m4, .ref m5, .ref m6, .int 0, .ref m8, .ref m9, .ref m10, .ref m11, .ref m12, .ref m13, .ref m14, .int 0, .int 0, .ref m17, .ref m18, .ref m19, .ref m20, .ref m21, .ref m22, .ref m23, .ref m24, .int 0, .int 0, .int 0, .int 0, .ref m29, .ref m30, .ref m31, .ref m32, .ref m33, .ref m34, .ref m35, .ref m36, .ref m37, .int 0, .ref m39, .ref m40, .ref m41, .ref m42, .ref m43, .ref m44, .ref m45, .ref m46, .ref m47, .ref m48, .ref m49, .int 0, .ref m51, .ref m52, .ref m53, .ref m54, .int 0, .ref m56, .ref m57, .null, .null])) := wd_at.ps ew1303 k1285
  have k1305 := wd_at.pt ew1303 k1286 (tg_ne (tgN et1295) t1296 (by decide))
  have fm1306 : ∀ k9, k9 < 12 → qp k9 = some (pr k9) ∧ wd_at w1302 (pr k9) (.inl (cy 2, 12, .inl (fp k9))) ∧ tg1294 (pr k9) = 11000 + k9 := fun k9 hi9 => ⟨(fm1297 k9 hi9).1, wd_at.pt ew1303 (fm1297 k9 hi9).2.1 (tg_ne (fm1297 k9 hi9).2.2 t1296 (tnA (show 10000 < 11000 by decide))), (fm1297 k9 hi9).2.2⟩
  have fm1307 : ∀ k9, k9 < 12 → qw k9 = some (wr k9) ∧ wd_at w1302 (wr k9) (.inl (cy 2, 12, .inl (fw k9))) ∧ tg1294 (wr k9) = 12000 + k9 := fun k9 hi9 => ⟨(fm1298 k9 hi9).1, wd_at.pt ew1303 (fm1298 k9 hi9).2.1 (tg_ne (fm1298 k9 hi9).2.2 t1296 (tnA (show 10000 < 12000 by decide))), (fm1298 k9 hi9).2.2⟩
  have fm1308 : ∀ k9, k9 < 60 → qs k9 = some (sr k9) ∧ wd_at w1302 (sr k9) (.inl (cy 2, 12, .inl (fs k9))) ∧ tg1294 (sr k9) = 13000 + k9 := fun k9 hi9 => ⟨(fm1299 k9 hi9).1, wd_at.pt ew1303 (fm1299 k9 hi9).2.1 (tg_ne (fm1299 k9 hi9).2.2 t1296 (tnA (show 10000 < 13000 by decide))), (fm1299 k9 hi9).2.2⟩
  have kp1309 := kp1293.put ew1303 sy
  have hb91310 := bnd.pt ew1303 t1296 hb91301
  have hb91311 := bnd.cons hb91310 k1305 (tgN et1295) (show 10000 < 10157 by decide)
  refine lv_aload_n hx hb dX11_init_399 rfl (lv_at hl 0 rfl) ?_
  refine lv_bipush (v := 60) hx hb dX11_init_400 (by decide) ?_
  refine y_newI (N := 60) F hP hD hS (List.mem_cons_of_mem _ (List.mem_append_left _ (List.mem_append_left _ (List.mem_of_getElem? (i := 4) rfl)))) (by decide) (by decide) (by decide) (Nat.le_of_ble_eq_true rfl) (Nat.le_of_ble_eq_true rfl) dX11_init_402 (fun m58 w1312 ew1313 hq1314 H hP hD hS => ?_)
  refine W.widen (k := 131) (n := 7761) (Nat.le_of_ble_eq_true rfl) (Nat.le_of_ble_eq_true rfl) ?_
  have k1315 := wd_at.ad ew1313 hq1314 k1304
  have k1316 : wd_at w1312 m58 (.inl (cy 2, 60, .inl (fun _ => 0))) := wd_at.nw ew1313
  have fm1317 : ∀ k9, k9 < 12 → qp k9 = some (pr k9) ∧ wd_at w1312 (pr k9) (.inl (cy 2, 12, .inl (fp k9))) ∧ tg1294 (pr k9) = 11000 + k9 := fun k9 hi9 => ⟨(fm1306 k9 hi9).1, wd_at.ad ew1313 hq1314 (fm1306 k9 hi9).2.1, (fm1306 k9 hi9).2.2⟩
  have fn1318 : ∀ k9, k9 < 12 → (pr k9) ≠ m58 := fun k9 hi9 => wd_nL hq1314 (fm1306 k9 hi9).2.1
  have fm1319 : ∀ k9, k9 < 12 → qw k9 = some (wr k9) ∧ wd_at w1312 (wr k9) (.inl (cy 2, 12, .inl (fw k9))) ∧ tg1294 (wr k9) = 12000 + k9 := fun k9 hi9 => ⟨(fm1307 k9 hi9).1, wd_at.ad ew1313 hq1314 (fm1307 k9 hi9).2.1, (fm1307 k9 hi9).2.2⟩
  have fn1320 : ∀ k9, k9 < 12 → (wr k9) ≠ m58 := fun k9 hi9 => wd_nL hq1314 (fm1307 k9 hi9).2.1
  have fm1321 : ∀ k9, k9 < 60 → qs k9 = some (sr k9) ∧ wd_at w1312 (sr k9) (.inl (cy 2, 12, .inl (fs k9))) ∧ tg1294 (sr k9) = 13000 + k9 := fun k9 hi9 => ⟨(fm1308 k9 hi9).1, wd_at.ad ew1313 hq1314 (fm1308 k9 hi9).2.1, (fm1308 k9 hi9).2.2⟩
  have fn1322 : ∀ k9, k9 < 60 → (sr k9) ≠ m58 := fun k9 hi9 => wd_nL hq1314 (fm1308 k9 hi9).2.1
  have kp1323 := kp1309.add ew1313 hq1314
  obtain ⟨tg1324, et1325⟩ : ∃ f : Nat → Nat, f = va_up tg1294 m58 (10158) := ⟨_, rfl⟩
  have t1326 := tgX et1325 (wd_nL hq1314 k1304) t1296
  have fm1327 : ∀ k9, k9 < 12 → qp k9 = some (pr k9) ∧ wd_at w1312 (pr k9) (.inl (cy 2, 12, .inl (fp k9))) ∧ tg1324 (pr k9) = 11000 + k9 := fun k9 hi9 => ⟨(fm1317 k9 hi9).1, (fm1317 k9 hi9).2.1, tgX et1325 (fn1318 k9 hi9) (fm1317 k9 hi9).2.2⟩
  have fm1328 : ∀ k9, k9 < 12 → qw k9 = some (wr k9) ∧ wd_at w1312 (wr k9) (.inl (cy 2, 12, .inl (fw k9))) ∧ tg1324 (wr k9) = 12000 + k9 := fun k9 hi9 => ⟨(fm1319 k9 hi9).1, (fm1319 k9 hi9).2.1, tgX et1325 (fn1320 k9 hi9) (fm1319 k9 hi9).2.2⟩
  have fm1329 : ∀ k9, k9 < 60 → qs k9 = some (sr k9) ∧ wd_at w1312 (sr k9) (.inl (cy 2, 12, .inl (fs k9))) ∧ tg1324 (sr k9) = 13000 + k9 := fun k9 hi9 => ⟨(fm1321 k9 hi9).1, (fm1321 k9 hi9).2.1, tgX et1325 (fn1322 k9 hi9) (fm1321 k9 hi9).2.2⟩
  have hext1330 := tgE et1325 (kp1309.out hq1314) hext1300
  have hb91331 := bnd.ad ew1313 hq1314 et1325 hb91311
  refine y_putF (ref := "NoteHouseModel") F hP hD hS k1315 rfl (fun _ h => List.mem_cons_of_mem _ (List.mem_append_right _ (h))) tyX11_ok nmX11 hnm 58 (Nat.le_of_ble_eq_true rfl) (List.mem_cons_of_mem _ (List.mem_append_left _ (List.mem_append_right _ (List.mem_append_right _ (List.mem_of_getElem? (i := 6) rfl))))) rfl rfl rfl rfl rfl (Nat.le_of_ble_eq_true rfl) dX11_init_404 (fun w1332 ew1333 H locs hP hD hS => ?_)
  have k1334 : wd_at w1332 y (.inr (11, [.int 0, .int 0, .ref m2, .ref m3, .ref m4, .ref m5, .ref m6, .int 0, .ref m8, .ref m9, .ref m10, .ref m11, .ref m12, .ref m13, .ref m14, .int 0, .int 0, .ref m17, .ref m18, .ref m19, .ref m20, .ref m21, .ref m22, .ref m23, .ref m24, .int 0, .int 0, .int 0, .int 0, .ref m29, .ref m30, .ref m31, .ref m32, .ref m33, .ref m34, .ref m35, .ref m36, .ref m37, .int 0, .ref m39, .ref m40, .ref m41, .ref m42, .ref m43, .ref m44, .ref m45, .ref m46, .ref m47, .ref m48, .ref m49, .int 0, .ref m51, .ref m52, .ref m53, .ref m54, .int 0, .ref m56, .ref m57, .ref m58, .null])) := wd_at.ps ew1333 k1315
  have k1335 := wd_at.pt ew1333 k1316 (tg_ne (tgN et1325) t1326 (by decide))
  have fm1336 : ∀ k9, k9 < 12 → qp k9 = some (pr k9) ∧ wd_at w1332 (pr k9) (.inl (cy 2, 12, .inl (fp k9))) ∧ tg1324 (pr k9) = 11000 + k9 := fun k9 hi9 => ⟨(fm1327 k9 hi9).1, wd_at.pt ew1333 (fm1327 k9 hi9).2.1 (tg_ne (fm1327 k9 hi9).2.2 t1326 (tnA (show 10000 < 11000 by decide))), (fm1327 k9 hi9).2.2⟩
  have fm1337 : ∀ k9, k9 < 12 → qw k9 = some (wr k9) ∧ wd_at w1332 (wr k9) (.inl (cy 2, 12, .inl (fw k9))) ∧ tg1324 (wr k9) = 12000 + k9 := fun k9 hi9 => ⟨(fm1328 k9 hi9).1, wd_at.pt ew1333 (fm1328 k9 hi9).2.1 (tg_ne (fm1328 k9 hi9).2.2 t1326 (tnA (show 10000 < 12000 by decide))), (fm1328 k9 hi9).2.2⟩
  have fm1338 : ∀ k9, k9 < 60 → qs k9 = some (sr k9) ∧ wd_at w1332 (sr k9) (.inl (cy 2, 12, .inl (fs k9))) ∧ tg1324 (sr k9) = 13000 + k9 := fun k9 hi9 => ⟨(fm1329 k9 hi9).1, wd_at.pt ew1333 (fm1329 k9 hi9).2.1 (tg_ne (fm1329 k9 hi9).2.2 t1326 (tnA (show 10000 < 13000 by decide))), (fm1329 k9 hi9).2.2⟩
  have kp1339 := kp1323.put ew1333 sy
  have hb91340 := bnd.pt ew1333 t1326 hb91331
  have hb91341 := bnd.cons hb91340 k1335 (tgN et1325) (show 10000 < 10158 by decide)
  refine lv_aload_n hx hb dX11_init_407 rfl (lv_at hl 0 rfl) ?_
  refine lv_bipush (v := 60) hx hb dX11_init_408 (by decide) ?_
  refine y_newJ (N := 60) F hP hD hS (List.mem_cons_of_mem _ (List.mem_append_left _ (List.mem_append_right _ (List.mem_append_left _ (List.mem_of_getElem? (i := 21) rfl))))) (by decide) (by decide) (by decide) (Nat.le_of_ble_eq_true rfl) (Nat.le_of_ble_eq_true rfl) dX11_init_410 (fun m59 w1342 ew1343 hq1344 H hP hD hS => ?_)
  refine W.widen (k := 132) (n := 7821) (Nat.le_of_ble_eq_true rfl) (Nat.le_of_ble_eq_true rfl) ?_
  have k1345 := wd_at.ad ew1343 hq1344 k1334
  have k1346 : wd_at w1342 m59 (.inl (cy 3, 60, .inr (.inl (fun _ => 0)))) := wd_at.nw ew1343
  have fm1347 : ∀ k9, k9 < 12 → qp k9 = some (pr k9) ∧ wd_at w1342 (pr k9) (.inl (cy 2, 12, .inl (fp k9))) ∧ tg1324 (pr k9) = 11000 + k9 := fun k9 hi9 => ⟨(fm1336 k9 hi9).1, wd_at.ad ew1343 hq1344 (fm1336 k9 hi9).2.1, (fm1336 k9 hi9).2.2⟩
  have fn1348 : ∀ k9, k9 < 12 → (pr k9) ≠ m59 := fun k9 hi9 => wd_nL hq1344 (fm1336 k9 hi9).2.1
  have fm1349 : ∀ k9, k9 < 12 → qw k9 = some (wr k9) ∧ wd_at w1342 (wr k9) (.inl (cy 2, 12, .inl (fw k9))) ∧ tg1324 (wr k9) = 12000 + k9 := fun k9 hi9 => ⟨(fm1337 k9 hi9).1, wd_at.ad ew1343 hq1344 (fm1337 k9 hi9).2.1, (fm1337 k9 hi9).2.2⟩
  have fn1350 : ∀ k9, k9 < 12 → (wr k9) ≠ m59 := fun k9 hi9 => wd_nL hq1344 (fm1337 k9 hi9).2.1
  have fm1351 : ∀ k9, k9 < 60 → qs k9 = some (sr k9) ∧ wd_at w1342 (sr k9) (.inl (cy 2, 12, .inl (fs k9))) ∧ tg1324 (sr k9) = 13000 + k9 := fun k9 hi9 => ⟨(fm1338 k9 hi9).1, wd_at.ad ew1343 hq1344 (fm1338 k9 hi9).2.1, (fm1338 k9 hi9).2.2⟩
  have fn1352 : ∀ k9, k9 < 60 → (sr k9) ≠ m59 := fun k9 hi9 => wd_nL hq1344 (fm1338 k9 hi9).2.1
  have kp1353 := kp1339.add ew1343 hq1344
  obtain ⟨tg1354, et1355⟩ : ∃ f : Nat → Nat, f = va_up tg1324 m59 (10159) := ⟨_, rfl⟩
  have t1356 := tgX et1355 (wd_nL hq1344 k1334) t1326
  have fm1357 : ∀ k9, k9 < 12 → qp k9 = some (pr k9) ∧ wd_at w1342 (pr k9) (.inl (cy 2, 12, .inl (fp k9))) ∧ tg1354 (pr k9) = 11000 + k9 := fun k9 hi9 => ⟨(fm1347 k9 hi9).1, (fm1347 k9 hi9).2.1, tgX et1355 (fn1348 k9 hi9) (fm1347 k9 hi9).2.2⟩
  have fm1358 : ∀ k9, k9 < 12 → qw k9 = some (wr k9) ∧ wd_at w1342 (wr k9) (.inl (cy 2, 12, .inl (fw k9))) ∧ tg1354 (wr k9) = 12000 + k9 := fun k9 hi9 => ⟨(fm1349 k9 hi9).1, (fm1349 k9 hi9).2.1, tgX et1355 (fn1350 k9 hi9) (fm1349 k9 hi9).2.2⟩
  have fm1359 : ∀ k9, k9 < 60 → qs k9 = some (sr k9) ∧ wd_at w1342 (sr k9) (.inl (cy 2, 12, .inl (fs k9))) ∧ tg1354 (sr k9) = 13000 + k9 := fun k9 hi9 => ⟨(fm1351 k9 hi9).1, (fm1351 k9 hi9).2.1, tgX et1355 (fn1352 k9 hi9) (fm1351 k9 hi9).2.2⟩
  have hext1360 := tgE et1355 (kp1339.out hq1344) hext1330
  have hb91361 := bnd.ad ew1343 hq1344 et1355 hb91341
  refine y_putF (ref := "NoteHouseModel") F hP hD hS k1345 rfl (fun _ h => List.mem_cons_of_mem _ (List.mem_append_right _ (h))) tyX11_ok nmX11 hnm 59 (Nat.le_of_ble_eq_true rfl) (List.mem_cons_of_mem _ (List.mem_append_left _ (List.mem_append_right _ (List.mem_append_right _ (List.mem_of_getElem? (i := 7) rfl))))) rfl rfl rfl rfl rfl (Nat.le_of_ble_eq_true rfl) dX11_init_412 (fun w1362 ew1363 H locs hP hD hS => ?_)
  have k1364 : wd_at w1362 y (.inr (11, [.int 0, .int 0, .ref m2, .ref m3, .ref m4, .ref m5, .ref m6, .int 0, .ref m8, .ref m9, .ref m10, .ref m11, .ref m12, .ref m13, .ref m14, .int 0, .int 0, .ref m17, .ref m18, .ref m19, .ref m20, .ref m21, .ref m22, .ref m23, .ref m24, .int 0, .int 0, .int 0, .int 0, .ref m29, .ref m30, .ref m31, .ref m32, .ref m33, .ref m34, .ref m35, .ref m36, .ref m37, .int 0, .ref m39, .ref m40, .ref m41, .ref m42, .ref m43, .ref m44, .ref m45, .ref m46, .ref m47, .ref m48, .ref m49, .int 0, .ref m51, .ref m52, .ref m53, .ref m54, .int 0, .ref m56, .ref m57, .ref m58, .ref m59])) := wd_at.ps ew1363 k1345
  have k1365 := wd_at.pt ew1363 k1346 (tg_ne (tgN et1355) t1356 (by decide))
  have fm1366 : ∀ k9, k9 < 12 → qp k9 = some (pr k9) ∧ wd_at w1362 (pr k9) (.inl (cy 2, 12, .inl (fp k9))) ∧ tg1354 (pr k9) = 11000 + k9 := fun k9 hi9 => ⟨(fm1357 k9 hi9).1, wd_at.pt ew1363 (fm1357 k9 hi9).2.1 (tg_ne (fm1357 k9 hi9).2.2 t1356 (tnA (show 10000 < 11000 by decide))), (fm1357 k9 hi9).2.2⟩
  have fm1367 : ∀ k9, k9 < 12 → qw k9 = some (wr k9) ∧ wd_at w1362 (wr k9) (.inl (cy 2, 12, .inl (fw k9))) ∧ tg1354 (wr k9) = 12000 + k9 := fun k9 hi9 => ⟨(fm1358 k9 hi9).1, wd_at.pt ew1363 (fm1358 k9 hi9).2.1 (tg_ne (fm1358 k9 hi9).2.2 t1356 (tnA (show 10000 < 12000 by decide))), (fm1358 k9 hi9).2.2⟩
  have fm1368 : ∀ k9, k9 < 60 → qs k9 = some (sr k9) ∧ wd_at w1362 (sr k9) (.inl (cy 2, 12, .inl (fs k9))) ∧ tg1354 (sr k9) = 13000 + k9 := fun k9 hi9 => ⟨(fm1359 k9 hi9).1, wd_at.pt ew1363 (fm1359 k9 hi9).2.1 (tg_ne (fm1359 k9 hi9).2.2 t1356 (tnA (show 10000 < 13000 by decide))), (fm1359 k9 hi9).2.2⟩
  have kp1369 := kp1353.put ew1363 sy
  have hb91370 := bnd.pt ew1363 t1356 hb91361
  have hb91371 := bnd.cons hb91370 k1365 (tgN et1355) (show 10000 < 10159 by decide)
  have z1374 := hb91371 (m59, .inl (cy 3, 60, .inr (.inl (fun _ => 0))), 10159) (List.mem_of_getElem? (i := 0) rfl)
  have k1372 : wd_at w1362 m59 (.inl (cy 3, 60, .inr (.inl (fun _ => 0)))) := z1374.1
  have t1373 : tg1354 m59 = 10159 := z1374.2.1
  have z1377 := hb91371 (m58, .inl (cy 2, 60, .inl (fun _ => 0)), 10158) (List.mem_of_getElem? (i := 1) rfl)
  have k1375 : wd_at w1362 m58 (.inl (cy 2, 60, .inl (fun _ => 0))) := z1377.1
  have t1376 : tg1354 m58 = 10158 := z1377.2.1
  have z1380 := hb91371 (m57, .inl (cy 2, 60, .inl (fun _ => 0)), 10157) (List.mem_of_getElem? (i := 2) rfl)
  have k1378 : wd_at w1362 m57 (.inl (cy 2, 60, .inl (fun _ => 0))) := z1380.1
  have t1379 : tg1354 m57 = 10157 := z1380.2.1
  have z1383 := hb91371 (m56, .inl (cy 2, 60, .inl (fun _ => 0)), 10156) (List.mem_of_getElem? (i := 3) rfl)
  have k1381 : wd_at w1362 m56 (.inl (cy 2, 60, .inl (fun _ => 0))) := z1383.1
  have t1382 : tg1354 m56 = 10156 := z1383.2.1
  have z1386 := hb91371 (m54, .inl (cy 3, 12, .inr (.inl (fun _ => 0))), 10154) (List.mem_of_getElem? (i := 4) rfl)
  have k1384 : wd_at w1362 m54 (.inl (cy 3, 12, .inr (.inl (fun _ => 0)))) := z1386.1
  have t1385 : tg1354 m54 = 10154 := z1386.2.1
  have z1389 := hb91371 (m53, .inl (cy 3, 12, .inr (.inl (fun _ => 0))), 10153) (List.mem_of_getElem? (i := 5) rfl)
  have k1387 : wd_at w1362 m53 (.inl (cy 3, 12, .inr (.inl (fun _ => 0)))) := z1389.1
  have t1388 : tg1354 m53 = 10153 := z1389.2.1
  have z1392 := hb91371 (m52, .inl (cy 3, 200, .inr (.inl (fun _ => 0))), 10152) (List.mem_of_getElem? (i := 6) rfl)
  have k1390 : wd_at w1362 m52 (.inl (cy 3, 200, .inr (.inl (fun _ => 0)))) := z1392.1
  have t1391 : tg1354 m52 = 10152 := z1392.2.1
  have z1395 := hb91371 (m51, .inl (cy 2, 200, .inl (fun _ => 0)), 10151) (List.mem_of_getElem? (i := 7) rfl)
  have k1393 : wd_at w1362 m51 (.inl (cy 2, 200, .inl (fun _ => 0))) := z1395.1
  have t1394 : tg1354 m51 = 10151 := z1395.2.1
  have z1398 := hb91371 (m49, .inl (cy 2, 12, .inl (fun _ => 0)), 10149) (List.mem_of_getElem? (i := 8) rfl)
  have k1396 : wd_at w1362 m49 (.inl (cy 2, 12, .inl (fun _ => 0))) := z1398.1
  have t1397 : tg1354 m49 = 10149 := z1398.2.1
  have z1401 := hb91371 (m48, .inl (cy 3, 200, .inr (.inl (fun _ => 0))), 10148) (List.mem_of_getElem? (i := 9) rfl)
  have k1399 : wd_at w1362 m48 (.inl (cy 3, 200, .inr (.inl (fun _ => 0)))) := z1401.1
  have t1400 : tg1354 m48 = 10148 := z1401.2.1
  have z1404 := hb91371 (m47, .inl (cy 2, 200, .inl (fun _ => 0)), 10147) (List.mem_of_getElem? (i := 10) rfl)
  have k1402 : wd_at w1362 m47 (.inl (cy 2, 200, .inl (fun _ => 0))) := z1404.1
  have t1403 : tg1354 m47 = 10147 := z1404.2.1
  have z1407 := hb91371 (m46, .inl (cy 2, 200, .inl (fun _ => 0)), 10146) (List.mem_of_getElem? (i := 11) rfl)
  have k1405 : wd_at w1362 m46 (.inl (cy 2, 200, .inl (fun _ => 0))) := z1407.1
  have t1406 : tg1354 m46 = 10146 := z1407.2.1
  have z1410 := hb91371 (m45, .inl (cy 2, 200, .inl (fun _ => 0)), 10145) (List.mem_of_getElem? (i := 12) rfl)
  have k1408 : wd_at w1362 m45 (.inl (cy 2, 200, .inl (fun _ => 0))) := z1410.1
  have t1409 : tg1354 m45 = 10145 := z1410.2.1
  have z1413 := hb91371 (m44, .inl (cy 2, 200, .inl (fun _ => 0)), 10144) (List.mem_of_getElem? (i := 13) rfl)
  have k1411 : wd_at w1362 m44 (.inl (cy 2, 200, .inl (fun _ => 0))) := z1413.1
  have t1412 : tg1354 m44 = 10144 := z1413.2.1
  have z1416 := hb91371 (m43, .inl (cy 2, 200, .inl (fun _ => 0)), 10143) (List.mem_of_getElem? (i := 14) rfl)
  have k1414 : wd_at w1362 m43 (.inl (cy 2, 200, .inl (fun _ => 0))) := z1416.1
  have t1415 : tg1354 m43 = 10143 := z1416.2.1
  have z1419 := hb91371 (m42, .inl (cy 2, 200, .inl (fun _ => 0)), 10142) (List.mem_of_getElem? (i := 15) rfl)
  have k1417 : wd_at w1362 m42 (.inl (cy 2, 200, .inl (fun _ => 0))) := z1419.1
  have t1418 : tg1354 m42 = 10142 := z1419.2.1
  have z1422 := hb91371 (m41, .inl (cy 2, 200, .inl (fun _ => 0)), 10141) (List.mem_of_getElem? (i := 16) rfl)
  have k1420 : wd_at w1362 m41 (.inl (cy 2, 200, .inl (fun _ => 0))) := z1422.1
  have t1421 : tg1354 m41 = 10141 := z1422.2.1
  have z1425 := hb91371 (m40, .inl (cy 2, 200, .inl (fun _ => 0)), 10140) (List.mem_of_getElem? (i := 17) rfl)
  have k1423 : wd_at w1362 m40 (.inl (cy 2, 200, .inl (fun _ => 0))) := z1425.1
  have t1424 : tg1354 m40 = 10140 := z1425.2.1
  have z1428 := hb91371 (m39, .inl (cy 2, 200, .inl (fun _ => 0)), 10139) (List.mem_of_getElem? (i := 18) rfl)
  have k1426 : wd_at w1362 m39 (.inl (cy 2, 200, .inl (fun _ => 0))) := z1428.1
  have t1427 : tg1354 m39 = 10139 := z1428.2.1
  have z1431 := hb91371 (m37, .inl (cy 2, 5, .inl (fun _ => 0)), 10137) (List.mem_of_getElem? (i := 19) rfl)
  have k1429 : wd_at w1362 m37 (.inl (cy 2, 5, .inl (fun _ => 0))) := z1431.1
  have t1430 : tg1354 m37 = 10137 := z1431.2.1
  have z1434 := hb91371 (m36, .inl (cy 4, 5, .inl (fun _ => 0)), 10136) (List.mem_of_getElem? (i := 20) rfl)
  have k1432 : wd_at w1362 m36 (.inl (cy 4, 5, .inl (fun _ => 0))) := z1434.1
  have t1433 : tg1354 m36 = 10136 := z1434.2.1
  have z1437 := hb91371 (m35, .inl (cy 2, 5, .inl (fun _ => 0)), 10135) (List.mem_of_getElem? (i := 21) rfl)
  have k1435 : wd_at w1362 m35 (.inl (cy 2, 5, .inl (fun _ => 0))) := z1437.1
  have t1436 : tg1354 m35 = 10135 := z1437.2.1
  have z1440 := hb91371 (m34, .inl (cy 2, 936, .inl (fun _ => 0)), 10134) (List.mem_of_getElem? (i := 22) rfl)
  have k1438 : wd_at w1362 m34 (.inl (cy 2, 936, .inl (fun _ => 0))) := z1440.1
  have t1439 : tg1354 m34 = 10134 := z1440.2.1
  have z1443 := hb91371 (m33, .inl (cy 2, 936, .inl (fun _ => 0)), 10133) (List.mem_of_getElem? (i := 23) rfl)
  have k1441 : wd_at w1362 m33 (.inl (cy 2, 936, .inl (fun _ => 0))) := z1443.1
  have t1442 : tg1354 m33 = 10133 := z1443.2.1
  have z1446 := hb91371 (m32, .inl (cy 2, 936, .inl (fun _ => 0)), 10132) (List.mem_of_getElem? (i := 24) rfl)
  have k1444 : wd_at w1362 m32 (.inl (cy 2, 936, .inl (fun _ => 0))) := z1446.1
  have t1445 : tg1354 m32 = 10132 := z1446.2.1
  have z1449 := hb91371 (m31, .inl (cy 2, 156, .inl (fun _ => 0)), 10131) (List.mem_of_getElem? (i := 25) rfl)
  have k1447 : wd_at w1362 m31 (.inl (cy 2, 156, .inl (fun _ => 0))) := z1449.1
  have t1448 : tg1354 m31 = 10131 := z1449.2.1
  have z1452 := hb91371 (m30, .inl (cy 2, 156, .inl (fun _ => 0)), 10130) (List.mem_of_getElem? (i := 26) rfl)
  have k1450 : wd_at w1362 m30 (.inl (cy 2, 156, .inl (fun _ => 0))) := z1452.1
  have t1451 : tg1354 m30 = 10130 := z1452.2.1
  have z1455 := hb91371 (m29, .inl (cy 2, 12, .inl (fun _ => 0)), 10129) (List.mem_of_getElem? (i := 27) rfl)
  have k1453 : wd_at w1362 m29 (.inl (cy 2, 12, .inl (fun _ => 0))) := z1455.1
  have t1454 : tg1354 m29 = 10129 := z1455.2.1
  have z1458 := hb91371 (m24, .inl (cy 0, 300, .inl (fun _ => 0)), 10124) (List.mem_of_getElem? (i := 28) rfl)
  have k1456 : wd_at w1362 m24 (.inl (cy 0, 300, .inl (fun _ => 0))) := z1458.1
  have t1457 : tg1354 m24 = 10124 := z1458.2.1
  have z1461 := hb91371 (m23, .inl (cy 10, 60, .inr (.inr (.inr (.inr qs)))), 10123) (List.mem_of_getElem? (i := 29) rfl)
  have k1459 : wd_at w1362 m23 (.inl (cy 10, 60, .inr (.inr (.inr (.inr qs))))) := z1461.1
  have t1460 : tg1354 m23 = 10123 := z1461.2.1
  have z1464 := hb91371 (m22, .inl (cy 2, 60, .inl (fun _ => 0)), 10122) (List.mem_of_getElem? (i := 30) rfl)
  have k1462 : wd_at w1362 m22 (.inl (cy 2, 60, .inl (fun _ => 0))) := z1464.1
  have t1463 : tg1354 m22 = 10122 := z1464.2.1
  have z1467 := hb91371 (m21, .inl (cy 2, 60, .inl (fun _ => 0)), 10121) (List.mem_of_getElem? (i := 31) rfl)
  have k1465 : wd_at w1362 m21 (.inl (cy 2, 60, .inl (fun _ => 0))) := z1467.1
  have t1466 : tg1354 m21 = 10121 := z1467.2.1
  have z1470 := hb91371 (m20, .inl (cy 4, 60, .inl (fun _ => 0)), 10120) (List.mem_of_getElem? (i := 32) rfl)
  have k1468 : wd_at w1362 m20 (.inl (cy 4, 60, .inl (fun _ => 0))) := z1470.1
  have t1469 : tg1354 m20 = 10120 := z1470.2.1
  have z1473 := hb91371 (m19, .inl (cy 2, 60, .inl (fun _ => 0)), 10119) (List.mem_of_getElem? (i := 33) rfl)
  have k1471 : wd_at w1362 m19 (.inl (cy 2, 60, .inl (fun _ => 0))) := z1473.1
  have t1472 : tg1354 m19 = 10119 := z1473.2.1
  have z1476 := hb91371 (m18, .inl (cy 2, 60, .inl (fun _ => 0)), 10118) (List.mem_of_getElem? (i := 34) rfl)
  have k1474 : wd_at w1362 m18 (.inl (cy 2, 60, .inl (fun _ => 0))) := z1476.1
  have t1475 : tg1354 m18 = 10118 := z1476.2.1
  have z1479 := hb91371 (m17, .inl (cy 2, 60, .inl (fun _ => 0)), 10117) (List.mem_of_getElem? (i := 35) rfl)
  have k1477 : wd_at w1362 m17 (.inl (cy 2, 60, .inl (fun _ => 0))) := z1479.1
  have t1478 : tg1354 m17 = 10117 := z1479.2.1
  have z1482 := hb91371 (m14, .inl (cy 2, 30, .inl (fun _ => 0)), 10114) (List.mem_of_getElem? (i := 36) rfl)
  have k1480 : wd_at w1362 m14 (.inl (cy 2, 30, .inl (fun _ => 0))) := z1482.1
  have t1481 : tg1354 m14 = 10114 := z1482.2.1
  have z1485 := hb91371 (m13, .inl (cy 2, 30, .inl (fun _ => 0)), 10113) (List.mem_of_getElem? (i := 37) rfl)
  have k1483 : wd_at w1362 m13 (.inl (cy 2, 30, .inl (fun _ => 0))) := z1485.1
  have t1484 : tg1354 m13 = 10113 := z1485.2.1
  have z1488 := hb91371 (m12, .inl (cy 2, 30, .inl (fun _ => 0)), 10112) (List.mem_of_getElem? (i := 38) rfl)
  have k1486 : wd_at w1362 m12 (.inl (cy 2, 30, .inl (fun _ => 0))) := z1488.1
  have t1487 : tg1354 m12 = 10112 := z1488.2.1
  have z1491 := hb91371 (m11, .inl (cy 2, 30, .inl (fun _ => 0)), 10111) (List.mem_of_getElem? (i := 39) rfl)
  have k1489 : wd_at w1362 m11 (.inl (cy 2, 30, .inl (fun _ => 0))) := z1491.1
  have t1490 : tg1354 m11 = 10111 := z1491.2.1
  have z1494 := hb91371 (m10, .inl (cy 2, 30, .inl (fun _ => 0)), 10110) (List.mem_of_getElem? (i := 40) rfl)
  have k1492 : wd_at w1362 m10 (.inl (cy 2, 30, .inl (fun _ => 0))) := z1494.1
  have t1493 : tg1354 m10 = 10110 := z1494.2.1
  have z1497 := hb91371 (m9, .inl (cy 2, 30, .inl (fun _ => 0)), 10109) (List.mem_of_getElem? (i := 41) rfl)
  have k1495 : wd_at w1362 m9 (.inl (cy 2, 30, .inl (fun _ => 0))) := z1497.1
  have t1496 : tg1354 m9 = 10109 := z1497.2.1
  have z1500 := hb91371 (m8, .inl (cy 2, 30, .inl (fun _ => 0)), 10108) (List.mem_of_getElem? (i := 42) rfl)
  have k1498 : wd_at w1362 m8 (.inl (cy 2, 30, .inl (fun _ => 0))) := z1500.1
  have t1499 : tg1354 m8 = 10108 := z1500.2.1
  have z1503 := hb91371 (m6, .inl (cy 2, 12, .inl (fun _ => 0)), 10106) (List.mem_of_getElem? (i := 43) rfl)
  have k1501 : wd_at w1362 m6 (.inl (cy 2, 12, .inl (fun _ => 0))) := z1503.1
  have t1502 : tg1354 m6 = 10106 := z1503.2.1
  have z1506 := hb91371 (m5, .inl (cy 2, 12, .inl (fun _ => 0)), 10105) (List.mem_of_getElem? (i := 44) rfl)
  have k1504 : wd_at w1362 m5 (.inl (cy 2, 12, .inl (fun _ => 0))) := z1506.1
  have t1505 : tg1354 m5 = 10105 := z1506.2.1
  have z1509 := hb91371 (m4, .inl (cy 2, 12, .inl (fun _ => 0)), 10104) (List.mem_of_getElem? (i := 45) rfl)
  have k1507 : wd_at w1362 m4 (.inl (cy 2, 12, .inl (fun _ => 0))) := z1509.1
  have t1508 : tg1354 m4 = 10104 := z1509.2.1
  have z1512 := hb91371 (m3, .inl (cy 10, 12, .inr (.inr (.inr (.inr qw)))), 10103) (List.mem_of_getElem? (i := 46) rfl)
  have k1510 : wd_at w1362 m3 (.inl (cy 10, 12, .inr (.inr (.inr (.inr qw))))) := z1512.1
  have t1511 : tg1354 m3 = 10103 := z1512.2.1
  have z1515 := hb91371 (m2, .inl (cy 10, 12, .inr (.inr (.inr (.inr qp)))), 10102) (List.mem_of_getElem? (i := 47) rfl)
  have k1513 : wd_at w1362 m2 (.inl (cy 10, 12, .inr (.inr (.inr (.inr qp))))) := z1515.1
  have t1514 : tg1354 m2 = 10102 := z1515.2.1
  refine lv_iconst (v := 0) hx hb dX11_init_415 (by decide) ?_
  refine lv_istore_n (lv' := [(1, .int 0), (0, .ref y)]) hx hb dX11_init_416 rfl hl (by decide) rfl (fun ls hl => ?_)
  have lp417 : ∀ (N : Nat) (i : Nat) (rc : Nat → Int32) (fpL : Nat → Nat → Int32) (fwL : Nat → Nat → Int32) (w1516 : Wd), (i + N = 12) → (wd_at w1516 y (.inr (11, [.int 0, .int 0, .ref m2, .ref m3, .ref m4, .ref m5, .ref m6, .int 0, .ref m8, .ref m9, .ref m10, .ref m11, .ref m12, .ref m13, .ref m14, .int 0, .int 0, .ref m17, .ref m18, .ref m19, .ref m20, .ref m21, .ref m22, .ref m23, .ref m24, .int 0, .int 0, .int 0, .int 0, .ref m29, .ref m30, .ref m31, .ref m32, .ref m33, .ref m34, .ref m35, .ref m36, .ref m37, .int 0, .ref m39, .ref m40, .ref m41, .ref m42, .ref m43, .ref m44, .ref m45, .ref m46, .ref m47, .ref m48, .ref m49, .int 0, .ref m51, .ref m52, .ref m53, .ref m54, .int 0, .ref m56, .ref m57, .ref m58, .ref m59]))) → (wd_at w1516 m59 (.inl (cy 3, 60, .inr (.inl (fun _ => 0))))) → (wd_at w1516 m58 (.inl (cy 2, 60, .inl (fun _ => 0)))) → (wd_at w1516 m57 (.inl (cy 2, 60, .inl (fun _ => 0)))) → (wd_at w1516 m56 (.inl (cy 2, 60, .inl (fun _ => 0)))) → (wd_at w1516 m54 (.inl (cy 3, 12, .inr (.inl (fun _ => 0))))) → (wd_at w1516 m53 (.inl (cy 3, 12, .inr (.inl (fun _ => 0))))) → (wd_at w1516 m52 (.inl (cy 3, 200, .inr (.inl (fun _ => 0))))) → (wd_at w1516 m51 (.inl (cy 2, 200, .inl (fun _ => 0)))) → (wd_at w1516 m49 (.inl (cy 2, 12, .inl (fun _ => 0)))) → (wd_at w1516 m48 (.inl (cy 3, 200, .inr (.inl (fun _ => 0))))) → (wd_at w1516 m47 (.inl (cy 2, 200, .inl (fun _ => 0)))) → (wd_at w1516 m46 (.inl (cy 2, 200, .inl (fun _ => 0)))) → (wd_at w1516 m45 (.inl (cy 2, 200, .inl (fun _ => 0)))) → (wd_at w1516 m44 (.inl (cy 2, 200, .inl (fun _ => 0)))) → (wd_at w1516 m43 (.inl (cy 2, 200, .inl (fun _ => 0)))) → (wd_at w1516 m42 (.inl (cy 2, 200, .inl (fun _ => 0)))) → (wd_at w1516 m41 (.inl (cy 2, 200, .inl (fun _ => 0)))) → (wd_at w1516 m40 (.inl (cy 2, 200, .inl (fun _ => 0)))) → (wd_at w1516 m39 (.inl (cy 2, 200, .inl (fun _ => 0)))) → (wd_at w1516 m37 (.inl (cy 2, 5, .inl (fun _ => 0)))) → (wd_at w1516 m36 (.inl (cy 4, 5, .inl (fun _ => 0)))) → (wd_at w1516 m35 (.inl (cy 2, 5, .inl (fun _ => 0)))) → (wd_at w1516 m34 (.inl (cy 2, 936, .inl (fun _ => 0)))) → (wd_at w1516 m33 (.inl (cy 2, 936, .inl (fun _ => 0)))) → (wd_at w1516 m32 (.inl (cy 2, 936, .inl (fun _ => 0)))) → (wd_at w1516 m31 (.inl (cy 2, 156, .inl (fun _ => 0)))) → (wd_at w1516 m30 (.inl (cy 2, 156, .inl (fun _ => 0)))) → (wd_at w1516 m29 (.inl (cy 2, 12, .inl (fun _ => 0)))) → (wd_at w1516 m24 (.inl (cy 0, 300, .inl (fun _ => 0)))) → (wd_at w1516 m23 (.inl (cy 10, 60, .inr (.inr (.inr (.inr qs)))))) → (wd_at w1516 m22 (.inl (cy 2, 60, .inl (fun _ => 0)))) → (wd_at w1516 m21 (.inl (cy 2, 60, .inl (fun _ => 0)))) → (wd_at w1516 m20 (.inl (cy 4, 60, .inl (fun _ => 0)))) → (wd_at w1516 m19 (.inl (cy 2, 60, .inl (fun _ => 0)))) → (wd_at w1516 m18 (.inl (cy 2, 60, .inl (fun _ => 0)))) → (wd_at w1516 m17 (.inl (cy 2, 60, .inl (fun _ => 0)))) → (wd_at w1516 m14 (.inl (cy 2, 30, .inl (fun _ => 0)))) → (wd_at w1516 m13 (.inl (cy 2, 30, .inl (fun _ => 0)))) → (wd_at w1516 m12 (.inl (cy 2, 30, .inl (fun _ => 0)))) → (wd_at w1516 m11 (.inl (cy 2, 30, .inl (fun _ => 0)))) → (wd_at w1516 m10 (.inl (cy 2, 30, .inl (fun _ => 0)))) → (wd_at w1516 m9 (.inl (cy 2, 30, .inl (fun _ => 0)))) → (wd_at w1516 m8 (.inl (cy 2, 30, .inl (fun _ => 0)))) → (wd_at w1516 m6 (.inl (cy 2, 12, .inl (fun _ => 0)))) → (wd_at w1516 m5 (.inl (cy 2, 12, .inl rc))) → (wd_at w1516 m4 (.inl (cy 2, 12, .inl (fun _ => 0)))) → (wd_at w1516 m3 (.inl (cy 10, 12, .inr (.inr (.inr (.inr qw)))))) → (wd_at w1516 m2 (.inl (cy 10, 12, .inr (.inr (.inr (.inr qp)))))) → (∀ k9, k9 < 12 → qp k9 = some (pr k9) ∧ wd_at w1516 (pr k9) (.inl (cy 2, 12, .inl (fpL k9))) ∧ tg1354 (pr k9) = 11000 + k9) → (∀ k9, k9 < 12 → qw k9 = some (wr k9) ∧ wd_at w1516 (wr k9) (.inl (cy 2, 12, .inl (fwL k9))) ∧ tg1354 (wr k9) = 12000 + k9) → (∀ k9, k9 < 60 → qs k9 = some (sr k9) ∧ wd_at w1516 (sr k9) (.inl (cy 2, 12, .inl (fs k9))) ∧ tg1354 (sr k9) = 13000 + k9) → (wd_kp S w w1516) → ∀ (ls : Array Slot), lv_has ls 3 [(0, .ref y), (1, .int (nI i))] → Wv p l e ({ frames := 2, cells := 132, slots := 7821, locals := 41 }) s m args below meth c D A (132) (7821) Q w1516 (F0 m 417 ls []) := by
    intro N
    induction N with
    | zero =>
      intro i rc fpL fwL w1516 hN417 k1517 k1518 k1519 k1520 k1521 k1522 k1523 k1524 k1525 k1526 k1527 k1528 k1529 k1530 k1531 k1532 k1533 k1534 k1535 k1536 k1537 k1538 k1539 k1540 k1541 k1542 k1543 k1544 k1545 k1546 k1547 k1548 k1549 k1550 k1551 k1552 k1553 k1554 k1555 k1556 k1557 k1558 k1559 k1560 k1561 k1562 k1563 k1564 k1565 fm1566 fm1567 fm1568 kp1569 ls hl H locs hP hD hS
      refine lv_iload_n hx hb dX11_init_417 rfl (lv_at hl 1 rfl) ?_
      refine lv_bipush (v := 12) hx hb dX11_init_418 (by decide) ?_
      refine lv_icmp_ge (tgt := 472) hx hb dX11_init_420 (by decide) (fun c_1570 => ?_) (fun c_1570 => absurd (nI_le (a := 12) (b := i) (by omega) (by omega)) c_1570)
      refine lv_aload_n hx hb dX11_init_472 rfl (lv_at hl 0 rfl) ?_
      refine x_callV (n := 0) (As := []) (rest := []) F hP hD hS (m_begins l D cy sk sv w1516 tg1354 y m2 m3 m4 m5 m6 m8 m9 m10 m11 m12 m13 m14 m17 m18 m19 m20 m21 m22 m23 m24 m29 m30 m31 m32 m33 m34 m35 m36 m37 m39 m40 m41 m42 m43 m44 m45 m46 m47 m48 m49 m51 m52 m53 m54 m56 m57 m58 m59 0 0 0 0 0 0 0 0 0 0 0 0 (fun _ => 0) k1517 k1539 (fun b => b = m35) rfl t1356 t1436) gX11_init_X11_begins rfl rfl (by decide +kernel) ⟨(Nat.le_of_ble_eq_true rfl), (Nat.le_of_ble_eq_true rfl)⟩ rfl hl.1 (Nat.le_of_ble_eq_true rfl) k1517 rfl dX11_init_473 rfl ⟨(Nat.le_of_ble_eq_true rfl), (Nat.le_of_ble_eq_true rfl)⟩ (fun v1572 w1573 hp1571 H locs hP hD hS => ?_)
      obtain ⟨gx1574, rfl, kq1576, k1575⟩ := hp1571
      have k1577 := kq1576.2 _ _ k1517 (wd_nL hq714 k704)
      have k1578 := kq1576.2 _ _ k1518 (tg_ne t1373 t1436 (by decide))
      have k1579 := kq1576.2 _ _ k1519 (tg_ne t1376 t1436 (by decide))
      have k1580 := kq1576.2 _ _ k1520 (tg_ne t1379 t1436 (by decide))
      have k1581 := kq1576.2 _ _ k1521 (tg_ne t1382 t1436 (by decide))
      have k1582 := kq1576.2 _ _ k1522 (tg_ne t1385 t1436 (by decide))
      have k1583 := kq1576.2 _ _ k1523 (tg_ne t1388 t1436 (by decide))
      have k1584 := kq1576.2 _ _ k1524 (tg_ne t1391 t1436 (by decide))
      have k1585 := kq1576.2 _ _ k1525 (tg_ne t1394 t1436 (by decide))
      have k1586 := kq1576.2 _ _ k1526 (tg_ne t1397 t1436 (by decide))
      have k1587 := kq1576.2 _ _ k1527 (tg_ne t1400 t1436 (by decide))
      have k1588 := kq1576.2 _ _ k1528 (tg_ne t1403 t1436 (by decide))
      have k1589 := kq1576.2 _ _ k1529 (tg_ne t1406 t1436 (by decide))
      have k1590 := kq1576.2 _ _ k1530 (tg_ne t1409 t1436 (by decide))
      have k1591 := kq1576.2 _ _ k1531 (tg_ne t1412 t1436 (by decide))
      have k1592 := kq1576.2 _ _ k1532 (tg_ne t1415 t1436 (by decide))
      have k1593 := kq1576.2 _ _ k1533 (tg_ne t1418 t1436 (by decide))
      have k1594 := kq1576.2 _ _ k1534 (tg_ne t1421 t1436 (by decide))
      have k1595 := kq1576.2 _ _ k1535 (tg_ne t1424 t1436 (by decide))
      have k1596 := kq1576.2 _ _ k1536 (tg_ne t1427 t1436 (by decide))
      have k1597 := kq1576.2 _ _ k1537 (tg_ne t1430 t1436 (by decide))
      have k1598 := kq1576.2 _ _ k1538 (tg_ne t1433 t1436 (by decide))
      have k1599 := kq1576.2 _ _ k1540 (tg_ne t1439 t1436 (by decide))
      have k1600 := kq1576.2 _ _ k1541 (tg_ne t1442 t1436 (by decide))
      have k1601 := kq1576.2 _ _ k1542 (tg_ne t1445 t1436 (by decide))
      have k1602 := kq1576.2 _ _ k1543 (tg_ne t1448 t1436 (by decide))
      have k1603 := kq1576.2 _ _ k1544 (tg_ne t1451 t1436 (by decide))
      have k1604 := kq1576.2 _ _ k1545 (tg_ne t1454 t1436 (by decide))
      have k1605 := kq1576.2 _ _ k1546 (tg_ne t1457 t1436 (by decide))
      have k1606 := kq1576.2 _ _ k1547 (tg_ne t1460 t1436 (by decide))
      have k1607 := kq1576.2 _ _ k1548 (tg_ne t1463 t1436 (by decide))
      have k1608 := kq1576.2 _ _ k1549 (tg_ne t1466 t1436 (by decide))
      have k1609 := kq1576.2 _ _ k1550 (tg_ne t1469 t1436 (by decide))
      have k1610 := kq1576.2 _ _ k1551 (tg_ne t1472 t1436 (by decide))
      have k1611 := kq1576.2 _ _ k1552 (tg_ne t1475 t1436 (by decide))
      have k1612 := kq1576.2 _ _ k1553 (tg_ne t1478 t1436 (by decide))
      have k1613 := kq1576.2 _ _ k1554 (tg_ne t1481 t1436 (by decide))
      have k1614 := kq1576.2 _ _ k1555 (tg_ne t1484 t1436 (by decide))
      have k1615 := kq1576.2 _ _ k1556 (tg_ne t1487 t1436 (by decide))
      have k1616 := kq1576.2 _ _ k1557 (tg_ne t1490 t1436 (by decide))
      have k1617 := kq1576.2 _ _ k1558 (tg_ne t1493 t1436 (by decide))
      have k1618 := kq1576.2 _ _ k1559 (tg_ne t1496 t1436 (by decide))
      have k1619 := kq1576.2 _ _ k1560 (tg_ne t1499 t1436 (by decide))
      have k1620 := kq1576.2 _ _ k1561 (tg_ne t1502 t1436 (by decide))
      have k1621 := kq1576.2 _ _ k1562 (tg_ne t1505 t1436 (by decide))
      have k1622 := kq1576.2 _ _ k1563 (tg_ne t1508 t1436 (by decide))
      have k1623 := kq1576.2 _ _ k1564 (tg_ne t1511 t1436 (by decide))
      have k1624 := kq1576.2 _ _ k1565 (tg_ne t1514 t1436 (by decide))
      have fm1625 : ∀ k9, k9 < 12 → qp k9 = some (pr k9) ∧ wd_at w1573 (pr k9) (.inl (cy 2, 12, .inl (fpL k9))) ∧ tg1354 (pr k9) = 11000 + k9 := fun k9 hi9 => ⟨(fm1566 k9 hi9).1, kq1576.2 _ _ (fm1566 k9 hi9).2.1 (fn718 k9 hi9), (fm1566 k9 hi9).2.2⟩
      have fm1626 : ∀ k9, k9 < 12 → qw k9 = some (wr k9) ∧ wd_at w1573 (wr k9) (.inl (cy 2, 12, .inl (fwL k9))) ∧ tg1354 (wr k9) = 12000 + k9 := fun k9 hi9 => ⟨(fm1567 k9 hi9).1, kq1576.2 _ _ (fm1567 k9 hi9).2.1 (fn720 k9 hi9), (fm1567 k9 hi9).2.2⟩
      have fm1627 : ∀ k9, k9 < 60 → qs k9 = some (sr k9) ∧ wd_at w1573 (sr k9) (.inl (cy 2, 12, .inl (fs k9))) ∧ tg1354 (sr k9) = 13000 + k9 := fun k9 hi9 => ⟨(fm1568 k9 hi9).1, kq1576.2 _ _ (fm1568 k9 hi9).2.1 (fn722 k9 hi9), (fm1568 k9 hi9).2.2⟩
      have kp1628 := kp1569.tr kq1576 (fun b9 hm q9 => (fun q9 => absurd (q9 ▸ hm) (kp709.out hq714)) q9)
      refine W.eq (g2 := F0 m 476 ls []) rfl (W.widen (k := 132) (n := 7821) (Nat.le_of_ble_eq_true rfl) (Nat.le_of_ble_eq_true rfl) ?_)
      have hX1629 : ∀ se : Nat → Int32, (∀ t, t < 12 → se t = 0) → IM cy tg1354 y 0 0 0 0 0 se (fun _ => 0) w1573 := fun se hse9 => IM.mk m2 m3 m4 m5 m6 m8 m9 m10 m11 m12 m13 m14 m17 m18 m19 m20 m21 m22 m23 m24 m29 m30 m31 m32 m33 m34 m35 m36 m37 m39 m40 m41 m42 m43 m44 m45 m46 m47 m48 m49 m51 m52 m53 m54 m56 m57 m58 m59 0 0 0 0 0 0 0 (fun _ => 0) rc (fun _ => 0) (fun _ => 0) (fun _ => 0) (fun _ => 0) (fun _ => 0) (fun _ => 0) (fun _ => 0) (fun _ => 0) (fun _ => 0) (fun _ => 0) (fun _ => 0) (fun _ => 0) (fun _ => 0) (fun _ => 0) (fun _ => 0) (fun _ => 0) (fun _ => 0) (fun _ => 0) (fun _ => 0) (fun _ => 0) (fun _ => 0) gx1574 (fun _ => 0) (fun _ => 0) (fun _ => 0) (fun _ => 0) (fun _ => 0) (fun _ => 0) (fun _ => 0) (fun _ => 0) (fun _ => 0) (fun _ => 0) (fun _ => 0) (fun _ => 0) (fun _ => 0) (fun _ => 0) (fun _ => 0) (fun _ => 0) (fun _ => 0) (fun _ => 0) (fun _ => 0) (fun _ => 0) (fun _ => 0) qp pr fpL qw wr fwL qs sr fs (by omega) (by omega) (by omega) (by omega) (by omega) (by omega) (bOK0 12 13 (by decide)) cOK0 bOKv bOKv (sOK0 hse9) lOKv k1577 t1356 k1624 t1514 k1623 t1511 k1622 t1508 k1621 t1505 k1620 t1502 k1619 t1499 k1618 t1496 k1617 t1493 k1616 t1490 k1615 t1487 k1614 t1484 k1613 t1481 k1612 t1478 k1611 t1475 k1610 t1472 k1609 t1469 k1608 t1466 k1607 t1463 k1606 t1460 k1605 t1457 k1604 t1454 k1603 t1451 k1602 t1448 k1601 t1445 k1600 t1442 k1599 t1439 k1575 t1436 k1598 t1433 k1597 t1430 k1596 t1427 k1595 t1424 k1594 t1421 k1593 t1418 k1592 t1415 k1591 t1412 k1590 t1409 k1589 t1406 k1588 t1403 k1587 t1400 k1586 t1397 k1585 t1394 k1584 t1391 k1583 t1388 k1582 t1385 k1581 t1382 k1580 t1379 k1579 t1376 k1578 t1373 fm1625 fm1626 fm1627
      exact y_vr K hP hD hS (Nat.le_of_ble_eq_true rfl) (Nat.le_of_ble_eq_true rfl) rfl dX11_init_476 (⟨rfl, kp1628, tg1354, hext1360, hX1629⟩)
    | succ N ih417 =>
      intro i rc fpL fwL w1516 hN417 k1517 k1518 k1519 k1520 k1521 k1522 k1523 k1524 k1525 k1526 k1527 k1528 k1529 k1530 k1531 k1532 k1533 k1534 k1535 k1536 k1537 k1538 k1539 k1540 k1541 k1542 k1543 k1544 k1545 k1546 k1547 k1548 k1549 k1550 k1551 k1552 k1553 k1554 k1555 k1556 k1557 k1558 k1559 k1560 k1561 k1562 k1563 k1564 k1565 fm1566 fm1567 fm1568 kp1569 ls hl H locs hP hD hS
      refine lv_iload_n hx hb dX11_init_417 rfl (lv_at hl 1 rfl) ?_
      refine lv_bipush (v := 12) hx hb dX11_init_418 (by decide) ?_
      refine lv_icmp_ge (tgt := 472) hx hb dX11_init_420 (by decide) (fun c_1630 => absurd c_1630 (nI_ge (a := i) (b := 12) (by omega) (by omega))) (fun c_1630 => ?_)
      have pr1631 := (fm1566 i (by omega)).1
      have k1632 := (fm1566 i (by omega)).2.1
      have tz1633 := (fm1566 i (by omega)).2.2
      have fm1634 : ∀ k9, k9 < 12 ∧ k9 ≠ i → qp k9 = some (pr k9) ∧ wd_at w1516 (pr k9) (.inl (cy 2, 12, .inl (fpL k9))) ∧ tg1354 (pr k9) = 11000 + k9 := fun k9 hi8 => fm1566 k9 hi8.1
      have fn1635 := fun k9 (hi8 : k9 < 12 ∧ k9 ≠ i) => fn15 k9 hi8.1
      have fn1636 := fun k9 (hi8 : k9 < 12 ∧ k9 ≠ i) => fn37 k9 hi8.1
      have fn1637 := fun k9 (hi8 : k9 < 12 ∧ k9 ≠ i) => fn60 k9 hi8.1
      have fn1638 := fun k9 (hi8 : k9 < 12 ∧ k9 ≠ i) => fn86 k9 hi8.1
      have fn1639 := fun k9 (hi8 : k9 < 12 ∧ k9 ≠ i) => fn112 k9 hi8.1
      have fn1640 := fun k9 (hi8 : k9 < 12 ∧ k9 ≠ i) => fn138 k9 hi8.1
      have fn1641 := fun k9 (hi8 : k9 < 12 ∧ k9 ≠ i) => fn164 k9 hi8.1
      have fn1642 := fun k9 (hi8 : k9 < 12 ∧ k9 ≠ i) => fn190 k9 hi8.1
      have fn1643 := fun k9 (hi8 : k9 < 12 ∧ k9 ≠ i) => fn216 k9 hi8.1
      have fn1644 := fun k9 (hi8 : k9 < 12 ∧ k9 ≠ i) => fn242 k9 hi8.1
      have fn1645 := fun k9 (hi8 : k9 < 12 ∧ k9 ≠ i) => fn268 k9 hi8.1
      have fn1646 := fun k9 (hi8 : k9 < 12 ∧ k9 ≠ i) => fn294 k9 hi8.1
      have fn1647 := fun k9 (hi8 : k9 < 12 ∧ k9 ≠ i) => fn320 k9 hi8.1
      have fn1648 := fun k9 (hi8 : k9 < 12 ∧ k9 ≠ i) => fn346 k9 hi8.1
      have fn1649 := fun k9 (hi8 : k9 < 12 ∧ k9 ≠ i) => fn372 k9 hi8.1
      have fn1650 := fun k9 (hi8 : k9 < 12 ∧ k9 ≠ i) => fn398 k9 hi8.1
      have fn1651 := fun k9 (hi8 : k9 < 12 ∧ k9 ≠ i) => fn424 k9 hi8.1
      have fn1652 := fun k9 (hi8 : k9 < 12 ∧ k9 ≠ i) => fn450 k9 hi8.1
      have fn1653 := fun k9 (hi8 : k9 < 12 ∧ k9 ≠ i) => fn482 k9 hi8.1
      have fn1654 := fun k9 (hi8 : k9 < 12 ∧ k9 ≠ i) => fn508 k9 hi8.1
      have fn1655 := fun k9 (hi8 : k9 < 12 ∧ k9 ≠ i) => fn538 k9 hi8.1
      have fn1656 := fun k9 (hi8 : k9 < 12 ∧ k9 ≠ i) => fn568 k9 hi8.1
      have fn1657 := fun k9 (hi8 : k9 < 12 ∧ k9 ≠ i) => fn598 k9 hi8.1
      have fn1658 := fun k9 (hi8 : k9 < 12 ∧ k9 ≠ i) => fn628 k9 hi8.1
      have fn1659 := fun k9 (hi8 : k9 < 12 ∧ k9 ≠ i) => fn658 k9 hi8.1
      have fn1660 := fun k9 (hi8 : k9 < 12 ∧ k9 ≠ i) => fn688 k9 hi8.1
      have fn1661 := fun k9 (hi8 : k9 < 12 ∧ k9 ≠ i) => fn718 k9 hi8.1
      have fn1662 := fun k9 (hi8 : k9 < 12 ∧ k9 ≠ i) => fn748 k9 hi8.1
      have fn1663 := fun k9 (hi8 : k9 < 12 ∧ k9 ≠ i) => fn778 k9 hi8.1
      have fn1664 := fun k9 (hi8 : k9 < 12 ∧ k9 ≠ i) => fn808 k9 hi8.1
      have fn1665 := fun k9 (hi8 : k9 < 12 ∧ k9 ≠ i) => fn838 k9 hi8.1
      have fn1666 := fun k9 (hi8 : k9 < 12 ∧ k9 ≠ i) => fn868 k9 hi8.1
      have fn1667 := fun k9 (hi8 : k9 < 12 ∧ k9 ≠ i) => fn898 k9 hi8.1
      have fn1668 := fun k9 (hi8 : k9 < 12 ∧ k9 ≠ i) => fn928 k9 hi8.1
      have fn1669 := fun k9 (hi8 : k9 < 12 ∧ k9 ≠ i) => fn958 k9 hi8.1
      have fn1670 := fun k9 (hi8 : k9 < 12 ∧ k9 ≠ i) => fn988 k9 hi8.1
      have fn1671 := fun k9 (hi8 : k9 < 12 ∧ k9 ≠ i) => fn1018 k9 hi8.1
      have fn1672 := fun k9 (hi8 : k9 < 12 ∧ k9 ≠ i) => fn1048 k9 hi8.1
      have fn1673 := fun k9 (hi8 : k9 < 12 ∧ k9 ≠ i) => fn1078 k9 hi8.1
      have fn1674 := fun k9 (hi8 : k9 < 12 ∧ k9 ≠ i) => fn1108 k9 hi8.1
      have fn1675 := fun k9 (hi8 : k9 < 12 ∧ k9 ≠ i) => fn1138 k9 hi8.1
      have fn1676 := fun k9 (hi8 : k9 < 12 ∧ k9 ≠ i) => fn1168 k9 hi8.1
      have fn1677 := fun k9 (hi8 : k9 < 12 ∧ k9 ≠ i) => fn1198 k9 hi8.1
      have fn1678 := fun k9 (hi8 : k9 < 12 ∧ k9 ≠ i) => fn1228 k9 hi8.1
      have fn1679 := fun k9 (hi8 : k9 < 12 ∧ k9 ≠ i) => fn1258 k9 hi8.1
      have fn1680 := fun k9 (hi8 : k9 < 12 ∧ k9 ≠ i) => fn1288 k9 hi8.1
      have fn1681 := fun k9 (hi8 : k9 < 12 ∧ k9 ≠ i) => fn1318 k9 hi8.1
      have fn1682 := fun k9 (hi8 : k9 < 12 ∧ k9 ≠ i) => fn1348 k9 hi8.1
      have pr1683 := (fm1567 i (by omega)).1
      have k1684 := (fm1567 i (by omega)).2.1
      have tz1685 := (fm1567 i (by omega)).2.2
      have fm1686 : ∀ k9, k9 < 12 ∧ k9 ≠ i → qw k9 = some (wr k9) ∧ wd_at w1516 (wr k9) (.inl (cy 2, 12, .inl (fwL k9))) ∧ tg1354 (wr k9) = 12000 + k9 := fun k9 hi8 => fm1567 k9 hi8.1
      have fn1687 := fun k9 (hi8 : k9 < 12 ∧ k9 ≠ i) => fn41 k9 hi8.1
      have fn1688 := fun k9 (hi8 : k9 < 12 ∧ k9 ≠ i) => fn62 k9 hi8.1
      have fn1689 := fun k9 (hi8 : k9 < 12 ∧ k9 ≠ i) => fn88 k9 hi8.1
      have fn1690 := fun k9 (hi8 : k9 < 12 ∧ k9 ≠ i) => fn114 k9 hi8.1
      have fn1691 := fun k9 (hi8 : k9 < 12 ∧ k9 ≠ i) => fn140 k9 hi8.1
      have fn1692 := fun k9 (hi8 : k9 < 12 ∧ k9 ≠ i) => fn166 k9 hi8.1
      have fn1693 := fun k9 (hi8 : k9 < 12 ∧ k9 ≠ i) => fn192 k9 hi8.1
      have fn1694 := fun k9 (hi8 : k9 < 12 ∧ k9 ≠ i) => fn218 k9 hi8.1
      have fn1695 := fun k9 (hi8 : k9 < 12 ∧ k9 ≠ i) => fn244 k9 hi8.1
      have fn1696 := fun k9 (hi8 : k9 < 12 ∧ k9 ≠ i) => fn270 k9 hi8.1
      have fn1697 := fun k9 (hi8 : k9 < 12 ∧ k9 ≠ i) => fn296 k9 hi8.1
      have fn1698 := fun k9 (hi8 : k9 < 12 ∧ k9 ≠ i) => fn322 k9 hi8.1
      have fn1699 := fun k9 (hi8 : k9 < 12 ∧ k9 ≠ i) => fn348 k9 hi8.1
      have fn1700 := fun k9 (hi8 : k9 < 12 ∧ k9 ≠ i) => fn374 k9 hi8.1
      have fn1701 := fun k9 (hi8 : k9 < 12 ∧ k9 ≠ i) => fn400 k9 hi8.1
      have fn1702 := fun k9 (hi8 : k9 < 12 ∧ k9 ≠ i) => fn426 k9 hi8.1
      have fn1703 := fun k9 (hi8 : k9 < 12 ∧ k9 ≠ i) => fn452 k9 hi8.1
      have fn1704 := fun k9 (hi8 : k9 < 12 ∧ k9 ≠ i) => fn484 k9 hi8.1
      have fn1705 := fun k9 (hi8 : k9 < 12 ∧ k9 ≠ i) => fn510 k9 hi8.1
      have fn1706 := fun k9 (hi8 : k9 < 12 ∧ k9 ≠ i) => fn540 k9 hi8.1
      have fn1707 := fun k9 (hi8 : k9 < 12 ∧ k9 ≠ i) => fn570 k9 hi8.1
      have fn1708 := fun k9 (hi8 : k9 < 12 ∧ k9 ≠ i) => fn600 k9 hi8.1
      have fn1709 := fun k9 (hi8 : k9 < 12 ∧ k9 ≠ i) => fn630 k9 hi8.1
      have fn1710 := fun k9 (hi8 : k9 < 12 ∧ k9 ≠ i) => fn660 k9 hi8.1
      have fn1711 := fun k9 (hi8 : k9 < 12 ∧ k9 ≠ i) => fn690 k9 hi8.1
      have fn1712 := fun k9 (hi8 : k9 < 12 ∧ k9 ≠ i) => fn720 k9 hi8.1
      have fn1713 := fun k9 (hi8 : k9 < 12 ∧ k9 ≠ i) => fn750 k9 hi8.1
      have fn1714 := fun k9 (hi8 : k9 < 12 ∧ k9 ≠ i) => fn780 k9 hi8.1
      have fn1715 := fun k9 (hi8 : k9 < 12 ∧ k9 ≠ i) => fn810 k9 hi8.1
      have fn1716 := fun k9 (hi8 : k9 < 12 ∧ k9 ≠ i) => fn840 k9 hi8.1
      have fn1717 := fun k9 (hi8 : k9 < 12 ∧ k9 ≠ i) => fn870 k9 hi8.1
      have fn1718 := fun k9 (hi8 : k9 < 12 ∧ k9 ≠ i) => fn900 k9 hi8.1
      have fn1719 := fun k9 (hi8 : k9 < 12 ∧ k9 ≠ i) => fn930 k9 hi8.1
      have fn1720 := fun k9 (hi8 : k9 < 12 ∧ k9 ≠ i) => fn960 k9 hi8.1
      have fn1721 := fun k9 (hi8 : k9 < 12 ∧ k9 ≠ i) => fn990 k9 hi8.1
      have fn1722 := fun k9 (hi8 : k9 < 12 ∧ k9 ≠ i) => fn1020 k9 hi8.1
      have fn1723 := fun k9 (hi8 : k9 < 12 ∧ k9 ≠ i) => fn1050 k9 hi8.1
      have fn1724 := fun k9 (hi8 : k9 < 12 ∧ k9 ≠ i) => fn1080 k9 hi8.1
      have fn1725 := fun k9 (hi8 : k9 < 12 ∧ k9 ≠ i) => fn1110 k9 hi8.1
      have fn1726 := fun k9 (hi8 : k9 < 12 ∧ k9 ≠ i) => fn1140 k9 hi8.1
      have fn1727 := fun k9 (hi8 : k9 < 12 ∧ k9 ≠ i) => fn1170 k9 hi8.1
      have fn1728 := fun k9 (hi8 : k9 < 12 ∧ k9 ≠ i) => fn1200 k9 hi8.1
      have fn1729 := fun k9 (hi8 : k9 < 12 ∧ k9 ≠ i) => fn1230 k9 hi8.1
      have fn1730 := fun k9 (hi8 : k9 < 12 ∧ k9 ≠ i) => fn1260 k9 hi8.1
      have fn1731 := fun k9 (hi8 : k9 < 12 ∧ k9 ≠ i) => fn1290 k9 hi8.1
      have fn1732 := fun k9 (hi8 : k9 < 12 ∧ k9 ≠ i) => fn1320 k9 hi8.1
      have fn1733 := fun k9 (hi8 : k9 < 12 ∧ k9 ≠ i) => fn1350 k9 hi8.1
      refine lv_iconst (v := 0) hx hb dX11_init_423 (by decide) ?_
      refine lv_istore_n (lv' := [(2, .int 0), (0, .ref y), (1, .int (nI i))]) hx hb dX11_init_424 rfl hl (by decide) rfl (fun ls hl => ?_)
      have lp425 : ∀ (N : Nat) (j : Nat) (gp : Nat → Int32) (gw : Nat → Int32) (w1734 : Wd), (j + N = 12) → (wd_at w1734 y (.inr (11, [.int 0, .int 0, .ref m2, .ref m3, .ref m4, .ref m5, .ref m6, .int 0, .ref m8, .ref m9, .ref m10, .ref m11, .ref m12, .ref m13, .ref m14, .int 0, .int 0, .ref m17, .ref m18, .ref m19, .ref m20, .ref m21, .ref m22, .ref m23, .ref m24, .int 0, .int 0, .int 0, .int 0, .ref m29, .ref m30, .ref m31, .ref m32, .ref m33, .ref m34, .ref m35, .ref m36, .ref m37, .int 0, .ref m39, .ref m40, .ref m41, .ref m42, .ref m43, .ref m44, .ref m45, .ref m46, .ref m47, .ref m48, .ref m49, .int 0, .ref m51, .ref m52, .ref m53, .ref m54, .int 0, .ref m56, .ref m57, .ref m58, .ref m59]))) → (wd_at w1734 m59 (.inl (cy 3, 60, .inr (.inl (fun _ => 0))))) → (wd_at w1734 m58 (.inl (cy 2, 60, .inl (fun _ => 0)))) → (wd_at w1734 m57 (.inl (cy 2, 60, .inl (fun _ => 0)))) → (wd_at w1734 m56 (.inl (cy 2, 60, .inl (fun _ => 0)))) → (wd_at w1734 m54 (.inl (cy 3, 12, .inr (.inl (fun _ => 0))))) → (wd_at w1734 m53 (.inl (cy 3, 12, .inr (.inl (fun _ => 0))))) → (wd_at w1734 m52 (.inl (cy 3, 200, .inr (.inl (fun _ => 0))))) → (wd_at w1734 m51 (.inl (cy 2, 200, .inl (fun _ => 0)))) → (wd_at w1734 m49 (.inl (cy 2, 12, .inl (fun _ => 0)))) → (wd_at w1734 m48 (.inl (cy 3, 200, .inr (.inl (fun _ => 0))))) → (wd_at w1734 m47 (.inl (cy 2, 200, .inl (fun _ => 0)))) → (wd_at w1734 m46 (.inl (cy 2, 200, .inl (fun _ => 0)))) → (wd_at w1734 m45 (.inl (cy 2, 200, .inl (fun _ => 0)))) → (wd_at w1734 m44 (.inl (cy 2, 200, .inl (fun _ => 0)))) → (wd_at w1734 m43 (.inl (cy 2, 200, .inl (fun _ => 0)))) → (wd_at w1734 m42 (.inl (cy 2, 200, .inl (fun _ => 0)))) → (wd_at w1734 m41 (.inl (cy 2, 200, .inl (fun _ => 0)))) → (wd_at w1734 m40 (.inl (cy 2, 200, .inl (fun _ => 0)))) → (wd_at w1734 m39 (.inl (cy 2, 200, .inl (fun _ => 0)))) → (wd_at w1734 m37 (.inl (cy 2, 5, .inl (fun _ => 0)))) → (wd_at w1734 m36 (.inl (cy 4, 5, .inl (fun _ => 0)))) → (wd_at w1734 m35 (.inl (cy 2, 5, .inl (fun _ => 0)))) → (wd_at w1734 m34 (.inl (cy 2, 936, .inl (fun _ => 0)))) → (wd_at w1734 m33 (.inl (cy 2, 936, .inl (fun _ => 0)))) → (wd_at w1734 m32 (.inl (cy 2, 936, .inl (fun _ => 0)))) → (wd_at w1734 m31 (.inl (cy 2, 156, .inl (fun _ => 0)))) → (wd_at w1734 m30 (.inl (cy 2, 156, .inl (fun _ => 0)))) → (wd_at w1734 m29 (.inl (cy 2, 12, .inl (fun _ => 0)))) → (wd_at w1734 m24 (.inl (cy 0, 300, .inl (fun _ => 0)))) → (wd_at w1734 m23 (.inl (cy 10, 60, .inr (.inr (.inr (.inr qs)))))) → (wd_at w1734 m22 (.inl (cy 2, 60, .inl (fun _ => 0)))) → (wd_at w1734 m21 (.inl (cy 2, 60, .inl (fun _ => 0)))) → (wd_at w1734 m20 (.inl (cy 4, 60, .inl (fun _ => 0)))) → (wd_at w1734 m19 (.inl (cy 2, 60, .inl (fun _ => 0)))) → (wd_at w1734 m18 (.inl (cy 2, 60, .inl (fun _ => 0)))) → (wd_at w1734 m17 (.inl (cy 2, 60, .inl (fun _ => 0)))) → (wd_at w1734 m14 (.inl (cy 2, 30, .inl (fun _ => 0)))) → (wd_at w1734 m13 (.inl (cy 2, 30, .inl (fun _ => 0)))) → (wd_at w1734 m12 (.inl (cy 2, 30, .inl (fun _ => 0)))) → (wd_at w1734 m11 (.inl (cy 2, 30, .inl (fun _ => 0)))) → (wd_at w1734 m10 (.inl (cy 2, 30, .inl (fun _ => 0)))) → (wd_at w1734 m9 (.inl (cy 2, 30, .inl (fun _ => 0)))) → (wd_at w1734 m8 (.inl (cy 2, 30, .inl (fun _ => 0)))) → (wd_at w1734 m6 (.inl (cy 2, 12, .inl (fun _ => 0)))) → (wd_at w1734 m5 (.inl (cy 2, 12, .inl rc))) → (wd_at w1734 m4 (.inl (cy 2, 12, .inl (fun _ => 0)))) → (wd_at w1734 m3 (.inl (cy 10, 12, .inr (.inr (.inr (.inr qw)))))) → (wd_at w1734 m2 (.inl (cy 10, 12, .inr (.inr (.inr (.inr qp)))))) → (wd_at w1734 (pr i) (.inl (cy 2, 12, .inl gp))) → (wd_at w1734 (wr i) (.inl (cy 2, 12, .inl gw))) → (∀ k9, k9 < 12 ∧ k9 ≠ i → qp k9 = some (pr k9) ∧ wd_at w1734 (pr k9) (.inl (cy 2, 12, .inl (fpL k9))) ∧ tg1354 (pr k9) = 11000 + k9) → (∀ k9, k9 < 12 ∧ k9 ≠ i → qw k9 = some (wr k9) ∧ wd_at w1734 (wr k9) (.inl (cy 2, 12, .inl (fwL k9))) ∧ tg1354 (wr k9) = 12000 + k9) → (∀ k9, k9 < 60 → qs k9 = some (sr k9) ∧ wd_at w1734 (sr k9) (.inl (cy 2, 12, .inl (fs k9))) ∧ tg1354 (sr k9) = 13000 + k9) → (wd_kp S w w1734) → ∀ (ls : Array Slot), lv_has ls 3 [(0, .ref y), (1, .int (nI i)), (2, .int (nI j))] → Wv p l e ({ frames := 2, cells := 132, slots := 7821, locals := 41 }) s m args below meth c D A (132) (7821) Q w1734 (F0 m 425 ls []) := by
        intro N
        induction N with
        | zero =>
          intro j gp gw w1734 hN425 k1735 k1736 k1737 k1738 k1739 k1740 k1741 k1742 k1743 k1744 k1745 k1746 k1747 k1748 k1749 k1750 k1751 k1752 k1753 k1754 k1755 k1756 k1757 k1758 k1759 k1760 k1761 k1762 k1763 k1764 k1765 k1766 k1767 k1768 k1769 k1770 k1771 k1772 k1773 k1774 k1775 k1776 k1777 k1778 k1779 k1780 k1781 k1782 k1783 k1784 k1785 fm1786 fm1787 fm1788 kp1789 ls hl H locs hP hD hS
          refine lv_iload_n hx hb dX11_init_425 rfl (lv_at hl 2 rfl) ?_
          refine lv_bipush (v := 12) hx hb dX11_init_426 (by decide) ?_
          refine lv_icmp_ge (tgt := 457) hx hb dX11_init_428 (by decide) (fun c_1790 => ?_) (fun c_1790 => absurd (nI_le (a := 12) (b := j) (by omega) (by omega)) c_1790)
          refine lv_aload_n hx hb dX11_init_457 rfl (lv_at hl 0 rfl) ?_
          refine x_get (ref := "NoteHouseModel") F hP k1735 rfl (fun _ h => List.mem_cons_of_mem _ (List.mem_append_right _ (h))) 5 (Nat.le_of_ble_eq_true rfl) (List.mem_cons_of_mem _ (List.mem_append_left _ (List.mem_append_left _ (List.mem_of_getElem? (i := 8) rfl)))) rfl rfl dX11_init_458 ?_
          refine lv_iload_n hx hb dX11_init_461 rfl (lv_at hl 1 rfl) ?_
          refine lv_sipush (v := 1000) hx hb dX11_init_462 (by decide) ?_
          refine y_iast F hP hD hS k1780 (vp_in_nI (n := i) (N := 12) (by omega) (by decide)) dX11_init_465 (fun w1791 ew1792 H locs hP hD hS => ?_)
          have k1793 := wd_at.pt ew1792 k1735 (wd_nL hq82 k73)
          have k1794 := wd_at.pt ew1792 k1736 (tg_ne t1373 t1505 (by decide))
          have k1795 := wd_at.pt ew1792 k1737 (tg_ne t1376 t1505 (by decide))
          have k1796 := wd_at.pt ew1792 k1738 (tg_ne t1379 t1505 (by decide))
          have k1797 := wd_at.pt ew1792 k1739 (tg_ne t1382 t1505 (by decide))
          have k1798 := wd_at.pt ew1792 k1740 (tg_ne t1385 t1505 (by decide))
          have k1799 := wd_at.pt ew1792 k1741 (tg_ne t1388 t1505 (by decide))
          have k1800 := wd_at.pt ew1792 k1742 (tg_ne t1391 t1505 (by decide))
          have k1801 := wd_at.pt ew1792 k1743 (tg_ne t1394 t1505 (by decide))
          have k1802 := wd_at.pt ew1792 k1744 (tg_ne t1397 t1505 (by decide))
          have k1803 := wd_at.pt ew1792 k1745 (tg_ne t1400 t1505 (by decide))
          have k1804 := wd_at.pt ew1792 k1746 (tg_ne t1403 t1505 (by decide))
          have k1805 := wd_at.pt ew1792 k1747 (tg_ne t1406 t1505 (by decide))
          have k1806 := wd_at.pt ew1792 k1748 (tg_ne t1409 t1505 (by decide))
          have k1807 := wd_at.pt ew1792 k1749 (tg_ne t1412 t1505 (by decide))
          have k1808 := wd_at.pt ew1792 k1750 (tg_ne t1415 t1505 (by decide))
          have k1809 := wd_at.pt ew1792 k1751 (tg_ne t1418 t1505 (by decide))
          have k1810 := wd_at.pt ew1792 k1752 (tg_ne t1421 t1505 (by decide))
          have k1811 := wd_at.pt ew1792 k1753 (tg_ne t1424 t1505 (by decide))
          have k1812 := wd_at.pt ew1792 k1754 (tg_ne t1427 t1505 (by decide))
          have k1813 := wd_at.pt ew1792 k1755 (tg_ne t1430 t1505 (by decide))
          have k1814 := wd_at.pt ew1792 k1756 (tg_ne t1433 t1505 (by decide))
          have k1815 := wd_at.pt ew1792 k1757 (tg_ne t1436 t1505 (by decide))
          have k1816 := wd_at.pt ew1792 k1758 (tg_ne t1439 t1505 (by decide))
          have k1817 := wd_at.pt ew1792 k1759 (tg_ne t1442 t1505 (by decide))
          have k1818 := wd_at.pt ew1792 k1760 (tg_ne t1445 t1505 (by decide))
          have k1819 := wd_at.pt ew1792 k1761 (tg_ne t1448 t1505 (by decide))
          have k1820 := wd_at.pt ew1792 k1762 (tg_ne t1451 t1505 (by decide))
          have k1821 := wd_at.pt ew1792 k1763 (tg_ne t1454 t1505 (by decide))
          have k1822 := wd_at.pt ew1792 k1764 (tg_ne t1457 t1505 (by decide))
          have k1823 := wd_at.pt ew1792 k1765 (tg_ne t1460 t1505 (by decide))
          have k1824 := wd_at.pt ew1792 k1766 (tg_ne t1463 t1505 (by decide))
          have k1825 := wd_at.pt ew1792 k1767 (tg_ne t1466 t1505 (by decide))
          have k1826 := wd_at.pt ew1792 k1768 (tg_ne t1469 t1505 (by decide))
          have k1827 := wd_at.pt ew1792 k1769 (tg_ne t1472 t1505 (by decide))
          have k1828 := wd_at.pt ew1792 k1770 (tg_ne t1475 t1505 (by decide))
          have k1829 := wd_at.pt ew1792 k1771 (tg_ne t1478 t1505 (by decide))
          have k1830 := wd_at.pt ew1792 k1772 (tg_ne t1481 t1505 (by decide))
          have k1831 := wd_at.pt ew1792 k1773 (tg_ne t1484 t1505 (by decide))
          have k1832 := wd_at.pt ew1792 k1774 (tg_ne t1487 t1505 (by decide))
          have k1833 := wd_at.pt ew1792 k1775 (tg_ne t1490 t1505 (by decide))
          have k1834 := wd_at.pt ew1792 k1776 (tg_ne t1493 t1505 (by decide))
          have k1835 := wd_at.pt ew1792 k1777 (tg_ne t1496 t1505 (by decide))
          have k1836 := wd_at.pt ew1792 k1778 (tg_ne t1499 t1505 (by decide))
          have k1837 := wd_at.pt ew1792 k1779 (tg_ne t1502 t1505 (by decide))
          have k1838 : wd_at w1791 m5 (.inl (cy 2, 12, .inl (upd rc (nI i).toNatClampNeg 1000))) := wd_at.ps ew1792 k1780
          have k1839 := wd_at.pt ew1792 k1781 (tg_ne t1508 t1505 (by decide))
          have k1840 := wd_at.pt ew1792 k1782 (tg_ne t1511 t1505 (by decide))
          have k1841 := wd_at.pt ew1792 k1783 (tg_ne t1514 t1505 (by decide))
          have k1842 := wd_at.pt ew1792 k1784 (tg_ne tz1633 t1505 (tnA (show 10105 < 11000 by decide)))
          have k1843 := wd_at.pt ew1792 k1785 (tg_ne tz1685 t1505 (tnA (show 10105 < 12000 by decide)))
          have fm1844 : ∀ k9, k9 < 12 ∧ k9 ≠ i → qp k9 = some (pr k9) ∧ wd_at w1791 (pr k9) (.inl (cy 2, 12, .inl (fpL k9))) ∧ tg1354 (pr k9) = 11000 + k9 := fun k9 hi9 => ⟨(fm1786 k9 hi9).1, wd_at.pt ew1792 (fm1786 k9 hi9).2.1 (fn1638 k9 hi9), (fm1786 k9 hi9).2.2⟩
          have fm1845 : ∀ k9, k9 < 12 ∧ k9 ≠ i → qw k9 = some (wr k9) ∧ wd_at w1791 (wr k9) (.inl (cy 2, 12, .inl (fwL k9))) ∧ tg1354 (wr k9) = 12000 + k9 := fun k9 hi9 => ⟨(fm1787 k9 hi9).1, wd_at.pt ew1792 (fm1787 k9 hi9).2.1 (fn1689 k9 hi9), (fm1787 k9 hi9).2.2⟩
          have fm1846 : ∀ k9, k9 < 60 → qs k9 = some (sr k9) ∧ wd_at w1791 (sr k9) (.inl (cy 2, 12, .inl (fs k9))) ∧ tg1354 (sr k9) = 13000 + k9 := fun k9 hi9 => ⟨(fm1788 k9 hi9).1, wd_at.pt ew1792 (fm1788 k9 hi9).2.1 (tg_ne (fm1788 k9 hi9).2.2 t1505 (tnA (show 10105 < 13000 by decide))), (fm1788 k9 hi9).2.2⟩
          have kp1847 := kp1789.putN ew1792 (kp77.out hq82)
          have fm1848 : ∀ k9, k9 < 12 → qp k9 = some (pr k9) ∧ wd_at w1791 (pr k9) (.inl (cy 2, 12, .inl ((va_up fpL i gp) k9))) ∧ tg1354 (pr k9) = 11000 + k9 := by
            intro k9 hi9
            by_cases e9 : k9 = i
            · rw [e9]
              exact ⟨pr1631, (by simp only [va_up_self]; exact k1842), tz1633⟩
            · simp only [va_up_ne _ _ e9]
              exact fm1844 k9 (by omega)
          have fm1849 : ∀ k9, k9 < 12 → qw k9 = some (wr k9) ∧ wd_at w1791 (wr k9) (.inl (cy 2, 12, .inl ((va_up fwL i gw) k9))) ∧ tg1354 (wr k9) = 12000 + k9 := by
            intro k9 hi9
            by_cases e9 : k9 = i
            · rw [e9]
              exact ⟨pr1683, (by simp only [va_up_self]; exact k1843), tz1685⟩
            · simp only [va_up_ne _ _ e9]
              exact fm1845 k9 (by omega)
          refine lv_iinc (v := nI (i + 1)) (lv' := [(1, .int (nI (i + 1))), (0, .ref y), (2, .int (nI j))]) hx hb dX11_init_466 hl (k := 1) rfl (nI_1 i) (by decide) rfl (fun ls hl => ?_)
          refine lv_goto (tgt := 417) hx hb dX11_init_469 (by decide) ?_
          exact ih417 (i + 1) (upd rc (nI i).toNatClampNeg 1000) (va_up fpL i gp) (va_up fwL i gw) w1791 (by omega)  k1793 k1794 k1795 k1796 k1797 k1798 k1799 k1800 k1801 k1802 k1803 k1804 k1805 k1806 k1807 k1808 k1809 k1810 k1811 k1812 k1813 k1814 k1815 k1816 k1817 k1818 k1819 k1820 k1821 k1822 k1823 k1824 k1825 k1826 k1827 k1828 k1829 k1830 k1831 k1832 k1833 k1834 k1835 k1836 k1837 k1838 k1839 k1840 k1841 fm1848 fm1849 fm1846 kp1847 ls (lv_sub hl [1, 0] rfl) H locs hP hD hS
        | succ N ih425 =>
          intro j gp gw w1734 hN425 k1735 k1736 k1737 k1738 k1739 k1740 k1741 k1742 k1743 k1744 k1745 k1746 k1747 k1748 k1749 k1750 k1751 k1752 k1753 k1754 k1755 k1756 k1757 k1758 k1759 k1760 k1761 k1762 k1763 k1764 k1765 k1766 k1767 k1768 k1769 k1770 k1771 k1772 k1773 k1774 k1775 k1776 k1777 k1778 k1779 k1780 k1781 k1782 k1783 k1784 k1785 fm1786 fm1787 fm1788 kp1789 ls hl H locs hP hD hS
          refine lv_iload_n hx hb dX11_init_425 rfl (lv_at hl 2 rfl) ?_
          refine lv_bipush (v := 12) hx hb dX11_init_426 (by decide) ?_
          refine lv_icmp_ge (tgt := 457) hx hb dX11_init_428 (by decide) (fun c_1850 => absurd c_1850 (nI_ge (a := j) (b := 12) (by omega) (by omega))) (fun c_1850 => ?_)
          refine lv_aload_n hx hb dX11_init_431 rfl (lv_at hl 0 rfl) ?_
          refine x_get (ref := "NoteHouseModel") F hP k1735 rfl (fun _ h => List.mem_cons_of_mem _ (List.mem_append_right _ (h))) 2 (Nat.le_of_ble_eq_true rfl) (List.mem_cons_of_mem _ (List.mem_append_left _ (List.mem_append_left _ (List.mem_of_getElem? (i := 5) rfl)))) rfl rfl dX11_init_432 ?_
          refine lv_iload_n hx hb dX11_init_435 rfl (lv_at hl 1 rfl) ?_
          refine x_aaldA F hP k1783 (vp_in_nI (n := i) (N := 12) (by omega) (by decide)) dX11_init_436 ?_
          rw [nI_clamp (n := i) (by omega), pr1631]
          refine W.eq (g2 := F0 m _ ls [.ref (pr i)]) rfl ?_
          refine lv_iload_n hx hb dX11_init_437 rfl (lv_at hl 2 rfl) ?_
          refine lv_ldc (v := 268435456) hx hb hown (hts _ (List.mem_cons_of_mem _ (List.mem_append_left _ (List.mem_append_right _ (List.mem_append_right _ (List.mem_of_getElem? (i := 8) rfl)))))) dX11_init_438 ?_
          refine y_iast F hP hD hS k1784 (vp_in_nI (n := j) (N := 12) (by omega) (by decide)) dX11_init_440 (fun w1851 ew1852 H locs hP hD hS => ?_)
          have k1853 := wd_at.pt ew1852 k1735 (tg_ne t1356 tz1633 (tnA2 (show 10000 < 11000 by decide)))
          have k1854 := wd_at.pt ew1852 k1736 (tg_ne t1373 tz1633 (tnA2 (show 10159 < 11000 by decide)))
          have k1855 := wd_at.pt ew1852 k1737 (tg_ne t1376 tz1633 (tnA2 (show 10158 < 11000 by decide)))
          have k1856 := wd_at.pt ew1852 k1738 (tg_ne t1379 tz1633 (tnA2 (show 10157 < 11000 by decide)))
          have k1857 := wd_at.pt ew1852 k1739 (tg_ne t1382 tz1633 (tnA2 (show 10156 < 11000 by decide)))
          have k1858 := wd_at.pt ew1852 k1740 (tg_ne t1385 tz1633 (tnA2 (show 10154 < 11000 by decide)))
          have k1859 := wd_at.pt ew1852 k1741 (tg_ne t1388 tz1633 (tnA2 (show 10153 < 11000 by decide)))
          have k1860 := wd_at.pt ew1852 k1742 (tg_ne t1391 tz1633 (tnA2 (show 10152 < 11000 by decide)))
          have k1861 := wd_at.pt ew1852 k1743 (tg_ne t1394 tz1633 (tnA2 (show 10151 < 11000 by decide)))
          have k1862 := wd_at.pt ew1852 k1744 (tg_ne t1397 tz1633 (tnA2 (show 10149 < 11000 by decide)))
          have k1863 := wd_at.pt ew1852 k1745 (tg_ne t1400 tz1633 (tnA2 (show 10148 < 11000 by decide)))
          have k1864 := wd_at.pt ew1852 k1746 (tg_ne t1403 tz1633 (tnA2 (show 10147 < 11000 by decide)))
          have k1865 := wd_at.pt ew1852 k1747 (tg_ne t1406 tz1633 (tnA2 (show 10146 < 11000 by decide)))
          have k1866 := wd_at.pt ew1852 k1748 (tg_ne t1409 tz1633 (tnA2 (show 10145 < 11000 by decide)))
          have k1867 := wd_at.pt ew1852 k1749 (tg_ne t1412 tz1633 (tnA2 (show 10144 < 11000 by decide)))
          have k1868 := wd_at.pt ew1852 k1750 (tg_ne t1415 tz1633 (tnA2 (show 10143 < 11000 by decide)))
          have k1869 := wd_at.pt ew1852 k1751 (tg_ne t1418 tz1633 (tnA2 (show 10142 < 11000 by decide)))
          have k1870 := wd_at.pt ew1852 k1752 (tg_ne t1421 tz1633 (tnA2 (show 10141 < 11000 by decide)))
          have k1871 := wd_at.pt ew1852 k1753 (tg_ne t1424 tz1633 (tnA2 (show 10140 < 11000 by decide)))
          have k1872 := wd_at.pt ew1852 k1754 (tg_ne t1427 tz1633 (tnA2 (show 10139 < 11000 by decide)))
          have k1873 := wd_at.pt ew1852 k1755 (tg_ne t1430 tz1633 (tnA2 (show 10137 < 11000 by decide)))
          have k1874 := wd_at.pt ew1852 k1756 (tg_ne t1433 tz1633 (tnA2 (show 10136 < 11000 by decide)))
          have k1875 := wd_at.pt ew1852 k1757 (tg_ne t1436 tz1633 (tnA2 (show 10135 < 11000 by decide)))
          have k1876 := wd_at.pt ew1852 k1758 (tg_ne t1439 tz1633 (tnA2 (show 10134 < 11000 by decide)))
          have k1877 := wd_at.pt ew1852 k1759 (tg_ne t1442 tz1633 (tnA2 (show 10133 < 11000 by decide)))
          have k1878 := wd_at.pt ew1852 k1760 (tg_ne t1445 tz1633 (tnA2 (show 10132 < 11000 by decide)))
          have k1879 := wd_at.pt ew1852 k1761 (tg_ne t1448 tz1633 (tnA2 (show 10131 < 11000 by decide)))
          have k1880 := wd_at.pt ew1852 k1762 (tg_ne t1451 tz1633 (tnA2 (show 10130 < 11000 by decide)))
          have k1881 := wd_at.pt ew1852 k1763 (tg_ne t1454 tz1633 (tnA2 (show 10129 < 11000 by decide)))
          have k1882 := wd_at.pt ew1852 k1764 (tg_ne t1457 tz1633 (tnA2 (show 10124 < 11000 by decide)))
          have k1883 := wd_at.pt ew1852 k1765 (tg_ne t1460 tz1633 (tnA2 (show 10123 < 11000 by decide)))
          have k1884 := wd_at.pt ew1852 k1766 (tg_ne t1463 tz1633 (tnA2 (show 10122 < 11000 by decide)))
          have k1885 := wd_at.pt ew1852 k1767 (tg_ne t1466 tz1633 (tnA2 (show 10121 < 11000 by decide)))
          have k1886 := wd_at.pt ew1852 k1768 (tg_ne t1469 tz1633 (tnA2 (show 10120 < 11000 by decide)))
          have k1887 := wd_at.pt ew1852 k1769 (tg_ne t1472 tz1633 (tnA2 (show 10119 < 11000 by decide)))
          have k1888 := wd_at.pt ew1852 k1770 (tg_ne t1475 tz1633 (tnA2 (show 10118 < 11000 by decide)))
          have k1889 := wd_at.pt ew1852 k1771 (tg_ne t1478 tz1633 (tnA2 (show 10117 < 11000 by decide)))
          have k1890 := wd_at.pt ew1852 k1772 (tg_ne t1481 tz1633 (tnA2 (show 10114 < 11000 by decide)))
          have k1891 := wd_at.pt ew1852 k1773 (tg_ne t1484 tz1633 (tnA2 (show 10113 < 11000 by decide)))
          have k1892 := wd_at.pt ew1852 k1774 (tg_ne t1487 tz1633 (tnA2 (show 10112 < 11000 by decide)))
          have k1893 := wd_at.pt ew1852 k1775 (tg_ne t1490 tz1633 (tnA2 (show 10111 < 11000 by decide)))
          have k1894 := wd_at.pt ew1852 k1776 (tg_ne t1493 tz1633 (tnA2 (show 10110 < 11000 by decide)))
          have k1895 := wd_at.pt ew1852 k1777 (tg_ne t1496 tz1633 (tnA2 (show 10109 < 11000 by decide)))
          have k1896 := wd_at.pt ew1852 k1778 (tg_ne t1499 tz1633 (tnA2 (show 10108 < 11000 by decide)))
          have k1897 := wd_at.pt ew1852 k1779 (tg_ne t1502 tz1633 (tnA2 (show 10106 < 11000 by decide)))
          have k1898 := wd_at.pt ew1852 k1780 (tg_ne t1505 tz1633 (tnA2 (show 10105 < 11000 by decide)))
          have k1899 := wd_at.pt ew1852 k1781 (tg_ne t1508 tz1633 (tnA2 (show 10104 < 11000 by decide)))
          have k1900 := wd_at.pt ew1852 k1782 (tg_ne t1511 tz1633 (tnA2 (show 10103 < 11000 by decide)))
          have k1901 := wd_at.pt ew1852 k1783 (tg_ne t1514 tz1633 (tnA2 (show 10102 < 11000 by decide)))
          have k1902 : wd_at w1851 (pr i) (.inl (cy 2, 12, .inl (upd gp (nI j).toNatClampNeg 268435456))) := wd_at.ps ew1852 k1784
          have k1903 := wd_at.pt ew1852 k1785 (tg_ne tz1685 tz1633 (by omega))
          have fm1904 : ∀ k9, k9 < 12 ∧ k9 ≠ i → qp k9 = some (pr k9) ∧ wd_at w1851 (pr k9) (.inl (cy 2, 12, .inl (fpL k9))) ∧ tg1354 (pr k9) = 11000 + k9 := fun k9 hi9 => ⟨(fm1786 k9 hi9).1, wd_at.pt ew1852 (fm1786 k9 hi9).2.1 (tg_ne (fm1786 k9 hi9).2.2 tz1633 (tnS hi9.2)), (fm1786 k9 hi9).2.2⟩
          have fm1905 : ∀ k9, k9 < 12 ∧ k9 ≠ i → qw k9 = some (wr k9) ∧ wd_at w1851 (wr k9) (.inl (cy 2, 12, .inl (fwL k9))) ∧ tg1354 (wr k9) = 12000 + k9 := fun k9 hi9 => ⟨(fm1787 k9 hi9).1, wd_at.pt ew1852 (fm1787 k9 hi9).2.1 (tg_ne (fm1787 k9 hi9).2.2 tz1633 (by omega)), (fm1787 k9 hi9).2.2⟩
          have fm1906 : ∀ k9, k9 < 60 → qs k9 = some (sr k9) ∧ wd_at w1851 (sr k9) (.inl (cy 2, 12, .inl (fs k9))) ∧ tg1354 (sr k9) = 13000 + k9 := fun k9 hi9 => ⟨(fm1788 k9 hi9).1, wd_at.pt ew1852 (fm1788 k9 hi9).2.1 (tg_ne (fm1788 k9 hi9).2.2 tz1633 (by omega)), (fm1788 k9 hi9).2.2⟩
          have kp1907 := kp1789.putN ew1852 (ho2 i (by omega))
          refine lv_aload_n hx hb dX11_init_441 rfl (lv_at hl 0 rfl) ?_
          refine x_get (ref := "NoteHouseModel") F hP k1853 rfl (fun _ h => List.mem_cons_of_mem _ (List.mem_append_right _ (h))) 3 (Nat.le_of_ble_eq_true rfl) (List.mem_cons_of_mem _ (List.mem_append_left _ (List.mem_append_left _ (List.mem_of_getElem? (i := 6) rfl)))) rfl rfl dX11_init_442 ?_
          refine lv_iload_n hx hb dX11_init_445 rfl (lv_at hl 1 rfl) ?_
          refine x_aaldA F hP k1900 (vp_in_nI (n := i) (N := 12) (by omega) (by decide)) dX11_init_446 ?_
          rw [nI_clamp (n := i) (by omega), pr1683]
          refine W.eq (g2 := F0 m _ ls [.ref (wr i)]) rfl ?_
          refine lv_iload_n hx hb dX11_init_447 rfl (lv_at hl 2 rfl) ?_
          refine lv_ldc (v := 268435456) hx hb hown (hts _ (List.mem_cons_of_mem _ (List.mem_append_left _ (List.mem_append_right _ (List.mem_append_right _ (List.mem_of_getElem? (i := 8) rfl)))))) dX11_init_448 ?_
          refine y_iast F hP hD hS k1903 (vp_in_nI (n := j) (N := 12) (by omega) (by decide)) dX11_init_450 (fun w1908 ew1909 H locs hP hD hS => ?_)
          have k1910 := wd_at.pt ew1909 k1853 (tg_ne t1356 tz1685 (tnA2 (show 10000 < 12000 by decide)))
          have k1911 := wd_at.pt ew1909 k1854 (tg_ne t1373 tz1685 (tnA2 (show 10159 < 12000 by decide)))
          have k1912 := wd_at.pt ew1909 k1855 (tg_ne t1376 tz1685 (tnA2 (show 10158 < 12000 by decide)))
          have k1913 := wd_at.pt ew1909 k1856 (tg_ne t1379 tz1685 (tnA2 (show 10157 < 12000 by decide)))
          have k1914 := wd_at.pt ew1909 k1857 (tg_ne t1382 tz1685 (tnA2 (show 10156 < 12000 by decide)))
          have k1915 := wd_at.pt ew1909 k1858 (tg_ne t1385 tz1685 (tnA2 (show 10154 < 12000 by decide)))
          have k1916 := wd_at.pt ew1909 k1859 (tg_ne t1388 tz1685 (tnA2 (show 10153 < 12000 by decide)))
          have k1917 := wd_at.pt ew1909 k1860 (tg_ne t1391 tz1685 (tnA2 (show 10152 < 12000 by decide)))
          have k1918 := wd_at.pt ew1909 k1861 (tg_ne t1394 tz1685 (tnA2 (show 10151 < 12000 by decide)))
          have k1919 := wd_at.pt ew1909 k1862 (tg_ne t1397 tz1685 (tnA2 (show 10149 < 12000 by decide)))
          have k1920 := wd_at.pt ew1909 k1863 (tg_ne t1400 tz1685 (tnA2 (show 10148 < 12000 by decide)))
          have k1921 := wd_at.pt ew1909 k1864 (tg_ne t1403 tz1685 (tnA2 (show 10147 < 12000 by decide)))
          have k1922 := wd_at.pt ew1909 k1865 (tg_ne t1406 tz1685 (tnA2 (show 10146 < 12000 by decide)))
          have k1923 := wd_at.pt ew1909 k1866 (tg_ne t1409 tz1685 (tnA2 (show 10145 < 12000 by decide)))
          have k1924 := wd_at.pt ew1909 k1867 (tg_ne t1412 tz1685 (tnA2 (show 10144 < 12000 by decide)))
          have k1925 := wd_at.pt ew1909 k1868 (tg_ne t1415 tz1685 (tnA2 (show 10143 < 12000 by decide)))
          have k1926 := wd_at.pt ew1909 k1869 (tg_ne t1418 tz1685 (tnA2 (show 10142 < 12000 by decide)))
          have k1927 := wd_at.pt ew1909 k1870 (tg_ne t1421 tz1685 (tnA2 (show 10141 < 12000 by decide)))
          have k1928 := wd_at.pt ew1909 k1871 (tg_ne t1424 tz1685 (tnA2 (show 10140 < 12000 by decide)))
          have k1929 := wd_at.pt ew1909 k1872 (tg_ne t1427 tz1685 (tnA2 (show 10139 < 12000 by decide)))
          have k1930 := wd_at.pt ew1909 k1873 (tg_ne t1430 tz1685 (tnA2 (show 10137 < 12000 by decide)))
          have k1931 := wd_at.pt ew1909 k1874 (tg_ne t1433 tz1685 (tnA2 (show 10136 < 12000 by decide)))
          have k1932 := wd_at.pt ew1909 k1875 (tg_ne t1436 tz1685 (tnA2 (show 10135 < 12000 by decide)))
          have k1933 := wd_at.pt ew1909 k1876 (tg_ne t1439 tz1685 (tnA2 (show 10134 < 12000 by decide)))
          have k1934 := wd_at.pt ew1909 k1877 (tg_ne t1442 tz1685 (tnA2 (show 10133 < 12000 by decide)))
          have k1935 := wd_at.pt ew1909 k1878 (tg_ne t1445 tz1685 (tnA2 (show 10132 < 12000 by decide)))
          have k1936 := wd_at.pt ew1909 k1879 (tg_ne t1448 tz1685 (tnA2 (show 10131 < 12000 by decide)))
          have k1937 := wd_at.pt ew1909 k1880 (tg_ne t1451 tz1685 (tnA2 (show 10130 < 12000 by decide)))
          have k1938 := wd_at.pt ew1909 k1881 (tg_ne t1454 tz1685 (tnA2 (show 10129 < 12000 by decide)))
          have k1939 := wd_at.pt ew1909 k1882 (tg_ne t1457 tz1685 (tnA2 (show 10124 < 12000 by decide)))
          have k1940 := wd_at.pt ew1909 k1883 (tg_ne t1460 tz1685 (tnA2 (show 10123 < 12000 by decide)))
          have k1941 := wd_at.pt ew1909 k1884 (tg_ne t1463 tz1685 (tnA2 (show 10122 < 12000 by decide)))
          have k1942 := wd_at.pt ew1909 k1885 (tg_ne t1466 tz1685 (tnA2 (show 10121 < 12000 by decide)))
          have k1943 := wd_at.pt ew1909 k1886 (tg_ne t1469 tz1685 (tnA2 (show 10120 < 12000 by decide)))
          have k1944 := wd_at.pt ew1909 k1887 (tg_ne t1472 tz1685 (tnA2 (show 10119 < 12000 by decide)))
          have k1945 := wd_at.pt ew1909 k1888 (tg_ne t1475 tz1685 (tnA2 (show 10118 < 12000 by decide)))
          have k1946 := wd_at.pt ew1909 k1889 (tg_ne t1478 tz1685 (tnA2 (show 10117 < 12000 by decide)))
          have k1947 := wd_at.pt ew1909 k1890 (tg_ne t1481 tz1685 (tnA2 (show 10114 < 12000 by decide)))
          have k1948 := wd_at.pt ew1909 k1891 (tg_ne t1484 tz1685 (tnA2 (show 10113 < 12000 by decide)))
          have k1949 := wd_at.pt ew1909 k1892 (tg_ne t1487 tz1685 (tnA2 (show 10112 < 12000 by decide)))
          have k1950 := wd_at.pt ew1909 k1893 (tg_ne t1490 tz1685 (tnA2 (show 10111 < 12000 by decide)))
          have k1951 := wd_at.pt ew1909 k1894 (tg_ne t1493 tz1685 (tnA2 (show 10110 < 12000 by decide)))
          have k1952 := wd_at.pt ew1909 k1895 (tg_ne t1496 tz1685 (tnA2 (show 10109 < 12000 by decide)))
          have k1953 := wd_at.pt ew1909 k1896 (tg_ne t1499 tz1685 (tnA2 (show 10108 < 12000 by decide)))
          have k1954 := wd_at.pt ew1909 k1897 (tg_ne t1502 tz1685 (tnA2 (show 10106 < 12000 by decide)))
          have k1955 := wd_at.pt ew1909 k1898 (tg_ne t1505 tz1685 (tnA2 (show 10105 < 12000 by decide)))
          have k1956 := wd_at.pt ew1909 k1899 (tg_ne t1508 tz1685 (tnA2 (show 10104 < 12000 by decide)))
          have k1957 := wd_at.pt ew1909 k1900 (tg_ne t1511 tz1685 (tnA2 (show 10103 < 12000 by decide)))
          have k1958 := wd_at.pt ew1909 k1901 (tg_ne t1514 tz1685 (tnA2 (show 10102 < 12000 by decide)))
          have k1959 := wd_at.pt ew1909 k1902 (tg_ne tz1633 tz1685 (by omega))
          have k1960 : wd_at w1908 (wr i) (.inl (cy 2, 12, .inl (upd gw (nI j).toNatClampNeg 268435456))) := wd_at.ps ew1909 k1903
          have fm1961 : ∀ k9, k9 < 12 ∧ k9 ≠ i → qp k9 = some (pr k9) ∧ wd_at w1908 (pr k9) (.inl (cy 2, 12, .inl (fpL k9))) ∧ tg1354 (pr k9) = 11000 + k9 := fun k9 hi9 => ⟨(fm1904 k9 hi9).1, wd_at.pt ew1909 (fm1904 k9 hi9).2.1 (tg_ne (fm1904 k9 hi9).2.2 tz1685 (tnB (n := 12) hi9.1 (by decide))), (fm1904 k9 hi9).2.2⟩
          have fm1962 : ∀ k9, k9 < 12 ∧ k9 ≠ i → qw k9 = some (wr k9) ∧ wd_at w1908 (wr k9) (.inl (cy 2, 12, .inl (fwL k9))) ∧ tg1354 (wr k9) = 12000 + k9 := fun k9 hi9 => ⟨(fm1905 k9 hi9).1, wd_at.pt ew1909 (fm1905 k9 hi9).2.1 (tg_ne (fm1905 k9 hi9).2.2 tz1685 (tnS hi9.2)), (fm1905 k9 hi9).2.2⟩
          have fm1963 : ∀ k9, k9 < 60 → qs k9 = some (sr k9) ∧ wd_at w1908 (sr k9) (.inl (cy 2, 12, .inl (fs k9))) ∧ tg1354 (sr k9) = 13000 + k9 := fun k9 hi9 => ⟨(fm1906 k9 hi9).1, wd_at.pt ew1909 (fm1906 k9 hi9).2.1 (tg_ne (fm1906 k9 hi9).2.2 tz1685 (by omega)), (fm1906 k9 hi9).2.2⟩
          have kp1964 := kp1907.putN ew1909 (ho3 i (by omega))
          refine lv_iinc (v := nI (j + 1)) (lv' := [(2, .int (nI (j + 1))), (0, .ref y), (1, .int (nI i))]) hx hb dX11_init_451 hl (k := 2) rfl (nI_1 j) (by decide) rfl (fun ls hl => ?_)
          refine lv_goto (tgt := 425) hx hb dX11_init_454 (by decide) ?_
          exact ih425 (j + 1) (upd gp (nI j).toNatClampNeg 268435456) (upd gw (nI j).toNatClampNeg 268435456) w1908 (by omega)  k1910 k1911 k1912 k1913 k1914 k1915 k1916 k1917 k1918 k1919 k1920 k1921 k1922 k1923 k1924 k1925 k1926 k1927 k1928 k1929 k1930 k1931 k1932 k1933 k1934 k1935 k1936 k1937 k1938 k1939 k1940 k1941 k1942 k1943 k1944 k1945 k1946 k1947 k1948 k1949 k1950 k1951 k1952 k1953 k1954 k1955 k1956 k1957 k1958 k1959 k1960 fm1961 fm1962 fm1963 kp1964 ls (lv_sub hl [1, 2, 0] rfl) H locs hP hD hS
      exact lp425 _ 0 (fpL i) (fwL i) w1516 (Nat.zero_add 12)  k1517 k1518 k1519 k1520 k1521 k1522 k1523 k1524 k1525 k1526 k1527 k1528 k1529 k1530 k1531 k1532 k1533 k1534 k1535 k1536 k1537 k1538 k1539 k1540 k1541 k1542 k1543 k1544 k1545 k1546 k1547 k1548 k1549 k1550 k1551 k1552 k1553 k1554 k1555 k1556 k1557 k1558 k1559 k1560 k1561 k1562 k1563 k1564 k1565 k1632 k1684 fm1634 fm1686 fm1568 kp1569 ls (lv_sub hl [1, 2, 0] rfl) H locs hP hD hS
  exact lp417 _ 0 (fun _ => 0) fp fw w1362 (Nat.zero_add 12)  k1364 k1372 k1375 k1378 k1381 k1384 k1387 k1390 k1393 k1396 k1399 k1402 k1405 k1408 k1411 k1414 k1417 k1420 k1423 k1426 k1429 k1432 k1435 k1438 k1441 k1444 k1447 k1450 k1453 k1456 k1459 k1462 k1465 k1468 k1471 k1474 k1477 k1480 k1483 k1486 k1489 k1492 k1495 k1498 k1501 k1504 k1507 k1510 k1513 fm1366 fm1367 fm1368 kp1369 ls (lv_sub hl [1, 0] rfl) H locs hP hD hS
