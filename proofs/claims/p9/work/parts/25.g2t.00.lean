theorem tgX {tg tg1 : Nat → Nat} {q t b s : Nat} (e : tg1 = va_up tg q t) (n : b ≠ q) (h : tg b = s) : tg1 b = s := by rw [e, va_up_ne _ _ n]; exact h
theorem tgN {tg tg1 : Nat → Nat} {q t : Nat} (e : tg1 = va_up tg q t) : tg1 q = t := by rw [e, va_up_self]
theorem tgE {tg tg1 tg0 : Nat → Nat} {q t : Nat} {L : List Nat} (e : tg1 = va_up tg q t) (n : q ∉ L) (h : ∀ a, a ∈ L → tg a = tg0 a) : ∀ a, a ∈ L → tg1 a = tg0 a := fun a ha => tgX e (fun z => n (z ▸ ha)) (h a ha)
noncomputable def tgR (tg r : Nat → Nat) (N B : Nat) : Nat → Nat := fun a => @dite _ (∃ i, i < N ∧ r i = a) (Classical.propDecidable _) (fun h => B + Classical.choose h) (fun _ => tg a)
theorem tgR_r {tg tg1 r : Nat → Nat} {N B i : Nat} (e : tg1 = tgR tg r N B) (hj : ∀ a b, a < N → b < N → r a = r b → a = b) (hi : i < N) : tg1 (r i) = B + i := by
  rw [e]
  unfold tgR
  have h : ∃ j, j < N ∧ r j = r i := ⟨i, hi, rfl⟩
  rw [dif_pos h]
  have h2 := Classical.choose_spec h
  rw [hj _ _ h2.1 hi h2.2]
theorem tgR_n {tg tg1 r : Nat → Nat} {N B a s : Nat} (e : tg1 = tgR tg r N B) (n : ∀ i, i < N → r i ≠ a) (h : tg a = s) : tg1 a = s := by
  rw [e]
  unfold tgR
  have h1 : ¬ ∃ j, j < N ∧ r j = a := fun ⟨j, hj, q⟩ => n j hj q
  rw [dif_neg h1]
  exact h
theorem tgR_E {tg tg1 tg0 r : Nat → Nat} {N B : Nat} {L : List Nat} (e : tg1 = tgR tg r N B) (n : ∀ i, i < N → r i ∉ L) (h : ∀ a, a ∈ L → tg a = tg0 a) : ∀ a, a ∈ L → tg1 a = tg0 a := fun a ha => tgR_n e (fun i hi z => n i hi (z ▸ ha)) (h a ha)
theorem aOK0 : aOK (fun _ => 0) (fun _ => 0) := ⟨fun _ _ => ⟨0, Nat.zero_le 6, rfl⟩, fun _ _ => ⟨0, by decide, rfl⟩⟩
theorem bOK0 (B M : Nat) (h : 0 < M) : bOK B M (fun _ => 0) := fun _ _ => ⟨0, h, rfl⟩
theorem cOK0 : cOK (fun _ => 0) := fun _ _ => ⟨0, Nat.zero_le 6, rfl⟩
theorem bOKv {M : Nat} {f : Nat → Int32} : bOK 0 M f := fun k hk => absurd hk (Nat.not_lt_zero k)
theorem lOKv {f g : Nat → Int32} : lOK 0 f g := fun k hk => absurd hk (Nat.not_lt_zero k)
theorem sOK0 {se : Nat → Int32} (h : ∀ t, t < 12 → se t = 0) : sOK (fun _ => 0) se := fun t ht => ⟨(h t ht).symm, 0, by decide, h t ht⟩
theorem up_ag {ag aa : Nat → Nat} {i q : Nat} (h : ∀ z, z < i → ag z = aa z) : ∀ z, z < i + 1 → va_up ag i q z = va_up aa i q z := fun z hz => by
  by_cases e9 : z = i
  · rw [e9, va_up_self, va_up_self]
  · rw [va_up_ne _ _ e9, va_up_ne _ _ e9]; exact h z (by omega)
theorem up_se {se : Nat → Int32} {i : Nat} (h : ∀ z, z < i → se z = 0) : ∀ z, z < i + 1 → va_up se i 0 z = 0 := fun z hz => by
  by_cases e9 : z = i
  · rw [e9, va_up_self]
  · rw [va_up_ne _ _ e9]; exact h z (by omega)
set_option maxHeartbeats 4000000 in
set_option maxRecDepth 100000 in
theorem i_agent (l : Launch) (D : va_G) (cy : Nat → ClassId) (sk sv : Nat → Nat) (w : Wd) (tg0 : Nat → Nat) (k : Nat) (q : Nat)  (hy : wd_at w q (.inr (1, [.null, .null, .null, .null, .null, .int 0])))  (S : Nat → Prop) (sy : S q) (tq : tg0 q = 200 + k) : Ct l D cy sk sv yX1_init wsX1_init ({ frames := 1, cells := 5, slots := 240, locals := 12 }) [.ref q] w (fun v w1 => v = none ∧ wd_kp S w w1 ∧ ∃ (tg1 : Nat → Nat) (g0 : Nat) (g1 : Nat) (g2 : Nat) (g3 : Nat) (g4 : Nat), (∀ a, a ∈ w.1 → tg1 a = tg0 a) ∧ wd_at w1 q (.inr (1, [.ref g0, .ref g1, .ref g2, .ref g3, .ref g4, .int (nI 0)])) ∧ wd_at w1 g0 (.inl (cy 2, 12, .inl (fun _ => 0))) ∧ wd_at w1 g1 (.inl (cy 2, 12, .inl (fun _ => 0))) ∧ wd_at w1 g2 (.inl (cy 2, 72, .inl (fun _ => 0))) ∧ wd_at w1 g3 (.inl (cy 1, 72, .inl (fun _ => 0))) ∧ wd_at w1 g4 (.inl (cy 2, 72, .inl (fun _ => 0))) ∧ tg1 g0 = 220 + k ∧ tg1 g1 = 240 + k ∧ tg1 g2 = 260 + k ∧ tg1 g3 = 280 + k ∧ tg1 g4 = 300 + k) := by
  refine Ct.by (cc := cX1_init) (maxL := 1) (ret := none) (by decide +kernel) rfl (Nat.le_of_ble_eq_true rfl) ?_
  intro p e s m args below meth c A Q F hnm K ls hl
  have F : wd_Fx p s m args meth c cX1_init 1 wsX1_init RX1 D cy sk sv A := F
  have hl : lv_has ls 1 [(0, .ref q)] := hl
  have hx := F.1.1
  have hb := F.1.2.1
  have hown := F.1.2.2.2.1
  have hts := F.1.2.2.2.2
  intro H locs hP hD hS
  have kp0 : wd_kp S w w := wd_kp.rf
  obtain ⟨tg, etg0⟩ : ∃ f : Nat → Nat, f = tg0 := ⟨_, rfl⟩
  have hext0 : ∀ a, a ∈ w.1 → tg a = tg0 a := fun a _ => by rw [etg0]
  have tq0 : tg q = 200 + k := by rw [etg0]; exact tq
  refine lv_aload_n hx hb dX1_init_0 rfl (lv_at hl 0 rfl) ?_
  refine x_objInit F (List.mem_cons_of_mem _ (List.mem_append_left _ (List.mem_of_getElem? (i := 0) rfl))) (List.mem_cons_of_mem _ (List.mem_append_left _ (List.mem_of_getElem? (i := 1) rfl))) (List.mem_cons_of_mem _ (List.mem_append_left _ (List.mem_of_getElem? (i := 2) rfl))) hl.1 dX1_init_1 (Nat.le_of_ble_eq_true rfl) (Nat.le_of_ble_eq_true rfl) ?_
  refine lv_aload_n hx hb dX1_init_4 rfl (lv_at hl 0 rfl) ?_
  refine lv_bipush (v := 12) hx hb dX1_init_5 (by decide) ?_
  refine y_newI (N := 12) F hP hD hS (List.mem_cons_of_mem _ (List.mem_append_left _ (List.mem_of_getElem? (i := 3) rfl))) (by decide) (by decide) (by decide) (Nat.le_of_ble_eq_true rfl) (Nat.le_of_ble_eq_true rfl) dX1_init_7 (fun g0 w1 ew2 hq3 H hP hD hS => ?_)
  refine W.widen (k := 1) (n := 12) (Nat.le_of_ble_eq_true rfl) (Nat.le_of_ble_eq_true rfl) ?_
  have k4 := wd_at.ad ew2 hq3 hy
  have k5 : wd_at w1 g0 (.inl (cy 2, 12, .inl (fun _ => 0))) := wd_at.nw ew2
  have kp6 := kp0.add ew2 hq3
  obtain ⟨tg7, et8⟩ : ∃ f : Nat → Nat, f = va_up tg g0 (220 + k) := ⟨_, rfl⟩
  have t9 := tgX et8 (wd_nL hq3 hy) tq0
  have hext10 := tgE et8 (kp0.out hq3) hext0
  refine y_putF (ref := "NoteHouse$Agent") F hP hD hS k4 rfl (fun _ h => List.mem_cons_of_mem _ (List.mem_append_right _ (h))) tyX1_ok nmX1 hnm 0 (Nat.le_of_ble_eq_true rfl) (List.mem_cons_of_mem _ (List.mem_append_left _ (List.mem_of_getElem? (i := 4) rfl))) rfl rfl rfl rfl rfl (Nat.le_of_ble_eq_true rfl) dX1_init_9 (fun w11 ew12 H locs hP hD hS => ?_)
  have k13 : wd_at w11 q (.inr (1, [.ref g0, .null, .null, .null, .null, .int 0])) := wd_at.ps ew12 k4
  have k14 := wd_at.pt ew12 k5 (tg_ne (tgN et8) t9 (by omega))
  have kp15 := kp6.put ew12 sy
  refine lv_aload_n hx hb dX1_init_12 rfl (lv_at hl 0 rfl) ?_
  refine lv_bipush (v := 12) hx hb dX1_init_13 (by decide) ?_
  refine y_newI (N := 12) F hP hD hS (List.mem_cons_of_mem _ (List.mem_append_left _ (List.mem_of_getElem? (i := 3) rfl))) (by decide) (by decide) (by decide) (Nat.le_of_ble_eq_true rfl) (Nat.le_of_ble_eq_true rfl) dX1_init_15 (fun g1 w16 ew17 hq18 H hP hD hS => ?_)
  refine W.widen (k := 2) (n := 24) (Nat.le_of_ble_eq_true rfl) (Nat.le_of_ble_eq_true rfl) ?_
  have k19 := wd_at.ad ew17 hq18 k13
  have k20 := wd_at.ad ew17 hq18 k14
  have k21 : wd_at w16 g1 (.inl (cy 2, 12, .inl (fun _ => 0))) := wd_at.nw ew17
  have kp22 := kp15.add ew17 hq18
  obtain ⟨tg23, et24⟩ : ∃ f : Nat → Nat, f = va_up tg7 g1 (240 + k) := ⟨_, rfl⟩
  have t25 := tgX et24 (wd_nL hq18 k13) t9
  have t26 := tgX et24 (wd_nL hq18 k14) (tgN et8)
  have hext27 := tgE et24 (kp15.out hq18) hext10
  refine y_putF (ref := "NoteHouse$Agent") F hP hD hS k19 rfl (fun _ h => List.mem_cons_of_mem _ (List.mem_append_right _ (h))) tyX1_ok nmX1 hnm 1 (Nat.le_of_ble_eq_true rfl) (List.mem_cons_of_mem _ (List.mem_append_left _ (List.mem_of_getElem? (i := 5) rfl))) rfl rfl rfl rfl rfl (Nat.le_of_ble_eq_true rfl) dX1_init_17 (fun w28 ew29 H locs hP hD hS => ?_)
  have k30 : wd_at w28 q (.inr (1, [.ref g0, .ref g1, .null, .null, .null, .int 0])) := wd_at.ps ew29 k19
  have k31 := wd_at.pt ew29 k20 (tg_ne t26 t25 (by omega))
  have k32 := wd_at.pt ew29 k21 (tg_ne (tgN et24) t25 (by omega))
  have kp33 := kp22.put ew29 sy
  refine lv_aload_n hx hb dX1_init_20 rfl (lv_at hl 0 rfl) ?_
  refine lv_bipush (v := 72) hx hb dX1_init_21 (by decide) ?_
  refine y_newI (N := 72) F hP hD hS (List.mem_cons_of_mem _ (List.mem_append_left _ (List.mem_of_getElem? (i := 3) rfl))) (by decide) (by decide) (by decide) (Nat.le_of_ble_eq_true rfl) (Nat.le_of_ble_eq_true rfl) dX1_init_23 (fun g2 w34 ew35 hq36 H hP hD hS => ?_)
  refine W.widen (k := 3) (n := 96) (Nat.le_of_ble_eq_true rfl) (Nat.le_of_ble_eq_true rfl) ?_
  have k37 := wd_at.ad ew35 hq36 k30
  have k38 := wd_at.ad ew35 hq36 k31
  have k39 := wd_at.ad ew35 hq36 k32
  have k40 : wd_at w34 g2 (.inl (cy 2, 72, .inl (fun _ => 0))) := wd_at.nw ew35
  have kp41 := kp33.add ew35 hq36
  obtain ⟨tg42, et43⟩ : ∃ f : Nat → Nat, f = va_up tg23 g2 (260 + k) := ⟨_, rfl⟩
  have t44 := tgX et43 (wd_nL hq36 k30) t25
  have t45 := tgX et43 (wd_nL hq36 k31) t26
  have t46 := tgX et43 (wd_nL hq36 k32) (tgN et24)
  have hext47 := tgE et43 (kp33.out hq36) hext27
  refine y_putF (ref := "NoteHouse$Agent") F hP hD hS k37 rfl (fun _ h => List.mem_cons_of_mem _ (List.mem_append_right _ (h))) tyX1_ok nmX1 hnm 2 (Nat.le_of_ble_eq_true rfl) (List.mem_cons_of_mem _ (List.mem_append_left _ (List.mem_of_getElem? (i := 6) rfl))) rfl rfl rfl rfl rfl (Nat.le_of_ble_eq_true rfl) dX1_init_25 (fun w48 ew49 H locs hP hD hS => ?_)
  have k50 : wd_at w48 q (.inr (1, [.ref g0, .ref g1, .ref g2, .null, .null, .int 0])) := wd_at.ps ew49 k37
  have k51 := wd_at.pt ew49 k38 (tg_ne t45 t44 (by omega))
  have k52 := wd_at.pt ew49 k39 (tg_ne t46 t44 (by omega))
  have k53 := wd_at.pt ew49 k40 (tg_ne (tgN et43) t44 (by omega))
  have kp54 := kp41.put ew49 sy
  refine lv_aload_n hx hb dX1_init_28 rfl (lv_at hl 0 rfl) ?_
  refine lv_bipush (v := 72) hx hb dX1_init_29 (by decide) ?_
  refine y_newC (N := 72) F hP hD hS (List.mem_cons_of_mem _ (List.mem_append_left _ (List.mem_of_getElem? (i := 7) rfl))) (by decide) (by decide) (by decide) (Nat.le_of_ble_eq_true rfl) (Nat.le_of_ble_eq_true rfl) dX1_init_31 (fun g3 w55 ew56 hq57 H hP hD hS => ?_)
  refine W.widen (k := 4) (n := 168) (Nat.le_of_ble_eq_true rfl) (Nat.le_of_ble_eq_true rfl) ?_
  have k58 := wd_at.ad ew56 hq57 k50
  have k59 := wd_at.ad ew56 hq57 k51
  have k60 := wd_at.ad ew56 hq57 k52
  have k61 := wd_at.ad ew56 hq57 k53
  have k62 : wd_at w55 g3 (.inl (cy 1, 72, .inl (fun _ => 0))) := wd_at.nw ew56
  have kp63 := kp54.add ew56 hq57
  obtain ⟨tg64, et65⟩ : ∃ f : Nat → Nat, f = va_up tg42 g3 (280 + k) := ⟨_, rfl⟩
  have t66 := tgX et65 (wd_nL hq57 k50) t44
  have t67 := tgX et65 (wd_nL hq57 k51) t45
  have t68 := tgX et65 (wd_nL hq57 k52) t46
  have t69 := tgX et65 (wd_nL hq57 k53) (tgN et43)
  have hext70 := tgE et65 (kp54.out hq57) hext47
  refine y_putF (ref := "NoteHouse$Agent") F hP hD hS k58 rfl (fun _ h => List.mem_cons_of_mem _ (List.mem_append_right _ (h))) tyX1_ok nmX1 hnm 3 (Nat.le_of_ble_eq_true rfl) (List.mem_cons_of_mem _ (List.mem_append_left _ (List.mem_of_getElem? (i := 8) rfl))) rfl rfl rfl rfl rfl (Nat.le_of_ble_eq_true rfl) dX1_init_33 (fun w71 ew72 H locs hP hD hS => ?_)
  have k73 : wd_at w71 q (.inr (1, [.ref g0, .ref g1, .ref g2, .ref g3, .null, .int 0])) := wd_at.ps ew72 k58
  have k74 := wd_at.pt ew72 k59 (tg_ne t67 t66 (by omega))
  have k75 := wd_at.pt ew72 k60 (tg_ne t68 t66 (by omega))
  have k76 := wd_at.pt ew72 k61 (tg_ne t69 t66 (by omega))
  have k77 := wd_at.pt ew72 k62 (tg_ne (tgN et65) t66 (by omega))
  have kp78 := kp63.put ew72 sy
  refine lv_aload_n hx hb dX1_init_36 rfl (lv_at hl 0 rfl) ?_
  refine lv_bipush (v := 72) hx hb dX1_init_37 (by decide) ?_
  refine y_newI (N := 72) F hP hD hS (List.mem_cons_of_mem _ (List.mem_append_left _ (List.mem_of_getElem? (i := 3) rfl))) (by decide) (by decide) (by decide) (Nat.le_of_ble_eq_true rfl) (Nat.le_of_ble_eq_true rfl) dX1_init_39 (fun g4 w79 ew80 hq81 H hP hD hS => ?_)
  refine W.widen (k := 5) (n := 240) (Nat.le_of_ble_eq_true rfl) (Nat.le_of_ble_eq_true rfl) ?_
  have k82 := wd_at.ad ew80 hq81 k73
  have k83 := wd_at.ad ew80 hq81 k74
  have k84 := wd_at.ad ew80 hq81 k75
  have k85 := wd_at.ad ew80 hq81 k76
  have k86 := wd_at.ad ew80 hq81 k77
  have k87 : wd_at w79 g4 (.inl (cy 2, 72, .inl (fun _ => 0))) := wd_at.nw ew80
  have kp88 := kp78.add ew80 hq81
  obtain ⟨tg89, et90⟩ : ∃ f : Nat → Nat, f = va_up tg64 g4 (300 + k) := ⟨_, rfl⟩
  have t91 := tgX et90 (wd_nL hq81 k73) t66
  have t92 := tgX et90 (wd_nL hq81 k74) t67
  have t93 := tgX et90 (wd_nL hq81 k75) t68
  have t94 := tgX et90 (wd_nL hq81 k76) t69
  have t95 := tgX et90 (wd_nL hq81 k77) (tgN et65)
  have hext96 := tgE et90 (kp78.out hq81) hext70
  refine y_putF (ref := "NoteHouse$Agent") F hP hD hS k82 rfl (fun _ h => List.mem_cons_of_mem _ (List.mem_append_right _ (h))) tyX1_ok nmX1 hnm 4 (Nat.le_of_ble_eq_true rfl) (List.mem_cons_of_mem _ (List.mem_append_left _ (List.mem_of_getElem? (i := 9) rfl))) rfl rfl rfl rfl rfl (Nat.le_of_ble_eq_true rfl) dX1_init_41 (fun w97 ew98 H locs hP hD hS => ?_)
  have k99 : wd_at w97 q (.inr (1, [.ref g0, .ref g1, .ref g2, .ref g3, .ref g4, .int 0])) := wd_at.ps ew98 k82
  have k100 := wd_at.pt ew98 k83 (tg_ne t92 t91 (by omega))
  have k101 := wd_at.pt ew98 k84 (tg_ne t93 t91 (by omega))
  have k102 := wd_at.pt ew98 k85 (tg_ne t94 t91 (by omega))
  have k103 := wd_at.pt ew98 k86 (tg_ne t95 t91 (by omega))
  have k104 := wd_at.pt ew98 k87 (tg_ne (tgN et90) t91 (by omega))
  have kp105 := kp88.put ew98 sy
  refine lv_aload_n hx hb dX1_init_44 rfl (lv_at hl 0 rfl) ?_
  refine lv_iconst (v := 0) hx hb dX1_init_45 (by decide) ?_
  refine y_put (ref := "NoteHouse$Agent") F hP hD hS k99 rfl (fun _ h => List.mem_cons_of_mem _ (List.mem_append_right _ (h))) tyX1_ok nmX1 5 (Nat.le_of_ble_eq_true rfl) (List.mem_cons_of_mem _ (List.mem_append_left _ (List.mem_of_getElem? (i := 10) rfl))) rfl rfl rfl rfl (Nat.le_of_ble_eq_true rfl) dX1_init_46 (fun w106 ew107 H locs hP hD hS => ?_)
  have k108 : wd_at w106 q (.inr (1, [.ref g0, .ref g1, .ref g2, .ref g3, .ref g4, .int 0])) := wd_at.ps ew107 k99
  have k109 := wd_at.pt ew107 k100 (tg_ne t92 t91 (by omega))
  have k110 := wd_at.pt ew107 k101 (tg_ne t93 t91 (by omega))
  have k111 := wd_at.pt ew107 k102 (tg_ne t94 t91 (by omega))
  have k112 := wd_at.pt ew107 k103 (tg_ne t95 t91 (by omega))
  have k113 := wd_at.pt ew107 k104 (tg_ne (tgN et90) t91 (by omega))
  have kp114 := kp105.put ew107 sy
  exact y_vr K hP hD hS (Nat.le_of_ble_eq_true rfl) (Nat.le_of_ble_eq_true rfl) rfl dX1_init_49 (⟨rfl, kp114, tg89, g0, g1, g2, g3, g4, hext96, k108, k109, k110, k111, k112, k113, t92, t93, t94, t95, (tgN et90)⟩)
set_option maxHeartbeats 4000000 in
set_option maxRecDepth 100000 in
theorem i_town (l : Launch) (D : va_G) (cy : Nat → ClassId) (sk sv : Nat → Nat) (w : Wd) (tg0 : Nat → Nat) (k : Nat) (q : Nat)  (hy : wd_at w q (.inr (8, [.int 0, .int 0, .int 0, .null])))  (S : Nat → Prop) (sy : S q) (tq : tg0 q = 100 + k) : Ct l D cy sk sv yX8_init wsX8_init ({ frames := 2, cells := 6, slots := 246, locals := 32 }) [.ref q] w (fun v w1 => v = none ∧ wd_kp S w w1 ∧ ∃ (tg1 : Nat → Nat) (ag : Nat) (g0 : Nat) (g1 : Nat) (g2 : Nat) (g3 : Nat) (g4 : Nat), (∀ a, a ∈ w.1 → tg1 a = tg0 a) ∧ wd_at w1 q (.inr (8, [.int 0, .int 1000, .int 0, .ref ag])) ∧ wd_at w1 ag (.inr (1, [.ref g0, .ref g1, .ref g2, .ref g3, .ref g4, .int (nI 0)])) ∧ wd_at w1 g0 (.inl (cy 2, 12, .inl (fun _ => 0))) ∧ wd_at w1 g1 (.inl (cy 2, 12, .inl (fun _ => 0))) ∧ wd_at w1 g2 (.inl (cy 2, 72, .inl (fun _ => 0))) ∧ wd_at w1 g3 (.inl (cy 1, 72, .inl (fun _ => 0))) ∧ wd_at w1 g4 (.inl (cy 2, 72, .inl (fun _ => 0))) ∧ tg1 ag = 200 + k ∧ tg1 g0 = 220 + k ∧ tg1 g1 = 240 + k ∧ tg1 g2 = 260 + k ∧ tg1 g3 = 280 + k ∧ tg1 g4 = 300 + k) := by
  refine Ct.by (cc := cX8_init) (maxL := 1) (ret := none) (by decide +kernel) rfl (Nat.le_of_ble_eq_true rfl) ?_
  intro p e s m args below meth c A Q F hnm K ls hl
  have F : wd_Fx p s m args meth c cX8_init 1 wsX8_init RX8 D cy sk sv A := F
  have hl : lv_has ls 1 [(0, .ref q)] := hl
  have hx := F.1.1
  have hb := F.1.2.1
  have hown := F.1.2.2.2.1
  have hts := F.1.2.2.2.2
  intro H locs hP hD hS
  have kp0 : wd_kp S w w := wd_kp.rf
  obtain ⟨tg, etg0⟩ : ∃ f : Nat → Nat, f = tg0 := ⟨_, rfl⟩
  have hext0 : ∀ a, a ∈ w.1 → tg a = tg0 a := fun a _ => by rw [etg0]
  have tq0 : tg q = 100 + k := by rw [etg0]; exact tq
  refine lv_aload_n hx hb dX8_init_0 rfl (lv_at hl 0 rfl) ?_
  refine x_objInit F (List.mem_cons_of_mem _ (List.mem_append_left _ (List.mem_append_left _ (List.mem_of_getElem? (i := 0) rfl)))) (List.mem_cons_of_mem _ (List.mem_append_left _ (List.mem_append_left _ (List.mem_of_getElem? (i := 1) rfl)))) (List.mem_cons_of_mem _ (List.mem_append_left _ (List.mem_append_left _ (List.mem_of_getElem? (i := 2) rfl)))) hl.1 dX8_init_1 (Nat.le_of_ble_eq_true rfl) (Nat.le_of_ble_eq_true rfl) ?_
  refine lv_aload_n hx hb dX8_init_4 rfl (lv_at hl 0 rfl) ?_
  refine lv_iconst (v := 0) hx hb dX8_init_5 (by decide) ?_
  refine y_put (ref := "NoteHouse$Town") F hP hD hS hy rfl (fun _ h => List.mem_cons_of_mem _ (List.mem_append_left _ (List.mem_append_right _ (h)))) tyX8_ok nmX8 0 (Nat.le_of_ble_eq_true rfl) (List.mem_cons_of_mem _ (List.mem_append_left _ (List.mem_append_left _ (List.mem_of_getElem? (i := 3) rfl)))) rfl rfl rfl rfl (Nat.le_of_ble_eq_true rfl) dX8_init_6 (fun w1 ew2 H locs hP hD hS => ?_)
  have k3 : wd_at w1 q (.inr (8, [.int 0, .int 0, .int 0, .null])) := wd_at.ps ew2 hy
  have kp4 := kp0.put ew2 sy
  refine lv_aload_n hx hb dX8_init_9 rfl (lv_at hl 0 rfl) ?_
  refine lv_sipush (v := 1000) hx hb dX8_init_10 (by decide) ?_
  refine y_put (ref := "NoteHouse$Town") F hP hD hS k3 rfl (fun _ h => List.mem_cons_of_mem _ (List.mem_append_left _ (List.mem_append_right _ (h)))) tyX8_ok nmX8 1 (Nat.le_of_ble_eq_true rfl) (List.mem_cons_of_mem _ (List.mem_append_left _ (List.mem_append_left _ (List.mem_of_getElem? (i := 4) rfl)))) rfl rfl rfl rfl (Nat.le_of_ble_eq_true rfl) dX8_init_13 (fun w5 ew6 H locs hP hD hS => ?_)
  have k7 : wd_at w5 q (.inr (8, [.int 0, .int 1000, .int 0, .null])) := wd_at.ps ew6 k3
  have kp8 := kp4.put ew6 sy
  refine lv_aload_n hx hb dX8_init_16 rfl (lv_at hl 0 rfl) ?_
  refine lv_iconst (v := 0) hx hb dX8_init_17 (by decide) ?_
  refine y_put (ref := "NoteHouse$Town") F hP hD hS k7 rfl (fun _ h => List.mem_cons_of_mem _ (List.mem_append_left _ (List.mem_append_right _ (h)))) tyX8_ok nmX8 2 (Nat.le_of_ble_eq_true rfl) (List.mem_cons_of_mem _ (List.mem_append_left _ (List.mem_append_left _ (List.mem_of_getElem? (i := 5) rfl)))) rfl rfl rfl rfl (Nat.le_of_ble_eq_true rfl) dX8_init_18 (fun w9 ew10 H locs hP hD hS => ?_)
  have k11 : wd_at w9 q (.inr (8, [.int 0, .int 1000, .int 0, .null])) := wd_at.ps ew10 k7
  have kp12 := kp8.put ew10 sy
  refine lv_aload_n hx hb dX8_init_21 rfl (lv_at hl 0 rfl) ?_
  refine y_new (fs := [.null, .null, .null, .null, .null, .int 0]) F hP hD hS (ci := 1) rfl (fun _ h => List.mem_cons_of_mem _ (List.mem_append_right _ (h))) tyX1_ok (List.mem_cons_of_mem _ (List.mem_append_left _ (List.mem_append_left _ (List.mem_of_getElem? (i := 6) rfl)))) (List.mem_cons_of_mem _ (List.mem_append_left _ (List.mem_append_left _ (List.mem_of_getElem? (i := 7) rfl)))) (List.mem_cons_of_mem _ (List.mem_append_left _ (List.mem_append_left _ (List.mem_of_getElem? (i := 8) rfl)))) df_1 (Nat.le_of_ble_eq_true rfl) (Nat.le_of_ble_eq_true rfl) dX8_init_22 (fun ag w13 ew14 hq15 H hP hD hS => ?_)
  refine W.widen (k := 1) (n := 6) (Nat.le_of_ble_eq_true rfl) (Nat.le_of_ble_eq_true rfl) ?_
  have k16 := wd_at.ad ew14 hq15 k11
  have k17 : wd_at w13 ag (.inr (1, [.null, .null, .null, .null, .null, .int 0])) := wd_at.nw ew14
  have kp18 := kp12.add ew14 hq15
  obtain ⟨tg19, et20⟩ : ∃ f : Nat → Nat, f = va_up tg ag (200 + k) := ⟨_, rfl⟩
  have t21 := tgX et20 (wd_nL hq15 k11) tq0
  have hext22 := tgE et20 (kp12.out hq15) hext0
  refine lv_dup hx hb dX8_init_25 rfl ?_
  refine x_callIN (ret := none) (host := RX10) (n := 0) (As := []) (rest := [.ref ag, .ref q]) F hP hD hS (i_agent l D cy sk sv w13 tg19 k ag k17 (fun b => b = ag) rfl (tgN et20)) gX8_init_X1_init_n23 rfl (by decide +kernel) (List.mem_cons_of_mem _ (List.mem_append_left _ (List.mem_append_left _ (List.mem_of_getElem? (i := 8) rfl)))) (List.mem_cons_of_mem _ (List.mem_append_left _ (List.mem_append_left _ (List.mem_of_getElem? (i := 10) rfl)))) rfl (by decide +kernel) ⟨(Nat.le_of_ble_eq_true rfl), (Nat.le_of_ble_eq_true rfl)⟩ rfl hl.1 (Nat.le_of_ble_eq_true rfl) dX8_init_26 rfl ⟨(Nat.le_of_ble_eq_true rfl), (Nat.le_of_ble_eq_true rfl)⟩ (fun v24 w25 hp23 H locs hP hD hS => ?_)
  obtain ⟨rfl, kq27, tg26, g0, g1, g2, g3, g4, hag28, k29, k30, k31, k32, k33, k34, t35, t36, t37, t38, t39⟩ := hp23
  have k40 := kq27.2 _ _ k16 (wd_nL hq15 k11)
  have kp41 := kp18.tr kq27 (fun b9 hm q9 => (fun q9 => absurd (q9 ▸ hm) (kp12.out hq15)) q9)
  have t42 := (hag28 _ k16.1).trans t21
  have t43 := (hag28 _ k17.1).trans (tgN et20)
  have hext44 := fun a ha => (hag28 a (kp18.1 a ha)).trans (hext22 a ha)
  refine W.eq (g2 := F0 m 29 ls [.ref ag, .ref q]) rfl (W.widen (k := 6) (n := 246) (Nat.le_of_ble_eq_true rfl) (Nat.le_of_ble_eq_true rfl) ?_)
  refine y_put (ref := "NoteHouse$Town") F hP hD hS k40 rfl (fun _ h => List.mem_cons_of_mem _ (List.mem_append_left _ (List.mem_append_right _ (h)))) tyX8_ok nmX8 3 (Nat.le_of_ble_eq_true rfl) (List.mem_cons_of_mem _ (List.mem_append_left _ (List.mem_append_left _ (List.mem_of_getElem? (i := 9) rfl)))) rfl rfl rfl rfl (Nat.le_of_ble_eq_true rfl) dX8_init_29 (fun w45 ew46 H locs hP hD hS => ?_)
  have k47 : wd_at w45 q (.inr (8, [.int 0, .int 1000, .int 0, .ref ag])) := wd_at.ps ew46 k40
  have k48 := wd_at.pt ew46 k29 (tg_ne t43 t42 (by omega))
  have k49 := wd_at.pt ew46 k30 (tg_ne t35 t42 (by omega))
  have k50 := wd_at.pt ew46 k31 (tg_ne t36 t42 (by omega))
  have k51 := wd_at.pt ew46 k32 (tg_ne t37 t42 (by omega))
  have k52 := wd_at.pt ew46 k33 (tg_ne t38 t42 (by omega))
  have k53 := wd_at.pt ew46 k34 (tg_ne t39 t42 (by omega))
  have kp54 := kp41.put ew46 sy
  exact y_vr K hP hD hS (Nat.le_of_ble_eq_true rfl) (Nat.le_of_ble_eq_true rfl) rfl dX8_init_32 (⟨rfl, kp54, tg26, ag, g0, g1, g2, g3, g4, hext44, k47, k48, k49, k50, k51, k52, k53, t43, t35, t36, t37, t38, t39⟩)
set_option maxHeartbeats 4000000 in
set_option maxRecDepth 100000 in
theorem i_tape (l : Launch) (D : va_G) (cy : Nat → ClassId) (sk sv : Nat → Nat) (w : Wd) (tg0 : Nat → Nat) (q : Nat)  (hy : wd_at w q (.inr (7, [.null, .int 0, .int 0])))  (S : Nat → Prop) (sy : S q) (tq : tg0 q = 11) : Ct l D cy sk sv yX7_init wsX7_init ({ frames := 1, cells := 1, slots := 300, locals := 12 }) [.ref q] w (fun v w1 => v = none ∧ wd_kp S w w1 ∧ ∃ (tg1 : Nat → Nat) (tb : Nat), (∀ a, a ∈ w.1 → tg1 a = tg0 a) ∧ wd_at w1 q (.inr (7, [.ref tb, .int (nI 0), .int 0])) ∧ wd_at w1 tb (.inl (cy 0, 300, .inl (fun _ => 0))) ∧ tg1 tb = 12) := by
  refine Ct.by (cc := cX7_init) (maxL := 1) (ret := none) (by decide +kernel) rfl (Nat.le_of_ble_eq_true rfl) ?_
  intro p e s m args below meth c A Q F hnm K ls hl
  have F : wd_Fx p s m args meth c cX7_init 1 wsX7_init RX7 D cy sk sv A := F
  have hl : lv_has ls 1 [(0, .ref q)] := hl
  have hx := F.1.1
  have hb := F.1.2.1
  have hown := F.1.2.2.2.1
  have hts := F.1.2.2.2.2
  intro H locs hP hD hS
  have kp0 : wd_kp S w w := wd_kp.rf
  obtain ⟨tg, etg0⟩ : ∃ f : Nat → Nat, f = tg0 := ⟨_, rfl⟩
  have hext0 : ∀ a, a ∈ w.1 → tg a = tg0 a := fun a _ => by rw [etg0]
  have tq0 : tg q = 11 := by rw [etg0]; exact tq
  refine lv_aload_n hx hb dX7_init_0 rfl (lv_at hl 0 rfl) ?_
  refine x_objInit F (List.mem_cons_of_mem _ (List.mem_append_left _ (List.mem_of_getElem? (i := 0) rfl))) (List.mem_cons_of_mem _ (List.mem_append_left _ (List.mem_of_getElem? (i := 1) rfl))) (List.mem_cons_of_mem _ (List.mem_append_left _ (List.mem_of_getElem? (i := 2) rfl))) hl.1 dX7_init_1 (Nat.le_of_ble_eq_true rfl) (Nat.le_of_ble_eq_true rfl) ?_
  refine lv_aload_n hx hb dX7_init_4 rfl (lv_at hl 0 rfl) ?_
  refine lv_sipush (v := 300) hx hb dX7_init_5 (by decide) ?_
  refine y_newB (N := 300) F hP hD hS (List.mem_cons_of_mem _ (List.mem_append_left _ (List.mem_of_getElem? (i := 3) rfl))) (by decide) (by decide) (by decide) (Nat.le_of_ble_eq_true rfl) (Nat.le_of_ble_eq_true rfl) dX7_init_8 (fun tb w1 ew2 hq3 H hP hD hS => ?_)
  refine W.widen (k := 1) (n := 300) (Nat.le_of_ble_eq_true rfl) (Nat.le_of_ble_eq_true rfl) ?_
  have k4 := wd_at.ad ew2 hq3 hy
  have k5 : wd_at w1 tb (.inl (cy 0, 300, .inl (fun _ => 0))) := wd_at.nw ew2
  have kp6 := kp0.add ew2 hq3
  obtain ⟨tg7, et8⟩ : ∃ f : Nat → Nat, f = va_up tg tb (12) := ⟨_, rfl⟩
  have t9 := tgX et8 (wd_nL hq3 hy) tq0
  have hext10 := tgE et8 (kp0.out hq3) hext0
  refine y_putF (ref := "NoteHouse$Tape") F hP hD hS k4 rfl (fun _ h => List.mem_cons_of_mem _ (List.mem_append_right _ (h))) tyX7_ok nmX7 hnm 0 (Nat.le_of_ble_eq_true rfl) (List.mem_cons_of_mem _ (List.mem_append_left _ (List.mem_of_getElem? (i := 4) rfl))) rfl rfl rfl rfl rfl (Nat.le_of_ble_eq_true rfl) dX7_init_10 (fun w11 ew12 H locs hP hD hS => ?_)
  have k13 : wd_at w11 q (.inr (7, [.ref tb, .int 0, .int 0])) := wd_at.ps ew12 k4
  have k14 := wd_at.pt ew12 k5 (tg_ne (tgN et8) t9 (by decide))
  have kp15 := kp6.put ew12 sy
  refine lv_aload_n hx hb dX7_init_13 rfl (lv_at hl 0 rfl) ?_
  refine lv_iconst (v := 0) hx hb dX7_init_14 (by decide) ?_
  refine y_put (ref := "NoteHouse$Tape") F hP hD hS k13 rfl (fun _ h => List.mem_cons_of_mem _ (List.mem_append_right _ (h))) tyX7_ok nmX7 1 (Nat.le_of_ble_eq_true rfl) (List.mem_cons_of_mem _ (List.mem_append_left _ (List.mem_of_getElem? (i := 5) rfl))) rfl rfl rfl rfl (Nat.le_of_ble_eq_true rfl) dX7_init_15 (fun w16 ew17 H locs hP hD hS => ?_)
  have k18 : wd_at w16 q (.inr (7, [.ref tb, .int 0, .int 0])) := wd_at.ps ew17 k13
  have k19 := wd_at.pt ew17 k14 (tg_ne (tgN et8) t9 (by decide))
  have kp20 := kp15.put ew17 sy
  refine lv_aload_n hx hb dX7_init_18 rfl (lv_at hl 0 rfl) ?_
  refine lv_iconst (v := 0) hx hb dX7_init_19 (by decide) ?_
  refine y_put (ref := "NoteHouse$Tape") F hP hD hS k18 rfl (fun _ h => List.mem_cons_of_mem _ (List.mem_append_right _ (h))) tyX7_ok nmX7 2 (Nat.le_of_ble_eq_true rfl) (List.mem_cons_of_mem _ (List.mem_append_left _ (List.mem_of_getElem? (i := 6) rfl))) rfl rfl rfl rfl (Nat.le_of_ble_eq_true rfl) dX7_init_20 (fun w21 ew22 H locs hP hD hS => ?_)
  have k23 : wd_at w21 q (.inr (7, [.ref tb, .int 0, .int 0])) := wd_at.ps ew22 k18
  have k24 := wd_at.pt ew22 k19 (tg_ne (tgN et8) t9 (by decide))
  have kp25 := kp20.put ew22 sy
  exact y_vr K hP hD hS (Nat.le_of_ble_eq_true rfl) (Nat.le_of_ble_eq_true rfl) rfl dX7_init_23 (⟨rfl, kp25, tg7, tb, hext10, k23, k24, (tgN et8)⟩)
set_option maxHeartbeats 4000000 in
set_option maxRecDepth 100000 in
theorem i_law (l : Launch) (D : va_G) (cy : Nat → ClassId) (sk sv : Nat → Nat) (w : Wd) (tg0 : Nat → Nat) (k : Nat) (q : Nat)  (hy : wd_at w q (.inr (2, [.null, .int 0, .int 0])))  (S : Nat → Prop) (sy : S q) (tq : tg0 q = 30 + k) : Ct l D cy sk sv yX2_init wsX2_init ({ frames := 1, cells := 1, slots := 4, locals := 20 }) [.ref q] w (fun v w1 => v = none ∧ wd_kp S w w1 ∧ ∃ (tg1 : Nat → Nat) (bl : Nat) (bf : Nat → Int32), (∀ a, a ∈ w.1 → tg1 a = tg0 a) ∧ wd_at w1 q (.inr (2, [.ref bl, .int 10, .int 0])) ∧ wd_at w1 bl (.inl (cy 2, 4, .inl bf)) ∧ tg1 bl = 32 + k) := by
  refine Ct.by (cc := cX2_init) (maxL := 1) (ret := none) (by decide +kernel) rfl (Nat.le_of_ble_eq_true rfl) ?_
  intro p e s m args below meth c A Q F hnm K ls hl
  have F : wd_Fx p s m args meth c cX2_init 1 wsX2_init RX2 D cy sk sv A := F
  have hl : lv_has ls 1 [(0, .ref q)] := hl
  have hx := F.1.1
  have hb := F.1.2.1
  have hown := F.1.2.2.2.1
  have hts := F.1.2.2.2.2
  intro H locs hP hD hS
  have kp0 : wd_kp S w w := wd_kp.rf
  obtain ⟨tg, etg0⟩ : ∃ f : Nat → Nat, f = tg0 := ⟨_, rfl⟩
  have hext0 : ∀ a, a ∈ w.1 → tg a = tg0 a := fun a _ => by rw [etg0]
  have tq0 : tg q = 30 + k := by rw [etg0]; exact tq
  refine lv_aload_n hx hb dX2_init_0 rfl (lv_at hl 0 rfl) ?_
  refine x_objInit F (List.mem_cons_of_mem _ (List.mem_append_left _ (List.mem_of_getElem? (i := 0) rfl))) (List.mem_cons_of_mem _ (List.mem_append_left _ (List.mem_of_getElem? (i := 1) rfl))) (List.mem_cons_of_mem _ (List.mem_append_left _ (List.mem_of_getElem? (i := 2) rfl))) hl.1 dX2_init_1 (Nat.le_of_ble_eq_true rfl) (Nat.le_of_ble_eq_true rfl) ?_
  refine lv_aload_n hx hb dX2_init_4 rfl (lv_at hl 0 rfl) ?_
  refine lv_iconst (v := 4) hx hb dX2_init_5 (by decide) ?_
  refine y_newI (N := 4) F hP hD hS (List.mem_cons_of_mem _ (List.mem_append_left _ (List.mem_of_getElem? (i := 3) rfl))) (by decide) (by decide) (by decide) (Nat.le_of_ble_eq_true rfl) (Nat.le_of_ble_eq_true rfl) dX2_init_6 (fun bl w1 ew2 hq3 H hP hD hS => ?_)
  refine W.widen (k := 1) (n := 4) (Nat.le_of_ble_eq_true rfl) (Nat.le_of_ble_eq_true rfl) ?_
  have k4 := wd_at.ad ew2 hq3 hy
  have k5 : wd_at w1 bl (.inl (cy 2, 4, .inl (fun _ => 0))) := wd_at.nw ew2
  have kp6 := kp0.add ew2 hq3
  obtain ⟨tg7, et8⟩ : ∃ f : Nat → Nat, f = va_up tg bl (32 + k) := ⟨_, rfl⟩
  have t9 := tgX et8 (wd_nL hq3 hy) tq0
  have hext10 := tgE et8 (kp0.out hq3) hext0
  refine y_putF (ref := "NoteHouse$Law") F hP hD hS k4 rfl (fun _ h => List.mem_cons_of_mem _ (List.mem_append_right _ (h))) tyX2_ok nmX2 hnm 0 (Nat.le_of_ble_eq_true rfl) (List.mem_cons_of_mem _ (List.mem_append_left _ (List.mem_of_getElem? (i := 4) rfl))) rfl rfl rfl rfl rfl (Nat.le_of_ble_eq_true rfl) dX2_init_8 (fun w11 ew12 H locs hP hD hS => ?_)
  have k13 : wd_at w11 q (.inr (2, [.ref bl, .int 0, .int 0])) := wd_at.ps ew12 k4
  have k14 := wd_at.pt ew12 k5 (tg_ne (tgN et8) t9 (by omega))
  have kp15 := kp6.put ew12 sy
  refine lv_aload_n hx hb dX2_init_11 rfl (lv_at hl 0 rfl) ?_
  refine x_callV (n := 0) (As := []) (rest := []) F hP hD hS (g_forget l D cy sk sv w11 q bl (fun _ => 0) 0 0 k13 k14 (fun b => b = q ∨ b = bl) (Or.inl rfl) (Or.inr rfl)) gX2_init_X2_forget rfl rfl (by decide +kernel) ⟨(Nat.le_of_ble_eq_true rfl), (Nat.le_of_ble_eq_true rfl)⟩ rfl hl.1 (Nat.le_of_ble_eq_true rfl) k13 rfl dX2_init_12 rfl ⟨(Nat.le_of_ble_eq_true rfl), (Nat.le_of_ble_eq_true rfl)⟩ (fun v17 w18 hp16 H locs hP hD hS => ?_)
  obtain ⟨bfx19, rfl, kq22, k20, k21⟩ := hp16
  have kp23 := kp15.tr kq22 (fun b9 hm q9 => (fun q9 => Or.elim q9 (fun q9 => q9 ▸ sy) (fun q9 => absurd (q9 ▸ hm) (kp0.out hq3))) q9)
  refine W.eq (g2 := F0 m 15 ls []) rfl (W.widen (k := 1) (n := 4) (Nat.le_of_ble_eq_true rfl) (Nat.le_of_ble_eq_true rfl) ?_)
  exact y_vr K hP hD hS (Nat.le_of_ble_eq_true rfl) (Nat.le_of_ble_eq_true rfl) rfl dX2_init_15 (⟨rfl, kp23, tg7, bl, bfx19, hext10, k20, k21, (tgN et8)⟩)
set_option maxHeartbeats 4000000 in
set_option maxRecDepth 100000 in
theorem i_ways (l : Launch) (D : va_G) (cy : Nat → ClassId) (sk sv : Nat → Nat) (w : Wd) (tg0 : Nat → Nat) (q : Nat)  (hy : wd_at w q (.inr (9, [.null, .null, .null, .null])))  (S : Nat → Prop) (sy : S q) (tq : tg0 q = 1) : Ct l D cy sk sv yX9_init wsX9_init ({ frames := 1, cells := 4, slots := 312, locals := 23 }) [.ref q] w (fun v w1 => v = none ∧ wd_kp S w w1 ∧ ∃ (tg1 : Nat → Nat) (b0 : Nat) (b1 : Nat) (b2 : Nat) (b3 : Nat) (f0 : Nat → Int32) (f1 : Nat → Int32), (∀ a, a ∈ w.1 → tg1 a = tg0 a) ∧ wd_at w1 q (.inr (9, [.ref b0, .ref b1, .ref b2, .ref b3])) ∧ wd_at w1 b0 (.inl (cy 2, 144, .inl f0)) ∧ wd_at w1 b1 (.inl (cy 2, 144, .inl f1)) ∧ wd_at w1 b2 (.inl (cy 2, 12, .inl (fun _ => 0))) ∧ wd_at w1 b3 (.inl (cy 4, 12, .inl (fun _ => 0))) ∧ tg1 b0 = 2 ∧ tg1 b1 = 3 ∧ tg1 b2 = 4 ∧ tg1 b3 = 5) := by
  refine Ct.by (cc := cX9_init) (maxL := 1) (ret := none) (by decide +kernel) rfl (Nat.le_of_ble_eq_true rfl) ?_
  intro p e s m args below meth c A Q F hnm K ls hl
  have F : wd_Fx p s m args meth c cX9_init 1 wsX9_init RX9 D cy sk sv A := F
  have hl : lv_has ls 1 [(0, .ref q)] := hl
  have hx := F.1.1
  have hb := F.1.2.1
  have hown := F.1.2.2.2.1
  have hts := F.1.2.2.2.2
  intro H locs hP hD hS
  have kp0 : wd_kp S w w := wd_kp.rf
  obtain ⟨tg, etg0⟩ : ∃ f : Nat → Nat, f = tg0 := ⟨_, rfl⟩
  have hext0 : ∀ a, a ∈ w.1 → tg a = tg0 a := fun a _ => by rw [etg0]
  have tq0 : tg q = 1 := by rw [etg0]; exact tq
  refine lv_aload_n hx hb dX9_init_0 rfl (lv_at hl 0 rfl) ?_
  refine x_objInit F (List.mem_cons_of_mem _ (List.mem_append_left _ (List.mem_of_getElem? (i := 0) rfl))) (List.mem_cons_of_mem _ (List.mem_append_left _ (List.mem_of_getElem? (i := 1) rfl))) (List.mem_cons_of_mem _ (List.mem_append_left _ (List.mem_of_getElem? (i := 2) rfl))) hl.1 dX9_init_1 (Nat.le_of_ble_eq_true rfl) (Nat.le_of_ble_eq_true rfl) ?_
  refine lv_aload_n hx hb dX9_init_4 rfl (lv_at hl 0 rfl) ?_
  refine lv_sipush (v := 144) hx hb dX9_init_5 (by decide) ?_
  refine y_newI (N := 144) F hP hD hS (List.mem_cons_of_mem _ (List.mem_append_left _ (List.mem_of_getElem? (i := 3) rfl))) (by decide) (by decide) (by decide) (Nat.le_of_ble_eq_true rfl) (Nat.le_of_ble_eq_true rfl) dX9_init_8 (fun b0 w1 ew2 hq3 H hP hD hS => ?_)
  refine W.widen (k := 1) (n := 144) (Nat.le_of_ble_eq_true rfl) (Nat.le_of_ble_eq_true rfl) ?_
  have k4 := wd_at.ad ew2 hq3 hy
  have k5 : wd_at w1 b0 (.inl (cy 2, 144, .inl (fun _ => 0))) := wd_at.nw ew2
  have kp6 := kp0.add ew2 hq3
  obtain ⟨tg7, et8⟩ : ∃ f : Nat → Nat, f = va_up tg b0 (2) := ⟨_, rfl⟩
  have t9 := tgX et8 (wd_nL hq3 hy) tq0
  have hext10 := tgE et8 (kp0.out hq3) hext0
  refine y_putF (ref := "NoteHouse$Ways") F hP hD hS k4 rfl (fun _ h => List.mem_cons_of_mem _ (List.mem_append_right _ (h))) tyX9_ok nmX9 hnm 0 (Nat.le_of_ble_eq_true rfl) (List.mem_cons_of_mem _ (List.mem_append_left _ (List.mem_of_getElem? (i := 4) rfl))) rfl rfl rfl rfl rfl (Nat.le_of_ble_eq_true rfl) dX9_init_10 (fun w11 ew12 H locs hP hD hS => ?_)
  have k13 : wd_at w11 q (.inr (9, [.ref b0, .null, .null, .null])) := wd_at.ps ew12 k4
  have k14 := wd_at.pt ew12 k5 (tg_ne (tgN et8) t9 (by decide))
  have kp15 := kp6.put ew12 sy
  refine lv_aload_n hx hb dX9_init_13 rfl (lv_at hl 0 rfl) ?_
  refine lv_sipush (v := 144) hx hb dX9_init_14 (by decide) ?_
  refine y_newI (N := 144) F hP hD hS (List.mem_cons_of_mem _ (List.mem_append_left _ (List.mem_of_getElem? (i := 3) rfl))) (by decide) (by decide) (by decide) (Nat.le_of_ble_eq_true rfl) (Nat.le_of_ble_eq_true rfl) dX9_init_17 (fun b1 w16 ew17 hq18 H hP hD hS => ?_)
  refine W.widen (k := 2) (n := 288) (Nat.le_of_ble_eq_true rfl) (Nat.le_of_ble_eq_true rfl) ?_
  have k19 := wd_at.ad ew17 hq18 k13
  have k20 := wd_at.ad ew17 hq18 k14
  have k21 : wd_at w16 b1 (.inl (cy 2, 144, .inl (fun _ => 0))) := wd_at.nw ew17
  have kp22 := kp15.add ew17 hq18
  obtain ⟨tg23, et24⟩ : ∃ f : Nat → Nat, f = va_up tg7 b1 (3) := ⟨_, rfl⟩
  have t25 := tgX et24 (wd_nL hq18 k13) t9
  have t26 := tgX et24 (wd_nL hq18 k14) (tgN et8)
  have hext27 := tgE et24 (kp15.out hq18) hext10
  refine y_putF (ref := "NoteHouse$Ways") F hP hD hS k19 rfl (fun _ h => List.mem_cons_of_mem _ (List.mem_append_right _ (h))) tyX9_ok nmX9 hnm 1 (Nat.le_of_ble_eq_true rfl) (List.mem_cons_of_mem _ (List.mem_append_left _ (List.mem_of_getElem? (i := 5) rfl))) rfl rfl rfl rfl rfl (Nat.le_of_ble_eq_true rfl) dX9_init_19 (fun w28 ew29 H locs hP hD hS => ?_)
  have k30 : wd_at w28 q (.inr (9, [.ref b0, .ref b1, .null, .null])) := wd_at.ps ew29 k19
  have k31 := wd_at.pt ew29 k20 (tg_ne t26 t25 (by decide))
  have k32 := wd_at.pt ew29 k21 (tg_ne (tgN et24) t25 (by decide))
  have kp33 := kp22.put ew29 sy
  refine lv_aload_n hx hb dX9_init_22 rfl (lv_at hl 0 rfl) ?_
  refine lv_bipush (v := 12) hx hb dX9_init_23 (by decide) ?_
  refine y_newI (N := 12) F hP hD hS (List.mem_cons_of_mem _ (List.mem_append_left _ (List.mem_of_getElem? (i := 3) rfl))) (by decide) (by decide) (by decide) (Nat.le_of_ble_eq_true rfl) (Nat.le_of_ble_eq_true rfl) dX9_init_25 (fun b2 w34 ew35 hq36 H hP hD hS => ?_)
  refine W.widen (k := 3) (n := 300) (Nat.le_of_ble_eq_true rfl) (Nat.le_of_ble_eq_true rfl) ?_
  have k37 := wd_at.ad ew35 hq36 k30
  have k38 := wd_at.ad ew35 hq36 k31
  have k39 := wd_at.ad ew35 hq36 k32
  have k40 : wd_at w34 b2 (.inl (cy 2, 12, .inl (fun _ => 0))) := wd_at.nw ew35
  have kp41 := kp33.add ew35 hq36
  obtain ⟨tg42, et43⟩ : ∃ f : Nat → Nat, f = va_up tg23 b2 (4) := ⟨_, rfl⟩
  have t44 := tgX et43 (wd_nL hq36 k30) t25
  have t45 := tgX et43 (wd_nL hq36 k31) t26
  have t46 := tgX et43 (wd_nL hq36 k32) (tgN et24)
  have hext47 := tgE et43 (kp33.out hq36) hext27
  refine y_putF (ref := "NoteHouse$Ways") F hP hD hS k37 rfl (fun _ h => List.mem_cons_of_mem _ (List.mem_append_right _ (h))) tyX9_ok nmX9 hnm 2 (Nat.le_of_ble_eq_true rfl) (List.mem_cons_of_mem _ (List.mem_append_left _ (List.mem_of_getElem? (i := 6) rfl))) rfl rfl rfl rfl rfl (Nat.le_of_ble_eq_true rfl) dX9_init_27 (fun w48 ew49 H locs hP hD hS => ?_)
  have k50 : wd_at w48 q (.inr (9, [.ref b0, .ref b1, .ref b2, .null])) := wd_at.ps ew49 k37
  have k51 := wd_at.pt ew49 k38 (tg_ne t45 t44 (by decide))
  have k52 := wd_at.pt ew49 k39 (tg_ne t46 t44 (by decide))
  have k53 := wd_at.pt ew49 k40 (tg_ne (tgN et43) t44 (by decide))
  have kp54 := kp41.put ew49 sy
  refine lv_aload_n hx hb dX9_init_30 rfl (lv_at hl 0 rfl) ?_
  refine lv_bipush (v := 12) hx hb dX9_init_31 (by decide) ?_
  refine y_newZ (N := 12) F hP hD hS (List.mem_cons_of_mem _ (List.mem_append_left _ (List.mem_of_getElem? (i := 7) rfl))) (by decide) (by decide) (by decide) (Nat.le_of_ble_eq_true rfl) (Nat.le_of_ble_eq_true rfl) dX9_init_33 (fun b3 w55 ew56 hq57 H hP hD hS => ?_)
  refine W.widen (k := 4) (n := 312) (Nat.le_of_ble_eq_true rfl) (Nat.le_of_ble_eq_true rfl) ?_
  have k58 := wd_at.ad ew56 hq57 k50
  have k59 := wd_at.ad ew56 hq57 k51
  have k60 := wd_at.ad ew56 hq57 k52
  have k61 := wd_at.ad ew56 hq57 k53
  have k62 : wd_at w55 b3 (.inl (cy 4, 12, .inl (fun _ => 0))) := wd_at.nw ew56
  have kp63 := kp54.add ew56 hq57
  obtain ⟨tg64, et65⟩ : ∃ f : Nat → Nat, f = va_up tg42 b3 (5) := ⟨_, rfl⟩
  have t66 := tgX et65 (wd_nL hq57 k50) t44
  have t67 := tgX et65 (wd_nL hq57 k51) t45
  have t68 := tgX et65 (wd_nL hq57 k52) t46
  have t69 := tgX et65 (wd_nL hq57 k53) (tgN et43)
  have hext70 := tgE et65 (kp54.out hq57) hext47
  refine y_putF (ref := "NoteHouse$Ways") F hP hD hS k58 rfl (fun _ h => List.mem_cons_of_mem _ (List.mem_append_right _ (h))) tyX9_ok nmX9 hnm 3 (Nat.le_of_ble_eq_true rfl) (List.mem_cons_of_mem _ (List.mem_append_left _ (List.mem_of_getElem? (i := 8) rfl))) rfl rfl rfl rfl rfl (Nat.le_of_ble_eq_true rfl) dX9_init_35 (fun w71 ew72 H locs hP hD hS => ?_)
  have k73 : wd_at w71 q (.inr (9, [.ref b0, .ref b1, .ref b2, .ref b3])) := wd_at.ps ew72 k58
  have k74 := wd_at.pt ew72 k59 (tg_ne t67 t66 (by decide))
  have k75 := wd_at.pt ew72 k60 (tg_ne t68 t66 (by decide))
  have k76 := wd_at.pt ew72 k61 (tg_ne t69 t66 (by decide))
  have k77 := wd_at.pt ew72 k62 (tg_ne (tgN et65) t66 (by decide))
  have kp78 := kp63.put ew72 sy
  refine lv_aload_n hx hb dX9_init_38 rfl (lv_at hl 0 rfl) ?_
  refine x_get (ref := "NoteHouse$Ways") F hP k73 rfl (fun _ h => List.mem_cons_of_mem _ (List.mem_append_right _ (h))) 0 (Nat.le_of_ble_eq_true rfl) (List.mem_cons_of_mem _ (List.mem_append_left _ (List.mem_of_getElem? (i := 4) rfl))) rfl rfl dX9_init_39 ?_
  refine lv_ldc (v := 1000000) hx hb hown (hts _ (List.mem_cons_of_mem _ (List.mem_append_left _ (List.mem_of_getElem? (i := 9) rfl)))) dX9_init_42 ?_
  refine x_callS (n := 2) (As := [.ref b0, .int 1000000]) (rest := []) F hP hD hS (g_fillI l D cy sk sv w71 b0 144 (fun _ => 0) 1000000 k74 (fun b => b = b0) rfl (by decide)) gX9_init_J7_fill_53178 rfl (by decide +kernel) ⟨(Nat.le_of_ble_eq_true rfl), (Nat.le_of_ble_eq_true rfl)⟩ rfl hl.1 (Nat.le_of_ble_eq_true rfl) dX9_init_44 rfl ⟨(Nat.le_of_ble_eq_true rfl), (Nat.le_of_ble_eq_true rfl)⟩ (fun v80 w81 hp79 H locs hP hD hS => ?_)
  obtain ⟨gx82, rfl, hz83, kq85, k84⟩ := hp79
  have k86 := kq85.2 _ _ k73 (wd_nL hq3 hy)
  have k87 := kq85.2 _ _ k75 (tg_ne t68 t67 (by decide))
  have k88 := kq85.2 _ _ k76 (tg_ne t69 t67 (by decide))
  have k89 := kq85.2 _ _ k77 (tg_ne (tgN et65) t67 (by decide))
  have kp90 := kp78.tr kq85 (fun b9 hm q9 => (fun q9 => absurd (q9 ▸ hm) (kp0.out hq3)) q9)
  refine W.eq (g2 := F0 m 47 ls []) rfl (W.widen (k := 4) (n := 312) (Nat.le_of_ble_eq_true rfl) (Nat.le_of_ble_eq_true rfl) ?_)
  refine lv_aload_n hx hb dX9_init_47 rfl (lv_at hl 0 rfl) ?_
  refine x_get (ref := "NoteHouse$Ways") F hP k86 rfl (fun _ h => List.mem_cons_of_mem _ (List.mem_append_right _ (h))) 1 (Nat.le_of_ble_eq_true rfl) (List.mem_cons_of_mem _ (List.mem_append_left _ (List.mem_of_getElem? (i := 5) rfl))) rfl rfl dX9_init_48 ?_
  refine lv_ldc (v := 1000000) hx hb hown (hts _ (List.mem_cons_of_mem _ (List.mem_append_left _ (List.mem_of_getElem? (i := 9) rfl)))) dX9_init_51 ?_
  refine x_callS (n := 2) (As := [.ref b1, .int 1000000]) (rest := []) F hP hD hS (g_fillI l D cy sk sv w81 b1 144 (fun _ => 0) 1000000 k87 (fun b => b = b1) rfl (by decide)) gX9_init_J7_fill_53178 rfl (by decide +kernel) ⟨(Nat.le_of_ble_eq_true rfl), (Nat.le_of_ble_eq_true rfl)⟩ rfl hl.1 (Nat.le_of_ble_eq_true rfl) dX9_init_53 rfl ⟨(Nat.le_of_ble_eq_true rfl), (Nat.le_of_ble_eq_true rfl)⟩ (fun v92 w93 hp91 H locs hP hD hS => ?_)
  obtain ⟨gx94, rfl, hz95, kq97, k96⟩ := hp91
  have k98 := kq97.2 _ _ k86 (wd_nL hq18 k13)
  have k99 := kq97.2 _ _ k84 (wd_nL hq18 k14)
  have k100 := kq97.2 _ _ k88 (tg_ne t69 t68 (by decide))
  have k101 := kq97.2 _ _ k89 (tg_ne (tgN et65) t68 (by decide))
  have kp102 := kp90.tr kq97 (fun b9 hm q9 => (fun q9 => absurd (q9 ▸ hm) (kp15.out hq18)) q9)
  refine W.eq (g2 := F0 m 56 ls []) rfl (W.widen (k := 4) (n := 312) (Nat.le_of_ble_eq_true rfl) (Nat.le_of_ble_eq_true rfl) ?_)
  exact y_vr K hP hD hS (Nat.le_of_ble_eq_true rfl) (Nat.le_of_ble_eq_true rfl) rfl dX9_init_56 (⟨rfl, kp102, tg64, b0, b1, b2, b3, gx82, gx94, hext70, k98, k99, k96, k100, k101, t67, t68, t69, (tgN et65)⟩)
set_option maxHeartbeats 4000000 in
set_option maxRecDepth 100000 in
theorem i_sett (l : Launch) (D : va_G) (cy : Nat → ClassId) (sk sv : Nat → Nat) (w : Wd) (tg0 : Nat → Nat) (q : Nat)  (hy : wd_at w q (.inr (4, [.null, .null, .null, .null, .null, .null, .null, .null, .int 0, .int 0])))  (S : Nat → Prop) (sy : S q) (tq : tg0 q = 13) : Ct l D cy sk sv yX4_init wsX4_init ({ frames := 1, cells := 8, slots := 472, locals := 23 }) [.ref q] w (fun v w1 => v = none ∧ wd_kp S w w1 ∧ ∃ (tg1 : Nat → Nat) (l0 : Nat) (l1 : Nat) (l2 : Nat) (l3 : Nat) (l4 : Nat) (l5 : Nat) (l6 : Nat) (l7 : Nat) (e0 : Nat → Int32), (∀ a, a ∈ w.1 → tg1 a = tg0 a) ∧ wd_at w1 q (.inr (4, [.ref l0, .ref l1, .ref l2, .ref l3, .ref l4, .ref l5, .ref l6, .ref l7, .int (nI 0), .int 0])) ∧ wd_at w1 l0 (.inl (cy 2, 200, .inl e0)) ∧ wd_at w1 l1 (.inl (cy 2, 200, .inl (fun _ => 0))) ∧ wd_at w1 l2 (.inl (cy 3, 12, .inr (.inl (fun _ => 0)))) ∧ wd_at w1 l3 (.inl (cy 3, 12, .inr (.inl (fun _ => 0)))) ∧ wd_at w1 l4 (.inl (cy 2, 12, .inl (fun _ => 0))) ∧ wd_at w1 l5 (.inl (cy 2, 12, .inl (fun _ => 0))) ∧ wd_at w1 l6 (.inl (cy 3, 12, .inr (.inl (fun _ => 0)))) ∧ wd_at w1 l7 (.inl (cy 2, 12, .inl (fun _ => 0))) ∧ tg1 l0 = 14 ∧ tg1 l1 = 15 ∧ tg1 l2 = 16 ∧ tg1 l3 = 17 ∧ tg1 l4 = 18 ∧ tg1 l5 = 19 ∧ tg1 l6 = 20 ∧ tg1 l7 = 21) := by
  refine Ct.by (cc := cX4_init) (maxL := 1) (ret := none) (by decide +kernel) rfl (Nat.le_of_ble_eq_true rfl) ?_
  intro p e s m args below meth c A Q F hnm K ls hl
  have F : wd_Fx p s m args meth c cX4_init 1 wsX4_init RX4 D cy sk sv A := F
  have hl : lv_has ls 1 [(0, .ref q)] := hl
  have hx := F.1.1
  have hb := F.1.2.1
  have hown := F.1.2.2.2.1
  have hts := F.1.2.2.2.2
  intro H locs hP hD hS
  have kp0 : wd_kp S w w := wd_kp.rf
  obtain ⟨tg, etg0⟩ : ∃ f : Nat → Nat, f = tg0 := ⟨_, rfl⟩
  have hext0 : ∀ a, a ∈ w.1 → tg a = tg0 a := fun a _ => by rw [etg0]
  have tq0 : tg q = 13 := by rw [etg0]; exact tq
  refine lv_aload_n hx hb dX4_init_0 rfl (lv_at hl 0 rfl) ?_
  refine x_objInit F (List.mem_cons_of_mem _ (List.mem_append_left _ (List.mem_of_getElem? (i := 0) rfl))) (List.mem_cons_of_mem _ (List.mem_append_left _ (List.mem_of_getElem? (i := 1) rfl))) (List.mem_cons_of_mem _ (List.mem_append_left _ (List.mem_of_getElem? (i := 2) rfl))) hl.1 dX4_init_1 (Nat.le_of_ble_eq_true rfl) (Nat.le_of_ble_eq_true rfl) ?_
  refine lv_aload_n hx hb dX4_init_4 rfl (lv_at hl 0 rfl) ?_
  refine lv_sipush (v := 200) hx hb dX4_init_5 (by decide) ?_
  refine y_newI (N := 200) F hP hD hS (List.mem_cons_of_mem _ (List.mem_append_left _ (List.mem_of_getElem? (i := 3) rfl))) (by decide) (by decide) (by decide) (Nat.le_of_ble_eq_true rfl) (Nat.le_of_ble_eq_true rfl) dX4_init_8 (fun l0 w1 ew2 hq3 H hP hD hS => ?_)
  refine W.widen (k := 1) (n := 200) (Nat.le_of_ble_eq_true rfl) (Nat.le_of_ble_eq_true rfl) ?_
  have k4 := wd_at.ad ew2 hq3 hy
  have k5 : wd_at w1 l0 (.inl (cy 2, 200, .inl (fun _ => 0))) := wd_at.nw ew2
  have kp6 := kp0.add ew2 hq3
  obtain ⟨tg7, et8⟩ : ∃ f : Nat → Nat, f = va_up tg l0 (14) := ⟨_, rfl⟩
  have t9 := tgX et8 (wd_nL hq3 hy) tq0
  have hext10 := tgE et8 (kp0.out hq3) hext0
  refine y_putF (ref := "NoteHouse$Settlement") F hP hD hS k4 rfl (fun _ h => List.mem_cons_of_mem _ (List.mem_append_right _ (h))) tyX4_ok nmX4 hnm 0 (Nat.le_of_ble_eq_true rfl) (List.mem_cons_of_mem _ (List.mem_append_left _ (List.mem_of_getElem? (i := 4) rfl))) rfl rfl rfl rfl rfl (Nat.le_of_ble_eq_true rfl) dX4_init_10 (fun w11 ew12 H locs hP hD hS => ?_)
  have k13 : wd_at w11 q (.inr (4, [.ref l0, .null, .null, .null, .null, .null, .null, .null, .int 0, .int 0])) := wd_at.ps ew12 k4
  have k14 := wd_at.pt ew12 k5 (tg_ne (tgN et8) t9 (by decide))
  have kp15 := kp6.put ew12 sy
  refine lv_aload_n hx hb dX4_init_13 rfl (lv_at hl 0 rfl) ?_
  refine lv_sipush (v := 200) hx hb dX4_init_14 (by decide) ?_
  refine y_newI (N := 200) F hP hD hS (List.mem_cons_of_mem _ (List.mem_append_left _ (List.mem_of_getElem? (i := 3) rfl))) (by decide) (by decide) (by decide) (Nat.le_of_ble_eq_true rfl) (Nat.le_of_ble_eq_true rfl) dX4_init_17 (fun l1 w16 ew17 hq18 H hP hD hS => ?_)
  refine W.widen (k := 2) (n := 400) (Nat.le_of_ble_eq_true rfl) (Nat.le_of_ble_eq_true rfl) ?_
  have k19 := wd_at.ad ew17 hq18 k13
  have k20 := wd_at.ad ew17 hq18 k14
  have k21 : wd_at w16 l1 (.inl (cy 2, 200, .inl (fun _ => 0))) := wd_at.nw ew17
  have kp22 := kp15.add ew17 hq18
  obtain ⟨tg23, et24⟩ : ∃ f : Nat → Nat, f = va_up tg7 l1 (15) := ⟨_, rfl⟩
  have t25 := tgX et24 (wd_nL hq18 k13) t9
  have t26 := tgX et24 (wd_nL hq18 k14) (tgN et8)
  have hext27 := tgE et24 (kp15.out hq18) hext10
  refine y_putF (ref := "NoteHouse$Settlement") F hP hD hS k19 rfl (fun _ h => List.mem_cons_of_mem _ (List.mem_append_right _ (h))) tyX4_ok nmX4 hnm 1 (Nat.le_of_ble_eq_true rfl) (List.mem_cons_of_mem _ (List.mem_append_left _ (List.mem_of_getElem? (i := 5) rfl))) rfl rfl rfl rfl rfl (Nat.le_of_ble_eq_true rfl) dX4_init_19 (fun w28 ew29 H locs hP hD hS => ?_)
  have k30 : wd_at w28 q (.inr (4, [.ref l0, .ref l1, .null, .null, .null, .null, .null, .null, .int 0, .int 0])) := wd_at.ps ew29 k19
  have k31 := wd_at.pt ew29 k20 (tg_ne t26 t25 (by decide))
  have k32 := wd_at.pt ew29 k21 (tg_ne (tgN et24) t25 (by decide))
  have kp33 := kp22.put ew29 sy
  refine lv_aload_n hx hb dX4_init_22 rfl (lv_at hl 0 rfl) ?_
  refine lv_bipush (v := 12) hx hb dX4_init_23 (by decide) ?_
  refine y_newJ (N := 12) F hP hD hS (List.mem_cons_of_mem _ (List.mem_append_left _ (List.mem_of_getElem? (i := 6) rfl))) (by decide) (by decide) (by decide) (Nat.le_of_ble_eq_true rfl) (Nat.le_of_ble_eq_true rfl) dX4_init_25 (fun l2 w34 ew35 hq36 H hP hD hS => ?_)
  refine W.widen (k := 3) (n := 412) (Nat.le_of_ble_eq_true rfl) (Nat.le_of_ble_eq_true rfl) ?_
  have k37 := wd_at.ad ew35 hq36 k30
  have k38 := wd_at.ad ew35 hq36 k31
  have k39 := wd_at.ad ew35 hq36 k32
  have k40 : wd_at w34 l2 (.inl (cy 3, 12, .inr (.inl (fun _ => 0)))) := wd_at.nw ew35
  have kp41 := kp33.add ew35 hq36
  obtain ⟨tg42, et43⟩ : ∃ f : Nat → Nat, f = va_up tg23 l2 (16) := ⟨_, rfl⟩
  have t44 := tgX et43 (wd_nL hq36 k30) t25
  have t45 := tgX et43 (wd_nL hq36 k31) t26
  have t46 := tgX et43 (wd_nL hq36 k32) (tgN et24)
  have hext47 := tgE et43 (kp33.out hq36) hext27
  refine y_putF (ref := "NoteHouse$Settlement") F hP hD hS k37 rfl (fun _ h => List.mem_cons_of_mem _ (List.mem_append_right _ (h))) tyX4_ok nmX4 hnm 2 (Nat.le_of_ble_eq_true rfl) (List.mem_cons_of_mem _ (List.mem_append_left _ (List.mem_of_getElem? (i := 7) rfl))) rfl rfl rfl rfl rfl (Nat.le_of_ble_eq_true rfl) dX4_init_27 (fun w48 ew49 H locs hP hD hS => ?_)
  have k50 : wd_at w48 q (.inr (4, [.ref l0, .ref l1, .ref l2, .null, .null, .null, .null, .null, .int 0, .int 0])) := wd_at.ps ew49 k37
  have k51 := wd_at.pt ew49 k38 (tg_ne t45 t44 (by decide))
  have k52 := wd_at.pt ew49 k39 (tg_ne t46 t44 (by decide))
  have k53 := wd_at.pt ew49 k40 (tg_ne (tgN et43) t44 (by decide))
  have kp54 := kp41.put ew49 sy
  refine lv_aload_n hx hb dX4_init_30 rfl (lv_at hl 0 rfl) ?_
  refine lv_bipush (v := 12) hx hb dX4_init_31 (by decide) ?_
  refine y_newJ (N := 12) F hP hD hS (List.mem_cons_of_mem _ (List.mem_append_left _ (List.mem_of_getElem? (i := 6) rfl))) (by decide) (by decide) (by decide) (Nat.le_of_ble_eq_true rfl) (Nat.le_of_ble_eq_true rfl) dX4_init_33 (fun l3 w55 ew56 hq57 H hP hD hS => ?_)
  refine W.widen (k := 4) (n := 424) (Nat.le_of_ble_eq_true rfl) (Nat.le_of_ble_eq_true rfl) ?_
  have k58 := wd_at.ad ew56 hq57 k50
  have k59 := wd_at.ad ew56 hq57 k51
  have k60 := wd_at.ad ew56 hq57 k52
  have k61 := wd_at.ad ew56 hq57 k53
  have k62 : wd_at w55 l3 (.inl (cy 3, 12, .inr (.inl (fun _ => 0)))) := wd_at.nw ew56
  have kp63 := kp54.add ew56 hq57
  obtain ⟨tg64, et65⟩ : ∃ f : Nat → Nat, f = va_up tg42 l3 (17) := ⟨_, rfl⟩
  have t66 := tgX et65 (wd_nL hq57 k50) t44
  have t67 := tgX et65 (wd_nL hq57 k51) t45
  have t68 := tgX et65 (wd_nL hq57 k52) t46
  have t69 := tgX et65 (wd_nL hq57 k53) (tgN et43)
  have hext70 := tgE et65 (kp54.out hq57) hext47
  refine y_putF (ref := "NoteHouse$Settlement") F hP hD hS k58 rfl (fun _ h => List.mem_cons_of_mem _ (List.mem_append_right _ (h))) tyX4_ok nmX4 hnm 3 (Nat.le_of_ble_eq_true rfl) (List.mem_cons_of_mem _ (List.mem_append_left _ (List.mem_of_getElem? (i := 8) rfl))) rfl rfl rfl rfl rfl (Nat.le_of_ble_eq_true rfl) dX4_init_35 (fun w71 ew72 H locs hP hD hS => ?_)
  have k73 : wd_at w71 q (.inr (4, [.ref l0, .ref l1, .ref l2, .ref l3, .null, .null, .null, .null, .int 0, .int 0])) := wd_at.ps ew72 k58
  have k74 := wd_at.pt ew72 k59 (tg_ne t67 t66 (by decide))
  have k75 := wd_at.pt ew72 k60 (tg_ne t68 t66 (by decide))
  have k76 := wd_at.pt ew72 k61 (tg_ne t69 t66 (by decide))
  have k77 := wd_at.pt ew72 k62 (tg_ne (tgN et65) t66 (by decide))
  have kp78 := kp63.put ew72 sy
  refine lv_aload_n hx hb dX4_init_38 rfl (lv_at hl 0 rfl) ?_
  refine lv_bipush (v := 12) hx hb dX4_init_39 (by decide) ?_
  refine y_newI (N := 12) F hP hD hS (List.mem_cons_of_mem _ (List.mem_append_left _ (List.mem_of_getElem? (i := 3) rfl))) (by decide) (by decide) (by decide) (Nat.le_of_ble_eq_true rfl) (Nat.le_of_ble_eq_true rfl) dX4_init_41 (fun l4 w79 ew80 hq81 H hP hD hS => ?_)
  refine W.widen (k := 5) (n := 436) (Nat.le_of_ble_eq_true rfl) (Nat.le_of_ble_eq_true rfl) ?_
  have k82 := wd_at.ad ew80 hq81 k73
  have k83 := wd_at.ad ew80 hq81 k74
  have k84 := wd_at.ad ew80 hq81 k75
  have k85 := wd_at.ad ew80 hq81 k76
  have k86 := wd_at.ad ew80 hq81 k77
  have k87 : wd_at w79 l4 (.inl (cy 2, 12, .inl (fun _ => 0))) := wd_at.nw ew80
  have kp88 := kp78.add ew80 hq81
  obtain ⟨tg89, et90⟩ : ∃ f : Nat → Nat, f = va_up tg64 l4 (18) := ⟨_, rfl⟩
  have t91 := tgX et90 (wd_nL hq81 k73) t66
  have t92 := tgX et90 (wd_nL hq81 k74) t67
  have t93 := tgX et90 (wd_nL hq81 k75) t68
  have t94 := tgX et90 (wd_nL hq81 k76) t69
  have t95 := tgX et90 (wd_nL hq81 k77) (tgN et65)
  have hext96 := tgE et90 (kp78.out hq81) hext70
  refine y_putF (ref := "NoteHouse$Settlement") F hP hD hS k82 rfl (fun _ h => List.mem_cons_of_mem _ (List.mem_append_right _ (h))) tyX4_ok nmX4 hnm 4 (Nat.le_of_ble_eq_true rfl) (List.mem_cons_of_mem _ (List.mem_append_left _ (List.mem_of_getElem? (i := 9) rfl))) rfl rfl rfl rfl rfl (Nat.le_of_ble_eq_true rfl) dX4_init_43 (fun w97 ew98 H locs hP hD hS => ?_)
  have k99 : wd_at w97 q (.inr (4, [.ref l0, .ref l1, .ref l2, .ref l3, .ref l4, .null, .null, .null, .int 0, .int 0])) := wd_at.ps ew98 k82
  have k100 := wd_at.pt ew98 k83 (tg_ne t92 t91 (by decide))
  have k101 := wd_at.pt ew98 k84 (tg_ne t93 t91 (by decide))
  have k102 := wd_at.pt ew98 k85 (tg_ne t94 t91 (by decide))
  have k103 := wd_at.pt ew98 k86 (tg_ne t95 t91 (by decide))
  have k104 := wd_at.pt ew98 k87 (tg_ne (tgN et90) t91 (by decide))
  have kp105 := kp88.put ew98 sy
  refine lv_aload_n hx hb dX4_init_46 rfl (lv_at hl 0 rfl) ?_
  refine lv_bipush (v := 12) hx hb dX4_init_47 (by decide) ?_
  refine y_newI (N := 12) F hP hD hS (List.mem_cons_of_mem _ (List.mem_append_left _ (List.mem_of_getElem? (i := 3) rfl))) (by decide) (by decide) (by decide) (Nat.le_of_ble_eq_true rfl) (Nat.le_of_ble_eq_true rfl) dX4_init_49 (fun l5 w106 ew107 hq108 H hP hD hS => ?_)
  refine W.widen (k := 6) (n := 448) (Nat.le_of_ble_eq_true rfl) (Nat.le_of_ble_eq_true rfl) ?_
  have k109 := wd_at.ad ew107 hq108 k99
  have k110 := wd_at.ad ew107 hq108 k100
  have k111 := wd_at.ad ew107 hq108 k101
  have k112 := wd_at.ad ew107 hq108 k102
  have k113 := wd_at.ad ew107 hq108 k103
  have k114 := wd_at.ad ew107 hq108 k104
  have k115 : wd_at w106 l5 (.inl (cy 2, 12, .inl (fun _ => 0))) := wd_at.nw ew107
  have kp116 := kp105.add ew107 hq108
  obtain ⟨tg117, et118⟩ : ∃ f : Nat → Nat, f = va_up tg89 l5 (19) := ⟨_, rfl⟩
  have t119 := tgX et118 (wd_nL hq108 k99) t91
  have t120 := tgX et118 (wd_nL hq108 k100) t92
  have t121 := tgX et118 (wd_nL hq108 k101) t93
  have t122 := tgX et118 (wd_nL hq108 k102) t94
  have t123 := tgX et118 (wd_nL hq108 k103) t95
  have t124 := tgX et118 (wd_nL hq108 k104) (tgN et90)
  have hext125 := tgE et118 (kp105.out hq108) hext96
  refine y_putF (ref := "NoteHouse$Settlement") F hP hD hS k109 rfl (fun _ h => List.mem_cons_of_mem _ (List.mem_append_right _ (h))) tyX4_ok nmX4 hnm 5 (Nat.le_of_ble_eq_true rfl) (List.mem_cons_of_mem _ (List.mem_append_left _ (List.mem_of_getElem? (i := 10) rfl))) rfl rfl rfl rfl rfl (Nat.le_of_ble_eq_true rfl) dX4_init_51 (fun w126 ew127 H locs hP hD hS => ?_)
  have k128 : wd_at w126 q (.inr (4, [.ref l0, .ref l1, .ref l2, .ref l3, .ref l4, .ref l5, .null, .null, .int 0, .int 0])) := wd_at.ps ew127 k109
  have k129 := wd_at.pt ew127 k110 (tg_ne t120 t119 (by decide))
  have k130 := wd_at.pt ew127 k111 (tg_ne t121 t119 (by decide))
  have k131 := wd_at.pt ew127 k112 (tg_ne t122 t119 (by decide))
  have k132 := wd_at.pt ew127 k113 (tg_ne t123 t119 (by decide))
  have k133 := wd_at.pt ew127 k114 (tg_ne t124 t119 (by decide))
  have k134 := wd_at.pt ew127 k115 (tg_ne (tgN et118) t119 (by decide))
  have kp135 := kp116.put ew127 sy
  refine lv_aload_n hx hb dX4_init_54 rfl (lv_at hl 0 rfl) ?_
  refine lv_bipush (v := 12) hx hb dX4_init_55 (by decide) ?_
  refine y_newJ (N := 12) F hP hD hS (List.mem_cons_of_mem _ (List.mem_append_left _ (List.mem_of_getElem? (i := 6) rfl))) (by decide) (by decide) (by decide) (Nat.le_of_ble_eq_true rfl) (Nat.le_of_ble_eq_true rfl) dX4_init_57 (fun l6 w136 ew137 hq138 H hP hD hS => ?_)
  refine W.widen (k := 7) (n := 460) (Nat.le_of_ble_eq_true rfl) (Nat.le_of_ble_eq_true rfl) ?_
  have k139 := wd_at.ad ew137 hq138 k128
  have k140 := wd_at.ad ew137 hq138 k129
  have k141 := wd_at.ad ew137 hq138 k130
  have k142 := wd_at.ad ew137 hq138 k131
  have k143 := wd_at.ad ew137 hq138 k132
  have k144 := wd_at.ad ew137 hq138 k133
  have k145 := wd_at.ad ew137 hq138 k134
  have k146 : wd_at w136 l6 (.inl (cy 3, 12, .inr (.inl (fun _ => 0)))) := wd_at.nw ew137
  have kp147 := kp135.add ew137 hq138
  obtain ⟨tg148, et149⟩ : ∃ f : Nat → Nat, f = va_up tg117 l6 (20) := ⟨_, rfl⟩
  have t150 := tgX et149 (wd_nL hq138 k128) t119
  have t151 := tgX et149 (wd_nL hq138 k129) t120
  have t152 := tgX et149 (wd_nL hq138 k130) t121
  have t153 := tgX et149 (wd_nL hq138 k131) t122
  have t154 := tgX et149 (wd_nL hq138 k132) t123
  have t155 := tgX et149 (wd_nL hq138 k133) t124
  have t156 := tgX et149 (wd_nL hq138 k134) (tgN et118)
  have hext157 := tgE et149 (kp135.out hq138) hext125
  refine y_putF (ref := "NoteHouse$Settlement") F hP hD hS k139 rfl (fun _ h => List.mem_cons_of_mem _ (List.mem_append_right _ (h))) tyX4_ok nmX4 hnm 6 (Nat.le_of_ble_eq_true rfl) (List.mem_cons_of_mem _ (List.mem_append_left _ (List.mem_of_getElem? (i := 11) rfl))) rfl rfl rfl rfl rfl (Nat.le_of_ble_eq_true rfl) dX4_init_59 (fun w158 ew159 H locs hP hD hS => ?_)
  have k160 : wd_at w158 q (.inr (4, [.ref l0, .ref l1, .ref l2, .ref l3, .ref l4, .ref l5, .ref l6, .null, .int 0, .int 0])) := wd_at.ps ew159 k139
  have k161 := wd_at.pt ew159 k140 (tg_ne t151 t150 (by decide))
  have k162 := wd_at.pt ew159 k141 (tg_ne t152 t150 (by decide))
  have k163 := wd_at.pt ew159 k142 (tg_ne t153 t150 (by decide))
  have k164 := wd_at.pt ew159 k143 (tg_ne t154 t150 (by decide))
  have k165 := wd_at.pt ew159 k144 (tg_ne t155 t150 (by decide))
  have k166 := wd_at.pt ew159 k145 (tg_ne t156 t150 (by decide))
  have k167 := wd_at.pt ew159 k146 (tg_ne (tgN et149) t150 (by decide))
  have kp168 := kp147.put ew159 sy
  refine lv_aload_n hx hb dX4_init_62 rfl (lv_at hl 0 rfl) ?_
  refine lv_bipush (v := 12) hx hb dX4_init_63 (by decide) ?_
  refine y_newI (N := 12) F hP hD hS (List.mem_cons_of_mem _ (List.mem_append_left _ (List.mem_of_getElem? (i := 3) rfl))) (by decide) (by decide) (by decide) (Nat.le_of_ble_eq_true rfl) (Nat.le_of_ble_eq_true rfl) dX4_init_65 (fun l7 w169 ew170 hq171 H hP hD hS => ?_)
  refine W.widen (k := 8) (n := 472) (Nat.le_of_ble_eq_true rfl) (Nat.le_of_ble_eq_true rfl) ?_
  have k172 := wd_at.ad ew170 hq171 k160
  have k173 := wd_at.ad ew170 hq171 k161
  have k174 := wd_at.ad ew170 hq171 k162
  have k175 := wd_at.ad ew170 hq171 k163
  have k176 := wd_at.ad ew170 hq171 k164
  have k177 := wd_at.ad ew170 hq171 k165
  have k178 := wd_at.ad ew170 hq171 k166
  have k179 := wd_at.ad ew170 hq171 k167
  have k180 : wd_at w169 l7 (.inl (cy 2, 12, .inl (fun _ => 0))) := wd_at.nw ew170
  have kp181 := kp168.add ew170 hq171
  obtain ⟨tg182, et183⟩ : ∃ f : Nat → Nat, f = va_up tg148 l7 (21) := ⟨_, rfl⟩
  have t184 := tgX et183 (wd_nL hq171 k160) t150
  have t185 := tgX et183 (wd_nL hq171 k161) t151
  have t186 := tgX et183 (wd_nL hq171 k162) t152
  have t187 := tgX et183 (wd_nL hq171 k163) t153
  have t188 := tgX et183 (wd_nL hq171 k164) t154
  have t189 := tgX et183 (wd_nL hq171 k165) t155
  have t190 := tgX et183 (wd_nL hq171 k166) t156
  have t191 := tgX et183 (wd_nL hq171 k167) (tgN et149)
  have hext192 := tgE et183 (kp168.out hq171) hext157
  refine y_putF (ref := "NoteHouse$Settlement") F hP hD hS k172 rfl (fun _ h => List.mem_cons_of_mem _ (List.mem_append_right _ (h))) tyX4_ok nmX4 hnm 7 (Nat.le_of_ble_eq_true rfl) (List.mem_cons_of_mem _ (List.mem_append_left _ (List.mem_of_getElem? (i := 12) rfl))) rfl rfl rfl rfl rfl (Nat.le_of_ble_eq_true rfl) dX4_init_67 (fun w193 ew194 H locs hP hD hS => ?_)
  have k195 : wd_at w193 q (.inr (4, [.ref l0, .ref l1, .ref l2, .ref l3, .ref l4, .ref l5, .ref l6, .ref l7, .int 0, .int 0])) := wd_at.ps ew194 k172
  have k196 := wd_at.pt ew194 k173 (tg_ne t185 t184 (by decide))
  have k197 := wd_at.pt ew194 k174 (tg_ne t186 t184 (by decide))
  have k198 := wd_at.pt ew194 k175 (tg_ne t187 t184 (by decide))
  have k199 := wd_at.pt ew194 k176 (tg_ne t188 t184 (by decide))
  have k200 := wd_at.pt ew194 k177 (tg_ne t189 t184 (by decide))
  have k201 := wd_at.pt ew194 k178 (tg_ne t190 t184 (by decide))
  have k202 := wd_at.pt ew194 k179 (tg_ne t191 t184 (by decide))
  have k203 := wd_at.pt ew194 k180 (tg_ne (tgN et183) t184 (by decide))
  have kp204 := kp181.put ew194 sy
  refine lv_aload_n hx hb dX4_init_70 rfl (lv_at hl 0 rfl) ?_
  refine lv_iconst (v := 0) hx hb dX4_init_71 (by decide) ?_
  refine y_put (ref := "NoteHouse$Settlement") F hP hD hS k195 rfl (fun _ h => List.mem_cons_of_mem _ (List.mem_append_right _ (h))) tyX4_ok nmX4 8 (Nat.le_of_ble_eq_true rfl) (List.mem_cons_of_mem _ (List.mem_append_left _ (List.mem_of_getElem? (i := 13) rfl))) rfl rfl rfl rfl (Nat.le_of_ble_eq_true rfl) dX4_init_72 (fun w205 ew206 H locs hP hD hS => ?_)
  have k207 : wd_at w205 q (.inr (4, [.ref l0, .ref l1, .ref l2, .ref l3, .ref l4, .ref l5, .ref l6, .ref l7, .int 0, .int 0])) := wd_at.ps ew206 k195
  have k208 := wd_at.pt ew206 k196 (tg_ne t185 t184 (by decide))
  have k209 := wd_at.pt ew206 k197 (tg_ne t186 t184 (by decide))
  have k210 := wd_at.pt ew206 k198 (tg_ne t187 t184 (by decide))
  have k211 := wd_at.pt ew206 k199 (tg_ne t188 t184 (by decide))
  have k212 := wd_at.pt ew206 k200 (tg_ne t189 t184 (by decide))
  have k213 := wd_at.pt ew206 k201 (tg_ne t190 t184 (by decide))
  have k214 := wd_at.pt ew206 k202 (tg_ne t191 t184 (by decide))
  have k215 := wd_at.pt ew206 k203 (tg_ne (tgN et183) t184 (by decide))
  have kp216 := kp204.put ew206 sy
  refine lv_aload_n hx hb dX4_init_75 rfl (lv_at hl 0 rfl) ?_
  refine lv_iconst (v := 0) hx hb dX4_init_76 (by decide) ?_
  refine y_put (ref := "NoteHouse$Settlement") F hP hD hS k207 rfl (fun _ h => List.mem_cons_of_mem _ (List.mem_append_right _ (h))) tyX4_ok nmX4 9 (Nat.le_of_ble_eq_true rfl) (List.mem_cons_of_mem _ (List.mem_append_left _ (List.mem_of_getElem? (i := 14) rfl))) rfl rfl rfl rfl (Nat.le_of_ble_eq_true rfl) dX4_init_77 (fun w217 ew218 H locs hP hD hS => ?_)
  have k219 : wd_at w217 q (.inr (4, [.ref l0, .ref l1, .ref l2, .ref l3, .ref l4, .ref l5, .ref l6, .ref l7, .int 0, .int 0])) := wd_at.ps ew218 k207
  have k220 := wd_at.pt ew218 k208 (tg_ne t185 t184 (by decide))
  have k221 := wd_at.pt ew218 k209 (tg_ne t186 t184 (by decide))
  have k222 := wd_at.pt ew218 k210 (tg_ne t187 t184 (by decide))
  have k223 := wd_at.pt ew218 k211 (tg_ne t188 t184 (by decide))
  have k224 := wd_at.pt ew218 k212 (tg_ne t189 t184 (by decide))
  have k225 := wd_at.pt ew218 k213 (tg_ne t190 t184 (by decide))
  have k226 := wd_at.pt ew218 k214 (tg_ne t191 t184 (by decide))
  have k227 := wd_at.pt ew218 k215 (tg_ne (tgN et183) t184 (by decide))
  have kp228 := kp216.put ew218 sy
  refine lv_aload_n hx hb dX4_init_80 rfl (lv_at hl 0 rfl) ?_
  refine x_get (ref := "NoteHouse$Settlement") F hP k219 rfl (fun _ h => List.mem_cons_of_mem _ (List.mem_append_right _ (h))) 0 (Nat.le_of_ble_eq_true rfl) (List.mem_cons_of_mem _ (List.mem_append_left _ (List.mem_of_getElem? (i := 4) rfl))) rfl rfl dX4_init_81 ?_
  refine lv_iconst (v := (-1)) hx hb dX4_init_84 (by decide) ?_
  refine x_callS (n := 2) (As := [.ref l0, .int (-1)]) (rest := []) F hP hD hS (g_fillI l D cy sk sv w217 l0 200 (fun _ => 0) (-1) k220 (fun b => b = l0) rfl (by decide)) gX4_init_J7_fill_53178 rfl (by decide +kernel) ⟨(Nat.le_of_ble_eq_true rfl), (Nat.le_of_ble_eq_true rfl)⟩ rfl hl.1 (Nat.le_of_ble_eq_true rfl) dX4_init_85 rfl ⟨(Nat.le_of_ble_eq_true rfl), (Nat.le_of_ble_eq_true rfl)⟩ (fun v230 w231 hp229 H locs hP hD hS => ?_)
  obtain ⟨gx232, rfl, hz233, kq235, k234⟩ := hp229
  have k236 := kq235.2 _ _ k219 (wd_nL hq3 hy)
  have k237 := kq235.2 _ _ k221 (tg_ne t186 t185 (by decide))
  have k238 := kq235.2 _ _ k222 (tg_ne t187 t185 (by decide))
  have k239 := kq235.2 _ _ k223 (tg_ne t188 t185 (by decide))
  have k240 := kq235.2 _ _ k224 (tg_ne t189 t185 (by decide))
  have k241 := kq235.2 _ _ k225 (tg_ne t190 t185 (by decide))
  have k242 := kq235.2 _ _ k226 (tg_ne t191 t185 (by decide))
  have k243 := kq235.2 _ _ k227 (tg_ne (tgN et183) t185 (by decide))
  have kp244 := kp228.tr kq235 (fun b9 hm q9 => (fun q9 => absurd (q9 ▸ hm) (kp0.out hq3)) q9)
  refine W.eq (g2 := F0 m 88 ls []) rfl (W.widen (k := 8) (n := 472) (Nat.le_of_ble_eq_true rfl) (Nat.le_of_ble_eq_true rfl) ?_)
  exact y_vr K hP hD hS (Nat.le_of_ble_eq_true rfl) (Nat.le_of_ble_eq_true rfl) rfl dX4_init_88 (⟨rfl, kp244, tg182, l0, l1, l2, l3, l4, l5, l6, l7, gx232, hext192, k236, k234, k237, k238, k239, k240, k241, k242, k243, t185, t186, t187, t188, t189, t190, t191, (tgN et183)⟩)
