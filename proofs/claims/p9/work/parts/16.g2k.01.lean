set_option maxHeartbeats 4000000 in
set_option maxRecDepth 100000 in
theorem X_feed (l : Launch) (D : va_G) (cy : Nat → ClassId) (sk sv : Nat → Nat) (w : Wd) (tg : Nat → Nat) (x : Nat) (td : Int32) (pc ac sc ln : Nat) (se plv : Nat → Int32) (x1 x2 x3 x4 x5 : Int32) (hIX0 : IX cy tg x td pc ac sc ln se plv w) : Ct l D cy sk sv yX10_feed wsX10_feed ({ frames := 1, cells := 0, slots := 0, locals := 22 }) [.ref x, .int x1, .int x2, .int x3, .int x4, .int x5] w (fun v w1 => v = some (.int (feedA ln)) ∧ XP cy tg x td pc ac sc (feedC ln) se plv w w1) := by
  refine Ct.by (cc := cX10_feed) (maxL := 6) (ret := (some .int)) (by decide +kernel) rfl (Nat.le_of_ble_eq_true rfl) ?_
  intro p e s m args below meth c A Q F hnm K ls hl
  have F : wd_Fx p s m args meth c cX10_feed 6 wsX10_feed RX10 D cy sk sv A := F
  have hl : lv_has ls 6 [(0, .ref x), (1, .int x1), (2, .int x2), (3, .int x3), (4, .int x4), (5, .int x5)] := hl
  have hx := F.1.1
  have hb := F.1.2.1
  have hown := F.1.2.2.2.1
  have hts := F.1.2.2.2.2
  intro H locs hP hD hS
  have kp0 : wd_kp (fun b => tg b < 10000) w w := wd_kp.rf
  refine hIX0 _ ?_
  intro a0 a1 a2 a3 a4 a5 a6 a7 a8 a10 a11 b0 b1 b2 b3 tb l0 l1 l2 l3 l4 l5 l6 l7 bl bm sh gc sg lu lv9 f0 f1 f2 f3 tbf e0 e1 e4 e5 e7 ff bf bf2 e2 e3 e6 ta sz fo to fo2 to2 tf tn ag co ra aa ru ga0 ga1 ga2 ga3 ga4 df cf nf sf uf pf pa pwo phd pgd pdy pno ptp af ad av0 av1 av2 av3 zf so sr sp0 sp1 sd hf sw hto hpp hle ham hhh hdd hru hde hcp hld hp90 hp91 hp92 hp93 hp94 hp95 hp96 hp97 hag kI0 tI0 kI1 tI1 kI2 tI2 kI3 tI3 kI4 tI4 kI5 tI5 kI6 tI6 kI7 tI7 kI8 tI8 kI9 tI9 kI10 tI10 kI11 tI11 kI12 tI12 kI13 tI13 kI14 tI14 kI15 tI15 kI16 tI16 kI17 tI17 kI18 tI18 kI19 tI19 kI20 tI20 kI21 tI21 kI22 tI22 kI23 tI23 kI24 tI24 kI25 tI25 kI26 tI26 hT9 hG9 hP9 hA9 hS9 hH9
  have hlu : lu < 2 := by omega
  have hlv : lv9 < 2 := by omega
  refine lv_aload_n hx hb dX10_feed_0 rfl (lv_at hl 0 rfl) ?_
  refine x_get (ref := "NoteHouse") F hP kI0 rfl (fun _ h => List.mem_cons_of_mem _ (List.mem_append_left _ (List.mem_append_right _ (h)))) 6 (Nat.le_of_ble_eq_true rfl) (List.mem_cons_of_mem _ (List.mem_append_left _ (List.mem_append_left _ (List.mem_of_getElem? (i := 0) rfl)))) rfl rfl dX10_feed_1 ?_
  refine lv_bipush (v := 20) hx hb dX10_feed_4 (by decide) ?_
  refine x_callV (n := 1) (As := [.int 20]) (rest := []) F hP hD hS (g_hasRoom l D cy sk sv w a6 tb ln ta kI11 (by omega)) gX10_feed_X7_hasRoom rfl rfl (by decide +kernel) ⟨(Nat.le_of_ble_eq_true rfl), (Nat.le_of_ble_eq_true rfl)⟩ rfl hl.1 (Nat.le_of_ble_eq_true rfl) kI11 rfl dX10_feed_6 rfl ⟨(Nat.le_of_ble_eq_true rfl), (Nat.le_of_ble_eq_true rfl)⟩ (fun v2 w3 hp1 H locs hP hD hS => ?_)
  obtain ⟨rx4, rfl, hz5, hz6, hz7, rfl⟩ := hp1
  refine W.eq (g2 := F0 m 9 ls [.int rx4]) rfl (W.widen (k := 0) (n := 0) (Nat.le_of_ble_eq_true rfl) (Nat.le_of_ble_eq_true rfl) ?_)
  refine lv_if_ne (tgt := 14) hx hb dX10_feed_9 (by decide) (fun c_8 => ?_) (fun c_8 => ?_)
  · have hrm := hz7 c_8
    refine lv_aload_n hx hb dX10_feed_14 rfl (lv_at hl 0 rfl) ?_
    refine x_get (ref := "NoteHouse") F hP kI0 rfl (fun _ h => List.mem_cons_of_mem _ (List.mem_append_left _ (List.mem_append_right _ (h)))) 6 (Nat.le_of_ble_eq_true rfl) (List.mem_cons_of_mem _ (List.mem_append_left _ (List.mem_append_left _ (List.mem_of_getElem? (i := 0) rfl)))) rfl rfl dX10_feed_15 ?_
    refine lv_iload_n hx hb dX10_feed_18 rfl (lv_at hl 1 rfl) ?_
    refine x_callV (n := 1) (As := [.int x1]) (rest := []) F hP hD hS (g_append l D cy sk sv w a6 tb ln ta x1 tbf kI11 kI12 (fun b => b = a6 ∨ b = tb) (Or.inl rfl) (Or.inr rfl) (by omega)) gX10_feed_X7_append rfl rfl (by decide +kernel) ⟨(Nat.le_of_ble_eq_true rfl), (Nat.le_of_ble_eq_true rfl)⟩ rfl hl.1 (Nat.le_of_ble_eq_true rfl) kI11 rfl dX10_feed_19 rfl ⟨(Nat.le_of_ble_eq_true rfl), (Nat.le_of_ble_eq_true rfl)⟩ (fun v10 w11 hp9 H locs hP hD hS => ?_)
    obtain ⟨gx12, rfl, kq15, k13, k14⟩ := hp9
    have k16 := kq15.2 _ _ kI0 (orN (tg_ne tI0 tI11 (by decide)) (tg_ne tI0 tI12 (by decide)))
    have k17 := kq15.2 _ _ kI1 (orN (tg_ne tI1 tI11 (by decide)) (tg_ne tI1 tI12 (by decide)))
    have k18 := kq15.2 _ _ kI2 (orN (tg_ne tI2 tI11 (by decide)) (tg_ne tI2 tI12 (by decide)))
    have k19 := kq15.2 _ _ kI3 (orN (tg_ne tI3 tI11 (by decide)) (tg_ne tI3 tI12 (by decide)))
    have k20 := kq15.2 _ _ kI4 (orN (tg_ne tI4 tI11 (by decide)) (tg_ne tI4 tI12 (by decide)))
    have k21 := kq15.2 _ _ kI5 (orN (tg_ne tI5 tI11 (by decide)) (tg_ne tI5 tI12 (by decide)))
    have k22 := kq15.2 _ _ kI6 (orN (tg_ne tI6 tI11 (by decide)) (tg_ne tI6 tI12 (by decide)))
    have k23 := kq15.2 _ _ kI7 (orN (tg_ne tI7 tI11 (by decide)) (tg_ne tI7 tI12 (by decide)))
    have k24 := kq15.2 _ _ kI8 (orN (tg_ne tI8 tI11 (by decide)) (tg_ne tI8 tI12 (by decide)))
    have k25 := kq15.2 _ _ kI9 (orN (tg_ne tI9 tI11 (by decide)) (tg_ne tI9 tI12 (by decide)))
    have k26 := kq15.2 _ _ kI10 (orN (tg_ne tI10 tI11 (by decide)) (tg_ne tI10 tI12 (by decide)))
    have k27 := kq15.2 _ _ kI13 (orN (tg_ne tI13 tI11 (by decide)) (tg_ne tI13 tI12 (by decide)))
    have k28 := kq15.2 _ _ kI14 (orN (tg_ne tI14 tI11 (by decide)) (tg_ne tI14 tI12 (by decide)))
    have k29 := kq15.2 _ _ kI15 (orN (tg_ne tI15 tI11 (by decide)) (tg_ne tI15 tI12 (by decide)))
    have k30 := kq15.2 _ _ kI16 (orN (tg_ne tI16 tI11 (by decide)) (tg_ne tI16 tI12 (by decide)))
    have k31 := kq15.2 _ _ kI17 (orN (tg_ne tI17 tI11 (by decide)) (tg_ne tI17 tI12 (by decide)))
    have k32 := kq15.2 _ _ kI18 (orN (tg_ne tI18 tI11 (by decide)) (tg_ne tI18 tI12 (by decide)))
    have k33 := kq15.2 _ _ kI19 (orN (tg_ne tI19 tI11 (by decide)) (tg_ne tI19 tI12 (by decide)))
    have k34 := kq15.2 _ _ kI20 (orN (tg_ne tI20 tI11 (by decide)) (tg_ne tI20 tI12 (by decide)))
    have k35 := kq15.2 _ _ kI21 (orN (tg_ne tI21 tI11 (by decide)) (tg_ne tI21 tI12 (by decide)))
    have k36 := kq15.2 _ _ kI22 (orN (tg_ne tI22 tI11 (by decide)) (tg_ne tI22 tI12 (by decide)))
    have k37 := kq15.2 _ _ kI23 (orN (tg_ne tI23 tI11 (tnA (show 11 < 30 by decide))) (tg_ne tI23 tI12 (tnA (show 12 < 30 by decide))))
    have k38 := kq15.2 _ _ kI24 (orN (tg_ne tI24 tI11 (tnA (show 11 < 32 by decide))) (tg_ne tI24 tI12 (tnA (show 12 < 32 by decide))))
    have k39 := kq15.2 _ _ kI25 (orN (tg_ne tI25 tI11 (tnA (show 11 < 30 by decide))) (tg_ne tI25 tI12 (tnA (show 12 < 30 by decide))))
    have k40 := kq15.2 _ _ kI26 (orN (tg_ne tI26 tI11 (tnA (show 11 < 32 by decide))) (tg_ne tI26 tI12 (tnA (show 12 < 32 by decide))))
    have fm41 : ∀ i9, i9 < 12 → tf i9 = some (tn i9) ∧ wd_at w11 (tn i9) (.inr (8, [.int (co i9), .int (ra i9), .int (se i9), .ref (ag i9)])) ∧ tg (tn i9) = 100 + i9 := fun i9 hi9 => ⟨(hT9 i9 hi9).1, kq15.2 _ _ (hT9 i9 hi9).2.1 (orN (tg_ne (hT9 i9 hi9).2.2 tI11 (tnA (show 11 < 100 by decide))) (tg_ne (hT9 i9 hi9).2.2 tI12 (tnA (show 12 < 100 by decide)))), (hT9 i9 hi9).2.2⟩
    have fm42 : ∀ k9, k9 < 13 → (aOK (cf k9) (nf k9) ∧ ru k9 ≤ 12) ∧ wd_at w11 (aa k9) (.inr (1, [.ref (ga0 k9), .ref (ga1 k9), .ref (ga2 k9), .ref (ga3 k9), .ref (ga4 k9), .int (nI (ru k9))])) ∧ tg (aa k9) = 200 + k9 ∧ wd_at w11 (ga0 k9) (.inl (cy 2, 12, .inl (df k9))) ∧ tg (ga0 k9) = 220 + k9 ∧ wd_at w11 (ga1 k9) (.inl (cy 2, 12, .inl (cf k9))) ∧ tg (ga1 k9) = 240 + k9 ∧ wd_at w11 (ga2 k9) (.inl (cy 2, 72, .inl (nf k9))) ∧ tg (ga2 k9) = 260 + k9 ∧ wd_at w11 (ga3 k9) (.inl (cy 1, 72, .inl (sf k9))) ∧ tg (ga3 k9) = 280 + k9 ∧ wd_at w11 (ga4 k9) (.inl (cy 2, 72, .inl (uf k9))) ∧ tg (ga4 k9) = 300 + k9 := fun k9 hi9 => ⟨(hG9 k9 hi9).1, kq15.2 _ _ (hG9 k9 hi9).2.1 (orN (tg_ne (hG9 k9 hi9).2.2.1 tI11 (tnA (show 11 < 200 by decide))) (tg_ne (hG9 k9 hi9).2.2.1 tI12 (tnA (show 12 < 200 by decide)))), (hG9 k9 hi9).2.2.1, kq15.2 _ _ (hG9 k9 hi9).2.2.2.1 (orN (tg_ne (hG9 k9 hi9).2.2.2.2.1 tI11 (tnA (show 11 < 220 by decide))) (tg_ne (hG9 k9 hi9).2.2.2.2.1 tI12 (tnA (show 12 < 220 by decide)))), (hG9 k9 hi9).2.2.2.2.1, kq15.2 _ _ (hG9 k9 hi9).2.2.2.2.2.1 (orN (tg_ne (hG9 k9 hi9).2.2.2.2.2.2.1 tI11 (tnA (show 11 < 240 by decide))) (tg_ne (hG9 k9 hi9).2.2.2.2.2.2.1 tI12 (tnA (show 12 < 240 by decide)))), (hG9 k9 hi9).2.2.2.2.2.2.1, kq15.2 _ _ (hG9 k9 hi9).2.2.2.2.2.2.2.1 (orN (tg_ne (hG9 k9 hi9).2.2.2.2.2.2.2.2.1 tI11 (tnA (show 11 < 260 by decide))) (tg_ne (hG9 k9 hi9).2.2.2.2.2.2.2.2.1 tI12 (tnA (show 12 < 260 by decide)))), (hG9 k9 hi9).2.2.2.2.2.2.2.2.1, kq15.2 _ _ (hG9 k9 hi9).2.2.2.2.2.2.2.2.2.1 (orN (tg_ne (hG9 k9 hi9).2.2.2.2.2.2.2.2.2.2.1 tI11 (tnA (show 11 < 280 by decide))) (tg_ne (hG9 k9 hi9).2.2.2.2.2.2.2.2.2.2.1 tI12 (tnA (show 12 < 280 by decide)))), (hG9 k9 hi9).2.2.2.2.2.2.2.2.2.2.1, kq15.2 _ _ (hG9 k9 hi9).2.2.2.2.2.2.2.2.2.2.2.1 (orN (tg_ne (hG9 k9 hi9).2.2.2.2.2.2.2.2.2.2.2.2 tI11 (tnA (show 11 < 300 by decide))) (tg_ne (hG9 k9 hi9).2.2.2.2.2.2.2.2.2.2.2.2 tI12 (tnA (show 12 < 300 by decide)))), (hG9 k9 hi9).2.2.2.2.2.2.2.2.2.2.2.2⟩
    have fm43 : ∀ k9, k9 < pc → pf k9 = some (pa k9) ∧ wd_at w11 (pa k9) (.inr (3, [.int (plv k9), .int (pwo k9), .int (phd k9), .int (pgd k9), .int (pdy k9), .int (pno k9), .int (ptp k9)])) ∧ tg (pa k9) = 3000 + k9 := fun k9 hi9 => ⟨(hP9 k9 hi9).1, kq15.2 _ _ (hP9 k9 hi9).2.1 (orN (tg_ne (hP9 k9 hi9).2.2 tI11 (tnA (show 11 < 3000 by decide))) (tg_ne (hP9 k9 hi9).2.2 tI12 (tnA (show 12 < 3000 by decide)))), (hP9 k9 hi9).2.2⟩
    have fm44 : ∀ k9, k9 < ac → af k9 = some (ad k9) ∧ wd_at w11 (ad k9) (.inr (0, [.int (av0 k9), .int (av1 k9), .int (av2 k9), .int (av3 k9)])) ∧ tg (ad k9) = 4000 + k9 := fun k9 hi9 => ⟨(hA9 k9 hi9).1, kq15.2 _ _ (hA9 k9 hi9).2.1 (orN (tg_ne (hA9 k9 hi9).2.2 tI11 (tnA (show 11 < 4000 by decide))) (tg_ne (hA9 k9 hi9).2.2 tI12 (tnA (show 12 < 4000 by decide)))), (hA9 k9 hi9).2.2⟩
    have fm45 : ∀ k9, k9 < sc → zf k9 = some (so k9) ∧ wd_at w11 (so k9) (.inr (6, [.int (sp0 k9), .int (sp1 k9), .ref (sr k9)])) ∧ tg (so k9) = 5000 + k9 ∧ wd_at w11 (sr k9) (.inl (cy 2, 12, .inl (sd k9))) ∧ tg (sr k9) = 6000 + k9 := fun k9 hi9 => ⟨(hS9 k9 hi9).1, kq15.2 _ _ (hS9 k9 hi9).2.1 (orN (tg_ne (hS9 k9 hi9).2.2.1 tI11 (tnA (show 11 < 5000 by decide))) (tg_ne (hS9 k9 hi9).2.2.1 tI12 (tnA (show 12 < 5000 by decide)))), (hS9 k9 hi9).2.2.1, kq15.2 _ _ (hS9 k9 hi9).2.2.2.1 (orN (tg_ne (hS9 k9 hi9).2.2.2.2 tI11 (tnA (show 11 < 6000 by decide))) (tg_ne (hS9 k9 hi9).2.2.2.2 tI12 (tnA (show 12 < 6000 by decide)))), (hS9 k9 hi9).2.2.2.2⟩
    have fm46 : ∀ k9, k9 < sh → (hf k9 = some (sw k9) ∧ hto k9 < 12) ∧ wd_at w11 (sw k9) (.inr (5, [.int (nI (hto k9)), .int (hpp k9), .int (hle k9), .int (ham k9), .int (hhh k9), .int (hdd k9), .int (hru k9), .int (hde k9), .int (hcp k9), .int (hld k9)])) ∧ tg (sw k9) = 7000 + k9 := fun k9 hi9 => ⟨(hH9 k9 hi9).1, kq15.2 _ _ (hH9 k9 hi9).2.1 (orN (tg_ne (hH9 k9 hi9).2.2 tI11 (tnA (show 11 < 7000 by decide))) (tg_ne (hH9 k9 hi9).2.2 tI12 (tnA (show 12 < 7000 by decide)))), (hH9 k9 hi9).2.2⟩
    have kp47 := kp0.tr kq15 (fun b9 hm q9 => (fun q9 => Or.elim q9 (fun q9 => q9 ▸ (tgS tI11 (by decide))) (fun q9 => q9 ▸ (tgS tI12 (by decide)))) q9)
    refine W.eq (g2 := F0 m 22 ls []) rfl (W.widen (k := 0) (n := 0) (Nat.le_of_ble_eq_true rfl) (Nat.le_of_ble_eq_true rfl) ?_)
    refine lv_aload_n hx hb dX10_feed_22 rfl (lv_at hl 0 rfl) ?_
    refine x_get (ref := "NoteHouse") F hP k16 rfl (fun _ h => List.mem_cons_of_mem _ (List.mem_append_left _ (List.mem_append_right _ (h)))) 6 (Nat.le_of_ble_eq_true rfl) (List.mem_cons_of_mem _ (List.mem_append_left _ (List.mem_append_left _ (List.mem_of_getElem? (i := 0) rfl)))) rfl rfl dX10_feed_23 ?_
    refine lv_iload_n hx hb dX10_feed_26 rfl (lv_at hl 2 rfl) ?_
    refine x_callV (n := 1) (As := [.int x2]) (rest := []) F hP hD hS (g_append l D cy sk sv w11 a6 tb (ln + 4) ta x2 gx12 k13 k14 (fun b => b = a6 ∨ b = tb) (Or.inl rfl) (Or.inr rfl) (by omega)) gX10_feed_X7_append rfl rfl (by decide +kernel) ⟨(Nat.le_of_ble_eq_true rfl), (Nat.le_of_ble_eq_true rfl)⟩ rfl hl.1 (Nat.le_of_ble_eq_true rfl) k13 rfl dX10_feed_27 rfl ⟨(Nat.le_of_ble_eq_true rfl), (Nat.le_of_ble_eq_true rfl)⟩ (fun v49 w50 hp48 H locs hP hD hS => ?_)
    obtain ⟨gx51, rfl, kq54, k52, k53⟩ := hp48
    have k55 := kq54.2 _ _ k16 (orN (tg_ne tI0 tI11 (by decide)) (tg_ne tI0 tI12 (by decide)))
    have k56 := kq54.2 _ _ k17 (orN (tg_ne tI1 tI11 (by decide)) (tg_ne tI1 tI12 (by decide)))
    have k57 := kq54.2 _ _ k18 (orN (tg_ne tI2 tI11 (by decide)) (tg_ne tI2 tI12 (by decide)))
    have k58 := kq54.2 _ _ k19 (orN (tg_ne tI3 tI11 (by decide)) (tg_ne tI3 tI12 (by decide)))
    have k59 := kq54.2 _ _ k20 (orN (tg_ne tI4 tI11 (by decide)) (tg_ne tI4 tI12 (by decide)))
    have k60 := kq54.2 _ _ k21 (orN (tg_ne tI5 tI11 (by decide)) (tg_ne tI5 tI12 (by decide)))
    have k61 := kq54.2 _ _ k22 (orN (tg_ne tI6 tI11 (by decide)) (tg_ne tI6 tI12 (by decide)))
    have k62 := kq54.2 _ _ k23 (orN (tg_ne tI7 tI11 (by decide)) (tg_ne tI7 tI12 (by decide)))
    have k63 := kq54.2 _ _ k24 (orN (tg_ne tI8 tI11 (by decide)) (tg_ne tI8 tI12 (by decide)))
    have k64 := kq54.2 _ _ k25 (orN (tg_ne tI9 tI11 (by decide)) (tg_ne tI9 tI12 (by decide)))
    have k65 := kq54.2 _ _ k26 (orN (tg_ne tI10 tI11 (by decide)) (tg_ne tI10 tI12 (by decide)))
    have k66 := kq54.2 _ _ k27 (orN (tg_ne tI13 tI11 (by decide)) (tg_ne tI13 tI12 (by decide)))
    have k67 := kq54.2 _ _ k28 (orN (tg_ne tI14 tI11 (by decide)) (tg_ne tI14 tI12 (by decide)))
    have k68 := kq54.2 _ _ k29 (orN (tg_ne tI15 tI11 (by decide)) (tg_ne tI15 tI12 (by decide)))
    have k69 := kq54.2 _ _ k30 (orN (tg_ne tI16 tI11 (by decide)) (tg_ne tI16 tI12 (by decide)))
    have k70 := kq54.2 _ _ k31 (orN (tg_ne tI17 tI11 (by decide)) (tg_ne tI17 tI12 (by decide)))
    have k71 := kq54.2 _ _ k32 (orN (tg_ne tI18 tI11 (by decide)) (tg_ne tI18 tI12 (by decide)))
    have k72 := kq54.2 _ _ k33 (orN (tg_ne tI19 tI11 (by decide)) (tg_ne tI19 tI12 (by decide)))
    have k73 := kq54.2 _ _ k34 (orN (tg_ne tI20 tI11 (by decide)) (tg_ne tI20 tI12 (by decide)))
    have k74 := kq54.2 _ _ k35 (orN (tg_ne tI21 tI11 (by decide)) (tg_ne tI21 tI12 (by decide)))
    have k75 := kq54.2 _ _ k36 (orN (tg_ne tI22 tI11 (by decide)) (tg_ne tI22 tI12 (by decide)))
    have k76 := kq54.2 _ _ k37 (orN (tg_ne tI23 tI11 (tnA (show 11 < 30 by decide))) (tg_ne tI23 tI12 (tnA (show 12 < 30 by decide))))
    have k77 := kq54.2 _ _ k38 (orN (tg_ne tI24 tI11 (tnA (show 11 < 32 by decide))) (tg_ne tI24 tI12 (tnA (show 12 < 32 by decide))))
    have k78 := kq54.2 _ _ k39 (orN (tg_ne tI25 tI11 (tnA (show 11 < 30 by decide))) (tg_ne tI25 tI12 (tnA (show 12 < 30 by decide))))
    have k79 := kq54.2 _ _ k40 (orN (tg_ne tI26 tI11 (tnA (show 11 < 32 by decide))) (tg_ne tI26 tI12 (tnA (show 12 < 32 by decide))))
    have fm80 : ∀ i9, i9 < 12 → tf i9 = some (tn i9) ∧ wd_at w50 (tn i9) (.inr (8, [.int (co i9), .int (ra i9), .int (se i9), .ref (ag i9)])) ∧ tg (tn i9) = 100 + i9 := fun i9 hi9 => ⟨(fm41 i9 hi9).1, kq54.2 _ _ (fm41 i9 hi9).2.1 (orN (tg_ne (fm41 i9 hi9).2.2 tI11 (tnA (show 11 < 100 by decide))) (tg_ne (fm41 i9 hi9).2.2 tI12 (tnA (show 12 < 100 by decide)))), (fm41 i9 hi9).2.2⟩
    have fm81 : ∀ k9, k9 < 13 → (aOK (cf k9) (nf k9) ∧ ru k9 ≤ 12) ∧ wd_at w50 (aa k9) (.inr (1, [.ref (ga0 k9), .ref (ga1 k9), .ref (ga2 k9), .ref (ga3 k9), .ref (ga4 k9), .int (nI (ru k9))])) ∧ tg (aa k9) = 200 + k9 ∧ wd_at w50 (ga0 k9) (.inl (cy 2, 12, .inl (df k9))) ∧ tg (ga0 k9) = 220 + k9 ∧ wd_at w50 (ga1 k9) (.inl (cy 2, 12, .inl (cf k9))) ∧ tg (ga1 k9) = 240 + k9 ∧ wd_at w50 (ga2 k9) (.inl (cy 2, 72, .inl (nf k9))) ∧ tg (ga2 k9) = 260 + k9 ∧ wd_at w50 (ga3 k9) (.inl (cy 1, 72, .inl (sf k9))) ∧ tg (ga3 k9) = 280 + k9 ∧ wd_at w50 (ga4 k9) (.inl (cy 2, 72, .inl (uf k9))) ∧ tg (ga4 k9) = 300 + k9 := fun k9 hi9 => ⟨(fm42 k9 hi9).1, kq54.2 _ _ (fm42 k9 hi9).2.1 (orN (tg_ne (fm42 k9 hi9).2.2.1 tI11 (tnA (show 11 < 200 by decide))) (tg_ne (fm42 k9 hi9).2.2.1 tI12 (tnA (show 12 < 200 by decide)))), (fm42 k9 hi9).2.2.1, kq54.2 _ _ (fm42 k9 hi9).2.2.2.1 (orN (tg_ne (fm42 k9 hi9).2.2.2.2.1 tI11 (tnA (show 11 < 220 by decide))) (tg_ne (fm42 k9 hi9).2.2.2.2.1 tI12 (tnA (show 12 < 220 by decide)))), (fm42 k9 hi9).2.2.2.2.1, kq54.2 _ _ (fm42 k9 hi9).2.2.2.2.2.1 (orN (tg_ne (fm42 k9 hi9).2.2.2.2.2.2.1 tI11 (tnA (show 11 < 240 by decide))) (tg_ne (fm42 k9 hi9).2.2.2.2.2.2.1 tI12 (tnA (show 12 < 240 by decide)))), (fm42 k9 hi9).2.2.2.2.2.2.1, kq54.2 _ _ (fm42 k9 hi9).2.2.2.2.2.2.2.1 (orN (tg_ne (fm42 k9 hi9).2.2.2.2.2.2.2.2.1 tI11 (tnA (show 11 < 260 by decide))) (tg_ne (fm42 k9 hi9).2.2.2.2.2.2.2.2.1 tI12 (tnA (show 12 < 260 by decide)))), (fm42 k9 hi9).2.2.2.2.2.2.2.2.1, kq54.2 _ _ (fm42 k9 hi9).2.2.2.2.2.2.2.2.2.1 (orN (tg_ne (fm42 k9 hi9).2.2.2.2.2.2.2.2.2.2.1 tI11 (tnA (show 11 < 280 by decide))) (tg_ne (fm42 k9 hi9).2.2.2.2.2.2.2.2.2.2.1 tI12 (tnA (show 12 < 280 by decide)))), (fm42 k9 hi9).2.2.2.2.2.2.2.2.2.2.1, kq54.2 _ _ (fm42 k9 hi9).2.2.2.2.2.2.2.2.2.2.2.1 (orN (tg_ne (fm42 k9 hi9).2.2.2.2.2.2.2.2.2.2.2.2 tI11 (tnA (show 11 < 300 by decide))) (tg_ne (fm42 k9 hi9).2.2.2.2.2.2.2.2.2.2.2.2 tI12 (tnA (show 12 < 300 by decide)))), (fm42 k9 hi9).2.2.2.2.2.2.2.2.2.2.2.2⟩
    have fm82 : ∀ k9, k9 < pc → pf k9 = some (pa k9) ∧ wd_at w50 (pa k9) (.inr (3, [.int (plv k9), .int (pwo k9), .int (phd k9), .int (pgd k9), .int (pdy k9), .int (pno k9), .int (ptp k9)])) ∧ tg (pa k9) = 3000 + k9 := fun k9 hi9 => ⟨(fm43 k9 hi9).1, kq54.2 _ _ (fm43 k9 hi9).2.1 (orN (tg_ne (fm43 k9 hi9).2.2 tI11 (tnA (show 11 < 3000 by decide))) (tg_ne (fm43 k9 hi9).2.2 tI12 (tnA (show 12 < 3000 by decide)))), (fm43 k9 hi9).2.2⟩
    have fm83 : ∀ k9, k9 < ac → af k9 = some (ad k9) ∧ wd_at w50 (ad k9) (.inr (0, [.int (av0 k9), .int (av1 k9), .int (av2 k9), .int (av3 k9)])) ∧ tg (ad k9) = 4000 + k9 := fun k9 hi9 => ⟨(fm44 k9 hi9).1, kq54.2 _ _ (fm44 k9 hi9).2.1 (orN (tg_ne (fm44 k9 hi9).2.2 tI11 (tnA (show 11 < 4000 by decide))) (tg_ne (fm44 k9 hi9).2.2 tI12 (tnA (show 12 < 4000 by decide)))), (fm44 k9 hi9).2.2⟩
    have fm84 : ∀ k9, k9 < sc → zf k9 = some (so k9) ∧ wd_at w50 (so k9) (.inr (6, [.int (sp0 k9), .int (sp1 k9), .ref (sr k9)])) ∧ tg (so k9) = 5000 + k9 ∧ wd_at w50 (sr k9) (.inl (cy 2, 12, .inl (sd k9))) ∧ tg (sr k9) = 6000 + k9 := fun k9 hi9 => ⟨(fm45 k9 hi9).1, kq54.2 _ _ (fm45 k9 hi9).2.1 (orN (tg_ne (fm45 k9 hi9).2.2.1 tI11 (tnA (show 11 < 5000 by decide))) (tg_ne (fm45 k9 hi9).2.2.1 tI12 (tnA (show 12 < 5000 by decide)))), (fm45 k9 hi9).2.2.1, kq54.2 _ _ (fm45 k9 hi9).2.2.2.1 (orN (tg_ne (fm45 k9 hi9).2.2.2.2 tI11 (tnA (show 11 < 6000 by decide))) (tg_ne (fm45 k9 hi9).2.2.2.2 tI12 (tnA (show 12 < 6000 by decide)))), (fm45 k9 hi9).2.2.2.2⟩
    have fm85 : ∀ k9, k9 < sh → (hf k9 = some (sw k9) ∧ hto k9 < 12) ∧ wd_at w50 (sw k9) (.inr (5, [.int (nI (hto k9)), .int (hpp k9), .int (hle k9), .int (ham k9), .int (hhh k9), .int (hdd k9), .int (hru k9), .int (hde k9), .int (hcp k9), .int (hld k9)])) ∧ tg (sw k9) = 7000 + k9 := fun k9 hi9 => ⟨(fm46 k9 hi9).1, kq54.2 _ _ (fm46 k9 hi9).2.1 (orN (tg_ne (fm46 k9 hi9).2.2 tI11 (tnA (show 11 < 7000 by decide))) (tg_ne (fm46 k9 hi9).2.2 tI12 (tnA (show 12 < 7000 by decide)))), (fm46 k9 hi9).2.2⟩
    have kp86 := kp47.tr kq54 (fun b9 hm q9 => (fun q9 => Or.elim q9 (fun q9 => q9 ▸ (tgS tI11 (by decide))) (fun q9 => q9 ▸ (tgS tI12 (by decide)))) q9)
    refine W.eq (g2 := F0 m 30 ls []) rfl (W.widen (k := 0) (n := 0) (Nat.le_of_ble_eq_true rfl) (Nat.le_of_ble_eq_true rfl) ?_)
    refine lv_aload_n hx hb dX10_feed_30 rfl (lv_at hl 0 rfl) ?_
    refine x_get (ref := "NoteHouse") F hP k55 rfl (fun _ h => List.mem_cons_of_mem _ (List.mem_append_left _ (List.mem_append_right _ (h)))) 6 (Nat.le_of_ble_eq_true rfl) (List.mem_cons_of_mem _ (List.mem_append_left _ (List.mem_append_left _ (List.mem_of_getElem? (i := 0) rfl)))) rfl rfl dX10_feed_31 ?_
    refine lv_iload_n hx hb dX10_feed_34 rfl (lv_at hl 3 rfl) ?_
    refine x_callV (n := 1) (As := [.int x3]) (rest := []) F hP hD hS (g_append l D cy sk sv w50 a6 tb ((ln + 4) + 4) ta x3 gx51 k52 k53 (fun b => b = a6 ∨ b = tb) (Or.inl rfl) (Or.inr rfl) (by omega)) gX10_feed_X7_append rfl rfl (by decide +kernel) ⟨(Nat.le_of_ble_eq_true rfl), (Nat.le_of_ble_eq_true rfl)⟩ rfl hl.1 (Nat.le_of_ble_eq_true rfl) k52 rfl dX10_feed_35 rfl ⟨(Nat.le_of_ble_eq_true rfl), (Nat.le_of_ble_eq_true rfl)⟩ (fun v88 w89 hp87 H locs hP hD hS => ?_)
    obtain ⟨gx90, rfl, kq93, k91, k92⟩ := hp87
    have k94 := kq93.2 _ _ k55 (orN (tg_ne tI0 tI11 (by decide)) (tg_ne tI0 tI12 (by decide)))
    have k95 := kq93.2 _ _ k56 (orN (tg_ne tI1 tI11 (by decide)) (tg_ne tI1 tI12 (by decide)))
    have k96 := kq93.2 _ _ k57 (orN (tg_ne tI2 tI11 (by decide)) (tg_ne tI2 tI12 (by decide)))
    have k97 := kq93.2 _ _ k58 (orN (tg_ne tI3 tI11 (by decide)) (tg_ne tI3 tI12 (by decide)))
    have k98 := kq93.2 _ _ k59 (orN (tg_ne tI4 tI11 (by decide)) (tg_ne tI4 tI12 (by decide)))
    have k99 := kq93.2 _ _ k60 (orN (tg_ne tI5 tI11 (by decide)) (tg_ne tI5 tI12 (by decide)))
    have k100 := kq93.2 _ _ k61 (orN (tg_ne tI6 tI11 (by decide)) (tg_ne tI6 tI12 (by decide)))
    have k101 := kq93.2 _ _ k62 (orN (tg_ne tI7 tI11 (by decide)) (tg_ne tI7 tI12 (by decide)))
    have k102 := kq93.2 _ _ k63 (orN (tg_ne tI8 tI11 (by decide)) (tg_ne tI8 tI12 (by decide)))
    have k103 := kq93.2 _ _ k64 (orN (tg_ne tI9 tI11 (by decide)) (tg_ne tI9 tI12 (by decide)))
    have k104 := kq93.2 _ _ k65 (orN (tg_ne tI10 tI11 (by decide)) (tg_ne tI10 tI12 (by decide)))
    have k105 := kq93.2 _ _ k66 (orN (tg_ne tI13 tI11 (by decide)) (tg_ne tI13 tI12 (by decide)))
    have k106 := kq93.2 _ _ k67 (orN (tg_ne tI14 tI11 (by decide)) (tg_ne tI14 tI12 (by decide)))
    have k107 := kq93.2 _ _ k68 (orN (tg_ne tI15 tI11 (by decide)) (tg_ne tI15 tI12 (by decide)))
    have k108 := kq93.2 _ _ k69 (orN (tg_ne tI16 tI11 (by decide)) (tg_ne tI16 tI12 (by decide)))
    have k109 := kq93.2 _ _ k70 (orN (tg_ne tI17 tI11 (by decide)) (tg_ne tI17 tI12 (by decide)))
    have k110 := kq93.2 _ _ k71 (orN (tg_ne tI18 tI11 (by decide)) (tg_ne tI18 tI12 (by decide)))
    have k111 := kq93.2 _ _ k72 (orN (tg_ne tI19 tI11 (by decide)) (tg_ne tI19 tI12 (by decide)))
    have k112 := kq93.2 _ _ k73 (orN (tg_ne tI20 tI11 (by decide)) (tg_ne tI20 tI12 (by decide)))
    have k113 := kq93.2 _ _ k74 (orN (tg_ne tI21 tI11 (by decide)) (tg_ne tI21 tI12 (by decide)))
    have k114 := kq93.2 _ _ k75 (orN (tg_ne tI22 tI11 (by decide)) (tg_ne tI22 tI12 (by decide)))
    have k115 := kq93.2 _ _ k76 (orN (tg_ne tI23 tI11 (tnA (show 11 < 30 by decide))) (tg_ne tI23 tI12 (tnA (show 12 < 30 by decide))))
    have k116 := kq93.2 _ _ k77 (orN (tg_ne tI24 tI11 (tnA (show 11 < 32 by decide))) (tg_ne tI24 tI12 (tnA (show 12 < 32 by decide))))
    have k117 := kq93.2 _ _ k78 (orN (tg_ne tI25 tI11 (tnA (show 11 < 30 by decide))) (tg_ne tI25 tI12 (tnA (show 12 < 30 by decide))))
    have k118 := kq93.2 _ _ k79 (orN (tg_ne tI26 tI11 (tnA (show 11 < 32 by decide))) (tg_ne tI26 tI12 (tnA (show 12 < 32 by decide))))
    have fm119 : ∀ i9, i9 < 12 → tf i9 = some (tn i9) ∧ wd_at w89 (tn i9) (.inr (8, [.int (co i9), .int (ra i9), .int (se i9), .ref (ag i9)])) ∧ tg (tn i9) = 100 + i9 := fun i9 hi9 => ⟨(fm80 i9 hi9).1, kq93.2 _ _ (fm80 i9 hi9).2.1 (orN (tg_ne (fm80 i9 hi9).2.2 tI11 (tnA (show 11 < 100 by decide))) (tg_ne (fm80 i9 hi9).2.2 tI12 (tnA (show 12 < 100 by decide)))), (fm80 i9 hi9).2.2⟩
    have fm120 : ∀ k9, k9 < 13 → (aOK (cf k9) (nf k9) ∧ ru k9 ≤ 12) ∧ wd_at w89 (aa k9) (.inr (1, [.ref (ga0 k9), .ref (ga1 k9), .ref (ga2 k9), .ref (ga3 k9), .ref (ga4 k9), .int (nI (ru k9))])) ∧ tg (aa k9) = 200 + k9 ∧ wd_at w89 (ga0 k9) (.inl (cy 2, 12, .inl (df k9))) ∧ tg (ga0 k9) = 220 + k9 ∧ wd_at w89 (ga1 k9) (.inl (cy 2, 12, .inl (cf k9))) ∧ tg (ga1 k9) = 240 + k9 ∧ wd_at w89 (ga2 k9) (.inl (cy 2, 72, .inl (nf k9))) ∧ tg (ga2 k9) = 260 + k9 ∧ wd_at w89 (ga3 k9) (.inl (cy 1, 72, .inl (sf k9))) ∧ tg (ga3 k9) = 280 + k9 ∧ wd_at w89 (ga4 k9) (.inl (cy 2, 72, .inl (uf k9))) ∧ tg (ga4 k9) = 300 + k9 := fun k9 hi9 => ⟨(fm81 k9 hi9).1, kq93.2 _ _ (fm81 k9 hi9).2.1 (orN (tg_ne (fm81 k9 hi9).2.2.1 tI11 (tnA (show 11 < 200 by decide))) (tg_ne (fm81 k9 hi9).2.2.1 tI12 (tnA (show 12 < 200 by decide)))), (fm81 k9 hi9).2.2.1, kq93.2 _ _ (fm81 k9 hi9).2.2.2.1 (orN (tg_ne (fm81 k9 hi9).2.2.2.2.1 tI11 (tnA (show 11 < 220 by decide))) (tg_ne (fm81 k9 hi9).2.2.2.2.1 tI12 (tnA (show 12 < 220 by decide)))), (fm81 k9 hi9).2.2.2.2.1, kq93.2 _ _ (fm81 k9 hi9).2.2.2.2.2.1 (orN (tg_ne (fm81 k9 hi9).2.2.2.2.2.2.1 tI11 (tnA (show 11 < 240 by decide))) (tg_ne (fm81 k9 hi9).2.2.2.2.2.2.1 tI12 (tnA (show 12 < 240 by decide)))), (fm81 k9 hi9).2.2.2.2.2.2.1, kq93.2 _ _ (fm81 k9 hi9).2.2.2.2.2.2.2.1 (orN (tg_ne (fm81 k9 hi9).2.2.2.2.2.2.2.2.1 tI11 (tnA (show 11 < 260 by decide))) (tg_ne (fm81 k9 hi9).2.2.2.2.2.2.2.2.1 tI12 (tnA (show 12 < 260 by decide)))), (fm81 k9 hi9).2.2.2.2.2.2.2.2.1, kq93.2 _ _ (fm81 k9 hi9).2.2.2.2.2.2.2.2.2.1 (orN (tg_ne (fm81 k9 hi9).2.2.2.2.2.2.2.2.2.2.1 tI11 (tnA (show 11 < 280 by decide))) (tg_ne (fm81 k9 hi9).2.2.2.2.2.2.2.2.2.2.1 tI12 (tnA (show 12 < 280 by decide)))), (fm81 k9 hi9).2.2.2.2.2.2.2.2.2.2.1, kq93.2 _ _ (fm81 k9 hi9).2.2.2.2.2.2.2.2.2.2.2.1 (orN (tg_ne (fm81 k9 hi9).2.2.2.2.2.2.2.2.2.2.2.2 tI11 (tnA (show 11 < 300 by decide))) (tg_ne (fm81 k9 hi9).2.2.2.2.2.2.2.2.2.2.2.2 tI12 (tnA (show 12 < 300 by decide)))), (fm81 k9 hi9).2.2.2.2.2.2.2.2.2.2.2.2⟩
    have fm121 : ∀ k9, k9 < pc → pf k9 = some (pa k9) ∧ wd_at w89 (pa k9) (.inr (3, [.int (plv k9), .int (pwo k9), .int (phd k9), .int (pgd k9), .int (pdy k9), .int (pno k9), .int (ptp k9)])) ∧ tg (pa k9) = 3000 + k9 := fun k9 hi9 => ⟨(fm82 k9 hi9).1, kq93.2 _ _ (fm82 k9 hi9).2.1 (orN (tg_ne (fm82 k9 hi9).2.2 tI11 (tnA (show 11 < 3000 by decide))) (tg_ne (fm82 k9 hi9).2.2 tI12 (tnA (show 12 < 3000 by decide)))), (fm82 k9 hi9).2.2⟩
    have fm122 : ∀ k9, k9 < ac → af k9 = some (ad k9) ∧ wd_at w89 (ad k9) (.inr (0, [.int (av0 k9), .int (av1 k9), .int (av2 k9), .int (av3 k9)])) ∧ tg (ad k9) = 4000 + k9 := fun k9 hi9 => ⟨(fm83 k9 hi9).1, kq93.2 _ _ (fm83 k9 hi9).2.1 (orN (tg_ne (fm83 k9 hi9).2.2 tI11 (tnA (show 11 < 4000 by decide))) (tg_ne (fm83 k9 hi9).2.2 tI12 (tnA (show 12 < 4000 by decide)))), (fm83 k9 hi9).2.2⟩
    have fm123 : ∀ k9, k9 < sc → zf k9 = some (so k9) ∧ wd_at w89 (so k9) (.inr (6, [.int (sp0 k9), .int (sp1 k9), .ref (sr k9)])) ∧ tg (so k9) = 5000 + k9 ∧ wd_at w89 (sr k9) (.inl (cy 2, 12, .inl (sd k9))) ∧ tg (sr k9) = 6000 + k9 := fun k9 hi9 => ⟨(fm84 k9 hi9).1, kq93.2 _ _ (fm84 k9 hi9).2.1 (orN (tg_ne (fm84 k9 hi9).2.2.1 tI11 (tnA (show 11 < 5000 by decide))) (tg_ne (fm84 k9 hi9).2.2.1 tI12 (tnA (show 12 < 5000 by decide)))), (fm84 k9 hi9).2.2.1, kq93.2 _ _ (fm84 k9 hi9).2.2.2.1 (orN (tg_ne (fm84 k9 hi9).2.2.2.2 tI11 (tnA (show 11 < 6000 by decide))) (tg_ne (fm84 k9 hi9).2.2.2.2 tI12 (tnA (show 12 < 6000 by decide)))), (fm84 k9 hi9).2.2.2.2⟩
    have fm124 : ∀ k9, k9 < sh → (hf k9 = some (sw k9) ∧ hto k9 < 12) ∧ wd_at w89 (sw k9) (.inr (5, [.int (nI (hto k9)), .int (hpp k9), .int (hle k9), .int (ham k9), .int (hhh k9), .int (hdd k9), .int (hru k9), .int (hde k9), .int (hcp k9), .int (hld k9)])) ∧ tg (sw k9) = 7000 + k9 := fun k9 hi9 => ⟨(fm85 k9 hi9).1, kq93.2 _ _ (fm85 k9 hi9).2.1 (orN (tg_ne (fm85 k9 hi9).2.2 tI11 (tnA (show 11 < 7000 by decide))) (tg_ne (fm85 k9 hi9).2.2 tI12 (tnA (show 12 < 7000 by decide)))), (fm85 k9 hi9).2.2⟩
    have kp125 := kp86.tr kq93 (fun b9 hm q9 => (fun q9 => Or.elim q9 (fun q9 => q9 ▸ (tgS tI11 (by decide))) (fun q9 => q9 ▸ (tgS tI12 (by decide)))) q9)
    refine W.eq (g2 := F0 m 38 ls []) rfl (W.widen (k := 0) (n := 0) (Nat.le_of_ble_eq_true rfl) (Nat.le_of_ble_eq_true rfl) ?_)
    refine lv_aload_n hx hb dX10_feed_38 rfl (lv_at hl 0 rfl) ?_
    refine x_get (ref := "NoteHouse") F hP k94 rfl (fun _ h => List.mem_cons_of_mem _ (List.mem_append_left _ (List.mem_append_right _ (h)))) 6 (Nat.le_of_ble_eq_true rfl) (List.mem_cons_of_mem _ (List.mem_append_left _ (List.mem_append_left _ (List.mem_of_getElem? (i := 0) rfl)))) rfl rfl dX10_feed_39 ?_
    refine lv_iload hx hb dX10_feed_42 (lv_at hl 4 rfl) ?_
    refine x_callV (n := 1) (As := [.int x4]) (rest := []) F hP hD hS (g_append l D cy sk sv w89 a6 tb (((ln + 4) + 4) + 4) ta x4 gx90 k91 k92 (fun b => b = a6 ∨ b = tb) (Or.inl rfl) (Or.inr rfl) (by omega)) gX10_feed_X7_append rfl rfl (by decide +kernel) ⟨(Nat.le_of_ble_eq_true rfl), (Nat.le_of_ble_eq_true rfl)⟩ rfl hl.1 (Nat.le_of_ble_eq_true rfl) k91 rfl dX10_feed_44 rfl ⟨(Nat.le_of_ble_eq_true rfl), (Nat.le_of_ble_eq_true rfl)⟩ (fun v127 w128 hp126 H locs hP hD hS => ?_)
    obtain ⟨gx129, rfl, kq132, k130, k131⟩ := hp126
    have k133 := kq132.2 _ _ k94 (orN (tg_ne tI0 tI11 (by decide)) (tg_ne tI0 tI12 (by decide)))
    have k134 := kq132.2 _ _ k95 (orN (tg_ne tI1 tI11 (by decide)) (tg_ne tI1 tI12 (by decide)))
    have k135 := kq132.2 _ _ k96 (orN (tg_ne tI2 tI11 (by decide)) (tg_ne tI2 tI12 (by decide)))
    have k136 := kq132.2 _ _ k97 (orN (tg_ne tI3 tI11 (by decide)) (tg_ne tI3 tI12 (by decide)))
    have k137 := kq132.2 _ _ k98 (orN (tg_ne tI4 tI11 (by decide)) (tg_ne tI4 tI12 (by decide)))
    have k138 := kq132.2 _ _ k99 (orN (tg_ne tI5 tI11 (by decide)) (tg_ne tI5 tI12 (by decide)))
    have k139 := kq132.2 _ _ k100 (orN (tg_ne tI6 tI11 (by decide)) (tg_ne tI6 tI12 (by decide)))
    have k140 := kq132.2 _ _ k101 (orN (tg_ne tI7 tI11 (by decide)) (tg_ne tI7 tI12 (by decide)))
    have k141 := kq132.2 _ _ k102 (orN (tg_ne tI8 tI11 (by decide)) (tg_ne tI8 tI12 (by decide)))
    have k142 := kq132.2 _ _ k103 (orN (tg_ne tI9 tI11 (by decide)) (tg_ne tI9 tI12 (by decide)))
    have k143 := kq132.2 _ _ k104 (orN (tg_ne tI10 tI11 (by decide)) (tg_ne tI10 tI12 (by decide)))
    have k144 := kq132.2 _ _ k105 (orN (tg_ne tI13 tI11 (by decide)) (tg_ne tI13 tI12 (by decide)))
    have k145 := kq132.2 _ _ k106 (orN (tg_ne tI14 tI11 (by decide)) (tg_ne tI14 tI12 (by decide)))
    have k146 := kq132.2 _ _ k107 (orN (tg_ne tI15 tI11 (by decide)) (tg_ne tI15 tI12 (by decide)))
    have k147 := kq132.2 _ _ k108 (orN (tg_ne tI16 tI11 (by decide)) (tg_ne tI16 tI12 (by decide)))
    have k148 := kq132.2 _ _ k109 (orN (tg_ne tI17 tI11 (by decide)) (tg_ne tI17 tI12 (by decide)))
    have k149 := kq132.2 _ _ k110 (orN (tg_ne tI18 tI11 (by decide)) (tg_ne tI18 tI12 (by decide)))
    have k150 := kq132.2 _ _ k111 (orN (tg_ne tI19 tI11 (by decide)) (tg_ne tI19 tI12 (by decide)))
    have k151 := kq132.2 _ _ k112 (orN (tg_ne tI20 tI11 (by decide)) (tg_ne tI20 tI12 (by decide)))
    have k152 := kq132.2 _ _ k113 (orN (tg_ne tI21 tI11 (by decide)) (tg_ne tI21 tI12 (by decide)))
    have k153 := kq132.2 _ _ k114 (orN (tg_ne tI22 tI11 (by decide)) (tg_ne tI22 tI12 (by decide)))
    have k154 := kq132.2 _ _ k115 (orN (tg_ne tI23 tI11 (tnA (show 11 < 30 by decide))) (tg_ne tI23 tI12 (tnA (show 12 < 30 by decide))))
    have k155 := kq132.2 _ _ k116 (orN (tg_ne tI24 tI11 (tnA (show 11 < 32 by decide))) (tg_ne tI24 tI12 (tnA (show 12 < 32 by decide))))
    have k156 := kq132.2 _ _ k117 (orN (tg_ne tI25 tI11 (tnA (show 11 < 30 by decide))) (tg_ne tI25 tI12 (tnA (show 12 < 30 by decide))))
    have k157 := kq132.2 _ _ k118 (orN (tg_ne tI26 tI11 (tnA (show 11 < 32 by decide))) (tg_ne tI26 tI12 (tnA (show 12 < 32 by decide))))
    have fm158 : ∀ i9, i9 < 12 → tf i9 = some (tn i9) ∧ wd_at w128 (tn i9) (.inr (8, [.int (co i9), .int (ra i9), .int (se i9), .ref (ag i9)])) ∧ tg (tn i9) = 100 + i9 := fun i9 hi9 => ⟨(fm119 i9 hi9).1, kq132.2 _ _ (fm119 i9 hi9).2.1 (orN (tg_ne (fm119 i9 hi9).2.2 tI11 (tnA (show 11 < 100 by decide))) (tg_ne (fm119 i9 hi9).2.2 tI12 (tnA (show 12 < 100 by decide)))), (fm119 i9 hi9).2.2⟩
    have fm159 : ∀ k9, k9 < 13 → (aOK (cf k9) (nf k9) ∧ ru k9 ≤ 12) ∧ wd_at w128 (aa k9) (.inr (1, [.ref (ga0 k9), .ref (ga1 k9), .ref (ga2 k9), .ref (ga3 k9), .ref (ga4 k9), .int (nI (ru k9))])) ∧ tg (aa k9) = 200 + k9 ∧ wd_at w128 (ga0 k9) (.inl (cy 2, 12, .inl (df k9))) ∧ tg (ga0 k9) = 220 + k9 ∧ wd_at w128 (ga1 k9) (.inl (cy 2, 12, .inl (cf k9))) ∧ tg (ga1 k9) = 240 + k9 ∧ wd_at w128 (ga2 k9) (.inl (cy 2, 72, .inl (nf k9))) ∧ tg (ga2 k9) = 260 + k9 ∧ wd_at w128 (ga3 k9) (.inl (cy 1, 72, .inl (sf k9))) ∧ tg (ga3 k9) = 280 + k9 ∧ wd_at w128 (ga4 k9) (.inl (cy 2, 72, .inl (uf k9))) ∧ tg (ga4 k9) = 300 + k9 := fun k9 hi9 => ⟨(fm120 k9 hi9).1, kq132.2 _ _ (fm120 k9 hi9).2.1 (orN (tg_ne (fm120 k9 hi9).2.2.1 tI11 (tnA (show 11 < 200 by decide))) (tg_ne (fm120 k9 hi9).2.2.1 tI12 (tnA (show 12 < 200 by decide)))), (fm120 k9 hi9).2.2.1, kq132.2 _ _ (fm120 k9 hi9).2.2.2.1 (orN (tg_ne (fm120 k9 hi9).2.2.2.2.1 tI11 (tnA (show 11 < 220 by decide))) (tg_ne (fm120 k9 hi9).2.2.2.2.1 tI12 (tnA (show 12 < 220 by decide)))), (fm120 k9 hi9).2.2.2.2.1, kq132.2 _ _ (fm120 k9 hi9).2.2.2.2.2.1 (orN (tg_ne (fm120 k9 hi9).2.2.2.2.2.2.1 tI11 (tnA (show 11 < 240 by decide))) (tg_ne (fm120 k9 hi9).2.2.2.2.2.2.1 tI12 (tnA (show 12 < 240 by decide)))), (fm120 k9 hi9).2.2.2.2.2.2.1, kq132.2 _ _ (fm120 k9 hi9).2.2.2.2.2.2.2.1 (orN (tg_ne (fm120 k9 hi9).2.2.2.2.2.2.2.2.1 tI11 (tnA (show 11 < 260 by decide))) (tg_ne (fm120 k9 hi9).2.2.2.2.2.2.2.2.1 tI12 (tnA (show 12 < 260 by decide)))), (fm120 k9 hi9).2.2.2.2.2.2.2.2.1, kq132.2 _ _ (fm120 k9 hi9).2.2.2.2.2.2.2.2.2.1 (orN (tg_ne (fm120 k9 hi9).2.2.2.2.2.2.2.2.2.2.1 tI11 (tnA (show 11 < 280 by decide))) (tg_ne (fm120 k9 hi9).2.2.2.2.2.2.2.2.2.2.1 tI12 (tnA (show 12 < 280 by decide)))), (fm120 k9 hi9).2.2.2.2.2.2.2.2.2.2.1, kq132.2 _ _ (fm120 k9 hi9).2.2.2.2.2.2.2.2.2.2.2.1 (orN (tg_ne (fm120 k9 hi9).2.2.2.2.2.2.2.2.2.2.2.2 tI11 (tnA (show 11 < 300 by decide))) (tg_ne (fm120 k9 hi9).2.2.2.2.2.2.2.2.2.2.2.2 tI12 (tnA (show 12 < 300 by decide)))), (fm120 k9 hi9).2.2.2.2.2.2.2.2.2.2.2.2⟩
    have fm160 : ∀ k9, k9 < pc → pf k9 = some (pa k9) ∧ wd_at w128 (pa k9) (.inr (3, [.int (plv k9), .int (pwo k9), .int (phd k9), .int (pgd k9), .int (pdy k9), .int (pno k9), .int (ptp k9)])) ∧ tg (pa k9) = 3000 + k9 := fun k9 hi9 => ⟨(fm121 k9 hi9).1, kq132.2 _ _ (fm121 k9 hi9).2.1 (orN (tg_ne (fm121 k9 hi9).2.2 tI11 (tnA (show 11 < 3000 by decide))) (tg_ne (fm121 k9 hi9).2.2 tI12 (tnA (show 12 < 3000 by decide)))), (fm121 k9 hi9).2.2⟩
    have fm161 : ∀ k9, k9 < ac → af k9 = some (ad k9) ∧ wd_at w128 (ad k9) (.inr (0, [.int (av0 k9), .int (av1 k9), .int (av2 k9), .int (av3 k9)])) ∧ tg (ad k9) = 4000 + k9 := fun k9 hi9 => ⟨(fm122 k9 hi9).1, kq132.2 _ _ (fm122 k9 hi9).2.1 (orN (tg_ne (fm122 k9 hi9).2.2 tI11 (tnA (show 11 < 4000 by decide))) (tg_ne (fm122 k9 hi9).2.2 tI12 (tnA (show 12 < 4000 by decide)))), (fm122 k9 hi9).2.2⟩
    have fm162 : ∀ k9, k9 < sc → zf k9 = some (so k9) ∧ wd_at w128 (so k9) (.inr (6, [.int (sp0 k9), .int (sp1 k9), .ref (sr k9)])) ∧ tg (so k9) = 5000 + k9 ∧ wd_at w128 (sr k9) (.inl (cy 2, 12, .inl (sd k9))) ∧ tg (sr k9) = 6000 + k9 := fun k9 hi9 => ⟨(fm123 k9 hi9).1, kq132.2 _ _ (fm123 k9 hi9).2.1 (orN (tg_ne (fm123 k9 hi9).2.2.1 tI11 (tnA (show 11 < 5000 by decide))) (tg_ne (fm123 k9 hi9).2.2.1 tI12 (tnA (show 12 < 5000 by decide)))), (fm123 k9 hi9).2.2.1, kq132.2 _ _ (fm123 k9 hi9).2.2.2.1 (orN (tg_ne (fm123 k9 hi9).2.2.2.2 tI11 (tnA (show 11 < 6000 by decide))) (tg_ne (fm123 k9 hi9).2.2.2.2 tI12 (tnA (show 12 < 6000 by decide)))), (fm123 k9 hi9).2.2.2.2⟩
    have fm163 : ∀ k9, k9 < sh → (hf k9 = some (sw k9) ∧ hto k9 < 12) ∧ wd_at w128 (sw k9) (.inr (5, [.int (nI (hto k9)), .int (hpp k9), .int (hle k9), .int (ham k9), .int (hhh k9), .int (hdd k9), .int (hru k9), .int (hde k9), .int (hcp k9), .int (hld k9)])) ∧ tg (sw k9) = 7000 + k9 := fun k9 hi9 => ⟨(fm124 k9 hi9).1, kq132.2 _ _ (fm124 k9 hi9).2.1 (orN (tg_ne (fm124 k9 hi9).2.2 tI11 (tnA (show 11 < 7000 by decide))) (tg_ne (fm124 k9 hi9).2.2 tI12 (tnA (show 12 < 7000 by decide)))), (fm124 k9 hi9).2.2⟩
    have kp164 := kp125.tr kq132 (fun b9 hm q9 => (fun q9 => Or.elim q9 (fun q9 => q9 ▸ (tgS tI11 (by decide))) (fun q9 => q9 ▸ (tgS tI12 (by decide)))) q9)
    refine W.eq (g2 := F0 m 47 ls []) rfl (W.widen (k := 0) (n := 0) (Nat.le_of_ble_eq_true rfl) (Nat.le_of_ble_eq_true rfl) ?_)
    refine lv_aload_n hx hb dX10_feed_47 rfl (lv_at hl 0 rfl) ?_
    refine x_get (ref := "NoteHouse") F hP k133 rfl (fun _ h => List.mem_cons_of_mem _ (List.mem_append_left _ (List.mem_append_right _ (h)))) 6 (Nat.le_of_ble_eq_true rfl) (List.mem_cons_of_mem _ (List.mem_append_left _ (List.mem_append_left _ (List.mem_of_getElem? (i := 0) rfl)))) rfl rfl dX10_feed_48 ?_
    refine lv_iload hx hb dX10_feed_51 (lv_at hl 5 rfl) ?_
    refine x_callV (n := 1) (As := [.int x5]) (rest := []) F hP hD hS (g_append l D cy sk sv w128 a6 tb ((((ln + 4) + 4) + 4) + 4) ta x5 gx129 k130 k131 (fun b => b = a6 ∨ b = tb) (Or.inl rfl) (Or.inr rfl) (by omega)) gX10_feed_X7_append rfl rfl (by decide +kernel) ⟨(Nat.le_of_ble_eq_true rfl), (Nat.le_of_ble_eq_true rfl)⟩ rfl hl.1 (Nat.le_of_ble_eq_true rfl) k130 rfl dX10_feed_53 rfl ⟨(Nat.le_of_ble_eq_true rfl), (Nat.le_of_ble_eq_true rfl)⟩ (fun v166 w167 hp165 H locs hP hD hS => ?_)
    obtain ⟨gx168, rfl, kq171, k169, k170⟩ := hp165
    have k172 := kq171.2 _ _ k133 (orN (tg_ne tI0 tI11 (by decide)) (tg_ne tI0 tI12 (by decide)))
    have k173 := kq171.2 _ _ k134 (orN (tg_ne tI1 tI11 (by decide)) (tg_ne tI1 tI12 (by decide)))
    have k174 := kq171.2 _ _ k135 (orN (tg_ne tI2 tI11 (by decide)) (tg_ne tI2 tI12 (by decide)))
    have k175 := kq171.2 _ _ k136 (orN (tg_ne tI3 tI11 (by decide)) (tg_ne tI3 tI12 (by decide)))
    have k176 := kq171.2 _ _ k137 (orN (tg_ne tI4 tI11 (by decide)) (tg_ne tI4 tI12 (by decide)))
    have k177 := kq171.2 _ _ k138 (orN (tg_ne tI5 tI11 (by decide)) (tg_ne tI5 tI12 (by decide)))
    have k178 := kq171.2 _ _ k139 (orN (tg_ne tI6 tI11 (by decide)) (tg_ne tI6 tI12 (by decide)))
    have k179 := kq171.2 _ _ k140 (orN (tg_ne tI7 tI11 (by decide)) (tg_ne tI7 tI12 (by decide)))
    have k180 := kq171.2 _ _ k141 (orN (tg_ne tI8 tI11 (by decide)) (tg_ne tI8 tI12 (by decide)))
    have k181 := kq171.2 _ _ k142 (orN (tg_ne tI9 tI11 (by decide)) (tg_ne tI9 tI12 (by decide)))
    have k182 := kq171.2 _ _ k143 (orN (tg_ne tI10 tI11 (by decide)) (tg_ne tI10 tI12 (by decide)))
    have k183 := kq171.2 _ _ k144 (orN (tg_ne tI13 tI11 (by decide)) (tg_ne tI13 tI12 (by decide)))
    have k184 := kq171.2 _ _ k145 (orN (tg_ne tI14 tI11 (by decide)) (tg_ne tI14 tI12 (by decide)))
    have k185 := kq171.2 _ _ k146 (orN (tg_ne tI15 tI11 (by decide)) (tg_ne tI15 tI12 (by decide)))
    have k186 := kq171.2 _ _ k147 (orN (tg_ne tI16 tI11 (by decide)) (tg_ne tI16 tI12 (by decide)))
    have k187 := kq171.2 _ _ k148 (orN (tg_ne tI17 tI11 (by decide)) (tg_ne tI17 tI12 (by decide)))
    have k188 := kq171.2 _ _ k149 (orN (tg_ne tI18 tI11 (by decide)) (tg_ne tI18 tI12 (by decide)))
    have k189 := kq171.2 _ _ k150 (orN (tg_ne tI19 tI11 (by decide)) (tg_ne tI19 tI12 (by decide)))
    have k190 := kq171.2 _ _ k151 (orN (tg_ne tI20 tI11 (by decide)) (tg_ne tI20 tI12 (by decide)))
    have k191 := kq171.2 _ _ k152 (orN (tg_ne tI21 tI11 (by decide)) (tg_ne tI21 tI12 (by decide)))
    have k192 := kq171.2 _ _ k153 (orN (tg_ne tI22 tI11 (by decide)) (tg_ne tI22 tI12 (by decide)))
    have k193 := kq171.2 _ _ k154 (orN (tg_ne tI23 tI11 (tnA (show 11 < 30 by decide))) (tg_ne tI23 tI12 (tnA (show 12 < 30 by decide))))
    have k194 := kq171.2 _ _ k155 (orN (tg_ne tI24 tI11 (tnA (show 11 < 32 by decide))) (tg_ne tI24 tI12 (tnA (show 12 < 32 by decide))))
    have k195 := kq171.2 _ _ k156 (orN (tg_ne tI25 tI11 (tnA (show 11 < 30 by decide))) (tg_ne tI25 tI12 (tnA (show 12 < 30 by decide))))
    have k196 := kq171.2 _ _ k157 (orN (tg_ne tI26 tI11 (tnA (show 11 < 32 by decide))) (tg_ne tI26 tI12 (tnA (show 12 < 32 by decide))))
    have fm197 : ∀ i9, i9 < 12 → tf i9 = some (tn i9) ∧ wd_at w167 (tn i9) (.inr (8, [.int (co i9), .int (ra i9), .int (se i9), .ref (ag i9)])) ∧ tg (tn i9) = 100 + i9 := fun i9 hi9 => ⟨(fm158 i9 hi9).1, kq171.2 _ _ (fm158 i9 hi9).2.1 (orN (tg_ne (fm158 i9 hi9).2.2 tI11 (tnA (show 11 < 100 by decide))) (tg_ne (fm158 i9 hi9).2.2 tI12 (tnA (show 12 < 100 by decide)))), (fm158 i9 hi9).2.2⟩
    have fm198 : ∀ k9, k9 < 13 → (aOK (cf k9) (nf k9) ∧ ru k9 ≤ 12) ∧ wd_at w167 (aa k9) (.inr (1, [.ref (ga0 k9), .ref (ga1 k9), .ref (ga2 k9), .ref (ga3 k9), .ref (ga4 k9), .int (nI (ru k9))])) ∧ tg (aa k9) = 200 + k9 ∧ wd_at w167 (ga0 k9) (.inl (cy 2, 12, .inl (df k9))) ∧ tg (ga0 k9) = 220 + k9 ∧ wd_at w167 (ga1 k9) (.inl (cy 2, 12, .inl (cf k9))) ∧ tg (ga1 k9) = 240 + k9 ∧ wd_at w167 (ga2 k9) (.inl (cy 2, 72, .inl (nf k9))) ∧ tg (ga2 k9) = 260 + k9 ∧ wd_at w167 (ga3 k9) (.inl (cy 1, 72, .inl (sf k9))) ∧ tg (ga3 k9) = 280 + k9 ∧ wd_at w167 (ga4 k9) (.inl (cy 2, 72, .inl (uf k9))) ∧ tg (ga4 k9) = 300 + k9 := fun k9 hi9 => ⟨(fm159 k9 hi9).1, kq171.2 _ _ (fm159 k9 hi9).2.1 (orN (tg_ne (fm159 k9 hi9).2.2.1 tI11 (tnA (show 11 < 200 by decide))) (tg_ne (fm159 k9 hi9).2.2.1 tI12 (tnA (show 12 < 200 by decide)))), (fm159 k9 hi9).2.2.1, kq171.2 _ _ (fm159 k9 hi9).2.2.2.1 (orN (tg_ne (fm159 k9 hi9).2.2.2.2.1 tI11 (tnA (show 11 < 220 by decide))) (tg_ne (fm159 k9 hi9).2.2.2.2.1 tI12 (tnA (show 12 < 220 by decide)))), (fm159 k9 hi9).2.2.2.2.1, kq171.2 _ _ (fm159 k9 hi9).2.2.2.2.2.1 (orN (tg_ne (fm159 k9 hi9).2.2.2.2.2.2.1 tI11 (tnA (show 11 < 240 by decide))) (tg_ne (fm159 k9 hi9).2.2.2.2.2.2.1 tI12 (tnA (show 12 < 240 by decide)))), (fm159 k9 hi9).2.2.2.2.2.2.1, kq171.2 _ _ (fm159 k9 hi9).2.2.2.2.2.2.2.1 (orN (tg_ne (fm159 k9 hi9).2.2.2.2.2.2.2.2.1 tI11 (tnA (show 11 < 260 by decide))) (tg_ne (fm159 k9 hi9).2.2.2.2.2.2.2.2.1 tI12 (tnA (show 12 < 260 by decide)))), (fm159 k9 hi9).2.2.2.2.2.2.2.2.1, kq171.2 _ _ (fm159 k9 hi9).2.2.2.2.2.2.2.2.2.1 (orN (tg_ne (fm159 k9 hi9).2.2.2.2.2.2.2.2.2.2.1 tI11 (tnA (show 11 < 280 by decide))) (tg_ne (fm159 k9 hi9).2.2.2.2.2.2.2.2.2.2.1 tI12 (tnA (show 12 < 280 by decide)))), (fm159 k9 hi9).2.2.2.2.2.2.2.2.2.2.1, kq171.2 _ _ (fm159 k9 hi9).2.2.2.2.2.2.2.2.2.2.2.1 (orN (tg_ne (fm159 k9 hi9).2.2.2.2.2.2.2.2.2.2.2.2 tI11 (tnA (show 11 < 300 by decide))) (tg_ne (fm159 k9 hi9).2.2.2.2.2.2.2.2.2.2.2.2 tI12 (tnA (show 12 < 300 by decide)))), (fm159 k9 hi9).2.2.2.2.2.2.2.2.2.2.2.2⟩
    have fm199 : ∀ k9, k9 < pc → pf k9 = some (pa k9) ∧ wd_at w167 (pa k9) (.inr (3, [.int (plv k9), .int (pwo k9), .int (phd k9), .int (pgd k9), .int (pdy k9), .int (pno k9), .int (ptp k9)])) ∧ tg (pa k9) = 3000 + k9 := fun k9 hi9 => ⟨(fm160 k9 hi9).1, kq171.2 _ _ (fm160 k9 hi9).2.1 (orN (tg_ne (fm160 k9 hi9).2.2 tI11 (tnA (show 11 < 3000 by decide))) (tg_ne (fm160 k9 hi9).2.2 tI12 (tnA (show 12 < 3000 by decide)))), (fm160 k9 hi9).2.2⟩
    have fm200 : ∀ k9, k9 < ac → af k9 = some (ad k9) ∧ wd_at w167 (ad k9) (.inr (0, [.int (av0 k9), .int (av1 k9), .int (av2 k9), .int (av3 k9)])) ∧ tg (ad k9) = 4000 + k9 := fun k9 hi9 => ⟨(fm161 k9 hi9).1, kq171.2 _ _ (fm161 k9 hi9).2.1 (orN (tg_ne (fm161 k9 hi9).2.2 tI11 (tnA (show 11 < 4000 by decide))) (tg_ne (fm161 k9 hi9).2.2 tI12 (tnA (show 12 < 4000 by decide)))), (fm161 k9 hi9).2.2⟩
    have fm201 : ∀ k9, k9 < sc → zf k9 = some (so k9) ∧ wd_at w167 (so k9) (.inr (6, [.int (sp0 k9), .int (sp1 k9), .ref (sr k9)])) ∧ tg (so k9) = 5000 + k9 ∧ wd_at w167 (sr k9) (.inl (cy 2, 12, .inl (sd k9))) ∧ tg (sr k9) = 6000 + k9 := fun k9 hi9 => ⟨(fm162 k9 hi9).1, kq171.2 _ _ (fm162 k9 hi9).2.1 (orN (tg_ne (fm162 k9 hi9).2.2.1 tI11 (tnA (show 11 < 5000 by decide))) (tg_ne (fm162 k9 hi9).2.2.1 tI12 (tnA (show 12 < 5000 by decide)))), (fm162 k9 hi9).2.2.1, kq171.2 _ _ (fm162 k9 hi9).2.2.2.1 (orN (tg_ne (fm162 k9 hi9).2.2.2.2 tI11 (tnA (show 11 < 6000 by decide))) (tg_ne (fm162 k9 hi9).2.2.2.2 tI12 (tnA (show 12 < 6000 by decide)))), (fm162 k9 hi9).2.2.2.2⟩
    have fm202 : ∀ k9, k9 < sh → (hf k9 = some (sw k9) ∧ hto k9 < 12) ∧ wd_at w167 (sw k9) (.inr (5, [.int (nI (hto k9)), .int (hpp k9), .int (hle k9), .int (ham k9), .int (hhh k9), .int (hdd k9), .int (hru k9), .int (hde k9), .int (hcp k9), .int (hld k9)])) ∧ tg (sw k9) = 7000 + k9 := fun k9 hi9 => ⟨(fm163 k9 hi9).1, kq171.2 _ _ (fm163 k9 hi9).2.1 (orN (tg_ne (fm163 k9 hi9).2.2 tI11 (tnA (show 11 < 7000 by decide))) (tg_ne (fm163 k9 hi9).2.2 tI12 (tnA (show 12 < 7000 by decide)))), (fm163 k9 hi9).2.2⟩
    have kp203 := kp164.tr kq171 (fun b9 hm q9 => (fun q9 => Or.elim q9 (fun q9 => q9 ▸ (tgS tI11 (by decide))) (fun q9 => q9 ▸ (tgS tI12 (by decide)))) q9)
    refine W.eq (g2 := F0 m 56 ls []) rfl (W.widen (k := 0) (n := 0) (Nat.le_of_ble_eq_true rfl) (Nat.le_of_ble_eq_true rfl) ?_)
    refine lv_aload_n hx hb dX10_feed_56 rfl (lv_at hl 0 rfl) ?_
    refine x_get (ref := "NoteHouse") F hP k172 rfl (fun _ h => List.mem_cons_of_mem _ (List.mem_append_left _ (List.mem_append_right _ (h)))) 6 (Nat.le_of_ble_eq_true rfl) (List.mem_cons_of_mem _ (List.mem_append_left _ (List.mem_append_left _ (List.mem_of_getElem? (i := 0) rfl)))) rfl rfl dX10_feed_57 ?_
    refine x_get (ref := "NoteHouse$Tape") F hP k169 rfl (fun _ h => List.mem_cons_of_mem _ (List.mem_append_right _ (h))) 1 (Nat.le_of_ble_eq_true rfl) (List.mem_cons_of_mem _ (List.mem_append_left _ (List.mem_append_left _ (List.mem_of_getElem? (i := 1) rfl)))) rfl rfl dX10_feed_60 ?_
    have hX205 : IX cy tg x td pc ac sc (((((ln + 4) + 4) + 4) + 4) + 4) se plv w167 := IX.mk a0 a1 a2 a3 a4 a5 a6 a7 a8 a10 a11 b0 b1 b2 b3 tb l0 l1 l2 l3 l4 l5 l6 l7 bl bm sh gc sg lu lv9 f0 f1 f2 f3 gx168 e0 e1 e4 e5 e7 ff bf bf2 e2 e3 e6 ta sz fo to fo2 to2 tf tn ag co ra aa ru ga0 ga1 ga2 ga3 ga4 df cf nf sf uf pf pa pwo phd pgd pdy pno ptp af ad av0 av1 av2 av3 zf so sr sp0 sp1 sd hf sw hto hpp hle ham hhh hdd hru hde hcp hld (by omega) (by omega) (by omega) (by omega) (by omega) (by omega) (by omega) (by omega) hag k172 tI0 k173 tI1 k174 tI2 k175 tI3 k176 tI4 k177 tI5 k178 tI6 k179 tI7 k180 tI8 k181 tI9 k182 tI10 k169 tI11 k170 tI12 k183 tI13 k184 tI14 k185 tI15 k186 tI16 k187 tI17 k188 tI18 k189 tI19 k190 tI20 k191 tI21 k192 tI22 k193 tI23 k194 tI24 k195 tI25 k196 tI26 fm197 fm198 fm199 fm200 fm201 fm202
    exact y_ir K hP hD hS (Nat.le_of_ble_eq_true rfl) (Nat.le_of_ble_eq_true rfl) (ty := .int) rfl rfl dX10_feed_63 (by refine ⟨(congrArg (fun z => some (Value.int z)) (show nI (((((ln + 4) + 4) + 4) + 4) + 4) = feedA ln from by simp [feedA, feedC, c_8, hrm])), ?_⟩; rw [show feedC ln = (((((ln + 4) + 4) + 4) + 4) + 4) from by simp [feedA, feedC, c_8, hrm]]; exact ⟨tg, (fun _ _ => rfl), kp203, hX205⟩)
  · have hrm := hz6 c_8
    refine lv_iconst (v := (-1)) hx hb dX10_feed_12 (by decide) ?_
    exact y_ir K hP hD hS (Nat.le_of_ble_eq_true rfl) (Nat.le_of_ble_eq_true rfl) (ty := .int) rfl rfl dX10_feed_13 (by refine ⟨(congrArg (fun z => some (Value.int z)) (show (-1) = feedA ln from by simp [feedA, feedC, c_8, hrm])), ?_⟩; rw [show feedC ln = ln from by simp [feedA, feedC, c_8, hrm]]; exact ⟨tg, fun _ _ => rfl, wd_kp.rf, hIX0⟩)
set_option maxHeartbeats 4000000 in
set_option maxRecDepth 100000 in
theorem X_end (l : Launch) (D : va_G) (cy : Nat → ClassId) (sk sv : Nat → Nat) (w : Wd) (tg : Nat → Nat) (x : Nat) (td : Int32) (pc ac sc ln : Nat) (se plv : Nat → Int32) (x1 : Int32) (hIX0 : IX cy tg x td pc ac sc ln se plv w) : Ct l D cy sk sv yX10_end wsX10_end ({ frames := 0, cells := 0, slots := 0, locals := 0 }) [.ref x, .int x1] w (fun v w1 => v = some (.int (endA ln x1)) ∧ XP cy tg x td pc ac sc (endC ln x1) se plv w w1) := by
  refine Ct.by (cc := cX10_end) (maxL := 2) (ret := (some .int)) (by decide +kernel) rfl (Nat.le_of_ble_eq_true rfl) ?_
  intro p e s m args below meth c A Q F hnm K ls hl
  have F : wd_Fx p s m args meth c cX10_end 2 wsX10_end RX10 D cy sk sv A := F
  have hl : lv_has ls 2 [(0, .ref x), (1, .int x1)] := hl
  have hx := F.1.1
  have hb := F.1.2.1
  have hown := F.1.2.2.2.1
  have hts := F.1.2.2.2.2
  intro H locs hP hD hS
  have kp0 : wd_kp (fun b => tg b < 10000) w w := wd_kp.rf
  refine hIX0 _ ?_
  intro a0 a1 a2 a3 a4 a5 a6 a7 a8 a10 a11 b0 b1 b2 b3 tb l0 l1 l2 l3 l4 l5 l6 l7 bl bm sh gc sg lu lv9 f0 f1 f2 f3 tbf e0 e1 e4 e5 e7 ff bf bf2 e2 e3 e6 ta sz fo to fo2 to2 tf tn ag co ra aa ru ga0 ga1 ga2 ga3 ga4 df cf nf sf uf pf pa pwo phd pgd pdy pno ptp af ad av0 av1 av2 av3 zf so sr sp0 sp1 sd hf sw hto hpp hle ham hhh hdd hru hde hcp hld hp90 hp91 hp92 hp93 hp94 hp95 hp96 hp97 hag kI0 tI0 kI1 tI1 kI2 tI2 kI3 tI3 kI4 tI4 kI5 tI5 kI6 tI6 kI7 tI7 kI8 tI8 kI9 tI9 kI10 tI10 kI11 tI11 kI12 tI12 kI13 tI13 kI14 tI14 kI15 tI15 kI16 tI16 kI17 tI17 kI18 tI18 kI19 tI19 kI20 tI20 kI21 tI21 kI22 tI22 kI23 tI23 kI24 tI24 kI25 tI25 kI26 tI26 hT9 hG9 hP9 hA9 hS9 hH9
  have hlu : lu < 2 := by omega
  have hlv : lv9 < 2 := by omega
  refine lv_iload_n hx hb dX10_end_0 rfl (lv_at hl 1 rfl) ?_
  refine lv_if_lt (tgt := 15) hx hb dX10_end_1 (by decide) (fun cA => ?_) (fun cA => ?_)
  · refine lv_iconst (v := (-1)) hx hb dX10_end_15 (by decide) ?_
    exact y_ir K hP hD hS (Nat.le_of_ble_eq_true rfl) (Nat.le_of_ble_eq_true rfl) (ty := .int) rfl rfl dX10_end_16 (by refine ⟨(congrArg (fun z => some (Value.int z)) (show (-1) = endA ln x1 from by simp [endA, endC, cA])), ?_⟩; rw [show endC ln x1 = ln from by simp [endA, endC, cA]]; exact ⟨tg, fun _ _ => rfl, wd_kp.rf, hIX0⟩)
  · refine lv_iload_n hx hb dX10_end_4 rfl (lv_at hl 1 rfl) ?_
    refine lv_aload_n hx hb dX10_end_5 rfl (lv_at hl 0 rfl) ?_
    refine x_get (ref := "NoteHouse") F hP kI0 rfl (fun _ h => List.mem_cons_of_mem _ (List.mem_append_left _ (List.mem_append_right _ (h)))) 6 (Nat.le_of_ble_eq_true rfl) (List.mem_cons_of_mem _ (List.mem_append_left _ (List.mem_append_left _ (List.mem_of_getElem? (i := 0) rfl)))) rfl rfl dX10_end_6 ?_
    refine x_get (ref := "NoteHouse$Tape") F hP kI11 rfl (fun _ h => List.mem_cons_of_mem _ (List.mem_append_right _ (h))) 1 (Nat.le_of_ble_eq_true rfl) (List.mem_cons_of_mem _ (List.mem_append_left _ (List.mem_append_left _ (List.mem_of_getElem? (i := 1) rfl)))) rfl rfl dX10_end_9 ?_
    refine lv_icmp_le (tgt := 17) hx hb dX10_end_12 (by decide) (fun c_1 => ?_) (fun c_1 => ?_)
    · obtain ⟨j, hj, rfl⟩ := nI_of cA
      have hjl : j ≤ ln := (nI_leI (by omega) (by omega)).mp c_1
      have clj : (nI j).toNatClampNeg = j := nI_clamp (by omega)
      refine lv_aload_n hx hb dX10_end_17 rfl (lv_at hl 0 rfl) ?_
      refine x_get (ref := "NoteHouse") F hP kI0 rfl (fun _ h => List.mem_cons_of_mem _ (List.mem_append_left _ (List.mem_append_right _ (h)))) 6 (Nat.le_of_ble_eq_true rfl) (List.mem_cons_of_mem _ (List.mem_append_left _ (List.mem_append_left _ (List.mem_of_getElem? (i := 0) rfl)))) rfl rfl dX10_end_18 ?_
      refine lv_iload_n hx hb dX10_end_21 rfl (lv_at hl 1 rfl) ?_
      refine y_put (ref := "NoteHouse$Tape") F hP hD hS kI11 rfl (fun _ h => List.mem_cons_of_mem _ (List.mem_append_right _ (h))) tyX7_ok nmX7 1 (Nat.le_of_ble_eq_true rfl) (List.mem_cons_of_mem _ (List.mem_append_left _ (List.mem_append_left _ (List.mem_of_getElem? (i := 1) rfl)))) rfl rfl rfl rfl (Nat.le_of_ble_eq_true rfl) dX10_end_22 (fun w2 ew3 H locs hP hD hS => ?_)
      have k4 := wd_at.pt ew3 kI0 (tg_ne tI0 tI11 (by decide))
      have k5 := wd_at.pt ew3 kI1 (tg_ne tI1 tI11 (by decide))
      have k6 := wd_at.pt ew3 kI2 (tg_ne tI2 tI11 (by decide))
      have k7 := wd_at.pt ew3 kI3 (tg_ne tI3 tI11 (by decide))
      have k8 := wd_at.pt ew3 kI4 (tg_ne tI4 tI11 (by decide))
      have k9 := wd_at.pt ew3 kI5 (tg_ne tI5 tI11 (by decide))
      have k10 := wd_at.pt ew3 kI6 (tg_ne tI6 tI11 (by decide))
      have k11 := wd_at.pt ew3 kI7 (tg_ne tI7 tI11 (by decide))
      have k12 := wd_at.pt ew3 kI8 (tg_ne tI8 tI11 (by decide))
      have k13 := wd_at.pt ew3 kI9 (tg_ne tI9 tI11 (by decide))
      have k14 := wd_at.pt ew3 kI10 (tg_ne tI10 tI11 (by decide))
      have k15 : wd_at w2 a6 (.inr (7, [.ref tb, .int (nI j), .int ta])) := wd_at.ps ew3 kI11
      have k16 := wd_at.pt ew3 kI12 (tg_ne tI12 tI11 (by decide))
      have k17 := wd_at.pt ew3 kI13 (tg_ne tI13 tI11 (by decide))
      have k18 := wd_at.pt ew3 kI14 (tg_ne tI14 tI11 (by decide))
      have k19 := wd_at.pt ew3 kI15 (tg_ne tI15 tI11 (by decide))
      have k20 := wd_at.pt ew3 kI16 (tg_ne tI16 tI11 (by decide))
      have k21 := wd_at.pt ew3 kI17 (tg_ne tI17 tI11 (by decide))
      have k22 := wd_at.pt ew3 kI18 (tg_ne tI18 tI11 (by decide))
      have k23 := wd_at.pt ew3 kI19 (tg_ne tI19 tI11 (by decide))
      have k24 := wd_at.pt ew3 kI20 (tg_ne tI20 tI11 (by decide))
      have k25 := wd_at.pt ew3 kI21 (tg_ne tI21 tI11 (by decide))
      have k26 := wd_at.pt ew3 kI22 (tg_ne tI22 tI11 (by decide))
      have k27 := wd_at.pt ew3 kI23 (tg_ne tI23 tI11 (tnA (show 11 < 30 by decide)))
      have k28 := wd_at.pt ew3 kI24 (tg_ne tI24 tI11 (tnA (show 11 < 32 by decide)))
      have k29 := wd_at.pt ew3 kI25 (tg_ne tI25 tI11 (tnA (show 11 < 30 by decide)))
      have k30 := wd_at.pt ew3 kI26 (tg_ne tI26 tI11 (tnA (show 11 < 32 by decide)))
      have fm31 : ∀ i9, i9 < 12 → tf i9 = some (tn i9) ∧ wd_at w2 (tn i9) (.inr (8, [.int (co i9), .int (ra i9), .int (se i9), .ref (ag i9)])) ∧ tg (tn i9) = 100 + i9 := fun i9 hi9 => ⟨(hT9 i9 hi9).1, wd_at.pt ew3 (hT9 i9 hi9).2.1 (tg_ne (hT9 i9 hi9).2.2 tI11 (tnA (show 11 < 100 by decide))), (hT9 i9 hi9).2.2⟩
      have fm32 : ∀ k9, k9 < 13 → (aOK (cf k9) (nf k9) ∧ ru k9 ≤ 12) ∧ wd_at w2 (aa k9) (.inr (1, [.ref (ga0 k9), .ref (ga1 k9), .ref (ga2 k9), .ref (ga3 k9), .ref (ga4 k9), .int (nI (ru k9))])) ∧ tg (aa k9) = 200 + k9 ∧ wd_at w2 (ga0 k9) (.inl (cy 2, 12, .inl (df k9))) ∧ tg (ga0 k9) = 220 + k9 ∧ wd_at w2 (ga1 k9) (.inl (cy 2, 12, .inl (cf k9))) ∧ tg (ga1 k9) = 240 + k9 ∧ wd_at w2 (ga2 k9) (.inl (cy 2, 72, .inl (nf k9))) ∧ tg (ga2 k9) = 260 + k9 ∧ wd_at w2 (ga3 k9) (.inl (cy 1, 72, .inl (sf k9))) ∧ tg (ga3 k9) = 280 + k9 ∧ wd_at w2 (ga4 k9) (.inl (cy 2, 72, .inl (uf k9))) ∧ tg (ga4 k9) = 300 + k9 := fun k9 hi9 => ⟨(hG9 k9 hi9).1, wd_at.pt ew3 (hG9 k9 hi9).2.1 (tg_ne (hG9 k9 hi9).2.2.1 tI11 (tnA (show 11 < 200 by decide))), (hG9 k9 hi9).2.2.1, wd_at.pt ew3 (hG9 k9 hi9).2.2.2.1 (tg_ne (hG9 k9 hi9).2.2.2.2.1 tI11 (tnA (show 11 < 220 by decide))), (hG9 k9 hi9).2.2.2.2.1, wd_at.pt ew3 (hG9 k9 hi9).2.2.2.2.2.1 (tg_ne (hG9 k9 hi9).2.2.2.2.2.2.1 tI11 (tnA (show 11 < 240 by decide))), (hG9 k9 hi9).2.2.2.2.2.2.1, wd_at.pt ew3 (hG9 k9 hi9).2.2.2.2.2.2.2.1 (tg_ne (hG9 k9 hi9).2.2.2.2.2.2.2.2.1 tI11 (tnA (show 11 < 260 by decide))), (hG9 k9 hi9).2.2.2.2.2.2.2.2.1, wd_at.pt ew3 (hG9 k9 hi9).2.2.2.2.2.2.2.2.2.1 (tg_ne (hG9 k9 hi9).2.2.2.2.2.2.2.2.2.2.1 tI11 (tnA (show 11 < 280 by decide))), (hG9 k9 hi9).2.2.2.2.2.2.2.2.2.2.1, wd_at.pt ew3 (hG9 k9 hi9).2.2.2.2.2.2.2.2.2.2.2.1 (tg_ne (hG9 k9 hi9).2.2.2.2.2.2.2.2.2.2.2.2 tI11 (tnA (show 11 < 300 by decide))), (hG9 k9 hi9).2.2.2.2.2.2.2.2.2.2.2.2⟩
      have fm33 : ∀ k9, k9 < pc → pf k9 = some (pa k9) ∧ wd_at w2 (pa k9) (.inr (3, [.int (plv k9), .int (pwo k9), .int (phd k9), .int (pgd k9), .int (pdy k9), .int (pno k9), .int (ptp k9)])) ∧ tg (pa k9) = 3000 + k9 := fun k9 hi9 => ⟨(hP9 k9 hi9).1, wd_at.pt ew3 (hP9 k9 hi9).2.1 (tg_ne (hP9 k9 hi9).2.2 tI11 (tnA (show 11 < 3000 by decide))), (hP9 k9 hi9).2.2⟩
      have fm34 : ∀ k9, k9 < ac → af k9 = some (ad k9) ∧ wd_at w2 (ad k9) (.inr (0, [.int (av0 k9), .int (av1 k9), .int (av2 k9), .int (av3 k9)])) ∧ tg (ad k9) = 4000 + k9 := fun k9 hi9 => ⟨(hA9 k9 hi9).1, wd_at.pt ew3 (hA9 k9 hi9).2.1 (tg_ne (hA9 k9 hi9).2.2 tI11 (tnA (show 11 < 4000 by decide))), (hA9 k9 hi9).2.2⟩
      have fm35 : ∀ k9, k9 < sc → zf k9 = some (so k9) ∧ wd_at w2 (so k9) (.inr (6, [.int (sp0 k9), .int (sp1 k9), .ref (sr k9)])) ∧ tg (so k9) = 5000 + k9 ∧ wd_at w2 (sr k9) (.inl (cy 2, 12, .inl (sd k9))) ∧ tg (sr k9) = 6000 + k9 := fun k9 hi9 => ⟨(hS9 k9 hi9).1, wd_at.pt ew3 (hS9 k9 hi9).2.1 (tg_ne (hS9 k9 hi9).2.2.1 tI11 (tnA (show 11 < 5000 by decide))), (hS9 k9 hi9).2.2.1, wd_at.pt ew3 (hS9 k9 hi9).2.2.2.1 (tg_ne (hS9 k9 hi9).2.2.2.2 tI11 (tnA (show 11 < 6000 by decide))), (hS9 k9 hi9).2.2.2.2⟩
      have fm36 : ∀ k9, k9 < sh → (hf k9 = some (sw k9) ∧ hto k9 < 12) ∧ wd_at w2 (sw k9) (.inr (5, [.int (nI (hto k9)), .int (hpp k9), .int (hle k9), .int (ham k9), .int (hhh k9), .int (hdd k9), .int (hru k9), .int (hde k9), .int (hcp k9), .int (hld k9)])) ∧ tg (sw k9) = 7000 + k9 := fun k9 hi9 => ⟨(hH9 k9 hi9).1, wd_at.pt ew3 (hH9 k9 hi9).2.1 (tg_ne (hH9 k9 hi9).2.2 tI11 (tnA (show 11 < 7000 by decide))), (hH9 k9 hi9).2.2⟩
      have kp37 := kp0.put ew3 (tgS tI11 (by decide))
      refine lv_iload_n hx hb dX10_end_25 rfl (lv_at hl 1 rfl) ?_
      have hX39 : IX cy tg x td pc ac sc j se plv w2 := IX.mk a0 a1 a2 a3 a4 a5 a6 a7 a8 a10 a11 b0 b1 b2 b3 tb l0 l1 l2 l3 l4 l5 l6 l7 bl bm sh gc sg lu lv9 f0 f1 f2 f3 tbf e0 e1 e4 e5 e7 ff bf bf2 e2 e3 e6 ta sz fo to fo2 to2 tf tn ag co ra aa ru ga0 ga1 ga2 ga3 ga4 df cf nf sf uf pf pa pwo phd pgd pdy pno ptp af ad av0 av1 av2 av3 zf so sr sp0 sp1 sd hf sw hto hpp hle ham hhh hdd hru hde hcp hld (by omega) (by omega) (by omega) (by omega) (by omega) (by omega) (by omega) (by omega) hag k4 tI0 k5 tI1 k6 tI2 k7 tI3 k8 tI4 k9 tI5 k10 tI6 k11 tI7 k12 tI8 k13 tI9 k14 tI10 k15 tI11 k16 tI12 k17 tI13 k18 tI14 k19 tI15 k20 tI16 k21 tI17 k22 tI18 k23 tI19 k24 tI20 k25 tI21 k26 tI22 k27 tI23 k28 tI24 k29 tI25 k30 tI26 fm31 fm32 fm33 fm34 fm35 fm36
      exact y_ir K hP hD hS (Nat.le_of_ble_eq_true rfl) (Nat.le_of_ble_eq_true rfl) (ty := .int) rfl rfl dX10_end_26 (by refine ⟨(congrArg (fun z => some (Value.int z)) (show (nI j) = endA ln (nI j) from by simp [endA, endC, cA, c_1, clj])), ?_⟩; rw [show endC ln (nI j) = j from by simp [endA, endC, cA, c_1, clj]]; exact ⟨tg, (fun _ _ => rfl), kp37, hX39⟩)
    · refine lv_iconst (v := (-1)) hx hb dX10_end_15 (by decide) ?_
      exact y_ir K hP hD hS (Nat.le_of_ble_eq_true rfl) (Nat.le_of_ble_eq_true rfl) (ty := .int) rfl rfl dX10_end_16 (by refine ⟨(congrArg (fun z => some (Value.int z)) (show (-1) = endA ln x1 from by simp [endA, endC, cA, c_1])), ?_⟩; rw [show endC ln x1 = ln from by simp [endA, endC, cA, c_1]]; exact ⟨tg, fun _ _ => rfl, wd_kp.rf, hIX0⟩)
set_option maxHeartbeats 4000000 in
set_option maxRecDepth 100000 in
theorem X_send (l : Launch) (D : va_G) (cy : Nat → ClassId) (sk sv : Nat → Nat) (w : Wd) (tg : Nat → Nat) (x : Nat) (td : Int32) (pc ac sc ln : Nat) (se plv : Nat → Int32) (x1 x2 : Int32) (hIX0 : IX cy tg x td pc ac sc ln se plv w) : Ct l D cy sk sv yX10_send wsX10_send ({ frames := 2, cells := 0, slots := 0, locals := 42 }) [.ref x, .int x1, .int x2] w (fun v w1 => v = some (.int (sndA se x1 x2)) ∧ XP cy tg x td pc ac sc ln (sndS se x1 x2) plv w w1) := by
  refine Ct.by (cc := cX10_send) (maxL := 3) (ret := (some .int)) (by decide +kernel) rfl (Nat.le_of_ble_eq_true rfl) ?_
  intro p e s m args below meth c A Q F hnm K ls hl
  have F : wd_Fx p s m args meth c cX10_send 3 wsX10_send RX10 D cy sk sv A := F
  have hl : lv_has ls 3 [(0, .ref x), (1, .int x1), (2, .int x2)] := hl
  have hx := F.1.1
  have hb := F.1.2.1
  have hown := F.1.2.2.2.1
  have hts := F.1.2.2.2.2
  intro H locs hP hD hS
  have kp0 : wd_kp (fun b => tg b < 10000) w w := wd_kp.rf
  refine hIX0 _ ?_
  intro a0 a1 a2 a3 a4 a5 a6 a7 a8 a10 a11 b0 b1 b2 b3 tb l0 l1 l2 l3 l4 l5 l6 l7 bl bm sh gc sg lu lv9 f0 f1 f2 f3 tbf e0 e1 e4 e5 e7 ff bf bf2 e2 e3 e6 ta sz fo to fo2 to2 tf tn ag co ra aa ru ga0 ga1 ga2 ga3 ga4 df cf nf sf uf pf pa pwo phd pgd pdy pno ptp af ad av0 av1 av2 av3 zf so sr sp0 sp1 sd hf sw hto hpp hle ham hhh hdd hru hde hcp hld hp90 hp91 hp92 hp93 hp94 hp95 hp96 hp97 hag kI0 tI0 kI1 tI1 kI2 tI2 kI3 tI3 kI4 tI4 kI5 tI5 kI6 tI6 kI7 tI7 kI8 tI8 kI9 tI9 kI10 tI10 kI11 tI11 kI12 tI12 kI13 tI13 kI14 tI14 kI15 tI15 kI16 tI16 kI17 tI17 kI18 tI18 kI19 tI19 kI20 tI20 kI21 tI21 kI22 tI22 kI23 tI23 kI24 tI24 kI25 tI25 kI26 tI26 hT9 hG9 hP9 hA9 hS9 hH9
  have hlu : lu < 2 := by omega
  have hlv : lv9 < 2 := by omega
  refine lv_iload_n hx hb dX10_send_0 rfl (lv_at hl 1 rfl) ?_
  refine x_callS (n := 1) (As := [.int x1]) (rest := []) F hP hD hS (g_isTown l D cy sk sv w x1) gX10_send_X10_isTown rfl (by decide +kernel) ⟨(Nat.le_of_ble_eq_true rfl), (Nat.le_of_ble_eq_true rfl)⟩ rfl hl.1 (Nat.le_of_ble_eq_true rfl) dX10_send_1 rfl ⟨(Nat.le_of_ble_eq_true rfl), (Nat.le_of_ble_eq_true rfl)⟩ (fun v2 w3 hp1 H locs hP hD hS => ?_)
  obtain ⟨rfl, rfl⟩ := hp1
  refine W.eq (g2 := F0 m 4 ls [.int (wi x1 0 11)]) rfl (W.widen (k := 0) (n := 0) (Nat.le_of_ble_eq_true rfl) (Nat.le_of_ble_eq_true rfl) ?_)
  refine lv_if_eq (tgt := 21) hx hb dX10_send_4 (by decide) (fun c_4 => ?_) (fun c_4 => ?_)
  · refine lv_iconst (v := (-1)) hx hb dX10_send_21 (by decide) ?_
    exact y_ir K hP hD hS (Nat.le_of_ble_eq_true rfl) (Nat.le_of_ble_eq_true rfl) (ty := .int) rfl rfl dX10_send_22 (by refine ⟨(congrArg (fun z => some (Value.int z)) (show (-1) = sndA se x1 x2 from by simp [sndA, sndS, c_4])), ?_⟩; rw [show sndS se x1 x2 = se from by simp [sndA, sndS, c_4]]; exact ⟨tg, fun _ _ => rfl, wd_kp.rf, hIX0⟩)
  · obtain ⟨j, hj, rfl, clj⟩ := wi_t c_4
    refine lv_iload_n hx hb dX10_send_7 rfl (lv_at hl 1 rfl) ?_
    refine lv_if_eq (tgt := 21) hx hb dX10_send_8 (by decide) (fun c_5 => ?_) (fun c_5 => ?_)
    · refine lv_iconst (v := (-1)) hx hb dX10_send_21 (by decide) ?_
      exact y_ir K hP hD hS (Nat.le_of_ble_eq_true rfl) (Nat.le_of_ble_eq_true rfl) (ty := .int) rfl rfl dX10_send_22 (by refine ⟨(congrArg (fun z => some (Value.int z)) (show (-1) = sndA se (nI j) x2 from by simp [sndA, sndS, c_4, clj, c_5])), ?_⟩; rw [show sndS se (nI j) x2 = se from by simp [sndA, sndS, c_4, clj, c_5]]; exact ⟨tg, fun _ _ => rfl, wd_kp.rf, hIX0⟩)
    · refine lv_iload_n hx hb dX10_send_11 rfl (lv_at hl 2 rfl) ?_
      refine lv_iconst (v := 1) hx hb dX10_send_12 (by decide) ?_
      refine lv_ldc (v := 1000000) hx hb hown (hts _ (List.mem_cons_of_mem _ (List.mem_append_left _ (List.mem_append_left _ (List.mem_of_getElem? (i := 0) rfl))))) dX10_send_13 ?_
      refine x_callS (n := 3) (As := [.int x2, .int 1, .int 1000000]) (rest := []) F hP hD hS (g_isWithin l D cy sk sv w x2 1 1000000) gX10_send_X10_isWithin rfl (by decide +kernel) ⟨(Nat.le_of_ble_eq_true rfl), (Nat.le_of_ble_eq_true rfl)⟩ rfl hl.1 (Nat.le_of_ble_eq_true rfl) dX10_send_15 rfl ⟨(Nat.le_of_ble_eq_true rfl), (Nat.le_of_ble_eq_true rfl)⟩ (fun v7 w8 hp6 H locs hP hD hS => ?_)
      obtain ⟨rfl, rfl⟩ := hp6
      refine W.eq (g2 := F0 m 18 ls [.int (wi x2 1 1000000)]) rfl (W.widen (k := 0) (n := 0) (Nat.le_of_ble_eq_true rfl) (Nat.le_of_ble_eq_true rfl) ?_)
      refine lv_if_ne (tgt := 23) hx hb dX10_send_18 (by decide) (fun c_9 => ?_) (fun c_9 => ?_)
      · refine lv_aload_n hx hb dX10_send_23 rfl (lv_at hl 0 rfl) ?_
        refine x_get (ref := "NoteHouse") F hP kI0 rfl (fun _ h => List.mem_cons_of_mem _ (List.mem_append_left _ (List.mem_append_right _ (h)))) 1 (Nat.le_of_ble_eq_true rfl) (List.mem_cons_of_mem _ (List.mem_append_left _ (List.mem_append_left _ (List.mem_of_getElem? (i := 1) rfl)))) rfl rfl dX10_send_24 ?_
        refine lv_iload_n hx hb dX10_send_27 rfl (lv_at hl 1 rfl) ?_
        refine x_aald F hP kI6 rfl (vp_in_nI (n := j) (N := 12) (by omega) (by decide)) dX10_send_28 ?_
        have pr10 := (hT9 j (by omega)).1
        have k11 := (hT9 j (by omega)).2.1
        have tz12 := (hT9 j (by omega)).2.2
        rw [nI_clamp (n := j) (by omega), pr10]
        refine W.eq (g2 := F0 m _ ls [.ref (tn j)]) rfl ?_
        refine x_get (ref := "NoteHouse$Town") F hP k11 rfl (fun _ h => List.mem_cons_of_mem _ (List.mem_append_right _ (h))) 2 (Nat.le_of_ble_eq_true rfl) (List.mem_cons_of_mem _ (List.mem_append_left _ (List.mem_append_left _ (List.mem_of_getElem? (i := 2) rfl)))) rfl rfl dX10_send_29 ?_
        refine lv_ldc (v := 1000000000) hx hb hown (hts _ (List.mem_cons_of_mem _ (List.mem_append_left _ (List.mem_append_left _ (List.mem_of_getElem? (i := 3) rfl))))) dX10_send_32 ?_
        refine lv_iload_n hx hb dX10_send_34 rfl (lv_at hl 2 rfl) ?_
        refine lv_isub hx hb dX10_send_35 ?_
        refine lv_icmp_le (tgt := 41) hx hb dX10_send_36 (by decide) (fun c_13 => ?_) (fun c_13 => ?_)
        · refine lv_aload_n hx hb dX10_send_41 rfl (lv_at hl 0 rfl) ?_
          refine x_get (ref := "NoteHouse") F hP kI0 rfl (fun _ h => List.mem_cons_of_mem _ (List.mem_append_left _ (List.mem_append_right _ (h)))) 1 (Nat.le_of_ble_eq_true rfl) (List.mem_cons_of_mem _ (List.mem_append_left _ (List.mem_append_left _ (List.mem_of_getElem? (i := 1) rfl)))) rfl rfl dX10_send_42 ?_
          refine lv_iload_n hx hb dX10_send_45 rfl (lv_at hl 1 rfl) ?_
          refine x_aald F hP kI6 rfl (vp_in_nI (n := j) (N := 12) (by omega) (by decide)) dX10_send_46 ?_
          rw [nI_clamp (n := j) (by omega), pr10]
          refine W.eq (g2 := F0 m _ ls [.ref (tn j)]) rfl ?_
          refine lv_dup hx hb dX10_send_47 rfl ?_
          refine x_get (ref := "NoteHouse$Town") F hP k11 rfl (fun _ h => List.mem_cons_of_mem _ (List.mem_append_right _ (h))) 2 (Nat.le_of_ble_eq_true rfl) (List.mem_cons_of_mem _ (List.mem_append_left _ (List.mem_append_left _ (List.mem_of_getElem? (i := 2) rfl)))) rfl rfl dX10_send_48 ?_
          refine lv_iload_n hx hb dX10_send_51 rfl (lv_at hl 2 rfl) ?_
          refine lv_iadd hx hb dX10_send_52 ?_
          refine y_put (ref := "NoteHouse$Town") F hP hD hS k11 rfl (fun _ h => List.mem_cons_of_mem _ (List.mem_append_right _ (h))) tyX8_ok nmX8 2 (Nat.le_of_ble_eq_true rfl) (List.mem_cons_of_mem _ (List.mem_append_left _ (List.mem_append_left _ (List.mem_of_getElem? (i := 2) rfl)))) rfl rfl rfl rfl (Nat.le_of_ble_eq_true rfl) dX10_send_53 (fun w14 ew15 H locs hP hD hS => ?_)
          have fm16 : ∀ i9, i9 < 12 ∧ i9 ≠ j → tf i9 = some (tn i9) ∧ wd_at w (tn i9) (.inr (8, [.int (co i9), .int (ra i9), .int (se i9), .ref (ag i9)])) ∧ tg (tn i9) = 100 + i9 := fun i9 hi8 => hT9 i9 hi8.1
          have k17 := wd_at.pt ew15 kI0 (tg_ne tI0 tz12 (tnA2 (show 0 < 100 by decide)))
          have k18 := wd_at.pt ew15 kI1 (tg_ne tI1 tz12 (tnA2 (show 1 < 100 by decide)))
          have k19 := wd_at.pt ew15 kI2 (tg_ne tI2 tz12 (tnA2 (show 2 < 100 by decide)))
          have k20 := wd_at.pt ew15 kI3 (tg_ne tI3 tz12 (tnA2 (show 3 < 100 by decide)))
          have k21 := wd_at.pt ew15 kI4 (tg_ne tI4 tz12 (tnA2 (show 4 < 100 by decide)))
          have k22 := wd_at.pt ew15 kI5 (tg_ne tI5 tz12 (tnA2 (show 5 < 100 by decide)))
          have k23 := wd_at.pt ew15 kI6 (tg_ne tI6 tz12 (tnA2 (show 6 < 100 by decide)))
          have k24 := wd_at.pt ew15 kI7 (tg_ne tI7 tz12 (tnA2 (show 7 < 100 by decide)))
          have k25 := wd_at.pt ew15 kI8 (tg_ne tI8 tz12 (tnA2 (show 8 < 100 by decide)))
          have k26 := wd_at.pt ew15 kI9 (tg_ne tI9 tz12 (tnA2 (show 9 < 100 by decide)))
          have k27 := wd_at.pt ew15 kI10 (tg_ne tI10 tz12 (tnA2 (show 10 < 100 by decide)))
          have k28 := wd_at.pt ew15 kI11 (tg_ne tI11 tz12 (tnA2 (show 11 < 100 by decide)))
          have k29 := wd_at.pt ew15 kI12 (tg_ne tI12 tz12 (tnA2 (show 12 < 100 by decide)))
          have k30 := wd_at.pt ew15 kI13 (tg_ne tI13 tz12 (tnA2 (show 13 < 100 by decide)))
          have k31 := wd_at.pt ew15 kI14 (tg_ne tI14 tz12 (tnA2 (show 14 < 100 by decide)))
          have k32 := wd_at.pt ew15 kI15 (tg_ne tI15 tz12 (tnA2 (show 15 < 100 by decide)))
          have k33 := wd_at.pt ew15 kI16 (tg_ne tI16 tz12 (tnA2 (show 16 < 100 by decide)))
          have k34 := wd_at.pt ew15 kI17 (tg_ne tI17 tz12 (tnA2 (show 17 < 100 by decide)))
          have k35 := wd_at.pt ew15 kI18 (tg_ne tI18 tz12 (tnA2 (show 18 < 100 by decide)))
          have k36 := wd_at.pt ew15 kI19 (tg_ne tI19 tz12 (tnA2 (show 19 < 100 by decide)))
          have k37 := wd_at.pt ew15 kI20 (tg_ne tI20 tz12 (tnA2 (show 20 < 100 by decide)))
          have k38 := wd_at.pt ew15 kI21 (tg_ne tI21 tz12 (tnA2 (show 21 < 100 by decide)))
          have k39 := wd_at.pt ew15 kI22 (tg_ne tI22 tz12 (tnA2 (show 22 < 100 by decide)))
          have k40 := wd_at.pt ew15 kI23 (tg_ne tI23 tz12 (tnB (n := 2) hlu (by decide)))
          have k41 := wd_at.pt ew15 kI24 (tg_ne tI24 tz12 (tnB (n := 2) hlu (by decide)))
          have k42 := wd_at.pt ew15 kI25 (tg_ne tI25 tz12 (tnB (n := 2) hlv (by decide)))
          have k43 := wd_at.pt ew15 kI26 (tg_ne tI26 tz12 (tnB (n := 2) hlv (by decide)))
          have k44 : wd_at w14 (tn j) (.inr (8, [.int (co j), .int (ra j), .int ((se j) + x2), .ref (ag j)])) := wd_at.ps ew15 k11
          have fm45 : ∀ i9, i9 < 12 ∧ i9 ≠ j → tf i9 = some (tn i9) ∧ wd_at w14 (tn i9) (.inr (8, [.int (co i9), .int (ra i9), .int (se i9), .ref (ag i9)])) ∧ tg (tn i9) = 100 + i9 := fun i9 hi9 => ⟨(fm16 i9 hi9).1, wd_at.pt ew15 (fm16 i9 hi9).2.1 (tg_ne (fm16 i9 hi9).2.2 tz12 (tnS hi9.2)), (fm16 i9 hi9).2.2⟩
          have fm46 : ∀ k9, k9 < 13 → (aOK (cf k9) (nf k9) ∧ ru k9 ≤ 12) ∧ wd_at w14 (aa k9) (.inr (1, [.ref (ga0 k9), .ref (ga1 k9), .ref (ga2 k9), .ref (ga3 k9), .ref (ga4 k9), .int (nI (ru k9))])) ∧ tg (aa k9) = 200 + k9 ∧ wd_at w14 (ga0 k9) (.inl (cy 2, 12, .inl (df k9))) ∧ tg (ga0 k9) = 220 + k9 ∧ wd_at w14 (ga1 k9) (.inl (cy 2, 12, .inl (cf k9))) ∧ tg (ga1 k9) = 240 + k9 ∧ wd_at w14 (ga2 k9) (.inl (cy 2, 72, .inl (nf k9))) ∧ tg (ga2 k9) = 260 + k9 ∧ wd_at w14 (ga3 k9) (.inl (cy 1, 72, .inl (sf k9))) ∧ tg (ga3 k9) = 280 + k9 ∧ wd_at w14 (ga4 k9) (.inl (cy 2, 72, .inl (uf k9))) ∧ tg (ga4 k9) = 300 + k9 := fun k9 hi9 => ⟨(hG9 k9 hi9).1, wd_at.pt ew15 (hG9 k9 hi9).2.1 (tg_ne (hG9 k9 hi9).2.2.1 tz12 (tnB2 (n := 12) hj (by decide))), (hG9 k9 hi9).2.2.1, wd_at.pt ew15 (hG9 k9 hi9).2.2.2.1 (tg_ne (hG9 k9 hi9).2.2.2.2.1 tz12 (tnB2 (n := 12) hj (by decide))), (hG9 k9 hi9).2.2.2.2.1, wd_at.pt ew15 (hG9 k9 hi9).2.2.2.2.2.1 (tg_ne (hG9 k9 hi9).2.2.2.2.2.2.1 tz12 (tnB2 (n := 12) hj (by decide))), (hG9 k9 hi9).2.2.2.2.2.2.1, wd_at.pt ew15 (hG9 k9 hi9).2.2.2.2.2.2.2.1 (tg_ne (hG9 k9 hi9).2.2.2.2.2.2.2.2.1 tz12 (tnB2 (n := 12) hj (by decide))), (hG9 k9 hi9).2.2.2.2.2.2.2.2.1, wd_at.pt ew15 (hG9 k9 hi9).2.2.2.2.2.2.2.2.2.1 (tg_ne (hG9 k9 hi9).2.2.2.2.2.2.2.2.2.2.1 tz12 (tnB2 (n := 12) hj (by decide))), (hG9 k9 hi9).2.2.2.2.2.2.2.2.2.2.1, wd_at.pt ew15 (hG9 k9 hi9).2.2.2.2.2.2.2.2.2.2.2.1 (tg_ne (hG9 k9 hi9).2.2.2.2.2.2.2.2.2.2.2.2 tz12 (tnB2 (n := 12) hj (by decide))), (hG9 k9 hi9).2.2.2.2.2.2.2.2.2.2.2.2⟩
          have fm47 : ∀ k9, k9 < pc → pf k9 = some (pa k9) ∧ wd_at w14 (pa k9) (.inr (3, [.int (plv k9), .int (pwo k9), .int (phd k9), .int (pgd k9), .int (pdy k9), .int (pno k9), .int (ptp k9)])) ∧ tg (pa k9) = 3000 + k9 := fun k9 hi9 => ⟨(hP9 k9 hi9).1, wd_at.pt ew15 (hP9 k9 hi9).2.1 (tg_ne (hP9 k9 hi9).2.2 tz12 (tnB2 (n := 12) hj (by decide))), (hP9 k9 hi9).2.2⟩
          have fm48 : ∀ k9, k9 < ac → af k9 = some (ad k9) ∧ wd_at w14 (ad k9) (.inr (0, [.int (av0 k9), .int (av1 k9), .int (av2 k9), .int (av3 k9)])) ∧ tg (ad k9) = 4000 + k9 := fun k9 hi9 => ⟨(hA9 k9 hi9).1, wd_at.pt ew15 (hA9 k9 hi9).2.1 (tg_ne (hA9 k9 hi9).2.2 tz12 (tnB2 (n := 12) hj (by decide))), (hA9 k9 hi9).2.2⟩
          have fm49 : ∀ k9, k9 < sc → zf k9 = some (so k9) ∧ wd_at w14 (so k9) (.inr (6, [.int (sp0 k9), .int (sp1 k9), .ref (sr k9)])) ∧ tg (so k9) = 5000 + k9 ∧ wd_at w14 (sr k9) (.inl (cy 2, 12, .inl (sd k9))) ∧ tg (sr k9) = 6000 + k9 := fun k9 hi9 => ⟨(hS9 k9 hi9).1, wd_at.pt ew15 (hS9 k9 hi9).2.1 (tg_ne (hS9 k9 hi9).2.2.1 tz12 (tnB2 (n := 12) hj (by decide))), (hS9 k9 hi9).2.2.1, wd_at.pt ew15 (hS9 k9 hi9).2.2.2.1 (tg_ne (hS9 k9 hi9).2.2.2.2 tz12 (tnB2 (n := 12) hj (by decide))), (hS9 k9 hi9).2.2.2.2⟩
          have fm50 : ∀ k9, k9 < sh → (hf k9 = some (sw k9) ∧ hto k9 < 12) ∧ wd_at w14 (sw k9) (.inr (5, [.int (nI (hto k9)), .int (hpp k9), .int (hle k9), .int (ham k9), .int (hhh k9), .int (hdd k9), .int (hru k9), .int (hde k9), .int (hcp k9), .int (hld k9)])) ∧ tg (sw k9) = 7000 + k9 := fun k9 hi9 => ⟨(hH9 k9 hi9).1, wd_at.pt ew15 (hH9 k9 hi9).2.1 (tg_ne (hH9 k9 hi9).2.2 tz12 (tnB2 (n := 12) hj (by decide))), (hH9 k9 hi9).2.2⟩
          have kp51 := kp0.put ew15 (tgS tz12 (by omega))
          refine lv_aload_n hx hb dX10_send_56 rfl (lv_at hl 0 rfl) ?_
          refine x_get (ref := "NoteHouse") F hP k17 rfl (fun _ h => List.mem_cons_of_mem _ (List.mem_append_left _ (List.mem_append_right _ (h)))) 1 (Nat.le_of_ble_eq_true rfl) (List.mem_cons_of_mem _ (List.mem_append_left _ (List.mem_append_left _ (List.mem_of_getElem? (i := 1) rfl)))) rfl rfl dX10_send_57 ?_
          refine lv_iload_n hx hb dX10_send_60 rfl (lv_at hl 1 rfl) ?_
          refine x_aald F hP k23 rfl (vp_in_nI (n := j) (N := 12) (by omega) (by decide)) dX10_send_61 ?_
          rw [nI_clamp (n := j) (by omega), pr10]
          refine W.eq (g2 := F0 m _ ls [.ref (tn j)]) rfl ?_
          refine x_get (ref := "NoteHouse$Town") F hP k44 rfl (fun _ h => List.mem_cons_of_mem _ (List.mem_append_right _ (h))) 2 (Nat.le_of_ble_eq_true rfl) (List.mem_cons_of_mem _ (List.mem_append_left _ (List.mem_append_left _ (List.mem_of_getElem? (i := 2) rfl)))) rfl rfl dX10_send_62 ?_
          have fm53 : ∀ i9, i9 < 12 → tf i9 = some (tn i9) ∧ wd_at w14 (tn i9) (.inr (8, [.int (co i9), .int (ra i9), .int ((va_up se j ((se j) + x2)) i9), .ref (ag i9)])) ∧ tg (tn i9) = 100 + i9 := by
            intro i9 hi9
            by_cases e9 : i9 = j
            · rw [e9]
              exact ⟨pr10, (by simp only [va_up_self]; exact k44), tz12⟩
            · simp only [va_up_ne _ _ e9]
              exact fm45 i9 (by omega)
          have hX54 : IX cy tg x td pc ac sc ln (va_up se j ((se j) + x2)) plv w14 := IX.mk a0 a1 a2 a3 a4 a5 a6 a7 a8 a10 a11 b0 b1 b2 b3 tb l0 l1 l2 l3 l4 l5 l6 l7 bl bm sh gc sg lu lv9 f0 f1 f2 f3 tbf e0 e1 e4 e5 e7 ff bf bf2 e2 e3 e6 ta sz fo to fo2 to2 tf tn ag co ra aa ru ga0 ga1 ga2 ga3 ga4 df cf nf sf uf pf pa pwo phd pgd pdy pno ptp af ad av0 av1 av2 av3 zf so sr sp0 sp1 sd hf sw hto hpp hle ham hhh hdd hru hde hcp hld (by omega) (by omega) (by omega) (by omega) (by omega) (by omega) (by omega) (by omega) hag k17 tI0 k18 tI1 k19 tI2 k20 tI3 k21 tI4 k22 tI5 k23 tI6 k24 tI7 k25 tI8 k26 tI9 k27 tI10 k28 tI11 k29 tI12 k30 tI13 k31 tI14 k32 tI15 k33 tI16 k34 tI17 k35 tI18 k36 tI19 k37 tI20 k38 tI21 k39 tI22 k40 tI23 k41 tI24 k42 tI25 k43 tI26 fm53 fm46 fm47 fm48 fm49 fm50
          exact y_ir K hP hD hS (Nat.le_of_ble_eq_true rfl) (Nat.le_of_ble_eq_true rfl) (ty := .int) rfl rfl dX10_send_65 (by refine ⟨(congrArg (fun z => some (Value.int z)) (show (se j) + x2 = sndA se (nI j) x2 from by simp [sndA, sndS, c_4, clj, c_5, c_9, c_13])), ?_⟩; rw [show sndS se (nI j) x2 = (va_up se j ((se j) + x2)) from by simp [sndA, sndS, c_4, clj, c_5, c_9, c_13]]; exact ⟨tg, (fun _ _ => rfl), kp51, hX54⟩)
        · refine lv_iconst (v := (-1)) hx hb dX10_send_39 (by decide) ?_
          exact y_ir K hP hD hS (Nat.le_of_ble_eq_true rfl) (Nat.le_of_ble_eq_true rfl) (ty := .int) rfl rfl dX10_send_40 (by refine ⟨(congrArg (fun z => some (Value.int z)) (show (-1) = sndA se (nI j) x2 from by simp [sndA, sndS, c_4, clj, c_5, c_9, c_13])), ?_⟩; rw [show sndS se (nI j) x2 = se from by simp [sndA, sndS, c_4, clj, c_5, c_9, c_13]]; exact ⟨tg, fun _ _ => rfl, wd_kp.rf, hIX0⟩)
      · refine lv_iconst (v := (-1)) hx hb dX10_send_21 (by decide) ?_
        exact y_ir K hP hD hS (Nat.le_of_ble_eq_true rfl) (Nat.le_of_ble_eq_true rfl) (ty := .int) rfl rfl dX10_send_22 (by refine ⟨(congrArg (fun z => some (Value.int z)) (show (-1) = sndA se (nI j) x2 from by simp [sndA, sndS, c_4, clj, c_5, c_9])), ?_⟩; rw [show sndS se (nI j) x2 = se from by simp [sndA, sndS, c_4, clj, c_5, c_9]]; exact ⟨tg, fun _ _ => rfl, wd_kp.rf, hIX0⟩)
set_option maxHeartbeats 4000000 in
set_option maxRecDepth 100000 in
theorem X_text (l : Launch) (D : va_G) (cy : Nat → ClassId) (sk sv : Nat → Nat) (w : Wd) (tg : Nat → Nat) (x : Nat) (td : Int32) (pc ac sc ln : Nat) (se plv : Nat → Int32) (x1 : Int32) (hIX0 : IX cy tg x td pc ac sc ln se plv w) : Ct l D cy sk sv yX10_text wsX10_text ({ frames := 10, cells := 0, slots := 0, locals := 236 }) [.ref x, .int x1] w (fun v w1 => (∃ r : Int32, v = some (.int r)) ∧ XP cy tg x td pc ac sc (txtC ln x1) se plv w w1) := by
  refine Ct.by (cc := cX10_text) (maxL := 4) (ret := (some .int)) (by decide +kernel) rfl (Nat.le_of_ble_eq_true rfl) ?_
  intro p e s m args below meth c A Q F hnm K ls hl
  have F : wd_Fx p s m args meth c cX10_text 4 wsX10_text RX10 D cy sk sv A := F
  have hl : lv_has ls 4 [(0, .ref x), (1, .int x1)] := hl
  have hx := F.1.1
  have hb := F.1.2.1
  have hown := F.1.2.2.2.1
  have hts := F.1.2.2.2.2
  intro H locs hP hD hS
  have kp0 : wd_kp (fun b => tg b < 10000) w w := wd_kp.rf
  refine hIX0 _ ?_
  intro a0 a1 a2 a3 a4 a5 a6 a7 a8 a10 a11 b0 b1 b2 b3 tb l0 l1 l2 l3 l4 l5 l6 l7 bl bm sh gc sg lu lv9 f0 f1 f2 f3 tbf e0 e1 e4 e5 e7 ff bf bf2 e2 e3 e6 ta sz fo to fo2 to2 tf tn ag co ra aa ru ga0 ga1 ga2 ga3 ga4 df cf nf sf uf pf pa pwo phd pgd pdy pno ptp af ad av0 av1 av2 av3 zf so sr sp0 sp1 sd hf sw hto hpp hle ham hhh hdd hru hde hcp hld hp90 hp91 hp92 hp93 hp94 hp95 hp96 hp97 hag kI0 tI0 kI1 tI1 kI2 tI2 kI3 tI3 kI4 tI4 kI5 tI5 kI6 tI6 kI7 tI7 kI8 tI8 kI9 tI9 kI10 tI10 kI11 tI11 kI12 tI12 kI13 tI13 kI14 tI14 kI15 tI15 kI16 tI16 kI17 tI17 kI18 tI18 kI19 tI19 kI20 tI20 kI21 tI21 kI22 tI22 kI23 tI23 kI24 tI24 kI25 tI25 kI26 tI26 hT9 hG9 hP9 hA9 hS9 hH9
  have hlu : lu < 2 := by omega
  have hlv : lv9 < 2 := by omega
  refine lv_iload_n hx hb dX10_text_0 rfl (lv_at hl 1 rfl) ?_
  refine x_callS (n := 1) (As := [.int x1]) (rest := []) F hP hD hS (g_isTown l D cy sk sv w x1) gX10_text_X10_isTown rfl (by decide +kernel) ⟨(Nat.le_of_ble_eq_true rfl), (Nat.le_of_ble_eq_true rfl)⟩ rfl hl.1 (Nat.le_of_ble_eq_true rfl) dX10_text_1 rfl ⟨(Nat.le_of_ble_eq_true rfl), (Nat.le_of_ble_eq_true rfl)⟩ (fun v2 w3 hp1 H locs hP hD hS => ?_)
  obtain ⟨rfl, rfl⟩ := hp1
  refine W.eq (g2 := F0 m 4 ls [.int (wi x1 0 11)]) rfl (W.widen (k := 0) (n := 0) (Nat.le_of_ble_eq_true rfl) (Nat.le_of_ble_eq_true rfl) ?_)
  refine lv_if_ne (tgt := 9) hx hb dX10_text_4 (by decide) (fun c_4 => ?_) (fun c_4 => ?_)
  · obtain ⟨j, hj, rfl, clj⟩ := wi_t c_4
    refine lv_aload_n hx hb dX10_text_9 rfl (lv_at hl 0 rfl) ?_
    refine x_get (ref := "NoteHouse") F hP kI0 rfl (fun _ h => List.mem_cons_of_mem _ (List.mem_append_left _ (List.mem_append_left _ (List.mem_append_left _ (List.mem_append_right _ (h)))))) 9 (Nat.le_of_ble_eq_true rfl) (List.mem_cons_of_mem _ (List.mem_append_left _ (List.mem_append_left _ (List.mem_append_left _ (List.mem_append_left _ (List.mem_append_left _ (List.mem_of_getElem? (i := 0) rfl))))))) rfl rfl dX10_text_10 ?_
    have pr5 := (hG9 sg (by omega)).1
    have pr5a := pr5.1
    have pr5b := pr5.2
    have k6 := (hG9 sg (by omega)).2.1
    have tz7 := (hG9 sg (by omega)).2.2.1
    have k8 := (hG9 sg (by omega)).2.2.2.1
    have tz9 := (hG9 sg (by omega)).2.2.2.2.1
    have k10 := (hG9 sg (by omega)).2.2.2.2.2.1
    have tz11 := (hG9 sg (by omega)).2.2.2.2.2.2.1
    have k12 := (hG9 sg (by omega)).2.2.2.2.2.2.2.1
    have tz13 := (hG9 sg (by omega)).2.2.2.2.2.2.2.2.1
    have k14 := (hG9 sg (by omega)).2.2.2.2.2.2.2.2.2.1
    have tz15 := (hG9 sg (by omega)).2.2.2.2.2.2.2.2.2.2.1
    have k16 := (hG9 sg (by omega)).2.2.2.2.2.2.2.2.2.2.2.1
    have tz17 := (hG9 sg (by omega)).2.2.2.2.2.2.2.2.2.2.2.2
    refine lv_aload_n hx hb dX10_text_13 rfl (lv_at hl 0 rfl) ?_
    refine x_get (ref := "NoteHouse") F hP kI0 rfl (fun _ h => List.mem_cons_of_mem _ (List.mem_append_left _ (List.mem_append_left _ (List.mem_append_left _ (List.mem_append_right _ (h)))))) 6 (Nat.le_of_ble_eq_true rfl) (List.mem_cons_of_mem _ (List.mem_append_left _ (List.mem_append_left _ (List.mem_append_left _ (List.mem_append_left _ (List.mem_append_left _ (List.mem_of_getElem? (i := 1) rfl))))))) rfl rfl dX10_text_14 ?_
    refine x_callV (n := 1) (As := [.ref a6]) (rest := []) F hP hD hS (g_learn l D cy sk sv w (aa sg) (ga0 sg) (ga1 sg) (ga2 sg) (ga3 sg) (ga4 sg) a6 tb ln (nI (ru sg)) ta (df sg) (cf sg) (nf sg) (sf sg) (uf sg) tbf k6 k8 k10 k12 k14 k16 kI11 kI12 (fun b => b = a6 ∨ b = (aa sg) ∨ b = (ga0 sg) ∨ b = (ga1 sg) ∨ b = (ga2 sg) ∨ b = (ga3 sg) ∨ b = (ga4 sg)) (Or.inl rfl) (Or.inr (Or.inl rfl)) (Or.inr (Or.inr (Or.inl rfl))) (Or.inr (Or.inr (Or.inr (Or.inl rfl)))) (Or.inr (Or.inr (Or.inr (Or.inr (Or.inl rfl))))) (Or.inr (Or.inr (Or.inr (Or.inr (Or.inr (Or.inl rfl)))))) (Or.inr (Or.inr (Or.inr (Or.inr (Or.inr (Or.inr rfl)))))) (by omega) (by assumption) (tg_ne tz9 tz11 (tnB (n := 13) hp96 (by decide))) (tg_ne tz13 tz15 (tnB (n := 13) hp96 (by decide))) (tg_ne tz13 tz17 (tnB (n := 13) hp96 (by decide))) (tg_ne tz15 tz17 (tnB (n := 13) hp96 (by decide)))) gX10_text_X1_learn rfl rfl (by decide +kernel) ⟨(Nat.le_of_ble_eq_true rfl), (Nat.le_of_ble_eq_true rfl)⟩ rfl hl.1 (Nat.le_of_ble_eq_true rfl) k6 rfl dX10_text_17 rfl ⟨(Nat.le_of_ble_eq_true rfl), (Nat.le_of_ble_eq_true rfl)⟩ (fun v19 w20 hp18 H locs hP hD hS => ?_)
    obtain ⟨ax21, rrx22, dfx23, cfx24, nfx25, sfx26, ufx27, rx28, rfl, hz29, hz30, hz31, kq39, k32, k33, k34, k35, k36, k37, k38⟩ := hp18
    have fm40 : ∀ k9, k9 < 13 ∧ k9 ≠ sg → (aOK (cf k9) (nf k9) ∧ ru k9 ≤ 12) ∧ wd_at w (aa k9) (.inr (1, [.ref (ga0 k9), .ref (ga1 k9), .ref (ga2 k9), .ref (ga3 k9), .ref (ga4 k9), .int (nI (ru k9))])) ∧ tg (aa k9) = 200 + k9 ∧ wd_at w (ga0 k9) (.inl (cy 2, 12, .inl (df k9))) ∧ tg (ga0 k9) = 220 + k9 ∧ wd_at w (ga1 k9) (.inl (cy 2, 12, .inl (cf k9))) ∧ tg (ga1 k9) = 240 + k9 ∧ wd_at w (ga2 k9) (.inl (cy 2, 72, .inl (nf k9))) ∧ tg (ga2 k9) = 260 + k9 ∧ wd_at w (ga3 k9) (.inl (cy 1, 72, .inl (sf k9))) ∧ tg (ga3 k9) = 280 + k9 ∧ wd_at w (ga4 k9) (.inl (cy 2, 72, .inl (uf k9))) ∧ tg (ga4 k9) = 300 + k9 := fun k9 hi8 => hG9 k9 hi8.1
    have k41 := kq39.2 _ _ kI0 (orN (tg_ne tI0 tI11 (by decide)) (orN (tg_ne tI0 tz7 (tnA2 (show 0 < 200 by decide))) (orN (tg_ne tI0 tz9 (tnA2 (show 0 < 220 by decide))) (orN (tg_ne tI0 tz11 (tnA2 (show 0 < 240 by decide))) (orN (tg_ne tI0 tz13 (tnA2 (show 0 < 260 by decide))) (orN (tg_ne tI0 tz15 (tnA2 (show 0 < 280 by decide))) (tg_ne tI0 tz17 (tnA2 (show 0 < 300 by decide)))))))))
    have k42 := kq39.2 _ _ kI1 (orN (tg_ne tI1 tI11 (by decide)) (orN (tg_ne tI1 tz7 (tnA2 (show 1 < 200 by decide))) (orN (tg_ne tI1 tz9 (tnA2 (show 1 < 220 by decide))) (orN (tg_ne tI1 tz11 (tnA2 (show 1 < 240 by decide))) (orN (tg_ne tI1 tz13 (tnA2 (show 1 < 260 by decide))) (orN (tg_ne tI1 tz15 (tnA2 (show 1 < 280 by decide))) (tg_ne tI1 tz17 (tnA2 (show 1 < 300 by decide)))))))))
    have k43 := kq39.2 _ _ kI2 (orN (tg_ne tI2 tI11 (by decide)) (orN (tg_ne tI2 tz7 (tnA2 (show 2 < 200 by decide))) (orN (tg_ne tI2 tz9 (tnA2 (show 2 < 220 by decide))) (orN (tg_ne tI2 tz11 (tnA2 (show 2 < 240 by decide))) (orN (tg_ne tI2 tz13 (tnA2 (show 2 < 260 by decide))) (orN (tg_ne tI2 tz15 (tnA2 (show 2 < 280 by decide))) (tg_ne tI2 tz17 (tnA2 (show 2 < 300 by decide)))))))))
    have k44 := kq39.2 _ _ kI3 (orN (tg_ne tI3 tI11 (by decide)) (orN (tg_ne tI3 tz7 (tnA2 (show 3 < 200 by decide))) (orN (tg_ne tI3 tz9 (tnA2 (show 3 < 220 by decide))) (orN (tg_ne tI3 tz11 (tnA2 (show 3 < 240 by decide))) (orN (tg_ne tI3 tz13 (tnA2 (show 3 < 260 by decide))) (orN (tg_ne tI3 tz15 (tnA2 (show 3 < 280 by decide))) (tg_ne tI3 tz17 (tnA2 (show 3 < 300 by decide)))))))))
    have k45 := kq39.2 _ _ kI4 (orN (tg_ne tI4 tI11 (by decide)) (orN (tg_ne tI4 tz7 (tnA2 (show 4 < 200 by decide))) (orN (tg_ne tI4 tz9 (tnA2 (show 4 < 220 by decide))) (orN (tg_ne tI4 tz11 (tnA2 (show 4 < 240 by decide))) (orN (tg_ne tI4 tz13 (tnA2 (show 4 < 260 by decide))) (orN (tg_ne tI4 tz15 (tnA2 (show 4 < 280 by decide))) (tg_ne tI4 tz17 (tnA2 (show 4 < 300 by decide)))))))))
    have k46 := kq39.2 _ _ kI5 (orN (tg_ne tI5 tI11 (by decide)) (orN (tg_ne tI5 tz7 (tnA2 (show 5 < 200 by decide))) (orN (tg_ne tI5 tz9 (tnA2 (show 5 < 220 by decide))) (orN (tg_ne tI5 tz11 (tnA2 (show 5 < 240 by decide))) (orN (tg_ne tI5 tz13 (tnA2 (show 5 < 260 by decide))) (orN (tg_ne tI5 tz15 (tnA2 (show 5 < 280 by decide))) (tg_ne tI5 tz17 (tnA2 (show 5 < 300 by decide)))))))))
    have k47 := kq39.2 _ _ kI6 (orN (tg_ne tI6 tI11 (by decide)) (orN (tg_ne tI6 tz7 (tnA2 (show 6 < 200 by decide))) (orN (tg_ne tI6 tz9 (tnA2 (show 6 < 220 by decide))) (orN (tg_ne tI6 tz11 (tnA2 (show 6 < 240 by decide))) (orN (tg_ne tI6 tz13 (tnA2 (show 6 < 260 by decide))) (orN (tg_ne tI6 tz15 (tnA2 (show 6 < 280 by decide))) (tg_ne tI6 tz17 (tnA2 (show 6 < 300 by decide)))))))))
    have k48 := kq39.2 _ _ kI7 (orN (tg_ne tI7 tI11 (by decide)) (orN (tg_ne tI7 tz7 (tnA2 (show 7 < 200 by decide))) (orN (tg_ne tI7 tz9 (tnA2 (show 7 < 220 by decide))) (orN (tg_ne tI7 tz11 (tnA2 (show 7 < 240 by decide))) (orN (tg_ne tI7 tz13 (tnA2 (show 7 < 260 by decide))) (orN (tg_ne tI7 tz15 (tnA2 (show 7 < 280 by decide))) (tg_ne tI7 tz17 (tnA2 (show 7 < 300 by decide)))))))))
    have k49 := kq39.2 _ _ kI8 (orN (tg_ne tI8 tI11 (by decide)) (orN (tg_ne tI8 tz7 (tnA2 (show 8 < 200 by decide))) (orN (tg_ne tI8 tz9 (tnA2 (show 8 < 220 by decide))) (orN (tg_ne tI8 tz11 (tnA2 (show 8 < 240 by decide))) (orN (tg_ne tI8 tz13 (tnA2 (show 8 < 260 by decide))) (orN (tg_ne tI8 tz15 (tnA2 (show 8 < 280 by decide))) (tg_ne tI8 tz17 (tnA2 (show 8 < 300 by decide)))))))))
    have k50 := kq39.2 _ _ kI9 (orN (tg_ne tI9 tI11 (by decide)) (orN (tg_ne tI9 tz7 (tnA2 (show 9 < 200 by decide))) (orN (tg_ne tI9 tz9 (tnA2 (show 9 < 220 by decide))) (orN (tg_ne tI9 tz11 (tnA2 (show 9 < 240 by decide))) (orN (tg_ne tI9 tz13 (tnA2 (show 9 < 260 by decide))) (orN (tg_ne tI9 tz15 (tnA2 (show 9 < 280 by decide))) (tg_ne tI9 tz17 (tnA2 (show 9 < 300 by decide)))))))))
    have k51 := kq39.2 _ _ kI10 (orN (tg_ne tI10 tI11 (by decide)) (orN (tg_ne tI10 tz7 (tnA2 (show 10 < 200 by decide))) (orN (tg_ne tI10 tz9 (tnA2 (show 10 < 220 by decide))) (orN (tg_ne tI10 tz11 (tnA2 (show 10 < 240 by decide))) (orN (tg_ne tI10 tz13 (tnA2 (show 10 < 260 by decide))) (orN (tg_ne tI10 tz15 (tnA2 (show 10 < 280 by decide))) (tg_ne tI10 tz17 (tnA2 (show 10 < 300 by decide)))))))))
    have k52 := kq39.2 _ _ kI12 (orN (tg_ne tI12 tI11 (by decide)) (orN (tg_ne tI12 tz7 (tnA2 (show 12 < 200 by decide))) (orN (tg_ne tI12 tz9 (tnA2 (show 12 < 220 by decide))) (orN (tg_ne tI12 tz11 (tnA2 (show 12 < 240 by decide))) (orN (tg_ne tI12 tz13 (tnA2 (show 12 < 260 by decide))) (orN (tg_ne tI12 tz15 (tnA2 (show 12 < 280 by decide))) (tg_ne tI12 tz17 (tnA2 (show 12 < 300 by decide)))))))))
    have k53 := kq39.2 _ _ kI13 (orN (tg_ne tI13 tI11 (by decide)) (orN (tg_ne tI13 tz7 (tnA2 (show 13 < 200 by decide))) (orN (tg_ne tI13 tz9 (tnA2 (show 13 < 220 by decide))) (orN (tg_ne tI13 tz11 (tnA2 (show 13 < 240 by decide))) (orN (tg_ne tI13 tz13 (tnA2 (show 13 < 260 by decide))) (orN (tg_ne tI13 tz15 (tnA2 (show 13 < 280 by decide))) (tg_ne tI13 tz17 (tnA2 (show 13 < 300 by decide)))))))))
    have k54 := kq39.2 _ _ kI14 (orN (tg_ne tI14 tI11 (by decide)) (orN (tg_ne tI14 tz7 (tnA2 (show 14 < 200 by decide))) (orN (tg_ne tI14 tz9 (tnA2 (show 14 < 220 by decide))) (orN (tg_ne tI14 tz11 (tnA2 (show 14 < 240 by decide))) (orN (tg_ne tI14 tz13 (tnA2 (show 14 < 260 by decide))) (orN (tg_ne tI14 tz15 (tnA2 (show 14 < 280 by decide))) (tg_ne tI14 tz17 (tnA2 (show 14 < 300 by decide)))))))))
    have k55 := kq39.2 _ _ kI15 (orN (tg_ne tI15 tI11 (by decide)) (orN (tg_ne tI15 tz7 (tnA2 (show 15 < 200 by decide))) (orN (tg_ne tI15 tz9 (tnA2 (show 15 < 220 by decide))) (orN (tg_ne tI15 tz11 (tnA2 (show 15 < 240 by decide))) (orN (tg_ne tI15 tz13 (tnA2 (show 15 < 260 by decide))) (orN (tg_ne tI15 tz15 (tnA2 (show 15 < 280 by decide))) (tg_ne tI15 tz17 (tnA2 (show 15 < 300 by decide)))))))))
    have k56 := kq39.2 _ _ kI16 (orN (tg_ne tI16 tI11 (by decide)) (orN (tg_ne tI16 tz7 (tnA2 (show 16 < 200 by decide))) (orN (tg_ne tI16 tz9 (tnA2 (show 16 < 220 by decide))) (orN (tg_ne tI16 tz11 (tnA2 (show 16 < 240 by decide))) (orN (tg_ne tI16 tz13 (tnA2 (show 16 < 260 by decide))) (orN (tg_ne tI16 tz15 (tnA2 (show 16 < 280 by decide))) (tg_ne tI16 tz17 (tnA2 (show 16 < 300 by decide)))))))))
    have k57 := kq39.2 _ _ kI17 (orN (tg_ne tI17 tI11 (by decide)) (orN (tg_ne tI17 tz7 (tnA2 (show 17 < 200 by decide))) (orN (tg_ne tI17 tz9 (tnA2 (show 17 < 220 by decide))) (orN (tg_ne tI17 tz11 (tnA2 (show 17 < 240 by decide))) (orN (tg_ne tI17 tz13 (tnA2 (show 17 < 260 by decide))) (orN (tg_ne tI17 tz15 (tnA2 (show 17 < 280 by decide))) (tg_ne tI17 tz17 (tnA2 (show 17 < 300 by decide)))))))))
    have k58 := kq39.2 _ _ kI18 (orN (tg_ne tI18 tI11 (by decide)) (orN (tg_ne tI18 tz7 (tnA2 (show 18 < 200 by decide))) (orN (tg_ne tI18 tz9 (tnA2 (show 18 < 220 by decide))) (orN (tg_ne tI18 tz11 (tnA2 (show 18 < 240 by decide))) (orN (tg_ne tI18 tz13 (tnA2 (show 18 < 260 by decide))) (orN (tg_ne tI18 tz15 (tnA2 (show 18 < 280 by decide))) (tg_ne tI18 tz17 (tnA2 (show 18 < 300 by decide)))))))))
    have k59 := kq39.2 _ _ kI19 (orN (tg_ne tI19 tI11 (by decide)) (orN (tg_ne tI19 tz7 (tnA2 (show 19 < 200 by decide))) (orN (tg_ne tI19 tz9 (tnA2 (show 19 < 220 by decide))) (orN (tg_ne tI19 tz11 (tnA2 (show 19 < 240 by decide))) (orN (tg_ne tI19 tz13 (tnA2 (show 19 < 260 by decide))) (orN (tg_ne tI19 tz15 (tnA2 (show 19 < 280 by decide))) (tg_ne tI19 tz17 (tnA2 (show 19 < 300 by decide)))))))))
    have k60 := kq39.2 _ _ kI20 (orN (tg_ne tI20 tI11 (by decide)) (orN (tg_ne tI20 tz7 (tnA2 (show 20 < 200 by decide))) (orN (tg_ne tI20 tz9 (tnA2 (show 20 < 220 by decide))) (orN (tg_ne tI20 tz11 (tnA2 (show 20 < 240 by decide))) (orN (tg_ne tI20 tz13 (tnA2 (show 20 < 260 by decide))) (orN (tg_ne tI20 tz15 (tnA2 (show 20 < 280 by decide))) (tg_ne tI20 tz17 (tnA2 (show 20 < 300 by decide)))))))))
    have k61 := kq39.2 _ _ kI21 (orN (tg_ne tI21 tI11 (by decide)) (orN (tg_ne tI21 tz7 (tnA2 (show 21 < 200 by decide))) (orN (tg_ne tI21 tz9 (tnA2 (show 21 < 220 by decide))) (orN (tg_ne tI21 tz11 (tnA2 (show 21 < 240 by decide))) (orN (tg_ne tI21 tz13 (tnA2 (show 21 < 260 by decide))) (orN (tg_ne tI21 tz15 (tnA2 (show 21 < 280 by decide))) (tg_ne tI21 tz17 (tnA2 (show 21 < 300 by decide)))))))))
    have k62 := kq39.2 _ _ kI22 (orN (tg_ne tI22 tI11 (by decide)) (orN (tg_ne tI22 tz7 (tnA2 (show 22 < 200 by decide))) (orN (tg_ne tI22 tz9 (tnA2 (show 22 < 220 by decide))) (orN (tg_ne tI22 tz11 (tnA2 (show 22 < 240 by decide))) (orN (tg_ne tI22 tz13 (tnA2 (show 22 < 260 by decide))) (orN (tg_ne tI22 tz15 (tnA2 (show 22 < 280 by decide))) (tg_ne tI22 tz17 (tnA2 (show 22 < 300 by decide)))))))))
    have k63 := kq39.2 _ _ kI23 (orN (tg_ne tI23 tI11 (tnA (show 11 < 30 by decide))) (orN (tg_ne tI23 tz7 (tnB (n := 2) hlu (by decide))) (orN (tg_ne tI23 tz9 (tnB (n := 2) hlu (by decide))) (orN (tg_ne tI23 tz11 (tnB (n := 2) hlu (by decide))) (orN (tg_ne tI23 tz13 (tnB (n := 2) hlu (by decide))) (orN (tg_ne tI23 tz15 (tnB (n := 2) hlu (by decide))) (tg_ne tI23 tz17 (tnB (n := 2) hlu (by decide)))))))))
    have k64 := kq39.2 _ _ kI24 (orN (tg_ne tI24 tI11 (tnA (show 11 < 32 by decide))) (orN (tg_ne tI24 tz7 (tnB (n := 2) hlu (by decide))) (orN (tg_ne tI24 tz9 (tnB (n := 2) hlu (by decide))) (orN (tg_ne tI24 tz11 (tnB (n := 2) hlu (by decide))) (orN (tg_ne tI24 tz13 (tnB (n := 2) hlu (by decide))) (orN (tg_ne tI24 tz15 (tnB (n := 2) hlu (by decide))) (tg_ne tI24 tz17 (tnB (n := 2) hlu (by decide)))))))))
    have k65 := kq39.2 _ _ kI25 (orN (tg_ne tI25 tI11 (tnA (show 11 < 30 by decide))) (orN (tg_ne tI25 tz7 (tnB (n := 2) hlv (by decide))) (orN (tg_ne tI25 tz9 (tnB (n := 2) hlv (by decide))) (orN (tg_ne tI25 tz11 (tnB (n := 2) hlv (by decide))) (orN (tg_ne tI25 tz13 (tnB (n := 2) hlv (by decide))) (orN (tg_ne tI25 tz15 (tnB (n := 2) hlv (by decide))) (tg_ne tI25 tz17 (tnB (n := 2) hlv (by decide)))))))))
    have k66 := kq39.2 _ _ kI26 (orN (tg_ne tI26 tI11 (tnA (show 11 < 32 by decide))) (orN (tg_ne tI26 tz7 (tnB (n := 2) hlv (by decide))) (orN (tg_ne tI26 tz9 (tnB (n := 2) hlv (by decide))) (orN (tg_ne tI26 tz11 (tnB (n := 2) hlv (by decide))) (orN (tg_ne tI26 tz13 (tnB (n := 2) hlv (by decide))) (orN (tg_ne tI26 tz15 (tnB (n := 2) hlv (by decide))) (tg_ne tI26 tz17 (tnB (n := 2) hlv (by decide)))))))))
    have fm67 : ∀ i9, i9 < 12 → tf i9 = some (tn i9) ∧ wd_at w20 (tn i9) (.inr (8, [.int (co i9), .int (ra i9), .int (se i9), .ref (ag i9)])) ∧ tg (tn i9) = 100 + i9 := fun i9 hi9 => ⟨(hT9 i9 hi9).1, kq39.2 _ _ (hT9 i9 hi9).2.1 (orN (tg_ne (hT9 i9 hi9).2.2 tI11 (tnA (show 11 < 100 by decide))) (orN (tg_ne (hT9 i9 hi9).2.2 tz7 (tnB (n := 12) hi9 (by decide))) (orN (tg_ne (hT9 i9 hi9).2.2 tz9 (tnB (n := 12) hi9 (by decide))) (orN (tg_ne (hT9 i9 hi9).2.2 tz11 (tnB (n := 12) hi9 (by decide))) (orN (tg_ne (hT9 i9 hi9).2.2 tz13 (tnB (n := 12) hi9 (by decide))) (orN (tg_ne (hT9 i9 hi9).2.2 tz15 (tnB (n := 12) hi9 (by decide))) (tg_ne (hT9 i9 hi9).2.2 tz17 (tnB (n := 12) hi9 (by decide))))))))), (hT9 i9 hi9).2.2⟩
    have fm68 : ∀ k9, k9 < 13 ∧ k9 ≠ sg → (aOK (cf k9) (nf k9) ∧ ru k9 ≤ 12) ∧ wd_at w20 (aa k9) (.inr (1, [.ref (ga0 k9), .ref (ga1 k9), .ref (ga2 k9), .ref (ga3 k9), .ref (ga4 k9), .int (nI (ru k9))])) ∧ tg (aa k9) = 200 + k9 ∧ wd_at w20 (ga0 k9) (.inl (cy 2, 12, .inl (df k9))) ∧ tg (ga0 k9) = 220 + k9 ∧ wd_at w20 (ga1 k9) (.inl (cy 2, 12, .inl (cf k9))) ∧ tg (ga1 k9) = 240 + k9 ∧ wd_at w20 (ga2 k9) (.inl (cy 2, 72, .inl (nf k9))) ∧ tg (ga2 k9) = 260 + k9 ∧ wd_at w20 (ga3 k9) (.inl (cy 1, 72, .inl (sf k9))) ∧ tg (ga3 k9) = 280 + k9 ∧ wd_at w20 (ga4 k9) (.inl (cy 2, 72, .inl (uf k9))) ∧ tg (ga4 k9) = 300 + k9 := fun k9 hi9 => ⟨(fm40 k9 hi9).1, kq39.2 _ _ (fm40 k9 hi9).2.1 (orN (tg_ne (fm40 k9 hi9).2.2.1 tI11 (tnA (show 11 < 200 by decide))) (orN (tg_ne (fm40 k9 hi9).2.2.1 tz7 (tnS hi9.2)) (orN (tg_ne (fm40 k9 hi9).2.2.1 tz9 (tnB (n := 13) hi9.1 (by decide))) (orN (tg_ne (fm40 k9 hi9).2.2.1 tz11 (tnB (n := 13) hi9.1 (by decide))) (orN (tg_ne (fm40 k9 hi9).2.2.1 tz13 (tnB (n := 13) hi9.1 (by decide))) (orN (tg_ne (fm40 k9 hi9).2.2.1 tz15 (tnB (n := 13) hi9.1 (by decide))) (tg_ne (fm40 k9 hi9).2.2.1 tz17 (tnB (n := 13) hi9.1 (by decide))))))))), (fm40 k9 hi9).2.2.1, kq39.2 _ _ (fm40 k9 hi9).2.2.2.1 (orN (tg_ne (fm40 k9 hi9).2.2.2.2.1 tI11 (tnA (show 11 < 220 by decide))) (orN (tg_ne (fm40 k9 hi9).2.2.2.2.1 tz7 (tnB2 (n := 13) hp96 (by decide))) (orN (tg_ne (fm40 k9 hi9).2.2.2.2.1 tz9 (tnS hi9.2)) (orN (tg_ne (fm40 k9 hi9).2.2.2.2.1 tz11 (tnB (n := 13) hi9.1 (by decide))) (orN (tg_ne (fm40 k9 hi9).2.2.2.2.1 tz13 (tnB (n := 13) hi9.1 (by decide))) (orN (tg_ne (fm40 k9 hi9).2.2.2.2.1 tz15 (tnB (n := 13) hi9.1 (by decide))) (tg_ne (fm40 k9 hi9).2.2.2.2.1 tz17 (tnB (n := 13) hi9.1 (by decide))))))))), (fm40 k9 hi9).2.2.2.2.1, kq39.2 _ _ (fm40 k9 hi9).2.2.2.2.2.1 (orN (tg_ne (fm40 k9 hi9).2.2.2.2.2.2.1 tI11 (tnA (show 11 < 240 by decide))) (orN (tg_ne (fm40 k9 hi9).2.2.2.2.2.2.1 tz7 (tnB2 (n := 13) hp96 (by decide))) (orN (tg_ne (fm40 k9 hi9).2.2.2.2.2.2.1 tz9 (tnB2 (n := 13) hp96 (by decide))) (orN (tg_ne (fm40 k9 hi9).2.2.2.2.2.2.1 tz11 (tnS hi9.2)) (orN (tg_ne (fm40 k9 hi9).2.2.2.2.2.2.1 tz13 (tnB (n := 13) hi9.1 (by decide))) (orN (tg_ne (fm40 k9 hi9).2.2.2.2.2.2.1 tz15 (tnB (n := 13) hi9.1 (by decide))) (tg_ne (fm40 k9 hi9).2.2.2.2.2.2.1 tz17 (tnB (n := 13) hi9.1 (by decide))))))))), (fm40 k9 hi9).2.2.2.2.2.2.1, kq39.2 _ _ (fm40 k9 hi9).2.2.2.2.2.2.2.1 (orN (tg_ne (fm40 k9 hi9).2.2.2.2.2.2.2.2.1 tI11 (tnA (show 11 < 260 by decide))) (orN (tg_ne (fm40 k9 hi9).2.2.2.2.2.2.2.2.1 tz7 (tnB2 (n := 13) hp96 (by decide))) (orN (tg_ne (fm40 k9 hi9).2.2.2.2.2.2.2.2.1 tz9 (tnB2 (n := 13) hp96 (by decide))) (orN (tg_ne (fm40 k9 hi9).2.2.2.2.2.2.2.2.1 tz11 (tnB2 (n := 13) hp96 (by decide))) (orN (tg_ne (fm40 k9 hi9).2.2.2.2.2.2.2.2.1 tz13 (tnS hi9.2)) (orN (tg_ne (fm40 k9 hi9).2.2.2.2.2.2.2.2.1 tz15 (tnB (n := 13) hi9.1 (by decide))) (tg_ne (fm40 k9 hi9).2.2.2.2.2.2.2.2.1 tz17 (tnB (n := 13) hi9.1 (by decide))))))))), (fm40 k9 hi9).2.2.2.2.2.2.2.2.1, kq39.2 _ _ (fm40 k9 hi9).2.2.2.2.2.2.2.2.2.1 (orN (tg_ne (fm40 k9 hi9).2.2.2.2.2.2.2.2.2.2.1 tI11 (tnA (show 11 < 280 by decide))) (orN (tg_ne (fm40 k9 hi9).2.2.2.2.2.2.2.2.2.2.1 tz7 (tnB2 (n := 13) hp96 (by decide))) (orN (tg_ne (fm40 k9 hi9).2.2.2.2.2.2.2.2.2.2.1 tz9 (tnB2 (n := 13) hp96 (by decide))) (orN (tg_ne (fm40 k9 hi9).2.2.2.2.2.2.2.2.2.2.1 tz11 (tnB2 (n := 13) hp96 (by decide))) (orN (tg_ne (fm40 k9 hi9).2.2.2.2.2.2.2.2.2.2.1 tz13 (tnB2 (n := 13) hp96 (by decide))) (orN (tg_ne (fm40 k9 hi9).2.2.2.2.2.2.2.2.2.2.1 tz15 (tnS hi9.2)) (tg_ne (fm40 k9 hi9).2.2.2.2.2.2.2.2.2.2.1 tz17 (tnB (n := 13) hi9.1 (by decide))))))))), (fm40 k9 hi9).2.2.2.2.2.2.2.2.2.2.1, kq39.2 _ _ (fm40 k9 hi9).2.2.2.2.2.2.2.2.2.2.2.1 (orN (tg_ne (fm40 k9 hi9).2.2.2.2.2.2.2.2.2.2.2.2 tI11 (tnA (show 11 < 300 by decide))) (orN (tg_ne (fm40 k9 hi9).2.2.2.2.2.2.2.2.2.2.2.2 tz7 (tnB2 (n := 13) hp96 (by decide))) (orN (tg_ne (fm40 k9 hi9).2.2.2.2.2.2.2.2.2.2.2.2 tz9 (tnB2 (n := 13) hp96 (by decide))) (orN (tg_ne (fm40 k9 hi9).2.2.2.2.2.2.2.2.2.2.2.2 tz11 (tnB2 (n := 13) hp96 (by decide))) (orN (tg_ne (fm40 k9 hi9).2.2.2.2.2.2.2.2.2.2.2.2 tz13 (tnB2 (n := 13) hp96 (by decide))) (orN (tg_ne (fm40 k9 hi9).2.2.2.2.2.2.2.2.2.2.2.2 tz15 (tnB2 (n := 13) hp96 (by decide))) (tg_ne (fm40 k9 hi9).2.2.2.2.2.2.2.2.2.2.2.2 tz17 (tnS hi9.2)))))))), (fm40 k9 hi9).2.2.2.2.2.2.2.2.2.2.2.2⟩
    have fm69 : ∀ k9, k9 < pc → pf k9 = some (pa k9) ∧ wd_at w20 (pa k9) (.inr (3, [.int (plv k9), .int (pwo k9), .int (phd k9), .int (pgd k9), .int (pdy k9), .int (pno k9), .int (ptp k9)])) ∧ tg (pa k9) = 3000 + k9 := fun k9 hi9 => ⟨(hP9 k9 hi9).1, kq39.2 _ _ (hP9 k9 hi9).2.1 (orN (tg_ne (hP9 k9 hi9).2.2 tI11 (tnA (show 11 < 3000 by decide))) (orN (tg_ne (hP9 k9 hi9).2.2 tz7 (tnB2 (n := 13) hp96 (by decide))) (orN (tg_ne (hP9 k9 hi9).2.2 tz9 (tnB2 (n := 13) hp96 (by decide))) (orN (tg_ne (hP9 k9 hi9).2.2 tz11 (tnB2 (n := 13) hp96 (by decide))) (orN (tg_ne (hP9 k9 hi9).2.2 tz13 (tnB2 (n := 13) hp96 (by decide))) (orN (tg_ne (hP9 k9 hi9).2.2 tz15 (tnB2 (n := 13) hp96 (by decide))) (tg_ne (hP9 k9 hi9).2.2 tz17 (tnB2 (n := 13) hp96 (by decide))))))))), (hP9 k9 hi9).2.2⟩
    have fm70 : ∀ k9, k9 < ac → af k9 = some (ad k9) ∧ wd_at w20 (ad k9) (.inr (0, [.int (av0 k9), .int (av1 k9), .int (av2 k9), .int (av3 k9)])) ∧ tg (ad k9) = 4000 + k9 := fun k9 hi9 => ⟨(hA9 k9 hi9).1, kq39.2 _ _ (hA9 k9 hi9).2.1 (orN (tg_ne (hA9 k9 hi9).2.2 tI11 (tnA (show 11 < 4000 by decide))) (orN (tg_ne (hA9 k9 hi9).2.2 tz7 (tnB2 (n := 13) hp96 (by decide))) (orN (tg_ne (hA9 k9 hi9).2.2 tz9 (tnB2 (n := 13) hp96 (by decide))) (orN (tg_ne (hA9 k9 hi9).2.2 tz11 (tnB2 (n := 13) hp96 (by decide))) (orN (tg_ne (hA9 k9 hi9).2.2 tz13 (tnB2 (n := 13) hp96 (by decide))) (orN (tg_ne (hA9 k9 hi9).2.2 tz15 (tnB2 (n := 13) hp96 (by decide))) (tg_ne (hA9 k9 hi9).2.2 tz17 (tnB2 (n := 13) hp96 (by decide))))))))), (hA9 k9 hi9).2.2⟩
    have fm71 : ∀ k9, k9 < sc → zf k9 = some (so k9) ∧ wd_at w20 (so k9) (.inr (6, [.int (sp0 k9), .int (sp1 k9), .ref (sr k9)])) ∧ tg (so k9) = 5000 + k9 ∧ wd_at w20 (sr k9) (.inl (cy 2, 12, .inl (sd k9))) ∧ tg (sr k9) = 6000 + k9 := fun k9 hi9 => ⟨(hS9 k9 hi9).1, kq39.2 _ _ (hS9 k9 hi9).2.1 (orN (tg_ne (hS9 k9 hi9).2.2.1 tI11 (tnA (show 11 < 5000 by decide))) (orN (tg_ne (hS9 k9 hi9).2.2.1 tz7 (tnB2 (n := 13) hp96 (by decide))) (orN (tg_ne (hS9 k9 hi9).2.2.1 tz9 (tnB2 (n := 13) hp96 (by decide))) (orN (tg_ne (hS9 k9 hi9).2.2.1 tz11 (tnB2 (n := 13) hp96 (by decide))) (orN (tg_ne (hS9 k9 hi9).2.2.1 tz13 (tnB2 (n := 13) hp96 (by decide))) (orN (tg_ne (hS9 k9 hi9).2.2.1 tz15 (tnB2 (n := 13) hp96 (by decide))) (tg_ne (hS9 k9 hi9).2.2.1 tz17 (tnB2 (n := 13) hp96 (by decide))))))))), (hS9 k9 hi9).2.2.1, kq39.2 _ _ (hS9 k9 hi9).2.2.2.1 (orN (tg_ne (hS9 k9 hi9).2.2.2.2 tI11 (tnA (show 11 < 6000 by decide))) (orN (tg_ne (hS9 k9 hi9).2.2.2.2 tz7 (tnB2 (n := 13) hp96 (by decide))) (orN (tg_ne (hS9 k9 hi9).2.2.2.2 tz9 (tnB2 (n := 13) hp96 (by decide))) (orN (tg_ne (hS9 k9 hi9).2.2.2.2 tz11 (tnB2 (n := 13) hp96 (by decide))) (orN (tg_ne (hS9 k9 hi9).2.2.2.2 tz13 (tnB2 (n := 13) hp96 (by decide))) (orN (tg_ne (hS9 k9 hi9).2.2.2.2 tz15 (tnB2 (n := 13) hp96 (by decide))) (tg_ne (hS9 k9 hi9).2.2.2.2 tz17 (tnB2 (n := 13) hp96 (by decide))))))))), (hS9 k9 hi9).2.2.2.2⟩
    have fm72 : ∀ k9, k9 < sh → (hf k9 = some (sw k9) ∧ hto k9 < 12) ∧ wd_at w20 (sw k9) (.inr (5, [.int (nI (hto k9)), .int (hpp k9), .int (hle k9), .int (ham k9), .int (hhh k9), .int (hdd k9), .int (hru k9), .int (hde k9), .int (hcp k9), .int (hld k9)])) ∧ tg (sw k9) = 7000 + k9 := fun k9 hi9 => ⟨(hH9 k9 hi9).1, kq39.2 _ _ (hH9 k9 hi9).2.1 (orN (tg_ne (hH9 k9 hi9).2.2 tI11 (tnA (show 11 < 7000 by decide))) (orN (tg_ne (hH9 k9 hi9).2.2 tz7 (tnB2 (n := 13) hp96 (by decide))) (orN (tg_ne (hH9 k9 hi9).2.2 tz9 (tnB2 (n := 13) hp96 (by decide))) (orN (tg_ne (hH9 k9 hi9).2.2 tz11 (tnB2 (n := 13) hp96 (by decide))) (orN (tg_ne (hH9 k9 hi9).2.2 tz13 (tnB2 (n := 13) hp96 (by decide))) (orN (tg_ne (hH9 k9 hi9).2.2 tz15 (tnB2 (n := 13) hp96 (by decide))) (tg_ne (hH9 k9 hi9).2.2 tz17 (tnB2 (n := 13) hp96 (by decide))))))))), (hH9 k9 hi9).2.2⟩
    have kp73 := kp0.tr kq39 (fun b9 hm q9 => (fun q9 => Or.elim q9 (fun q9 => q9 ▸ (tgS tI11 (by decide))) (fun q9 => Or.elim q9 (fun q9 => q9 ▸ (tgS tz7 (by omega))) (fun q9 => Or.elim q9 (fun q9 => q9 ▸ (tgS tz9 (by omega))) (fun q9 => Or.elim q9 (fun q9 => q9 ▸ (tgS tz11 (by omega))) (fun q9 => Or.elim q9 (fun q9 => q9 ▸ (tgS tz13 (by omega))) (fun q9 => Or.elim q9 (fun q9 => q9 ▸ (tgS tz15 (by omega))) (fun q9 => q9 ▸ (tgS tz17 (by omega))))))))) q9)
    refine W.eq (g2 := F0 m 20 ls [.int rx28]) rfl (W.widen (k := 0) (n := 0) (Nat.le_of_ble_eq_true rfl) (Nat.le_of_ble_eq_true rfl) ?_)
    refine lv_istore_n (lv' := [(2, .int rx28), (0, .ref x), (1, .int (nI j))]) hx hb dX10_text_20 rfl hl (by decide) rfl (fun ls hl => ?_)
    refine lv_aload_n hx hb dX10_text_21 rfl (lv_at hl 1 rfl) ?_
    refine x_get (ref := "NoteHouse") F hP k41 rfl (fun _ h => List.mem_cons_of_mem _ (List.mem_append_left _ (List.mem_append_left _ (List.mem_append_left _ (List.mem_append_right _ (h)))))) 6 (Nat.le_of_ble_eq_true rfl) (List.mem_cons_of_mem _ (List.mem_append_left _ (List.mem_append_left _ (List.mem_append_left _ (List.mem_append_left _ (List.mem_append_left _ (List.mem_of_getElem? (i := 1) rfl))))))) rfl rfl dX10_text_22 ?_
    refine lv_iconst (v := 0) hx hb dX10_text_25 (by decide) ?_
    refine y_put (ref := "NoteHouse$Tape") F hP hD hS k32 rfl (fun _ h => List.mem_cons_of_mem _ (List.mem_append_left _ (List.mem_append_left _ (List.mem_append_right _ (h))))) tyX7_ok nmX7 1 (Nat.le_of_ble_eq_true rfl) (List.mem_cons_of_mem _ (List.mem_append_left _ (List.mem_append_left _ (List.mem_append_left _ (List.mem_append_left _ (List.mem_append_left _ (List.mem_of_getElem? (i := 2) rfl))))))) rfl rfl rfl rfl (Nat.le_of_ble_eq_true rfl) dX10_text_26 (fun w74 ew75 H locs hP hD hS => ?_)
    have k76 := wd_at.pt ew75 k41 (tg_ne tI0 tI11 (by decide))
    have k77 := wd_at.pt ew75 k42 (tg_ne tI1 tI11 (by decide))
    have k78 := wd_at.pt ew75 k43 (tg_ne tI2 tI11 (by decide))
    have k79 := wd_at.pt ew75 k44 (tg_ne tI3 tI11 (by decide))
    have k80 := wd_at.pt ew75 k45 (tg_ne tI4 tI11 (by decide))
    have k81 := wd_at.pt ew75 k46 (tg_ne tI5 tI11 (by decide))
    have k82 := wd_at.pt ew75 k47 (tg_ne tI6 tI11 (by decide))
    have k83 := wd_at.pt ew75 k48 (tg_ne tI7 tI11 (by decide))
    have k84 := wd_at.pt ew75 k49 (tg_ne tI8 tI11 (by decide))
    have k85 := wd_at.pt ew75 k50 (tg_ne tI9 tI11 (by decide))
    have k86 := wd_at.pt ew75 k51 (tg_ne tI10 tI11 (by decide))
    have k87 : wd_at w74 a6 (.inr (7, [.ref tb, .int 0, .int (nI ax21)])) := wd_at.ps ew75 k32
    have k88 := wd_at.pt ew75 k52 (tg_ne tI12 tI11 (by decide))
    have k89 := wd_at.pt ew75 k53 (tg_ne tI13 tI11 (by decide))
    have k90 := wd_at.pt ew75 k54 (tg_ne tI14 tI11 (by decide))
    have k91 := wd_at.pt ew75 k55 (tg_ne tI15 tI11 (by decide))
    have k92 := wd_at.pt ew75 k56 (tg_ne tI16 tI11 (by decide))
    have k93 := wd_at.pt ew75 k57 (tg_ne tI17 tI11 (by decide))
    have k94 := wd_at.pt ew75 k58 (tg_ne tI18 tI11 (by decide))
    have k95 := wd_at.pt ew75 k59 (tg_ne tI19 tI11 (by decide))
    have k96 := wd_at.pt ew75 k60 (tg_ne tI20 tI11 (by decide))
    have k97 := wd_at.pt ew75 k61 (tg_ne tI21 tI11 (by decide))
    have k98 := wd_at.pt ew75 k62 (tg_ne tI22 tI11 (by decide))
    have k99 := wd_at.pt ew75 k63 (tg_ne tI23 tI11 (tnA (show 11 < 30 by decide)))
    have k100 := wd_at.pt ew75 k64 (tg_ne tI24 tI11 (tnA (show 11 < 32 by decide)))
    have k101 := wd_at.pt ew75 k65 (tg_ne tI25 tI11 (tnA (show 11 < 30 by decide)))
    have k102 := wd_at.pt ew75 k66 (tg_ne tI26 tI11 (tnA (show 11 < 32 by decide)))
    have k103 := wd_at.pt ew75 k33 (tg_ne tz7 tI11 (tnA (show 11 < 200 by decide)))
    have k104 := wd_at.pt ew75 k34 (tg_ne tz9 tI11 (tnA (show 11 < 220 by decide)))
    have k105 := wd_at.pt ew75 k35 (tg_ne tz11 tI11 (tnA (show 11 < 240 by decide)))
    have k106 := wd_at.pt ew75 k36 (tg_ne tz13 tI11 (tnA (show 11 < 260 by decide)))
    have k107 := wd_at.pt ew75 k37 (tg_ne tz15 tI11 (tnA (show 11 < 280 by decide)))
    have k108 := wd_at.pt ew75 k38 (tg_ne tz17 tI11 (tnA (show 11 < 300 by decide)))
    have fm109 : ∀ i9, i9 < 12 → tf i9 = some (tn i9) ∧ wd_at w74 (tn i9) (.inr (8, [.int (co i9), .int (ra i9), .int (se i9), .ref (ag i9)])) ∧ tg (tn i9) = 100 + i9 := fun i9 hi9 => ⟨(fm67 i9 hi9).1, wd_at.pt ew75 (fm67 i9 hi9).2.1 (tg_ne (fm67 i9 hi9).2.2 tI11 (tnA (show 11 < 100 by decide))), (fm67 i9 hi9).2.2⟩
    have fm110 : ∀ k9, k9 < 13 ∧ k9 ≠ sg → (aOK (cf k9) (nf k9) ∧ ru k9 ≤ 12) ∧ wd_at w74 (aa k9) (.inr (1, [.ref (ga0 k9), .ref (ga1 k9), .ref (ga2 k9), .ref (ga3 k9), .ref (ga4 k9), .int (nI (ru k9))])) ∧ tg (aa k9) = 200 + k9 ∧ wd_at w74 (ga0 k9) (.inl (cy 2, 12, .inl (df k9))) ∧ tg (ga0 k9) = 220 + k9 ∧ wd_at w74 (ga1 k9) (.inl (cy 2, 12, .inl (cf k9))) ∧ tg (ga1 k9) = 240 + k9 ∧ wd_at w74 (ga2 k9) (.inl (cy 2, 72, .inl (nf k9))) ∧ tg (ga2 k9) = 260 + k9 ∧ wd_at w74 (ga3 k9) (.inl (cy 1, 72, .inl (sf k9))) ∧ tg (ga3 k9) = 280 + k9 ∧ wd_at w74 (ga4 k9) (.inl (cy 2, 72, .inl (uf k9))) ∧ tg (ga4 k9) = 300 + k9 := fun k9 hi9 => ⟨(fm68 k9 hi9).1, wd_at.pt ew75 (fm68 k9 hi9).2.1 (tg_ne (fm68 k9 hi9).2.2.1 tI11 (tnA (show 11 < 200 by decide))), (fm68 k9 hi9).2.2.1, wd_at.pt ew75 (fm68 k9 hi9).2.2.2.1 (tg_ne (fm68 k9 hi9).2.2.2.2.1 tI11 (tnA (show 11 < 220 by decide))), (fm68 k9 hi9).2.2.2.2.1, wd_at.pt ew75 (fm68 k9 hi9).2.2.2.2.2.1 (tg_ne (fm68 k9 hi9).2.2.2.2.2.2.1 tI11 (tnA (show 11 < 240 by decide))), (fm68 k9 hi9).2.2.2.2.2.2.1, wd_at.pt ew75 (fm68 k9 hi9).2.2.2.2.2.2.2.1 (tg_ne (fm68 k9 hi9).2.2.2.2.2.2.2.2.1 tI11 (tnA (show 11 < 260 by decide))), (fm68 k9 hi9).2.2.2.2.2.2.2.2.1, wd_at.pt ew75 (fm68 k9 hi9).2.2.2.2.2.2.2.2.2.1 (tg_ne (fm68 k9 hi9).2.2.2.2.2.2.2.2.2.2.1 tI11 (tnA (show 11 < 280 by decide))), (fm68 k9 hi9).2.2.2.2.2.2.2.2.2.2.1, wd_at.pt ew75 (fm68 k9 hi9).2.2.2.2.2.2.2.2.2.2.2.1 (tg_ne (fm68 k9 hi9).2.2.2.2.2.2.2.2.2.2.2.2 tI11 (tnA (show 11 < 300 by decide))), (fm68 k9 hi9).2.2.2.2.2.2.2.2.2.2.2.2⟩
    have fm111 : ∀ k9, k9 < pc → pf k9 = some (pa k9) ∧ wd_at w74 (pa k9) (.inr (3, [.int (plv k9), .int (pwo k9), .int (phd k9), .int (pgd k9), .int (pdy k9), .int (pno k9), .int (ptp k9)])) ∧ tg (pa k9) = 3000 + k9 := fun k9 hi9 => ⟨(fm69 k9 hi9).1, wd_at.pt ew75 (fm69 k9 hi9).2.1 (tg_ne (fm69 k9 hi9).2.2 tI11 (tnA (show 11 < 3000 by decide))), (fm69 k9 hi9).2.2⟩
    have fm112 : ∀ k9, k9 < ac → af k9 = some (ad k9) ∧ wd_at w74 (ad k9) (.inr (0, [.int (av0 k9), .int (av1 k9), .int (av2 k9), .int (av3 k9)])) ∧ tg (ad k9) = 4000 + k9 := fun k9 hi9 => ⟨(fm70 k9 hi9).1, wd_at.pt ew75 (fm70 k9 hi9).2.1 (tg_ne (fm70 k9 hi9).2.2 tI11 (tnA (show 11 < 4000 by decide))), (fm70 k9 hi9).2.2⟩
    have fm113 : ∀ k9, k9 < sc → zf k9 = some (so k9) ∧ wd_at w74 (so k9) (.inr (6, [.int (sp0 k9), .int (sp1 k9), .ref (sr k9)])) ∧ tg (so k9) = 5000 + k9 ∧ wd_at w74 (sr k9) (.inl (cy 2, 12, .inl (sd k9))) ∧ tg (sr k9) = 6000 + k9 := fun k9 hi9 => ⟨(fm71 k9 hi9).1, wd_at.pt ew75 (fm71 k9 hi9).2.1 (tg_ne (fm71 k9 hi9).2.2.1 tI11 (tnA (show 11 < 5000 by decide))), (fm71 k9 hi9).2.2.1, wd_at.pt ew75 (fm71 k9 hi9).2.2.2.1 (tg_ne (fm71 k9 hi9).2.2.2.2 tI11 (tnA (show 11 < 6000 by decide))), (fm71 k9 hi9).2.2.2.2⟩
    have fm114 : ∀ k9, k9 < sh → (hf k9 = some (sw k9) ∧ hto k9 < 12) ∧ wd_at w74 (sw k9) (.inr (5, [.int (nI (hto k9)), .int (hpp k9), .int (hle k9), .int (ham k9), .int (hhh k9), .int (hdd k9), .int (hru k9), .int (hde k9), .int (hcp k9), .int (hld k9)])) ∧ tg (sw k9) = 7000 + k9 := fun k9 hi9 => ⟨(fm72 k9 hi9).1, wd_at.pt ew75 (fm72 k9 hi9).2.1 (tg_ne (fm72 k9 hi9).2.2 tI11 (tnA (show 11 < 7000 by decide))), (fm72 k9 hi9).2.2⟩
    have kp115 := kp73.put ew75 (tgS tI11 (by decide))
    refine lv_iload_n hx hb dX10_text_29 rfl (lv_at hl 0 rfl) ?_
    refine lv_if_eq (tgt := 38) hx hb dX10_text_30 (by decide) (fun c_116 => ?_) (fun c_116 => ?_)
    · refine lv_aload_n hx hb dX10_text_38 rfl (lv_at hl 1 rfl) ?_
      refine x_get (ref := "NoteHouse") F hP k76 rfl (fun _ h => List.mem_cons_of_mem _ (List.mem_append_left _ (List.mem_append_left _ (List.mem_append_left _ (List.mem_append_right _ (h)))))) 1 (Nat.le_of_ble_eq_true rfl) (List.mem_cons_of_mem _ (List.mem_append_left _ (List.mem_append_left _ (List.mem_append_left _ (List.mem_append_left _ (List.mem_append_left _ (List.mem_of_getElem? (i := 3) rfl))))))) rfl rfl dX10_text_39 ?_
      refine lv_iload_n hx hb dX10_text_42 rfl (lv_at hl 2 rfl) ?_
      refine x_aald F hP k82 rfl (vp_in_nI (n := j) (N := 12) (by omega) (by decide)) dX10_text_43 ?_
      have pr117 := (fm109 j (by omega)).1
      have k118 := (fm109 j (by omega)).2.1
      have tz119 := (fm109 j (by omega)).2.2
      rw [nI_clamp (n := j) (by omega), pr117]
      refine W.eq (g2 := F0 m _ ls [.ref (tn j)]) rfl ?_
      refine x_get (ref := "NoteHouse$Town") F hP k118 rfl (fun _ h => List.mem_cons_of_mem _ (List.mem_append_left _ (List.mem_append_right _ (h)))) 3 (Nat.le_of_ble_eq_true rfl) (List.mem_cons_of_mem _ (List.mem_append_left _ (List.mem_append_left _ (List.mem_append_left _ (List.mem_append_left _ (List.mem_append_left _ (List.mem_of_getElem? (i := 4) rfl))))))) rfl rfl dX10_text_44 ?_
      obtain ⟨s9, hs9, es9⟩ := hag j (by omega)
      rw [es9]
      refine W.eq (g2 := F0 m _ ls [.ref (aa s9)]) rfl ?_
      refine lv_astore_n (lv' := [(3, .ref (aa s9)), (2, .int rx28), (0, .ref x), (1, .int (nI j))]) hx hb dX10_text_47 rfl hl (by decide) rfl (fun ls hl => ?_)
      refine lv_aload_n hx hb dX10_text_48 rfl (lv_at hl 2 rfl) ?_
      refine x_get (ref := "NoteHouse") F hP k76 rfl (fun _ h => List.mem_cons_of_mem _ (List.mem_append_left _ (List.mem_append_left _ (List.mem_append_left _ (List.mem_append_right _ (h)))))) 1 (Nat.le_of_ble_eq_true rfl) (List.mem_cons_of_mem _ (List.mem_append_left _ (List.mem_append_left _ (List.mem_append_left _ (List.mem_append_left _ (List.mem_append_left _ (List.mem_of_getElem? (i := 3) rfl))))))) rfl rfl dX10_text_49 ?_
      refine lv_iload_n hx hb dX10_text_52 rfl (lv_at hl 3 rfl) ?_
      refine x_aald F hP k82 rfl (vp_in_nI (n := j) (N := 12) (by omega) (by decide)) dX10_text_53 ?_
      rw [nI_clamp (n := j) (by omega), pr117]
      refine W.eq (g2 := F0 m _ ls [.ref (tn j)]) rfl ?_
      refine lv_aload_n hx hb dX10_text_54 rfl (lv_at hl 2 rfl) ?_
      refine x_get (ref := "NoteHouse") F hP k76 rfl (fun _ h => List.mem_cons_of_mem _ (List.mem_append_left _ (List.mem_append_left _ (List.mem_append_left _ (List.mem_append_right _ (h)))))) 9 (Nat.le_of_ble_eq_true rfl) (List.mem_cons_of_mem _ (List.mem_append_left _ (List.mem_append_left _ (List.mem_append_left _ (List.mem_append_left _ (List.mem_append_left _ (List.mem_of_getElem? (i := 0) rfl))))))) rfl rfl dX10_text_55 ?_
      refine y_put (ref := "NoteHouse$Town") F hP hD hS k118 rfl (fun _ h => List.mem_cons_of_mem _ (List.mem_append_left _ (List.mem_append_right _ (h)))) tyX8_ok nmX8 3 (Nat.le_of_ble_eq_true rfl) (List.mem_cons_of_mem _ (List.mem_append_left _ (List.mem_append_left _ (List.mem_append_left _ (List.mem_append_left _ (List.mem_append_left _ (List.mem_of_getElem? (i := 4) rfl))))))) rfl rfl rfl rfl (Nat.le_of_ble_eq_true rfl) dX10_text_58 (fun w120 ew121 H locs hP hD hS => ?_)
      have fm122 : ∀ i9, i9 < 12 ∧ i9 ≠ j → tf i9 = some (tn i9) ∧ wd_at w74 (tn i9) (.inr (8, [.int (co i9), .int (ra i9), .int (se i9), .ref (ag i9)])) ∧ tg (tn i9) = 100 + i9 := fun i9 hi8 => fm109 i9 hi8.1
      have k123 := wd_at.pt ew121 k76 (tg_ne tI0 tz119 (tnA2 (show 0 < 100 by decide)))
      have k124 := wd_at.pt ew121 k77 (tg_ne tI1 tz119 (tnA2 (show 1 < 100 by decide)))
      have k125 := wd_at.pt ew121 k78 (tg_ne tI2 tz119 (tnA2 (show 2 < 100 by decide)))
      have k126 := wd_at.pt ew121 k79 (tg_ne tI3 tz119 (tnA2 (show 3 < 100 by decide)))
      have k127 := wd_at.pt ew121 k80 (tg_ne tI4 tz119 (tnA2 (show 4 < 100 by decide)))
      have k128 := wd_at.pt ew121 k81 (tg_ne tI5 tz119 (tnA2 (show 5 < 100 by decide)))
      have k129 := wd_at.pt ew121 k82 (tg_ne tI6 tz119 (tnA2 (show 6 < 100 by decide)))
      have k130 := wd_at.pt ew121 k83 (tg_ne tI7 tz119 (tnA2 (show 7 < 100 by decide)))
      have k131 := wd_at.pt ew121 k84 (tg_ne tI8 tz119 (tnA2 (show 8 < 100 by decide)))
      have k132 := wd_at.pt ew121 k85 (tg_ne tI9 tz119 (tnA2 (show 9 < 100 by decide)))
      have k133 := wd_at.pt ew121 k86 (tg_ne tI10 tz119 (tnA2 (show 10 < 100 by decide)))
      have k134 := wd_at.pt ew121 k87 (tg_ne tI11 tz119 (tnA2 (show 11 < 100 by decide)))
      have k135 := wd_at.pt ew121 k88 (tg_ne tI12 tz119 (tnA2 (show 12 < 100 by decide)))
      have k136 := wd_at.pt ew121 k89 (tg_ne tI13 tz119 (tnA2 (show 13 < 100 by decide)))
      have k137 := wd_at.pt ew121 k90 (tg_ne tI14 tz119 (tnA2 (show 14 < 100 by decide)))
      have k138 := wd_at.pt ew121 k91 (tg_ne tI15 tz119 (tnA2 (show 15 < 100 by decide)))
      have k139 := wd_at.pt ew121 k92 (tg_ne tI16 tz119 (tnA2 (show 16 < 100 by decide)))
      have k140 := wd_at.pt ew121 k93 (tg_ne tI17 tz119 (tnA2 (show 17 < 100 by decide)))
      have k141 := wd_at.pt ew121 k94 (tg_ne tI18 tz119 (tnA2 (show 18 < 100 by decide)))
      have k142 := wd_at.pt ew121 k95 (tg_ne tI19 tz119 (tnA2 (show 19 < 100 by decide)))
      have k143 := wd_at.pt ew121 k96 (tg_ne tI20 tz119 (tnA2 (show 20 < 100 by decide)))
      have k144 := wd_at.pt ew121 k97 (tg_ne tI21 tz119 (tnA2 (show 21 < 100 by decide)))
      have k145 := wd_at.pt ew121 k98 (tg_ne tI22 tz119 (tnA2 (show 22 < 100 by decide)))
      have k146 := wd_at.pt ew121 k99 (tg_ne tI23 tz119 (tnB (n := 2) hlu (by decide)))
      have k147 := wd_at.pt ew121 k100 (tg_ne tI24 tz119 (tnB (n := 2) hlu (by decide)))
      have k148 := wd_at.pt ew121 k101 (tg_ne tI25 tz119 (tnB (n := 2) hlv (by decide)))
      have k149 := wd_at.pt ew121 k102 (tg_ne tI26 tz119 (tnB (n := 2) hlv (by decide)))
      have k150 := wd_at.pt ew121 k103 (tg_ne tz7 tz119 (tnB2 (n := 12) hj (by decide)))
      have k151 := wd_at.pt ew121 k104 (tg_ne tz9 tz119 (tnB2 (n := 12) hj (by decide)))
      have k152 := wd_at.pt ew121 k105 (tg_ne tz11 tz119 (tnB2 (n := 12) hj (by decide)))
      have k153 := wd_at.pt ew121 k106 (tg_ne tz13 tz119 (tnB2 (n := 12) hj (by decide)))
      have k154 := wd_at.pt ew121 k107 (tg_ne tz15 tz119 (tnB2 (n := 12) hj (by decide)))
      have k155 := wd_at.pt ew121 k108 (tg_ne tz17 tz119 (tnB2 (n := 12) hj (by decide)))
      have k156 : wd_at w120 (tn j) (.inr (8, [.int (co j), .int (ra j), .int (se j), .ref (aa sg)])) := wd_at.ps ew121 k118
      have fm157 : ∀ i9, i9 < 12 ∧ i9 ≠ j → tf i9 = some (tn i9) ∧ wd_at w120 (tn i9) (.inr (8, [.int (co i9), .int (ra i9), .int (se i9), .ref (ag i9)])) ∧ tg (tn i9) = 100 + i9 := fun i9 hi9 => ⟨(fm122 i9 hi9).1, wd_at.pt ew121 (fm122 i9 hi9).2.1 (tg_ne (fm122 i9 hi9).2.2 tz119 (tnS hi9.2)), (fm122 i9 hi9).2.2⟩
      have fm158 : ∀ k9, k9 < 13 ∧ k9 ≠ sg → (aOK (cf k9) (nf k9) ∧ ru k9 ≤ 12) ∧ wd_at w120 (aa k9) (.inr (1, [.ref (ga0 k9), .ref (ga1 k9), .ref (ga2 k9), .ref (ga3 k9), .ref (ga4 k9), .int (nI (ru k9))])) ∧ tg (aa k9) = 200 + k9 ∧ wd_at w120 (ga0 k9) (.inl (cy 2, 12, .inl (df k9))) ∧ tg (ga0 k9) = 220 + k9 ∧ wd_at w120 (ga1 k9) (.inl (cy 2, 12, .inl (cf k9))) ∧ tg (ga1 k9) = 240 + k9 ∧ wd_at w120 (ga2 k9) (.inl (cy 2, 72, .inl (nf k9))) ∧ tg (ga2 k9) = 260 + k9 ∧ wd_at w120 (ga3 k9) (.inl (cy 1, 72, .inl (sf k9))) ∧ tg (ga3 k9) = 280 + k9 ∧ wd_at w120 (ga4 k9) (.inl (cy 2, 72, .inl (uf k9))) ∧ tg (ga4 k9) = 300 + k9 := fun k9 hi9 => ⟨(fm110 k9 hi9).1, wd_at.pt ew121 (fm110 k9 hi9).2.1 (tg_ne (fm110 k9 hi9).2.2.1 tz119 (tnB2 (n := 12) hj (by decide))), (fm110 k9 hi9).2.2.1, wd_at.pt ew121 (fm110 k9 hi9).2.2.2.1 (tg_ne (fm110 k9 hi9).2.2.2.2.1 tz119 (tnB2 (n := 12) hj (by decide))), (fm110 k9 hi9).2.2.2.2.1, wd_at.pt ew121 (fm110 k9 hi9).2.2.2.2.2.1 (tg_ne (fm110 k9 hi9).2.2.2.2.2.2.1 tz119 (tnB2 (n := 12) hj (by decide))), (fm110 k9 hi9).2.2.2.2.2.2.1, wd_at.pt ew121 (fm110 k9 hi9).2.2.2.2.2.2.2.1 (tg_ne (fm110 k9 hi9).2.2.2.2.2.2.2.2.1 tz119 (tnB2 (n := 12) hj (by decide))), (fm110 k9 hi9).2.2.2.2.2.2.2.2.1, wd_at.pt ew121 (fm110 k9 hi9).2.2.2.2.2.2.2.2.2.1 (tg_ne (fm110 k9 hi9).2.2.2.2.2.2.2.2.2.2.1 tz119 (tnB2 (n := 12) hj (by decide))), (fm110 k9 hi9).2.2.2.2.2.2.2.2.2.2.1, wd_at.pt ew121 (fm110 k9 hi9).2.2.2.2.2.2.2.2.2.2.2.1 (tg_ne (fm110 k9 hi9).2.2.2.2.2.2.2.2.2.2.2.2 tz119 (tnB2 (n := 12) hj (by decide))), (fm110 k9 hi9).2.2.2.2.2.2.2.2.2.2.2.2⟩
      have fm159 : ∀ k9, k9 < pc → pf k9 = some (pa k9) ∧ wd_at w120 (pa k9) (.inr (3, [.int (plv k9), .int (pwo k9), .int (phd k9), .int (pgd k9), .int (pdy k9), .int (pno k9), .int (ptp k9)])) ∧ tg (pa k9) = 3000 + k9 := fun k9 hi9 => ⟨(fm111 k9 hi9).1, wd_at.pt ew121 (fm111 k9 hi9).2.1 (tg_ne (fm111 k9 hi9).2.2 tz119 (tnB2 (n := 12) hj (by decide))), (fm111 k9 hi9).2.2⟩
      have fm160 : ∀ k9, k9 < ac → af k9 = some (ad k9) ∧ wd_at w120 (ad k9) (.inr (0, [.int (av0 k9), .int (av1 k9), .int (av2 k9), .int (av3 k9)])) ∧ tg (ad k9) = 4000 + k9 := fun k9 hi9 => ⟨(fm112 k9 hi9).1, wd_at.pt ew121 (fm112 k9 hi9).2.1 (tg_ne (fm112 k9 hi9).2.2 tz119 (tnB2 (n := 12) hj (by decide))), (fm112 k9 hi9).2.2⟩
      have fm161 : ∀ k9, k9 < sc → zf k9 = some (so k9) ∧ wd_at w120 (so k9) (.inr (6, [.int (sp0 k9), .int (sp1 k9), .ref (sr k9)])) ∧ tg (so k9) = 5000 + k9 ∧ wd_at w120 (sr k9) (.inl (cy 2, 12, .inl (sd k9))) ∧ tg (sr k9) = 6000 + k9 := fun k9 hi9 => ⟨(fm113 k9 hi9).1, wd_at.pt ew121 (fm113 k9 hi9).2.1 (tg_ne (fm113 k9 hi9).2.2.1 tz119 (tnB2 (n := 12) hj (by decide))), (fm113 k9 hi9).2.2.1, wd_at.pt ew121 (fm113 k9 hi9).2.2.2.1 (tg_ne (fm113 k9 hi9).2.2.2.2 tz119 (tnB2 (n := 12) hj (by decide))), (fm113 k9 hi9).2.2.2.2⟩
      have fm162 : ∀ k9, k9 < sh → (hf k9 = some (sw k9) ∧ hto k9 < 12) ∧ wd_at w120 (sw k9) (.inr (5, [.int (nI (hto k9)), .int (hpp k9), .int (hle k9), .int (ham k9), .int (hhh k9), .int (hdd k9), .int (hru k9), .int (hde k9), .int (hcp k9), .int (hld k9)])) ∧ tg (sw k9) = 7000 + k9 := fun k9 hi9 => ⟨(fm114 k9 hi9).1, wd_at.pt ew121 (fm114 k9 hi9).2.1 (tg_ne (fm114 k9 hi9).2.2 tz119 (tnB2 (n := 12) hj (by decide))), (fm114 k9 hi9).2.2⟩
      have kp163 := kp115.put ew121 (tgS tz119 (by omega))
      refine lv_aload_n hx hb dX10_text_61 rfl (lv_at hl 2 rfl) ?_
      refine lv_aload_n hx hb dX10_text_62 rfl (lv_at hl 0 rfl) ?_
      refine y_put (ref := "NoteHouse") F hP hD hS k123 rfl (fun _ h => List.mem_cons_of_mem _ (List.mem_append_left _ (List.mem_append_left _ (List.mem_append_left _ (List.mem_append_right _ (h)))))) tyX10_ok nmX10 9 (Nat.le_of_ble_eq_true rfl) (List.mem_cons_of_mem _ (List.mem_append_left _ (List.mem_append_left _ (List.mem_append_left _ (List.mem_append_left _ (List.mem_append_left _ (List.mem_of_getElem? (i := 0) rfl))))))) rfl rfl rfl rfl (Nat.le_of_ble_eq_true rfl) dX10_text_63 (fun w164 ew165 H locs hP hD hS => ?_)
      have k166 : wd_at w164 x (.inr (10, [.ref a0, .ref a1, .ref a2, .ref a3, .ref a4, .ref a5, .ref a6, .ref a7, .ref a8, .ref (aa s9), .ref a10, .ref a11, .int td, .int (nI pc), .int (nI ac), .int (nI sc), .int (nI sh)])) := wd_at.ps ew165 k123
      have k167 := wd_at.pt ew165 k124 (tg_ne tI1 tI0 (by decide))
      have k168 := wd_at.pt ew165 k125 (tg_ne tI2 tI0 (by decide))
      have k169 := wd_at.pt ew165 k126 (tg_ne tI3 tI0 (by decide))
      have k170 := wd_at.pt ew165 k127 (tg_ne tI4 tI0 (by decide))
      have k171 := wd_at.pt ew165 k128 (tg_ne tI5 tI0 (by decide))
      have k172 := wd_at.pt ew165 k129 (tg_ne tI6 tI0 (by decide))
      have k173 := wd_at.pt ew165 k130 (tg_ne tI7 tI0 (by decide))
      have k174 := wd_at.pt ew165 k131 (tg_ne tI8 tI0 (by decide))
      have k175 := wd_at.pt ew165 k132 (tg_ne tI9 tI0 (by decide))
      have k176 := wd_at.pt ew165 k133 (tg_ne tI10 tI0 (by decide))
      have k177 := wd_at.pt ew165 k134 (tg_ne tI11 tI0 (by decide))
      have k178 := wd_at.pt ew165 k135 (tg_ne tI12 tI0 (by decide))
      have k179 := wd_at.pt ew165 k136 (tg_ne tI13 tI0 (by decide))
      have k180 := wd_at.pt ew165 k137 (tg_ne tI14 tI0 (by decide))
      have k181 := wd_at.pt ew165 k138 (tg_ne tI15 tI0 (by decide))
      have k182 := wd_at.pt ew165 k139 (tg_ne tI16 tI0 (by decide))
      have k183 := wd_at.pt ew165 k140 (tg_ne tI17 tI0 (by decide))
      have k184 := wd_at.pt ew165 k141 (tg_ne tI18 tI0 (by decide))
      have k185 := wd_at.pt ew165 k142 (tg_ne tI19 tI0 (by decide))
      have k186 := wd_at.pt ew165 k143 (tg_ne tI20 tI0 (by decide))
      have k187 := wd_at.pt ew165 k144 (tg_ne tI21 tI0 (by decide))
      have k188 := wd_at.pt ew165 k145 (tg_ne tI22 tI0 (by decide))
      have k189 := wd_at.pt ew165 k146 (tg_ne tI23 tI0 (tnA (show 0 < 30 by decide)))
      have k190 := wd_at.pt ew165 k147 (tg_ne tI24 tI0 (tnA (show 0 < 32 by decide)))
      have k191 := wd_at.pt ew165 k148 (tg_ne tI25 tI0 (tnA (show 0 < 30 by decide)))
      have k192 := wd_at.pt ew165 k149 (tg_ne tI26 tI0 (tnA (show 0 < 32 by decide)))
      have k193 := wd_at.pt ew165 k150 (tg_ne tz7 tI0 (tnA (show 0 < 200 by decide)))
      have k194 := wd_at.pt ew165 k151 (tg_ne tz9 tI0 (tnA (show 0 < 220 by decide)))
      have k195 := wd_at.pt ew165 k152 (tg_ne tz11 tI0 (tnA (show 0 < 240 by decide)))
      have k196 := wd_at.pt ew165 k153 (tg_ne tz13 tI0 (tnA (show 0 < 260 by decide)))
      have k197 := wd_at.pt ew165 k154 (tg_ne tz15 tI0 (tnA (show 0 < 280 by decide)))
      have k198 := wd_at.pt ew165 k155 (tg_ne tz17 tI0 (tnA (show 0 < 300 by decide)))
      have k199 := wd_at.pt ew165 k156 (tg_ne tz119 tI0 (tnA (show 0 < 100 by decide)))
      have fm200 : ∀ i9, i9 < 12 ∧ i9 ≠ j → tf i9 = some (tn i9) ∧ wd_at w164 (tn i9) (.inr (8, [.int (co i9), .int (ra i9), .int (se i9), .ref (ag i9)])) ∧ tg (tn i9) = 100 + i9 := fun i9 hi9 => ⟨(fm157 i9 hi9).1, wd_at.pt ew165 (fm157 i9 hi9).2.1 (tg_ne (fm157 i9 hi9).2.2 tI0 (tnA (show 0 < 100 by decide))), (fm157 i9 hi9).2.2⟩
      have fm201 : ∀ k9, k9 < 13 ∧ k9 ≠ sg → (aOK (cf k9) (nf k9) ∧ ru k9 ≤ 12) ∧ wd_at w164 (aa k9) (.inr (1, [.ref (ga0 k9), .ref (ga1 k9), .ref (ga2 k9), .ref (ga3 k9), .ref (ga4 k9), .int (nI (ru k9))])) ∧ tg (aa k9) = 200 + k9 ∧ wd_at w164 (ga0 k9) (.inl (cy 2, 12, .inl (df k9))) ∧ tg (ga0 k9) = 220 + k9 ∧ wd_at w164 (ga1 k9) (.inl (cy 2, 12, .inl (cf k9))) ∧ tg (ga1 k9) = 240 + k9 ∧ wd_at w164 (ga2 k9) (.inl (cy 2, 72, .inl (nf k9))) ∧ tg (ga2 k9) = 260 + k9 ∧ wd_at w164 (ga3 k9) (.inl (cy 1, 72, .inl (sf k9))) ∧ tg (ga3 k9) = 280 + k9 ∧ wd_at w164 (ga4 k9) (.inl (cy 2, 72, .inl (uf k9))) ∧ tg (ga4 k9) = 300 + k9 := fun k9 hi9 => ⟨(fm158 k9 hi9).1, wd_at.pt ew165 (fm158 k9 hi9).2.1 (tg_ne (fm158 k9 hi9).2.2.1 tI0 (tnA (show 0 < 200 by decide))), (fm158 k9 hi9).2.2.1, wd_at.pt ew165 (fm158 k9 hi9).2.2.2.1 (tg_ne (fm158 k9 hi9).2.2.2.2.1 tI0 (tnA (show 0 < 220 by decide))), (fm158 k9 hi9).2.2.2.2.1, wd_at.pt ew165 (fm158 k9 hi9).2.2.2.2.2.1 (tg_ne (fm158 k9 hi9).2.2.2.2.2.2.1 tI0 (tnA (show 0 < 240 by decide))), (fm158 k9 hi9).2.2.2.2.2.2.1, wd_at.pt ew165 (fm158 k9 hi9).2.2.2.2.2.2.2.1 (tg_ne (fm158 k9 hi9).2.2.2.2.2.2.2.2.1 tI0 (tnA (show 0 < 260 by decide))), (fm158 k9 hi9).2.2.2.2.2.2.2.2.1, wd_at.pt ew165 (fm158 k9 hi9).2.2.2.2.2.2.2.2.2.1 (tg_ne (fm158 k9 hi9).2.2.2.2.2.2.2.2.2.2.1 tI0 (tnA (show 0 < 280 by decide))), (fm158 k9 hi9).2.2.2.2.2.2.2.2.2.2.1, wd_at.pt ew165 (fm158 k9 hi9).2.2.2.2.2.2.2.2.2.2.2.1 (tg_ne (fm158 k9 hi9).2.2.2.2.2.2.2.2.2.2.2.2 tI0 (tnA (show 0 < 300 by decide))), (fm158 k9 hi9).2.2.2.2.2.2.2.2.2.2.2.2⟩
      have fm202 : ∀ k9, k9 < pc → pf k9 = some (pa k9) ∧ wd_at w164 (pa k9) (.inr (3, [.int (plv k9), .int (pwo k9), .int (phd k9), .int (pgd k9), .int (pdy k9), .int (pno k9), .int (ptp k9)])) ∧ tg (pa k9) = 3000 + k9 := fun k9 hi9 => ⟨(fm159 k9 hi9).1, wd_at.pt ew165 (fm159 k9 hi9).2.1 (tg_ne (fm159 k9 hi9).2.2 tI0 (tnA (show 0 < 3000 by decide))), (fm159 k9 hi9).2.2⟩
      have fm203 : ∀ k9, k9 < ac → af k9 = some (ad k9) ∧ wd_at w164 (ad k9) (.inr (0, [.int (av0 k9), .int (av1 k9), .int (av2 k9), .int (av3 k9)])) ∧ tg (ad k9) = 4000 + k9 := fun k9 hi9 => ⟨(fm160 k9 hi9).1, wd_at.pt ew165 (fm160 k9 hi9).2.1 (tg_ne (fm160 k9 hi9).2.2 tI0 (tnA (show 0 < 4000 by decide))), (fm160 k9 hi9).2.2⟩
      have fm204 : ∀ k9, k9 < sc → zf k9 = some (so k9) ∧ wd_at w164 (so k9) (.inr (6, [.int (sp0 k9), .int (sp1 k9), .ref (sr k9)])) ∧ tg (so k9) = 5000 + k9 ∧ wd_at w164 (sr k9) (.inl (cy 2, 12, .inl (sd k9))) ∧ tg (sr k9) = 6000 + k9 := fun k9 hi9 => ⟨(fm161 k9 hi9).1, wd_at.pt ew165 (fm161 k9 hi9).2.1 (tg_ne (fm161 k9 hi9).2.2.1 tI0 (tnA (show 0 < 5000 by decide))), (fm161 k9 hi9).2.2.1, wd_at.pt ew165 (fm161 k9 hi9).2.2.2.1 (tg_ne (fm161 k9 hi9).2.2.2.2 tI0 (tnA (show 0 < 6000 by decide))), (fm161 k9 hi9).2.2.2.2⟩
      have fm205 : ∀ k9, k9 < sh → (hf k9 = some (sw k9) ∧ hto k9 < 12) ∧ wd_at w164 (sw k9) (.inr (5, [.int (nI (hto k9)), .int (hpp k9), .int (hle k9), .int (ham k9), .int (hhh k9), .int (hdd k9), .int (hru k9), .int (hde k9), .int (hcp k9), .int (hld k9)])) ∧ tg (sw k9) = 7000 + k9 := fun k9 hi9 => ⟨(fm162 k9 hi9).1, wd_at.pt ew165 (fm162 k9 hi9).2.1 (tg_ne (fm162 k9 hi9).2.2 tI0 (tnA (show 0 < 7000 by decide))), (fm162 k9 hi9).2.2⟩
      have kp206 := kp163.put ew165 (tgS tI0 (by decide))
      have hagn : ∀ i, i < 12 → ∃ s, s < 13 ∧ va_up ag j (aa sg) i = aa s := fun i hi => by
        by_cases e9 : i = j
        · exact ⟨sg, by omega, by rw [e9, va_up_self]⟩
        · rw [va_up_ne _ _ e9]; exact hag i hi
      refine lv_aload_n hx hb dX10_text_66 rfl (lv_at hl 2 rfl) ?_
      refine x_get (ref := "NoteHouse") F hP k166 rfl (fun _ h => List.mem_cons_of_mem _ (List.mem_append_left _ (List.mem_append_left _ (List.mem_append_left _ (List.mem_append_right _ (h)))))) 1 (Nat.le_of_ble_eq_true rfl) (List.mem_cons_of_mem _ (List.mem_append_left _ (List.mem_append_left _ (List.mem_append_left _ (List.mem_append_left _ (List.mem_append_left _ (List.mem_of_getElem? (i := 3) rfl))))))) rfl rfl dX10_text_67 ?_
      refine lv_iload_n hx hb dX10_text_70 rfl (lv_at hl 3 rfl) ?_
      refine x_aald F hP k172 rfl (vp_in_nI (n := j) (N := 12) (by omega) (by decide)) dX10_text_71 ?_
      rw [nI_clamp (n := j) (by omega), pr117]
      refine W.eq (g2 := F0 m _ ls [.ref (tn j)]) rfl ?_
      refine x_get (ref := "NoteHouse$Town") F hP k199 rfl (fun _ h => List.mem_cons_of_mem _ (List.mem_append_left _ (List.mem_append_right _ (h)))) 3 (Nat.le_of_ble_eq_true rfl) (List.mem_cons_of_mem _ (List.mem_append_left _ (List.mem_append_left _ (List.mem_append_left _ (List.mem_append_left _ (List.mem_append_left _ (List.mem_of_getElem? (i := 4) rfl))))))) rfl rfl dX10_text_72 ?_
      refine x_get (ref := "NoteHouse$Agent") F hP k193 rfl (fun _ h => List.mem_cons_of_mem _ (List.mem_append_right _ (h))) 5 (Nat.le_of_ble_eq_true rfl) (List.mem_cons_of_mem _ (List.mem_append_left _ (List.mem_append_left _ (List.mem_append_left _ (List.mem_append_left _ (List.mem_append_left _ (List.mem_of_getElem? (i := 5) rfl))))))) rfl rfl dX10_text_75 ?_
      have fm208 : ∀ i9, i9 < 12 → tf i9 = some (tn i9) ∧ wd_at w164 (tn i9) (.inr (8, [.int (co i9), .int (ra i9), .int (se i9), .ref ((va_up ag j (aa sg)) i9)])) ∧ tg (tn i9) = 100 + i9 := by
        intro i9 hi9
        by_cases e9 : i9 = j
        · rw [e9]
          exact ⟨pr117, (by simp only [va_up_self]; exact k199), tz119⟩
        · simp only [va_up_ne _ _ e9]
          exact fm200 i9 (by omega)
      have fm209 : ∀ k9, k9 < 13 → (aOK ((va_up cf sg cfx24) k9) ((va_up nf sg nfx25) k9) ∧ (va_up ru sg rrx22) k9 ≤ 12) ∧ wd_at w164 (aa k9) (.inr (1, [.ref (ga0 k9), .ref (ga1 k9), .ref (ga2 k9), .ref (ga3 k9), .ref (ga4 k9), .int (nI ((va_up ru sg rrx22) k9))])) ∧ tg (aa k9) = 200 + k9 ∧ wd_at w164 (ga0 k9) (.inl (cy 2, 12, .inl ((va_up df sg dfx23) k9))) ∧ tg (ga0 k9) = 220 + k9 ∧ wd_at w164 (ga1 k9) (.inl (cy 2, 12, .inl ((va_up cf sg cfx24) k9))) ∧ tg (ga1 k9) = 240 + k9 ∧ wd_at w164 (ga2 k9) (.inl (cy 2, 72, .inl ((va_up nf sg nfx25) k9))) ∧ tg (ga2 k9) = 260 + k9 ∧ wd_at w164 (ga3 k9) (.inl (cy 1, 72, .inl ((va_up sf sg sfx26) k9))) ∧ tg (ga3 k9) = 280 + k9 ∧ wd_at w164 (ga4 k9) (.inl (cy 2, 72, .inl ((va_up uf sg ufx27) k9))) ∧ tg (ga4 k9) = 300 + k9 := by
        intro k9 hi9
        by_cases e9 : k9 = sg
        · rw [e9]
          exact ⟨(by simp only [va_up_self]; exact ⟨hz31, hz30⟩), (by simp only [va_up_self]; exact k193), tz7, (by simp only [va_up_self]; exact k194), tz9, (by simp only [va_up_self]; exact k195), tz11, (by simp only [va_up_self]; exact k196), tz13, (by simp only [va_up_self]; exact k197), tz15, (by simp only [va_up_self]; exact k198), tz17⟩
        · simp only [va_up_ne _ _ e9]
          exact fm201 k9 (by omega)
      have hX210 : IX cy tg x td pc ac sc 0 se plv w164 := IX.mk a0 a1 a2 a3 a4 a5 a6 a7 a8 a10 a11 b0 b1 b2 b3 tb l0 l1 l2 l3 l4 l5 l6 l7 bl bm sh gc s9 lu lv9 f0 f1 f2 f3 tbf e0 e1 e4 e5 e7 ff bf bf2 e2 e3 e6 (nI ax21) sz fo to fo2 to2 tf tn (va_up ag j (aa sg)) co ra aa (va_up ru sg rrx22) ga0 ga1 ga2 ga3 ga4 (va_up df sg dfx23) (va_up cf sg cfx24) (va_up nf sg nfx25) (va_up sf sg sfx26) (va_up uf sg ufx27) pf pa pwo phd pgd pdy pno ptp af ad av0 av1 av2 av3 zf so sr sp0 sp1 sd hf sw hto hpp hle ham hhh hdd hru hde hcp hld (by omega) (by omega) (by omega) (by omega) (by omega) (by omega) (by omega) (by omega) hagn k166 tI0 k167 tI1 k168 tI2 k169 tI3 k170 tI4 k171 tI5 k172 tI6 k173 tI7 k174 tI8 k175 tI9 k176 tI10 k177 tI11 k178 tI12 k179 tI13 k180 tI14 k181 tI15 k182 tI16 k183 tI17 k184 tI18 k185 tI19 k186 tI20 k187 tI21 k188 tI22 k189 tI23 k190 tI24 k191 tI25 k192 tI26 fm208 fm209 fm202 fm203 fm204 fm205
      exact y_ir K hP hD hS (Nat.le_of_ble_eq_true rfl) (Nat.le_of_ble_eq_true rfl) (ty := .int) rfl rfl dX10_text_78 (by refine ⟨⟨_, rfl⟩, ?_⟩; rw [show txtC ln (nI j) = 0 from by simp [txtC, c_4, clj, c_116]]; exact ⟨tg, (fun _ _ => rfl), kp206, hX210⟩)
    · refine lv_bipush (v := (-2)) hx hb dX10_text_33 (by decide) ?_
      refine lv_iload_n hx hb dX10_text_35 rfl (lv_at hl 0 rfl) ?_
      refine lv_isub hx hb dX10_text_36 ?_
      have fm212 : ∀ k9, k9 < 13 → (aOK ((va_up cf sg cfx24) k9) ((va_up nf sg nfx25) k9) ∧ (va_up ru sg rrx22) k9 ≤ 12) ∧ wd_at w74 (aa k9) (.inr (1, [.ref (ga0 k9), .ref (ga1 k9), .ref (ga2 k9), .ref (ga3 k9), .ref (ga4 k9), .int (nI ((va_up ru sg rrx22) k9))])) ∧ tg (aa k9) = 200 + k9 ∧ wd_at w74 (ga0 k9) (.inl (cy 2, 12, .inl ((va_up df sg dfx23) k9))) ∧ tg (ga0 k9) = 220 + k9 ∧ wd_at w74 (ga1 k9) (.inl (cy 2, 12, .inl ((va_up cf sg cfx24) k9))) ∧ tg (ga1 k9) = 240 + k9 ∧ wd_at w74 (ga2 k9) (.inl (cy 2, 72, .inl ((va_up nf sg nfx25) k9))) ∧ tg (ga2 k9) = 260 + k9 ∧ wd_at w74 (ga3 k9) (.inl (cy 1, 72, .inl ((va_up sf sg sfx26) k9))) ∧ tg (ga3 k9) = 280 + k9 ∧ wd_at w74 (ga4 k9) (.inl (cy 2, 72, .inl ((va_up uf sg ufx27) k9))) ∧ tg (ga4 k9) = 300 + k9 := by
        intro k9 hi9
        by_cases e9 : k9 = sg
        · rw [e9]
          exact ⟨(by simp only [va_up_self]; exact ⟨hz31, hz30⟩), (by simp only [va_up_self]; exact k103), tz7, (by simp only [va_up_self]; exact k104), tz9, (by simp only [va_up_self]; exact k105), tz11, (by simp only [va_up_self]; exact k106), tz13, (by simp only [va_up_self]; exact k107), tz15, (by simp only [va_up_self]; exact k108), tz17⟩
        · simp only [va_up_ne _ _ e9]
          exact fm110 k9 (by omega)
      have hX213 : IX cy tg x td pc ac sc 0 se plv w74 := IX.mk a0 a1 a2 a3 a4 a5 a6 a7 a8 a10 a11 b0 b1 b2 b3 tb l0 l1 l2 l3 l4 l5 l6 l7 bl bm sh gc sg lu lv9 f0 f1 f2 f3 tbf e0 e1 e4 e5 e7 ff bf bf2 e2 e3 e6 (nI ax21) sz fo to fo2 to2 tf tn ag co ra aa (va_up ru sg rrx22) ga0 ga1 ga2 ga3 ga4 (va_up df sg dfx23) (va_up cf sg cfx24) (va_up nf sg nfx25) (va_up sf sg sfx26) (va_up uf sg ufx27) pf pa pwo phd pgd pdy pno ptp af ad av0 av1 av2 av3 zf so sr sp0 sp1 sd hf sw hto hpp hle ham hhh hdd hru hde hcp hld (by omega) (by omega) (by omega) (by omega) (by omega) (by omega) (by omega) (by omega) hag k76 tI0 k77 tI1 k78 tI2 k79 tI3 k80 tI4 k81 tI5 k82 tI6 k83 tI7 k84 tI8 k85 tI9 k86 tI10 k87 tI11 k88 tI12 k89 tI13 k90 tI14 k91 tI15 k92 tI16 k93 tI17 k94 tI18 k95 tI19 k96 tI20 k97 tI21 k98 tI22 k99 tI23 k100 tI24 k101 tI25 k102 tI26 fm109 fm212 fm111 fm112 fm113 fm114
      exact y_ir K hP hD hS (Nat.le_of_ble_eq_true rfl) (Nat.le_of_ble_eq_true rfl) (ty := .int) rfl rfl dX10_text_37 (by refine ⟨⟨_, rfl⟩, ?_⟩; rw [show txtC ln (nI j) = 0 from by simp [txtC, c_4, clj, c_116]]; exact ⟨tg, (fun _ _ => rfl), kp115, hX213⟩)
  · refine lv_iconst (v := (-1)) hx hb dX10_text_7 (by decide) ?_
    exact y_ir K hP hD hS (Nat.le_of_ble_eq_true rfl) (Nat.le_of_ble_eq_true rfl) (ty := .int) rfl rfl dX10_text_8 (by refine ⟨⟨_, rfl⟩, ?_⟩; rw [show txtC ln x1 = ln from by simp [txtC, c_4]]; exact ⟨tg, fun _ _ => rfl, wd_kp.rf, hIX0⟩)
set_option maxHeartbeats 4000000 in
set_option maxRecDepth 100000 in
theorem X_law (l : Launch) (D : va_G) (cy : Nat → ClassId) (sk sv : Nat → Nat) (w : Wd) (tg : Nat → Nat) (x : Nat) (td : Int32) (pc ac sc ln : Nat) (se plv : Nat → Int32)  (hIX0 : IX cy tg x td pc ac sc ln se plv w) : Ct l D cy sk sv yX10_law wsX10_law ({ frames := 10, cells := 0, slots := 0, locals := 228 }) [.ref x] w (fun v w1 => (∃ r : Int32, v = some (.int r)) ∧ XP cy tg x td pc ac sc 0 se plv w w1) := by
  refine Ct.by (cc := cX10_law) (maxL := 3) (ret := (some .int)) (by decide +kernel) rfl (Nat.le_of_ble_eq_true rfl) ?_
  intro p e s m args below meth c A Q F hnm K ls hl
  have F : wd_Fx p s m args meth c cX10_law 3 wsX10_law RX10 D cy sk sv A := F
  have hl : lv_has ls 3 [(0, .ref x)] := hl
  have hx := F.1.1
  have hb := F.1.2.1
  have hown := F.1.2.2.2.1
  have hts := F.1.2.2.2.2
  intro H locs hP hD hS
  have kp0 : wd_kp (fun b => tg b < 10000) w w := wd_kp.rf
  refine hIX0 _ ?_
  intro a0 a1 a2 a3 a4 a5 a6 a7 a8 a10 a11 b0 b1 b2 b3 tb l0 l1 l2 l3 l4 l5 l6 l7 bl bm sh gc sg lu lv9 f0 f1 f2 f3 tbf e0 e1 e4 e5 e7 ff bf bf2 e2 e3 e6 ta sz fo to fo2 to2 tf tn ag co ra aa ru ga0 ga1 ga2 ga3 ga4 df cf nf sf uf pf pa pwo phd pgd pdy pno ptp af ad av0 av1 av2 av3 zf so sr sp0 sp1 sd hf sw hto hpp hle ham hhh hdd hru hde hcp hld hp90 hp91 hp92 hp93 hp94 hp95 hp96 hp97 hag kI0 tI0 kI1 tI1 kI2 tI2 kI3 tI3 kI4 tI4 kI5 tI5 kI6 tI6 kI7 tI7 kI8 tI8 kI9 tI9 kI10 tI10 kI11 tI11 kI12 tI12 kI13 tI13 kI14 tI14 kI15 tI15 kI16 tI16 kI17 tI17 kI18 tI18 kI19 tI19 kI20 tI20 kI21 tI21 kI22 tI22 kI23 tI23 kI24 tI24 kI25 tI25 kI26 tI26 hT9 hG9 hP9 hA9 hS9 hH9
  have hlu : lu < 2 := by omega
  have hlv : lv9 < 2 := by omega
  refine lv_aload_n hx hb dX10_law_0 rfl (lv_at hl 0 rfl) ?_
  refine x_get (ref := "NoteHouse") F hP kI0 rfl (fun _ h => List.mem_cons_of_mem _ (List.mem_append_left _ (List.mem_append_left _ (List.mem_append_right _ (h))))) 11 (Nat.le_of_ble_eq_true rfl) (List.mem_cons_of_mem _ (List.mem_append_left _ (List.mem_append_left _ (List.mem_append_left _ (List.mem_append_left _ (List.mem_of_getElem? (i := 0) rfl)))))) rfl rfl dX10_law_1 ?_
  refine lv_aload_n hx hb dX10_law_4 rfl (lv_at hl 0 rfl) ?_
  refine x_get (ref := "NoteHouse") F hP kI0 rfl (fun _ h => List.mem_cons_of_mem _ (List.mem_append_left _ (List.mem_append_left _ (List.mem_append_right _ (h))))) 6 (Nat.le_of_ble_eq_true rfl) (List.mem_cons_of_mem _ (List.mem_append_left _ (List.mem_append_left _ (List.mem_append_left _ (List.mem_append_left _ (List.mem_of_getElem? (i := 1) rfl)))))) rfl rfl dX10_law_5 ?_
  refine x_callV (n := 1) (As := [.ref a6]) (rest := []) F hP hD hS (g_lawLearn l D cy sk sv w a11 bm a6 tb ln fo2 to2 ta tbf bf2 kI25 kI26 kI11 kI12 (fun b => b = a6 ∨ b = a11 ∨ b = bm) (Or.inl rfl) (Or.inr (Or.inl rfl)) (Or.inr (Or.inr rfl)) (by omega)) gX10_law_X2_learn rfl rfl (by decide +kernel) ⟨(Nat.le_of_ble_eq_true rfl), (Nat.le_of_ble_eq_true rfl)⟩ rfl hl.1 (Nat.le_of_ble_eq_true rfl) kI25 rfl dX10_law_8 rfl ⟨(Nat.le_of_ble_eq_true rfl), (Nat.le_of_ble_eq_true rfl)⟩ (fun v2 w3 hp1 H locs hP hD hS => ?_)
  obtain ⟨ax4, ffx5, ttx6, bfx7, rx8, rfl, kq12, k9, k10, k11⟩ := hp1
  have k13 := kq12.2 _ _ kI0 (orN (tg_ne tI0 tI11 (by decide)) (orN (tg_ne tI0 tI25 (tnA2 (show 0 < 30 by decide))) (tg_ne tI0 tI26 (tnA2 (show 0 < 32 by decide)))))
  have k14 := kq12.2 _ _ kI1 (orN (tg_ne tI1 tI11 (by decide)) (orN (tg_ne tI1 tI25 (tnA2 (show 1 < 30 by decide))) (tg_ne tI1 tI26 (tnA2 (show 1 < 32 by decide)))))
  have k15 := kq12.2 _ _ kI2 (orN (tg_ne tI2 tI11 (by decide)) (orN (tg_ne tI2 tI25 (tnA2 (show 2 < 30 by decide))) (tg_ne tI2 tI26 (tnA2 (show 2 < 32 by decide)))))
  have k16 := kq12.2 _ _ kI3 (orN (tg_ne tI3 tI11 (by decide)) (orN (tg_ne tI3 tI25 (tnA2 (show 3 < 30 by decide))) (tg_ne tI3 tI26 (tnA2 (show 3 < 32 by decide)))))
  have k17 := kq12.2 _ _ kI4 (orN (tg_ne tI4 tI11 (by decide)) (orN (tg_ne tI4 tI25 (tnA2 (show 4 < 30 by decide))) (tg_ne tI4 tI26 (tnA2 (show 4 < 32 by decide)))))
  have k18 := kq12.2 _ _ kI5 (orN (tg_ne tI5 tI11 (by decide)) (orN (tg_ne tI5 tI25 (tnA2 (show 5 < 30 by decide))) (tg_ne tI5 tI26 (tnA2 (show 5 < 32 by decide)))))
  have k19 := kq12.2 _ _ kI6 (orN (tg_ne tI6 tI11 (by decide)) (orN (tg_ne tI6 tI25 (tnA2 (show 6 < 30 by decide))) (tg_ne tI6 tI26 (tnA2 (show 6 < 32 by decide)))))
  have k20 := kq12.2 _ _ kI7 (orN (tg_ne tI7 tI11 (by decide)) (orN (tg_ne tI7 tI25 (tnA2 (show 7 < 30 by decide))) (tg_ne tI7 tI26 (tnA2 (show 7 < 32 by decide)))))
  have k21 := kq12.2 _ _ kI8 (orN (tg_ne tI8 tI11 (by decide)) (orN (tg_ne tI8 tI25 (tnA2 (show 8 < 30 by decide))) (tg_ne tI8 tI26 (tnA2 (show 8 < 32 by decide)))))
  have k22 := kq12.2 _ _ kI9 (orN (tg_ne tI9 tI11 (by decide)) (orN (tg_ne tI9 tI25 (tnA2 (show 9 < 30 by decide))) (tg_ne tI9 tI26 (tnA2 (show 9 < 32 by decide)))))
  have k23 := kq12.2 _ _ kI10 (orN (tg_ne tI10 tI11 (by decide)) (orN (tg_ne tI10 tI25 (tnA2 (show 10 < 30 by decide))) (tg_ne tI10 tI26 (tnA2 (show 10 < 32 by decide)))))
  have k24 := kq12.2 _ _ kI12 (orN (tg_ne tI12 tI11 (by decide)) (orN (tg_ne tI12 tI25 (tnA2 (show 12 < 30 by decide))) (tg_ne tI12 tI26 (tnA2 (show 12 < 32 by decide)))))
  have k25 := kq12.2 _ _ kI13 (orN (tg_ne tI13 tI11 (by decide)) (orN (tg_ne tI13 tI25 (tnA2 (show 13 < 30 by decide))) (tg_ne tI13 tI26 (tnA2 (show 13 < 32 by decide)))))
  have k26 := kq12.2 _ _ kI14 (orN (tg_ne tI14 tI11 (by decide)) (orN (tg_ne tI14 tI25 (tnA2 (show 14 < 30 by decide))) (tg_ne tI14 tI26 (tnA2 (show 14 < 32 by decide)))))
  have k27 := kq12.2 _ _ kI15 (orN (tg_ne tI15 tI11 (by decide)) (orN (tg_ne tI15 tI25 (tnA2 (show 15 < 30 by decide))) (tg_ne tI15 tI26 (tnA2 (show 15 < 32 by decide)))))
  have k28 := kq12.2 _ _ kI16 (orN (tg_ne tI16 tI11 (by decide)) (orN (tg_ne tI16 tI25 (tnA2 (show 16 < 30 by decide))) (tg_ne tI16 tI26 (tnA2 (show 16 < 32 by decide)))))
  have k29 := kq12.2 _ _ kI17 (orN (tg_ne tI17 tI11 (by decide)) (orN (tg_ne tI17 tI25 (tnA2 (show 17 < 30 by decide))) (tg_ne tI17 tI26 (tnA2 (show 17 < 32 by decide)))))
  have k30 := kq12.2 _ _ kI18 (orN (tg_ne tI18 tI11 (by decide)) (orN (tg_ne tI18 tI25 (tnA2 (show 18 < 30 by decide))) (tg_ne tI18 tI26 (tnA2 (show 18 < 32 by decide)))))
  have k31 := kq12.2 _ _ kI19 (orN (tg_ne tI19 tI11 (by decide)) (orN (tg_ne tI19 tI25 (tnA2 (show 19 < 30 by decide))) (tg_ne tI19 tI26 (tnA2 (show 19 < 32 by decide)))))
  have k32 := kq12.2 _ _ kI20 (orN (tg_ne tI20 tI11 (by decide)) (orN (tg_ne tI20 tI25 (tnA2 (show 20 < 30 by decide))) (tg_ne tI20 tI26 (tnA2 (show 20 < 32 by decide)))))
  have k33 := kq12.2 _ _ kI21 (orN (tg_ne tI21 tI11 (by decide)) (orN (tg_ne tI21 tI25 (tnA2 (show 21 < 30 by decide))) (tg_ne tI21 tI26 (tnA2 (show 21 < 32 by decide)))))
  have k34 := kq12.2 _ _ kI22 (orN (tg_ne tI22 tI11 (by decide)) (orN (tg_ne tI22 tI25 (tnA2 (show 22 < 30 by decide))) (tg_ne tI22 tI26 (tnA2 (show 22 < 32 by decide)))))
  have k35 := kq12.2 _ _ kI23 (orN (tg_ne tI23 tI11 (tnA (show 11 < 30 by decide))) (orN (tg_ne tI23 tI25 (by omega)) (tg_ne tI23 tI26 (tnB (n := 2) hlu (by decide)))))
  have k36 := kq12.2 _ _ kI24 (orN (tg_ne tI24 tI11 (tnA (show 11 < 32 by decide))) (orN (tg_ne tI24 tI25 (tnB2 (n := 2) hlv (by decide))) (tg_ne tI24 tI26 (by omega))))
  have fm37 : ∀ i9, i9 < 12 → tf i9 = some (tn i9) ∧ wd_at w3 (tn i9) (.inr (8, [.int (co i9), .int (ra i9), .int (se i9), .ref (ag i9)])) ∧ tg (tn i9) = 100 + i9 := fun i9 hi9 => ⟨(hT9 i9 hi9).1, kq12.2 _ _ (hT9 i9 hi9).2.1 (orN (tg_ne (hT9 i9 hi9).2.2 tI11 (tnA (show 11 < 100 by decide))) (orN (tg_ne (hT9 i9 hi9).2.2 tI25 (tnB2 (n := 2) hlv (by decide))) (tg_ne (hT9 i9 hi9).2.2 tI26 (tnB2 (n := 2) hlv (by decide))))), (hT9 i9 hi9).2.2⟩
  have fm38 : ∀ k9, k9 < 13 → (aOK (cf k9) (nf k9) ∧ ru k9 ≤ 12) ∧ wd_at w3 (aa k9) (.inr (1, [.ref (ga0 k9), .ref (ga1 k9), .ref (ga2 k9), .ref (ga3 k9), .ref (ga4 k9), .int (nI (ru k9))])) ∧ tg (aa k9) = 200 + k9 ∧ wd_at w3 (ga0 k9) (.inl (cy 2, 12, .inl (df k9))) ∧ tg (ga0 k9) = 220 + k9 ∧ wd_at w3 (ga1 k9) (.inl (cy 2, 12, .inl (cf k9))) ∧ tg (ga1 k9) = 240 + k9 ∧ wd_at w3 (ga2 k9) (.inl (cy 2, 72, .inl (nf k9))) ∧ tg (ga2 k9) = 260 + k9 ∧ wd_at w3 (ga3 k9) (.inl (cy 1, 72, .inl (sf k9))) ∧ tg (ga3 k9) = 280 + k9 ∧ wd_at w3 (ga4 k9) (.inl (cy 2, 72, .inl (uf k9))) ∧ tg (ga4 k9) = 300 + k9 := fun k9 hi9 => ⟨(hG9 k9 hi9).1, kq12.2 _ _ (hG9 k9 hi9).2.1 (orN (tg_ne (hG9 k9 hi9).2.2.1 tI11 (tnA (show 11 < 200 by decide))) (orN (tg_ne (hG9 k9 hi9).2.2.1 tI25 (tnB2 (n := 2) hlv (by decide))) (tg_ne (hG9 k9 hi9).2.2.1 tI26 (tnB2 (n := 2) hlv (by decide))))), (hG9 k9 hi9).2.2.1, kq12.2 _ _ (hG9 k9 hi9).2.2.2.1 (orN (tg_ne (hG9 k9 hi9).2.2.2.2.1 tI11 (tnA (show 11 < 220 by decide))) (orN (tg_ne (hG9 k9 hi9).2.2.2.2.1 tI25 (tnB2 (n := 2) hlv (by decide))) (tg_ne (hG9 k9 hi9).2.2.2.2.1 tI26 (tnB2 (n := 2) hlv (by decide))))), (hG9 k9 hi9).2.2.2.2.1, kq12.2 _ _ (hG9 k9 hi9).2.2.2.2.2.1 (orN (tg_ne (hG9 k9 hi9).2.2.2.2.2.2.1 tI11 (tnA (show 11 < 240 by decide))) (orN (tg_ne (hG9 k9 hi9).2.2.2.2.2.2.1 tI25 (tnB2 (n := 2) hlv (by decide))) (tg_ne (hG9 k9 hi9).2.2.2.2.2.2.1 tI26 (tnB2 (n := 2) hlv (by decide))))), (hG9 k9 hi9).2.2.2.2.2.2.1, kq12.2 _ _ (hG9 k9 hi9).2.2.2.2.2.2.2.1 (orN (tg_ne (hG9 k9 hi9).2.2.2.2.2.2.2.2.1 tI11 (tnA (show 11 < 260 by decide))) (orN (tg_ne (hG9 k9 hi9).2.2.2.2.2.2.2.2.1 tI25 (tnB2 (n := 2) hlv (by decide))) (tg_ne (hG9 k9 hi9).2.2.2.2.2.2.2.2.1 tI26 (tnB2 (n := 2) hlv (by decide))))), (hG9 k9 hi9).2.2.2.2.2.2.2.2.1, kq12.2 _ _ (hG9 k9 hi9).2.2.2.2.2.2.2.2.2.1 (orN (tg_ne (hG9 k9 hi9).2.2.2.2.2.2.2.2.2.2.1 tI11 (tnA (show 11 < 280 by decide))) (orN (tg_ne (hG9 k9 hi9).2.2.2.2.2.2.2.2.2.2.1 tI25 (tnB2 (n := 2) hlv (by decide))) (tg_ne (hG9 k9 hi9).2.2.2.2.2.2.2.2.2.2.1 tI26 (tnB2 (n := 2) hlv (by decide))))), (hG9 k9 hi9).2.2.2.2.2.2.2.2.2.2.1, kq12.2 _ _ (hG9 k9 hi9).2.2.2.2.2.2.2.2.2.2.2.1 (orN (tg_ne (hG9 k9 hi9).2.2.2.2.2.2.2.2.2.2.2.2 tI11 (tnA (show 11 < 300 by decide))) (orN (tg_ne (hG9 k9 hi9).2.2.2.2.2.2.2.2.2.2.2.2 tI25 (tnB2 (n := 2) hlv (by decide))) (tg_ne (hG9 k9 hi9).2.2.2.2.2.2.2.2.2.2.2.2 tI26 (tnB2 (n := 2) hlv (by decide))))), (hG9 k9 hi9).2.2.2.2.2.2.2.2.2.2.2.2⟩
  have fm39 : ∀ k9, k9 < pc → pf k9 = some (pa k9) ∧ wd_at w3 (pa k9) (.inr (3, [.int (plv k9), .int (pwo k9), .int (phd k9), .int (pgd k9), .int (pdy k9), .int (pno k9), .int (ptp k9)])) ∧ tg (pa k9) = 3000 + k9 := fun k9 hi9 => ⟨(hP9 k9 hi9).1, kq12.2 _ _ (hP9 k9 hi9).2.1 (orN (tg_ne (hP9 k9 hi9).2.2 tI11 (tnA (show 11 < 3000 by decide))) (orN (tg_ne (hP9 k9 hi9).2.2 tI25 (tnB2 (n := 2) hlv (by decide))) (tg_ne (hP9 k9 hi9).2.2 tI26 (tnB2 (n := 2) hlv (by decide))))), (hP9 k9 hi9).2.2⟩
  have fm40 : ∀ k9, k9 < ac → af k9 = some (ad k9) ∧ wd_at w3 (ad k9) (.inr (0, [.int (av0 k9), .int (av1 k9), .int (av2 k9), .int (av3 k9)])) ∧ tg (ad k9) = 4000 + k9 := fun k9 hi9 => ⟨(hA9 k9 hi9).1, kq12.2 _ _ (hA9 k9 hi9).2.1 (orN (tg_ne (hA9 k9 hi9).2.2 tI11 (tnA (show 11 < 4000 by decide))) (orN (tg_ne (hA9 k9 hi9).2.2 tI25 (tnB2 (n := 2) hlv (by decide))) (tg_ne (hA9 k9 hi9).2.2 tI26 (tnB2 (n := 2) hlv (by decide))))), (hA9 k9 hi9).2.2⟩
  have fm41 : ∀ k9, k9 < sc → zf k9 = some (so k9) ∧ wd_at w3 (so k9) (.inr (6, [.int (sp0 k9), .int (sp1 k9), .ref (sr k9)])) ∧ tg (so k9) = 5000 + k9 ∧ wd_at w3 (sr k9) (.inl (cy 2, 12, .inl (sd k9))) ∧ tg (sr k9) = 6000 + k9 := fun k9 hi9 => ⟨(hS9 k9 hi9).1, kq12.2 _ _ (hS9 k9 hi9).2.1 (orN (tg_ne (hS9 k9 hi9).2.2.1 tI11 (tnA (show 11 < 5000 by decide))) (orN (tg_ne (hS9 k9 hi9).2.2.1 tI25 (tnB2 (n := 2) hlv (by decide))) (tg_ne (hS9 k9 hi9).2.2.1 tI26 (tnB2 (n := 2) hlv (by decide))))), (hS9 k9 hi9).2.2.1, kq12.2 _ _ (hS9 k9 hi9).2.2.2.1 (orN (tg_ne (hS9 k9 hi9).2.2.2.2 tI11 (tnA (show 11 < 6000 by decide))) (orN (tg_ne (hS9 k9 hi9).2.2.2.2 tI25 (tnB2 (n := 2) hlv (by decide))) (tg_ne (hS9 k9 hi9).2.2.2.2 tI26 (tnB2 (n := 2) hlv (by decide))))), (hS9 k9 hi9).2.2.2.2⟩
  have fm42 : ∀ k9, k9 < sh → (hf k9 = some (sw k9) ∧ hto k9 < 12) ∧ wd_at w3 (sw k9) (.inr (5, [.int (nI (hto k9)), .int (hpp k9), .int (hle k9), .int (ham k9), .int (hhh k9), .int (hdd k9), .int (hru k9), .int (hde k9), .int (hcp k9), .int (hld k9)])) ∧ tg (sw k9) = 7000 + k9 := fun k9 hi9 => ⟨(hH9 k9 hi9).1, kq12.2 _ _ (hH9 k9 hi9).2.1 (orN (tg_ne (hH9 k9 hi9).2.2 tI11 (tnA (show 11 < 7000 by decide))) (orN (tg_ne (hH9 k9 hi9).2.2 tI25 (tnB2 (n := 2) hlv (by decide))) (tg_ne (hH9 k9 hi9).2.2 tI26 (tnB2 (n := 2) hlv (by decide))))), (hH9 k9 hi9).2.2⟩
  have kp43 := kp0.tr kq12 (fun b9 hm q9 => (fun q9 => Or.elim q9 (fun q9 => q9 ▸ (tgS tI11 (by decide))) (fun q9 => Or.elim q9 (fun q9 => q9 ▸ (tgS tI25 (by omega))) (fun q9 => q9 ▸ (tgS tI26 (by omega))))) q9)
  refine W.eq (g2 := F0 m 11 ls [.int rx8]) rfl (W.widen (k := 0) (n := 0) (Nat.le_of_ble_eq_true rfl) (Nat.le_of_ble_eq_true rfl) ?_)
  refine lv_istore_n (lv' := [(1, .int rx8), (0, .ref x)]) hx hb dX10_law_11 rfl hl (by decide) rfl (fun ls hl => ?_)
  refine lv_aload_n hx hb dX10_law_12 rfl (lv_at hl 1 rfl) ?_
  refine x_get (ref := "NoteHouse") F hP k13 rfl (fun _ h => List.mem_cons_of_mem _ (List.mem_append_left _ (List.mem_append_left _ (List.mem_append_right _ (h))))) 6 (Nat.le_of_ble_eq_true rfl) (List.mem_cons_of_mem _ (List.mem_append_left _ (List.mem_append_left _ (List.mem_append_left _ (List.mem_append_left _ (List.mem_of_getElem? (i := 1) rfl)))))) rfl rfl dX10_law_13 ?_
  refine lv_iconst (v := 0) hx hb dX10_law_16 (by decide) ?_
  refine y_put (ref := "NoteHouse$Tape") F hP hD hS k9 rfl (fun _ h => List.mem_cons_of_mem _ (List.mem_append_left _ (List.mem_append_right _ (h)))) tyX7_ok nmX7 1 (Nat.le_of_ble_eq_true rfl) (List.mem_cons_of_mem _ (List.mem_append_left _ (List.mem_append_left _ (List.mem_append_left _ (List.mem_append_left _ (List.mem_of_getElem? (i := 2) rfl)))))) rfl rfl rfl rfl (Nat.le_of_ble_eq_true rfl) dX10_law_17 (fun w44 ew45 H locs hP hD hS => ?_)
  have k46 := wd_at.pt ew45 k13 (tg_ne tI0 tI11 (by decide))
  have k47 := wd_at.pt ew45 k14 (tg_ne tI1 tI11 (by decide))
  have k48 := wd_at.pt ew45 k15 (tg_ne tI2 tI11 (by decide))
  have k49 := wd_at.pt ew45 k16 (tg_ne tI3 tI11 (by decide))
  have k50 := wd_at.pt ew45 k17 (tg_ne tI4 tI11 (by decide))
  have k51 := wd_at.pt ew45 k18 (tg_ne tI5 tI11 (by decide))
  have k52 := wd_at.pt ew45 k19 (tg_ne tI6 tI11 (by decide))
  have k53 := wd_at.pt ew45 k20 (tg_ne tI7 tI11 (by decide))
  have k54 := wd_at.pt ew45 k21 (tg_ne tI8 tI11 (by decide))
  have k55 := wd_at.pt ew45 k22 (tg_ne tI9 tI11 (by decide))
  have k56 := wd_at.pt ew45 k23 (tg_ne tI10 tI11 (by decide))
  have k57 : wd_at w44 a6 (.inr (7, [.ref tb, .int 0, .int ax4])) := wd_at.ps ew45 k9
  have k58 := wd_at.pt ew45 k24 (tg_ne tI12 tI11 (by decide))
  have k59 := wd_at.pt ew45 k25 (tg_ne tI13 tI11 (by decide))
  have k60 := wd_at.pt ew45 k26 (tg_ne tI14 tI11 (by decide))
  have k61 := wd_at.pt ew45 k27 (tg_ne tI15 tI11 (by decide))
  have k62 := wd_at.pt ew45 k28 (tg_ne tI16 tI11 (by decide))
  have k63 := wd_at.pt ew45 k29 (tg_ne tI17 tI11 (by decide))
  have k64 := wd_at.pt ew45 k30 (tg_ne tI18 tI11 (by decide))
  have k65 := wd_at.pt ew45 k31 (tg_ne tI19 tI11 (by decide))
  have k66 := wd_at.pt ew45 k32 (tg_ne tI20 tI11 (by decide))
  have k67 := wd_at.pt ew45 k33 (tg_ne tI21 tI11 (by decide))
  have k68 := wd_at.pt ew45 k34 (tg_ne tI22 tI11 (by decide))
  have k69 := wd_at.pt ew45 k35 (tg_ne tI23 tI11 (tnA (show 11 < 30 by decide)))
  have k70 := wd_at.pt ew45 k36 (tg_ne tI24 tI11 (tnA (show 11 < 32 by decide)))
  have k71 := wd_at.pt ew45 k10 (tg_ne tI25 tI11 (tnA (show 11 < 30 by decide)))
  have k72 := wd_at.pt ew45 k11 (tg_ne tI26 tI11 (tnA (show 11 < 32 by decide)))
  have fm73 : ∀ i9, i9 < 12 → tf i9 = some (tn i9) ∧ wd_at w44 (tn i9) (.inr (8, [.int (co i9), .int (ra i9), .int (se i9), .ref (ag i9)])) ∧ tg (tn i9) = 100 + i9 := fun i9 hi9 => ⟨(fm37 i9 hi9).1, wd_at.pt ew45 (fm37 i9 hi9).2.1 (tg_ne (fm37 i9 hi9).2.2 tI11 (tnA (show 11 < 100 by decide))), (fm37 i9 hi9).2.2⟩
  have fm74 : ∀ k9, k9 < 13 → (aOK (cf k9) (nf k9) ∧ ru k9 ≤ 12) ∧ wd_at w44 (aa k9) (.inr (1, [.ref (ga0 k9), .ref (ga1 k9), .ref (ga2 k9), .ref (ga3 k9), .ref (ga4 k9), .int (nI (ru k9))])) ∧ tg (aa k9) = 200 + k9 ∧ wd_at w44 (ga0 k9) (.inl (cy 2, 12, .inl (df k9))) ∧ tg (ga0 k9) = 220 + k9 ∧ wd_at w44 (ga1 k9) (.inl (cy 2, 12, .inl (cf k9))) ∧ tg (ga1 k9) = 240 + k9 ∧ wd_at w44 (ga2 k9) (.inl (cy 2, 72, .inl (nf k9))) ∧ tg (ga2 k9) = 260 + k9 ∧ wd_at w44 (ga3 k9) (.inl (cy 1, 72, .inl (sf k9))) ∧ tg (ga3 k9) = 280 + k9 ∧ wd_at w44 (ga4 k9) (.inl (cy 2, 72, .inl (uf k9))) ∧ tg (ga4 k9) = 300 + k9 := fun k9 hi9 => ⟨(fm38 k9 hi9).1, wd_at.pt ew45 (fm38 k9 hi9).2.1 (tg_ne (fm38 k9 hi9).2.2.1 tI11 (tnA (show 11 < 200 by decide))), (fm38 k9 hi9).2.2.1, wd_at.pt ew45 (fm38 k9 hi9).2.2.2.1 (tg_ne (fm38 k9 hi9).2.2.2.2.1 tI11 (tnA (show 11 < 220 by decide))), (fm38 k9 hi9).2.2.2.2.1, wd_at.pt ew45 (fm38 k9 hi9).2.2.2.2.2.1 (tg_ne (fm38 k9 hi9).2.2.2.2.2.2.1 tI11 (tnA (show 11 < 240 by decide))), (fm38 k9 hi9).2.2.2.2.2.2.1, wd_at.pt ew45 (fm38 k9 hi9).2.2.2.2.2.2.2.1 (tg_ne (fm38 k9 hi9).2.2.2.2.2.2.2.2.1 tI11 (tnA (show 11 < 260 by decide))), (fm38 k9 hi9).2.2.2.2.2.2.2.2.1, wd_at.pt ew45 (fm38 k9 hi9).2.2.2.2.2.2.2.2.2.1 (tg_ne (fm38 k9 hi9).2.2.2.2.2.2.2.2.2.2.1 tI11 (tnA (show 11 < 280 by decide))), (fm38 k9 hi9).2.2.2.2.2.2.2.2.2.2.1, wd_at.pt ew45 (fm38 k9 hi9).2.2.2.2.2.2.2.2.2.2.2.1 (tg_ne (fm38 k9 hi9).2.2.2.2.2.2.2.2.2.2.2.2 tI11 (tnA (show 11 < 300 by decide))), (fm38 k9 hi9).2.2.2.2.2.2.2.2.2.2.2.2⟩
  have fm75 : ∀ k9, k9 < pc → pf k9 = some (pa k9) ∧ wd_at w44 (pa k9) (.inr (3, [.int (plv k9), .int (pwo k9), .int (phd k9), .int (pgd k9), .int (pdy k9), .int (pno k9), .int (ptp k9)])) ∧ tg (pa k9) = 3000 + k9 := fun k9 hi9 => ⟨(fm39 k9 hi9).1, wd_at.pt ew45 (fm39 k9 hi9).2.1 (tg_ne (fm39 k9 hi9).2.2 tI11 (tnA (show 11 < 3000 by decide))), (fm39 k9 hi9).2.2⟩
  have fm76 : ∀ k9, k9 < ac → af k9 = some (ad k9) ∧ wd_at w44 (ad k9) (.inr (0, [.int (av0 k9), .int (av1 k9), .int (av2 k9), .int (av3 k9)])) ∧ tg (ad k9) = 4000 + k9 := fun k9 hi9 => ⟨(fm40 k9 hi9).1, wd_at.pt ew45 (fm40 k9 hi9).2.1 (tg_ne (fm40 k9 hi9).2.2 tI11 (tnA (show 11 < 4000 by decide))), (fm40 k9 hi9).2.2⟩
  have fm77 : ∀ k9, k9 < sc → zf k9 = some (so k9) ∧ wd_at w44 (so k9) (.inr (6, [.int (sp0 k9), .int (sp1 k9), .ref (sr k9)])) ∧ tg (so k9) = 5000 + k9 ∧ wd_at w44 (sr k9) (.inl (cy 2, 12, .inl (sd k9))) ∧ tg (sr k9) = 6000 + k9 := fun k9 hi9 => ⟨(fm41 k9 hi9).1, wd_at.pt ew45 (fm41 k9 hi9).2.1 (tg_ne (fm41 k9 hi9).2.2.1 tI11 (tnA (show 11 < 5000 by decide))), (fm41 k9 hi9).2.2.1, wd_at.pt ew45 (fm41 k9 hi9).2.2.2.1 (tg_ne (fm41 k9 hi9).2.2.2.2 tI11 (tnA (show 11 < 6000 by decide))), (fm41 k9 hi9).2.2.2.2⟩
  have fm78 : ∀ k9, k9 < sh → (hf k9 = some (sw k9) ∧ hto k9 < 12) ∧ wd_at w44 (sw k9) (.inr (5, [.int (nI (hto k9)), .int (hpp k9), .int (hle k9), .int (ham k9), .int (hhh k9), .int (hdd k9), .int (hru k9), .int (hde k9), .int (hcp k9), .int (hld k9)])) ∧ tg (sw k9) = 7000 + k9 := fun k9 hi9 => ⟨(fm42 k9 hi9).1, wd_at.pt ew45 (fm42 k9 hi9).2.1 (tg_ne (fm42 k9 hi9).2.2 tI11 (tnA (show 11 < 7000 by decide))), (fm42 k9 hi9).2.2⟩
  have kp79 := kp43.put ew45 (tgS tI11 (by decide))
  refine lv_iload_n hx hb dX10_law_20 rfl (lv_at hl 0 rfl) ?_
  refine lv_if_eq (tgt := 26) hx hb dX10_law_21 (by decide) (fun c_80 => ?_) (fun c_80 => ?_)
  · refine lv_aload_n hx hb dX10_law_26 rfl (lv_at hl 1 rfl) ?_
    refine x_get (ref := "NoteHouse") F hP k46 rfl (fun _ h => List.mem_cons_of_mem _ (List.mem_append_left _ (List.mem_append_left _ (List.mem_append_right _ (h))))) 10 (Nat.le_of_ble_eq_true rfl) (List.mem_cons_of_mem _ (List.mem_append_left _ (List.mem_append_left _ (List.mem_append_left _ (List.mem_append_left _ (List.mem_of_getElem? (i := 3) rfl)))))) rfl rfl dX10_law_27 ?_
    refine lv_astore_n (lv' := [(2, .ref a10), (1, .int rx8), (0, .ref x)]) hx hb dX10_law_30 rfl hl (by decide) rfl (fun ls hl => ?_)
    refine lv_aload_n hx hb dX10_law_31 rfl (lv_at hl 2 rfl) ?_
    refine lv_aload_n hx hb dX10_law_32 rfl (lv_at hl 2 rfl) ?_
    refine x_get (ref := "NoteHouse") F hP k46 rfl (fun _ h => List.mem_cons_of_mem _ (List.mem_append_left _ (List.mem_append_left _ (List.mem_append_right _ (h))))) 11 (Nat.le_of_ble_eq_true rfl) (List.mem_cons_of_mem _ (List.mem_append_left _ (List.mem_append_left _ (List.mem_append_left _ (List.mem_append_left _ (List.mem_of_getElem? (i := 0) rfl)))))) rfl rfl dX10_law_33 ?_
    refine y_put (ref := "NoteHouse") F hP hD hS k46 rfl (fun _ h => List.mem_cons_of_mem _ (List.mem_append_left _ (List.mem_append_left _ (List.mem_append_right _ (h))))) tyX10_ok nmX10 10 (Nat.le_of_ble_eq_true rfl) (List.mem_cons_of_mem _ (List.mem_append_left _ (List.mem_append_left _ (List.mem_append_left _ (List.mem_append_left _ (List.mem_of_getElem? (i := 3) rfl)))))) rfl rfl rfl rfl (Nat.le_of_ble_eq_true rfl) dX10_law_36 (fun w81 ew82 H locs hP hD hS => ?_)
    have k83 : wd_at w81 x (.inr (10, [.ref a0, .ref a1, .ref a2, .ref a3, .ref a4, .ref a5, .ref a6, .ref a7, .ref a8, .ref (aa sg), .ref a11, .ref a11, .int td, .int (nI pc), .int (nI ac), .int (nI sc), .int (nI sh)])) := wd_at.ps ew82 k46
    have k84 := wd_at.pt ew82 k47 (tg_ne tI1 tI0 (by decide))
    have k85 := wd_at.pt ew82 k48 (tg_ne tI2 tI0 (by decide))
    have k86 := wd_at.pt ew82 k49 (tg_ne tI3 tI0 (by decide))
    have k87 := wd_at.pt ew82 k50 (tg_ne tI4 tI0 (by decide))
    have k88 := wd_at.pt ew82 k51 (tg_ne tI5 tI0 (by decide))
    have k89 := wd_at.pt ew82 k52 (tg_ne tI6 tI0 (by decide))
    have k90 := wd_at.pt ew82 k53 (tg_ne tI7 tI0 (by decide))
    have k91 := wd_at.pt ew82 k54 (tg_ne tI8 tI0 (by decide))
    have k92 := wd_at.pt ew82 k55 (tg_ne tI9 tI0 (by decide))
    have k93 := wd_at.pt ew82 k56 (tg_ne tI10 tI0 (by decide))
    have k94 := wd_at.pt ew82 k57 (tg_ne tI11 tI0 (by decide))
    have k95 := wd_at.pt ew82 k58 (tg_ne tI12 tI0 (by decide))
    have k96 := wd_at.pt ew82 k59 (tg_ne tI13 tI0 (by decide))
    have k97 := wd_at.pt ew82 k60 (tg_ne tI14 tI0 (by decide))
    have k98 := wd_at.pt ew82 k61 (tg_ne tI15 tI0 (by decide))
    have k99 := wd_at.pt ew82 k62 (tg_ne tI16 tI0 (by decide))
    have k100 := wd_at.pt ew82 k63 (tg_ne tI17 tI0 (by decide))
    have k101 := wd_at.pt ew82 k64 (tg_ne tI18 tI0 (by decide))
    have k102 := wd_at.pt ew82 k65 (tg_ne tI19 tI0 (by decide))
    have k103 := wd_at.pt ew82 k66 (tg_ne tI20 tI0 (by decide))
    have k104 := wd_at.pt ew82 k67 (tg_ne tI21 tI0 (by decide))
    have k105 := wd_at.pt ew82 k68 (tg_ne tI22 tI0 (by decide))
    have k106 := wd_at.pt ew82 k69 (tg_ne tI23 tI0 (tnA (show 0 < 30 by decide)))
    have k107 := wd_at.pt ew82 k70 (tg_ne tI24 tI0 (tnA (show 0 < 32 by decide)))
    have k108 := wd_at.pt ew82 k71 (tg_ne tI25 tI0 (tnA (show 0 < 30 by decide)))
    have k109 := wd_at.pt ew82 k72 (tg_ne tI26 tI0 (tnA (show 0 < 32 by decide)))
    have fm110 : ∀ i9, i9 < 12 → tf i9 = some (tn i9) ∧ wd_at w81 (tn i9) (.inr (8, [.int (co i9), .int (ra i9), .int (se i9), .ref (ag i9)])) ∧ tg (tn i9) = 100 + i9 := fun i9 hi9 => ⟨(fm73 i9 hi9).1, wd_at.pt ew82 (fm73 i9 hi9).2.1 (tg_ne (fm73 i9 hi9).2.2 tI0 (tnA (show 0 < 100 by decide))), (fm73 i9 hi9).2.2⟩
    have fm111 : ∀ k9, k9 < 13 → (aOK (cf k9) (nf k9) ∧ ru k9 ≤ 12) ∧ wd_at w81 (aa k9) (.inr (1, [.ref (ga0 k9), .ref (ga1 k9), .ref (ga2 k9), .ref (ga3 k9), .ref (ga4 k9), .int (nI (ru k9))])) ∧ tg (aa k9) = 200 + k9 ∧ wd_at w81 (ga0 k9) (.inl (cy 2, 12, .inl (df k9))) ∧ tg (ga0 k9) = 220 + k9 ∧ wd_at w81 (ga1 k9) (.inl (cy 2, 12, .inl (cf k9))) ∧ tg (ga1 k9) = 240 + k9 ∧ wd_at w81 (ga2 k9) (.inl (cy 2, 72, .inl (nf k9))) ∧ tg (ga2 k9) = 260 + k9 ∧ wd_at w81 (ga3 k9) (.inl (cy 1, 72, .inl (sf k9))) ∧ tg (ga3 k9) = 280 + k9 ∧ wd_at w81 (ga4 k9) (.inl (cy 2, 72, .inl (uf k9))) ∧ tg (ga4 k9) = 300 + k9 := fun k9 hi9 => ⟨(fm74 k9 hi9).1, wd_at.pt ew82 (fm74 k9 hi9).2.1 (tg_ne (fm74 k9 hi9).2.2.1 tI0 (tnA (show 0 < 200 by decide))), (fm74 k9 hi9).2.2.1, wd_at.pt ew82 (fm74 k9 hi9).2.2.2.1 (tg_ne (fm74 k9 hi9).2.2.2.2.1 tI0 (tnA (show 0 < 220 by decide))), (fm74 k9 hi9).2.2.2.2.1, wd_at.pt ew82 (fm74 k9 hi9).2.2.2.2.2.1 (tg_ne (fm74 k9 hi9).2.2.2.2.2.2.1 tI0 (tnA (show 0 < 240 by decide))), (fm74 k9 hi9).2.2.2.2.2.2.1, wd_at.pt ew82 (fm74 k9 hi9).2.2.2.2.2.2.2.1 (tg_ne (fm74 k9 hi9).2.2.2.2.2.2.2.2.1 tI0 (tnA (show 0 < 260 by decide))), (fm74 k9 hi9).2.2.2.2.2.2.2.2.1, wd_at.pt ew82 (fm74 k9 hi9).2.2.2.2.2.2.2.2.2.1 (tg_ne (fm74 k9 hi9).2.2.2.2.2.2.2.2.2.2.1 tI0 (tnA (show 0 < 280 by decide))), (fm74 k9 hi9).2.2.2.2.2.2.2.2.2.2.1, wd_at.pt ew82 (fm74 k9 hi9).2.2.2.2.2.2.2.2.2.2.2.1 (tg_ne (fm74 k9 hi9).2.2.2.2.2.2.2.2.2.2.2.2 tI0 (tnA (show 0 < 300 by decide))), (fm74 k9 hi9).2.2.2.2.2.2.2.2.2.2.2.2⟩
    have fm112 : ∀ k9, k9 < pc → pf k9 = some (pa k9) ∧ wd_at w81 (pa k9) (.inr (3, [.int (plv k9), .int (pwo k9), .int (phd k9), .int (pgd k9), .int (pdy k9), .int (pno k9), .int (ptp k9)])) ∧ tg (pa k9) = 3000 + k9 := fun k9 hi9 => ⟨(fm75 k9 hi9).1, wd_at.pt ew82 (fm75 k9 hi9).2.1 (tg_ne (fm75 k9 hi9).2.2 tI0 (tnA (show 0 < 3000 by decide))), (fm75 k9 hi9).2.2⟩
    have fm113 : ∀ k9, k9 < ac → af k9 = some (ad k9) ∧ wd_at w81 (ad k9) (.inr (0, [.int (av0 k9), .int (av1 k9), .int (av2 k9), .int (av3 k9)])) ∧ tg (ad k9) = 4000 + k9 := fun k9 hi9 => ⟨(fm76 k9 hi9).1, wd_at.pt ew82 (fm76 k9 hi9).2.1 (tg_ne (fm76 k9 hi9).2.2 tI0 (tnA (show 0 < 4000 by decide))), (fm76 k9 hi9).2.2⟩
    have fm114 : ∀ k9, k9 < sc → zf k9 = some (so k9) ∧ wd_at w81 (so k9) (.inr (6, [.int (sp0 k9), .int (sp1 k9), .ref (sr k9)])) ∧ tg (so k9) = 5000 + k9 ∧ wd_at w81 (sr k9) (.inl (cy 2, 12, .inl (sd k9))) ∧ tg (sr k9) = 6000 + k9 := fun k9 hi9 => ⟨(fm77 k9 hi9).1, wd_at.pt ew82 (fm77 k9 hi9).2.1 (tg_ne (fm77 k9 hi9).2.2.1 tI0 (tnA (show 0 < 5000 by decide))), (fm77 k9 hi9).2.2.1, wd_at.pt ew82 (fm77 k9 hi9).2.2.2.1 (tg_ne (fm77 k9 hi9).2.2.2.2 tI0 (tnA (show 0 < 6000 by decide))), (fm77 k9 hi9).2.2.2.2⟩
    have fm115 : ∀ k9, k9 < sh → (hf k9 = some (sw k9) ∧ hto k9 < 12) ∧ wd_at w81 (sw k9) (.inr (5, [.int (nI (hto k9)), .int (hpp k9), .int (hle k9), .int (ham k9), .int (hhh k9), .int (hdd k9), .int (hru k9), .int (hde k9), .int (hcp k9), .int (hld k9)])) ∧ tg (sw k9) = 7000 + k9 := fun k9 hi9 => ⟨(fm78 k9 hi9).1, wd_at.pt ew82 (fm78 k9 hi9).2.1 (tg_ne (fm78 k9 hi9).2.2 tI0 (tnA (show 0 < 7000 by decide))), (fm78 k9 hi9).2.2⟩
    have kp116 := kp79.put ew82 (tgS tI0 (by decide))
    refine lv_aload_n hx hb dX10_law_39 rfl (lv_at hl 2 rfl) ?_
    refine lv_aload_n hx hb dX10_law_40 rfl (lv_at hl 0 rfl) ?_
    refine y_put (ref := "NoteHouse") F hP hD hS k83 rfl (fun _ h => List.mem_cons_of_mem _ (List.mem_append_left _ (List.mem_append_left _ (List.mem_append_right _ (h))))) tyX10_ok nmX10 11 (Nat.le_of_ble_eq_true rfl) (List.mem_cons_of_mem _ (List.mem_append_left _ (List.mem_append_left _ (List.mem_append_left _ (List.mem_append_left _ (List.mem_of_getElem? (i := 0) rfl)))))) rfl rfl rfl rfl (Nat.le_of_ble_eq_true rfl) dX10_law_41 (fun w117 ew118 H locs hP hD hS => ?_)
    have k119 : wd_at w117 x (.inr (10, [.ref a0, .ref a1, .ref a2, .ref a3, .ref a4, .ref a5, .ref a6, .ref a7, .ref a8, .ref (aa sg), .ref a11, .ref a10, .int td, .int (nI pc), .int (nI ac), .int (nI sc), .int (nI sh)])) := wd_at.ps ew118 k83
    have k120 := wd_at.pt ew118 k84 (tg_ne tI1 tI0 (by decide))
    have k121 := wd_at.pt ew118 k85 (tg_ne tI2 tI0 (by decide))
    have k122 := wd_at.pt ew118 k86 (tg_ne tI3 tI0 (by decide))
    have k123 := wd_at.pt ew118 k87 (tg_ne tI4 tI0 (by decide))
    have k124 := wd_at.pt ew118 k88 (tg_ne tI5 tI0 (by decide))
    have k125 := wd_at.pt ew118 k89 (tg_ne tI6 tI0 (by decide))
    have k126 := wd_at.pt ew118 k90 (tg_ne tI7 tI0 (by decide))
    have k127 := wd_at.pt ew118 k91 (tg_ne tI8 tI0 (by decide))
    have k128 := wd_at.pt ew118 k92 (tg_ne tI9 tI0 (by decide))
    have k129 := wd_at.pt ew118 k93 (tg_ne tI10 tI0 (by decide))
    have k130 := wd_at.pt ew118 k94 (tg_ne tI11 tI0 (by decide))
    have k131 := wd_at.pt ew118 k95 (tg_ne tI12 tI0 (by decide))
    have k132 := wd_at.pt ew118 k96 (tg_ne tI13 tI0 (by decide))
    have k133 := wd_at.pt ew118 k97 (tg_ne tI14 tI0 (by decide))
    have k134 := wd_at.pt ew118 k98 (tg_ne tI15 tI0 (by decide))
    have k135 := wd_at.pt ew118 k99 (tg_ne tI16 tI0 (by decide))
    have k136 := wd_at.pt ew118 k100 (tg_ne tI17 tI0 (by decide))
    have k137 := wd_at.pt ew118 k101 (tg_ne tI18 tI0 (by decide))
    have k138 := wd_at.pt ew118 k102 (tg_ne tI19 tI0 (by decide))
    have k139 := wd_at.pt ew118 k103 (tg_ne tI20 tI0 (by decide))
    have k140 := wd_at.pt ew118 k104 (tg_ne tI21 tI0 (by decide))
    have k141 := wd_at.pt ew118 k105 (tg_ne tI22 tI0 (by decide))
    have k142 := wd_at.pt ew118 k106 (tg_ne tI23 tI0 (tnA (show 0 < 30 by decide)))
    have k143 := wd_at.pt ew118 k107 (tg_ne tI24 tI0 (tnA (show 0 < 32 by decide)))
    have k144 := wd_at.pt ew118 k108 (tg_ne tI25 tI0 (tnA (show 0 < 30 by decide)))
    have k145 := wd_at.pt ew118 k109 (tg_ne tI26 tI0 (tnA (show 0 < 32 by decide)))
    have fm146 : ∀ i9, i9 < 12 → tf i9 = some (tn i9) ∧ wd_at w117 (tn i9) (.inr (8, [.int (co i9), .int (ra i9), .int (se i9), .ref (ag i9)])) ∧ tg (tn i9) = 100 + i9 := fun i9 hi9 => ⟨(fm110 i9 hi9).1, wd_at.pt ew118 (fm110 i9 hi9).2.1 (tg_ne (fm110 i9 hi9).2.2 tI0 (tnA (show 0 < 100 by decide))), (fm110 i9 hi9).2.2⟩
    have fm147 : ∀ k9, k9 < 13 → (aOK (cf k9) (nf k9) ∧ ru k9 ≤ 12) ∧ wd_at w117 (aa k9) (.inr (1, [.ref (ga0 k9), .ref (ga1 k9), .ref (ga2 k9), .ref (ga3 k9), .ref (ga4 k9), .int (nI (ru k9))])) ∧ tg (aa k9) = 200 + k9 ∧ wd_at w117 (ga0 k9) (.inl (cy 2, 12, .inl (df k9))) ∧ tg (ga0 k9) = 220 + k9 ∧ wd_at w117 (ga1 k9) (.inl (cy 2, 12, .inl (cf k9))) ∧ tg (ga1 k9) = 240 + k9 ∧ wd_at w117 (ga2 k9) (.inl (cy 2, 72, .inl (nf k9))) ∧ tg (ga2 k9) = 260 + k9 ∧ wd_at w117 (ga3 k9) (.inl (cy 1, 72, .inl (sf k9))) ∧ tg (ga3 k9) = 280 + k9 ∧ wd_at w117 (ga4 k9) (.inl (cy 2, 72, .inl (uf k9))) ∧ tg (ga4 k9) = 300 + k9 := fun k9 hi9 => ⟨(fm111 k9 hi9).1, wd_at.pt ew118 (fm111 k9 hi9).2.1 (tg_ne (fm111 k9 hi9).2.2.1 tI0 (tnA (show 0 < 200 by decide))), (fm111 k9 hi9).2.2.1, wd_at.pt ew118 (fm111 k9 hi9).2.2.2.1 (tg_ne (fm111 k9 hi9).2.2.2.2.1 tI0 (tnA (show 0 < 220 by decide))), (fm111 k9 hi9).2.2.2.2.1, wd_at.pt ew118 (fm111 k9 hi9).2.2.2.2.2.1 (tg_ne (fm111 k9 hi9).2.2.2.2.2.2.1 tI0 (tnA (show 0 < 240 by decide))), (fm111 k9 hi9).2.2.2.2.2.2.1, wd_at.pt ew118 (fm111 k9 hi9).2.2.2.2.2.2.2.1 (tg_ne (fm111 k9 hi9).2.2.2.2.2.2.2.2.1 tI0 (tnA (show 0 < 260 by decide))), (fm111 k9 hi9).2.2.2.2.2.2.2.2.1, wd_at.pt ew118 (fm111 k9 hi9).2.2.2.2.2.2.2.2.2.1 (tg_ne (fm111 k9 hi9).2.2.2.2.2.2.2.2.2.2.1 tI0 (tnA (show 0 < 280 by decide))), (fm111 k9 hi9).2.2.2.2.2.2.2.2.2.2.1, wd_at.pt ew118 (fm111 k9 hi9).2.2.2.2.2.2.2.2.2.2.2.1 (tg_ne (fm111 k9 hi9).2.2.2.2.2.2.2.2.2.2.2.2 tI0 (tnA (show 0 < 300 by decide))), (fm111 k9 hi9).2.2.2.2.2.2.2.2.2.2.2.2⟩
    have fm148 : ∀ k9, k9 < pc → pf k9 = some (pa k9) ∧ wd_at w117 (pa k9) (.inr (3, [.int (plv k9), .int (pwo k9), .int (phd k9), .int (pgd k9), .int (pdy k9), .int (pno k9), .int (ptp k9)])) ∧ tg (pa k9) = 3000 + k9 := fun k9 hi9 => ⟨(fm112 k9 hi9).1, wd_at.pt ew118 (fm112 k9 hi9).2.1 (tg_ne (fm112 k9 hi9).2.2 tI0 (tnA (show 0 < 3000 by decide))), (fm112 k9 hi9).2.2⟩
    have fm149 : ∀ k9, k9 < ac → af k9 = some (ad k9) ∧ wd_at w117 (ad k9) (.inr (0, [.int (av0 k9), .int (av1 k9), .int (av2 k9), .int (av3 k9)])) ∧ tg (ad k9) = 4000 + k9 := fun k9 hi9 => ⟨(fm113 k9 hi9).1, wd_at.pt ew118 (fm113 k9 hi9).2.1 (tg_ne (fm113 k9 hi9).2.2 tI0 (tnA (show 0 < 4000 by decide))), (fm113 k9 hi9).2.2⟩
    have fm150 : ∀ k9, k9 < sc → zf k9 = some (so k9) ∧ wd_at w117 (so k9) (.inr (6, [.int (sp0 k9), .int (sp1 k9), .ref (sr k9)])) ∧ tg (so k9) = 5000 + k9 ∧ wd_at w117 (sr k9) (.inl (cy 2, 12, .inl (sd k9))) ∧ tg (sr k9) = 6000 + k9 := fun k9 hi9 => ⟨(fm114 k9 hi9).1, wd_at.pt ew118 (fm114 k9 hi9).2.1 (tg_ne (fm114 k9 hi9).2.2.1 tI0 (tnA (show 0 < 5000 by decide))), (fm114 k9 hi9).2.2.1, wd_at.pt ew118 (fm114 k9 hi9).2.2.2.1 (tg_ne (fm114 k9 hi9).2.2.2.2 tI0 (tnA (show 0 < 6000 by decide))), (fm114 k9 hi9).2.2.2.2⟩
    have fm151 : ∀ k9, k9 < sh → (hf k9 = some (sw k9) ∧ hto k9 < 12) ∧ wd_at w117 (sw k9) (.inr (5, [.int (nI (hto k9)), .int (hpp k9), .int (hle k9), .int (ham k9), .int (hhh k9), .int (hdd k9), .int (hru k9), .int (hde k9), .int (hcp k9), .int (hld k9)])) ∧ tg (sw k9) = 7000 + k9 := fun k9 hi9 => ⟨(fm115 k9 hi9).1, wd_at.pt ew118 (fm115 k9 hi9).2.1 (tg_ne (fm115 k9 hi9).2.2 tI0 (tnA (show 0 < 7000 by decide))), (fm115 k9 hi9).2.2⟩
    have kp152 := kp116.put ew118 (tgS tI0 (by decide))
    refine lv_iconst (v := 0) hx hb dX10_law_44 (by decide) ?_
    have hX154 : IX cy tg x td pc ac sc 0 se plv w117 := IX.mk a0 a1 a2 a3 a4 a5 a6 a7 a8 a11 a10 b0 b1 b2 b3 tb l0 l1 l2 l3 l4 l5 l6 l7 bm bl sh gc sg lv9 lu f0 f1 f2 f3 tbf e0 e1 e4 e5 e7 ff bfx7 bf e2 e3 e6 ax4 sz ffx5 ttx6 fo to tf tn ag co ra aa ru ga0 ga1 ga2 ga3 ga4 df cf nf sf uf pf pa pwo phd pgd pdy pno ptp af ad av0 av1 av2 av3 zf so sr sp0 sp1 sd hf sw hto hpp hle ham hhh hdd hru hde hcp hld (by omega) (by omega) (by omega) (by omega) (by omega) (by omega) (by omega) (by omega) hag k119 tI0 k120 tI1 k121 tI2 k122 tI3 k123 tI4 k124 tI5 k125 tI6 k126 tI7 k127 tI8 k128 tI9 k129 tI10 k130 tI11 k131 tI12 k132 tI13 k133 tI14 k134 tI15 k135 tI16 k136 tI17 k137 tI18 k138 tI19 k139 tI20 k140 tI21 k141 tI22 k144 tI25 k145 tI26 k142 tI23 k143 tI24 fm146 fm147 fm148 fm149 fm150 fm151
    exact y_ir K hP hD hS (Nat.le_of_ble_eq_true rfl) (Nat.le_of_ble_eq_true rfl) (ty := .int) rfl rfl dX10_law_45 (⟨⟨_, rfl⟩, ⟨tg, (fun _ _ => rfl), kp152, hX154⟩⟩)
  · refine lv_iload_n hx hb dX10_law_24 rfl (lv_at hl 0 rfl) ?_
    have hX156 : IX cy tg x td pc ac sc 0 se plv w44 := IX.mk a0 a1 a2 a3 a4 a5 a6 a7 a8 a10 a11 b0 b1 b2 b3 tb l0 l1 l2 l3 l4 l5 l6 l7 bl bm sh gc sg lu lv9 f0 f1 f2 f3 tbf e0 e1 e4 e5 e7 ff bf bfx7 e2 e3 e6 ax4 sz fo to ffx5 ttx6 tf tn ag co ra aa ru ga0 ga1 ga2 ga3 ga4 df cf nf sf uf pf pa pwo phd pgd pdy pno ptp af ad av0 av1 av2 av3 zf so sr sp0 sp1 sd hf sw hto hpp hle ham hhh hdd hru hde hcp hld (by omega) (by omega) (by omega) (by omega) (by omega) (by omega) (by omega) (by omega) hag k46 tI0 k47 tI1 k48 tI2 k49 tI3 k50 tI4 k51 tI5 k52 tI6 k53 tI7 k54 tI8 k55 tI9 k56 tI10 k57 tI11 k58 tI12 k59 tI13 k60 tI14 k61 tI15 k62 tI16 k63 tI17 k64 tI18 k65 tI19 k66 tI20 k67 tI21 k68 tI22 k69 tI23 k70 tI24 k71 tI25 k72 tI26 fm73 fm74 fm75 fm76 fm77 fm78
    exact y_ir K hP hD hS (Nat.le_of_ble_eq_true rfl) (Nat.le_of_ble_eq_true rfl) (ty := .int) rfl rfl dX10_law_25 (⟨⟨_, rfl⟩, ⟨tg, (fun _ _ => rfl), kp79, hX156⟩⟩)
set_option maxHeartbeats 4000000 in
set_option maxRecDepth 100000 in
theorem X_shown (l : Launch) (D : va_G) (cy : Nat → ClassId) (sk sv : Nat → Nat) (w : Wd) (tg : Nat → Nat) (x : Nat) (td : Int32) (pc ac sc ln : Nat) (se plv : Nat → Int32) (x1 x2 : Int32) (hIX0 : IX cy tg x td pc ac sc ln se plv w) : Ct l D cy sk sv yX10_shown wsX10_shown ({ frames := 1, cells := 0, slots := 0, locals := 21 }) [.ref x, .int x1, .int x2] w (fun v w1 => (∃ r : Int32, v = some (.int r)) ∧ XP cy tg x td pc ac sc ln se plv w w1) := by
  refine Ct.by (cc := cX10_shown) (maxL := 4) (ret := (some .int)) (by decide +kernel) rfl (Nat.le_of_ble_eq_true rfl) ?_
  intro p e s m args below meth c A Q F hnm K ls hl
  have F : wd_Fx p s m args meth c cX10_shown 4 wsX10_shown RX10 D cy sk sv A := F
  have hl : lv_has ls 4 [(0, .ref x), (1, .int x1), (2, .int x2)] := hl
  have hx := F.1.1
  have hb := F.1.2.1
  have hown := F.1.2.2.2.1
  have hts := F.1.2.2.2.2
  intro H locs hP hD hS
  have kp0 : wd_kp (fun b => tg b < 10000) w w := wd_kp.rf
  refine hIX0 _ ?_
  intro a0 a1 a2 a3 a4 a5 a6 a7 a8 a10 a11 b0 b1 b2 b3 tb l0 l1 l2 l3 l4 l5 l6 l7 bl bm sh gc sg lu lv9 f0 f1 f2 f3 tbf e0 e1 e4 e5 e7 ff bf bf2 e2 e3 e6 ta sz fo to fo2 to2 tf tn ag co ra aa ru ga0 ga1 ga2 ga3 ga4 df cf nf sf uf pf pa pwo phd pgd pdy pno ptp af ad av0 av1 av2 av3 zf so sr sp0 sp1 sd hf sw hto hpp hle ham hhh hdd hru hde hcp hld hp90 hp91 hp92 hp93 hp94 hp95 hp96 hp97 hag kI0 tI0 kI1 tI1 kI2 tI2 kI3 tI3 kI4 tI4 kI5 tI5 kI6 tI6 kI7 tI7 kI8 tI8 kI9 tI9 kI10 tI10 kI11 tI11 kI12 tI12 kI13 tI13 kI14 tI14 kI15 tI15 kI16 tI16 kI17 tI17 kI18 tI18 kI19 tI19 kI20 tI20 kI21 tI21 kI22 tI22 kI23 tI23 kI24 tI24 kI25 tI25 kI26 tI26 hT9 hG9 hP9 hA9 hS9 hH9
  have hlu : lu < 2 := by omega
  have hlv : lv9 < 2 := by omega
  refine lv_aload_n hx hb dX10_shown_0 rfl (lv_at hl 0 rfl) ?_
  refine lv_iload_n hx hb dX10_shown_1 rfl (lv_at hl 1 rfl) ?_
  refine x_callV (n := 1) (As := [.int x1]) (rest := []) F hP hD hS (g_shownAt l D cy sk sv w x a0 a1 a2 a3 a4 a5 a6 a7 a8 (aa sg) a10 a11 pc ac sc sh td x1 tg hf sw hto hpp hle ham hhh hdd hru hde hcp hld kI0 kI10 hH9 (by omega)) gX10_shown_X10_shownAt rfl rfl (by decide +kernel) ⟨(Nat.le_of_ble_eq_true rfl), (Nat.le_of_ble_eq_true rfl)⟩ rfl hl.1 (Nat.le_of_ble_eq_true rfl) kI0 rfl dX10_shown_2 rfl ⟨(Nat.le_of_ble_eq_true rfl), (Nat.le_of_ble_eq_true rfl)⟩ (fun v2 w3 hp1 H locs hP hD hS => ?_)
  obtain ⟨hp1, rfl⟩ := hp1
  rcases hp1 with ⟨rfl, hn5⟩ | ⟨j4, hn5, ej4, rfl⟩
  · refine W.eq (g2 := F0 m 5 ls [.null]) rfl (W.widen (k := 0) (n := 0) (Nat.le_of_ble_eq_true rfl) (Nat.le_of_ble_eq_true rfl) ?_)
    refine lv_astore_nN (lv' := [(3, .null), (0, .ref x), (1, .int x1), (2, .int x2)]) hx hb dX10_shown_5 rfl hl (by decide) rfl (fun ls hl => ?_)
    refine lv_aload_nN hx hb dX10_shown_6 rfl (lv_at hl 0 rfl) ?_
    refine lv_ifnonnullN hx hb dX10_shown_7 ?_
    refine lv_iconst (v := (-1)) hx hb dX10_shown_10 (by decide) ?_
    exact y_ir K hP hD hS (Nat.le_of_ble_eq_true rfl) (Nat.le_of_ble_eq_true rfl) (ty := .int) rfl rfl dX10_shown_11 (⟨⟨_, rfl⟩, ⟨tg, fun _ _ => rfl, wd_kp.rf, hIX0⟩⟩)
  · refine W.eq (g2 := F0 m 5 ls [.ref (sw j4)]) rfl (W.widen (k := 0) (n := 0) (Nat.le_of_ble_eq_true rfl) (Nat.le_of_ble_eq_true rfl) ?_)
    have pr6 := (hH9 j4 hn5).1
    have k7 := (hH9 j4 hn5).2.1
    have tz8 := (hH9 j4 hn5).2.2
    refine lv_astore_n (lv' := [(3, .ref (sw j4)), (0, .ref x), (1, .int x1), (2, .int x2)]) hx hb dX10_shown_5 rfl hl (by decide) rfl (fun ls hl => ?_)
    refine lv_aload_n hx hb dX10_shown_6 rfl (lv_at hl 0 rfl) ?_
    refine lv_ifnonnull (tgt := 12) hx hb dX10_shown_7 (by decide) ?_
    refine lv_iload_n hx hb dX10_shown_12 rfl (lv_at hl 3 rfl) ?_
    by_cases c_9 : x2 = 0
    · refine lv_tableIn (off := 51) (tgt := 64) hx hb dX10_shown_13 (by rw [c_9]; decide) (by rw [c_9]; decide) (by rw [c_9]; decide) (by decide) ?_
      refine lv_aload_n hx hb dX10_shown_64 rfl (lv_at hl 0 rfl) ?_
      refine x_get (ref := "NoteHouse$Shown") F hP k7 rfl (fun _ h => List.mem_cons_of_mem _ (List.mem_append_left _ (List.mem_append_right _ (h)))) 0 (Nat.le_of_ble_eq_true rfl) (List.mem_cons_of_mem _ (List.mem_append_left _ (List.mem_append_left _ (List.mem_of_getElem? (i := 0) rfl)))) rfl rfl dX10_shown_65 ?_
      exact y_ir K hP hD hS (Nat.le_of_ble_eq_true rfl) (Nat.le_of_ble_eq_true rfl) (ty := .int) rfl rfl dX10_shown_68 (⟨⟨_, rfl⟩, ⟨tg, fun _ _ => rfl, wd_kp.rf, hIX0⟩⟩)
    by_cases c_10 : x2 = 1
    · refine lv_tableIn (off := 56) (tgt := 69) hx hb dX10_shown_13 (by rw [c_10]; decide) (by rw [c_10]; decide) (by rw [c_10]; decide) (by decide) ?_
      refine lv_aload_n hx hb dX10_shown_69 rfl (lv_at hl 0 rfl) ?_
      refine x_get (ref := "NoteHouse$Shown") F hP k7 rfl (fun _ h => List.mem_cons_of_mem _ (List.mem_append_left _ (List.mem_append_right _ (h)))) 1 (Nat.le_of_ble_eq_true rfl) (List.mem_cons_of_mem _ (List.mem_append_left _ (List.mem_append_left _ (List.mem_of_getElem? (i := 1) rfl)))) rfl rfl dX10_shown_70 ?_
      exact y_ir K hP hD hS (Nat.le_of_ble_eq_true rfl) (Nat.le_of_ble_eq_true rfl) (ty := .int) rfl rfl dX10_shown_73 (⟨⟨_, rfl⟩, ⟨tg, fun _ _ => rfl, wd_kp.rf, hIX0⟩⟩)
    by_cases c_11 : x2 = 2
    · refine lv_tableIn (off := 61) (tgt := 74) hx hb dX10_shown_13 (by rw [c_11]; decide) (by rw [c_11]; decide) (by rw [c_11]; decide) (by decide) ?_
      refine lv_aload_n hx hb dX10_shown_74 rfl (lv_at hl 0 rfl) ?_
      refine x_get (ref := "NoteHouse$Shown") F hP k7 rfl (fun _ h => List.mem_cons_of_mem _ (List.mem_append_left _ (List.mem_append_right _ (h)))) 2 (Nat.le_of_ble_eq_true rfl) (List.mem_cons_of_mem _ (List.mem_append_left _ (List.mem_append_left _ (List.mem_of_getElem? (i := 2) rfl)))) rfl rfl dX10_shown_75 ?_
      exact y_ir K hP hD hS (Nat.le_of_ble_eq_true rfl) (Nat.le_of_ble_eq_true rfl) (ty := .int) rfl rfl dX10_shown_78 (⟨⟨_, rfl⟩, ⟨tg, fun _ _ => rfl, wd_kp.rf, hIX0⟩⟩)
    by_cases c_12 : x2 = 3
    · refine lv_tableIn (off := 66) (tgt := 79) hx hb dX10_shown_13 (by rw [c_12]; decide) (by rw [c_12]; decide) (by rw [c_12]; decide) (by decide) ?_
      refine lv_aload_n hx hb dX10_shown_79 rfl (lv_at hl 0 rfl) ?_
      refine x_get (ref := "NoteHouse$Shown") F hP k7 rfl (fun _ h => List.mem_cons_of_mem _ (List.mem_append_left _ (List.mem_append_right _ (h)))) 3 (Nat.le_of_ble_eq_true rfl) (List.mem_cons_of_mem _ (List.mem_append_left _ (List.mem_append_left _ (List.mem_of_getElem? (i := 3) rfl)))) rfl rfl dX10_shown_80 ?_
      exact y_ir K hP hD hS (Nat.le_of_ble_eq_true rfl) (Nat.le_of_ble_eq_true rfl) (ty := .int) rfl rfl dX10_shown_83 (⟨⟨_, rfl⟩, ⟨tg, fun _ _ => rfl, wd_kp.rf, hIX0⟩⟩)
    by_cases c_13 : x2 = 4
    · refine lv_tableIn (off := 71) (tgt := 84) hx hb dX10_shown_13 (by rw [c_13]; decide) (by rw [c_13]; decide) (by rw [c_13]; decide) (by decide) ?_
      refine lv_aload_n hx hb dX10_shown_84 rfl (lv_at hl 0 rfl) ?_
      refine x_get (ref := "NoteHouse$Shown") F hP k7 rfl (fun _ h => List.mem_cons_of_mem _ (List.mem_append_left _ (List.mem_append_right _ (h)))) 7 (Nat.le_of_ble_eq_true rfl) (List.mem_cons_of_mem _ (List.mem_append_left _ (List.mem_append_left _ (List.mem_of_getElem? (i := 4) rfl)))) rfl rfl dX10_shown_85 ?_
      exact y_ir K hP hD hS (Nat.le_of_ble_eq_true rfl) (Nat.le_of_ble_eq_true rfl) (ty := .int) rfl rfl dX10_shown_88 (⟨⟨_, rfl⟩, ⟨tg, fun _ _ => rfl, wd_kp.rf, hIX0⟩⟩)
    by_cases c_14 : x2 = 5
    · refine lv_tableIn (off := 76) (tgt := 89) hx hb dX10_shown_13 (by rw [c_14]; decide) (by rw [c_14]; decide) (by rw [c_14]; decide) (by decide) ?_
      refine lv_aload_n hx hb dX10_shown_89 rfl (lv_at hl 0 rfl) ?_
      refine x_get (ref := "NoteHouse$Shown") F hP k7 rfl (fun _ h => List.mem_cons_of_mem _ (List.mem_append_left _ (List.mem_append_right _ (h)))) 6 (Nat.le_of_ble_eq_true rfl) (List.mem_cons_of_mem _ (List.mem_append_left _ (List.mem_append_left _ (List.mem_of_getElem? (i := 5) rfl)))) rfl rfl dX10_shown_90 ?_
      exact y_ir K hP hD hS (Nat.le_of_ble_eq_true rfl) (Nat.le_of_ble_eq_true rfl) (ty := .int) rfl rfl dX10_shown_93 (⟨⟨_, rfl⟩, ⟨tg, fun _ _ => rfl, wd_kp.rf, hIX0⟩⟩)
    by_cases c_15 : x2 = 6
    · refine lv_tableIn (off := 81) (tgt := 94) hx hb dX10_shown_13 (by rw [c_15]; decide) (by rw [c_15]; decide) (by rw [c_15]; decide) (by decide) ?_
      refine lv_aload_n hx hb dX10_shown_94 rfl (lv_at hl 0 rfl) ?_
      refine x_get (ref := "NoteHouse$Shown") F hP k7 rfl (fun _ h => List.mem_cons_of_mem _ (List.mem_append_left _ (List.mem_append_right _ (h)))) 8 (Nat.le_of_ble_eq_true rfl) (List.mem_cons_of_mem _ (List.mem_append_left _ (List.mem_append_left _ (List.mem_of_getElem? (i := 6) rfl)))) rfl rfl dX10_shown_95 ?_
      exact y_ir K hP hD hS (Nat.le_of_ble_eq_true rfl) (Nat.le_of_ble_eq_true rfl) (ty := .int) rfl rfl dX10_shown_98 (⟨⟨_, rfl⟩, ⟨tg, fun _ _ => rfl, wd_kp.rf, hIX0⟩⟩)
    by_cases c_16 : x2 = 7
    · refine lv_tableIn (off := 86) (tgt := 99) hx hb dX10_shown_13 (by rw [c_16]; decide) (by rw [c_16]; decide) (by rw [c_16]; decide) (by decide) ?_
      refine lv_aload_n hx hb dX10_shown_99 rfl (lv_at hl 0 rfl) ?_
      refine x_get (ref := "NoteHouse$Shown") F hP k7 rfl (fun _ h => List.mem_cons_of_mem _ (List.mem_append_left _ (List.mem_append_right _ (h)))) 5 (Nat.le_of_ble_eq_true rfl) (List.mem_cons_of_mem _ (List.mem_append_left _ (List.mem_append_left _ (List.mem_of_getElem? (i := 7) rfl)))) rfl rfl dX10_shown_100 ?_
      exact y_ir K hP hD hS (Nat.le_of_ble_eq_true rfl) (Nat.le_of_ble_eq_true rfl) (ty := .int) rfl rfl dX10_shown_103 (⟨⟨_, rfl⟩, ⟨tg, fun _ _ => rfl, wd_kp.rf, hIX0⟩⟩)
    by_cases c_17 : x2 = 8
    · refine lv_tableIn (off := 91) (tgt := 104) hx hb dX10_shown_13 (by rw [c_17]; decide) (by rw [c_17]; decide) (by rw [c_17]; decide) (by decide) ?_
      refine lv_aload_n hx hb dX10_shown_104 rfl (lv_at hl 0 rfl) ?_
      refine x_get (ref := "NoteHouse$Shown") F hP k7 rfl (fun _ h => List.mem_cons_of_mem _ (List.mem_append_left _ (List.mem_append_right _ (h)))) 9 (Nat.le_of_ble_eq_true rfl) (List.mem_cons_of_mem _ (List.mem_append_left _ (List.mem_append_left _ (List.mem_of_getElem? (i := 8) rfl)))) rfl rfl dX10_shown_105 ?_
      exact y_ir K hP hD hS (Nat.le_of_ble_eq_true rfl) (Nat.le_of_ble_eq_true rfl) (ty := .int) rfl rfl dX10_shown_108 (⟨⟨_, rfl⟩, ⟨tg, fun _ _ => rfl, wd_kp.rf, hIX0⟩⟩)
    refine lv_tableOut (tgt := 109) hx hb dX10_shown_13 (by have z0 := lv_neT c_9 (show (0 : Int32).toInt = 0 by decide); have z1 := lv_neT c_10 (show (1 : Int32).toInt = 1 by decide); have z2 := lv_neT c_11 (show (2 : Int32).toInt = 2 by decide); have z3 := lv_neT c_12 (show (3 : Int32).toInt = 3 by decide); have z4 := lv_neT c_13 (show (4 : Int32).toInt = 4 by decide); have z5 := lv_neT c_14 (show (5 : Int32).toInt = 5 by decide); have z6 := lv_neT c_15 (show (6 : Int32).toInt = 6 by decide); have z7 := lv_neT c_16 (show (7 : Int32).toInt = 7 by decide); have z8 := lv_neT c_17 (show (8 : Int32).toInt = 8 by decide); omega) (by decide) ?_
    refine lv_iconst (v := (-1)) hx hb dX10_shown_109 (by decide) ?_
    exact y_ir K hP hD hS (Nat.le_of_ble_eq_true rfl) (Nat.le_of_ble_eq_true rfl) (ty := .int) rfl rfl dX10_shown_110 (⟨⟨_, rfl⟩, ⟨tg, fun _ _ => rfl, wd_kp.rf, hIX0⟩⟩)
set_option maxHeartbeats 4000000 in
set_option maxRecDepth 100000 in
theorem X_paper (l : Launch) (D : va_G) (cy : Nat → ClassId) (sk sv : Nat → Nat) (w : Wd) (tg : Nat → Nat) (x : Nat) (td : Int32) (pc ac sc ln : Nat) (se plv : Nat → Int32) (x1 x2 : Int32) (hIX0 : IX cy tg x td pc ac sc ln se plv w) : Ct l D cy sk sv yX10_paper wsX10_paper ({ frames := 1, cells := 0, slots := 0, locals := 21 }) [.ref x, .int x1, .int x2] w (fun v w1 => (∃ r : Int32, v = some (.int r)) ∧ XP cy tg x td pc ac sc ln se plv w w1) := by
  refine Ct.by (cc := cX10_paper) (maxL := 4) (ret := (some .int)) (by decide +kernel) rfl (Nat.le_of_ble_eq_true rfl) ?_
  intro p e s m args below meth c A Q F hnm K ls hl
  have F : wd_Fx p s m args meth c cX10_paper 4 wsX10_paper RX10 D cy sk sv A := F
  have hl : lv_has ls 4 [(0, .ref x), (1, .int x1), (2, .int x2)] := hl
  have hx := F.1.1
  have hb := F.1.2.1
  have hown := F.1.2.2.2.1
  have hts := F.1.2.2.2.2
  intro H locs hP hD hS
  have kp0 : wd_kp (fun b => tg b < 10000) w w := wd_kp.rf
  refine hIX0 _ ?_
  intro a0 a1 a2 a3 a4 a5 a6 a7 a8 a10 a11 b0 b1 b2 b3 tb l0 l1 l2 l3 l4 l5 l6 l7 bl bm sh gc sg lu lv9 f0 f1 f2 f3 tbf e0 e1 e4 e5 e7 ff bf bf2 e2 e3 e6 ta sz fo to fo2 to2 tf tn ag co ra aa ru ga0 ga1 ga2 ga3 ga4 df cf nf sf uf pf pa pwo phd pgd pdy pno ptp af ad av0 av1 av2 av3 zf so sr sp0 sp1 sd hf sw hto hpp hle ham hhh hdd hru hde hcp hld hp90 hp91 hp92 hp93 hp94 hp95 hp96 hp97 hag kI0 tI0 kI1 tI1 kI2 tI2 kI3 tI3 kI4 tI4 kI5 tI5 kI6 tI6 kI7 tI7 kI8 tI8 kI9 tI9 kI10 tI10 kI11 tI11 kI12 tI12 kI13 tI13 kI14 tI14 kI15 tI15 kI16 tI16 kI17 tI17 kI18 tI18 kI19 tI19 kI20 tI20 kI21 tI21 kI22 tI22 kI23 tI23 kI24 tI24 kI25 tI25 kI26 tI26 hT9 hG9 hP9 hA9 hS9 hH9
  have hlu : lu < 2 := by omega
  have hlv : lv9 < 2 := by omega
  refine lv_aload_n hx hb dX10_paper_0 rfl (lv_at hl 0 rfl) ?_
  refine lv_iload_n hx hb dX10_paper_1 rfl (lv_at hl 1 rfl) ?_
  refine x_callV (n := 1) (As := [.int x1]) (rest := []) F hP hD hS (g_paperAt l D cy sk sv w x a0 a1 a2 a3 a4 a5 a6 a7 a8 (aa sg) a10 a11 pc ac sc sh td x1 tg pf pa plv pwo phd pgd pdy pno ptp kI0 kI7 hP9 (by omega)) gX10_paper_X10_paperAt rfl rfl (by decide +kernel) ⟨(Nat.le_of_ble_eq_true rfl), (Nat.le_of_ble_eq_true rfl)⟩ rfl hl.1 (Nat.le_of_ble_eq_true rfl) kI0 rfl dX10_paper_2 rfl ⟨(Nat.le_of_ble_eq_true rfl), (Nat.le_of_ble_eq_true rfl)⟩ (fun v2 w3 hp1 H locs hP hD hS => ?_)
  obtain ⟨hp1, rfl⟩ := hp1
  rcases hp1 with ⟨rfl, hn5⟩ | ⟨j4, hn5, ej4, rfl⟩
  · have pb6 := pb_n (by omega) hn5
    refine W.eq (g2 := F0 m 5 ls [.null]) rfl (W.widen (k := 0) (n := 0) (Nat.le_of_ble_eq_true rfl) (Nat.le_of_ble_eq_true rfl) ?_)
    refine lv_astore_nN (lv' := [(3, .null), (0, .ref x), (1, .int x1), (2, .int x2)]) hx hb dX10_paper_5 rfl hl (by decide) rfl (fun ls hl => ?_)
    refine lv_aload_nN hx hb dX10_paper_6 rfl (lv_at hl 0 rfl) ?_
    refine lv_ifnonnullN hx hb dX10_paper_7 ?_
    refine lv_iconst (v := (-1)) hx hb dX10_paper_10 (by decide) ?_
    exact y_ir K hP hD hS (Nat.le_of_ble_eq_true rfl) (Nat.le_of_ble_eq_true rfl) (ty := .int) rfl rfl dX10_paper_11 (⟨⟨_, rfl⟩, ⟨tg, fun _ _ => rfl, wd_kp.rf, hIX0⟩⟩)
  · refine W.eq (g2 := F0 m 5 ls [.ref (pa j4)]) rfl (W.widen (k := 0) (n := 0) (Nat.le_of_ble_eq_true rfl) (Nat.le_of_ble_eq_true rfl) ?_)
    have pr7 := (hP9 j4 hn5).1
    have pb8 := pb_r (by omega) hn5 ej4
    have k9 := (hP9 j4 hn5).2.1
    have tz10 := (hP9 j4 hn5).2.2
    refine lv_astore_n (lv' := [(3, .ref (pa j4)), (0, .ref x), (1, .int x1), (2, .int x2)]) hx hb dX10_paper_5 rfl hl (by decide) rfl (fun ls hl => ?_)
    refine lv_aload_n hx hb dX10_paper_6 rfl (lv_at hl 0 rfl) ?_
    refine lv_ifnonnull (tgt := 12) hx hb dX10_paper_7 (by decide) ?_
    refine lv_iload_n hx hb dX10_paper_12 rfl (lv_at hl 3 rfl) ?_
    by_cases c_11 : x2 = 0
    · refine lv_tableIn (off := 35) (tgt := 48) hx hb dX10_paper_13 (by rw [c_11]; decide) (by rw [c_11]; decide) (by rw [c_11]; decide) (by decide) ?_
      refine lv_aload_n hx hb dX10_paper_48 rfl (lv_at hl 0 rfl) ?_
      refine x_get (ref := "NoteHouse$Paper") F hP k9 rfl (fun _ h => List.mem_cons_of_mem _ (List.mem_append_left _ (List.mem_append_right _ (h)))) 0 (Nat.le_of_ble_eq_true rfl) (List.mem_cons_of_mem _ (List.mem_append_left _ (List.mem_append_left _ (List.mem_of_getElem? (i := 0) rfl)))) rfl rfl dX10_paper_49 ?_
      exact y_ir K hP hD hS (Nat.le_of_ble_eq_true rfl) (Nat.le_of_ble_eq_true rfl) (ty := .int) rfl rfl dX10_paper_52 (⟨⟨_, rfl⟩, ⟨tg, fun _ _ => rfl, wd_kp.rf, hIX0⟩⟩)
    by_cases c_12 : x2 = 1
    · refine lv_tableIn (off := 40) (tgt := 53) hx hb dX10_paper_13 (by rw [c_12]; decide) (by rw [c_12]; decide) (by rw [c_12]; decide) (by decide) ?_
      refine lv_aload_n hx hb dX10_paper_53 rfl (lv_at hl 0 rfl) ?_
      refine x_get (ref := "NoteHouse$Paper") F hP k9 rfl (fun _ h => List.mem_cons_of_mem _ (List.mem_append_left _ (List.mem_append_right _ (h)))) 1 (Nat.le_of_ble_eq_true rfl) (List.mem_cons_of_mem _ (List.mem_append_left _ (List.mem_append_left _ (List.mem_of_getElem? (i := 1) rfl)))) rfl rfl dX10_paper_54 ?_
      exact y_ir K hP hD hS (Nat.le_of_ble_eq_true rfl) (Nat.le_of_ble_eq_true rfl) (ty := .int) rfl rfl dX10_paper_57 (⟨⟨_, rfl⟩, ⟨tg, fun _ _ => rfl, wd_kp.rf, hIX0⟩⟩)
    by_cases c_13 : x2 = 2
    · refine lv_tableIn (off := 45) (tgt := 58) hx hb dX10_paper_13 (by rw [c_13]; decide) (by rw [c_13]; decide) (by rw [c_13]; decide) (by decide) ?_
      refine lv_aload_n hx hb dX10_paper_58 rfl (lv_at hl 0 rfl) ?_
      refine x_get (ref := "NoteHouse$Paper") F hP k9 rfl (fun _ h => List.mem_cons_of_mem _ (List.mem_append_left _ (List.mem_append_right _ (h)))) 4 (Nat.le_of_ble_eq_true rfl) (List.mem_cons_of_mem _ (List.mem_append_left _ (List.mem_append_left _ (List.mem_of_getElem? (i := 2) rfl)))) rfl rfl dX10_paper_59 ?_
      exact y_ir K hP hD hS (Nat.le_of_ble_eq_true rfl) (Nat.le_of_ble_eq_true rfl) (ty := .int) rfl rfl dX10_paper_62 (⟨⟨_, rfl⟩, ⟨tg, fun _ _ => rfl, wd_kp.rf, hIX0⟩⟩)
    by_cases c_14 : x2 = 3
    · refine lv_tableIn (off := 50) (tgt := 63) hx hb dX10_paper_13 (by rw [c_14]; decide) (by rw [c_14]; decide) (by rw [c_14]; decide) (by decide) ?_
      refine lv_aload_n hx hb dX10_paper_63 rfl (lv_at hl 0 rfl) ?_
      refine x_get (ref := "NoteHouse$Paper") F hP k9 rfl (fun _ h => List.mem_cons_of_mem _ (List.mem_append_left _ (List.mem_append_right _ (h)))) 5 (Nat.le_of_ble_eq_true rfl) (List.mem_cons_of_mem _ (List.mem_append_left _ (List.mem_append_left _ (List.mem_of_getElem? (i := 3) rfl)))) rfl rfl dX10_paper_64 ?_
      exact y_ir K hP hD hS (Nat.le_of_ble_eq_true rfl) (Nat.le_of_ble_eq_true rfl) (ty := .int) rfl rfl dX10_paper_67 (⟨⟨_, rfl⟩, ⟨tg, fun _ _ => rfl, wd_kp.rf, hIX0⟩⟩)
    by_cases c_15 : x2 = 4
    · refine lv_tableIn (off := 55) (tgt := 68) hx hb dX10_paper_13 (by rw [c_15]; decide) (by rw [c_15]; decide) (by rw [c_15]; decide) (by decide) ?_
      refine lv_aload_n hx hb dX10_paper_68 rfl (lv_at hl 0 rfl) ?_
      refine x_get (ref := "NoteHouse$Paper") F hP k9 rfl (fun _ h => List.mem_cons_of_mem _ (List.mem_append_left _ (List.mem_append_right _ (h)))) 6 (Nat.le_of_ble_eq_true rfl) (List.mem_cons_of_mem _ (List.mem_append_left _ (List.mem_append_left _ (List.mem_of_getElem? (i := 4) rfl)))) rfl rfl dX10_paper_69 ?_
      exact y_ir K hP hD hS (Nat.le_of_ble_eq_true rfl) (Nat.le_of_ble_eq_true rfl) (ty := .int) rfl rfl dX10_paper_72 (⟨⟨_, rfl⟩, ⟨tg, fun _ _ => rfl, wd_kp.rf, hIX0⟩⟩)
    refine lv_tableOut (tgt := 73) hx hb dX10_paper_13 (by have z0 := lv_neT c_11 (show (0 : Int32).toInt = 0 by decide); have z1 := lv_neT c_12 (show (1 : Int32).toInt = 1 by decide); have z2 := lv_neT c_13 (show (2 : Int32).toInt = 2 by decide); have z3 := lv_neT c_14 (show (3 : Int32).toInt = 3 by decide); have z4 := lv_neT c_15 (show (4 : Int32).toInt = 4 by decide); omega) (by decide) ?_
    refine lv_iconst (v := (-1)) hx hb dX10_paper_73 (by decide) ?_
    exact y_ir K hP hD hS (Nat.le_of_ble_eq_true rfl) (Nat.le_of_ble_eq_true rfl) (ty := .int) rfl rfl dX10_paper_74 (⟨⟨_, rfl⟩, ⟨tg, fun _ _ => rfl, wd_kp.rf, hIX0⟩⟩)
set_option maxHeartbeats 4000000 in
set_option maxRecDepth 100000 in
theorem X_comes (l : Launch) (D : va_G) (cy : Nat → ClassId) (sk sv : Nat → Nat) (w : Wd) (tg : Nat → Nat) (x : Nat) (td : Int32) (pc ac sc ln : Nat) (se plv : Nat → Int32) (x1 x2 x3 : Int32) (hIX0 : IX cy tg x td pc ac sc ln se plv w) : Ct l D cy sk sv yX10_comes wsX10_comes ({ frames := 2, cells := 0, slots := 0, locals := 42 }) [.ref x, .int x1, .int x2, .int x3] w (fun v w1 => (∃ r : Int32, v = some (.int r)) ∧ XP cy tg x td pc ac sc ln se plv w w1) := by
  refine Ct.by (cc := cX10_comes) (maxL := 5) (ret := (some .int)) (by decide +kernel) rfl (Nat.le_of_ble_eq_true rfl) ?_
  intro p e s m args below meth c A Q F hnm K ls hl
  have F : wd_Fx p s m args meth c cX10_comes 5 wsX10_comes RX10 D cy sk sv A := F
  have hl : lv_has ls 5 [(0, .ref x), (1, .int x1), (2, .int x2), (3, .int x3)] := hl
  have hx := F.1.1
  have hb := F.1.2.1
  have hown := F.1.2.2.2.1
  have hts := F.1.2.2.2.2
  intro H locs hP hD hS
  have kp0 : wd_kp (fun b => tg b < 10000) w w := wd_kp.rf
  refine hIX0 _ ?_
  intro a0 a1 a2 a3 a4 a5 a6 a7 a8 a10 a11 b0 b1 b2 b3 tb l0 l1 l2 l3 l4 l5 l6 l7 bl bm sh gc sg lu lv9 f0 f1 f2 f3 tbf e0 e1 e4 e5 e7 ff bf bf2 e2 e3 e6 ta sz fo to fo2 to2 tf tn ag co ra aa ru ga0 ga1 ga2 ga3 ga4 df cf nf sf uf pf pa pwo phd pgd pdy pno ptp af ad av0 av1 av2 av3 zf so sr sp0 sp1 sd hf sw hto hpp hle ham hhh hdd hru hde hcp hld hp90 hp91 hp92 hp93 hp94 hp95 hp96 hp97 hag kI0 tI0 kI1 tI1 kI2 tI2 kI3 tI3 kI4 tI4 kI5 tI5 kI6 tI6 kI7 tI7 kI8 tI8 kI9 tI9 kI10 tI10 kI11 tI11 kI12 tI12 kI13 tI13 kI14 tI14 kI15 tI15 kI16 tI16 kI17 tI17 kI18 tI18 kI19 tI19 kI20 tI20 kI21 tI21 kI22 tI22 kI23 tI23 kI24 tI24 kI25 tI25 kI26 tI26 hT9 hG9 hP9 hA9 hS9 hH9
  have hlu : lu < 2 := by omega
  have hlv : lv9 < 2 := by omega
  refine lv_iload_n hx hb dX10_comes_0 rfl (lv_at hl 3 rfl) ?_
  refine x_callS (n := 1) (As := [.int x3]) (rest := []) F hP hD hS (g_isTown l D cy sk sv w x3) gX10_comes_X10_isTown rfl (by decide +kernel) ⟨(Nat.le_of_ble_eq_true rfl), (Nat.le_of_ble_eq_true rfl)⟩ rfl hl.1 (Nat.le_of_ble_eq_true rfl) dX10_comes_1 rfl ⟨(Nat.le_of_ble_eq_true rfl), (Nat.le_of_ble_eq_true rfl)⟩ (fun v2 w3 hp1 H locs hP hD hS => ?_)
  obtain ⟨rfl, rfl⟩ := hp1
  refine W.eq (g2 := F0 m 4 ls [.int (wi x3 0 11)]) rfl (W.widen (k := 0) (n := 0) (Nat.le_of_ble_eq_true rfl) (Nat.le_of_ble_eq_true rfl) ?_)
  refine lv_if_ne (tgt := 9) hx hb dX10_comes_4 (by decide) (fun c_4 => ?_) (fun c_4 => ?_)
  · obtain ⟨t, ht, rfl, clt⟩ := wi_t c_4
    refine lv_iload_n hx hb dX10_comes_9 rfl (lv_at hl 1 rfl) ?_
    refine lv_if_ne (tgt := 44) hx hb dX10_comes_10 (by decide) (fun c_5 => ?_) (fun c_5 => ?_)
    · refine lv_iload_n hx hb dX10_comes_44 rfl (lv_at hl 1 rfl) ?_
      refine lv_iconst (v := 1) hx hb dX10_comes_45 (by decide) ?_
      refine lv_icmp_ne (tgt := 73) hx hb dX10_comes_46 (by decide) (fun c_6 => ?_) (fun c_6 => ?_)
      · refine lv_iconst (v := (-1)) hx hb dX10_comes_73 (by decide) ?_
        exact y_ir K hP hD hS (Nat.le_of_ble_eq_true rfl) (Nat.le_of_ble_eq_true rfl) (ty := .int) rfl rfl dX10_comes_74 (⟨⟨_, rfl⟩, ⟨tg, fun _ _ => rfl, wd_kp.rf, hIX0⟩⟩)
      · refine lv_aload_n hx hb dX10_comes_49 rfl (lv_at hl 0 rfl) ?_
        refine lv_iload_n hx hb dX10_comes_50 rfl (lv_at hl 2 rfl) ?_
        refine x_callV (n := 1) (As := [.int x2]) (rest := []) F hP hD hS (g_stopAt l D cy sk sv w x a0 a1 a2 a3 a4 a5 a6 a7 a8 (aa sg) a10 a11 pc ac sc sh td x2 tg zf so sr sp0 sp1 sd kI0 kI9 hS9 (by omega)) gX10_comes_X10_stopAt rfl rfl (by decide +kernel) ⟨(Nat.le_of_ble_eq_true rfl), (Nat.le_of_ble_eq_true rfl)⟩ rfl hl.1 (Nat.le_of_ble_eq_true rfl) kI0 rfl dX10_comes_51 rfl ⟨(Nat.le_of_ble_eq_true rfl), (Nat.le_of_ble_eq_true rfl)⟩ (fun v8 w9 hp7 H locs hP hD hS => ?_)
        obtain ⟨hp7, rfl⟩ := hp7
        rcases hp7 with ⟨rfl, hn11⟩ | ⟨j10, hn11, ej10, rfl⟩
        · refine W.eq (g2 := F0 m 54 ls [.null]) rfl (W.widen (k := 0) (n := 0) (Nat.le_of_ble_eq_true rfl) (Nat.le_of_ble_eq_true rfl) ?_)
          refine lv_astoreN (lv' := [(4, .null), (0, .ref x), (1, .int x1), (2, .int x2), (3, .int (nI t))]) hx hb dX10_comes_54 hl (by decide) rfl (fun ls hl => ?_)
          refine lv_aloadN hx hb dX10_comes_56 (lv_at hl 0 rfl) ?_
          refine lv_ifnonnullN hx hb dX10_comes_58 ?_
          refine lv_iconst (v := (-1)) hx hb dX10_comes_61 (by decide) ?_
          refine lv_goto (tgt := 72) hx hb dX10_comes_62 (by decide) ?_
          exact y_ir K hP hD hS (Nat.le_of_ble_eq_true rfl) (Nat.le_of_ble_eq_true rfl) (ty := .int) rfl rfl dX10_comes_72 (⟨⟨_, rfl⟩, ⟨tg, fun _ _ => rfl, wd_kp.rf, hIX0⟩⟩)
        · refine W.eq (g2 := F0 m 54 ls [.ref (so j10)]) rfl (W.widen (k := 0) (n := 0) (Nat.le_of_ble_eq_true rfl) (Nat.le_of_ble_eq_true rfl) ?_)
          have pr12 := (hS9 j10 hn11).1
          have k13 := (hS9 j10 hn11).2.1
          have tz14 := (hS9 j10 hn11).2.2.1
          have k15 := (hS9 j10 hn11).2.2.2.1
          have tz16 := (hS9 j10 hn11).2.2.2.2
          refine lv_astore (lv' := [(4, .ref (so j10)), (0, .ref x), (1, .int x1), (2, .int x2), (3, .int (nI t))]) hx hb dX10_comes_54 hl (by decide) rfl (fun ls hl => ?_)
          refine lv_aload hx hb dX10_comes_56 (lv_at hl 0 rfl) ?_
          refine lv_ifnonnull (tgt := 65) hx hb dX10_comes_58 (by decide) ?_
          refine lv_aload hx hb dX10_comes_65 (lv_at hl 0 rfl) ?_
          refine x_get (ref := "NoteHouse$Stop") F hP k13 rfl (fun _ h => List.mem_cons_of_mem _ (List.mem_append_left _ (List.mem_append_right _ (h)))) 2 (Nat.le_of_ble_eq_true rfl) (List.mem_cons_of_mem _ (List.mem_append_left _ (List.mem_append_left _ (List.mem_append_left _ (List.mem_of_getElem? (i := 2) rfl))))) rfl rfl dX10_comes_67 ?_
          refine lv_iload_n hx hb dX10_comes_70 rfl (lv_at hl 4 rfl) ?_
          refine x_iald F hP k15 (vp_in_nI (n := t) (N := 12) (by omega) (by decide)) dX10_comes_71 ?_
          exact y_ir K hP hD hS (Nat.le_of_ble_eq_true rfl) (Nat.le_of_ble_eq_true rfl) (ty := .int) rfl rfl dX10_comes_72 (⟨⟨_, rfl⟩, ⟨tg, fun _ _ => rfl, wd_kp.rf, hIX0⟩⟩)
    · refine lv_aload_n hx hb dX10_comes_13 rfl (lv_at hl 0 rfl) ?_
      refine lv_iload_n hx hb dX10_comes_14 rfl (lv_at hl 2 rfl) ?_
      refine x_callV (n := 1) (As := [.int x2]) (rest := []) F hP hD hS (g_adviceAt l D cy sk sv w x a0 a1 a2 a3 a4 a5 a6 a7 a8 (aa sg) a10 a11 pc ac sc sh td x2 tg af ad av0 av1 av2 av3 kI0 kI8 hA9 (by omega)) gX10_comes_X10_adviceAt rfl rfl (by decide +kernel) ⟨(Nat.le_of_ble_eq_true rfl), (Nat.le_of_ble_eq_true rfl)⟩ rfl hl.1 (Nat.le_of_ble_eq_true rfl) kI0 rfl dX10_comes_15 rfl ⟨(Nat.le_of_ble_eq_true rfl), (Nat.le_of_ble_eq_true rfl)⟩ (fun v18 w19 hp17 H locs hP hD hS => ?_)
      obtain ⟨hp17, rfl⟩ := hp17
      rcases hp17 with ⟨rfl, hn21⟩ | ⟨j20, hn21, ej20, rfl⟩
      · refine W.eq (g2 := F0 m 18 ls [.null]) rfl (W.widen (k := 0) (n := 0) (Nat.le_of_ble_eq_true rfl) (Nat.le_of_ble_eq_true rfl) ?_)
        refine lv_astoreN (lv' := [(4, .null), (0, .ref x), (1, .int x1), (2, .int x2), (3, .int (nI t))]) hx hb dX10_comes_18 hl (by decide) rfl (fun ls hl => ?_)
        refine lv_aloadN hx hb dX10_comes_20 (lv_at hl 0 rfl) ?_
        refine lv_ifnullN (tgt := 34) hx hb dX10_comes_22 (by decide) ?_
        refine lv_iconst (v := (-1)) hx hb dX10_comes_34 (by decide) ?_
        refine lv_goto (tgt := 43) hx hb dX10_comes_35 (by decide) ?_
        exact y_ir K hP hD hS (Nat.le_of_ble_eq_true rfl) (Nat.le_of_ble_eq_true rfl) (ty := .int) rfl rfl dX10_comes_43 (⟨⟨_, rfl⟩, ⟨tg, fun _ _ => rfl, wd_kp.rf, hIX0⟩⟩)
      · refine W.eq (g2 := F0 m 18 ls [.ref (ad j20)]) rfl (W.widen (k := 0) (n := 0) (Nat.le_of_ble_eq_true rfl) (Nat.le_of_ble_eq_true rfl) ?_)
        have pr22 := (hA9 j20 hn21).1
        have k23 := (hA9 j20 hn21).2.1
        have tz24 := (hA9 j20 hn21).2.2
        refine lv_astore (lv' := [(4, .ref (ad j20)), (0, .ref x), (1, .int x1), (2, .int x2), (3, .int (nI t))]) hx hb dX10_comes_18 hl (by decide) rfl (fun ls hl => ?_)
        refine lv_aload hx hb dX10_comes_20 (lv_at hl 0 rfl) ?_
        refine lv_ifnull hx hb dX10_comes_22 ?_
        refine lv_aload hx hb dX10_comes_25 (lv_at hl 0 rfl) ?_
        refine x_get (ref := "NoteHouse$Advice") F hP k23 rfl (fun _ h => List.mem_cons_of_mem _ (List.mem_append_left _ (List.mem_append_left _ (List.mem_append_right _ (h))))) 1 (Nat.le_of_ble_eq_true rfl) (List.mem_cons_of_mem _ (List.mem_append_left _ (List.mem_append_left _ (List.mem_append_left _ (List.mem_of_getElem? (i := 0) rfl))))) rfl rfl dX10_comes_27 ?_
        refine lv_iload_n hx hb dX10_comes_30 rfl (lv_at hl 4 rfl) ?_
        refine lv_icmp_eq (tgt := 38) hx hb dX10_comes_31 (by decide) (fun c_25 => ?_) (fun c_25 => ?_)
        · refine lv_aload hx hb dX10_comes_38 (lv_at hl 0 rfl) ?_
          refine x_get (ref := "NoteHouse$Advice") F hP k23 rfl (fun _ h => List.mem_cons_of_mem _ (List.mem_append_left _ (List.mem_append_left _ (List.mem_append_right _ (h))))) 2 (Nat.le_of_ble_eq_true rfl) (List.mem_cons_of_mem _ (List.mem_append_left _ (List.mem_append_left _ (List.mem_append_left _ (List.mem_of_getElem? (i := 1) rfl))))) rfl rfl dX10_comes_40 ?_
          exact y_ir K hP hD hS (Nat.le_of_ble_eq_true rfl) (Nat.le_of_ble_eq_true rfl) (ty := .int) rfl rfl dX10_comes_43 (⟨⟨_, rfl⟩, ⟨tg, fun _ _ => rfl, wd_kp.rf, hIX0⟩⟩)
        · refine lv_iconst (v := (-1)) hx hb dX10_comes_34 (by decide) ?_
          refine lv_goto (tgt := 43) hx hb dX10_comes_35 (by decide) ?_
          exact y_ir K hP hD hS (Nat.le_of_ble_eq_true rfl) (Nat.le_of_ble_eq_true rfl) (ty := .int) rfl rfl dX10_comes_43 (⟨⟨_, rfl⟩, ⟨tg, fun _ _ => rfl, wd_kp.rf, hIX0⟩⟩)
  · refine lv_iconst (v := (-1)) hx hb dX10_comes_7 (by decide) ?_
    exact y_ir K hP hD hS (Nat.le_of_ble_eq_true rfl) (Nat.le_of_ble_eq_true rfl) (ty := .int) rfl rfl dX10_comes_8 (⟨⟨_, rfl⟩, ⟨tg, fun _ _ => rfl, wd_kp.rf, hIX0⟩⟩)
set_option maxHeartbeats 4000000 in
set_option maxRecDepth 100000 in
theorem X_due (l : Launch) (D : va_G) (cy : Nat → ClassId) (sk sv : Nat → Nat) (w : Wd) (tg : Nat → Nat) (x : Nat) (td : Int32) (pc ac sc ln : Nat) (se plv : Nat → Int32) (x1 : Int32) (hIX0 : IX cy tg x td pc ac sc ln se plv w) : Ct l D cy sk sv yX10_due wsX10_due ({ frames := 2, cells := 0, slots := 0, locals := 42 }) [.ref x, .int x1] w (fun v w1 => (∃ r : Int64, v = some (.long r)) ∧ XP cy tg x td pc ac sc ln se plv w w1) := by
  refine Ct.by (cc := cX10_due) (maxL := 2) (ret := (some .long)) (by decide +kernel) rfl (Nat.le_of_ble_eq_true rfl) ?_
  intro p e s m args below meth c A Q F hnm K ls hl
  have F : wd_Fx p s m args meth c cX10_due 2 wsX10_due RX10 D cy sk sv A := F
  have hl : lv_has ls 2 [(0, .ref x), (1, .int x1)] := hl
  have hx := F.1.1
  have hb := F.1.2.1
  have hown := F.1.2.2.2.1
  have hts := F.1.2.2.2.2
  intro H locs hP hD hS
  have kp0 : wd_kp (fun b => tg b < 10000) w w := wd_kp.rf
  refine hIX0 _ ?_
  intro a0 a1 a2 a3 a4 a5 a6 a7 a8 a10 a11 b0 b1 b2 b3 tb l0 l1 l2 l3 l4 l5 l6 l7 bl bm sh gc sg lu lv9 f0 f1 f2 f3 tbf e0 e1 e4 e5 e7 ff bf bf2 e2 e3 e6 ta sz fo to fo2 to2 tf tn ag co ra aa ru ga0 ga1 ga2 ga3 ga4 df cf nf sf uf pf pa pwo phd pgd pdy pno ptp af ad av0 av1 av2 av3 zf so sr sp0 sp1 sd hf sw hto hpp hle ham hhh hdd hru hde hcp hld hp90 hp91 hp92 hp93 hp94 hp95 hp96 hp97 hag kI0 tI0 kI1 tI1 kI2 tI2 kI3 tI3 kI4 tI4 kI5 tI5 kI6 tI6 kI7 tI7 kI8 tI8 kI9 tI9 kI10 tI10 kI11 tI11 kI12 tI12 kI13 tI13 kI14 tI14 kI15 tI15 kI16 tI16 kI17 tI17 kI18 tI18 kI19 tI19 kI20 tI20 kI21 tI21 kI22 tI22 kI23 tI23 kI24 tI24 kI25 tI25 kI26 tI26 hT9 hG9 hP9 hA9 hS9 hH9
  have hlu : lu < 2 := by omega
  have hlv : lv9 < 2 := by omega
  refine lv_iload_n hx hb dX10_due_0 rfl (lv_at hl 1 rfl) ?_
  refine x_callS (n := 1) (As := [.int x1]) (rest := []) F hP hD hS (g_isTown l D cy sk sv w x1) gX10_due_X10_isTown rfl (by decide +kernel) ⟨(Nat.le_of_ble_eq_true rfl), (Nat.le_of_ble_eq_true rfl)⟩ rfl hl.1 (Nat.le_of_ble_eq_true rfl) dX10_due_1 rfl ⟨(Nat.le_of_ble_eq_true rfl), (Nat.le_of_ble_eq_true rfl)⟩ (fun v2 w3 hp1 H locs hP hD hS => ?_)
  obtain ⟨rfl, rfl⟩ := hp1
  refine W.eq (g2 := F0 m 4 ls [.int (wi x1 0 11)]) rfl (W.widen (k := 0) (n := 0) (Nat.le_of_ble_eq_true rfl) (Nat.le_of_ble_eq_true rfl) ?_)
  refine lv_if_eq (tgt := 19) hx hb dX10_due_4 (by decide) (fun c_4 => ?_) (fun c_4 => ?_)
  · refine lv_lconst (v := 0) hx hb dX10_due_19 (by decide) ?_
    exact y_lr K hP hD hS (Nat.le_of_ble_eq_true rfl) (Nat.le_of_ble_eq_true rfl) rfl dX10_due_20 (⟨⟨_, rfl⟩, ⟨tg, fun _ _ => rfl, wd_kp.rf, hIX0⟩⟩)
  · obtain ⟨t, ht, rfl, clt⟩ := wi_t c_4
    refine lv_aload_n hx hb dX10_due_7 rfl (lv_at hl 0 rfl) ?_
    refine x_get (ref := "NoteHouse") F hP kI0 rfl (fun _ h => List.mem_cons_of_mem _ (List.mem_append_left _ (List.mem_append_right _ (h)))) 7 (Nat.le_of_ble_eq_true rfl) (List.mem_cons_of_mem _ (List.mem_append_left _ (List.mem_append_left _ (List.mem_of_getElem? (i := 0) rfl)))) rfl rfl dX10_due_8 ?_
    refine x_get (ref := "NoteHouse$Settlement") F hP kI13 rfl (fun _ h => List.mem_cons_of_mem _ (List.mem_append_right _ (h))) 2 (Nat.le_of_ble_eq_true rfl) (List.mem_cons_of_mem _ (List.mem_append_left _ (List.mem_append_left _ (List.mem_of_getElem? (i := 1) rfl)))) rfl rfl dX10_due_11 ?_
    refine lv_iload_n hx hb dX10_due_14 rfl (lv_at hl 1 rfl) ?_
    refine x_lald F hP kI16 (vp_in_nI (n := t) (N := 12) (by omega) (by decide)) dX10_due_15 ?_
    refine lv_goto (tgt := 20) hx hb dX10_due_16 (by decide) ?_
    exact y_lr K hP hD hS (Nat.le_of_ble_eq_true rfl) (Nat.le_of_ble_eq_true rfl) rfl dX10_due_20 (⟨⟨_, rfl⟩, ⟨tg, fun _ _ => rfl, wd_kp.rf, hIX0⟩⟩)
