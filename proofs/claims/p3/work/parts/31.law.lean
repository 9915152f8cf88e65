/-! THE CLAIM OUT OF ONE WALK OF THE LAW'S BODY. Your part is whole_start (and what it stands on); all else here is the same for every law, but numbers. -/
def R_law : String := "NoteHouseLaw"
def lw_P (b : Addr) (xs : List Int32) (args : Array Value) (s : State) : Prop := args = #[.ref b] ∧ s.IntsAt b xs ∧ xs.length ≤ 3584 ∧ (Jvm.Cond.and given_1 narrow_1).before args s = true
def lw_Q (_ : Array Value) (s : State) (o : Outcome) (t : State) : Prop := o = .returned (some (.int 1)) ∧ Framed s o t [] 600000 7302250
def lw_Z (below : List Frame) (a : Array Value) (s : State) : State → Prop := fun t => ∃ o, t.status = .running ∧ Ended t below o ∧ lw_Q a s o t
/-- the law's own end, with 1 on the stack, nothing written that was there before, its room as the claim has it -/
theorem lw_ret {p : Program} {l : Launch} {e : Env} {s : State} {m : MethodId} {below : List Frame} {meth : Method} {c : Code} {b : Nat} (hx : p.tables.exec = Jvm.exec) (hb : c.code = code) (hr : meth.sig.returnType = ret) (hlocks : meth.locks = false) {pc : Nat} {H : Heap} {ls : Array Slot} (hdg : decode code pc = .ok (.ireturn, 1)) : W p l e room_1 s m #[Value.ref b] below meth c H [] 600000 7302250 (lw_Z below #[Value.ref b] s) (F0 m pc ls [.int 1]) := by
  intro T hT X
  obtain ⟨fs, hret, hrun, hended, hW, hframe⟩ := X.leave (v := some (.int 1)) (hlocks := hlocks) (fun h => by rw [hr] at h; cases h)
  have hmeth' : T.vm.method? m = some meth := X.method'
  refine ⟨T.setFrames fs, ?_, .returned (some (.int 1)), hrun, hended, rfl, ⟨_, rfl⟩, hW, hframe⟩
  jvm_step X.here [X.here.top, hx, hb, hdg, hmeth', hr, ret, narrow_b1]
  (try refine ⟨rfl, ?_⟩); (try refine ⟨rfl, ?_⟩)
  first | (intro acts; rw [hret _ acts rfl rfl rfl]) | rw [hret _ _ rfl rfl rfl]
  exact Steps.refl _
/-- what holds at the law's entry: the machine, the code, the tables' words (any of lw_tbl by 'hts w (by decide +kernel)'), the script of L ints xs at the cell b, what the Statement gives of the start (any of its parts by flat_of_before) -/
def lw_At (p : Program) (s : State) (m : MethodId) (meth : Method) (c : Code) (b L : Nat) (xs : Nat → Int32) : Prop :=
  p.tables.exec = Jvm.exec ∧ c.code = code ∧ meth.sig.returnType = ret ∧ c.maxLocals = 4 ∧ s.vm.findClass R_law = some m.cls ∧ (∀ w ∈ lw_tbl, w.before #[Value.ref b] s = true) ∧ va_X b L xs s s.heap ∧ b < s.heap.size ∧ meth.locks = false ∧ (Jvm.Cond.and given_1 narrow_1).before #[Value.ref b] s = true
-- ===== YOUR PART BEGINS =====

set_option maxRecDepth 20000 in
theorem df_11 : ∀ j, j < 60 → defaultValue (tyX11 j) = vp_V [.int 0, .int 0, .null, .null, .null, .null, .null, .int 0, .null, .null, .null, .null, .null, .null, .null, .int 0, .int 0, .null, .null, .null, .null, .null, .null, .null, .null, .int 0, .int 0, .int 0, .int 0, .null, .null, .null, .null, .null, .null, .null, .null, .null, .int 0, .null, .null, .null, .null, .null, .null, .null, .null, .null, .null, .null, .int 0, .null, .null, .null, .null, .int 0, .null, .null, .null, .null] j := by
  intro j hj
  match j, hj with
  | 0, _ => exact rfl
  | 1, _ => exact rfl
  | 2, _ => exact rfl
  | 3, _ => exact rfl
  | 4, _ => exact rfl
  | 5, _ => exact rfl
  | 6, _ => exact rfl
  | 7, _ => exact rfl
  | 8, _ => exact rfl
  | 9, _ => exact rfl
  | 10, _ => exact rfl
  | 11, _ => exact rfl
  | 12, _ => exact rfl
  | 13, _ => exact rfl
  | 14, _ => exact rfl
  | 15, _ => exact rfl
  | 16, _ => exact rfl
  | 17, _ => exact rfl
  | 18, _ => exact rfl
  | 19, _ => exact rfl
  | 20, _ => exact rfl
  | 21, _ => exact rfl
  | 22, _ => exact rfl
  | 23, _ => exact rfl
  | 24, _ => exact rfl
  | 25, _ => exact rfl
  | 26, _ => exact rfl
  | 27, _ => exact rfl
  | 28, _ => exact rfl
  | 29, _ => exact rfl
  | 30, _ => exact rfl
  | 31, _ => exact rfl
  | 32, _ => exact rfl
  | 33, _ => exact rfl
  | 34, _ => exact rfl
  | 35, _ => exact rfl
  | 36, _ => exact rfl
  | 37, _ => exact rfl
  | 38, _ => exact rfl
  | 39, _ => exact rfl
  | 40, _ => exact rfl
  | 41, _ => exact rfl
  | 42, _ => exact rfl
  | 43, _ => exact rfl
  | 44, _ => exact rfl
  | 45, _ => exact rfl
  | 46, _ => exact rfl
  | 47, _ => exact rfl
  | 48, _ => exact rfl
  | 49, _ => exact rfl
  | 50, _ => exact rfl
  | 51, _ => exact rfl
  | 52, _ => exact rfl
  | 53, _ => exact rfl
  | 54, _ => exact rfl
  | 55, _ => exact rfl
  | 56, _ => exact rfl
  | 57, _ => exact rfl
  | 58, _ => exact rfl
  | 59, _ => exact rfl
  | j + 60, hj => exact absurd hj (by omega)
set_option maxHeartbeats 16000000 in
set_option maxRecDepth 100000 in
/-- YOUR PART: from the entry, for every script of at most 3584 ints, the law comes to its end with true -/
theorem whole_start {p : Program} {e : Env} {s : State} {m : MethodId} {below : List Frame} {meth : Method} {c : Code} (l : Launch) {b L : Nat} {xs : Nat → Int32} (hL : L ≤ 3584) (C0 : lw_At p s m meth c b L xs) : W p l e room_1 s m #[Value.ref b] below meth c s.heap [] 0 0 (lw_Z below #[Value.ref b] s) (entryFrame m ([Value.ref b] : List Value).toArray 4) := by
  obtain ⟨hx, hb, hr, hml, hown, hts, hX, hbl, hlocks, hgv⟩ := id C0
  have hbA : ¬ (fun q : Nat => s.heap.size ≤ q) b := Nat.not_le.mpr hbl
  obtain ⟨D, cy, hGd⟩ := gd_start hts
  obtain ⟨sk, sv, hEv⟩ := ev_start (A := fun q : Nat => s.heap.size ≤ q) hts hgv (fun a ha => Nat.not_le.mpr ha)
  have F : wd_Fx p s m #[Value.ref b] meth c cL_law 4 lw_tbl RL D cy sk sv (fun q : Nat => s.heap.size ≤ q) := ⟨⟨hx, hb, hml, hown, hts⟩, hGd, fun _ h => h, hlocks, hEv⟩
  have hl := lv_entry ([.ref b]) (n := 4) (Nat.le_of_ble_eq_true rfl)
  rw [lg_entry_eq]
  generalize (lg_sl ([.ref b]) ++ List.replicate (4 - (lg_sl ([.ref b])).length) Slot.unset).toArray = ls at hl ⊢
  have hl : lv_has ls 4 [(0, .ref b)] := hl
  obtain ⟨w, ew⟩ : ∃ w : Wd, w = ([], fun _ => .inr (0, [])) := ⟨_, rfl⟩
  have hP : va_P D vwCl (wd_pl w) s.heap := by subst ew; intro k q h; simp [wd_pl, va_pl] at h
  have hD : va_D (fun q : Nat => s.heap.size ≤ q) (wd_pl w) := by subst ew; exact ⟨fun i j p q h => by simp [wd_pl, va_pl] at h, fun k q h => by simp [wd_pl, va_pl] at h⟩
  have hS : va_S (fun q : Nat => s.heap.size ≤ q) s.heap s.heap [] := va_S.rf
  refine y_new (fs := [.null, .null, .null, .null, .null, .null, .null, .null, .null, .null, .null, .null, .int 0, .int 0, .int 0, .int 0, .int 0]) F hP hD hS (ci := 10) rfl inX10 tyX10_ok (tm_1 (List.mem_of_getElem? (i := 20) rfl)) (tm_1 (List.mem_of_getElem? (i := 21) rfl)) (tm_1 (List.mem_of_getElem? (i := 1) rfl)) df_10 (Nat.le_of_ble_eq_true rfl) (Nat.le_of_ble_eq_true rfl) dL_law_0 (fun x w1 ew2 hq3 H hP hD hS => ?_)
  refine W.widen (k := 1) (n := 17) (Nat.le_of_ble_eq_true rfl) (Nat.le_of_ble_eq_true rfl) ?_
  have k4 : wd_at w1 x (.inr (10, [.null, .null, .null, .null, .null, .null, .null, .null, .null, .null, .null, .null, .int 0, .int 0, .int 0, .int 0, .int 0])) := wd_at.nw ew2
  refine lv_dup hx hb dL_law_3 rfl ?_
  refine x_callI (ret := none) (n := 0) (As := []) (rest := [.ref x]) F hP hD hS (X_init l D cy sk sv w1 (fun _ => 0) x k4 (fun b => b = x) rfl rfl) gT_X10_init rfl (tm_1 (List.mem_of_getElem? (i := 1) rfl)) (tm_1 (List.mem_of_getElem? (i := 22) rfl)) (tm_1 (List.mem_of_getElem? (i := 23) rfl)) rfl (by decide +kernel) ⟨(Nat.le_of_ble_eq_true rfl), (Nat.le_of_ble_eq_true rfl)⟩ rfl hl.1 (Nat.le_of_ble_eq_true rfl) dL_law_4 rfl ⟨(Nat.le_of_ble_eq_true rfl), (Nat.le_of_ble_eq_true rfl)⟩ (fun v6 w7 hp5 H locs hP hD hS => ?_)
  obtain ⟨rfl, hkx, tg1, -, se, hse, hIX⟩ := hp5
  refine W.eq (g2 := F0 m 7 ls [.ref x]) rfl (W.widen (k := 117) (n := 4748) (Nat.le_of_ble_eq_true rfl) (Nat.le_of_ble_eq_true rfl) ?_)
  refine lv_astore_n (lv' := [(1, .ref x), (0, .ref b)]) hx hb dL_law_7 rfl hl (by decide) rfl (fun ls hl => ?_)
  refine y_new (fs := [.int 0, .int 0, .null, .null, .null, .null, .null, .int 0, .null, .null, .null, .null, .null, .null, .null, .int 0, .int 0, .null, .null, .null, .null, .null, .null, .null, .null, .int 0, .int 0, .int 0, .int 0, .null, .null, .null, .null, .null, .null, .null, .null, .null, .int 0, .null, .null, .null, .null, .null, .null, .null, .null, .null, .null, .null, .int 0, .null, .null, .null, .null, .int 0, .null, .null, .null, .null]) F hP hD hS (ci := 11) rfl inX11 tyX11_ok (tm_4 (List.mem_of_getElem? (i := 74) rfl)) (tm_4 (List.mem_of_getElem? (i := 75) rfl)) (tm_1 (List.mem_of_getElem? (i := 9) rfl)) df_11 (Nat.le_of_ble_eq_true rfl) (Nat.le_of_ble_eq_true rfl) dL_law_8 (fun y w8 ew9 hq10 H hP hD hS => ?_)
  refine W.widen (k := 118) (n := 4808) (Nat.le_of_ble_eq_true rfl) (Nat.le_of_ble_eq_true rfl) ?_
  have k11 : wd_at w8 y (.inr (11, [.int 0, .int 0, .null, .null, .null, .null, .null, .int 0, .null, .null, .null, .null, .null, .null, .null, .int 0, .int 0, .null, .null, .null, .null, .null, .null, .null, .null, .int 0, .int 0, .int 0, .int 0, .null, .null, .null, .null, .null, .null, .null, .null, .null, .int 0, .null, .null, .null, .null, .null, .null, .null, .null, .null, .null, .null, .int 0, .null, .null, .null, .null, .int 0, .null, .null, .null, .null])) := wd_at.nw ew9
  obtain ⟨tg2, etg2⟩ : ∃ f : Nat → Nat, f = va_up tg1 y 10000 := ⟨_, rfl⟩
  have hIX2 := IX.kept (tg1 := tg2) hIX (wd_kp.add (S := fun _ => False) wd_kp.rf ew9 hq10) (fun _ _ h9 => h9) (fun a h9 => by rw [etg2, va_up_ne _ _ (fun z9 : a = y => hq10 (z9 ▸ h9))])
  refine lv_dup hx hb dL_law_11 rfl ?_
  refine x_callI (ret := none) (n := 0) (As := []) (rest := [.ref y]) F hP hD hS (M_init l D cy sk sv w8 tg2 y k11 (fun b => b = y) rfl (by rw [etg2]; exact va_up_self _ _ _)) gT_X11_init rfl (tm_1 (List.mem_of_getElem? (i := 9) rfl)) (tm_4 (List.mem_of_getElem? (i := 76) rfl)) (tm_4 (List.mem_of_getElem? (i := 77) rfl)) rfl (by decide +kernel) ⟨(Nat.le_of_ble_eq_true rfl), (Nat.le_of_ble_eq_true rfl)⟩ rfl hl.1 (Nat.le_of_ble_eq_true rfl) dL_law_12 rfl ⟨(Nat.le_of_ble_eq_true rfl), (Nat.le_of_ble_eq_true rfl)⟩ (fun v13 w14 hp12 H locs hP hD hS => ?_)
  obtain ⟨rfl, hky, tg3, hag3, hIMa⟩ := hp12
  have hIM := hIMa se hse
  have hIX3 := IX.kept hIX2 hky (fun a h9 q9 => by have e9 : a = y := q9; rw [e9, etg2, va_up_self] at h9; omega) hag3
  refine W.eq (g2 := F0 m 15 ls [.ref y]) rfl (W.widen (k := 250) (n := 12629) (Nat.le_of_ble_eq_true rfl) (Nat.le_of_ble_eq_true rfl) ?_)
  refine lv_astore_n (lv' := [(2, .ref y), (1, .ref x), (0, .ref b)]) hx hb dL_law_15 rfl hl (by decide) rfl (fun ls hl => ?_)
  refine lv_iconst (v := 0) hx hb dL_law_16 (by decide) ?_
  refine lv_istore_n (lv' := [(3, .int 0), (2, .ref y), (1, .ref x), (0, .ref b)]) hx hb dL_law_17 rfl hl (by decide) rfl (fun ls hl => ?_)
  have lp18 : ∀ (N k : Nat) (tg : Nat → Nat) (td : Int32) (pc ac sc ln : Nat) (se plv : Nat → Int32) (w : Wd), L < 7 * (k + N) + 7 → k ≤ 512 → IX cy tg x td pc ac sc ln se plv w → IM cy tg y td pc ac sc ln se plv w → ∀ ls : Array Slot, lv_has ls 4 [(0, .ref b), (1, .ref x), (2, .ref y), (3, .int (nI (7 * k)))] → Wv p l e room_1 s m #[Value.ref b] below meth c D (fun q : Nat => s.heap.size ≤ q) (250 + 2 * k) (12629 + 15 * k) (lw_Z below #[Value.ref b] s) w (F0 m 18 ls []) := by
    intro N
    induction N with
    | zero =>
      intro k tg td pc ac sc ln se plv w hN18 hk512 hIX hIM ls hl H locs hP hD hS
      obtain ⟨_, hxc⟩ := hIX.cell
      obtain ⟨_, hyc⟩ := hIM.cell
      refine lv_iload_n hx hb dL_law_18 rfl (lv_at hl 3 rfl) ?_
      refine lv_aload_n hx hb dL_law_19 rfl (lv_at hl 0 rfl) ?_
      refine va_slen hx hb hX hbl hbA hS dL_law_20 ?_
      refine lv_bipush (v := 7) hx hb dL_law_21 (by decide) ?_
      refine lv_isub hx hb dL_law_23 ?_
      refine lv_icmp_gt (tgt := 962) hx hb dL_law_24 (by decide) (fun c_15 => ?_) (fun c_15 => absurd (lw_ex hL hk512 (by omega)) c_15)
      refine lv_iconst (v := 1) hx hb dL_law_962 (by decide) ?_
      refine va_forget (fun q hq => hS.2.2 q hq) ?_
      refine W.widen (k := 600000) (n := 7302250) (by omega) (by omega) ?_
      exact lw_ret hx hb hr hlocks dL_law_963
    | succ N ih18 =>
      intro k tg td pc ac sc ln se plv w hN18 hk512 hIX hIM ls hl H locs hP hD hS
      obtain ⟨_, hxc⟩ := hIX.cell
      obtain ⟨_, hyc⟩ := hIM.cell
      refine lv_iload_n hx hb dL_law_18 rfl (lv_at hl 3 rfl) ?_
      refine lv_aload_n hx hb dL_law_19 rfl (lv_at hl 0 rfl) ?_
      refine va_slen hx hb hX hbl hbA hS dL_law_20 ?_
      refine lv_bipush (v := 7) hx hb dL_law_21 (by decide) ?_
      refine lv_isub hx hb dL_law_23 ?_
      refine lv_icmp_gt (tgt := 962) hx hb dL_law_24 (by decide) (fun c_16 => ?_) (fun c_16 => ?_)
      · refine lv_iconst (v := 1) hx hb dL_law_962 (by decide) ?_
        refine va_forget (fun q hq => hS.2.2 q hq) ?_
        refine W.widen (k := 600000) (n := 7302250) (by omega) (by omega) ?_
        exact lw_ret hx hb hr hlocks dL_law_963
      · have hgo := lw_go hL hk512 c_16
        refine lv_aload_n hx hb dL_law_27 rfl (lv_at hl 0 rfl) ?_
        refine lv_iload_n hx hb dL_law_28 rfl (lv_at hl 3 rfl) ?_
        refine va_sld hx hb hX hbl hbA hS (vp_in_nI (n := (7 * k)) (N := L) (by omega) (by omega)) dL_law_29 ?_
        refine lv_bipush (v := 31) hx hb dL_law_30 (by decide) ?_
        refine lv_iand hx hb dL_law_32 ?_
        refine lv_topi (fun sw esw => ?_)
        by_cases c_17 : sw = 0
        · refine lv_tableIn (off := 103) (tgt := 136) hx hb dL_law_33 (by rw [c_17]; decide) (by rw [c_17]; decide) (by rw [c_17]; decide) (by decide) ?_
          refine lv_aload_n hx hb dL_law_136 rfl (lv_at hl 1 rfl) ?_
          refine lv_aload_n hx hb dL_law_137 rfl (lv_at hl 0 rfl) ?_
          refine lv_iload_n hx hb dL_law_138 rfl (lv_at hl 3 rfl) ?_
          refine lv_iconst (v := 1) hx hb dL_law_139 (by decide) ?_
          refine lv_iadd hx hb dL_law_140 ?_
          rw [show ((nI (7 * k)) + 1 : Int32) = nI ((7 * k) + 1) from nI_add (7 * k) 1]
          refine va_sld hx hb hX hbl hbA hS (vp_in_nI (n := ((7 * k) + 1)) (N := L) (by omega) (by omega)) dL_law_141 ?_
          refine x_callV (n := 1) (As := [.int (xs (nI ((7 * k) + 1)).toNatClampNeg)]) (rest := []) F hP hD hS (X_clock l D cy sk sv w tg x td pc ac sc ln se plv (xs (nI ((7 * k) + 1)).toNatClampNeg) hIX) gT_X10_clock rfl rfl (by decide +kernel) ⟨(Nat.le_of_ble_eq_true rfl), (Nat.le_of_ble_eq_true rfl)⟩ rfl hl.1 (Nat.le_of_ble_eq_true rfl) hxc rfl dL_law_142 rfl ⟨(show 250 + 2 * k + 0 ≤ 600000 from by omega), (show 12629 + 15 * k + 0 ≤ 7302250 from by omega)⟩ (fun v19 w20 hp18 H locs hP hD hS => ?_)
          obtain ⟨rfl, tg21, hg22, hk23, hIX24⟩ := hp18
          have hIM25 := IM.kept hIM hk23 (fun a h9 => Nat.not_lt.mpr h9) hg22
          obtain ⟨_, hxc26⟩ := hIX24.cell
          obtain ⟨_, hyc27⟩ := hIM25.cell
          refine W.eq (g2 := F0 m 145 ls [.int (ckA td (xs (nI ((7 * k) + 1)).toNatClampNeg))]) rfl (W.widen (k := 250 + 2 * k + 0) (n := 12629 + 15 * k + 0) (Nat.le_refl _) (Nat.le_refl _) ?_)
          refine lv_pop hx hb dL_law_145 rfl ?_
          refine lv_aload_n hx hb dL_law_146 rfl (lv_at hl 2 rfl) ?_
          refine lv_aload_n hx hb dL_law_147 rfl (lv_at hl 0 rfl) ?_
          refine lv_iload_n hx hb dL_law_148 rfl (lv_at hl 3 rfl) ?_
          refine lv_iconst (v := 1) hx hb dL_law_149 (by decide) ?_
          refine lv_iadd hx hb dL_law_150 ?_
          rw [show ((nI (7 * k)) + 1 : Int32) = nI ((7 * k) + 1) from nI_add (7 * k) 1]
          refine va_sld hx hb hX hbl hbA hS (vp_in_nI (n := ((7 * k) + 1)) (N := L) (by omega) (by omega)) dL_law_151 ?_
          refine x_callV (n := 1) (As := [.int (xs (nI ((7 * k) + 1)).toNatClampNeg)]) (rest := []) F hP hD hS (M_clock l D cy sk sv w20 tg21 y td pc ac sc ln se plv (xs (nI ((7 * k) + 1)).toNatClampNeg) hIM25) gT_X11_clock rfl rfl (by decide +kernel) ⟨(Nat.le_of_ble_eq_true rfl), (Nat.le_of_ble_eq_true rfl)⟩ rfl hl.1 (Nat.le_of_ble_eq_true rfl) hyc27 rfl dL_law_152 rfl ⟨(show 250 + 2 * k + 0 + 0 ≤ 600000 from by omega), (show 12629 + 15 * k + 0 + 0 ≤ 7302250 from by omega)⟩ (fun v29 w30 hp28 H locs hP hD hS => ?_)
          obtain ⟨rfl, hk31, hIM33⟩ := hp28
          have hIX32 := IX.kept hIX24 hk31 (fun a h9 => Nat.not_le.mpr h9) (fun _ _ => rfl)
          obtain ⟨_, hxc34⟩ := hIX32.cell
          obtain ⟨_, hyc35⟩ := hIM33.cell
          refine W.eq (g2 := F0 m 155 ls [.int (ckA td (xs (nI ((7 * k) + 1)).toNatClampNeg))]) rfl (W.widen (k := 250 + 2 * k + 0 + 0) (n := 12629 + 15 * k + 0 + 0) (Nat.le_refl _) (Nat.le_refl _) ?_)
          refine lv_pop hx hb dL_law_155 rfl ?_
          refine lv_goto (tgt := 956) hx hb dL_law_156 (by decide) ?_
          refine lv_iinc (v := nI (7 * (k + 1))) (lv' := [(3, .int (nI (7 * (k + 1)))), (0, .ref b), (1, .ref x), (2, .ref y)]) hx hb dL_law_956 hl (k := 3) rfl (lw_7 k) (by decide) rfl (fun ls hl => ?_)
          refine lv_goto (tgt := 18) hx hb dL_law_959 (by decide) ?_
          refine W.widen (k := 250 + 2 * (k + 1)) (n := 12629 + 15 * (k + 1)) (by omega) (by omega) ?_
          exact ih18 (k + 1) tg21 (ckT td (xs (nI ((7 * k) + 1)).toNatClampNeg)) pc ac sc ln se plv w30 (by omega) (by omega) hIX32 hIM33 ls (lv_sub hl [1, 2, 3, 0] rfl) H locs hP hD hS
        by_cases c_36 : sw = 1
        · refine lv_tableIn (off := 126) (tgt := 159) hx hb dL_law_33 (by rw [c_36]; decide) (by rw [c_36]; decide) (by rw [c_36]; decide) (by decide) ?_
          refine lv_aload_n hx hb dL_law_159 rfl (lv_at hl 1 rfl) ?_
          refine lv_aload_n hx hb dL_law_160 rfl (lv_at hl 0 rfl) ?_
          refine lv_iload_n hx hb dL_law_161 rfl (lv_at hl 3 rfl) ?_
          refine lv_iconst (v := 1) hx hb dL_law_162 (by decide) ?_
          refine lv_iadd hx hb dL_law_163 ?_
          rw [show ((nI (7 * k)) + 1 : Int32) = nI ((7 * k) + 1) from nI_add (7 * k) 1]
          refine va_sld hx hb hX hbl hbA hS (vp_in_nI (n := ((7 * k) + 1)) (N := L) (by omega) (by omega)) dL_law_164 ?_
          refine lv_aload_n hx hb dL_law_165 rfl (lv_at hl 0 rfl) ?_
          refine lv_iload_n hx hb dL_law_166 rfl (lv_at hl 3 rfl) ?_
          refine lv_iconst (v := 2) hx hb dL_law_167 (by decide) ?_
          refine lv_iadd hx hb dL_law_168 ?_
          rw [show ((nI (7 * k)) + 2 : Int32) = nI ((7 * k) + 2) from nI_add (7 * k) 2]
          refine va_sld hx hb hX hbl hbA hS (vp_in_nI (n := ((7 * k) + 2)) (N := L) (by omega) (by omega)) dL_law_169 ?_
          refine lv_aload_n hx hb dL_law_170 rfl (lv_at hl 0 rfl) ?_
          refine lv_iload_n hx hb dL_law_171 rfl (lv_at hl 3 rfl) ?_
          refine lv_iconst (v := 3) hx hb dL_law_172 (by decide) ?_
          refine lv_iadd hx hb dL_law_173 ?_
          rw [show ((nI (7 * k)) + 3 : Int32) = nI ((7 * k) + 3) from nI_add (7 * k) 3]
          refine va_sld hx hb hX hbl hbA hS (vp_in_nI (n := ((7 * k) + 3)) (N := L) (by omega) (by omega)) dL_law_174 ?_
          refine lv_if_eq (tgt := 182) hx hb dL_law_175 (by decide) (fun c_37 => ?_) (fun c_37 => ?_)
          · refine lv_iconst (v := 0) hx hb dL_law_182 (by decide) ?_
            refine lv_aload_n hx hb dL_law_183 rfl (lv_at hl 0 rfl) ?_
            refine lv_iload_n hx hb dL_law_184 rfl (lv_at hl 3 rfl) ?_
            refine lv_iconst (v := 4) hx hb dL_law_185 (by decide) ?_
            refine lv_iadd hx hb dL_law_186 ?_
            rw [show ((nI (7 * k)) + 4 : Int32) = nI ((7 * k) + 4) from nI_add (7 * k) 4]
            refine va_sld hx hb hX hbl hbA hS (vp_in_nI (n := ((7 * k) + 4)) (N := L) (by omega) (by omega)) dL_law_187 ?_
            refine x_callV (n := 4) (As := [.int (xs (nI ((7 * k) + 1)).toNatClampNeg), .int (xs (nI ((7 * k) + 2)).toNatClampNeg), .int 0, .int (xs (nI ((7 * k) + 4)).toNatClampNeg)]) (rest := []) F hP hD hS (X_way l D cy sk sv w tg x td pc ac sc ln se plv (xs (nI ((7 * k) + 1)).toNatClampNeg) (xs (nI ((7 * k) + 2)).toNatClampNeg) 0 (xs (nI ((7 * k) + 4)).toNatClampNeg) hIX) gT_X10_way rfl rfl (by decide +kernel) ⟨(Nat.le_of_ble_eq_true rfl), (Nat.le_of_ble_eq_true rfl)⟩ rfl hl.1 (Nat.le_of_ble_eq_true rfl) hxc rfl dL_law_188 rfl ⟨(show 250 + 2 * k + 0 ≤ 600000 from by omega), (show 12629 + 15 * k + 0 ≤ 7302250 from by omega)⟩ (fun v39 w40 hp38 H locs hP hD hS => ?_)
            obtain ⟨rfl, tg41, hg42, hk43, hIX44⟩ := hp38
            have hIM45 := IM.kept hIM hk43 (fun a h9 => Nat.not_lt.mpr h9) hg42
            obtain ⟨_, hxc46⟩ := hIX44.cell
            obtain ⟨_, hyc47⟩ := hIM45.cell
            refine W.eq (g2 := F0 m 191 ls [.int (wayA (xs (nI ((7 * k) + 1)).toNatClampNeg) (xs (nI ((7 * k) + 2)).toNatClampNeg) (xs (nI ((7 * k) + 4)).toNatClampNeg))]) rfl (W.widen (k := 250 + 2 * k + 0) (n := 12629 + 15 * k + 0) (Nat.le_refl _) (Nat.le_refl _) ?_)
            refine lv_aload_n hx hb dL_law_191 rfl (lv_at hl 2 rfl) ?_
            refine lv_aload_n hx hb dL_law_192 rfl (lv_at hl 0 rfl) ?_
            refine lv_iload_n hx hb dL_law_193 rfl (lv_at hl 3 rfl) ?_
            refine lv_iconst (v := 1) hx hb dL_law_194 (by decide) ?_
            refine lv_iadd hx hb dL_law_195 ?_
            rw [show ((nI (7 * k)) + 1 : Int32) = nI ((7 * k) + 1) from nI_add (7 * k) 1]
            refine va_sld hx hb hX hbl hbA hS (vp_in_nI (n := ((7 * k) + 1)) (N := L) (by omega) (by omega)) dL_law_196 ?_
            refine lv_aload_n hx hb dL_law_197 rfl (lv_at hl 0 rfl) ?_
            refine lv_iload_n hx hb dL_law_198 rfl (lv_at hl 3 rfl) ?_
            refine lv_iconst (v := 2) hx hb dL_law_199 (by decide) ?_
            refine lv_iadd hx hb dL_law_200 ?_
            rw [show ((nI (7 * k)) + 2 : Int32) = nI ((7 * k) + 2) from nI_add (7 * k) 2]
            refine va_sld hx hb hX hbl hbA hS (vp_in_nI (n := ((7 * k) + 2)) (N := L) (by omega) (by omega)) dL_law_201 ?_
            refine lv_aload_n hx hb dL_law_202 rfl (lv_at hl 0 rfl) ?_
            refine lv_iload_n hx hb dL_law_203 rfl (lv_at hl 3 rfl) ?_
            refine lv_iconst (v := 3) hx hb dL_law_204 (by decide) ?_
            refine lv_iadd hx hb dL_law_205 ?_
            rw [show ((nI (7 * k)) + 3 : Int32) = nI ((7 * k) + 3) from nI_add (7 * k) 3]
            refine va_sld hx hb hX hbl hbA hS (vp_in_nI (n := ((7 * k) + 3)) (N := L) (by omega) (by omega)) dL_law_206 ?_
            refine lv_if_eq (tgt := 214) hx hb dL_law_207 (by decide) (fun c_48 => ?_) (fun c_48 => absurd c_37 c_48)
            refine lv_iconst (v := 0) hx hb dL_law_214 (by decide) ?_
            refine lv_aload_n hx hb dL_law_215 rfl (lv_at hl 0 rfl) ?_
            refine lv_iload_n hx hb dL_law_216 rfl (lv_at hl 3 rfl) ?_
            refine lv_iconst (v := 4) hx hb dL_law_217 (by decide) ?_
            refine lv_iadd hx hb dL_law_218 ?_
            rw [show ((nI (7 * k)) + 4 : Int32) = nI ((7 * k) + 4) from nI_add (7 * k) 4]
            refine va_sld hx hb hX hbl hbA hS (vp_in_nI (n := ((7 * k) + 4)) (N := L) (by omega) (by omega)) dL_law_219 ?_
            refine x_callV (n := 4) (As := [.int (xs (nI ((7 * k) + 1)).toNatClampNeg), .int (xs (nI ((7 * k) + 2)).toNatClampNeg), .int 0, .int (xs (nI ((7 * k) + 4)).toNatClampNeg)]) (rest := [.int (wayA (xs (nI ((7 * k) + 1)).toNatClampNeg) (xs (nI ((7 * k) + 2)).toNatClampNeg) (xs (nI ((7 * k) + 4)).toNatClampNeg))]) F hP hD hS (M_way l D cy sk sv w40 tg41 y td pc ac sc ln se plv (xs (nI ((7 * k) + 1)).toNatClampNeg) (xs (nI ((7 * k) + 2)).toNatClampNeg) 0 (xs (nI ((7 * k) + 4)).toNatClampNeg) hIM45) gT_X11_way rfl rfl (by decide +kernel) ⟨(Nat.le_of_ble_eq_true rfl), (Nat.le_of_ble_eq_true rfl)⟩ rfl hl.1 (Nat.le_of_ble_eq_true rfl) hyc47 rfl dL_law_220 rfl ⟨(show 250 + 2 * k + 0 + 0 ≤ 600000 from by omega), (show 12629 + 15 * k + 0 + 0 ≤ 7302250 from by omega)⟩ (fun v50 w51 hp49 H locs hP hD hS => ?_)
            obtain ⟨rfl, hk52, hIM54⟩ := hp49
            have hIX53 := IX.kept hIX44 hk52 (fun a h9 => Nat.not_le.mpr h9) (fun _ _ => rfl)
            obtain ⟨_, hxc55⟩ := hIX53.cell
            obtain ⟨_, hyc56⟩ := hIM54.cell
            refine W.eq (g2 := F0 m 223 ls [.int (wayA (xs (nI ((7 * k) + 1)).toNatClampNeg) (xs (nI ((7 * k) + 2)).toNatClampNeg) (xs (nI ((7 * k) + 4)).toNatClampNeg)), .int (wayA (xs (nI ((7 * k) + 1)).toNatClampNeg) (xs (nI ((7 * k) + 2)).toNatClampNeg) (xs (nI ((7 * k) + 4)).toNatClampNeg))]) rfl (W.widen (k := 250 + 2 * k + 0 + 0) (n := 12629 + 15 * k + 0 + 0) (Nat.le_refl _) (Nat.le_refl _) ?_)
            refine lv_icmp_eq (tgt := 956) hx hb dL_law_223 (by decide) (fun c_57 => ?_) (fun c_57 => absurd rfl c_57)
            refine lv_iinc (v := nI (7 * (k + 1))) (lv' := [(3, .int (nI (7 * (k + 1)))), (0, .ref b), (1, .ref x), (2, .ref y)]) hx hb dL_law_956 hl (k := 3) rfl (lw_7 k) (by decide) rfl (fun ls hl => ?_)
            refine lv_goto (tgt := 18) hx hb dL_law_959 (by decide) ?_
            refine W.widen (k := 250 + 2 * (k + 1)) (n := 12629 + 15 * (k + 1)) (by omega) (by omega) ?_
            exact ih18 (k + 1) tg41 td pc ac sc ln se plv w51 (by omega) (by omega) hIX53 hIM54 ls (lv_sub hl [1, 2, 3, 0] rfl) H locs hP hD hS
          · refine lv_iconst (v := 1) hx hb dL_law_178 (by decide) ?_
            refine lv_goto (tgt := 183) hx hb dL_law_179 (by decide) ?_
            refine lv_aload_n hx hb dL_law_183 rfl (lv_at hl 0 rfl) ?_
            refine lv_iload_n hx hb dL_law_184 rfl (lv_at hl 3 rfl) ?_
            refine lv_iconst (v := 4) hx hb dL_law_185 (by decide) ?_
            refine lv_iadd hx hb dL_law_186 ?_
            rw [show ((nI (7 * k)) + 4 : Int32) = nI ((7 * k) + 4) from nI_add (7 * k) 4]
            refine va_sld hx hb hX hbl hbA hS (vp_in_nI (n := ((7 * k) + 4)) (N := L) (by omega) (by omega)) dL_law_187 ?_
            refine x_callV (n := 4) (As := [.int (xs (nI ((7 * k) + 1)).toNatClampNeg), .int (xs (nI ((7 * k) + 2)).toNatClampNeg), .int 1, .int (xs (nI ((7 * k) + 4)).toNatClampNeg)]) (rest := []) F hP hD hS (X_way l D cy sk sv w tg x td pc ac sc ln se plv (xs (nI ((7 * k) + 1)).toNatClampNeg) (xs (nI ((7 * k) + 2)).toNatClampNeg) 1 (xs (nI ((7 * k) + 4)).toNatClampNeg) hIX) gT_X10_way rfl rfl (by decide +kernel) ⟨(Nat.le_of_ble_eq_true rfl), (Nat.le_of_ble_eq_true rfl)⟩ rfl hl.1 (Nat.le_of_ble_eq_true rfl) hxc rfl dL_law_188 rfl ⟨(show 250 + 2 * k + 0 ≤ 600000 from by omega), (show 12629 + 15 * k + 0 ≤ 7302250 from by omega)⟩ (fun v59 w60 hp58 H locs hP hD hS => ?_)
            obtain ⟨rfl, tg61, hg62, hk63, hIX64⟩ := hp58
            have hIM65 := IM.kept hIM hk63 (fun a h9 => Nat.not_lt.mpr h9) hg62
            obtain ⟨_, hxc66⟩ := hIX64.cell
            obtain ⟨_, hyc67⟩ := hIM65.cell
            refine W.eq (g2 := F0 m 191 ls [.int (wayA (xs (nI ((7 * k) + 1)).toNatClampNeg) (xs (nI ((7 * k) + 2)).toNatClampNeg) (xs (nI ((7 * k) + 4)).toNatClampNeg))]) rfl (W.widen (k := 250 + 2 * k + 0) (n := 12629 + 15 * k + 0) (Nat.le_refl _) (Nat.le_refl _) ?_)
            refine lv_aload_n hx hb dL_law_191 rfl (lv_at hl 2 rfl) ?_
            refine lv_aload_n hx hb dL_law_192 rfl (lv_at hl 0 rfl) ?_
            refine lv_iload_n hx hb dL_law_193 rfl (lv_at hl 3 rfl) ?_
            refine lv_iconst (v := 1) hx hb dL_law_194 (by decide) ?_
            refine lv_iadd hx hb dL_law_195 ?_
            rw [show ((nI (7 * k)) + 1 : Int32) = nI ((7 * k) + 1) from nI_add (7 * k) 1]
            refine va_sld hx hb hX hbl hbA hS (vp_in_nI (n := ((7 * k) + 1)) (N := L) (by omega) (by omega)) dL_law_196 ?_
            refine lv_aload_n hx hb dL_law_197 rfl (lv_at hl 0 rfl) ?_
            refine lv_iload_n hx hb dL_law_198 rfl (lv_at hl 3 rfl) ?_
            refine lv_iconst (v := 2) hx hb dL_law_199 (by decide) ?_
            refine lv_iadd hx hb dL_law_200 ?_
            rw [show ((nI (7 * k)) + 2 : Int32) = nI ((7 * k) + 2) from nI_add (7 * k) 2]
            refine va_sld hx hb hX hbl hbA hS (vp_in_nI (n := ((7 * k) + 2)) (N := L) (by omega) (by omega)) dL_law_201 ?_
            refine lv_aload_n hx hb dL_law_202 rfl (lv_at hl 0 rfl) ?_
            refine lv_iload_n hx hb dL_law_203 rfl (lv_at hl 3 rfl) ?_
            refine lv_iconst (v := 3) hx hb dL_law_204 (by decide) ?_
            refine lv_iadd hx hb dL_law_205 ?_
            rw [show ((nI (7 * k)) + 3 : Int32) = nI ((7 * k) + 3) from nI_add (7 * k) 3]
            refine va_sld hx hb hX hbl hbA hS (vp_in_nI (n := ((7 * k) + 3)) (N := L) (by omega) (by omega)) dL_law_206 ?_
            refine lv_if_eq (tgt := 214) hx hb dL_law_207 (by decide) (fun c_68 => absurd c_68 c_37) (fun c_68 => ?_)
            refine lv_iconst (v := 1) hx hb dL_law_210 (by decide) ?_
            refine lv_goto (tgt := 215) hx hb dL_law_211 (by decide) ?_
            refine lv_aload_n hx hb dL_law_215 rfl (lv_at hl 0 rfl) ?_
            refine lv_iload_n hx hb dL_law_216 rfl (lv_at hl 3 rfl) ?_
            refine lv_iconst (v := 4) hx hb dL_law_217 (by decide) ?_
            refine lv_iadd hx hb dL_law_218 ?_
            rw [show ((nI (7 * k)) + 4 : Int32) = nI ((7 * k) + 4) from nI_add (7 * k) 4]
            refine va_sld hx hb hX hbl hbA hS (vp_in_nI (n := ((7 * k) + 4)) (N := L) (by omega) (by omega)) dL_law_219 ?_
            refine x_callV (n := 4) (As := [.int (xs (nI ((7 * k) + 1)).toNatClampNeg), .int (xs (nI ((7 * k) + 2)).toNatClampNeg), .int 1, .int (xs (nI ((7 * k) + 4)).toNatClampNeg)]) (rest := [.int (wayA (xs (nI ((7 * k) + 1)).toNatClampNeg) (xs (nI ((7 * k) + 2)).toNatClampNeg) (xs (nI ((7 * k) + 4)).toNatClampNeg))]) F hP hD hS (M_way l D cy sk sv w60 tg61 y td pc ac sc ln se plv (xs (nI ((7 * k) + 1)).toNatClampNeg) (xs (nI ((7 * k) + 2)).toNatClampNeg) 1 (xs (nI ((7 * k) + 4)).toNatClampNeg) hIM65) gT_X11_way rfl rfl (by decide +kernel) ⟨(Nat.le_of_ble_eq_true rfl), (Nat.le_of_ble_eq_true rfl)⟩ rfl hl.1 (Nat.le_of_ble_eq_true rfl) hyc67 rfl dL_law_220 rfl ⟨(show 250 + 2 * k + 0 + 0 ≤ 600000 from by omega), (show 12629 + 15 * k + 0 + 0 ≤ 7302250 from by omega)⟩ (fun v70 w71 hp69 H locs hP hD hS => ?_)
            obtain ⟨rfl, hk72, hIM74⟩ := hp69
            have hIX73 := IX.kept hIX64 hk72 (fun a h9 => Nat.not_le.mpr h9) (fun _ _ => rfl)
            obtain ⟨_, hxc75⟩ := hIX73.cell
            obtain ⟨_, hyc76⟩ := hIM74.cell
            refine W.eq (g2 := F0 m 223 ls [.int (wayA (xs (nI ((7 * k) + 1)).toNatClampNeg) (xs (nI ((7 * k) + 2)).toNatClampNeg) (xs (nI ((7 * k) + 4)).toNatClampNeg)), .int (wayA (xs (nI ((7 * k) + 1)).toNatClampNeg) (xs (nI ((7 * k) + 2)).toNatClampNeg) (xs (nI ((7 * k) + 4)).toNatClampNeg))]) rfl (W.widen (k := 250 + 2 * k + 0 + 0) (n := 12629 + 15 * k + 0 + 0) (Nat.le_refl _) (Nat.le_refl _) ?_)
            refine lv_icmp_eq (tgt := 956) hx hb dL_law_223 (by decide) (fun c_77 => ?_) (fun c_77 => absurd rfl c_77)
            refine lv_iinc (v := nI (7 * (k + 1))) (lv' := [(3, .int (nI (7 * (k + 1)))), (0, .ref b), (1, .ref x), (2, .ref y)]) hx hb dL_law_956 hl (k := 3) rfl (lw_7 k) (by decide) rfl (fun ls hl => ?_)
            refine lv_goto (tgt := 18) hx hb dL_law_959 (by decide) ?_
            refine W.widen (k := 250 + 2 * (k + 1)) (n := 12629 + 15 * (k + 1)) (by omega) (by omega) ?_
            exact ih18 (k + 1) tg61 td pc ac sc ln se plv w71 (by omega) (by omega) hIX73 hIM74 ls (lv_sub hl [1, 2, 3, 0] rfl) H locs hP hD hS
        by_cases c_78 : sw = 2
        · refine lv_tableIn (off := 195) (tgt := 228) hx hb dL_law_33 (by rw [c_78]; decide) (by rw [c_78]; decide) (by rw [c_78]; decide) (by decide) ?_
          refine lv_aload_n hx hb dL_law_228 rfl (lv_at hl 1 rfl) ?_
          refine lv_aload_n hx hb dL_law_229 rfl (lv_at hl 0 rfl) ?_
          refine lv_iload_n hx hb dL_law_230 rfl (lv_at hl 3 rfl) ?_
          refine lv_iconst (v := 1) hx hb dL_law_231 (by decide) ?_
          refine lv_iadd hx hb dL_law_232 ?_
          rw [show ((nI (7 * k)) + 1 : Int32) = nI ((7 * k) + 1) from nI_add (7 * k) 1]
          refine va_sld hx hb hX hbl hbA hS (vp_in_nI (n := ((7 * k) + 1)) (N := L) (by omega) (by omega)) dL_law_233 ?_
          refine lv_aload_n hx hb dL_law_234 rfl (lv_at hl 0 rfl) ?_
          refine lv_iload_n hx hb dL_law_235 rfl (lv_at hl 3 rfl) ?_
          refine lv_iconst (v := 2) hx hb dL_law_236 (by decide) ?_
          refine lv_iadd hx hb dL_law_237 ?_
          rw [show ((nI (7 * k)) + 2 : Int32) = nI ((7 * k) + 2) from nI_add (7 * k) 2]
          refine va_sld hx hb hX hbl hbA hS (vp_in_nI (n := ((7 * k) + 2)) (N := L) (by omega) (by omega)) dL_law_238 ?_
          refine lv_aload_n hx hb dL_law_239 rfl (lv_at hl 0 rfl) ?_
          refine lv_iload_n hx hb dL_law_240 rfl (lv_at hl 3 rfl) ?_
          refine lv_iconst (v := 3) hx hb dL_law_241 (by decide) ?_
          refine lv_iadd hx hb dL_law_242 ?_
          rw [show ((nI (7 * k)) + 3 : Int32) = nI ((7 * k) + 3) from nI_add (7 * k) 3]
          refine va_sld hx hb hX hbl hbA hS (vp_in_nI (n := ((7 * k) + 3)) (N := L) (by omega) (by omega)) dL_law_243 ?_
          refine x_callV (n := 3) (As := [.int (xs (nI ((7 * k) + 1)).toNatClampNeg), .int (xs (nI ((7 * k) + 2)).toNatClampNeg), .int (xs (nI ((7 * k) + 3)).toNatClampNeg)]) (rest := []) F hP hD hS (X_rate l D cy sk sv w tg x td pc ac sc ln se plv (xs (nI ((7 * k) + 1)).toNatClampNeg) (xs (nI ((7 * k) + 2)).toNatClampNeg) (xs (nI ((7 * k) + 3)).toNatClampNeg) hIX) gT_X10_rate rfl rfl (by decide +kernel) ⟨(Nat.le_of_ble_eq_true rfl), (Nat.le_of_ble_eq_true rfl)⟩ rfl hl.1 (Nat.le_of_ble_eq_true rfl) hxc rfl dL_law_244 rfl ⟨(show 250 + 2 * k + 0 ≤ 600000 from by omega), (show 12629 + 15 * k + 0 ≤ 7302250 from by omega)⟩ (fun v80 w81 hp79 H locs hP hD hS => ?_)
          obtain ⟨rfl, tg82, hg83, hk84, hIX85⟩ := hp79
          have hIM86 := IM.kept hIM hk84 (fun a h9 => Nat.not_lt.mpr h9) hg83
          obtain ⟨_, hxc87⟩ := hIX85.cell
          obtain ⟨_, hyc88⟩ := hIM86.cell
          refine W.eq (g2 := F0 m 247 ls [.int (rateA (xs (nI ((7 * k) + 1)).toNatClampNeg) (xs (nI ((7 * k) + 2)).toNatClampNeg) (xs (nI ((7 * k) + 3)).toNatClampNeg))]) rfl (W.widen (k := 250 + 2 * k + 0) (n := 12629 + 15 * k + 0) (Nat.le_refl _) (Nat.le_refl _) ?_)
          refine lv_pop hx hb dL_law_247 rfl ?_
          refine lv_aload_n hx hb dL_law_248 rfl (lv_at hl 2 rfl) ?_
          refine lv_aload_n hx hb dL_law_249 rfl (lv_at hl 0 rfl) ?_
          refine lv_iload_n hx hb dL_law_250 rfl (lv_at hl 3 rfl) ?_
          refine lv_iconst (v := 1) hx hb dL_law_251 (by decide) ?_
          refine lv_iadd hx hb dL_law_252 ?_
          rw [show ((nI (7 * k)) + 1 : Int32) = nI ((7 * k) + 1) from nI_add (7 * k) 1]
          refine va_sld hx hb hX hbl hbA hS (vp_in_nI (n := ((7 * k) + 1)) (N := L) (by omega) (by omega)) dL_law_253 ?_
          refine lv_aload_n hx hb dL_law_254 rfl (lv_at hl 0 rfl) ?_
          refine lv_iload_n hx hb dL_law_255 rfl (lv_at hl 3 rfl) ?_
          refine lv_iconst (v := 2) hx hb dL_law_256 (by decide) ?_
          refine lv_iadd hx hb dL_law_257 ?_
          rw [show ((nI (7 * k)) + 2 : Int32) = nI ((7 * k) + 2) from nI_add (7 * k) 2]
          refine va_sld hx hb hX hbl hbA hS (vp_in_nI (n := ((7 * k) + 2)) (N := L) (by omega) (by omega)) dL_law_258 ?_
          refine lv_aload_n hx hb dL_law_259 rfl (lv_at hl 0 rfl) ?_
          refine lv_iload_n hx hb dL_law_260 rfl (lv_at hl 3 rfl) ?_
          refine lv_iconst (v := 3) hx hb dL_law_261 (by decide) ?_
          refine lv_iadd hx hb dL_law_262 ?_
          rw [show ((nI (7 * k)) + 3 : Int32) = nI ((7 * k) + 3) from nI_add (7 * k) 3]
          refine va_sld hx hb hX hbl hbA hS (vp_in_nI (n := ((7 * k) + 3)) (N := L) (by omega) (by omega)) dL_law_263 ?_
          refine x_callV (n := 3) (As := [.int (xs (nI ((7 * k) + 1)).toNatClampNeg), .int (xs (nI ((7 * k) + 2)).toNatClampNeg), .int (xs (nI ((7 * k) + 3)).toNatClampNeg)]) (rest := []) F hP hD hS (M_rate l D cy sk sv w81 tg82 y td pc ac sc ln se plv (xs (nI ((7 * k) + 1)).toNatClampNeg) (xs (nI ((7 * k) + 2)).toNatClampNeg) (xs (nI ((7 * k) + 3)).toNatClampNeg) hIM86) gT_X11_rate rfl rfl (by decide +kernel) ⟨(Nat.le_of_ble_eq_true rfl), (Nat.le_of_ble_eq_true rfl)⟩ rfl hl.1 (Nat.le_of_ble_eq_true rfl) hyc88 rfl dL_law_264 rfl ⟨(show 250 + 2 * k + 0 + 0 ≤ 600000 from by omega), (show 12629 + 15 * k + 0 + 0 ≤ 7302250 from by omega)⟩ (fun v90 w91 hp89 H locs hP hD hS => ?_)
          obtain ⟨rfl, hk92, hIM94⟩ := hp89
          have hIX93 := IX.kept hIX85 hk92 (fun a h9 => Nat.not_le.mpr h9) (fun _ _ => rfl)
          obtain ⟨_, hxc95⟩ := hIX93.cell
          obtain ⟨_, hyc96⟩ := hIM94.cell
          refine W.eq (g2 := F0 m 267 ls [.int (rateA (xs (nI ((7 * k) + 1)).toNatClampNeg) (xs (nI ((7 * k) + 2)).toNatClampNeg) (xs (nI ((7 * k) + 3)).toNatClampNeg))]) rfl (W.widen (k := 250 + 2 * k + 0 + 0) (n := 12629 + 15 * k + 0 + 0) (Nat.le_refl _) (Nat.le_refl _) ?_)
          refine lv_pop hx hb dL_law_267 rfl ?_
          refine lv_goto (tgt := 956) hx hb dL_law_268 (by decide) ?_
          refine lv_iinc (v := nI (7 * (k + 1))) (lv' := [(3, .int (nI (7 * (k + 1)))), (0, .ref b), (1, .ref x), (2, .ref y)]) hx hb dL_law_956 hl (k := 3) rfl (lw_7 k) (by decide) rfl (fun ls hl => ?_)
          refine lv_goto (tgt := 18) hx hb dL_law_959 (by decide) ?_
          refine W.widen (k := 250 + 2 * (k + 1)) (n := 12629 + 15 * (k + 1)) (by omega) (by omega) ?_
          exact ih18 (k + 1) tg82 td pc ac sc ln se plv w91 (by omega) (by omega) hIX93 hIM94 ls (lv_sub hl [1, 2, 3, 0] rfl) H locs hP hD hS
        by_cases c_97 : sw = 3
        · refine lv_tableIn (off := 238) (tgt := 271) hx hb dL_law_33 (by rw [c_97]; decide) (by rw [c_97]; decide) (by rw [c_97]; decide) (by decide) ?_
          refine lv_aload_n hx hb dL_law_271 rfl (lv_at hl 1 rfl) ?_
          refine lv_aload_n hx hb dL_law_272 rfl (lv_at hl 0 rfl) ?_
          refine lv_iload_n hx hb dL_law_273 rfl (lv_at hl 3 rfl) ?_
          refine lv_iconst (v := 1) hx hb dL_law_274 (by decide) ?_
          refine lv_iadd hx hb dL_law_275 ?_
          rw [show ((nI (7 * k)) + 1 : Int32) = nI ((7 * k) + 1) from nI_add (7 * k) 1]
          refine va_sld hx hb hX hbl hbA hS (vp_in_nI (n := ((7 * k) + 1)) (N := L) (by omega) (by omega)) dL_law_276 ?_
          refine lv_aload_n hx hb dL_law_277 rfl (lv_at hl 0 rfl) ?_
          refine lv_iload_n hx hb dL_law_278 rfl (lv_at hl 3 rfl) ?_
          refine lv_iconst (v := 2) hx hb dL_law_279 (by decide) ?_
          refine lv_iadd hx hb dL_law_280 ?_
          rw [show ((nI (7 * k)) + 2 : Int32) = nI ((7 * k) + 2) from nI_add (7 * k) 2]
          refine va_sld hx hb hX hbl hbA hS (vp_in_nI (n := ((7 * k) + 2)) (N := L) (by omega) (by omega)) dL_law_281 ?_
          refine lv_aload_n hx hb dL_law_282 rfl (lv_at hl 0 rfl) ?_
          refine lv_iload_n hx hb dL_law_283 rfl (lv_at hl 3 rfl) ?_
          refine lv_iconst (v := 3) hx hb dL_law_284 (by decide) ?_
          refine lv_iadd hx hb dL_law_285 ?_
          rw [show ((nI (7 * k)) + 3 : Int32) = nI ((7 * k) + 3) from nI_add (7 * k) 3]
          refine va_sld hx hb hX hbl hbA hS (vp_in_nI (n := ((7 * k) + 3)) (N := L) (by omega) (by omega)) dL_law_286 ?_
          refine lv_aload_n hx hb dL_law_287 rfl (lv_at hl 0 rfl) ?_
          refine lv_iload_n hx hb dL_law_288 rfl (lv_at hl 3 rfl) ?_
          refine lv_iconst (v := 4) hx hb dL_law_289 (by decide) ?_
          refine lv_iadd hx hb dL_law_290 ?_
          rw [show ((nI (7 * k)) + 4 : Int32) = nI ((7 * k) + 4) from nI_add (7 * k) 4]
          refine va_sld hx hb hX hbl hbA hS (vp_in_nI (n := ((7 * k) + 4)) (N := L) (by omega) (by omega)) dL_law_291 ?_
          refine x_callV (n := 4) (As := [.int (xs (nI ((7 * k) + 1)).toNatClampNeg), .int (xs (nI ((7 * k) + 2)).toNatClampNeg), .int (xs (nI ((7 * k) + 3)).toNatClampNeg), .int (xs (nI ((7 * k) + 4)).toNatClampNeg)]) (rest := []) F hP hD hS (X_book l D cy sk sv w tg x td pc ac sc ln se plv (xs (nI ((7 * k) + 1)).toNatClampNeg) (xs (nI ((7 * k) + 2)).toNatClampNeg) (xs (nI ((7 * k) + 3)).toNatClampNeg) (xs (nI ((7 * k) + 4)).toNatClampNeg) hIX) gT_X10_book rfl rfl (by decide +kernel) ⟨(Nat.le_of_ble_eq_true rfl), (Nat.le_of_ble_eq_true rfl)⟩ rfl hl.1 (Nat.le_of_ble_eq_true rfl) hxc rfl dL_law_292 rfl ⟨(show 250 + 2 * k + 1 ≤ 600000 from by omega), (show 12629 + 15 * k + 7 ≤ 7302250 from by omega)⟩ (fun v99 w100 hp98 H locs hP hD hS => ?_)
          obtain ⟨rfl, tg101, hg102, hk103, hIX104⟩ := hp98
          have hIM105 := IM.kept hIM hk103 (fun a h9 => Nat.not_lt.mpr h9) hg102
          obtain ⟨_, hxc106⟩ := hIX104.cell
          obtain ⟨_, hyc107⟩ := hIM105.cell
          refine W.eq (g2 := F0 m 295 ls [.int (bookA pc (xs (nI ((7 * k) + 1)).toNatClampNeg) (xs (nI ((7 * k) + 2)).toNatClampNeg) (xs (nI ((7 * k) + 3)).toNatClampNeg) (xs (nI ((7 * k) + 4)).toNatClampNeg))]) rfl (W.widen (k := 250 + 2 * k + 1) (n := 12629 + 15 * k + 7) (Nat.le_refl _) (Nat.le_refl _) ?_)
          refine lv_pop hx hb dL_law_295 rfl ?_
          refine lv_aload_n hx hb dL_law_296 rfl (lv_at hl 2 rfl) ?_
          refine lv_aload_n hx hb dL_law_297 rfl (lv_at hl 0 rfl) ?_
          refine lv_iload_n hx hb dL_law_298 rfl (lv_at hl 3 rfl) ?_
          refine lv_iconst (v := 1) hx hb dL_law_299 (by decide) ?_
          refine lv_iadd hx hb dL_law_300 ?_
          rw [show ((nI (7 * k)) + 1 : Int32) = nI ((7 * k) + 1) from nI_add (7 * k) 1]
          refine va_sld hx hb hX hbl hbA hS (vp_in_nI (n := ((7 * k) + 1)) (N := L) (by omega) (by omega)) dL_law_301 ?_
          refine lv_aload_n hx hb dL_law_302 rfl (lv_at hl 0 rfl) ?_
          refine lv_iload_n hx hb dL_law_303 rfl (lv_at hl 3 rfl) ?_
          refine lv_iconst (v := 2) hx hb dL_law_304 (by decide) ?_
          refine lv_iadd hx hb dL_law_305 ?_
          rw [show ((nI (7 * k)) + 2 : Int32) = nI ((7 * k) + 2) from nI_add (7 * k) 2]
          refine va_sld hx hb hX hbl hbA hS (vp_in_nI (n := ((7 * k) + 2)) (N := L) (by omega) (by omega)) dL_law_306 ?_
          refine lv_aload_n hx hb dL_law_307 rfl (lv_at hl 0 rfl) ?_
          refine lv_iload_n hx hb dL_law_308 rfl (lv_at hl 3 rfl) ?_
          refine lv_iconst (v := 3) hx hb dL_law_309 (by decide) ?_
          refine lv_iadd hx hb dL_law_310 ?_
          rw [show ((nI (7 * k)) + 3 : Int32) = nI ((7 * k) + 3) from nI_add (7 * k) 3]
          refine va_sld hx hb hX hbl hbA hS (vp_in_nI (n := ((7 * k) + 3)) (N := L) (by omega) (by omega)) dL_law_311 ?_
          refine lv_aload_n hx hb dL_law_312 rfl (lv_at hl 0 rfl) ?_
          refine lv_iload_n hx hb dL_law_313 rfl (lv_at hl 3 rfl) ?_
          refine lv_iconst (v := 4) hx hb dL_law_314 (by decide) ?_
          refine lv_iadd hx hb dL_law_315 ?_
          rw [show ((nI (7 * k)) + 4 : Int32) = nI ((7 * k) + 4) from nI_add (7 * k) 4]
          refine va_sld hx hb hX hbl hbA hS (vp_in_nI (n := ((7 * k) + 4)) (N := L) (by omega) (by omega)) dL_law_316 ?_
          refine x_callV (n := 4) (As := [.int (xs (nI ((7 * k) + 1)).toNatClampNeg), .int (xs (nI ((7 * k) + 2)).toNatClampNeg), .int (xs (nI ((7 * k) + 3)).toNatClampNeg), .int (xs (nI ((7 * k) + 4)).toNatClampNeg)]) (rest := []) F hP hD hS (M_book l D cy sk sv w100 tg101 y td pc ac sc ln se plv (xs (nI ((7 * k) + 1)).toNatClampNeg) (xs (nI ((7 * k) + 2)).toNatClampNeg) (xs (nI ((7 * k) + 3)).toNatClampNeg) (xs (nI ((7 * k) + 4)).toNatClampNeg) hIM105) gT_X11_book rfl rfl (by decide +kernel) ⟨(Nat.le_of_ble_eq_true rfl), (Nat.le_of_ble_eq_true rfl)⟩ rfl hl.1 (Nat.le_of_ble_eq_true rfl) hyc107 rfl dL_law_317 rfl ⟨(show 250 + 2 * k + 1 + 0 ≤ 600000 from by omega), (show 12629 + 15 * k + 7 + 0 ≤ 7302250 from by omega)⟩ (fun v109 w110 hp108 H locs hP hD hS => ?_)
          obtain ⟨rfl, hk111, hIM113⟩ := hp108
          have hIX112 := IX.kept hIX104 hk111 (fun a h9 => Nat.not_le.mpr h9) (fun _ _ => rfl)
          obtain ⟨_, hxc114⟩ := hIX112.cell
          obtain ⟨_, hyc115⟩ := hIM113.cell
          refine W.eq (g2 := F0 m 320 ls [.int (bookA pc (xs (nI ((7 * k) + 1)).toNatClampNeg) (xs (nI ((7 * k) + 2)).toNatClampNeg) (xs (nI ((7 * k) + 3)).toNatClampNeg) (xs (nI ((7 * k) + 4)).toNatClampNeg))]) rfl (W.widen (k := 250 + 2 * k + 1 + 0) (n := 12629 + 15 * k + 7 + 0) (Nat.le_refl _) (Nat.le_refl _) ?_)
          refine lv_pop hx hb dL_law_320 rfl ?_
          refine lv_goto (tgt := 956) hx hb dL_law_321 (by decide) ?_
          refine lv_iinc (v := nI (7 * (k + 1))) (lv' := [(3, .int (nI (7 * (k + 1)))), (0, .ref b), (1, .ref x), (2, .ref y)]) hx hb dL_law_956 hl (k := 3) rfl (lw_7 k) (by decide) rfl (fun ls hl => ?_)
          refine lv_goto (tgt := 18) hx hb dL_law_959 (by decide) ?_
          refine W.widen (k := 250 + 2 * (k + 1)) (n := 12629 + 15 * (k + 1)) (by omega) (by omega) ?_
          exact ih18 (k + 1) tg101 td (bookC pc (xs (nI ((7 * k) + 1)).toNatClampNeg) (xs (nI ((7 * k) + 2)).toNatClampNeg) (xs (nI ((7 * k) + 3)).toNatClampNeg) (xs (nI ((7 * k) + 4)).toNatClampNeg)) ac sc ln se (bookL plv pc (xs (nI ((7 * k) + 1)).toNatClampNeg) (xs (nI ((7 * k) + 2)).toNatClampNeg) (xs (nI ((7 * k) + 3)).toNatClampNeg) (xs (nI ((7 * k) + 4)).toNatClampNeg)) w110 (by omega) (by omega) hIX112 hIM113 ls (lv_sub hl [1, 2, 3, 0] rfl) H locs hP hD hS
        by_cases c_116 : sw = 4
        · refine lv_tableIn (off := 291) (tgt := 324) hx hb dL_law_33 (by rw [c_116]; decide) (by rw [c_116]; decide) (by rw [c_116]; decide) (by decide) ?_
          refine lv_aload_n hx hb dL_law_324 rfl (lv_at hl 1 rfl) ?_
          refine lv_aload_n hx hb dL_law_325 rfl (lv_at hl 0 rfl) ?_
          refine lv_iload_n hx hb dL_law_326 rfl (lv_at hl 3 rfl) ?_
          refine lv_iconst (v := 1) hx hb dL_law_327 (by decide) ?_
          refine lv_iadd hx hb dL_law_328 ?_
          rw [show ((nI (7 * k)) + 1 : Int32) = nI ((7 * k) + 1) from nI_add (7 * k) 1]
          refine va_sld hx hb hX hbl hbA hS (vp_in_nI (n := ((7 * k) + 1)) (N := L) (by omega) (by omega)) dL_law_329 ?_
          refine lv_aload_n hx hb dL_law_330 rfl (lv_at hl 0 rfl) ?_
          refine lv_iload_n hx hb dL_law_331 rfl (lv_at hl 3 rfl) ?_
          refine lv_iconst (v := 2) hx hb dL_law_332 (by decide) ?_
          refine lv_iadd hx hb dL_law_333 ?_
          rw [show ((nI (7 * k)) + 2 : Int32) = nI ((7 * k) + 2) from nI_add (7 * k) 2]
          refine va_sld hx hb hX hbl hbA hS (vp_in_nI (n := ((7 * k) + 2)) (N := L) (by omega) (by omega)) dL_law_334 ?_
          refine lv_aload_n hx hb dL_law_335 rfl (lv_at hl 0 rfl) ?_
          refine lv_iload_n hx hb dL_law_336 rfl (lv_at hl 3 rfl) ?_
          refine lv_iconst (v := 3) hx hb dL_law_337 (by decide) ?_
          refine lv_iadd hx hb dL_law_338 ?_
          rw [show ((nI (7 * k)) + 3 : Int32) = nI ((7 * k) + 3) from nI_add (7 * k) 3]
          refine va_sld hx hb hX hbl hbA hS (vp_in_nI (n := ((7 * k) + 3)) (N := L) (by omega) (by omega)) dL_law_339 ?_
          refine x_callV (n := 3) (As := [.int (xs (nI ((7 * k) + 1)).toNatClampNeg), .int (xs (nI ((7 * k) + 2)).toNatClampNeg), .int (xs (nI ((7 * k) + 3)).toNatClampNeg)]) (rest := []) F hP hD hS (X_credit l D cy sk sv w tg x td pc ac sc ln se plv (xs (nI ((7 * k) + 1)).toNatClampNeg) (xs (nI ((7 * k) + 2)).toNatClampNeg) (xs (nI ((7 * k) + 3)).toNatClampNeg) hIX) gT_X10_credit rfl rfl (by decide +kernel) ⟨(Nat.le_of_ble_eq_true rfl), (Nat.le_of_ble_eq_true rfl)⟩ rfl hl.1 (Nat.le_of_ble_eq_true rfl) hxc rfl dL_law_340 rfl ⟨(show 250 + 2 * k + 1 ≤ 600000 from by omega), (show 12629 + 15 * k + 7 ≤ 7302250 from by omega)⟩ (fun v118 w119 hp117 H locs hP hD hS => ?_)
          obtain ⟨rfl, tg120, hg121, hk122, hIX123⟩ := hp117
          have hIM124 := IM.kept hIM hk122 (fun a h9 => Nat.not_lt.mpr h9) hg121
          obtain ⟨_, hxc125⟩ := hIX123.cell
          obtain ⟨_, hyc126⟩ := hIM124.cell
          refine W.eq (g2 := F0 m 343 ls [.int (credA pc (xs (nI ((7 * k) + 1)).toNatClampNeg) (xs (nI ((7 * k) + 2)).toNatClampNeg) (xs (nI ((7 * k) + 3)).toNatClampNeg))]) rfl (W.widen (k := 250 + 2 * k + 1) (n := 12629 + 15 * k + 7) (Nat.le_refl _) (Nat.le_refl _) ?_)
          refine lv_pop hx hb dL_law_343 rfl ?_
          refine lv_aload_n hx hb dL_law_344 rfl (lv_at hl 2 rfl) ?_
          refine lv_aload_n hx hb dL_law_345 rfl (lv_at hl 0 rfl) ?_
          refine lv_iload_n hx hb dL_law_346 rfl (lv_at hl 3 rfl) ?_
          refine lv_iconst (v := 1) hx hb dL_law_347 (by decide) ?_
          refine lv_iadd hx hb dL_law_348 ?_
          rw [show ((nI (7 * k)) + 1 : Int32) = nI ((7 * k) + 1) from nI_add (7 * k) 1]
          refine va_sld hx hb hX hbl hbA hS (vp_in_nI (n := ((7 * k) + 1)) (N := L) (by omega) (by omega)) dL_law_349 ?_
          refine lv_aload_n hx hb dL_law_350 rfl (lv_at hl 0 rfl) ?_
          refine lv_iload_n hx hb dL_law_351 rfl (lv_at hl 3 rfl) ?_
          refine lv_iconst (v := 2) hx hb dL_law_352 (by decide) ?_
          refine lv_iadd hx hb dL_law_353 ?_
          rw [show ((nI (7 * k)) + 2 : Int32) = nI ((7 * k) + 2) from nI_add (7 * k) 2]
          refine va_sld hx hb hX hbl hbA hS (vp_in_nI (n := ((7 * k) + 2)) (N := L) (by omega) (by omega)) dL_law_354 ?_
          refine lv_aload_n hx hb dL_law_355 rfl (lv_at hl 0 rfl) ?_
          refine lv_iload_n hx hb dL_law_356 rfl (lv_at hl 3 rfl) ?_
          refine lv_iconst (v := 3) hx hb dL_law_357 (by decide) ?_
          refine lv_iadd hx hb dL_law_358 ?_
          rw [show ((nI (7 * k)) + 3 : Int32) = nI ((7 * k) + 3) from nI_add (7 * k) 3]
          refine va_sld hx hb hX hbl hbA hS (vp_in_nI (n := ((7 * k) + 3)) (N := L) (by omega) (by omega)) dL_law_359 ?_
          refine x_callV (n := 3) (As := [.int (xs (nI ((7 * k) + 1)).toNatClampNeg), .int (xs (nI ((7 * k) + 2)).toNatClampNeg), .int (xs (nI ((7 * k) + 3)).toNatClampNeg)]) (rest := []) F hP hD hS (M_credit l D cy sk sv w119 tg120 y td pc ac sc ln se plv (xs (nI ((7 * k) + 1)).toNatClampNeg) (xs (nI ((7 * k) + 2)).toNatClampNeg) (xs (nI ((7 * k) + 3)).toNatClampNeg) hIM124) gT_X11_credit rfl rfl (by decide +kernel) ⟨(Nat.le_of_ble_eq_true rfl), (Nat.le_of_ble_eq_true rfl)⟩ rfl hl.1 (Nat.le_of_ble_eq_true rfl) hyc126 rfl dL_law_360 rfl ⟨(show 250 + 2 * k + 1 + 0 ≤ 600000 from by omega), (show 12629 + 15 * k + 7 + 0 ≤ 7302250 from by omega)⟩ (fun v128 w129 hp127 H locs hP hD hS => ?_)
          obtain ⟨rfl, hk130, hIM132⟩ := hp127
          have hIX131 := IX.kept hIX123 hk130 (fun a h9 => Nat.not_le.mpr h9) (fun _ _ => rfl)
          obtain ⟨_, hxc133⟩ := hIX131.cell
          obtain ⟨_, hyc134⟩ := hIM132.cell
          refine W.eq (g2 := F0 m 363 ls [.int (credA pc (xs (nI ((7 * k) + 1)).toNatClampNeg) (xs (nI ((7 * k) + 2)).toNatClampNeg) (xs (nI ((7 * k) + 3)).toNatClampNeg))]) rfl (W.widen (k := 250 + 2 * k + 1 + 0) (n := 12629 + 15 * k + 7 + 0) (Nat.le_refl _) (Nat.le_refl _) ?_)
          refine lv_pop hx hb dL_law_363 rfl ?_
          refine lv_goto (tgt := 956) hx hb dL_law_364 (by decide) ?_
          refine lv_iinc (v := nI (7 * (k + 1))) (lv' := [(3, .int (nI (7 * (k + 1)))), (0, .ref b), (1, .ref x), (2, .ref y)]) hx hb dL_law_956 hl (k := 3) rfl (lw_7 k) (by decide) rfl (fun ls hl => ?_)
          refine lv_goto (tgt := 18) hx hb dL_law_959 (by decide) ?_
          refine W.widen (k := 250 + 2 * (k + 1)) (n := 12629 + 15 * (k + 1)) (by omega) (by omega) ?_
          exact ih18 (k + 1) tg120 td (credC pc (xs (nI ((7 * k) + 1)).toNatClampNeg) (xs (nI ((7 * k) + 2)).toNatClampNeg) (xs (nI ((7 * k) + 3)).toNatClampNeg)) ac sc ln se (credL plv pc (xs (nI ((7 * k) + 1)).toNatClampNeg) (xs (nI ((7 * k) + 2)).toNatClampNeg) (xs (nI ((7 * k) + 3)).toNatClampNeg)) w129 (by omega) (by omega) hIX131 hIM132 ls (lv_sub hl [1, 2, 3, 0] rfl) H locs hP hD hS
        by_cases c_135 : sw = 5
        · refine lv_tableIn (off := 334) (tgt := 367) hx hb dL_law_33 (by rw [c_135]; decide) (by rw [c_135]; decide) (by rw [c_135]; decide) (by decide) ?_
          refine lv_aload_n hx hb dL_law_367 rfl (lv_at hl 1 rfl) ?_
          refine lv_aload_n hx hb dL_law_368 rfl (lv_at hl 0 rfl) ?_
          refine lv_iload_n hx hb dL_law_369 rfl (lv_at hl 3 rfl) ?_
          refine lv_iconst (v := 1) hx hb dL_law_370 (by decide) ?_
          refine lv_iadd hx hb dL_law_371 ?_
          rw [show ((nI (7 * k)) + 1 : Int32) = nI ((7 * k) + 1) from nI_add (7 * k) 1]
          refine va_sld hx hb hX hbl hbA hS (vp_in_nI (n := ((7 * k) + 1)) (N := L) (by omega) (by omega)) dL_law_372 ?_
          refine lv_aload_n hx hb dL_law_373 rfl (lv_at hl 0 rfl) ?_
          refine lv_iload_n hx hb dL_law_374 rfl (lv_at hl 3 rfl) ?_
          refine lv_iconst (v := 2) hx hb dL_law_375 (by decide) ?_
          refine lv_iadd hx hb dL_law_376 ?_
          rw [show ((nI (7 * k)) + 2 : Int32) = nI ((7 * k) + 2) from nI_add (7 * k) 2]
          refine va_sld hx hb hX hbl hbA hS (vp_in_nI (n := ((7 * k) + 2)) (N := L) (by omega) (by omega)) dL_law_377 ?_
          refine x_callV (n := 2) (As := [.int (xs (nI ((7 * k) + 1)).toNatClampNeg), .int (xs (nI ((7 * k) + 2)).toNatClampNeg)]) (rest := []) F hP hD hS (X_advise l D cy sk sv w tg x td pc ac sc ln se plv (xs (nI ((7 * k) + 1)).toNatClampNeg) (xs (nI ((7 * k) + 2)).toNatClampNeg) hIX) gT_X10_advise rfl rfl (by decide +kernel) ⟨(Nat.le_of_ble_eq_true rfl), (Nat.le_of_ble_eq_true rfl)⟩ rfl hl.1 (Nat.le_of_ble_eq_true rfl) hxc rfl dL_law_378 rfl ⟨(show 250 + 2 * k + 1 ≤ 600000 from by omega), (show 12629 + 15 * k + 4 ≤ 7302250 from by omega)⟩ (fun v137 w138 hp136 H locs hP hD hS => ?_)
          obtain ⟨rfl, tg139, hg140, hk141, hIX142⟩ := hp136
          have hIM143 := IM.kept hIM hk141 (fun a h9 => Nat.not_lt.mpr h9) hg140
          obtain ⟨_, hxc144⟩ := hIX142.cell
          obtain ⟨_, hyc145⟩ := hIM143.cell
          refine W.eq (g2 := F0 m 381 ls [.int (advA pc ac (xs (nI ((7 * k) + 1)).toNatClampNeg) (xs (nI ((7 * k) + 2)).toNatClampNeg))]) rfl (W.widen (k := 250 + 2 * k + 1) (n := 12629 + 15 * k + 4) (Nat.le_refl _) (Nat.le_refl _) ?_)
          refine lv_pop hx hb dL_law_381 rfl ?_
          refine lv_aload_n hx hb dL_law_382 rfl (lv_at hl 2 rfl) ?_
          refine lv_aload_n hx hb dL_law_383 rfl (lv_at hl 0 rfl) ?_
          refine lv_iload_n hx hb dL_law_384 rfl (lv_at hl 3 rfl) ?_
          refine lv_iconst (v := 1) hx hb dL_law_385 (by decide) ?_
          refine lv_iadd hx hb dL_law_386 ?_
          rw [show ((nI (7 * k)) + 1 : Int32) = nI ((7 * k) + 1) from nI_add (7 * k) 1]
          refine va_sld hx hb hX hbl hbA hS (vp_in_nI (n := ((7 * k) + 1)) (N := L) (by omega) (by omega)) dL_law_387 ?_
          refine lv_aload_n hx hb dL_law_388 rfl (lv_at hl 0 rfl) ?_
          refine lv_iload_n hx hb dL_law_389 rfl (lv_at hl 3 rfl) ?_
          refine lv_iconst (v := 2) hx hb dL_law_390 (by decide) ?_
          refine lv_iadd hx hb dL_law_391 ?_
          rw [show ((nI (7 * k)) + 2 : Int32) = nI ((7 * k) + 2) from nI_add (7 * k) 2]
          refine va_sld hx hb hX hbl hbA hS (vp_in_nI (n := ((7 * k) + 2)) (N := L) (by omega) (by omega)) dL_law_392 ?_
          refine x_callV (n := 2) (As := [.int (xs (nI ((7 * k) + 1)).toNatClampNeg), .int (xs (nI ((7 * k) + 2)).toNatClampNeg)]) (rest := []) F hP hD hS (M_advise l D cy sk sv w138 tg139 y td pc ac sc ln se plv (xs (nI ((7 * k) + 1)).toNatClampNeg) (xs (nI ((7 * k) + 2)).toNatClampNeg) hIM143) gT_X11_advise rfl rfl (by decide +kernel) ⟨(Nat.le_of_ble_eq_true rfl), (Nat.le_of_ble_eq_true rfl)⟩ rfl hl.1 (Nat.le_of_ble_eq_true rfl) hyc145 rfl dL_law_393 rfl ⟨(show 250 + 2 * k + 1 + 0 ≤ 600000 from by omega), (show 12629 + 15 * k + 4 + 0 ≤ 7302250 from by omega)⟩ (fun v147 w148 hp146 H locs hP hD hS => ?_)
          obtain ⟨rfl, hk149, hIM151⟩ := hp146
          have hIX150 := IX.kept hIX142 hk149 (fun a h9 => Nat.not_le.mpr h9) (fun _ _ => rfl)
          obtain ⟨_, hxc152⟩ := hIX150.cell
          obtain ⟨_, hyc153⟩ := hIM151.cell
          refine W.eq (g2 := F0 m 396 ls [.int (advA pc ac (xs (nI ((7 * k) + 1)).toNatClampNeg) (xs (nI ((7 * k) + 2)).toNatClampNeg))]) rfl (W.widen (k := 250 + 2 * k + 1 + 0) (n := 12629 + 15 * k + 4 + 0) (Nat.le_refl _) (Nat.le_refl _) ?_)
          refine lv_pop hx hb dL_law_396 rfl ?_
          refine lv_goto (tgt := 956) hx hb dL_law_397 (by decide) ?_
          refine lv_iinc (v := nI (7 * (k + 1))) (lv' := [(3, .int (nI (7 * (k + 1)))), (0, .ref b), (1, .ref x), (2, .ref y)]) hx hb dL_law_956 hl (k := 3) rfl (lw_7 k) (by decide) rfl (fun ls hl => ?_)
          refine lv_goto (tgt := 18) hx hb dL_law_959 (by decide) ?_
          refine W.widen (k := 250 + 2 * (k + 1)) (n := 12629 + 15 * (k + 1)) (by omega) (by omega) ?_
          exact ih18 (k + 1) tg139 td pc (advC pc ac (xs (nI ((7 * k) + 1)).toNatClampNeg) (xs (nI ((7 * k) + 2)).toNatClampNeg)) sc ln se plv w148 (by omega) (by omega) hIX150 hIM151 ls (lv_sub hl [1, 2, 3, 0] rfl) H locs hP hD hS
        by_cases c_154 : sw = 6
        · refine lv_tableIn (off := 367) (tgt := 400) hx hb dL_law_33 (by rw [c_154]; decide) (by rw [c_154]; decide) (by rw [c_154]; decide) (by decide) ?_
          refine lv_aload_n hx hb dL_law_400 rfl (lv_at hl 1 rfl) ?_
          refine lv_aload_n hx hb dL_law_401 rfl (lv_at hl 0 rfl) ?_
          refine lv_iload_n hx hb dL_law_402 rfl (lv_at hl 3 rfl) ?_
          refine lv_iconst (v := 1) hx hb dL_law_403 (by decide) ?_
          refine lv_iadd hx hb dL_law_404 ?_
          rw [show ((nI (7 * k)) + 1 : Int32) = nI ((7 * k) + 1) from nI_add (7 * k) 1]
          refine va_sld hx hb hX hbl hbA hS (vp_in_nI (n := ((7 * k) + 1)) (N := L) (by omega) (by omega)) dL_law_405 ?_
          refine x_callV (n := 1) (As := [.int (xs (nI ((7 * k) + 1)).toNatClampNeg)]) (rest := []) F hP hD hS (X_lose l D cy sk sv w tg x td pc ac sc ln se plv (xs (nI ((7 * k) + 1)).toNatClampNeg) hIX) gT_X10_lose rfl rfl (by decide +kernel) ⟨(Nat.le_of_ble_eq_true rfl), (Nat.le_of_ble_eq_true rfl)⟩ rfl hl.1 (Nat.le_of_ble_eq_true rfl) hxc rfl dL_law_406 rfl ⟨(show 250 + 2 * k + 0 ≤ 600000 from by omega), (show 12629 + 15 * k + 0 ≤ 7302250 from by omega)⟩ (fun v156 w157 hp155 H locs hP hD hS => ?_)
          obtain ⟨⟨r158, rfl⟩, tg159, hg160, hk161, hIX162⟩ := hp155
          have hIM163 := IM.kept hIM hk161 (fun a h9 => Nat.not_lt.mpr h9) hg160
          obtain ⟨_, hxc164⟩ := hIX162.cell
          obtain ⟨_, hyc165⟩ := hIM163.cell
          refine W.eq (g2 := F0 m 409 ls [.int r158]) rfl (W.widen (k := 250 + 2 * k + 0) (n := 12629 + 15 * k + 0) (Nat.le_refl _) (Nat.le_refl _) ?_)
          refine lv_pop hx hb dL_law_409 rfl ?_
          refine lv_aload_n hx hb dL_law_410 rfl (lv_at hl 2 rfl) ?_
          refine lv_aload_n hx hb dL_law_411 rfl (lv_at hl 0 rfl) ?_
          refine lv_iload_n hx hb dL_law_412 rfl (lv_at hl 3 rfl) ?_
          refine lv_iconst (v := 1) hx hb dL_law_413 (by decide) ?_
          refine lv_iadd hx hb dL_law_414 ?_
          rw [show ((nI (7 * k)) + 1 : Int32) = nI ((7 * k) + 1) from nI_add (7 * k) 1]
          refine va_sld hx hb hX hbl hbA hS (vp_in_nI (n := ((7 * k) + 1)) (N := L) (by omega) (by omega)) dL_law_415 ?_
          refine x_callV (n := 1) (As := [.int (xs (nI ((7 * k) + 1)).toNatClampNeg)]) (rest := []) F hP hD hS (M_lose l D cy sk sv w157 tg159 y td pc ac sc ln se plv (xs (nI ((7 * k) + 1)).toNatClampNeg) hIM163) gT_X11_lose rfl rfl (by decide +kernel) ⟨(Nat.le_of_ble_eq_true rfl), (Nat.le_of_ble_eq_true rfl)⟩ rfl hl.1 (Nat.le_of_ble_eq_true rfl) hyc165 rfl dL_law_416 rfl ⟨(show 250 + 2 * k + 0 + 0 ≤ 600000 from by omega), (show 12629 + 15 * k + 0 + 0 ≤ 7302250 from by omega)⟩ (fun v167 w168 hp166 H locs hP hD hS => ?_)
          obtain ⟨⟨r169, rfl⟩, hk170, hIM172⟩ := hp166
          have hIX171 := IX.kept hIX162 hk170 (fun a h9 => Nat.not_le.mpr h9) (fun _ _ => rfl)
          obtain ⟨_, hxc173⟩ := hIX171.cell
          obtain ⟨_, hyc174⟩ := hIM172.cell
          refine W.eq (g2 := F0 m 419 ls [.int r169]) rfl (W.widen (k := 250 + 2 * k + 0 + 0) (n := 12629 + 15 * k + 0 + 0) (Nat.le_refl _) (Nat.le_refl _) ?_)
          refine lv_pop hx hb dL_law_419 rfl ?_
          refine lv_goto (tgt := 956) hx hb dL_law_420 (by decide) ?_
          refine lv_iinc (v := nI (7 * (k + 1))) (lv' := [(3, .int (nI (7 * (k + 1)))), (0, .ref b), (1, .ref x), (2, .ref y)]) hx hb dL_law_956 hl (k := 3) rfl (lw_7 k) (by decide) rfl (fun ls hl => ?_)
          refine lv_goto (tgt := 18) hx hb dL_law_959 (by decide) ?_
          refine W.widen (k := 250 + 2 * (k + 1)) (n := 12629 + 15 * (k + 1)) (by omega) (by omega) ?_
          exact ih18 (k + 1) tg159 td pc ac sc ln se plv w168 (by omega) (by omega) hIX171 hIM172 ls (lv_sub hl [1, 2, 3, 0] rfl) H locs hP hD hS
        by_cases c_175 : sw = 7
        · refine lv_tableIn (off := 390) (tgt := 423) hx hb dL_law_33 (by rw [c_175]; decide) (by rw [c_175]; decide) (by rw [c_175]; decide) (by decide) ?_
          refine lv_aload_n hx hb dL_law_423 rfl (lv_at hl 1 rfl) ?_
          refine lv_aload_n hx hb dL_law_424 rfl (lv_at hl 0 rfl) ?_
          refine lv_iload_n hx hb dL_law_425 rfl (lv_at hl 3 rfl) ?_
          refine lv_iconst (v := 1) hx hb dL_law_426 (by decide) ?_
          refine lv_iadd hx hb dL_law_427 ?_
          rw [show ((nI (7 * k)) + 1 : Int32) = nI ((7 * k) + 1) from nI_add (7 * k) 1]
          refine va_sld hx hb hX hbl hbA hS (vp_in_nI (n := ((7 * k) + 1)) (N := L) (by omega) (by omega)) dL_law_428 ?_
          refine lv_aload_n hx hb dL_law_429 rfl (lv_at hl 0 rfl) ?_
          refine lv_iload_n hx hb dL_law_430 rfl (lv_at hl 3 rfl) ?_
          refine lv_iconst (v := 2) hx hb dL_law_431 (by decide) ?_
          refine lv_iadd hx hb dL_law_432 ?_
          rw [show ((nI (7 * k)) + 2 : Int32) = nI ((7 * k) + 2) from nI_add (7 * k) 2]
          refine va_sld hx hb hX hbl hbA hS (vp_in_nI (n := ((7 * k) + 2)) (N := L) (by omega) (by omega)) dL_law_433 ?_
          refine lv_aload_n hx hb dL_law_434 rfl (lv_at hl 0 rfl) ?_
          refine lv_iload_n hx hb dL_law_435 rfl (lv_at hl 3 rfl) ?_
          refine lv_iconst (v := 3) hx hb dL_law_436 (by decide) ?_
          refine lv_iadd hx hb dL_law_437 ?_
          rw [show ((nI (7 * k)) + 3 : Int32) = nI ((7 * k) + 3) from nI_add (7 * k) 3]
          refine va_sld hx hb hX hbl hbA hS (vp_in_nI (n := ((7 * k) + 3)) (N := L) (by omega) (by omega)) dL_law_438 ?_
          refine x_callV (n := 3) (As := [.int (xs (nI ((7 * k) + 1)).toNatClampNeg), .int (xs (nI ((7 * k) + 2)).toNatClampNeg), .int (xs (nI ((7 * k) + 3)).toNatClampNeg)]) (rest := []) F hP hD hS (X_stop l D cy sk sv w tg x td pc ac sc ln se plv (xs (nI ((7 * k) + 1)).toNatClampNeg) (xs (nI ((7 * k) + 2)).toNatClampNeg) (xs (nI ((7 * k) + 3)).toNatClampNeg) hIX) gT_X10_stop rfl rfl (by decide +kernel) ⟨(Nat.le_of_ble_eq_true rfl), (Nat.le_of_ble_eq_true rfl)⟩ rfl hl.1 (Nat.le_of_ble_eq_true rfl) hxc rfl dL_law_439 rfl ⟨(show 250 + 2 * k + 2 ≤ 600000 from by omega), (show 12629 + 15 * k + 15 ≤ 7302250 from by omega)⟩ (fun v177 w178 hp176 H locs hP hD hS => ?_)
          obtain ⟨rfl, tg179, hg180, hk181, hIX182⟩ := hp176
          have hIM183 := IM.kept hIM hk181 (fun a h9 => Nat.not_lt.mpr h9) hg180
          obtain ⟨_, hxc184⟩ := hIX182.cell
          obtain ⟨_, hyc185⟩ := hIM183.cell
          refine W.eq (g2 := F0 m 442 ls [.int (stpA plv pc sc (xs (nI ((7 * k) + 1)).toNatClampNeg) (xs (nI ((7 * k) + 2)).toNatClampNeg) (xs (nI ((7 * k) + 3)).toNatClampNeg))]) rfl (W.widen (k := 250 + 2 * k + 2) (n := 12629 + 15 * k + 15) (Nat.le_refl _) (Nat.le_refl _) ?_)
          refine lv_pop hx hb dL_law_442 rfl ?_
          refine lv_aload_n hx hb dL_law_443 rfl (lv_at hl 2 rfl) ?_
          refine lv_aload_n hx hb dL_law_444 rfl (lv_at hl 0 rfl) ?_
          refine lv_iload_n hx hb dL_law_445 rfl (lv_at hl 3 rfl) ?_
          refine lv_iconst (v := 1) hx hb dL_law_446 (by decide) ?_
          refine lv_iadd hx hb dL_law_447 ?_
          rw [show ((nI (7 * k)) + 1 : Int32) = nI ((7 * k) + 1) from nI_add (7 * k) 1]
          refine va_sld hx hb hX hbl hbA hS (vp_in_nI (n := ((7 * k) + 1)) (N := L) (by omega) (by omega)) dL_law_448 ?_
          refine lv_aload_n hx hb dL_law_449 rfl (lv_at hl 0 rfl) ?_
          refine lv_iload_n hx hb dL_law_450 rfl (lv_at hl 3 rfl) ?_
          refine lv_iconst (v := 2) hx hb dL_law_451 (by decide) ?_
          refine lv_iadd hx hb dL_law_452 ?_
          rw [show ((nI (7 * k)) + 2 : Int32) = nI ((7 * k) + 2) from nI_add (7 * k) 2]
          refine va_sld hx hb hX hbl hbA hS (vp_in_nI (n := ((7 * k) + 2)) (N := L) (by omega) (by omega)) dL_law_453 ?_
          refine lv_aload_n hx hb dL_law_454 rfl (lv_at hl 0 rfl) ?_
          refine lv_iload_n hx hb dL_law_455 rfl (lv_at hl 3 rfl) ?_
          refine lv_iconst (v := 3) hx hb dL_law_456 (by decide) ?_
          refine lv_iadd hx hb dL_law_457 ?_
          rw [show ((nI (7 * k)) + 3 : Int32) = nI ((7 * k) + 3) from nI_add (7 * k) 3]
          refine va_sld hx hb hX hbl hbA hS (vp_in_nI (n := ((7 * k) + 3)) (N := L) (by omega) (by omega)) dL_law_458 ?_
          refine x_callV (n := 3) (As := [.int (xs (nI ((7 * k) + 1)).toNatClampNeg), .int (xs (nI ((7 * k) + 2)).toNatClampNeg), .int (xs (nI ((7 * k) + 3)).toNatClampNeg)]) (rest := []) F hP hD hS (M_stop l D cy sk sv w178 tg179 y td pc ac sc ln se plv (xs (nI ((7 * k) + 1)).toNatClampNeg) (xs (nI ((7 * k) + 2)).toNatClampNeg) (xs (nI ((7 * k) + 3)).toNatClampNeg) hIM183) gT_X11_stop rfl rfl (by decide +kernel) ⟨(Nat.le_of_ble_eq_true rfl), (Nat.le_of_ble_eq_true rfl)⟩ rfl hl.1 (Nat.le_of_ble_eq_true rfl) hyc185 rfl dL_law_459 rfl ⟨(show 250 + 2 * k + 2 + 0 ≤ 600000 from by omega), (show 12629 + 15 * k + 15 + 0 ≤ 7302250 from by omega)⟩ (fun v187 w188 hp186 H locs hP hD hS => ?_)
          obtain ⟨rfl, hk189, hIM191⟩ := hp186
          have hIX190 := IX.kept hIX182 hk189 (fun a h9 => Nat.not_le.mpr h9) (fun _ _ => rfl)
          obtain ⟨_, hxc192⟩ := hIX190.cell
          obtain ⟨_, hyc193⟩ := hIM191.cell
          refine W.eq (g2 := F0 m 462 ls [.int (stpA plv pc sc (xs (nI ((7 * k) + 1)).toNatClampNeg) (xs (nI ((7 * k) + 2)).toNatClampNeg) (xs (nI ((7 * k) + 3)).toNatClampNeg))]) rfl (W.widen (k := 250 + 2 * k + 2 + 0) (n := 12629 + 15 * k + 15 + 0) (Nat.le_refl _) (Nat.le_refl _) ?_)
          refine lv_pop hx hb dL_law_462 rfl ?_
          refine lv_goto (tgt := 956) hx hb dL_law_463 (by decide) ?_
          refine lv_iinc (v := nI (7 * (k + 1))) (lv' := [(3, .int (nI (7 * (k + 1)))), (0, .ref b), (1, .ref x), (2, .ref y)]) hx hb dL_law_956 hl (k := 3) rfl (lw_7 k) (by decide) rfl (fun ls hl => ?_)
          refine lv_goto (tgt := 18) hx hb dL_law_959 (by decide) ?_
          refine W.widen (k := 250 + 2 * (k + 1)) (n := 12629 + 15 * (k + 1)) (by omega) (by omega) ?_
          exact ih18 (k + 1) tg179 td pc ac (stpC plv pc sc (xs (nI ((7 * k) + 1)).toNatClampNeg) (xs (nI ((7 * k) + 2)).toNatClampNeg) (xs (nI ((7 * k) + 3)).toNatClampNeg)) ln se plv w188 (by omega) (by omega) hIX190 hIM191 ls (lv_sub hl [1, 2, 3, 0] rfl) H locs hP hD hS
        by_cases c_194 : sw = 8
        · refine lv_tableIn (off := 433) (tgt := 466) hx hb dL_law_33 (by rw [c_194]; decide) (by rw [c_194]; decide) (by rw [c_194]; decide) (by decide) ?_
          refine lv_aload_n hx hb dL_law_466 rfl (lv_at hl 1 rfl) ?_
          refine lv_aload_n hx hb dL_law_467 rfl (lv_at hl 0 rfl) ?_
          refine lv_iload_n hx hb dL_law_468 rfl (lv_at hl 3 rfl) ?_
          refine lv_iconst (v := 1) hx hb dL_law_469 (by decide) ?_
          refine lv_iadd hx hb dL_law_470 ?_
          rw [show ((nI (7 * k)) + 1 : Int32) = nI ((7 * k) + 1) from nI_add (7 * k) 1]
          refine va_sld hx hb hX hbl hbA hS (vp_in_nI (n := ((7 * k) + 1)) (N := L) (by omega) (by omega)) dL_law_471 ?_
          refine lv_aload_n hx hb dL_law_472 rfl (lv_at hl 0 rfl) ?_
          refine lv_iload_n hx hb dL_law_473 rfl (lv_at hl 3 rfl) ?_
          refine lv_iconst (v := 2) hx hb dL_law_474 (by decide) ?_
          refine lv_iadd hx hb dL_law_475 ?_
          rw [show ((nI (7 * k)) + 2 : Int32) = nI ((7 * k) + 2) from nI_add (7 * k) 2]
          refine va_sld hx hb hX hbl hbA hS (vp_in_nI (n := ((7 * k) + 2)) (N := L) (by omega) (by omega)) dL_law_476 ?_
          refine lv_aload_n hx hb dL_law_477 rfl (lv_at hl 0 rfl) ?_
          refine lv_iload_n hx hb dL_law_478 rfl (lv_at hl 3 rfl) ?_
          refine lv_iconst (v := 3) hx hb dL_law_479 (by decide) ?_
          refine lv_iadd hx hb dL_law_480 ?_
          rw [show ((nI (7 * k)) + 3 : Int32) = nI ((7 * k) + 3) from nI_add (7 * k) 3]
          refine va_sld hx hb hX hbl hbA hS (vp_in_nI (n := ((7 * k) + 3)) (N := L) (by omega) (by omega)) dL_law_481 ?_
          refine lv_aload_n hx hb dL_law_482 rfl (lv_at hl 0 rfl) ?_
          refine lv_iload_n hx hb dL_law_483 rfl (lv_at hl 3 rfl) ?_
          refine lv_iconst (v := 4) hx hb dL_law_484 (by decide) ?_
          refine lv_iadd hx hb dL_law_485 ?_
          rw [show ((nI (7 * k)) + 4 : Int32) = nI ((7 * k) + 4) from nI_add (7 * k) 4]
          refine va_sld hx hb hX hbl hbA hS (vp_in_nI (n := ((7 * k) + 4)) (N := L) (by omega) (by omega)) dL_law_486 ?_
          refine lv_aload_n hx hb dL_law_487 rfl (lv_at hl 0 rfl) ?_
          refine lv_iload_n hx hb dL_law_488 rfl (lv_at hl 3 rfl) ?_
          refine lv_iconst (v := 5) hx hb dL_law_489 (by decide) ?_
          refine lv_iadd hx hb dL_law_490 ?_
          rw [show ((nI (7 * k)) + 5 : Int32) = nI ((7 * k) + 5) from nI_add (7 * k) 5]
          refine va_sld hx hb hX hbl hbA hS (vp_in_nI (n := ((7 * k) + 5)) (N := L) (by omega) (by omega)) dL_law_491 ?_
          refine x_callV (n := 5) (As := [.int (xs (nI ((7 * k) + 1)).toNatClampNeg), .int (xs (nI ((7 * k) + 2)).toNatClampNeg), .int (xs (nI ((7 * k) + 3)).toNatClampNeg), .int (xs (nI ((7 * k) + 4)).toNatClampNeg), .int (xs (nI ((7 * k) + 5)).toNatClampNeg)]) (rest := []) F hP hD hS (X_feed l D cy sk sv w tg x td pc ac sc ln se plv (xs (nI ((7 * k) + 1)).toNatClampNeg) (xs (nI ((7 * k) + 2)).toNatClampNeg) (xs (nI ((7 * k) + 3)).toNatClampNeg) (xs (nI ((7 * k) + 4)).toNatClampNeg) (xs (nI ((7 * k) + 5)).toNatClampNeg) hIX) gT_X10_feed rfl rfl (by decide +kernel) ⟨(Nat.le_of_ble_eq_true rfl), (Nat.le_of_ble_eq_true rfl)⟩ rfl hl.1 (Nat.le_of_ble_eq_true rfl) hxc rfl dL_law_492 rfl ⟨(show 250 + 2 * k + 0 ≤ 600000 from by omega), (show 12629 + 15 * k + 0 ≤ 7302250 from by omega)⟩ (fun v196 w197 hp195 H locs hP hD hS => ?_)
          obtain ⟨rfl, tg198, hg199, hk200, hIX201⟩ := hp195
          have hIM202 := IM.kept hIM hk200 (fun a h9 => Nat.not_lt.mpr h9) hg199
          obtain ⟨_, hxc203⟩ := hIX201.cell
          obtain ⟨_, hyc204⟩ := hIM202.cell
          refine W.eq (g2 := F0 m 495 ls [.int (feedA ln)]) rfl (W.widen (k := 250 + 2 * k + 0) (n := 12629 + 15 * k + 0) (Nat.le_refl _) (Nat.le_refl _) ?_)
          refine lv_pop hx hb dL_law_495 rfl ?_
          refine lv_aload_n hx hb dL_law_496 rfl (lv_at hl 2 rfl) ?_
          refine lv_aload_n hx hb dL_law_497 rfl (lv_at hl 0 rfl) ?_
          refine lv_iload_n hx hb dL_law_498 rfl (lv_at hl 3 rfl) ?_
          refine lv_iconst (v := 1) hx hb dL_law_499 (by decide) ?_
          refine lv_iadd hx hb dL_law_500 ?_
          rw [show ((nI (7 * k)) + 1 : Int32) = nI ((7 * k) + 1) from nI_add (7 * k) 1]
          refine va_sld hx hb hX hbl hbA hS (vp_in_nI (n := ((7 * k) + 1)) (N := L) (by omega) (by omega)) dL_law_501 ?_
          refine lv_aload_n hx hb dL_law_502 rfl (lv_at hl 0 rfl) ?_
          refine lv_iload_n hx hb dL_law_503 rfl (lv_at hl 3 rfl) ?_
          refine lv_iconst (v := 2) hx hb dL_law_504 (by decide) ?_
          refine lv_iadd hx hb dL_law_505 ?_
          rw [show ((nI (7 * k)) + 2 : Int32) = nI ((7 * k) + 2) from nI_add (7 * k) 2]
          refine va_sld hx hb hX hbl hbA hS (vp_in_nI (n := ((7 * k) + 2)) (N := L) (by omega) (by omega)) dL_law_506 ?_
          refine lv_aload_n hx hb dL_law_507 rfl (lv_at hl 0 rfl) ?_
          refine lv_iload_n hx hb dL_law_508 rfl (lv_at hl 3 rfl) ?_
          refine lv_iconst (v := 3) hx hb dL_law_509 (by decide) ?_
          refine lv_iadd hx hb dL_law_510 ?_
          rw [show ((nI (7 * k)) + 3 : Int32) = nI ((7 * k) + 3) from nI_add (7 * k) 3]
          refine va_sld hx hb hX hbl hbA hS (vp_in_nI (n := ((7 * k) + 3)) (N := L) (by omega) (by omega)) dL_law_511 ?_
          refine lv_aload_n hx hb dL_law_512 rfl (lv_at hl 0 rfl) ?_
          refine lv_iload_n hx hb dL_law_513 rfl (lv_at hl 3 rfl) ?_
          refine lv_iconst (v := 4) hx hb dL_law_514 (by decide) ?_
          refine lv_iadd hx hb dL_law_515 ?_
          rw [show ((nI (7 * k)) + 4 : Int32) = nI ((7 * k) + 4) from nI_add (7 * k) 4]
          refine va_sld hx hb hX hbl hbA hS (vp_in_nI (n := ((7 * k) + 4)) (N := L) (by omega) (by omega)) dL_law_516 ?_
          refine lv_aload_n hx hb dL_law_517 rfl (lv_at hl 0 rfl) ?_
          refine lv_iload_n hx hb dL_law_518 rfl (lv_at hl 3 rfl) ?_
          refine lv_iconst (v := 5) hx hb dL_law_519 (by decide) ?_
          refine lv_iadd hx hb dL_law_520 ?_
          rw [show ((nI (7 * k)) + 5 : Int32) = nI ((7 * k) + 5) from nI_add (7 * k) 5]
          refine va_sld hx hb hX hbl hbA hS (vp_in_nI (n := ((7 * k) + 5)) (N := L) (by omega) (by omega)) dL_law_521 ?_
          refine x_callV (n := 5) (As := [.int (xs (nI ((7 * k) + 1)).toNatClampNeg), .int (xs (nI ((7 * k) + 2)).toNatClampNeg), .int (xs (nI ((7 * k) + 3)).toNatClampNeg), .int (xs (nI ((7 * k) + 4)).toNatClampNeg), .int (xs (nI ((7 * k) + 5)).toNatClampNeg)]) (rest := []) F hP hD hS (M_feed l D cy sk sv w197 tg198 y td pc ac sc ln se plv (xs (nI ((7 * k) + 1)).toNatClampNeg) (xs (nI ((7 * k) + 2)).toNatClampNeg) (xs (nI ((7 * k) + 3)).toNatClampNeg) (xs (nI ((7 * k) + 4)).toNatClampNeg) (xs (nI ((7 * k) + 5)).toNatClampNeg) hIM202) gT_X11_feed rfl rfl (by decide +kernel) ⟨(Nat.le_of_ble_eq_true rfl), (Nat.le_of_ble_eq_true rfl)⟩ rfl hl.1 (Nat.le_of_ble_eq_true rfl) hyc204 rfl dL_law_522 rfl ⟨(show 250 + 2 * k + 0 + 0 ≤ 600000 from by omega), (show 12629 + 15 * k + 0 + 0 ≤ 7302250 from by omega)⟩ (fun v206 w207 hp205 H locs hP hD hS => ?_)
          obtain ⟨rfl, hk208, hIM210⟩ := hp205
          have hIX209 := IX.kept hIX201 hk208 (fun a h9 => Nat.not_le.mpr h9) (fun _ _ => rfl)
          obtain ⟨_, hxc211⟩ := hIX209.cell
          obtain ⟨_, hyc212⟩ := hIM210.cell
          refine W.eq (g2 := F0 m 525 ls [.int (feedA ln)]) rfl (W.widen (k := 250 + 2 * k + 0 + 0) (n := 12629 + 15 * k + 0 + 0) (Nat.le_refl _) (Nat.le_refl _) ?_)
          refine lv_pop hx hb dL_law_525 rfl ?_
          refine lv_goto (tgt := 956) hx hb dL_law_526 (by decide) ?_
          refine lv_iinc (v := nI (7 * (k + 1))) (lv' := [(3, .int (nI (7 * (k + 1)))), (0, .ref b), (1, .ref x), (2, .ref y)]) hx hb dL_law_956 hl (k := 3) rfl (lw_7 k) (by decide) rfl (fun ls hl => ?_)
          refine lv_goto (tgt := 18) hx hb dL_law_959 (by decide) ?_
          refine W.widen (k := 250 + 2 * (k + 1)) (n := 12629 + 15 * (k + 1)) (by omega) (by omega) ?_
          exact ih18 (k + 1) tg198 td pc ac sc (feedC ln) se plv w207 (by omega) (by omega) hIX209 hIM210 ls (lv_sub hl [1, 2, 3, 0] rfl) H locs hP hD hS
        by_cases c_213 : sw = 9
        · refine lv_tableIn (off := 496) (tgt := 529) hx hb dL_law_33 (by rw [c_213]; decide) (by rw [c_213]; decide) (by rw [c_213]; decide) (by decide) ?_
          refine lv_aload_n hx hb dL_law_529 rfl (lv_at hl 1 rfl) ?_
          refine lv_aload_n hx hb dL_law_530 rfl (lv_at hl 0 rfl) ?_
          refine lv_iload_n hx hb dL_law_531 rfl (lv_at hl 3 rfl) ?_
          refine lv_iconst (v := 1) hx hb dL_law_532 (by decide) ?_
          refine lv_iadd hx hb dL_law_533 ?_
          rw [show ((nI (7 * k)) + 1 : Int32) = nI ((7 * k) + 1) from nI_add (7 * k) 1]
          refine va_sld hx hb hX hbl hbA hS (vp_in_nI (n := ((7 * k) + 1)) (N := L) (by omega) (by omega)) dL_law_534 ?_
          refine x_callV (n := 1) (As := [.int (xs (nI ((7 * k) + 1)).toNatClampNeg)]) (rest := []) F hP hD hS (X_end l D cy sk sv w tg x td pc ac sc ln se plv (xs (nI ((7 * k) + 1)).toNatClampNeg) hIX) gT_X10_end rfl rfl (by decide +kernel) ⟨(Nat.le_of_ble_eq_true rfl), (Nat.le_of_ble_eq_true rfl)⟩ rfl hl.1 (Nat.le_of_ble_eq_true rfl) hxc rfl dL_law_535 rfl ⟨(show 250 + 2 * k + 0 ≤ 600000 from by omega), (show 12629 + 15 * k + 0 ≤ 7302250 from by omega)⟩ (fun v215 w216 hp214 H locs hP hD hS => ?_)
          obtain ⟨rfl, tg217, hg218, hk219, hIX220⟩ := hp214
          have hIM221 := IM.kept hIM hk219 (fun a h9 => Nat.not_lt.mpr h9) hg218
          obtain ⟨_, hxc222⟩ := hIX220.cell
          obtain ⟨_, hyc223⟩ := hIM221.cell
          refine W.eq (g2 := F0 m 538 ls [.int (endA ln (xs (nI ((7 * k) + 1)).toNatClampNeg))]) rfl (W.widen (k := 250 + 2 * k + 0) (n := 12629 + 15 * k + 0) (Nat.le_refl _) (Nat.le_refl _) ?_)
          refine lv_pop hx hb dL_law_538 rfl ?_
          refine lv_aload_n hx hb dL_law_539 rfl (lv_at hl 2 rfl) ?_
          refine lv_aload_n hx hb dL_law_540 rfl (lv_at hl 0 rfl) ?_
          refine lv_iload_n hx hb dL_law_541 rfl (lv_at hl 3 rfl) ?_
          refine lv_iconst (v := 1) hx hb dL_law_542 (by decide) ?_
          refine lv_iadd hx hb dL_law_543 ?_
          rw [show ((nI (7 * k)) + 1 : Int32) = nI ((7 * k) + 1) from nI_add (7 * k) 1]
          refine va_sld hx hb hX hbl hbA hS (vp_in_nI (n := ((7 * k) + 1)) (N := L) (by omega) (by omega)) dL_law_544 ?_
          refine x_callV (n := 1) (As := [.int (xs (nI ((7 * k) + 1)).toNatClampNeg)]) (rest := []) F hP hD hS (M_end l D cy sk sv w216 tg217 y td pc ac sc ln se plv (xs (nI ((7 * k) + 1)).toNatClampNeg) hIM221) gT_X11_end rfl rfl (by decide +kernel) ⟨(Nat.le_of_ble_eq_true rfl), (Nat.le_of_ble_eq_true rfl)⟩ rfl hl.1 (Nat.le_of_ble_eq_true rfl) hyc223 rfl dL_law_545 rfl ⟨(show 250 + 2 * k + 0 + 0 ≤ 600000 from by omega), (show 12629 + 15 * k + 0 + 0 ≤ 7302250 from by omega)⟩ (fun v225 w226 hp224 H locs hP hD hS => ?_)
          obtain ⟨rfl, hk227, hIM229⟩ := hp224
          have hIX228 := IX.kept hIX220 hk227 (fun a h9 => Nat.not_le.mpr h9) (fun _ _ => rfl)
          obtain ⟨_, hxc230⟩ := hIX228.cell
          obtain ⟨_, hyc231⟩ := hIM229.cell
          refine W.eq (g2 := F0 m 548 ls [.int (endA ln (xs (nI ((7 * k) + 1)).toNatClampNeg))]) rfl (W.widen (k := 250 + 2 * k + 0 + 0) (n := 12629 + 15 * k + 0 + 0) (Nat.le_refl _) (Nat.le_refl _) ?_)
          refine lv_pop hx hb dL_law_548 rfl ?_
          refine lv_goto (tgt := 956) hx hb dL_law_549 (by decide) ?_
          refine lv_iinc (v := nI (7 * (k + 1))) (lv' := [(3, .int (nI (7 * (k + 1)))), (0, .ref b), (1, .ref x), (2, .ref y)]) hx hb dL_law_956 hl (k := 3) rfl (lw_7 k) (by decide) rfl (fun ls hl => ?_)
          refine lv_goto (tgt := 18) hx hb dL_law_959 (by decide) ?_
          refine W.widen (k := 250 + 2 * (k + 1)) (n := 12629 + 15 * (k + 1)) (by omega) (by omega) ?_
          exact ih18 (k + 1) tg217 td pc ac sc (endC ln (xs (nI ((7 * k) + 1)).toNatClampNeg)) se plv w226 (by omega) (by omega) hIX228 hIM229 ls (lv_sub hl [1, 2, 3, 0] rfl) H locs hP hD hS
        by_cases c_232 : sw = 10
        · refine lv_tableIn (off := 519) (tgt := 552) hx hb dL_law_33 (by rw [c_232]; decide) (by rw [c_232]; decide) (by rw [c_232]; decide) (by decide) ?_
          refine lv_aload_n hx hb dL_law_552 rfl (lv_at hl 1 rfl) ?_
          refine lv_aload_n hx hb dL_law_553 rfl (lv_at hl 0 rfl) ?_
          refine lv_iload_n hx hb dL_law_554 rfl (lv_at hl 3 rfl) ?_
          refine lv_iconst (v := 1) hx hb dL_law_555 (by decide) ?_
          refine lv_iadd hx hb dL_law_556 ?_
          rw [show ((nI (7 * k)) + 1 : Int32) = nI ((7 * k) + 1) from nI_add (7 * k) 1]
          refine va_sld hx hb hX hbl hbA hS (vp_in_nI (n := ((7 * k) + 1)) (N := L) (by omega) (by omega)) dL_law_557 ?_
          refine x_callV (n := 1) (As := [.int (xs (nI ((7 * k) + 1)).toNatClampNeg)]) (rest := []) F hP hD hS (X_text l D cy sk sv w tg x td pc ac sc ln se plv (xs (nI ((7 * k) + 1)).toNatClampNeg) hIX) gT_X10_text rfl rfl (by decide +kernel) ⟨(Nat.le_of_ble_eq_true rfl), (Nat.le_of_ble_eq_true rfl)⟩ rfl hl.1 (Nat.le_of_ble_eq_true rfl) hxc rfl dL_law_558 rfl ⟨(show 250 + 2 * k + 0 ≤ 600000 from by omega), (show 12629 + 15 * k + 0 ≤ 7302250 from by omega)⟩ (fun v234 w235 hp233 H locs hP hD hS => ?_)
          obtain ⟨⟨r236, rfl⟩, tg237, hg238, hk239, hIX240⟩ := hp233
          have hIM241 := IM.kept hIM hk239 (fun a h9 => Nat.not_lt.mpr h9) hg238
          obtain ⟨_, hxc242⟩ := hIX240.cell
          obtain ⟨_, hyc243⟩ := hIM241.cell
          refine W.eq (g2 := F0 m 561 ls [.int r236]) rfl (W.widen (k := 250 + 2 * k + 0) (n := 12629 + 15 * k + 0) (Nat.le_refl _) (Nat.le_refl _) ?_)
          refine lv_pop hx hb dL_law_561 rfl ?_
          refine lv_aload_n hx hb dL_law_562 rfl (lv_at hl 2 rfl) ?_
          refine lv_aload_n hx hb dL_law_563 rfl (lv_at hl 0 rfl) ?_
          refine lv_iload_n hx hb dL_law_564 rfl (lv_at hl 3 rfl) ?_
          refine lv_iconst (v := 1) hx hb dL_law_565 (by decide) ?_
          refine lv_iadd hx hb dL_law_566 ?_
          rw [show ((nI (7 * k)) + 1 : Int32) = nI ((7 * k) + 1) from nI_add (7 * k) 1]
          refine va_sld hx hb hX hbl hbA hS (vp_in_nI (n := ((7 * k) + 1)) (N := L) (by omega) (by omega)) dL_law_567 ?_
          refine x_callV (n := 1) (As := [.int (xs (nI ((7 * k) + 1)).toNatClampNeg)]) (rest := []) F hP hD hS (M_text l D cy sk sv w235 tg237 y td pc ac sc ln se plv (xs (nI ((7 * k) + 1)).toNatClampNeg) hIM241) gT_X11_text rfl rfl (by decide +kernel) ⟨(Nat.le_of_ble_eq_true rfl), (Nat.le_of_ble_eq_true rfl)⟩ rfl hl.1 (Nat.le_of_ble_eq_true rfl) hyc243 rfl dL_law_568 rfl ⟨(show 250 + 2 * k + 0 + 0 ≤ 600000 from by omega), (show 12629 + 15 * k + 0 + 0 ≤ 7302250 from by omega)⟩ (fun v245 w246 hp244 H locs hP hD hS => ?_)
          obtain ⟨⟨r247, rfl⟩, hk248, hIM250⟩ := hp244
          have hIX249 := IX.kept hIX240 hk248 (fun a h9 => Nat.not_le.mpr h9) (fun _ _ => rfl)
          obtain ⟨_, hxc251⟩ := hIX249.cell
          obtain ⟨_, hyc252⟩ := hIM250.cell
          refine W.eq (g2 := F0 m 571 ls [.int r247]) rfl (W.widen (k := 250 + 2 * k + 0 + 0) (n := 12629 + 15 * k + 0 + 0) (Nat.le_refl _) (Nat.le_refl _) ?_)
          refine lv_pop hx hb dL_law_571 rfl ?_
          refine lv_goto (tgt := 956) hx hb dL_law_572 (by decide) ?_
          refine lv_iinc (v := nI (7 * (k + 1))) (lv' := [(3, .int (nI (7 * (k + 1)))), (0, .ref b), (1, .ref x), (2, .ref y)]) hx hb dL_law_956 hl (k := 3) rfl (lw_7 k) (by decide) rfl (fun ls hl => ?_)
          refine lv_goto (tgt := 18) hx hb dL_law_959 (by decide) ?_
          refine W.widen (k := 250 + 2 * (k + 1)) (n := 12629 + 15 * (k + 1)) (by omega) (by omega) ?_
          exact ih18 (k + 1) tg237 td pc ac sc (txtC ln (xs (nI ((7 * k) + 1)).toNatClampNeg)) se plv w246 (by omega) (by omega) hIX249 hIM250 ls (lv_sub hl [1, 2, 3, 0] rfl) H locs hP hD hS
        by_cases c_253 : sw = 11
        · refine lv_tableIn (off := 542) (tgt := 575) hx hb dL_law_33 (by rw [c_253]; decide) (by rw [c_253]; decide) (by rw [c_253]; decide) (by decide) ?_
          refine lv_aload_n hx hb dL_law_575 rfl (lv_at hl 1 rfl) ?_
          refine x_callV (n := 0) (As := []) (rest := []) F hP hD hS (X_law l D cy sk sv w tg x td pc ac sc ln se plv hIX) gT_X10_law rfl rfl (by decide +kernel) ⟨(Nat.le_of_ble_eq_true rfl), (Nat.le_of_ble_eq_true rfl)⟩ rfl hl.1 (Nat.le_of_ble_eq_true rfl) hxc rfl dL_law_576 rfl ⟨(show 250 + 2 * k + 0 ≤ 600000 from by omega), (show 12629 + 15 * k + 0 ≤ 7302250 from by omega)⟩ (fun v255 w256 hp254 H locs hP hD hS => ?_)
          obtain ⟨⟨r257, rfl⟩, tg258, hg259, hk260, hIX261⟩ := hp254
          have hIM262 := IM.kept hIM hk260 (fun a h9 => Nat.not_lt.mpr h9) hg259
          obtain ⟨_, hxc263⟩ := hIX261.cell
          obtain ⟨_, hyc264⟩ := hIM262.cell
          refine W.eq (g2 := F0 m 579 ls [.int r257]) rfl (W.widen (k := 250 + 2 * k + 0) (n := 12629 + 15 * k + 0) (Nat.le_refl _) (Nat.le_refl _) ?_)
          refine lv_pop hx hb dL_law_579 rfl ?_
          refine lv_aload_n hx hb dL_law_580 rfl (lv_at hl 2 rfl) ?_
          refine x_callV (n := 0) (As := []) (rest := []) F hP hD hS (M_law l D cy sk sv w256 tg258 y td pc ac sc ln se plv hIM262) gT_X11_law rfl rfl (by decide +kernel) ⟨(Nat.le_of_ble_eq_true rfl), (Nat.le_of_ble_eq_true rfl)⟩ rfl hl.1 (Nat.le_of_ble_eq_true rfl) hyc264 rfl dL_law_581 rfl ⟨(show 250 + 2 * k + 0 + 0 ≤ 600000 from by omega), (show 12629 + 15 * k + 0 + 0 ≤ 7302250 from by omega)⟩ (fun v266 w267 hp265 H locs hP hD hS => ?_)
          obtain ⟨⟨r268, rfl⟩, hk269, hIM271⟩ := hp265
          have hIX270 := IX.kept hIX261 hk269 (fun a h9 => Nat.not_le.mpr h9) (fun _ _ => rfl)
          obtain ⟨_, hxc272⟩ := hIX270.cell
          obtain ⟨_, hyc273⟩ := hIM271.cell
          refine W.eq (g2 := F0 m 584 ls [.int r268]) rfl (W.widen (k := 250 + 2 * k + 0 + 0) (n := 12629 + 15 * k + 0 + 0) (Nat.le_refl _) (Nat.le_refl _) ?_)
          refine lv_pop hx hb dL_law_584 rfl ?_
          refine lv_goto (tgt := 956) hx hb dL_law_585 (by decide) ?_
          refine lv_iinc (v := nI (7 * (k + 1))) (lv' := [(3, .int (nI (7 * (k + 1)))), (0, .ref b), (1, .ref x), (2, .ref y)]) hx hb dL_law_956 hl (k := 3) rfl (lw_7 k) (by decide) rfl (fun ls hl => ?_)
          refine lv_goto (tgt := 18) hx hb dL_law_959 (by decide) ?_
          refine W.widen (k := 250 + 2 * (k + 1)) (n := 12629 + 15 * (k + 1)) (by omega) (by omega) ?_
          exact ih18 (k + 1) tg258 td pc ac sc 0 se plv w267 (by omega) (by omega) hIX270 hIM271 ls (lv_sub hl [1, 2, 3, 0] rfl) H locs hP hD hS
        by_cases c_274 : sw = 12
        · refine lv_tableIn (off := 555) (tgt := 588) hx hb dL_law_33 (by rw [c_274]; decide) (by rw [c_274]; decide) (by rw [c_274]; decide) (by decide) ?_
          refine lv_aload_n hx hb dL_law_588 rfl (lv_at hl 1 rfl) ?_
          refine lv_aload_n hx hb dL_law_589 rfl (lv_at hl 0 rfl) ?_
          refine lv_iload_n hx hb dL_law_590 rfl (lv_at hl 3 rfl) ?_
          refine lv_iconst (v := 1) hx hb dL_law_591 (by decide) ?_
          refine lv_iadd hx hb dL_law_592 ?_
          rw [show ((nI (7 * k)) + 1 : Int32) = nI ((7 * k) + 1) from nI_add (7 * k) 1]
          refine va_sld hx hb hX hbl hbA hS (vp_in_nI (n := ((7 * k) + 1)) (N := L) (by omega) (by omega)) dL_law_593 ?_
          refine lv_aload_n hx hb dL_law_594 rfl (lv_at hl 0 rfl) ?_
          refine lv_iload_n hx hb dL_law_595 rfl (lv_at hl 3 rfl) ?_
          refine lv_iconst (v := 2) hx hb dL_law_596 (by decide) ?_
          refine lv_iadd hx hb dL_law_597 ?_
          rw [show ((nI (7 * k)) + 2 : Int32) = nI ((7 * k) + 2) from nI_add (7 * k) 2]
          refine va_sld hx hb hX hbl hbA hS (vp_in_nI (n := ((7 * k) + 2)) (N := L) (by omega) (by omega)) dL_law_598 ?_
          refine lv_aload_n hx hb dL_law_599 rfl (lv_at hl 0 rfl) ?_
          refine lv_iload_n hx hb dL_law_600 rfl (lv_at hl 3 rfl) ?_
          refine lv_iconst (v := 3) hx hb dL_law_601 (by decide) ?_
          refine lv_iadd hx hb dL_law_602 ?_
          rw [show ((nI (7 * k)) + 3 : Int32) = nI ((7 * k) + 3) from nI_add (7 * k) 3]
          refine va_sld hx hb hX hbl hbA hS (vp_in_nI (n := ((7 * k) + 3)) (N := L) (by omega) (by omega)) dL_law_603 ?_
          refine lv_aload_n hx hb dL_law_604 rfl (lv_at hl 0 rfl) ?_
          refine lv_iload_n hx hb dL_law_605 rfl (lv_at hl 3 rfl) ?_
          refine lv_iconst (v := 4) hx hb dL_law_606 (by decide) ?_
          refine lv_iadd hx hb dL_law_607 ?_
          rw [show ((nI (7 * k)) + 4 : Int32) = nI ((7 * k) + 4) from nI_add (7 * k) 4]
          refine va_sld hx hb hX hbl hbA hS (vp_in_nI (n := ((7 * k) + 4)) (N := L) (by omega) (by omega)) dL_law_608 ?_
          refine lv_aload_n hx hb dL_law_609 rfl (lv_at hl 0 rfl) ?_
          refine lv_iload_n hx hb dL_law_610 rfl (lv_at hl 3 rfl) ?_
          refine lv_iconst (v := 5) hx hb dL_law_611 (by decide) ?_
          refine lv_iadd hx hb dL_law_612 ?_
          rw [show ((nI (7 * k)) + 5 : Int32) = nI ((7 * k) + 5) from nI_add (7 * k) 5]
          refine va_sld hx hb hX hbl hbA hS (vp_in_nI (n := ((7 * k) + 5)) (N := L) (by omega) (by omega)) dL_law_613 ?_
          refine lv_aload_n hx hb dL_law_614 rfl (lv_at hl 0 rfl) ?_
          refine lv_iload_n hx hb dL_law_615 rfl (lv_at hl 3 rfl) ?_
          refine lv_bipush (v := 6) hx hb dL_law_616 (by decide) ?_
          refine lv_iadd hx hb dL_law_618 ?_
          rw [show ((nI (7 * k)) + 6 : Int32) = nI ((7 * k) + 6) from nI_add (7 * k) 6]
          refine va_sld hx hb hX hbl hbA hS (vp_in_nI (n := ((7 * k) + 6)) (N := L) (by omega) (by omega)) dL_law_619 ?_
          refine lv_if_eq (tgt := 627) hx hb dL_law_620 (by decide) (fun c_275 => ?_) (fun c_275 => ?_)
          · refine lv_iconst (v := 0) hx hb dL_law_627 (by decide) ?_
            refine x_callV (n := 6) (As := [.int (xs (nI ((7 * k) + 1)).toNatClampNeg), .int (xs (nI ((7 * k) + 2)).toNatClampNeg), .int (xs (nI ((7 * k) + 3)).toNatClampNeg), .int (xs (nI ((7 * k) + 4)).toNatClampNeg), .int (xs (nI ((7 * k) + 5)).toNatClampNeg), .int 0]) (rest := []) F hP hD hS (X_show l D cy sk sv w tg x td pc ac sc ln se plv (xs (nI ((7 * k) + 1)).toNatClampNeg) (xs (nI ((7 * k) + 2)).toNatClampNeg) (xs (nI ((7 * k) + 3)).toNatClampNeg) (xs (nI ((7 * k) + 4)).toNatClampNeg) (xs (nI ((7 * k) + 5)).toNatClampNeg) 0 hIX) gT_X10_show rfl rfl (by decide +kernel) ⟨(Nat.le_of_ble_eq_true rfl), (Nat.le_of_ble_eq_true rfl)⟩ rfl hl.1 (Nat.le_of_ble_eq_true rfl) hxc rfl dL_law_628 rfl ⟨(show 250 + 2 * k + 1 ≤ 600000 from by omega), (show 12629 + 15 * k + 10 ≤ 7302250 from by omega)⟩ (fun v277 w278 hp276 H locs hP hD hS => ?_)
            obtain ⟨⟨r279, rfl⟩, tg280, hg281, hk282, hIX283⟩ := hp276
            have hIM284 := IM.kept hIM hk282 (fun a h9 => Nat.not_lt.mpr h9) hg281
            obtain ⟨_, hxc285⟩ := hIX283.cell
            obtain ⟨_, hyc286⟩ := hIM284.cell
            refine W.eq (g2 := F0 m 631 ls [.int r279]) rfl (W.widen (k := 250 + 2 * k + 1) (n := 12629 + 15 * k + 10) (Nat.le_refl _) (Nat.le_refl _) ?_)
            refine lv_pop hx hb dL_law_631 rfl ?_
            refine lv_aload_n hx hb dL_law_632 rfl (lv_at hl 2 rfl) ?_
            refine lv_aload_n hx hb dL_law_633 rfl (lv_at hl 0 rfl) ?_
            refine lv_iload_n hx hb dL_law_634 rfl (lv_at hl 3 rfl) ?_
            refine lv_iconst (v := 1) hx hb dL_law_635 (by decide) ?_
            refine lv_iadd hx hb dL_law_636 ?_
            rw [show ((nI (7 * k)) + 1 : Int32) = nI ((7 * k) + 1) from nI_add (7 * k) 1]
            refine va_sld hx hb hX hbl hbA hS (vp_in_nI (n := ((7 * k) + 1)) (N := L) (by omega) (by omega)) dL_law_637 ?_
            refine lv_aload_n hx hb dL_law_638 rfl (lv_at hl 0 rfl) ?_
            refine lv_iload_n hx hb dL_law_639 rfl (lv_at hl 3 rfl) ?_
            refine lv_iconst (v := 2) hx hb dL_law_640 (by decide) ?_
            refine lv_iadd hx hb dL_law_641 ?_
            rw [show ((nI (7 * k)) + 2 : Int32) = nI ((7 * k) + 2) from nI_add (7 * k) 2]
            refine va_sld hx hb hX hbl hbA hS (vp_in_nI (n := ((7 * k) + 2)) (N := L) (by omega) (by omega)) dL_law_642 ?_
            refine lv_aload_n hx hb dL_law_643 rfl (lv_at hl 0 rfl) ?_
            refine lv_iload_n hx hb dL_law_644 rfl (lv_at hl 3 rfl) ?_
            refine lv_iconst (v := 3) hx hb dL_law_645 (by decide) ?_
            refine lv_iadd hx hb dL_law_646 ?_
            rw [show ((nI (7 * k)) + 3 : Int32) = nI ((7 * k) + 3) from nI_add (7 * k) 3]
            refine va_sld hx hb hX hbl hbA hS (vp_in_nI (n := ((7 * k) + 3)) (N := L) (by omega) (by omega)) dL_law_647 ?_
            refine lv_aload_n hx hb dL_law_648 rfl (lv_at hl 0 rfl) ?_
            refine lv_iload_n hx hb dL_law_649 rfl (lv_at hl 3 rfl) ?_
            refine lv_iconst (v := 4) hx hb dL_law_650 (by decide) ?_
            refine lv_iadd hx hb dL_law_651 ?_
            rw [show ((nI (7 * k)) + 4 : Int32) = nI ((7 * k) + 4) from nI_add (7 * k) 4]
            refine va_sld hx hb hX hbl hbA hS (vp_in_nI (n := ((7 * k) + 4)) (N := L) (by omega) (by omega)) dL_law_652 ?_
            refine lv_aload_n hx hb dL_law_653 rfl (lv_at hl 0 rfl) ?_
            refine lv_iload_n hx hb dL_law_654 rfl (lv_at hl 3 rfl) ?_
            refine lv_iconst (v := 5) hx hb dL_law_655 (by decide) ?_
            refine lv_iadd hx hb dL_law_656 ?_
            rw [show ((nI (7 * k)) + 5 : Int32) = nI ((7 * k) + 5) from nI_add (7 * k) 5]
            refine va_sld hx hb hX hbl hbA hS (vp_in_nI (n := ((7 * k) + 5)) (N := L) (by omega) (by omega)) dL_law_657 ?_
            refine lv_aload_n hx hb dL_law_658 rfl (lv_at hl 0 rfl) ?_
            refine lv_iload_n hx hb dL_law_659 rfl (lv_at hl 3 rfl) ?_
            refine lv_bipush (v := 6) hx hb dL_law_660 (by decide) ?_
            refine lv_iadd hx hb dL_law_662 ?_
            rw [show ((nI (7 * k)) + 6 : Int32) = nI ((7 * k) + 6) from nI_add (7 * k) 6]
            refine va_sld hx hb hX hbl hbA hS (vp_in_nI (n := ((7 * k) + 6)) (N := L) (by omega) (by omega)) dL_law_663 ?_
            refine lv_if_eq (tgt := 671) hx hb dL_law_664 (by decide) (fun c_287 => ?_) (fun c_287 => absurd c_275 c_287)
            refine lv_iconst (v := 0) hx hb dL_law_671 (by decide) ?_
            refine x_callV (n := 6) (As := [.int (xs (nI ((7 * k) + 1)).toNatClampNeg), .int (xs (nI ((7 * k) + 2)).toNatClampNeg), .int (xs (nI ((7 * k) + 3)).toNatClampNeg), .int (xs (nI ((7 * k) + 4)).toNatClampNeg), .int (xs (nI ((7 * k) + 5)).toNatClampNeg), .int 0]) (rest := []) F hP hD hS (M_show l D cy sk sv w278 tg280 y td pc ac sc ln se plv (xs (nI ((7 * k) + 1)).toNatClampNeg) (xs (nI ((7 * k) + 2)).toNatClampNeg) (xs (nI ((7 * k) + 3)).toNatClampNeg) (xs (nI ((7 * k) + 4)).toNatClampNeg) (xs (nI ((7 * k) + 5)).toNatClampNeg) 0 hIM284) gT_X11_show rfl rfl (by decide +kernel) ⟨(Nat.le_of_ble_eq_true rfl), (Nat.le_of_ble_eq_true rfl)⟩ rfl hl.1 (Nat.le_of_ble_eq_true rfl) hyc286 rfl dL_law_672 rfl ⟨(show 250 + 2 * k + 1 + 0 ≤ 600000 from by omega), (show 12629 + 15 * k + 10 + 0 ≤ 7302250 from by omega)⟩ (fun v289 w290 hp288 H locs hP hD hS => ?_)
            obtain ⟨⟨r291, rfl⟩, hk292, hIM294⟩ := hp288
            have hIX293 := IX.kept hIX283 hk292 (fun a h9 => Nat.not_le.mpr h9) (fun _ _ => rfl)
            obtain ⟨_, hxc295⟩ := hIX293.cell
            obtain ⟨_, hyc296⟩ := hIM294.cell
            refine W.eq (g2 := F0 m 675 ls [.int r291]) rfl (W.widen (k := 250 + 2 * k + 1 + 0) (n := 12629 + 15 * k + 10 + 0) (Nat.le_refl _) (Nat.le_refl _) ?_)
            refine lv_pop hx hb dL_law_675 rfl ?_
            refine lv_goto (tgt := 956) hx hb dL_law_676 (by decide) ?_
            refine lv_iinc (v := nI (7 * (k + 1))) (lv' := [(3, .int (nI (7 * (k + 1)))), (0, .ref b), (1, .ref x), (2, .ref y)]) hx hb dL_law_956 hl (k := 3) rfl (lw_7 k) (by decide) rfl (fun ls hl => ?_)
            refine lv_goto (tgt := 18) hx hb dL_law_959 (by decide) ?_
            refine W.widen (k := 250 + 2 * (k + 1)) (n := 12629 + 15 * (k + 1)) (by omega) (by omega) ?_
            exact ih18 (k + 1) tg280 td pc ac sc ln se plv w290 (by omega) (by omega) hIX293 hIM294 ls (lv_sub hl [1, 2, 3, 0] rfl) H locs hP hD hS
          · refine lv_iconst (v := 1) hx hb dL_law_623 (by decide) ?_
            refine lv_goto (tgt := 628) hx hb dL_law_624 (by decide) ?_
            refine x_callV (n := 6) (As := [.int (xs (nI ((7 * k) + 1)).toNatClampNeg), .int (xs (nI ((7 * k) + 2)).toNatClampNeg), .int (xs (nI ((7 * k) + 3)).toNatClampNeg), .int (xs (nI ((7 * k) + 4)).toNatClampNeg), .int (xs (nI ((7 * k) + 5)).toNatClampNeg), .int 1]) (rest := []) F hP hD hS (X_show l D cy sk sv w tg x td pc ac sc ln se plv (xs (nI ((7 * k) + 1)).toNatClampNeg) (xs (nI ((7 * k) + 2)).toNatClampNeg) (xs (nI ((7 * k) + 3)).toNatClampNeg) (xs (nI ((7 * k) + 4)).toNatClampNeg) (xs (nI ((7 * k) + 5)).toNatClampNeg) 1 hIX) gT_X10_show rfl rfl (by decide +kernel) ⟨(Nat.le_of_ble_eq_true rfl), (Nat.le_of_ble_eq_true rfl)⟩ rfl hl.1 (Nat.le_of_ble_eq_true rfl) hxc rfl dL_law_628 rfl ⟨(show 250 + 2 * k + 1 ≤ 600000 from by omega), (show 12629 + 15 * k + 10 ≤ 7302250 from by omega)⟩ (fun v298 w299 hp297 H locs hP hD hS => ?_)
            obtain ⟨⟨r300, rfl⟩, tg301, hg302, hk303, hIX304⟩ := hp297
            have hIM305 := IM.kept hIM hk303 (fun a h9 => Nat.not_lt.mpr h9) hg302
            obtain ⟨_, hxc306⟩ := hIX304.cell
            obtain ⟨_, hyc307⟩ := hIM305.cell
            refine W.eq (g2 := F0 m 631 ls [.int r300]) rfl (W.widen (k := 250 + 2 * k + 1) (n := 12629 + 15 * k + 10) (Nat.le_refl _) (Nat.le_refl _) ?_)
            refine lv_pop hx hb dL_law_631 rfl ?_
            refine lv_aload_n hx hb dL_law_632 rfl (lv_at hl 2 rfl) ?_
            refine lv_aload_n hx hb dL_law_633 rfl (lv_at hl 0 rfl) ?_
            refine lv_iload_n hx hb dL_law_634 rfl (lv_at hl 3 rfl) ?_
            refine lv_iconst (v := 1) hx hb dL_law_635 (by decide) ?_
            refine lv_iadd hx hb dL_law_636 ?_
            rw [show ((nI (7 * k)) + 1 : Int32) = nI ((7 * k) + 1) from nI_add (7 * k) 1]
            refine va_sld hx hb hX hbl hbA hS (vp_in_nI (n := ((7 * k) + 1)) (N := L) (by omega) (by omega)) dL_law_637 ?_
            refine lv_aload_n hx hb dL_law_638 rfl (lv_at hl 0 rfl) ?_
            refine lv_iload_n hx hb dL_law_639 rfl (lv_at hl 3 rfl) ?_
            refine lv_iconst (v := 2) hx hb dL_law_640 (by decide) ?_
            refine lv_iadd hx hb dL_law_641 ?_
            rw [show ((nI (7 * k)) + 2 : Int32) = nI ((7 * k) + 2) from nI_add (7 * k) 2]
            refine va_sld hx hb hX hbl hbA hS (vp_in_nI (n := ((7 * k) + 2)) (N := L) (by omega) (by omega)) dL_law_642 ?_
            refine lv_aload_n hx hb dL_law_643 rfl (lv_at hl 0 rfl) ?_
            refine lv_iload_n hx hb dL_law_644 rfl (lv_at hl 3 rfl) ?_
            refine lv_iconst (v := 3) hx hb dL_law_645 (by decide) ?_
            refine lv_iadd hx hb dL_law_646 ?_
            rw [show ((nI (7 * k)) + 3 : Int32) = nI ((7 * k) + 3) from nI_add (7 * k) 3]
            refine va_sld hx hb hX hbl hbA hS (vp_in_nI (n := ((7 * k) + 3)) (N := L) (by omega) (by omega)) dL_law_647 ?_
            refine lv_aload_n hx hb dL_law_648 rfl (lv_at hl 0 rfl) ?_
            refine lv_iload_n hx hb dL_law_649 rfl (lv_at hl 3 rfl) ?_
            refine lv_iconst (v := 4) hx hb dL_law_650 (by decide) ?_
            refine lv_iadd hx hb dL_law_651 ?_
            rw [show ((nI (7 * k)) + 4 : Int32) = nI ((7 * k) + 4) from nI_add (7 * k) 4]
            refine va_sld hx hb hX hbl hbA hS (vp_in_nI (n := ((7 * k) + 4)) (N := L) (by omega) (by omega)) dL_law_652 ?_
            refine lv_aload_n hx hb dL_law_653 rfl (lv_at hl 0 rfl) ?_
            refine lv_iload_n hx hb dL_law_654 rfl (lv_at hl 3 rfl) ?_
            refine lv_iconst (v := 5) hx hb dL_law_655 (by decide) ?_
            refine lv_iadd hx hb dL_law_656 ?_
            rw [show ((nI (7 * k)) + 5 : Int32) = nI ((7 * k) + 5) from nI_add (7 * k) 5]
            refine va_sld hx hb hX hbl hbA hS (vp_in_nI (n := ((7 * k) + 5)) (N := L) (by omega) (by omega)) dL_law_657 ?_
            refine lv_aload_n hx hb dL_law_658 rfl (lv_at hl 0 rfl) ?_
            refine lv_iload_n hx hb dL_law_659 rfl (lv_at hl 3 rfl) ?_
            refine lv_bipush (v := 6) hx hb dL_law_660 (by decide) ?_
            refine lv_iadd hx hb dL_law_662 ?_
            rw [show ((nI (7 * k)) + 6 : Int32) = nI ((7 * k) + 6) from nI_add (7 * k) 6]
            refine va_sld hx hb hX hbl hbA hS (vp_in_nI (n := ((7 * k) + 6)) (N := L) (by omega) (by omega)) dL_law_663 ?_
            refine lv_if_eq (tgt := 671) hx hb dL_law_664 (by decide) (fun c_308 => absurd c_308 c_275) (fun c_308 => ?_)
            refine lv_iconst (v := 1) hx hb dL_law_667 (by decide) ?_
            refine lv_goto (tgt := 672) hx hb dL_law_668 (by decide) ?_
            refine x_callV (n := 6) (As := [.int (xs (nI ((7 * k) + 1)).toNatClampNeg), .int (xs (nI ((7 * k) + 2)).toNatClampNeg), .int (xs (nI ((7 * k) + 3)).toNatClampNeg), .int (xs (nI ((7 * k) + 4)).toNatClampNeg), .int (xs (nI ((7 * k) + 5)).toNatClampNeg), .int 1]) (rest := []) F hP hD hS (M_show l D cy sk sv w299 tg301 y td pc ac sc ln se plv (xs (nI ((7 * k) + 1)).toNatClampNeg) (xs (nI ((7 * k) + 2)).toNatClampNeg) (xs (nI ((7 * k) + 3)).toNatClampNeg) (xs (nI ((7 * k) + 4)).toNatClampNeg) (xs (nI ((7 * k) + 5)).toNatClampNeg) 1 hIM305) gT_X11_show rfl rfl (by decide +kernel) ⟨(Nat.le_of_ble_eq_true rfl), (Nat.le_of_ble_eq_true rfl)⟩ rfl hl.1 (Nat.le_of_ble_eq_true rfl) hyc307 rfl dL_law_672 rfl ⟨(show 250 + 2 * k + 1 + 0 ≤ 600000 from by omega), (show 12629 + 15 * k + 10 + 0 ≤ 7302250 from by omega)⟩ (fun v310 w311 hp309 H locs hP hD hS => ?_)
            obtain ⟨⟨r312, rfl⟩, hk313, hIM315⟩ := hp309
            have hIX314 := IX.kept hIX304 hk313 (fun a h9 => Nat.not_le.mpr h9) (fun _ _ => rfl)
            obtain ⟨_, hxc316⟩ := hIX314.cell
            obtain ⟨_, hyc317⟩ := hIM315.cell
            refine W.eq (g2 := F0 m 675 ls [.int r312]) rfl (W.widen (k := 250 + 2 * k + 1 + 0) (n := 12629 + 15 * k + 10 + 0) (Nat.le_refl _) (Nat.le_refl _) ?_)
            refine lv_pop hx hb dL_law_675 rfl ?_
            refine lv_goto (tgt := 956) hx hb dL_law_676 (by decide) ?_
            refine lv_iinc (v := nI (7 * (k + 1))) (lv' := [(3, .int (nI (7 * (k + 1)))), (0, .ref b), (1, .ref x), (2, .ref y)]) hx hb dL_law_956 hl (k := 3) rfl (lw_7 k) (by decide) rfl (fun ls hl => ?_)
            refine lv_goto (tgt := 18) hx hb dL_law_959 (by decide) ?_
            refine W.widen (k := 250 + 2 * (k + 1)) (n := 12629 + 15 * (k + 1)) (by omega) (by omega) ?_
            exact ih18 (k + 1) tg301 td pc ac sc ln se plv w311 (by omega) (by omega) hIX314 hIM315 ls (lv_sub hl [1, 2, 3, 0] rfl) H locs hP hD hS
        by_cases c_318 : sw = 13
        · refine lv_tableIn (off := 646) (tgt := 679) hx hb dL_law_33 (by rw [c_318]; decide) (by rw [c_318]; decide) (by rw [c_318]; decide) (by decide) ?_
          refine lv_aload_n hx hb dL_law_679 rfl (lv_at hl 1 rfl) ?_
          refine lv_aload_n hx hb dL_law_680 rfl (lv_at hl 0 rfl) ?_
          refine lv_iload_n hx hb dL_law_681 rfl (lv_at hl 3 rfl) ?_
          refine lv_iconst (v := 1) hx hb dL_law_682 (by decide) ?_
          refine lv_iadd hx hb dL_law_683 ?_
          rw [show ((nI (7 * k)) + 1 : Int32) = nI ((7 * k) + 1) from nI_add (7 * k) 1]
          refine va_sld hx hb hX hbl hbA hS (vp_in_nI (n := ((7 * k) + 1)) (N := L) (by omega) (by omega)) dL_law_684 ?_
          refine lv_aload_n hx hb dL_law_685 rfl (lv_at hl 0 rfl) ?_
          refine lv_iload_n hx hb dL_law_686 rfl (lv_at hl 3 rfl) ?_
          refine lv_iconst (v := 2) hx hb dL_law_687 (by decide) ?_
          refine lv_iadd hx hb dL_law_688 ?_
          rw [show ((nI (7 * k)) + 2 : Int32) = nI ((7 * k) + 2) from nI_add (7 * k) 2]
          refine va_sld hx hb hX hbl hbA hS (vp_in_nI (n := ((7 * k) + 2)) (N := L) (by omega) (by omega)) dL_law_689 ?_
          refine x_callV (n := 2) (As := [.int (xs (nI ((7 * k) + 1)).toNatClampNeg), .int (xs (nI ((7 * k) + 2)).toNatClampNeg)]) (rest := []) F hP hD hS (X_send l D cy sk sv w tg x td pc ac sc ln se plv (xs (nI ((7 * k) + 1)).toNatClampNeg) (xs (nI ((7 * k) + 2)).toNatClampNeg) hIX) gT_X10_send rfl rfl (by decide +kernel) ⟨(Nat.le_of_ble_eq_true rfl), (Nat.le_of_ble_eq_true rfl)⟩ rfl hl.1 (Nat.le_of_ble_eq_true rfl) hxc rfl dL_law_690 rfl ⟨(show 250 + 2 * k + 0 ≤ 600000 from by omega), (show 12629 + 15 * k + 0 ≤ 7302250 from by omega)⟩ (fun v320 w321 hp319 H locs hP hD hS => ?_)
          obtain ⟨rfl, tg322, hg323, hk324, hIX325⟩ := hp319
          have hIM326 := IM.kept hIM hk324 (fun a h9 => Nat.not_lt.mpr h9) hg323
          obtain ⟨_, hxc327⟩ := hIX325.cell
          obtain ⟨_, hyc328⟩ := hIM326.cell
          refine W.eq (g2 := F0 m 693 ls [.int (sndA se (xs (nI ((7 * k) + 1)).toNatClampNeg) (xs (nI ((7 * k) + 2)).toNatClampNeg))]) rfl (W.widen (k := 250 + 2 * k + 0) (n := 12629 + 15 * k + 0) (Nat.le_refl _) (Nat.le_refl _) ?_)
          refine lv_pop hx hb dL_law_693 rfl ?_
          refine lv_aload_n hx hb dL_law_694 rfl (lv_at hl 2 rfl) ?_
          refine lv_aload_n hx hb dL_law_695 rfl (lv_at hl 0 rfl) ?_
          refine lv_iload_n hx hb dL_law_696 rfl (lv_at hl 3 rfl) ?_
          refine lv_iconst (v := 1) hx hb dL_law_697 (by decide) ?_
          refine lv_iadd hx hb dL_law_698 ?_
          rw [show ((nI (7 * k)) + 1 : Int32) = nI ((7 * k) + 1) from nI_add (7 * k) 1]
          refine va_sld hx hb hX hbl hbA hS (vp_in_nI (n := ((7 * k) + 1)) (N := L) (by omega) (by omega)) dL_law_699 ?_
          refine lv_aload_n hx hb dL_law_700 rfl (lv_at hl 0 rfl) ?_
          refine lv_iload_n hx hb dL_law_701 rfl (lv_at hl 3 rfl) ?_
          refine lv_iconst (v := 2) hx hb dL_law_702 (by decide) ?_
          refine lv_iadd hx hb dL_law_703 ?_
          rw [show ((nI (7 * k)) + 2 : Int32) = nI ((7 * k) + 2) from nI_add (7 * k) 2]
          refine va_sld hx hb hX hbl hbA hS (vp_in_nI (n := ((7 * k) + 2)) (N := L) (by omega) (by omega)) dL_law_704 ?_
          refine x_callV (n := 2) (As := [.int (xs (nI ((7 * k) + 1)).toNatClampNeg), .int (xs (nI ((7 * k) + 2)).toNatClampNeg)]) (rest := []) F hP hD hS (M_send l D cy sk sv w321 tg322 y td pc ac sc ln se plv (xs (nI ((7 * k) + 1)).toNatClampNeg) (xs (nI ((7 * k) + 2)).toNatClampNeg) hIM326) gT_X11_send rfl rfl (by decide +kernel) ⟨(Nat.le_of_ble_eq_true rfl), (Nat.le_of_ble_eq_true rfl)⟩ rfl hl.1 (Nat.le_of_ble_eq_true rfl) hyc328 rfl dL_law_705 rfl ⟨(show 250 + 2 * k + 0 + 0 ≤ 600000 from by omega), (show 12629 + 15 * k + 0 + 0 ≤ 7302250 from by omega)⟩ (fun v330 w331 hp329 H locs hP hD hS => ?_)
          obtain ⟨rfl, hk332, hIM334⟩ := hp329
          have hIX333 := IX.kept hIX325 hk332 (fun a h9 => Nat.not_le.mpr h9) (fun _ _ => rfl)
          obtain ⟨_, hxc335⟩ := hIX333.cell
          obtain ⟨_, hyc336⟩ := hIM334.cell
          refine W.eq (g2 := F0 m 708 ls [.int (sndA se (xs (nI ((7 * k) + 1)).toNatClampNeg) (xs (nI ((7 * k) + 2)).toNatClampNeg))]) rfl (W.widen (k := 250 + 2 * k + 0 + 0) (n := 12629 + 15 * k + 0 + 0) (Nat.le_refl _) (Nat.le_refl _) ?_)
          refine lv_pop hx hb dL_law_708 rfl ?_
          refine lv_goto (tgt := 956) hx hb dL_law_709 (by decide) ?_
          refine lv_iinc (v := nI (7 * (k + 1))) (lv' := [(3, .int (nI (7 * (k + 1)))), (0, .ref b), (1, .ref x), (2, .ref y)]) hx hb dL_law_956 hl (k := 3) rfl (lw_7 k) (by decide) rfl (fun ls hl => ?_)
          refine lv_goto (tgt := 18) hx hb dL_law_959 (by decide) ?_
          refine W.widen (k := 250 + 2 * (k + 1)) (n := 12629 + 15 * (k + 1)) (by omega) (by omega) ?_
          exact ih18 (k + 1) tg322 td pc ac sc ln (sndS se (xs (nI ((7 * k) + 1)).toNatClampNeg) (xs (nI ((7 * k) + 2)).toNatClampNeg)) plv w331 (by omega) (by omega) hIX333 hIM334 ls (lv_sub hl [1, 2, 3, 0] rfl) H locs hP hD hS
        by_cases c_337 : sw = 14
        · refine lv_tableIn (off := 679) (tgt := 712) hx hb dL_law_33 (by rw [c_337]; decide) (by rw [c_337]; decide) (by rw [c_337]; decide) (by decide) ?_
          refine lv_aload_n hx hb dL_law_712 rfl (lv_at hl 1 rfl) ?_
          refine lv_aload_n hx hb dL_law_713 rfl (lv_at hl 0 rfl) ?_
          refine lv_iload_n hx hb dL_law_714 rfl (lv_at hl 3 rfl) ?_
          refine lv_iconst (v := 1) hx hb dL_law_715 (by decide) ?_
          refine lv_iadd hx hb dL_law_716 ?_
          rw [show ((nI (7 * k)) + 1 : Int32) = nI ((7 * k) + 1) from nI_add (7 * k) 1]
          refine va_sld hx hb hX hbl hbA hS (vp_in_nI (n := ((7 * k) + 1)) (N := L) (by omega) (by omega)) dL_law_717 ?_
          refine lv_aload_n hx hb dL_law_718 rfl (lv_at hl 0 rfl) ?_
          refine lv_iload_n hx hb dL_law_719 rfl (lv_at hl 3 rfl) ?_
          refine lv_iconst (v := 2) hx hb dL_law_720 (by decide) ?_
          refine lv_iadd hx hb dL_law_721 ?_
          rw [show ((nI (7 * k)) + 2 : Int32) = nI ((7 * k) + 2) from nI_add (7 * k) 2]
          refine va_sld hx hb hX hbl hbA hS (vp_in_nI (n := ((7 * k) + 2)) (N := L) (by omega) (by omega)) dL_law_722 ?_
          refine x_callV (n := 2) (As := [.int (xs (nI ((7 * k) + 1)).toNatClampNeg), .int (xs (nI ((7 * k) + 2)).toNatClampNeg)]) (rest := []) F hP hD hS (X_shown l D cy sk sv w tg x td pc ac sc ln se plv (xs (nI ((7 * k) + 1)).toNatClampNeg) (xs (nI ((7 * k) + 2)).toNatClampNeg) hIX) gT_X10_shown rfl rfl (by decide +kernel) ⟨(Nat.le_of_ble_eq_true rfl), (Nat.le_of_ble_eq_true rfl)⟩ rfl hl.1 (Nat.le_of_ble_eq_true rfl) hxc rfl dL_law_723 rfl ⟨(show 250 + 2 * k + 0 ≤ 600000 from by omega), (show 12629 + 15 * k + 0 ≤ 7302250 from by omega)⟩ (fun v339 w340 hp338 H locs hP hD hS => ?_)
          obtain ⟨⟨r341, rfl⟩, tg342, hg343, hk344, hIX345⟩ := hp338
          have hIM346 := IM.kept hIM hk344 (fun a h9 => Nat.not_lt.mpr h9) hg343
          obtain ⟨_, hxc347⟩ := hIX345.cell
          obtain ⟨_, hyc348⟩ := hIM346.cell
          refine W.eq (g2 := F0 m 726 ls [.int r341]) rfl (W.widen (k := 250 + 2 * k + 0) (n := 12629 + 15 * k + 0) (Nat.le_refl _) (Nat.le_refl _) ?_)
          refine lv_pop hx hb dL_law_726 rfl ?_
          refine lv_aload_n hx hb dL_law_727 rfl (lv_at hl 2 rfl) ?_
          refine lv_aload_n hx hb dL_law_728 rfl (lv_at hl 0 rfl) ?_
          refine lv_iload_n hx hb dL_law_729 rfl (lv_at hl 3 rfl) ?_
          refine lv_iconst (v := 1) hx hb dL_law_730 (by decide) ?_
          refine lv_iadd hx hb dL_law_731 ?_
          rw [show ((nI (7 * k)) + 1 : Int32) = nI ((7 * k) + 1) from nI_add (7 * k) 1]
          refine va_sld hx hb hX hbl hbA hS (vp_in_nI (n := ((7 * k) + 1)) (N := L) (by omega) (by omega)) dL_law_732 ?_
          refine lv_aload_n hx hb dL_law_733 rfl (lv_at hl 0 rfl) ?_
          refine lv_iload_n hx hb dL_law_734 rfl (lv_at hl 3 rfl) ?_
          refine lv_iconst (v := 2) hx hb dL_law_735 (by decide) ?_
          refine lv_iadd hx hb dL_law_736 ?_
          rw [show ((nI (7 * k)) + 2 : Int32) = nI ((7 * k) + 2) from nI_add (7 * k) 2]
          refine va_sld hx hb hX hbl hbA hS (vp_in_nI (n := ((7 * k) + 2)) (N := L) (by omega) (by omega)) dL_law_737 ?_
          refine x_callV (n := 2) (As := [.int (xs (nI ((7 * k) + 1)).toNatClampNeg), .int (xs (nI ((7 * k) + 2)).toNatClampNeg)]) (rest := []) F hP hD hS (M_shown l D cy sk sv w340 tg342 y td pc ac sc ln se plv (xs (nI ((7 * k) + 1)).toNatClampNeg) (xs (nI ((7 * k) + 2)).toNatClampNeg) hIM346) gT_X11_shown rfl rfl (by decide +kernel) ⟨(Nat.le_of_ble_eq_true rfl), (Nat.le_of_ble_eq_true rfl)⟩ rfl hl.1 (Nat.le_of_ble_eq_true rfl) hyc348 rfl dL_law_738 rfl ⟨(show 250 + 2 * k + 0 + 0 ≤ 600000 from by omega), (show 12629 + 15 * k + 0 + 0 ≤ 7302250 from by omega)⟩ (fun v350 w351 hp349 H locs hP hD hS => ?_)
          obtain ⟨⟨r352, rfl⟩, hk353, hIM355⟩ := hp349
          have hIX354 := IX.kept hIX345 hk353 (fun a h9 => Nat.not_le.mpr h9) (fun _ _ => rfl)
          obtain ⟨_, hxc356⟩ := hIX354.cell
          obtain ⟨_, hyc357⟩ := hIM355.cell
          refine W.eq (g2 := F0 m 741 ls [.int r352]) rfl (W.widen (k := 250 + 2 * k + 0 + 0) (n := 12629 + 15 * k + 0 + 0) (Nat.le_refl _) (Nat.le_refl _) ?_)
          refine lv_pop hx hb dL_law_741 rfl ?_
          refine lv_goto (tgt := 956) hx hb dL_law_742 (by decide) ?_
          refine lv_iinc (v := nI (7 * (k + 1))) (lv' := [(3, .int (nI (7 * (k + 1)))), (0, .ref b), (1, .ref x), (2, .ref y)]) hx hb dL_law_956 hl (k := 3) rfl (lw_7 k) (by decide) rfl (fun ls hl => ?_)
          refine lv_goto (tgt := 18) hx hb dL_law_959 (by decide) ?_
          refine W.widen (k := 250 + 2 * (k + 1)) (n := 12629 + 15 * (k + 1)) (by omega) (by omega) ?_
          exact ih18 (k + 1) tg342 td pc ac sc ln se plv w351 (by omega) (by omega) hIX354 hIM355 ls (lv_sub hl [1, 2, 3, 0] rfl) H locs hP hD hS
        by_cases c_358 : sw = 15
        · refine lv_tableIn (off := 712) (tgt := 745) hx hb dL_law_33 (by rw [c_358]; decide) (by rw [c_358]; decide) (by rw [c_358]; decide) (by decide) ?_
          refine lv_aload_n hx hb dL_law_745 rfl (lv_at hl 1 rfl) ?_
          refine lv_aload_n hx hb dL_law_746 rfl (lv_at hl 0 rfl) ?_
          refine lv_iload_n hx hb dL_law_747 rfl (lv_at hl 3 rfl) ?_
          refine lv_iconst (v := 1) hx hb dL_law_748 (by decide) ?_
          refine lv_iadd hx hb dL_law_749 ?_
          rw [show ((nI (7 * k)) + 1 : Int32) = nI ((7 * k) + 1) from nI_add (7 * k) 1]
          refine va_sld hx hb hX hbl hbA hS (vp_in_nI (n := ((7 * k) + 1)) (N := L) (by omega) (by omega)) dL_law_750 ?_
          refine lv_aload_n hx hb dL_law_751 rfl (lv_at hl 0 rfl) ?_
          refine lv_iload_n hx hb dL_law_752 rfl (lv_at hl 3 rfl) ?_
          refine lv_iconst (v := 2) hx hb dL_law_753 (by decide) ?_
          refine lv_iadd hx hb dL_law_754 ?_
          rw [show ((nI (7 * k)) + 2 : Int32) = nI ((7 * k) + 2) from nI_add (7 * k) 2]
          refine va_sld hx hb hX hbl hbA hS (vp_in_nI (n := ((7 * k) + 2)) (N := L) (by omega) (by omega)) dL_law_755 ?_
          refine x_callV (n := 2) (As := [.int (xs (nI ((7 * k) + 1)).toNatClampNeg), .int (xs (nI ((7 * k) + 2)).toNatClampNeg)]) (rest := []) F hP hD hS (X_paper l D cy sk sv w tg x td pc ac sc ln se plv (xs (nI ((7 * k) + 1)).toNatClampNeg) (xs (nI ((7 * k) + 2)).toNatClampNeg) hIX) gT_X10_paper rfl rfl (by decide +kernel) ⟨(Nat.le_of_ble_eq_true rfl), (Nat.le_of_ble_eq_true rfl)⟩ rfl hl.1 (Nat.le_of_ble_eq_true rfl) hxc rfl dL_law_756 rfl ⟨(show 250 + 2 * k + 0 ≤ 600000 from by omega), (show 12629 + 15 * k + 0 ≤ 7302250 from by omega)⟩ (fun v360 w361 hp359 H locs hP hD hS => ?_)
          obtain ⟨⟨r362, rfl⟩, tg363, hg364, hk365, hIX366⟩ := hp359
          have hIM367 := IM.kept hIM hk365 (fun a h9 => Nat.not_lt.mpr h9) hg364
          obtain ⟨_, hxc368⟩ := hIX366.cell
          obtain ⟨_, hyc369⟩ := hIM367.cell
          refine W.eq (g2 := F0 m 759 ls [.int r362]) rfl (W.widen (k := 250 + 2 * k + 0) (n := 12629 + 15 * k + 0) (Nat.le_refl _) (Nat.le_refl _) ?_)
          refine lv_pop hx hb dL_law_759 rfl ?_
          refine lv_aload_n hx hb dL_law_760 rfl (lv_at hl 2 rfl) ?_
          refine lv_aload_n hx hb dL_law_761 rfl (lv_at hl 0 rfl) ?_
          refine lv_iload_n hx hb dL_law_762 rfl (lv_at hl 3 rfl) ?_
          refine lv_iconst (v := 1) hx hb dL_law_763 (by decide) ?_
          refine lv_iadd hx hb dL_law_764 ?_
          rw [show ((nI (7 * k)) + 1 : Int32) = nI ((7 * k) + 1) from nI_add (7 * k) 1]
          refine va_sld hx hb hX hbl hbA hS (vp_in_nI (n := ((7 * k) + 1)) (N := L) (by omega) (by omega)) dL_law_765 ?_
          refine lv_aload_n hx hb dL_law_766 rfl (lv_at hl 0 rfl) ?_
          refine lv_iload_n hx hb dL_law_767 rfl (lv_at hl 3 rfl) ?_
          refine lv_iconst (v := 2) hx hb dL_law_768 (by decide) ?_
          refine lv_iadd hx hb dL_law_769 ?_
          rw [show ((nI (7 * k)) + 2 : Int32) = nI ((7 * k) + 2) from nI_add (7 * k) 2]
          refine va_sld hx hb hX hbl hbA hS (vp_in_nI (n := ((7 * k) + 2)) (N := L) (by omega) (by omega)) dL_law_770 ?_
          refine x_callV (n := 2) (As := [.int (xs (nI ((7 * k) + 1)).toNatClampNeg), .int (xs (nI ((7 * k) + 2)).toNatClampNeg)]) (rest := []) F hP hD hS (M_paper l D cy sk sv w361 tg363 y td pc ac sc ln se plv (xs (nI ((7 * k) + 1)).toNatClampNeg) (xs (nI ((7 * k) + 2)).toNatClampNeg) hIM367) gT_X11_paper rfl rfl (by decide +kernel) ⟨(Nat.le_of_ble_eq_true rfl), (Nat.le_of_ble_eq_true rfl)⟩ rfl hl.1 (Nat.le_of_ble_eq_true rfl) hyc369 rfl dL_law_771 rfl ⟨(show 250 + 2 * k + 0 + 0 ≤ 600000 from by omega), (show 12629 + 15 * k + 0 + 0 ≤ 7302250 from by omega)⟩ (fun v371 w372 hp370 H locs hP hD hS => ?_)
          obtain ⟨⟨r373, rfl⟩, hk374, hIM376⟩ := hp370
          have hIX375 := IX.kept hIX366 hk374 (fun a h9 => Nat.not_le.mpr h9) (fun _ _ => rfl)
          obtain ⟨_, hxc377⟩ := hIX375.cell
          obtain ⟨_, hyc378⟩ := hIM376.cell
          refine W.eq (g2 := F0 m 774 ls [.int r373]) rfl (W.widen (k := 250 + 2 * k + 0 + 0) (n := 12629 + 15 * k + 0 + 0) (Nat.le_refl _) (Nat.le_refl _) ?_)
          refine lv_pop hx hb dL_law_774 rfl ?_
          refine lv_goto (tgt := 956) hx hb dL_law_775 (by decide) ?_
          refine lv_iinc (v := nI (7 * (k + 1))) (lv' := [(3, .int (nI (7 * (k + 1)))), (0, .ref b), (1, .ref x), (2, .ref y)]) hx hb dL_law_956 hl (k := 3) rfl (lw_7 k) (by decide) rfl (fun ls hl => ?_)
          refine lv_goto (tgt := 18) hx hb dL_law_959 (by decide) ?_
          refine W.widen (k := 250 + 2 * (k + 1)) (n := 12629 + 15 * (k + 1)) (by omega) (by omega) ?_
          exact ih18 (k + 1) tg363 td pc ac sc ln se plv w372 (by omega) (by omega) hIX375 hIM376 ls (lv_sub hl [1, 2, 3, 0] rfl) H locs hP hD hS
        by_cases c_379 : sw = 16
        · refine lv_tableIn (off := 745) (tgt := 778) hx hb dL_law_33 (by rw [c_379]; decide) (by rw [c_379]; decide) (by rw [c_379]; decide) (by decide) ?_
          refine lv_aload_n hx hb dL_law_778 rfl (lv_at hl 1 rfl) ?_
          refine lv_aload_n hx hb dL_law_779 rfl (lv_at hl 0 rfl) ?_
          refine lv_iload_n hx hb dL_law_780 rfl (lv_at hl 3 rfl) ?_
          refine lv_iconst (v := 1) hx hb dL_law_781 (by decide) ?_
          refine lv_iadd hx hb dL_law_782 ?_
          rw [show ((nI (7 * k)) + 1 : Int32) = nI ((7 * k) + 1) from nI_add (7 * k) 1]
          refine va_sld hx hb hX hbl hbA hS (vp_in_nI (n := ((7 * k) + 1)) (N := L) (by omega) (by omega)) dL_law_783 ?_
          refine lv_aload_n hx hb dL_law_784 rfl (lv_at hl 0 rfl) ?_
          refine lv_iload_n hx hb dL_law_785 rfl (lv_at hl 3 rfl) ?_
          refine lv_iconst (v := 2) hx hb dL_law_786 (by decide) ?_
          refine lv_iadd hx hb dL_law_787 ?_
          rw [show ((nI (7 * k)) + 2 : Int32) = nI ((7 * k) + 2) from nI_add (7 * k) 2]
          refine va_sld hx hb hX hbl hbA hS (vp_in_nI (n := ((7 * k) + 2)) (N := L) (by omega) (by omega)) dL_law_788 ?_
          refine lv_aload_n hx hb dL_law_789 rfl (lv_at hl 0 rfl) ?_
          refine lv_iload_n hx hb dL_law_790 rfl (lv_at hl 3 rfl) ?_
          refine lv_iconst (v := 3) hx hb dL_law_791 (by decide) ?_
          refine lv_iadd hx hb dL_law_792 ?_
          rw [show ((nI (7 * k)) + 3 : Int32) = nI ((7 * k) + 3) from nI_add (7 * k) 3]
          refine va_sld hx hb hX hbl hbA hS (vp_in_nI (n := ((7 * k) + 3)) (N := L) (by omega) (by omega)) dL_law_793 ?_
          refine x_callV (n := 3) (As := [.int (xs (nI ((7 * k) + 1)).toNatClampNeg), .int (xs (nI ((7 * k) + 2)).toNatClampNeg), .int (xs (nI ((7 * k) + 3)).toNatClampNeg)]) (rest := []) F hP hD hS (X_comes l D cy sk sv w tg x td pc ac sc ln se plv (xs (nI ((7 * k) + 1)).toNatClampNeg) (xs (nI ((7 * k) + 2)).toNatClampNeg) (xs (nI ((7 * k) + 3)).toNatClampNeg) hIX) gT_X10_comes rfl rfl (by decide +kernel) ⟨(Nat.le_of_ble_eq_true rfl), (Nat.le_of_ble_eq_true rfl)⟩ rfl hl.1 (Nat.le_of_ble_eq_true rfl) hxc rfl dL_law_794 rfl ⟨(show 250 + 2 * k + 0 ≤ 600000 from by omega), (show 12629 + 15 * k + 0 ≤ 7302250 from by omega)⟩ (fun v381 w382 hp380 H locs hP hD hS => ?_)
          obtain ⟨⟨r383, rfl⟩, tg384, hg385, hk386, hIX387⟩ := hp380
          have hIM388 := IM.kept hIM hk386 (fun a h9 => Nat.not_lt.mpr h9) hg385
          obtain ⟨_, hxc389⟩ := hIX387.cell
          obtain ⟨_, hyc390⟩ := hIM388.cell
          refine W.eq (g2 := F0 m 797 ls [.int r383]) rfl (W.widen (k := 250 + 2 * k + 0) (n := 12629 + 15 * k + 0) (Nat.le_refl _) (Nat.le_refl _) ?_)
          refine lv_pop hx hb dL_law_797 rfl ?_
          refine lv_aload_n hx hb dL_law_798 rfl (lv_at hl 2 rfl) ?_
          refine lv_aload_n hx hb dL_law_799 rfl (lv_at hl 0 rfl) ?_
          refine lv_iload_n hx hb dL_law_800 rfl (lv_at hl 3 rfl) ?_
          refine lv_iconst (v := 1) hx hb dL_law_801 (by decide) ?_
          refine lv_iadd hx hb dL_law_802 ?_
          rw [show ((nI (7 * k)) + 1 : Int32) = nI ((7 * k) + 1) from nI_add (7 * k) 1]
          refine va_sld hx hb hX hbl hbA hS (vp_in_nI (n := ((7 * k) + 1)) (N := L) (by omega) (by omega)) dL_law_803 ?_
          refine lv_aload_n hx hb dL_law_804 rfl (lv_at hl 0 rfl) ?_
          refine lv_iload_n hx hb dL_law_805 rfl (lv_at hl 3 rfl) ?_
          refine lv_iconst (v := 2) hx hb dL_law_806 (by decide) ?_
          refine lv_iadd hx hb dL_law_807 ?_
          rw [show ((nI (7 * k)) + 2 : Int32) = nI ((7 * k) + 2) from nI_add (7 * k) 2]
          refine va_sld hx hb hX hbl hbA hS (vp_in_nI (n := ((7 * k) + 2)) (N := L) (by omega) (by omega)) dL_law_808 ?_
          refine lv_aload_n hx hb dL_law_809 rfl (lv_at hl 0 rfl) ?_
          refine lv_iload_n hx hb dL_law_810 rfl (lv_at hl 3 rfl) ?_
          refine lv_iconst (v := 3) hx hb dL_law_811 (by decide) ?_
          refine lv_iadd hx hb dL_law_812 ?_
          rw [show ((nI (7 * k)) + 3 : Int32) = nI ((7 * k) + 3) from nI_add (7 * k) 3]
          refine va_sld hx hb hX hbl hbA hS (vp_in_nI (n := ((7 * k) + 3)) (N := L) (by omega) (by omega)) dL_law_813 ?_
          refine x_callV (n := 3) (As := [.int (xs (nI ((7 * k) + 1)).toNatClampNeg), .int (xs (nI ((7 * k) + 2)).toNatClampNeg), .int (xs (nI ((7 * k) + 3)).toNatClampNeg)]) (rest := []) F hP hD hS (M_comes l D cy sk sv w382 tg384 y td pc ac sc ln se plv (xs (nI ((7 * k) + 1)).toNatClampNeg) (xs (nI ((7 * k) + 2)).toNatClampNeg) (xs (nI ((7 * k) + 3)).toNatClampNeg) hIM388) gT_X11_comes rfl rfl (by decide +kernel) ⟨(Nat.le_of_ble_eq_true rfl), (Nat.le_of_ble_eq_true rfl)⟩ rfl hl.1 (Nat.le_of_ble_eq_true rfl) hyc390 rfl dL_law_814 rfl ⟨(show 250 + 2 * k + 0 + 0 ≤ 600000 from by omega), (show 12629 + 15 * k + 0 + 0 ≤ 7302250 from by omega)⟩ (fun v392 w393 hp391 H locs hP hD hS => ?_)
          obtain ⟨⟨r394, rfl⟩, hk395, hIM397⟩ := hp391
          have hIX396 := IX.kept hIX387 hk395 (fun a h9 => Nat.not_le.mpr h9) (fun _ _ => rfl)
          obtain ⟨_, hxc398⟩ := hIX396.cell
          obtain ⟨_, hyc399⟩ := hIM397.cell
          refine W.eq (g2 := F0 m 817 ls [.int r394]) rfl (W.widen (k := 250 + 2 * k + 0 + 0) (n := 12629 + 15 * k + 0 + 0) (Nat.le_refl _) (Nat.le_refl _) ?_)
          refine lv_pop hx hb dL_law_817 rfl ?_
          refine lv_goto (tgt := 956) hx hb dL_law_818 (by decide) ?_
          refine lv_iinc (v := nI (7 * (k + 1))) (lv' := [(3, .int (nI (7 * (k + 1)))), (0, .ref b), (1, .ref x), (2, .ref y)]) hx hb dL_law_956 hl (k := 3) rfl (lw_7 k) (by decide) rfl (fun ls hl => ?_)
          refine lv_goto (tgt := 18) hx hb dL_law_959 (by decide) ?_
          refine W.widen (k := 250 + 2 * (k + 1)) (n := 12629 + 15 * (k + 1)) (by omega) (by omega) ?_
          exact ih18 (k + 1) tg384 td pc ac sc ln se plv w393 (by omega) (by omega) hIX396 hIM397 ls (lv_sub hl [1, 2, 3, 0] rfl) H locs hP hD hS
        by_cases c_400 : sw = 17
        · refine lv_tableIn (off := 788) (tgt := 821) hx hb dL_law_33 (by rw [c_400]; decide) (by rw [c_400]; decide) (by rw [c_400]; decide) (by decide) ?_
          refine lv_aload_n hx hb dL_law_821 rfl (lv_at hl 1 rfl) ?_
          refine lv_aload_n hx hb dL_law_822 rfl (lv_at hl 0 rfl) ?_
          refine lv_iload_n hx hb dL_law_823 rfl (lv_at hl 3 rfl) ?_
          refine lv_iconst (v := 1) hx hb dL_law_824 (by decide) ?_
          refine lv_iadd hx hb dL_law_825 ?_
          rw [show ((nI (7 * k)) + 1 : Int32) = nI ((7 * k) + 1) from nI_add (7 * k) 1]
          refine va_sld hx hb hX hbl hbA hS (vp_in_nI (n := ((7 * k) + 1)) (N := L) (by omega) (by omega)) dL_law_826 ?_
          refine x_callV (n := 1) (As := [.int (xs (nI ((7 * k) + 1)).toNatClampNeg)]) (rest := []) F hP hD hS (X_settle l D cy sk sv w tg x td pc ac sc ln se plv (xs (nI ((7 * k) + 1)).toNatClampNeg) hIX) gT_X10_settle rfl rfl (by decide +kernel) ⟨(Nat.le_of_ble_eq_true rfl), (Nat.le_of_ble_eq_true rfl)⟩ rfl hl.1 (Nat.le_of_ble_eq_true rfl) hxc rfl dL_law_827 rfl ⟨(show 250 + 2 * k + 0 ≤ 600000 from by omega), (show 12629 + 15 * k + 0 ≤ 7302250 from by omega)⟩ (fun v402 w403 hp401 H locs hP hD hS => ?_)
          obtain ⟨⟨r404, rfl⟩, tg405, hg406, hk407, hIX408⟩ := hp401
          have hIM409 := IM.kept hIM hk407 (fun a h9 => Nat.not_lt.mpr h9) hg406
          obtain ⟨_, hxc410⟩ := hIX408.cell
          obtain ⟨_, hyc411⟩ := hIM409.cell
          refine W.eq (g2 := F0 m 830 ls [.int r404]) rfl (W.widen (k := 250 + 2 * k + 0) (n := 12629 + 15 * k + 0) (Nat.le_refl _) (Nat.le_refl _) ?_)
          refine lv_pop hx hb dL_law_830 rfl ?_
          refine lv_aload_n hx hb dL_law_831 rfl (lv_at hl 2 rfl) ?_
          refine lv_aload_n hx hb dL_law_832 rfl (lv_at hl 0 rfl) ?_
          refine lv_iload_n hx hb dL_law_833 rfl (lv_at hl 3 rfl) ?_
          refine lv_iconst (v := 1) hx hb dL_law_834 (by decide) ?_
          refine lv_iadd hx hb dL_law_835 ?_
          rw [show ((nI (7 * k)) + 1 : Int32) = nI ((7 * k) + 1) from nI_add (7 * k) 1]
          refine va_sld hx hb hX hbl hbA hS (vp_in_nI (n := ((7 * k) + 1)) (N := L) (by omega) (by omega)) dL_law_836 ?_
          refine x_callV (n := 1) (As := [.int (xs (nI ((7 * k) + 1)).toNatClampNeg)]) (rest := []) F hP hD hS (M_settle l D cy sk sv w403 tg405 y td pc ac sc ln se plv (xs (nI ((7 * k) + 1)).toNatClampNeg) hIM409) gT_X11_settle rfl rfl (by decide +kernel) ⟨(Nat.le_of_ble_eq_true rfl), (Nat.le_of_ble_eq_true rfl)⟩ rfl hl.1 (Nat.le_of_ble_eq_true rfl) hyc411 rfl dL_law_837 rfl ⟨(show 250 + 2 * k + 0 + 0 ≤ 600000 from by omega), (show 12629 + 15 * k + 0 + 0 ≤ 7302250 from by omega)⟩ (fun v413 w414 hp412 H locs hP hD hS => ?_)
          obtain ⟨⟨r415, rfl⟩, hk416, hIM418⟩ := hp412
          have hIX417 := IX.kept hIX408 hk416 (fun a h9 => Nat.not_le.mpr h9) (fun _ _ => rfl)
          obtain ⟨_, hxc419⟩ := hIX417.cell
          obtain ⟨_, hyc420⟩ := hIM418.cell
          refine W.eq (g2 := F0 m 840 ls [.int r415]) rfl (W.widen (k := 250 + 2 * k + 0 + 0) (n := 12629 + 15 * k + 0 + 0) (Nat.le_refl _) (Nat.le_refl _) ?_)
          refine lv_pop hx hb dL_law_840 rfl ?_
          refine lv_goto (tgt := 956) hx hb dL_law_841 (by decide) ?_
          refine lv_iinc (v := nI (7 * (k + 1))) (lv' := [(3, .int (nI (7 * (k + 1)))), (0, .ref b), (1, .ref x), (2, .ref y)]) hx hb dL_law_956 hl (k := 3) rfl (lw_7 k) (by decide) rfl (fun ls hl => ?_)
          refine lv_goto (tgt := 18) hx hb dL_law_959 (by decide) ?_
          refine W.widen (k := 250 + 2 * (k + 1)) (n := 12629 + 15 * (k + 1)) (by omega) (by omega) ?_
          exact ih18 (k + 1) tg405 td pc ac sc ln se plv w414 (by omega) (by omega) hIX417 hIM418 ls (lv_sub hl [1, 2, 3, 0] rfl) H locs hP hD hS
        by_cases c_421 : sw = 18
        · refine lv_tableIn (off := 811) (tgt := 844) hx hb dL_law_33 (by rw [c_421]; decide) (by rw [c_421]; decide) (by rw [c_421]; decide) (by decide) ?_
          refine lv_aload_n hx hb dL_law_844 rfl (lv_at hl 1 rfl) ?_
          refine lv_aload_n hx hb dL_law_845 rfl (lv_at hl 0 rfl) ?_
          refine lv_iload_n hx hb dL_law_846 rfl (lv_at hl 3 rfl) ?_
          refine lv_iconst (v := 1) hx hb dL_law_847 (by decide) ?_
          refine lv_iadd hx hb dL_law_848 ?_
          rw [show ((nI (7 * k)) + 1 : Int32) = nI ((7 * k) + 1) from nI_add (7 * k) 1]
          refine va_sld hx hb hX hbl hbA hS (vp_in_nI (n := ((7 * k) + 1)) (N := L) (by omega) (by omega)) dL_law_849 ?_
          refine lv_aload_n hx hb dL_law_850 rfl (lv_at hl 0 rfl) ?_
          refine lv_iload_n hx hb dL_law_851 rfl (lv_at hl 3 rfl) ?_
          refine lv_iconst (v := 2) hx hb dL_law_852 (by decide) ?_
          refine lv_iadd hx hb dL_law_853 ?_
          rw [show ((nI (7 * k)) + 2 : Int32) = nI ((7 * k) + 2) from nI_add (7 * k) 2]
          refine va_sld hx hb hX hbl hbA hS (vp_in_nI (n := ((7 * k) + 2)) (N := L) (by omega) (by omega)) dL_law_854 ?_
          refine x_callV (n := 2) (As := [.int (xs (nI ((7 * k) + 1)).toNatClampNeg), .int (xs (nI ((7 * k) + 2)).toNatClampNeg)]) (rest := []) F hP hD hS (X_settled l D cy sk sv w tg x td pc ac sc ln se plv (xs (nI ((7 * k) + 1)).toNatClampNeg) (xs (nI ((7 * k) + 2)).toNatClampNeg) hIX) gT_X10_settled rfl rfl (by decide +kernel) ⟨(Nat.le_of_ble_eq_true rfl), (Nat.le_of_ble_eq_true rfl)⟩ rfl hl.1 (Nat.le_of_ble_eq_true rfl) hxc rfl dL_law_855 rfl ⟨(show 250 + 2 * k + 0 ≤ 600000 from by omega), (show 12629 + 15 * k + 0 ≤ 7302250 from by omega)⟩ (fun v423 w424 hp422 H locs hP hD hS => ?_)
          obtain ⟨⟨r425, rfl⟩, tg426, hg427, hk428, hIX429⟩ := hp422
          have hIM430 := IM.kept hIM hk428 (fun a h9 => Nat.not_lt.mpr h9) hg427
          obtain ⟨_, hxc431⟩ := hIX429.cell
          obtain ⟨_, hyc432⟩ := hIM430.cell
          refine W.eq (g2 := F0 m 858 ls [.int r425]) rfl (W.widen (k := 250 + 2 * k + 0) (n := 12629 + 15 * k + 0) (Nat.le_refl _) (Nat.le_refl _) ?_)
          refine lv_pop hx hb dL_law_858 rfl ?_
          refine lv_aload_n hx hb dL_law_859 rfl (lv_at hl 2 rfl) ?_
          refine lv_aload_n hx hb dL_law_860 rfl (lv_at hl 0 rfl) ?_
          refine lv_iload_n hx hb dL_law_861 rfl (lv_at hl 3 rfl) ?_
          refine lv_iconst (v := 1) hx hb dL_law_862 (by decide) ?_
          refine lv_iadd hx hb dL_law_863 ?_
          rw [show ((nI (7 * k)) + 1 : Int32) = nI ((7 * k) + 1) from nI_add (7 * k) 1]
          refine va_sld hx hb hX hbl hbA hS (vp_in_nI (n := ((7 * k) + 1)) (N := L) (by omega) (by omega)) dL_law_864 ?_
          refine lv_aload_n hx hb dL_law_865 rfl (lv_at hl 0 rfl) ?_
          refine lv_iload_n hx hb dL_law_866 rfl (lv_at hl 3 rfl) ?_
          refine lv_iconst (v := 2) hx hb dL_law_867 (by decide) ?_
          refine lv_iadd hx hb dL_law_868 ?_
          rw [show ((nI (7 * k)) + 2 : Int32) = nI ((7 * k) + 2) from nI_add (7 * k) 2]
          refine va_sld hx hb hX hbl hbA hS (vp_in_nI (n := ((7 * k) + 2)) (N := L) (by omega) (by omega)) dL_law_869 ?_
          refine x_callV (n := 2) (As := [.int (xs (nI ((7 * k) + 1)).toNatClampNeg), .int (xs (nI ((7 * k) + 2)).toNatClampNeg)]) (rest := []) F hP hD hS (M_settled l D cy sk sv w424 tg426 y td pc ac sc ln se plv (xs (nI ((7 * k) + 1)).toNatClampNeg) (xs (nI ((7 * k) + 2)).toNatClampNeg) hIM430) gT_X11_settled rfl rfl (by decide +kernel) ⟨(Nat.le_of_ble_eq_true rfl), (Nat.le_of_ble_eq_true rfl)⟩ rfl hl.1 (Nat.le_of_ble_eq_true rfl) hyc432 rfl dL_law_870 rfl ⟨(show 250 + 2 * k + 0 + 0 ≤ 600000 from by omega), (show 12629 + 15 * k + 0 + 0 ≤ 7302250 from by omega)⟩ (fun v434 w435 hp433 H locs hP hD hS => ?_)
          obtain ⟨⟨r436, rfl⟩, hk437, hIM439⟩ := hp433
          have hIX438 := IX.kept hIX429 hk437 (fun a h9 => Nat.not_le.mpr h9) (fun _ _ => rfl)
          obtain ⟨_, hxc440⟩ := hIX438.cell
          obtain ⟨_, hyc441⟩ := hIM439.cell
          refine W.eq (g2 := F0 m 873 ls [.int r436]) rfl (W.widen (k := 250 + 2 * k + 0 + 0) (n := 12629 + 15 * k + 0 + 0) (Nat.le_refl _) (Nat.le_refl _) ?_)
          refine lv_pop hx hb dL_law_873 rfl ?_
          refine lv_goto (tgt := 956) hx hb dL_law_874 (by decide) ?_
          refine lv_iinc (v := nI (7 * (k + 1))) (lv' := [(3, .int (nI (7 * (k + 1)))), (0, .ref b), (1, .ref x), (2, .ref y)]) hx hb dL_law_956 hl (k := 3) rfl (lw_7 k) (by decide) rfl (fun ls hl => ?_)
          refine lv_goto (tgt := 18) hx hb dL_law_959 (by decide) ?_
          refine W.widen (k := 250 + 2 * (k + 1)) (n := 12629 + 15 * (k + 1)) (by omega) (by omega) ?_
          exact ih18 (k + 1) tg426 td pc ac sc ln se plv w435 (by omega) (by omega) hIX438 hIM439 ls (lv_sub hl [1, 2, 3, 0] rfl) H locs hP hD hS
        by_cases c_442 : sw = 19
        · refine lv_tableIn (off := 844) (tgt := 877) hx hb dL_law_33 (by rw [c_442]; decide) (by rw [c_442]; decide) (by rw [c_442]; decide) (by decide) ?_
          refine lv_aload_n hx hb dL_law_877 rfl (lv_at hl 1 rfl) ?_
          refine lv_aload_n hx hb dL_law_878 rfl (lv_at hl 0 rfl) ?_
          refine lv_iload_n hx hb dL_law_879 rfl (lv_at hl 3 rfl) ?_
          refine lv_iconst (v := 1) hx hb dL_law_880 (by decide) ?_
          refine lv_iadd hx hb dL_law_881 ?_
          rw [show ((nI (7 * k)) + 1 : Int32) = nI ((7 * k) + 1) from nI_add (7 * k) 1]
          refine va_sld hx hb hX hbl hbA hS (vp_in_nI (n := ((7 * k) + 1)) (N := L) (by omega) (by omega)) dL_law_882 ?_
          refine x_callV (n := 1) (As := [.int (xs (nI ((7 * k) + 1)).toNatClampNeg)]) (rest := []) F hP hD hS (X_due l D cy sk sv w tg x td pc ac sc ln se plv (xs (nI ((7 * k) + 1)).toNatClampNeg) hIX) gT_X10_due rfl rfl (by decide +kernel) ⟨(Nat.le_of_ble_eq_true rfl), (Nat.le_of_ble_eq_true rfl)⟩ rfl hl.1 (Nat.le_of_ble_eq_true rfl) hxc rfl dL_law_883 rfl ⟨(show 250 + 2 * k + 0 ≤ 600000 from by omega), (show 12629 + 15 * k + 0 ≤ 7302250 from by omega)⟩ (fun v444 w445 hp443 H locs hP hD hS => ?_)
          obtain ⟨⟨r446, rfl⟩, tg447, hg448, hk449, hIX450⟩ := hp443
          have hIM451 := IM.kept hIM hk449 (fun a h9 => Nat.not_lt.mpr h9) hg448
          obtain ⟨_, hxc452⟩ := hIX450.cell
          obtain ⟨_, hyc453⟩ := hIM451.cell
          refine W.eq (g2 := F0 m 886 ls [.long r446]) rfl (W.widen (k := 250 + 2 * k + 0) (n := 12629 + 15 * k + 0) (Nat.le_refl _) (Nat.le_refl _) ?_)
          refine lv_pop2_2 hx hb dL_law_886 rfl ?_
          refine lv_aload_n hx hb dL_law_887 rfl (lv_at hl 2 rfl) ?_
          refine lv_aload_n hx hb dL_law_888 rfl (lv_at hl 0 rfl) ?_
          refine lv_iload_n hx hb dL_law_889 rfl (lv_at hl 3 rfl) ?_
          refine lv_iconst (v := 1) hx hb dL_law_890 (by decide) ?_
          refine lv_iadd hx hb dL_law_891 ?_
          rw [show ((nI (7 * k)) + 1 : Int32) = nI ((7 * k) + 1) from nI_add (7 * k) 1]
          refine va_sld hx hb hX hbl hbA hS (vp_in_nI (n := ((7 * k) + 1)) (N := L) (by omega) (by omega)) dL_law_892 ?_
          refine x_callV (n := 1) (As := [.int (xs (nI ((7 * k) + 1)).toNatClampNeg)]) (rest := []) F hP hD hS (M_due l D cy sk sv w445 tg447 y td pc ac sc ln se plv (xs (nI ((7 * k) + 1)).toNatClampNeg) hIM451) gT_X11_due rfl rfl (by decide +kernel) ⟨(Nat.le_of_ble_eq_true rfl), (Nat.le_of_ble_eq_true rfl)⟩ rfl hl.1 (Nat.le_of_ble_eq_true rfl) hyc453 rfl dL_law_893 rfl ⟨(show 250 + 2 * k + 0 + 0 ≤ 600000 from by omega), (show 12629 + 15 * k + 0 + 0 ≤ 7302250 from by omega)⟩ (fun v455 w456 hp454 H locs hP hD hS => ?_)
          obtain ⟨⟨r457, rfl⟩, hk458, hIM460⟩ := hp454
          have hIX459 := IX.kept hIX450 hk458 (fun a h9 => Nat.not_le.mpr h9) (fun _ _ => rfl)
          obtain ⟨_, hxc461⟩ := hIX459.cell
          obtain ⟨_, hyc462⟩ := hIM460.cell
          refine W.eq (g2 := F0 m 896 ls [.long r457]) rfl (W.widen (k := 250 + 2 * k + 0 + 0) (n := 12629 + 15 * k + 0 + 0) (Nat.le_refl _) (Nat.le_refl _) ?_)
          refine lv_pop2_2 hx hb dL_law_896 rfl ?_
          refine lv_goto (tgt := 956) hx hb dL_law_897 (by decide) ?_
          refine lv_iinc (v := nI (7 * (k + 1))) (lv' := [(3, .int (nI (7 * (k + 1)))), (0, .ref b), (1, .ref x), (2, .ref y)]) hx hb dL_law_956 hl (k := 3) rfl (lw_7 k) (by decide) rfl (fun ls hl => ?_)
          refine lv_goto (tgt := 18) hx hb dL_law_959 (by decide) ?_
          refine W.widen (k := 250 + 2 * (k + 1)) (n := 12629 + 15 * (k + 1)) (by omega) (by omega) ?_
          exact ih18 (k + 1) tg447 td pc ac sc ln se plv w456 (by omega) (by omega) hIX459 hIM460 ls (lv_sub hl [1, 2, 3, 0] rfl) H locs hP hD hS
        by_cases c_463 : sw = 20
        · refine lv_tableIn (off := 867) (tgt := 900) hx hb dL_law_33 (by rw [c_463]; decide) (by rw [c_463]; decide) (by rw [c_463]; decide) (by decide) ?_
          refine lv_aload_n hx hb dL_law_900 rfl (lv_at hl 1 rfl) ?_
          refine lv_aload_n hx hb dL_law_901 rfl (lv_at hl 0 rfl) ?_
          refine lv_iload_n hx hb dL_law_902 rfl (lv_at hl 3 rfl) ?_
          refine lv_iconst (v := 1) hx hb dL_law_903 (by decide) ?_
          refine lv_iadd hx hb dL_law_904 ?_
          rw [show ((nI (7 * k)) + 1 : Int32) = nI ((7 * k) + 1) from nI_add (7 * k) 1]
          refine va_sld hx hb hX hbl hbA hS (vp_in_nI (n := ((7 * k) + 1)) (N := L) (by omega) (by omega)) dL_law_905 ?_
          refine lv_aload_n hx hb dL_law_906 rfl (lv_at hl 0 rfl) ?_
          refine lv_iload_n hx hb dL_law_907 rfl (lv_at hl 3 rfl) ?_
          refine lv_iconst (v := 2) hx hb dL_law_908 (by decide) ?_
          refine lv_iadd hx hb dL_law_909 ?_
          rw [show ((nI (7 * k)) + 2 : Int32) = nI ((7 * k) + 2) from nI_add (7 * k) 2]
          refine va_sld hx hb hX hbl hbA hS (vp_in_nI (n := ((7 * k) + 2)) (N := L) (by omega) (by omega)) dL_law_910 ?_
          refine x_callV (n := 2) (As := [.int (xs (nI ((7 * k) + 1)).toNatClampNeg), .int (xs (nI ((7 * k) + 2)).toNatClampNeg)]) (rest := []) F hP hD hS (X_netted l D cy sk sv w tg x td pc ac sc ln se plv (xs (nI ((7 * k) + 1)).toNatClampNeg) (xs (nI ((7 * k) + 2)).toNatClampNeg) hIX) gT_X10_netted rfl rfl (by decide +kernel) ⟨(Nat.le_of_ble_eq_true rfl), (Nat.le_of_ble_eq_true rfl)⟩ rfl hl.1 (Nat.le_of_ble_eq_true rfl) hxc rfl dL_law_911 rfl ⟨(show 250 + 2 * k + 0 ≤ 600000 from by omega), (show 12629 + 15 * k + 0 ≤ 7302250 from by omega)⟩ (fun v465 w466 hp464 H locs hP hD hS => ?_)
          obtain ⟨⟨r467, rfl⟩, tg468, hg469, hk470, hIX471⟩ := hp464
          have hIM472 := IM.kept hIM hk470 (fun a h9 => Nat.not_lt.mpr h9) hg469
          obtain ⟨_, hxc473⟩ := hIX471.cell
          obtain ⟨_, hyc474⟩ := hIM472.cell
          refine W.eq (g2 := F0 m 914 ls [.long r467]) rfl (W.widen (k := 250 + 2 * k + 0) (n := 12629 + 15 * k + 0) (Nat.le_refl _) (Nat.le_refl _) ?_)
          refine lv_pop2_2 hx hb dL_law_914 rfl ?_
          refine lv_aload_n hx hb dL_law_915 rfl (lv_at hl 2 rfl) ?_
          refine lv_aload_n hx hb dL_law_916 rfl (lv_at hl 0 rfl) ?_
          refine lv_iload_n hx hb dL_law_917 rfl (lv_at hl 3 rfl) ?_
          refine lv_iconst (v := 1) hx hb dL_law_918 (by decide) ?_
          refine lv_iadd hx hb dL_law_919 ?_
          rw [show ((nI (7 * k)) + 1 : Int32) = nI ((7 * k) + 1) from nI_add (7 * k) 1]
          refine va_sld hx hb hX hbl hbA hS (vp_in_nI (n := ((7 * k) + 1)) (N := L) (by omega) (by omega)) dL_law_920 ?_
          refine lv_aload_n hx hb dL_law_921 rfl (lv_at hl 0 rfl) ?_
          refine lv_iload_n hx hb dL_law_922 rfl (lv_at hl 3 rfl) ?_
          refine lv_iconst (v := 2) hx hb dL_law_923 (by decide) ?_
          refine lv_iadd hx hb dL_law_924 ?_
          rw [show ((nI (7 * k)) + 2 : Int32) = nI ((7 * k) + 2) from nI_add (7 * k) 2]
          refine va_sld hx hb hX hbl hbA hS (vp_in_nI (n := ((7 * k) + 2)) (N := L) (by omega) (by omega)) dL_law_925 ?_
          refine x_callV (n := 2) (As := [.int (xs (nI ((7 * k) + 1)).toNatClampNeg), .int (xs (nI ((7 * k) + 2)).toNatClampNeg)]) (rest := []) F hP hD hS (M_netted l D cy sk sv w466 tg468 y td pc ac sc ln se plv (xs (nI ((7 * k) + 1)).toNatClampNeg) (xs (nI ((7 * k) + 2)).toNatClampNeg) hIM472) gT_X11_netted rfl rfl (by decide +kernel) ⟨(Nat.le_of_ble_eq_true rfl), (Nat.le_of_ble_eq_true rfl)⟩ rfl hl.1 (Nat.le_of_ble_eq_true rfl) hyc474 rfl dL_law_926 rfl ⟨(show 250 + 2 * k + 0 + 0 ≤ 600000 from by omega), (show 12629 + 15 * k + 0 + 0 ≤ 7302250 from by omega)⟩ (fun v476 w477 hp475 H locs hP hD hS => ?_)
          obtain ⟨⟨r478, rfl⟩, hk479, hIM481⟩ := hp475
          have hIX480 := IX.kept hIX471 hk479 (fun a h9 => Nat.not_le.mpr h9) (fun _ _ => rfl)
          obtain ⟨_, hxc482⟩ := hIX480.cell
          obtain ⟨_, hyc483⟩ := hIM481.cell
          refine W.eq (g2 := F0 m 929 ls [.long r478]) rfl (W.widen (k := 250 + 2 * k + 0 + 0) (n := 12629 + 15 * k + 0 + 0) (Nat.le_refl _) (Nat.le_refl _) ?_)
          refine lv_pop2_2 hx hb dL_law_929 rfl ?_
          refine lv_goto (tgt := 956) hx hb dL_law_930 (by decide) ?_
          refine lv_iinc (v := nI (7 * (k + 1))) (lv' := [(3, .int (nI (7 * (k + 1)))), (0, .ref b), (1, .ref x), (2, .ref y)]) hx hb dL_law_956 hl (k := 3) rfl (lw_7 k) (by decide) rfl (fun ls hl => ?_)
          refine lv_goto (tgt := 18) hx hb dL_law_959 (by decide) ?_
          refine W.widen (k := 250 + 2 * (k + 1)) (n := 12629 + 15 * (k + 1)) (by omega) (by omega) ?_
          exact ih18 (k + 1) tg468 td pc ac sc ln se plv w477 (by omega) (by omega) hIX480 hIM481 ls (lv_sub hl [1, 2, 3, 0] rfl) H locs hP hD hS
        by_cases c_484 : sw = 21
        · refine lv_tableIn (off := 900) (tgt := 933) hx hb dL_law_33 (by rw [c_484]; decide) (by rw [c_484]; decide) (by rw [c_484]; decide) (by decide) ?_
          refine lv_aload_n hx hb dL_law_933 rfl (lv_at hl 1 rfl) ?_
          refine lv_aload_n hx hb dL_law_934 rfl (lv_at hl 0 rfl) ?_
          refine lv_iload_n hx hb dL_law_935 rfl (lv_at hl 3 rfl) ?_
          refine lv_iconst (v := 1) hx hb dL_law_936 (by decide) ?_
          refine lv_iadd hx hb dL_law_937 ?_
          rw [show ((nI (7 * k)) + 1 : Int32) = nI ((7 * k) + 1) from nI_add (7 * k) 1]
          refine va_sld hx hb hX hbl hbA hS (vp_in_nI (n := ((7 * k) + 1)) (N := L) (by omega) (by omega)) dL_law_938 ?_
          refine x_callV (n := 1) (As := [.int (xs (nI ((7 * k) + 1)).toNatClampNeg)]) (rest := []) F hP hD hS (X_count l D cy sk sv w tg x td pc ac sc ln se plv (xs (nI ((7 * k) + 1)).toNatClampNeg) hIX) gT_X10_count rfl rfl (by decide +kernel) ⟨(Nat.le_of_ble_eq_true rfl), (Nat.le_of_ble_eq_true rfl)⟩ rfl hl.1 (Nat.le_of_ble_eq_true rfl) hxc rfl dL_law_939 rfl ⟨(show 250 + 2 * k + 0 ≤ 600000 from by omega), (show 12629 + 15 * k + 0 ≤ 7302250 from by omega)⟩ (fun v486 w487 hp485 H locs hP hD hS => ?_)
          obtain ⟨⟨r488, rfl⟩, tg489, hg490, hk491, hIX492⟩ := hp485
          have hIM493 := IM.kept hIM hk491 (fun a h9 => Nat.not_lt.mpr h9) hg490
          obtain ⟨_, hxc494⟩ := hIX492.cell
          obtain ⟨_, hyc495⟩ := hIM493.cell
          refine W.eq (g2 := F0 m 942 ls [.int r488]) rfl (W.widen (k := 250 + 2 * k + 0) (n := 12629 + 15 * k + 0) (Nat.le_refl _) (Nat.le_refl _) ?_)
          refine lv_pop hx hb dL_law_942 rfl ?_
          refine lv_aload_n hx hb dL_law_943 rfl (lv_at hl 2 rfl) ?_
          refine lv_aload_n hx hb dL_law_944 rfl (lv_at hl 0 rfl) ?_
          refine lv_iload_n hx hb dL_law_945 rfl (lv_at hl 3 rfl) ?_
          refine lv_iconst (v := 1) hx hb dL_law_946 (by decide) ?_
          refine lv_iadd hx hb dL_law_947 ?_
          rw [show ((nI (7 * k)) + 1 : Int32) = nI ((7 * k) + 1) from nI_add (7 * k) 1]
          refine va_sld hx hb hX hbl hbA hS (vp_in_nI (n := ((7 * k) + 1)) (N := L) (by omega) (by omega)) dL_law_948 ?_
          refine x_callV (n := 1) (As := [.int (xs (nI ((7 * k) + 1)).toNatClampNeg)]) (rest := []) F hP hD hS (M_count l D cy sk sv w487 tg489 y td pc ac sc ln se plv (xs (nI ((7 * k) + 1)).toNatClampNeg) hIM493) gT_X11_count rfl rfl (by decide +kernel) ⟨(Nat.le_of_ble_eq_true rfl), (Nat.le_of_ble_eq_true rfl)⟩ rfl hl.1 (Nat.le_of_ble_eq_true rfl) hyc495 rfl dL_law_949 rfl ⟨(show 250 + 2 * k + 0 + 0 ≤ 600000 from by omega), (show 12629 + 15 * k + 0 + 0 ≤ 7302250 from by omega)⟩ (fun v497 w498 hp496 H locs hP hD hS => ?_)
          obtain ⟨⟨r499, rfl⟩, hk500, hIM502⟩ := hp496
          have hIX501 := IX.kept hIX492 hk500 (fun a h9 => Nat.not_le.mpr h9) (fun _ _ => rfl)
          obtain ⟨_, hxc503⟩ := hIX501.cell
          obtain ⟨_, hyc504⟩ := hIM502.cell
          refine W.eq (g2 := F0 m 952 ls [.int r499]) rfl (W.widen (k := 250 + 2 * k + 0 + 0) (n := 12629 + 15 * k + 0 + 0) (Nat.le_refl _) (Nat.le_refl _) ?_)
          refine lv_pop hx hb dL_law_952 rfl ?_
          refine lv_goto (tgt := 956) hx hb dL_law_953 (by decide) ?_
          refine lv_iinc (v := nI (7 * (k + 1))) (lv' := [(3, .int (nI (7 * (k + 1)))), (0, .ref b), (1, .ref x), (2, .ref y)]) hx hb dL_law_956 hl (k := 3) rfl (lw_7 k) (by decide) rfl (fun ls hl => ?_)
          refine lv_goto (tgt := 18) hx hb dL_law_959 (by decide) ?_
          refine W.widen (k := 250 + 2 * (k + 1)) (n := 12629 + 15 * (k + 1)) (by omega) (by omega) ?_
          exact ih18 (k + 1) tg489 td pc ac sc ln se plv w498 (by omega) (by omega) hIX501 hIM502 ls (lv_sub hl [1, 2, 3, 0] rfl) H locs hP hD hS
        refine lv_tableOut (tgt := 956) hx hb dL_law_33 (by have z0 := lv_neT c_17 (show (0 : Int32).toInt = 0 by decide); have z1 := lv_neT c_36 (show (1 : Int32).toInt = 1 by decide); have z2 := lv_neT c_78 (show (2 : Int32).toInt = 2 by decide); have z3 := lv_neT c_97 (show (3 : Int32).toInt = 3 by decide); have z4 := lv_neT c_116 (show (4 : Int32).toInt = 4 by decide); have z5 := lv_neT c_135 (show (5 : Int32).toInt = 5 by decide); have z6 := lv_neT c_154 (show (6 : Int32).toInt = 6 by decide); have z7 := lv_neT c_175 (show (7 : Int32).toInt = 7 by decide); have z8 := lv_neT c_194 (show (8 : Int32).toInt = 8 by decide); have z9 := lv_neT c_213 (show (9 : Int32).toInt = 9 by decide); have z10 := lv_neT c_232 (show (10 : Int32).toInt = 10 by decide); have z11 := lv_neT c_253 (show (11 : Int32).toInt = 11 by decide); have z12 := lv_neT c_274 (show (12 : Int32).toInt = 12 by decide); have z13 := lv_neT c_318 (show (13 : Int32).toInt = 13 by decide); have z14 := lv_neT c_337 (show (14 : Int32).toInt = 14 by decide); have z15 := lv_neT c_358 (show (15 : Int32).toInt = 15 by decide); have z16 := lv_neT c_379 (show (16 : Int32).toInt = 16 by decide); have z17 := lv_neT c_400 (show (17 : Int32).toInt = 17 by decide); have z18 := lv_neT c_421 (show (18 : Int32).toInt = 18 by decide); have z19 := lv_neT c_442 (show (19 : Int32).toInt = 19 by decide); have z20 := lv_neT c_463 (show (20 : Int32).toInt = 20 by decide); have z21 := lv_neT c_484 (show (21 : Int32).toInt = 21 by decide); omega) (by decide) ?_
        refine lv_iinc (v := nI (7 * (k + 1))) (lv' := [(3, .int (nI (7 * (k + 1)))), (0, .ref b), (1, .ref x), (2, .ref y)]) hx hb dL_law_956 hl (k := 3) rfl (lw_7 k) (by decide) rfl (fun ls hl => ?_)
        refine lv_goto (tgt := 18) hx hb dL_law_959 (by decide) ?_
        refine W.widen (k := 250 + 2 * (k + 1)) (n := 12629 + 15 * (k + 1)) (by omega) (by omega) ?_
        exact ih18 (k + 1) tg td pc ac sc ln se plv w (by omega) (by omega) hIX hIM ls (lv_sub hl [1, 2, 3, 0] rfl) H locs hP hD hS
  refine W.widen (k := 250 + 2 * 0) (n := 12629 + 15 * 0) (by omega) (by omega) ?_
  exact lp18 512 0 tg3 0 0 0 0 0 se (fun _ => 0) w14 (by omega) (by omega) hIX3 hIM ls (lv_sub hl [3, 2, 1, 0] rfl) H locs hP hD hS
