/-! THE CLAIM OUT OF ONE WALK OF THE LAW'S BODY. Your part is whole_start (and what it stands on); all else here is the same for every law, but numbers. -/
def R_law : String := "NoteHouseLaw"
def lw_P (b : Addr) (xs : List Int32) (args : Array Value) (s : State) : Prop := args = #[.ref b] ∧ s.IntsAt b xs ∧ xs.length ≤ 3584 ∧ (Jvm.Cond.and given_1 narrow_1).before args s = true
def lw_Q (_ : Array Value) (s : State) (o : Outcome) (t : State) : Prop := o = .returned (some (.int 1)) ∧ Framed s o t [] 600000 7302250
def lw_Z (below : List Frame) (a : Array Value) (s : State) : State → Prop := fun t => ∃ o, t.status = .running ∧ Ended t below o ∧ lw_Q a s o t
/-- the law's own end, with 1 on the stack, nothing written that was there before, its room as the claim has it -/
theorem lw_ret {p : Program} {l : Launch} {e : Env} {s : State} {m : MethodId} {below : List Frame} {meth : Method} {c : Code} {b : Nat} (hx : p.tables.exec = Jvm.exec) (hb : c.code = code) (hr : meth.sig.returnType = ret) (hlocks : meth.locks = false) {pc : Nat} {H : Heap} {ls : Array Slot} (hdg : decode code pc = .ok (.ireturn, 1)) : W p l e room_1 s m #[Value.ref b] below meth c H [] 600000 7302250 (lw_Z below #[Value.ref b] s) (F0 m pc ls [.int 1]) := by
  intro T hT X
  obtain ⟨fs, hret, hrun, hended, hW, hframe⟩ := X.leave (v := some (.int 1)) (hlocks := hlocks) (fun h => by rw [hr] at h; cases h)
  have hmeth' : T.vm.method? m = some meth := X.method'
  refine ⟨T.setFrames fs, ?_, .returned (some (.int 1)), hrun, hended, rfl, ⟨_, rfl⟩, hW, hframe⟩
  jvm_step X.here [X.here.top, hx, hb, hdg, hmeth', hr, ret, narrow_b1]
  (try refine ⟨rfl, ?_⟩); (try refine ⟨rfl, ?_⟩)
  first | (intro acts; rw [hret _ acts rfl rfl rfl]) | rw [hret _ _ rfl rfl rfl]
  exact Steps.refl _
/-- what holds at the law's entry: the machine, the code, the tables' words (any of lw_tbl by 'hts w (by decide +kernel)'), the script of L ints xs at the cell b, what the Statement gives of the start (any of its parts by flat_of_before) -/
def lw_At (p : Program) (s : State) (m : MethodId) (meth : Method) (c : Code) (b L : Nat) (xs : Nat → Int32) : Prop :=
  p.tables.exec = Jvm.exec ∧ c.code = code ∧ meth.sig.returnType = ret ∧ c.maxLocals = 4 ∧ s.vm.findClass R_law = some m.cls ∧ (∀ w ∈ lw_tbl, w.before #[Value.ref b] s = true) ∧ va_X b L xs s s.heap ∧ b < s.heap.size ∧ meth.locks = false ∧ (Jvm.Cond.and given_1 narrow_1).before #[Value.ref b] s = true
-- ===== YOUR PART BEGINS =====

set_option maxRecDepth 20000 in
theorem df_11 : ∀ j, j < 60 → defaultValue (tyX11 j) = vp_V [.int 0, .int 0, .null, .null, .null, .null, .null, .int 0, .null, .null, .null, .null, .null, .null, .null, .int 0, .int 0, .null, .null, .null, .null, .null, .null, .null, .null, .int 0, .int 0, .int 0, .int 0, .null, .null, .null, .null, .null, .null, .null, .null, .null, .int 0, .null, .null, .null, .null, .null, .null, .null, .null, .null, .null, .null, .int 0, .null, .null, .null, .null, .int 0, .null, .null, .null, .null] j := by
  intro j hj
  match j, hj with
  | 0, _ => exact rfl
  | 1, _ => exact rfl
  | 2, _ => exact rfl
  | 3, _ => exact rfl
  | 4, _ => exact rfl
  | 5, _ => exact rfl
  | 6, _ => exact rfl
  | 7, _ => exact rfl
  | 8, _ => exact rfl
  | 9, _ => exact rfl
  | 10, _ => exact rfl
  | 11, _ => exact rfl
  | 12, _ => exact rfl
  | 13, _ => exact rfl
  | 14, _ => exact rfl
  | 15, _ => exact rfl
  | 16, _ => exact rfl
  | 17, _ => exact rfl
  | 18, _ => exact rfl
  | 19, _ => exact rfl
  | 20, _ => exact rfl
  | 21, _ => exact rfl
  | 22, _ => exact rfl
  | 23, _ => exact rfl
  | 24, _ => exact rfl
  | 25, _ => exact rfl
  | 26, _ => exact rfl
  | 27, _ => exact rfl
  | 28, _ => exact rfl
  | 29, _ => exact rfl
  | 30, _ => exact rfl
  | 31, _ => exact rfl
  | 32, _ => exact rfl
  | 33, _ => exact rfl
  | 34, _ => exact rfl
  | 35, _ => exact rfl
  | 36, _ => exact rfl
  | 37, _ => exact rfl
  | 38, _ => exact rfl
  | 39, _ => exact rfl
  | 40, _ => exact rfl
  | 41, _ => exact rfl
  | 42, _ => exact rfl
  | 43, _ => exact rfl
  | 44, _ => exact rfl
  | 45, _ => exact rfl
  | 46, _ => exact rfl
  | 47, _ => exact rfl
  | 48, _ => exact rfl
  | 49, _ => exact rfl
  | 50, _ => exact rfl
  | 51, _ => exact rfl
  | 52, _ => exact rfl
  | 53, _ => exact rfl
  | 54, _ => exact rfl
  | 55, _ => exact rfl
  | 56, _ => exact rfl
  | 57, _ => exact rfl
  | 58, _ => exact rfl
  | 59, _ => exact rfl
  | j + 60, hj => exact absurd hj (by omega)
set_option maxHeartbeats 16000000 in
set_option maxRecDepth 100000 in
/-- YOUR PART: from the entry, for every script of at most 3584 ints, the law comes to its end with true -/
theorem whole_start {p : Program} {e : Env} {s : State} {m : MethodId} {below : List Frame} {meth : Method} {c : Code} (l : Launch) {b L : Nat} {xs : Nat → Int32} (hL : L ≤ 3584) (C0 : lw_At p s m meth c b L xs) : W p l e room_1 s m #[Value.ref b] below meth c s.heap [] 0 0 (lw_Z below #[Value.ref b] s) (entryFrame m ([Value.ref b] : List Value).toArray 4) := by
  obtain ⟨hx, hb, hr, hml, hown, hts, hX, hbl, hlocks, hgv⟩ := id C0
  have hbA : ¬ (fun q : Nat => s.heap.size ≤ q) b := Nat.not_le.mpr hbl
  obtain ⟨D, cy, hGd⟩ := gd_start hts
  obtain ⟨sk, sv, hEv⟩ := ev_start (A := fun q : Nat => s.heap.size ≤ q) hts hgv (fun a ha => Nat.not_le.mpr ha)
  have F : wd_Fx p s m #[Value.ref b] meth c cL_law 4 lw_tbl RL D cy sk sv (fun q : Nat => s.heap.size ≤ q) := ⟨⟨hx, hb, hml, hown, hts⟩, hGd, fun _ h => h, hlocks, hEv⟩
  have hl := lv_entry ([.ref b]) (n := 4) (Nat.le_of_ble_eq_true rfl)
  rw [lg_entry_eq]
  generalize (lg_sl ([.ref b]) ++ List.replicate (4 - (lg_sl ([.ref b])).length) Slot.unset).toArray = ls at hl ⊢
  have hl : lv_has ls 4 [(0, .ref b)] := hl
  obtain ⟨w, ew⟩ : ∃ w : Wd, w = ([], fun _ => .inr (0, [])) := ⟨_, rfl⟩
  have hP : va_P D vwCl (wd_pl w) s.heap := by subst ew; intro k q h; simp [wd_pl, va_pl] at h
  have hD : va_D (fun q : Nat => s.heap.size ≤ q) (wd_pl w) := by subst ew; exact ⟨fun i j p q h => by simp [wd_pl, va_pl] at h, fun k q h => by simp [wd_pl, va_pl] at h⟩
  have hS : va_S (fun q : Nat => s.heap.size ≤ q) s.heap s.heap [] := va_S.rf
  refine y_new (fs := [.null, .null, .null, .null, .null, .null, .null, .null, .null, .null, .null, .null, .int 0, .int 0, .int 0, .int 0, .int 0]) F hP hD hS (ci := 10) rfl inX10 tyX10_ok (tm_1 (List.mem_of_getElem? (i := 20) rfl)) (tm_1 (List.mem_of_getElem? (i := 21) rfl)) (tm_1 (List.mem_of_getElem? (i := 1) rfl)) df_10 (Nat.le_of_ble_eq_true rfl) (Nat.le_of_ble_eq_true rfl) dL_law_0 (fun x w1 ew2 hq3 H hP hD hS => ?_)
  refine W.widen (k := 1) (n := 17) (Nat.le_of_ble_eq_true rfl) (Nat.le_of_ble_eq_true rfl) ?_
  have k4 : wd_at w1 x (.inr (10, [.null, .null, .null, .null, .null, .null, .null, .null, .null, .null, .null, .null, .int 0, .int 0, .int 0, .int 0, .int 0])) := wd_at.nw ew2
  refine lv_dup hx hb dL_law_3 rfl ?_
  refine x_callI (ret := none) (n := 0) (As := []) (rest := [.ref x]) F hP hD hS (X_init l D cy sk sv w1 (fun _ => 0) x k4 (fun b => b = x) rfl rfl) gT_X10_init rfl (tm_1 (List.mem_of_getElem? (i := 1) rfl)) (tm_1 (List.mem_of_getElem? (i := 22) rfl)) (tm_1 (List.mem_of_getElem? (i := 23) rfl)) rfl (by decide +kernel) ⟨(Nat.le_of_ble_eq_true rfl), (Nat.le_of_ble_eq_true rfl)⟩ rfl hl.1 (Nat.le_of_ble_eq_true rfl) dL_law_4 rfl ⟨(Nat.le_of_ble_eq_true rfl), (Nat.le_of_ble_eq_true rfl)⟩ (fun v6 w7 hp5 H locs hP hD hS => ?_)
  obtain ⟨rfl, hkx, tg1, -, se, hse, hIX⟩ := hp5
  refine W.eq (g2 := F0 m 7 ls [.ref x]) rfl (W.widen (k := 117) (n := 4748) (Nat.le_of_ble_eq_true rfl) (Nat.le_of_ble_eq_true rfl) ?_)
  refine lv_astore_n (lv' := [(1, .ref x), (0, .ref b)]) hx hb dL_law_7 rfl hl (by decide) rfl (fun ls hl => ?_)
  refine y_new (fs := [.int 0, .int 0, .null, .null, .null, .null, .null, .int 0, .null, .null, .null, .null, .null, .null, .null, .int 0, .int 0, .null, .null, .null, .null, .null, .null, .null, .null, .int 0, .int 0, .int 0, .int 0, .null, .null, .null, .null, .null, .null, .null, .null, .null, .int 0, .null, .null, .null, .null, .null, .null, .null, .null, .null, .null, .null, .int 0, .null, .null, .null, .null, .int 0, .null, .null, .null, .null]) F hP hD hS (ci := 11) rfl inX11 tyX11_ok (tm_4 (List.mem_of_getElem? (i := 74) rfl)) (tm_4 (List.mem_of_getElem? (i := 75) rfl)) (tm_1 (List.mem_of_getElem? (i := 9) rfl)) df_11 (Nat.le_of_ble_eq_true rfl) (Nat.le_of_ble_eq_true rfl) dL_law_8 (fun y w8 ew9 hq10 H hP hD hS => ?_)
  refine W.widen (k := 118) (n := 4808) (Nat.le_of_ble_eq_true rfl) (Nat.le_of_ble_eq_true rfl) ?_
  have k11 : wd_at w8 y (.inr (11, [.int 0, .int 0, .null, .null, .null, .null, .null, .int 0, .null, .null, .null, .null, .null, .null, .null, .int 0, .int 0, .null, .null, .null, .null, .null, .null, .null, .null, .int 0, .int 0, .int 0, .int 0, .null, .null, .null, .null, .null, .null, .null, .null, .null, .int 0, .null, .null, .null, .null, .null, .null, .null, .null, .null, .null, .null, .int 0, .null, .null, .null, .null, .int 0, .null, .null, .null, .null])) := wd_at.nw ew9
  obtain ⟨tg2, etg2⟩ : ∃ f : Nat → Nat, f = va_up tg1 y 10000 := ⟨_, rfl⟩
  have hIX2 := IX.kept (tg1 := tg2) hIX (wd_kp.add (S := fun _ => False) wd_kp.rf ew9 hq10) (fun _ _ h9 => h9) (fun a h9 => by rw [etg2, va_up_ne _ _ (fun z9 : a = y => hq10 (z9 ▸ h9))])
  refine lv_dup hx hb dL_law_11 rfl ?_
  refine x_callI (ret := none) (n := 0) (As := []) (rest := [.ref y]) F hP hD hS (M_init l D cy sk sv w8 tg2 y k11 (fun b => b = y) rfl (by rw [etg2]; exact va_up_self _ _ _)) gT_X11_init rfl (tm_1 (List.mem_of_getElem? (i := 9) rfl)) (tm_4 (List.mem_of_getElem? (i := 76) rfl)) (tm_4 (List.mem_of_getElem? (i := 77) rfl)) rfl (by decide +kernel) ⟨(Nat.le_of_ble_eq_true rfl), (Nat.le_of_ble_eq_true rfl)⟩ rfl hl.1 (Nat.le_of_ble_eq_true rfl) dL_law_12 rfl ⟨(Nat.le_of_ble_eq_true rfl), (Nat.le_of_ble_eq_true rfl)⟩ (fun v13 w14 hp12 H locs hP hD hS => ?_)
  obtain ⟨rfl, hky, tg3, hag3, hIMa⟩ := hp12
  have hIM := hIMa se hse
  have hIX3 := IX.kept hIX2 hky (fun a h9 q9 => by have e9 : a = y := q9; rw [e9, etg2, va_up_self] at h9; omega) hag3
  refine W.eq (g2 := F0 m 15 ls [.ref y]) rfl (W.widen (k := 250) (n := 12629) (Nat.le_of_ble_eq_true rfl) (Nat.le_of_ble_eq_true rfl) ?_)
  refine lv_astore_n (lv' := [(2, .ref y), (1, .ref x), (0, .ref b)]) hx hb dL_law_15 rfl hl (by decide) rfl (fun ls hl => ?_)
  refine lv_iconst (v := 0) hx hb dL_law_16 (by decide) ?_
  refine lv_istore_n (lv' := [(3, .int 0), (2, .ref y), (1, .ref x), (0, .ref b)]) hx hb dL_law_17 rfl hl (by decide) rfl (fun ls hl => ?_)
  have lp18 : ∀ (N k : Nat) (tg : Nat → Nat) (td : Int32) (pc ac sc ln : Nat) (se plv : Nat → Int32) (w : Wd), L < 7 * (k + N) + 7 → k ≤ 512 → IX cy tg x td pc ac sc ln se plv w → IM cy tg y td pc ac sc ln se plv w → ∀ ls : Array Slot, lv_has ls 4 [(0, .ref b), (1, .ref x), (2, .ref y), (3, .int (nI (7 * k)))] → Wv p l e room_1 s m #[Value.ref b] below meth c D (fun q : Nat => s.heap.size ≤ q) (250 + 2 * k) (12629 + 15 * k) (lw_Z below #[Value.ref b] s) w (F0 m 18 ls []) := by
    intro N
    induction N with
    | zero =>
      intro k tg td pc ac sc ln se plv w hN18 hk512 hIX hIM ls hl H locs hP hD hS
      obtain ⟨_, hxc⟩ := hIX.cell
      obtain ⟨_, hyc⟩ := hIM.cell
      refine lv_iload_n hx hb dL_law_18 rfl (lv_at hl 3 rfl) ?_
      refine lv_aload_n hx hb dL_law_19 rfl (lv_at hl 0 rfl) ?_
      refine va_slen hx hb hX hbl hbA hS dL_law_20 ?_
      refine lv_bipush (v := 7) hx hb dL_law_21 (by decide) ?_
      refine lv_isub hx hb dL_law_23 ?_
      refine lv_icmp_gt (tgt := 962) hx hb dL_law_24 (by decide) (fun c_15 => ?_) (fun c_15 => absurd (lw_ex hL hk512 (by omega)) c_15)
      refine lv_iconst (v := 1) hx hb dL_law_962 (by decide) ?_
      refine va_forget (fun q hq => hS.2.2 q hq) ?_
      refine W.widen (k := 600000) (n := 7302250) (by omega) (by omega) ?_
      exact lw_ret hx hb hr hlocks dL_law_963
    | succ N ih18 =>
      intro k tg td pc ac sc ln se plv w hN18 hk512 hIX hIM ls hl H locs hP hD hS
      obtain ⟨_, hxc⟩ := hIX.cell
      obtain ⟨_, hyc⟩ := hIM.cell
      refine lv_iload_n hx hb dL_law_18 rfl (lv_at hl 3 rfl) ?_
      refine lv_aload_n hx hb dL_law_19 rfl (lv_at hl 0 rfl) ?_
      refine va_slen hx hb hX hbl hbA hS dL_law_20 ?_
      refine lv_bipush (v := 7) hx hb dL_law_21 (by decide) ?_
      refine lv_isub hx hb dL_law_23 ?_
      refine lv_icmp_gt (tgt := 962) hx hb dL_law_24 (by decide) (fun c_16 => ?_) (fun c_16 => ?_)
      · refine lv_iconst (v := 1) hx hb dL_law_962 (by decide) ?_
        refine va_forget (fun q hq => hS.2.2 q hq) ?_
        refine W.widen (k := 600000) (n := 7302250) (by omega) (by omega) ?_
        exact lw_ret hx hb hr hlocks dL_law_963
      · have hgo := lw_go hL hk512 c_16
        refine lv_aload_n hx hb dL_law_27 rfl (lv_at hl 0 rfl) ?_
        refine lv_iload_n hx hb dL_law_28 rfl (lv_at hl 3 rfl) ?_
        refine va_sld hx hb hX hbl hbA hS (vp_in_nI (n := (7 * k)) (N := L) (by omega) (by omega)) dL_law_29 ?_
        refine lv_bipush (v := 31) hx hb dL_law_30 (by decide) ?_
        refine lv_iand hx hb dL_law_32 ?_
        refine lv_topi (fun sw esw => ?_)
        by_cases c_17 : sw = 0
        · refine lv_tableIn (off := 103) (tgt := 136) hx hb dL_law_33 (by rw [c_17]; decide) (by rw [c_17]; decide) (by rw [c_17]; decide) (by decide) ?_
          refine lv_aload_n hx hb dL_law_136 rfl (lv_at hl 1 rfl) ?_
          refine lv_aload_n hx hb dL_law_137 rfl (lv_at hl 0 rfl) ?_
          refine lv_iload_n hx hb dL_law_138 rfl (lv_at hl 3 rfl) ?_
          refine lv_iconst (v := 1) hx hb dL_law_139 (by decide) ?_
          refine lv_iadd hx hb dL_law_140 ?_
          rw [show ((nI (7 * k)) + 1 : Int32) = nI ((7 * k) + 1) from nI_add (7 * k) 1]
          refine va_sld hx hb hX hbl hbA hS (vp_in_nI (n := ((7 * k) + 1)) (N := L) (by omega) (by omega)) dL_law_141 ?_
          refine x_callV (n := 1) (As := [.int (xs (nI ((7 * k) + 1)).toNatClampNeg)]) (rest := []) F hP hD hS (X_clock l D cy sk sv w tg x td pc ac sc ln se plv (xs (nI ((7 * k) + 1)).toNatClampNeg) hIX) gT_X10_clock rfl rfl (by decide +kernel) ⟨(Nat.le_of_ble_eq_true rfl), (Nat.le_of_ble_eq_true rfl)⟩ rfl hl.1 (Nat.le_of_ble_eq_true rfl) hxc rfl dL_law_142 rfl ⟨(show 250 + 2 * k + 0 ≤ 600000 from by omega), (show 12629 + 15 * k + 0 ≤ 7302250 from by omega)⟩ (fun v19 w20 hp18 H locs hP hD hS => ?_)
          obtain ⟨rfl, tg21, hg22, hk23, hIX24⟩ := hp18
          have hIM25 := IM.kept hIM hk23 (fun a h9 => Nat.not_lt.mpr h9) hg22
          obtain ⟨_, hxc26⟩ := hIX24.cell
          obtain ⟨_, hyc27⟩ := hIM25.cell
          refine W.eq (g2 := F0 m 145 ls [.int (ckA td (xs (nI ((7 * k) + 1)).toNatClampNeg))]) rfl (W.widen (k := 250 + 2 * k + 0) (n := 12629 + 15 * k + 0) (Nat.le_refl _) (Nat.le_refl _) ?_)
          refine lv_pop hx hb dL_law_145 rfl ?_
          refine lv_aload_n hx hb dL_law_146 rfl (lv_at hl 2 rfl) ?_
          refine lv_aload_n hx hb dL_law_147 rfl (lv_at hl 0 rfl) ?_
          refine lv_iload_n hx hb dL_law_148 rfl (lv_at hl 3 rfl) ?_
          refine lv_iconst (v := 1) hx hb dL_law_149 (by decide) ?_
          refine lv_iadd hx hb dL_law_150 ?_
          rw [show ((nI (7 * k)) + 1 : Int32) = nI ((7 * k) + 1) from nI_add (7 * k) 1]
          refine va_sld hx hb hX hbl hbA hS (vp_in_nI (n := ((7 * k) + 1)) (N := L) (by omega) (by omega)) dL_law_151 ?_
          refine x_callV (n := 1) (As := [.int (xs (nI ((7 * k) + 1)).toNatClampNeg)]) (rest := []) F hP hD hS (M_clock l D cy sk sv w20 tg21 y td pc ac sc ln se plv (xs (nI ((7 * k) + 1)).toNatClampNeg) hIM25) gT_X11_clock rfl rfl (by decide +kernel) ⟨(Nat.le_of_ble_eq_true rfl), (Nat.le_of_ble_eq_true rfl)⟩ rfl hl.1 (Nat.le_of_ble_eq_true rfl) hyc27 rfl dL_law_152 rfl ⟨(show 250 + 2 * k + 0 + 0 ≤ 600000 from by omega), (show 12629 + 15 * k + 0 + 0 ≤ 7302250 from by omega)⟩ (fun v29 w30 hp28 H locs hP hD hS => ?_)
          obtain ⟨rfl, hk31, hIM33⟩ := hp28
          have hIX32 := IX.kept hIX24 hk31 (fun a h9 => Nat.not_le.mpr h9) (fun _ _ => rfl)
          obtain ⟨_, hxc34⟩ := hIX32.cell
          obtain ⟨_, hyc35⟩ := hIM33.cell
          refine W.eq (g2 := F0 m 155 ls [.int (ckA td (xs (nI ((7 * k) + 1)).toNatClampNeg))]) rfl (W.widen (k := 250 + 2 * k + 0 + 0) (n := 12629 + 15 * k + 0 + 0) (Nat.le_refl _) (Nat.le_refl _) ?_)
          refine lv_pop hx hb dL_law_155 rfl ?_
          refine lv_goto (tgt := 956) hx hb dL_law_156 (by decide) ?_
          refine lv_iinc (v := nI (7 * (k + 1))) (lv' := [(3, .int (nI (7 * (k + 1)))), (0, .ref b), (1, .ref x), (2, .ref y)]) hx hb dL_law_956 hl (k := 3) rfl (lw_7 k) (by decide) rfl (fun ls hl => ?_)
          refine lv_goto (tgt := 18) hx hb dL_law_959 (by decide) ?_
          refine W.widen (k := 250 + 2 * (k + 1)) (n := 12629 + 15 * (k + 1)) (by omega) (by omega) ?_
          exact ih18 (k + 1) tg21 (ckT td (xs (nI ((7 * k) + 1)).toNatClampNeg)) pc ac sc ln se plv w30 (by omega) (by omega) hIX32 hIM33 ls (lv_sub hl [1, 2, 3, 0] rfl) H locs hP hD hS
        by_cases c_36 : sw = 1
        · refine lv_tableIn (off := 126) (tgt := 159) hx hb dL_law_33 (by rw [c_36]; decide) (by rw [c_36]; decide) (by rw [c_36]; decide) (by decide) ?_
          refine lv_aload_n hx hb dL_law_159 rfl (lv_at hl 1 rfl) ?_
          refine lv_aload_n hx hb dL_law_160 rfl (lv_at hl 0 rfl) ?_
          refine lv_iload_n hx hb dL_law_161 rfl (lv_at hl 3 rfl) ?_
          refine lv_iconst (v := 1) hx hb dL_law_162 (by decide) ?_
          refine lv_iadd hx hb dL_law_163 ?_
          rw [show ((nI (7 * k)) + 1 : Int32) = nI ((7 * k) + 1) from nI_add (7 * k) 1]
          refine va_sld hx hb hX hbl hbA hS (vp_in_nI (n := ((7 * k) + 1)) (N := L) (by omega) (by omega)) dL_law_164 ?_
          refine lv_aload_n hx hb dL_law_165 rfl (lv_at hl 0 rfl) ?_
          refine lv_iload_n hx hb dL_law_166 rfl (lv_at hl 3 rfl) ?_
          refine lv_iconst (v := 2) hx hb dL_law_167 (by decide) ?_
          refine lv_iadd hx hb dL_law_168 ?_
          rw [show ((nI (7 * k)) + 2 : Int32) = nI ((7 * k) + 2) from nI_add (7 * k) 2]
          refine va_sld hx hb hX hbl hbA hS (vp_in_nI (n := ((7 * k) + 2)) (N := L) (by omega) (by omega)) dL_law_169 ?_
          refine lv_aload_n hx hb dL_law_170 rfl (lv_at hl 0 rfl) ?_
          refine lv_iload_n hx hb dL_law_171 rfl (lv_at hl 3 rfl) ?_
          refine lv_iconst (v := 3) hx hb dL_law_172 (by decide) ?_
          refine lv_iadd hx hb dL_law_173 ?_
          rw [show ((nI (7 * k)) + 3 : Int32) = nI ((7 * k) + 3) from nI_add (7 * k) 3]
          refine va_sld hx hb hX hbl hbA hS (vp_in_nI (n := ((7 * k) + 3)) (N := L) (by omega) (by omega)) dL_law_174 ?_
          refine lv_if_eq (tgt := 182) hx hb dL_law_175 (by decide) (fun c_37 => ?_) (fun c_37 => ?_)
          · refine lv_iconst (v := 0) hx hb dL_law_182 (by decide) ?_
            refine lv_aload_n hx hb dL_law_183 rfl (lv_at hl 0 rfl) ?_
            refine lv_iload_n hx hb dL_law_184 rfl (lv_at hl 3 rfl) ?_
            refine lv_iconst (v := 4) hx hb dL_law_185 (by decide) ?_
            refine lv_iadd hx hb dL_law_186 ?_
            rw [show ((nI (7 * k)) + 4 : Int32) = nI ((7 * k) + 4) from nI_add (7 * k) 4]
            refine va_sld hx hb hX hbl hbA hS (vp_in_nI (n := ((7 * k) + 4)) (N := L) (by omega) (by omega)) dL_law_187 ?_
            refine x_callV (n := 4) (As := [.int (xs (nI ((7 * k) + 1)).toNatClampNeg), .int (xs (nI ((7 * k) + 2)).toNatClampNeg), .int 0, .int (xs (nI ((7 * k) + 4)).toNatClampNeg)]) (rest := []) F hP hD hS (X_way l D cy sk sv w tg x td pc ac sc ln se plv (xs (nI ((7 * k) + 1)).toNatClampNeg) (xs (nI ((7 * k) + 2)).toNatClampNeg) 0 (xs (nI ((7 * k) + 4)).toNatClampNeg) hIX) gT_X10_way rfl rfl (by decide +kernel) ⟨(Nat.le_of_ble_eq_true rfl), (Nat.le_of_ble_eq_true rfl)⟩ rfl hl.1 (Nat.le_of_ble_eq_true rfl) hxc rfl dL_law_188 rfl ⟨(show 250 + 2 * k + 0 ≤ 600000 from by omega), (show 12629 + 15 * k + 0 ≤ 7302250 from by omega)⟩ (fun v39 w40 hp38 H locs hP hD hS => ?_)
            obtain ⟨rfl, tg41, hg42, hk43, hIX44⟩ := hp38
            have hIM45 := IM.kept hIM hk43 (fun a h9 => Nat.not_lt.mpr h9) hg42
            obtain ⟨_, hxc46⟩ := hIX44.cell
            obtain ⟨_, hyc47⟩ := hIM45.cell
            refine W.eq (g2 := F0 m 191 ls [.int (wayA (xs (nI ((7 * k) + 1)).toNatClampNeg) (xs (nI ((7 * k) + 2)).toNatClampNeg) (xs (nI ((7 * k) + 4)).toNatClampNeg))]) rfl (W.widen (k := 250 + 2 * k + 0) (n := 12629 + 15 * k + 0) (Nat.le_refl _) (Nat.le_refl _) ?_)
            refine lv_pop hx hb dL_law_191 rfl ?_
            refine lv_aload_n hx hb dL_law_192 rfl (lv_at hl 2 rfl) ?_
            refine lv_aload_n hx hb dL_law_193 rfl (lv_at hl 0 rfl) ?_
            refine lv_iload_n hx hb dL_law_194 rfl (lv_at hl 3 rfl) ?_
            refine lv_iconst (v := 1) hx hb dL_law_195 (by decide) ?_
            refine lv_iadd hx hb dL_law_196 ?_
            rw [show ((nI (7 * k)) + 1 : Int32) = nI ((7 * k) + 1) from nI_add (7 * k) 1]
            refine va_sld hx hb hX hbl hbA hS (vp_in_nI (n := ((7 * k) + 1)) (N := L) (by omega) (by omega)) dL_law_197 ?_
            refine lv_aload_n hx hb dL_law_198 rfl (lv_at hl 0 rfl) ?_
            refine lv_iload_n hx hb dL_law_199 rfl (lv_at hl 3 rfl) ?_
            refine lv_iconst (v := 2) hx hb dL_law_200 (by decide) ?_
            refine lv_iadd hx hb dL_law_201 ?_
            rw [show ((nI (7 * k)) + 2 : Int32) = nI ((7 * k) + 2) from nI_add (7 * k) 2]
            refine va_sld hx hb hX hbl hbA hS (vp_in_nI (n := ((7 * k) + 2)) (N := L) (by omega) (by omega)) dL_law_202 ?_
            refine lv_aload_n hx hb dL_law_203 rfl (lv_at hl 0 rfl) ?_
            refine lv_iload_n hx hb dL_law_204 rfl (lv_at hl 3 rfl) ?_
            refine lv_iconst (v := 3) hx hb dL_law_205 (by decide) ?_
            refine lv_iadd hx hb dL_law_206 ?_
            rw [show ((nI (7 * k)) + 3 : Int32) = nI ((7 * k) + 3) from nI_add (7 * k) 3]
            refine va_sld hx hb hX hbl hbA hS (vp_in_nI (n := ((7 * k) + 3)) (N := L) (by omega) (by omega)) dL_law_207 ?_
            refine lv_if_eq (tgt := 215) hx hb dL_law_208 (by decide) (fun c_48 => ?_) (fun c_48 => absurd c_37 c_48)
            refine lv_iconst (v := 0) hx hb dL_law_215 (by decide) ?_
            refine lv_aload_n hx hb dL_law_216 rfl (lv_at hl 0 rfl) ?_
            refine lv_iload_n hx hb dL_law_217 rfl (lv_at hl 3 rfl) ?_
            refine lv_iconst (v := 4) hx hb dL_law_218 (by decide) ?_
            refine lv_iadd hx hb dL_law_219 ?_
            rw [show ((nI (7 * k)) + 4 : Int32) = nI ((7 * k) + 4) from nI_add (7 * k) 4]
            refine va_sld hx hb hX hbl hbA hS (vp_in_nI (n := ((7 * k) + 4)) (N := L) (by omega) (by omega)) dL_law_220 ?_
            refine x_callV (n := 4) (As := [.int (xs (nI ((7 * k) + 1)).toNatClampNeg), .int (xs (nI ((7 * k) + 2)).toNatClampNeg), .int 0, .int (xs (nI ((7 * k) + 4)).toNatClampNeg)]) (rest := []) F hP hD hS (M_way l D cy sk sv w40 tg41 y td pc ac sc ln se plv (xs (nI ((7 * k) + 1)).toNatClampNeg) (xs (nI ((7 * k) + 2)).toNatClampNeg) 0 (xs (nI ((7 * k) + 4)).toNatClampNeg) hIM45) gT_X11_way rfl rfl (by decide +kernel) ⟨(Nat.le_of_ble_eq_true rfl), (Nat.le_of_ble_eq_true rfl)⟩ rfl hl.1 (Nat.le_of_ble_eq_true rfl) hyc47 rfl dL_law_221 rfl ⟨(show 250 + 2 * k + 0 + 0 ≤ 600000 from by omega), (show 12629 + 15 * k + 0 + 0 ≤ 7302250 from by omega)⟩ (fun v50 w51 hp49 H locs hP hD hS => ?_)
            obtain ⟨rfl, hk52, hIM54⟩ := hp49
            have hIX53 := IX.kept hIX44 hk52 (fun a h9 => Nat.not_le.mpr h9) (fun _ _ => rfl)
            obtain ⟨_, hxc55⟩ := hIX53.cell
            obtain ⟨_, hyc56⟩ := hIM54.cell
            refine W.eq (g2 := F0 m 224 ls [.int (wayA (xs (nI ((7 * k) + 1)).toNatClampNeg) (xs (nI ((7 * k) + 2)).toNatClampNeg) (xs (nI ((7 * k) + 4)).toNatClampNeg))]) rfl (W.widen (k := 250 + 2 * k + 0 + 0) (n := 12629 + 15 * k + 0 + 0) (Nat.le_refl _) (Nat.le_refl _) ?_)
            refine lv_pop hx hb dL_law_224 rfl ?_
            refine lv_goto (tgt := 956) hx hb dL_law_225 (by decide) ?_
            refine lv_iinc (v := nI (7 * (k + 1))) (lv' := [(3, .int (nI (7 * (k + 1)))), (0, .ref b), (1, .ref x), (2, .ref y)]) hx hb dL_law_956 hl (k := 3) rfl (lw_7 k) (by decide) rfl (fun ls hl => ?_)
            refine lv_goto (tgt := 18) hx hb dL_law_959 (by decide) ?_
            refine W.widen (k := 250 + 2 * (k + 1)) (n := 12629 + 15 * (k + 1)) (by omega) (by omega) ?_
            exact ih18 (k + 1) tg41 td pc ac sc ln se plv w51 (by omega) (by omega) hIX53 hIM54 ls (lv_sub hl [1, 2, 3, 0] rfl) H locs hP hD hS
          · refine lv_iconst (v := 1) hx hb dL_law_178 (by decide) ?_
            refine lv_goto (tgt := 183) hx hb dL_law_179 (by decide) ?_
            refine lv_aload_n hx hb dL_law_183 rfl (lv_at hl 0 rfl) ?_
            refine lv_iload_n hx hb dL_law_184 rfl (lv_at hl 3 rfl) ?_
            refine lv_iconst (v := 4) hx hb dL_law_185 (by decide) ?_
            refine lv_iadd hx hb dL_law_186 ?_
            rw [show ((nI (7 * k)) + 4 : Int32) = nI ((7 * k) + 4) from nI_add (7 * k) 4]
            refine va_sld hx hb hX hbl hbA hS (vp_in_nI (n := ((7 * k) + 4)) (N := L) (by omega) (by omega)) dL_law_187 ?_
            refine x_callV (n := 4) (As := [.int (xs (nI ((7 * k) + 1)).toNatClampNeg), .int (xs (nI ((7 * k) + 2)).toNatClampNeg), .int 1, .int (xs (nI ((7 * k) + 4)).toNatClampNeg)]) (rest := []) F hP hD hS (X_way l D cy sk sv w tg x td pc ac sc ln se plv (xs (nI ((7 * k) + 1)).toNatClampNeg) (xs (nI ((7 * k) + 2)).toNatClampNeg) 1 (xs (nI ((7 * k) + 4)).toNatClampNeg) hIX) gT_X10_way rfl rfl (by decide +kernel) ⟨(Nat.le_of_ble_eq_true rfl), (Nat.le_of_ble_eq_true rfl)⟩ rfl hl.1 (Nat.le_of_ble_eq_true rfl) hxc rfl dL_law_188 rfl ⟨(show 250 + 2 * k + 0 ≤ 600000 from by omega), (show 12629 + 15 * k + 0 ≤ 7302250 from by omega)⟩ (fun v58 w59 hp57 H locs hP hD hS => ?_)
            obtain ⟨rfl, tg60, hg61, hk62, hIX63⟩ := hp57
            have hIM64 := IM.kept hIM hk62 (fun a h9 => Nat.not_lt.mpr h9) hg61
            obtain ⟨_, hxc65⟩ := hIX63.cell
            obtain ⟨_, hyc66⟩ := hIM64.cell
            refine W.eq (g2 := F0 m 191 ls [.int (wayA (xs (nI ((7 * k) + 1)).toNatClampNeg) (xs (nI ((7 * k) + 2)).toNatClampNeg) (xs (nI ((7 * k) + 4)).toNatClampNeg))]) rfl (W.widen (k := 250 + 2 * k + 0) (n := 12629 + 15 * k + 0) (Nat.le_refl _) (Nat.le_refl _) ?_)
            refine lv_pop hx hb dL_law_191 rfl ?_
            refine lv_aload_n hx hb dL_law_192 rfl (lv_at hl 2 rfl) ?_
            refine lv_aload_n hx hb dL_law_193 rfl (lv_at hl 0 rfl) ?_
            refine lv_iload_n hx hb dL_law_194 rfl (lv_at hl 3 rfl) ?_
            refine lv_iconst (v := 1) hx hb dL_law_195 (by decide) ?_
            refine lv_iadd hx hb dL_law_196 ?_
            rw [show ((nI (7 * k)) + 1 : Int32) = nI ((7 * k) + 1) from nI_add (7 * k) 1]
            refine va_sld hx hb hX hbl hbA hS (vp_in_nI (n := ((7 * k) + 1)) (N := L) (by omega) (by omega)) dL_law_197 ?_
            refine lv_aload_n hx hb dL_law_198 rfl (lv_at hl 0 rfl) ?_
            refine lv_iload_n hx hb dL_law_199 rfl (lv_at hl 3 rfl) ?_
            refine lv_iconst (v := 2) hx hb dL_law_200 (by decide) ?_
            refine lv_iadd hx hb dL_law_201 ?_
            rw [show ((nI (7 * k)) + 2 : Int32) = nI ((7 * k) + 2) from nI_add (7 * k) 2]
            refine va_sld hx hb hX hbl hbA hS (vp_in_nI (n := ((7 * k) + 2)) (N := L) (by omega) (by omega)) dL_law_202 ?_
            refine lv_aload_n hx hb dL_law_203 rfl (lv_at hl 0 rfl) ?_
            refine lv_iload_n hx hb dL_law_204 rfl (lv_at hl 3 rfl) ?_
            refine lv_iconst (v := 3) hx hb dL_law_205 (by decide) ?_
            refine lv_iadd hx hb dL_law_206 ?_
            rw [show ((nI (7 * k)) + 3 : Int32) = nI ((7 * k) + 3) from nI_add (7 * k) 3]
            refine va_sld hx hb hX hbl hbA hS (vp_in_nI (n := ((7 * k) + 3)) (N := L) (by omega) (by omega)) dL_law_207 ?_
            refine lv_if_eq (tgt := 215) hx hb dL_law_208 (by decide) (fun c_67 => absurd c_67 c_37) (fun c_67 => ?_)
            refine lv_iconst (v := 1) hx hb dL_law_211 (by decide) ?_
            refine lv_goto (tgt := 216) hx hb dL_law_212 (by decide) ?_
            refine lv_aload_n hx hb dL_law_216 rfl (lv_at hl 0 rfl) ?_
            refine lv_iload_n hx hb dL_law_217 rfl (lv_at hl 3 rfl) ?_
            refine lv_iconst (v := 4) hx hb dL_law_218 (by decide) ?_
            refine lv_iadd hx hb dL_law_219 ?_
            rw [show ((nI (7 * k)) + 4 : Int32) = nI ((7 * k) + 4) from nI_add (7 * k) 4]
            refine va_sld hx hb hX hbl hbA hS (vp_in_nI (n := ((7 * k) + 4)) (N := L) (by omega) (by omega)) dL_law_220 ?_
            refine x_callV (n := 4) (As := [.int (xs (nI ((7 * k) + 1)).toNatClampNeg), .int (xs (nI ((7 * k) + 2)).toNatClampNeg), .int 1, .int (xs (nI ((7 * k) + 4)).toNatClampNeg)]) (rest := []) F hP hD hS (M_way l D cy sk sv w59 tg60 y td pc ac sc ln se plv (xs (nI ((7 * k) + 1)).toNatClampNeg) (xs (nI ((7 * k) + 2)).toNatClampNeg) 1 (xs (nI ((7 * k) + 4)).toNatClampNeg) hIM64) gT_X11_way rfl rfl (by decide +kernel) ⟨(Nat.le_of_ble_eq_true rfl), (Nat.le_of_ble_eq_true rfl)⟩ rfl hl.1 (Nat.le_of_ble_eq_true rfl) hyc66 rfl dL_law_221 rfl ⟨(show 250 + 2 * k + 0 + 0 ≤ 600000 from by omega), (show 12629 + 15 * k + 0 + 0 ≤ 7302250 from by omega)⟩ (fun v69 w70 hp68 H locs hP hD hS => ?_)
            obtain ⟨rfl, hk71, hIM73⟩ := hp68
            have hIX72 := IX.kept hIX63 hk71 (fun a h9 => Nat.not_le.mpr h9) (fun _ _ => rfl)
            obtain ⟨_, hxc74⟩ := hIX72.cell
            obtain ⟨_, hyc75⟩ := hIM73.cell
            refine W.eq (g2 := F0 m 224 ls [.int (wayA (xs (nI ((7 * k) + 1)).toNatClampNeg) (xs (nI ((7 * k) + 2)).toNatClampNeg) (xs (nI ((7 * k) + 4)).toNatClampNeg))]) rfl (W.widen (k := 250 + 2 * k + 0 + 0) (n := 12629 + 15 * k + 0 + 0) (Nat.le_refl _) (Nat.le_refl _) ?_)
            refine lv_pop hx hb dL_law_224 rfl ?_
            refine lv_goto (tgt := 956) hx hb dL_law_225 (by decide) ?_
            refine lv_iinc (v := nI (7 * (k + 1))) (lv' := [(3, .int (nI (7 * (k + 1)))), (0, .ref b), (1, .ref x), (2, .ref y)]) hx hb dL_law_956 hl (k := 3) rfl (lw_7 k) (by decide) rfl (fun ls hl => ?_)
            refine lv_goto (tgt := 18) hx hb dL_law_959 (by decide) ?_
            refine W.widen (k := 250 + 2 * (k + 1)) (n := 12629 + 15 * (k + 1)) (by omega) (by omega) ?_
            exact ih18 (k + 1) tg60 td pc ac sc ln se plv w70 (by omega) (by omega) hIX72 hIM73 ls (lv_sub hl [1, 2, 3, 0] rfl) H locs hP hD hS
        by_cases c_76 : sw = 2
        · refine lv_tableIn (off := 195) (tgt := 228) hx hb dL_law_33 (by rw [c_76]; decide) (by rw [c_76]; decide) (by rw [c_76]; decide) (by decide) ?_
          refine lv_aload_n hx hb dL_law_228 rfl (lv_at hl 1 rfl) ?_
          refine lv_aload_n hx hb dL_law_229 rfl (lv_at hl 0 rfl) ?_
          refine lv_iload_n hx hb dL_law_230 rfl (lv_at hl 3 rfl) ?_
          refine lv_iconst (v := 1) hx hb dL_law_231 (by decide) ?_
          refine lv_iadd hx hb dL_law_232 ?_
          rw [show ((nI (7 * k)) + 1 : Int32) = nI ((7 * k) + 1) from nI_add (7 * k) 1]
          refine va_sld hx hb hX hbl hbA hS (vp_in_nI (n := ((7 * k) + 1)) (N := L) (by omega) (by omega)) dL_law_233 ?_
          refine lv_aload_n hx hb dL_law_234 rfl (lv_at hl 0 rfl) ?_
          refine lv_iload_n hx hb dL_law_235 rfl (lv_at hl 3 rfl) ?_
          refine lv_iconst (v := 2) hx hb dL_law_236 (by decide) ?_
          refine lv_iadd hx hb dL_law_237 ?_
          rw [show ((nI (7 * k)) + 2 : Int32) = nI ((7 * k) + 2) from nI_add (7 * k) 2]
          refine va_sld hx hb hX hbl hbA hS (vp_in_nI (n := ((7 * k) + 2)) (N := L) (by omega) (by omega)) dL_law_238 ?_
          refine lv_aload_n hx hb dL_law_239 rfl (lv_at hl 0 rfl) ?_
          refine lv_iload_n hx hb dL_law_240 rfl (lv_at hl 3 rfl) ?_
          refine lv_iconst (v := 3) hx hb dL_law_241 (by decide) ?_
          refine lv_iadd hx hb dL_law_242 ?_
          rw [show ((nI (7 * k)) + 3 : Int32) = nI ((7 * k) + 3) from nI_add (7 * k) 3]
          refine va_sld hx hb hX hbl hbA hS (vp_in_nI (n := ((7 * k) + 3)) (N := L) (by omega) (by omega)) dL_law_243 ?_
          refine x_callV (n := 3) (As := [.int (xs (nI ((7 * k) + 1)).toNatClampNeg), .int (xs (nI ((7 * k) + 2)).toNatClampNeg), .int (xs (nI ((7 * k) + 3)).toNatClampNeg)]) (rest := []) F hP hD hS (X_rate l D cy sk sv w tg x td pc ac sc ln se plv (xs (nI ((7 * k) + 1)).toNatClampNeg) (xs (nI ((7 * k) + 2)).toNatClampNeg) (xs (nI ((7 * k) + 3)).toNatClampNeg) hIX) gT_X10_rate rfl rfl (by decide +kernel) ⟨(Nat.le_of_ble_eq_true rfl), (Nat.le_of_ble_eq_true rfl)⟩ rfl hl.1 (Nat.le_of_ble_eq_true rfl) hxc rfl dL_law_244 rfl ⟨(show 250 + 2 * k + 0 ≤ 600000 from by omega), (show 12629 + 15 * k + 0 ≤ 7302250 from by omega)⟩ (fun v78 w79 hp77 H locs hP hD hS => ?_)
          obtain ⟨rfl, tg80, hg81, hk82, hIX83⟩ := hp77
          have hIM84 := IM.kept hIM hk82 (fun a h9 => Nat.not_lt.mpr h9) hg81
          obtain ⟨_, hxc85⟩ := hIX83.cell
          obtain ⟨_, hyc86⟩ := hIM84.cell
          refine W.eq (g2 := F0 m 247 ls [.int (rateA (xs (nI ((7 * k) + 1)).toNatClampNeg) (xs (nI ((7 * k) + 2)).toNatClampNeg) (xs (nI ((7 * k) + 3)).toNatClampNeg))]) rfl (W.widen (k := 250 + 2 * k + 0) (n := 12629 + 15 * k + 0) (Nat.le_refl _) (Nat.le_refl _) ?_)
          refine lv_pop hx hb dL_law_247 rfl ?_
          refine lv_aload_n hx hb dL_law_248 rfl (lv_at hl 2 rfl) ?_
          refine lv_aload_n hx hb dL_law_249 rfl (lv_at hl 0 rfl) ?_
          refine lv_iload_n hx hb dL_law_250 rfl (lv_at hl 3 rfl) ?_
          refine lv_iconst (v := 1) hx hb dL_law_251 (by decide) ?_
          refine lv_iadd hx hb dL_law_252 ?_
          rw [show ((nI (7 * k)) + 1 : Int32) = nI ((7 * k) + 1) from nI_add (7 * k) 1]
          refine va_sld hx hb hX hbl hbA hS (vp_in_nI (n := ((7 * k) + 1)) (N := L) (by omega) (by omega)) dL_law_253 ?_
          refine lv_aload_n hx hb dL_law_254 rfl (lv_at hl 0 rfl) ?_
          refine lv_iload_n hx hb dL_law_255 rfl (lv_at hl 3 rfl) ?_
          refine lv_iconst (v := 2) hx hb dL_law_256 (by decide) ?_
          refine lv_iadd hx hb dL_law_257 ?_
          rw [show ((nI (7 * k)) + 2 : Int32) = nI ((7 * k) + 2) from nI_add (7 * k) 2]
          refine va_sld hx hb hX hbl hbA hS (vp_in_nI (n := ((7 * k) + 2)) (N := L) (by omega) (by omega)) dL_law_258 ?_
          refine lv_aload_n hx hb dL_law_259 rfl (lv_at hl 0 rfl) ?_
          refine lv_iload_n hx hb dL_law_260 rfl (lv_at hl 3 rfl) ?_
          refine lv_iconst (v := 3) hx hb dL_law_261 (by decide) ?_
          refine lv_iadd hx hb dL_law_262 ?_
          rw [show ((nI (7 * k)) + 3 : Int32) = nI ((7 * k) + 3) from nI_add (7 * k) 3]
          refine va_sld hx hb hX hbl hbA hS (vp_in_nI (n := ((7 * k) + 3)) (N := L) (by omega) (by omega)) dL_law_263 ?_
          refine x_callV (n := 3) (As := [.int (xs (nI ((7 * k) + 1)).toNatClampNeg), .int (xs (nI ((7 * k) + 2)).toNatClampNeg), .int (xs (nI ((7 * k) + 3)).toNatClampNeg)]) (rest := []) F hP hD hS (M_rate l D cy sk sv w79 tg80 y td pc ac sc ln se plv (xs (nI ((7 * k) + 1)).toNatClampNeg) (xs (nI ((7 * k) + 2)).toNatClampNeg) (xs (nI ((7 * k) + 3)).toNatClampNeg) hIM84) gT_X11_rate rfl rfl (by decide +kernel) ⟨(Nat.le_of_ble_eq_true rfl), (Nat.le_of_ble_eq_true rfl)⟩ rfl hl.1 (Nat.le_of_ble_eq_true rfl) hyc86 rfl dL_law_264 rfl ⟨(show 250 + 2 * k + 0 + 0 ≤ 600000 from by omega), (show 12629 + 15 * k + 0 + 0 ≤ 7302250 from by omega)⟩ (fun v88 w89 hp87 H locs hP hD hS => ?_)
          obtain ⟨rfl, hk90, hIM92⟩ := hp87
          have hIX91 := IX.kept hIX83 hk90 (fun a h9 => Nat.not_le.mpr h9) (fun _ _ => rfl)
          obtain ⟨_, hxc93⟩ := hIX91.cell
          obtain ⟨_, hyc94⟩ := hIM92.cell
          refine W.eq (g2 := F0 m 267 ls [.int (rateA (xs (nI ((7 * k) + 1)).toNatClampNeg) (xs (nI ((7 * k) + 2)).toNatClampNeg) (xs (nI ((7 * k) + 3)).toNatClampNeg))]) rfl (W.widen (k := 250 + 2 * k + 0 + 0) (n := 12629 + 15 * k + 0 + 0) (Nat.le_refl _) (Nat.le_refl _) ?_)
          refine lv_pop hx hb dL_law_267 rfl ?_
          refine lv_goto (tgt := 956) hx hb dL_law_268 (by decide) ?_
          refine lv_iinc (v := nI (7 * (k + 1))) (lv' := [(3, .int (nI (7 * (k + 1)))), (0, .ref b), (1, .ref x), (2, .ref y)]) hx hb dL_law_956 hl (k := 3) rfl (lw_7 k) (by decide) rfl (fun ls hl => ?_)
          refine lv_goto (tgt := 18) hx hb dL_law_959 (by decide) ?_
          refine W.widen (k := 250 + 2 * (k + 1)) (n := 12629 + 15 * (k + 1)) (by omega) (by omega) ?_
          exact ih18 (k + 1) tg80 td pc ac sc ln se plv w89 (by omega) (by omega) hIX91 hIM92 ls (lv_sub hl [1, 2, 3, 0] rfl) H locs hP hD hS
        by_cases c_95 : sw = 3
        · refine lv_tableIn (off := 238) (tgt := 271) hx hb dL_law_33 (by rw [c_95]; decide) (by rw [c_95]; decide) (by rw [c_95]; decide) (by decide) ?_
          refine lv_aload_n hx hb dL_law_271 rfl (lv_at hl 1 rfl) ?_
          refine lv_aload_n hx hb dL_law_272 rfl (lv_at hl 0 rfl) ?_
          refine lv_iload_n hx hb dL_law_273 rfl (lv_at hl 3 rfl) ?_
          refine lv_iconst (v := 1) hx hb dL_law_274 (by decide) ?_
          refine lv_iadd hx hb dL_law_275 ?_
          rw [show ((nI (7 * k)) + 1 : Int32) = nI ((7 * k) + 1) from nI_add (7 * k) 1]
          refine va_sld hx hb hX hbl hbA hS (vp_in_nI (n := ((7 * k) + 1)) (N := L) (by omega) (by omega)) dL_law_276 ?_
          refine lv_aload_n hx hb dL_law_277 rfl (lv_at hl 0 rfl) ?_
          refine lv_iload_n hx hb dL_law_278 rfl (lv_at hl 3 rfl) ?_
          refine lv_iconst (v := 2) hx hb dL_law_279 (by decide) ?_
          refine lv_iadd hx hb dL_law_280 ?_
          rw [show ((nI (7 * k)) + 2 : Int32) = nI ((7 * k) + 2) from nI_add (7 * k) 2]
          refine va_sld hx hb hX hbl hbA hS (vp_in_nI (n := ((7 * k) + 2)) (N := L) (by omega) (by omega)) dL_law_281 ?_
          refine lv_aload_n hx hb dL_law_282 rfl (lv_at hl 0 rfl) ?_
          refine lv_iload_n hx hb dL_law_283 rfl (lv_at hl 3 rfl) ?_
          refine lv_iconst (v := 3) hx hb dL_law_284 (by decide) ?_
          refine lv_iadd hx hb dL_law_285 ?_
          rw [show ((nI (7 * k)) + 3 : Int32) = nI ((7 * k) + 3) from nI_add (7 * k) 3]
          refine va_sld hx hb hX hbl hbA hS (vp_in_nI (n := ((7 * k) + 3)) (N := L) (by omega) (by omega)) dL_law_286 ?_
          refine lv_aload_n hx hb dL_law_287 rfl (lv_at hl 0 rfl) ?_
          refine lv_iload_n hx hb dL_law_288 rfl (lv_at hl 3 rfl) ?_
          refine lv_iconst (v := 4) hx hb dL_law_289 (by decide) ?_
          refine lv_iadd hx hb dL_law_290 ?_
          rw [show ((nI (7 * k)) + 4 : Int32) = nI ((7 * k) + 4) from nI_add (7 * k) 4]
          refine va_sld hx hb hX hbl hbA hS (vp_in_nI (n := ((7 * k) + 4)) (N := L) (by omega) (by omega)) dL_law_291 ?_
          refine x_callV (n := 4) (As := [.int (xs (nI ((7 * k) + 1)).toNatClampNeg), .int (xs (nI ((7 * k) + 2)).toNatClampNeg), .int (xs (nI ((7 * k) + 3)).toNatClampNeg), .int (xs (nI ((7 * k) + 4)).toNatClampNeg)]) (rest := []) F hP hD hS (X_book l D cy sk sv w tg x td pc ac sc ln se plv (xs (nI ((7 * k) + 1)).toNatClampNeg) (xs (nI ((7 * k) + 2)).toNatClampNeg) (xs (nI ((7 * k) + 3)).toNatClampNeg) (xs (nI ((7 * k) + 4)).toNatClampNeg) hIX) gT_X10_book rfl rfl (by decide +kernel) ⟨(Nat.le_of_ble_eq_true rfl), (Nat.le_of_ble_eq_true rfl)⟩ rfl hl.1 (Nat.le_of_ble_eq_true rfl) hxc rfl dL_law_292 rfl ⟨(show 250 + 2 * k + 1 ≤ 600000 from by omega), (show 12629 + 15 * k + 7 ≤ 7302250 from by omega)⟩ (fun v97 w98 hp96 H locs hP hD hS => ?_)
          obtain ⟨rfl, tg99, hg100, hk101, hIX102⟩ := hp96
          have hIM103 := IM.kept hIM hk101 (fun a h9 => Nat.not_lt.mpr h9) hg100
          obtain ⟨_, hxc104⟩ := hIX102.cell
          obtain ⟨_, hyc105⟩ := hIM103.cell
          refine W.eq (g2 := F0 m 295 ls [.int (bookA pc (xs (nI ((7 * k) + 1)).toNatClampNeg) (xs (nI ((7 * k) + 2)).toNatClampNeg) (xs (nI ((7 * k) + 3)).toNatClampNeg) (xs (nI ((7 * k) + 4)).toNatClampNeg))]) rfl (W.widen (k := 250 + 2 * k + 1) (n := 12629 + 15 * k + 7) (Nat.le_refl _) (Nat.le_refl _) ?_)
          refine lv_pop hx hb dL_law_295 rfl ?_
          refine lv_aload_n hx hb dL_law_296 rfl (lv_at hl 2 rfl) ?_
          refine lv_aload_n hx hb dL_law_297 rfl (lv_at hl 0 rfl) ?_
          refine lv_iload_n hx hb dL_law_298 rfl (lv_at hl 3 rfl) ?_
          refine lv_iconst (v := 1) hx hb dL_law_299 (by decide) ?_
          refine lv_iadd hx hb dL_law_300 ?_
          rw [show ((nI (7 * k)) + 1 : Int32) = nI ((7 * k) + 1) from nI_add (7 * k) 1]
          refine va_sld hx hb hX hbl hbA hS (vp_in_nI (n := ((7 * k) + 1)) (N := L) (by omega) (by omega)) dL_law_301 ?_
          refine lv_aload_n hx hb dL_law_302 rfl (lv_at hl 0 rfl) ?_
          refine lv_iload_n hx hb dL_law_303 rfl (lv_at hl 3 rfl) ?_
          refine lv_iconst (v := 2) hx hb dL_law_304 (by decide) ?_
          refine lv_iadd hx hb dL_law_305 ?_
          rw [show ((nI (7 * k)) + 2 : Int32) = nI ((7 * k) + 2) from nI_add (7 * k) 2]
          refine va_sld hx hb hX hbl hbA hS (vp_in_nI (n := ((7 * k) + 2)) (N := L) (by omega) (by omega)) dL_law_306 ?_
          refine lv_aload_n hx hb dL_law_307 rfl (lv_at hl 0 rfl) ?_
          refine lv_iload_n hx hb dL_law_308 rfl (lv_at hl 3 rfl) ?_
          refine lv_iconst (v := 3) hx hb dL_law_309 (by decide) ?_
          refine lv_iadd hx hb dL_law_310 ?_
          rw [show ((nI (7 * k)) + 3 : Int32) = nI ((7 * k) + 3) from nI_add (7 * k) 3]
          refine va_sld hx hb hX hbl hbA hS (vp_in_nI (n := ((7 * k) + 3)) (N := L) (by omega) (by omega)) dL_law_311 ?_
          refine lv_aload_n hx hb dL_law_312 rfl (lv_at hl 0 rfl) ?_
          refine lv_iload_n hx hb dL_law_313 rfl (lv_at hl 3 rfl) ?_
          refine lv_iconst (v := 4) hx hb dL_law_314 (by decide) ?_
          refine lv_iadd hx hb dL_law_315 ?_
          rw [show ((nI (7 * k)) + 4 : Int32) = nI ((7 * k) + 4) from nI_add (7 * k) 4]
          refine va_sld hx hb hX hbl hbA hS (vp_in_nI (n := ((7 * k) + 4)) (N := L) (by omega) (by omega)) dL_law_316 ?_
          refine x_callV (n := 4) (As := [.int (xs (nI ((7 * k) + 1)).toNatClampNeg), .int (xs (nI ((7 * k) + 2)).toNatClampNeg), .int (xs (nI ((7 * k) + 3)).toNatClampNeg), .int (xs (nI ((7 * k) + 4)).toNatClampNeg)]) (rest := []) F hP hD hS (M_book l D cy sk sv w98 tg99 y td pc ac sc ln se plv (xs (nI ((7 * k) + 1)).toNatClampNeg) (xs (nI ((7 * k) + 2)).toNatClampNeg) (xs (nI ((7 * k) + 3)).toNatClampNeg) (xs (nI ((7 * k) + 4)).toNatClampNeg) hIM103) gT_X11_book rfl rfl (by decide +kernel) ⟨(Nat.le_of_ble_eq_true rfl), (Nat.le_of_ble_eq_true rfl)⟩ rfl hl.1 (Nat.le_of_ble_eq_true rfl) hyc105 rfl dL_law_317 rfl ⟨(show 250 + 2 * k + 1 + 0 ≤ 600000 from by omega), (show 12629 + 15 * k + 7 + 0 ≤ 7302250 from by omega)⟩ (fun v107 w108 hp106 H locs hP hD hS => ?_)
          obtain ⟨rfl, hk109, hIM111⟩ := hp106
          have hIX110 := IX.kept hIX102 hk109 (fun a h9 => Nat.not_le.mpr h9) (fun _ _ => rfl)
          obtain ⟨_, hxc112⟩ := hIX110.cell
          obtain ⟨_, hyc113⟩ := hIM111.cell
          refine W.eq (g2 := F0 m 320 ls [.int (bookA pc (xs (nI ((7 * k) + 1)).toNatClampNeg) (xs (nI ((7 * k) + 2)).toNatClampNeg) (xs (nI ((7 * k) + 3)).toNatClampNeg) (xs (nI ((7 * k) + 4)).toNatClampNeg))]) rfl (W.widen (k := 250 + 2 * k + 1 + 0) (n := 12629 + 15 * k + 7 + 0) (Nat.le_refl _) (Nat.le_refl _) ?_)
          refine lv_pop hx hb dL_law_320 rfl ?_
          refine lv_goto (tgt := 956) hx hb dL_law_321 (by decide) ?_
          refine lv_iinc (v := nI (7 * (k + 1))) (lv' := [(3, .int (nI (7 * (k + 1)))), (0, .ref b), (1, .ref x), (2, .ref y)]) hx hb dL_law_956 hl (k := 3) rfl (lw_7 k) (by decide) rfl (fun ls hl => ?_)
          refine lv_goto (tgt := 18) hx hb dL_law_959 (by decide) ?_
          refine W.widen (k := 250 + 2 * (k + 1)) (n := 12629 + 15 * (k + 1)) (by omega) (by omega) ?_
          exact ih18 (k + 1) tg99 td (bookC pc (xs (nI ((7 * k) + 1)).toNatClampNeg) (xs (nI ((7 * k) + 2)).toNatClampNeg) (xs (nI ((7 * k) + 3)).toNatClampNeg) (xs (nI ((7 * k) + 4)).toNatClampNeg)) ac sc ln se (bookL plv pc (xs (nI ((7 * k) + 1)).toNatClampNeg) (xs (nI ((7 * k) + 2)).toNatClampNeg) (xs (nI ((7 * k) + 3)).toNatClampNeg) (xs (nI ((7 * k) + 4)).toNatClampNeg)) w108 (by omega) (by omega) hIX110 hIM111 ls (lv_sub hl [1, 2, 3, 0] rfl) H locs hP hD hS
        by_cases c_114 : sw = 4
        · refine lv_tableIn (off := 291) (tgt := 324) hx hb dL_law_33 (by rw [c_114]; decide) (by rw [c_114]; decide) (by rw [c_114]; decide) (by decide) ?_
          refine lv_aload_n hx hb dL_law_324 rfl (lv_at hl 1 rfl) ?_
          refine lv_aload_n hx hb dL_law_325 rfl (lv_at hl 0 rfl) ?_
          refine lv_iload_n hx hb dL_law_326 rfl (lv_at hl 3 rfl) ?_
          refine lv_iconst (v := 1) hx hb dL_law_327 (by decide) ?_
          refine lv_iadd hx hb dL_law_328 ?_
          rw [show ((nI (7 * k)) + 1 : Int32) = nI ((7 * k) + 1) from nI_add (7 * k) 1]
          refine va_sld hx hb hX hbl hbA hS (vp_in_nI (n := ((7 * k) + 1)) (N := L) (by omega) (by omega)) dL_law_329 ?_
          refine lv_aload_n hx hb dL_law_330 rfl (lv_at hl 0 rfl) ?_
          refine lv_iload_n hx hb dL_law_331 rfl (lv_at hl 3 rfl) ?_
          refine lv_iconst (v := 2) hx hb dL_law_332 (by decide) ?_
          refine lv_iadd hx hb dL_law_333 ?_
          rw [show ((nI (7 * k)) + 2 : Int32) = nI ((7 * k) + 2) from nI_add (7 * k) 2]
          refine va_sld hx hb hX hbl hbA hS (vp_in_nI (n := ((7 * k) + 2)) (N := L) (by omega) (by omega)) dL_law_334 ?_
          refine lv_aload_n hx hb dL_law_335 rfl (lv_at hl 0 rfl) ?_
          refine lv_iload_n hx hb dL_law_336 rfl (lv_at hl 3 rfl) ?_
          refine lv_iconst (v := 3) hx hb dL_law_337 (by decide) ?_
          refine lv_iadd hx hb dL_law_338 ?_
          rw [show ((nI (7 * k)) + 3 : Int32) = nI ((7 * k) + 3) from nI_add (7 * k) 3]
          refine va_sld hx hb hX hbl hbA hS (vp_in_nI (n := ((7 * k) + 3)) (N := L) (by omega) (by omega)) dL_law_339 ?_
          refine x_callV (n := 3) (As := [.int (xs (nI ((7 * k) + 1)).toNatClampNeg), .int (xs (nI ((7 * k) + 2)).toNatClampNeg), .int (xs (nI ((7 * k) + 3)).toNatClampNeg)]) (rest := []) F hP hD hS (X_credit l D cy sk sv w tg x td pc ac sc ln se plv (xs (nI ((7 * k) + 1)).toNatClampNeg) (xs (nI ((7 * k) + 2)).toNatClampNeg) (xs (nI ((7 * k) + 3)).toNatClampNeg) hIX) gT_X10_credit rfl rfl (by decide +kernel) ⟨(Nat.le_of_ble_eq_true rfl), (Nat.le_of_ble_eq_true rfl)⟩ rfl hl.1 (Nat.le_of_ble_eq_true rfl) hxc rfl dL_law_340 rfl ⟨(show 250 + 2 * k + 1 ≤ 600000 from by omega), (show 12629 + 15 * k + 7 ≤ 7302250 from by omega)⟩ (fun v116 w117 hp115 H locs hP hD hS => ?_)
          obtain ⟨rfl, tg118, hg119, hk120, hIX121⟩ := hp115
          have hIM122 := IM.kept hIM hk120 (fun a h9 => Nat.not_lt.mpr h9) hg119
          obtain ⟨_, hxc123⟩ := hIX121.cell
          obtain ⟨_, hyc124⟩ := hIM122.cell
          refine W.eq (g2 := F0 m 343 ls [.int (credA pc (xs (nI ((7 * k) + 1)).toNatClampNeg) (xs (nI ((7 * k) + 2)).toNatClampNeg) (xs (nI ((7 * k) + 3)).toNatClampNeg))]) rfl (W.widen (k := 250 + 2 * k + 1) (n := 12629 + 15 * k + 7) (Nat.le_refl _) (Nat.le_refl _) ?_)
          refine lv_pop hx hb dL_law_343 rfl ?_
          refine lv_aload_n hx hb dL_law_344 rfl (lv_at hl 2 rfl) ?_
          refine lv_aload_n hx hb dL_law_345 rfl (lv_at hl 0 rfl) ?_
          refine lv_iload_n hx hb dL_law_346 rfl (lv_at hl 3 rfl) ?_
          refine lv_iconst (v := 1) hx hb dL_law_347 (by decide) ?_
          refine lv_iadd hx hb dL_law_348 ?_
          rw [show ((nI (7 * k)) + 1 : Int32) = nI ((7 * k) + 1) from nI_add (7 * k) 1]
          refine va_sld hx hb hX hbl hbA hS (vp_in_nI (n := ((7 * k) + 1)) (N := L) (by omega) (by omega)) dL_law_349 ?_
          refine lv_aload_n hx hb dL_law_350 rfl (lv_at hl 0 rfl) ?_
          refine lv_iload_n hx hb dL_law_351 rfl (lv_at hl 3 rfl) ?_
          refine lv_iconst (v := 2) hx hb dL_law_352 (by decide) ?_
          refine lv_iadd hx hb dL_law_353 ?_
          rw [show ((nI (7 * k)) + 2 : Int32) = nI ((7 * k) + 2) from nI_add (7 * k) 2]
          refine va_sld hx hb hX hbl hbA hS (vp_in_nI (n := ((7 * k) + 2)) (N := L) (by omega) (by omega)) dL_law_354 ?_
          refine lv_aload_n hx hb dL_law_355 rfl (lv_at hl 0 rfl) ?_
          refine lv_iload_n hx hb dL_law_356 rfl (lv_at hl 3 rfl) ?_
          refine lv_iconst (v := 3) hx hb dL_law_357 (by decide) ?_
          refine lv_iadd hx hb dL_law_358 ?_
          rw [show ((nI (7 * k)) + 3 : Int32) = nI ((7 * k) + 3) from nI_add (7 * k) 3]
          refine va_sld hx hb hX hbl hbA hS (vp_in_nI (n := ((7 * k) + 3)) (N := L) (by omega) (by omega)) dL_law_359 ?_
          refine x_callV (n := 3) (As := [.int (xs (nI ((7 * k) + 1)).toNatClampNeg), .int (xs (nI ((7 * k) + 2)).toNatClampNeg), .int (xs (nI ((7 * k) + 3)).toNatClampNeg)]) (rest := []) F hP hD hS (M_credit l D cy sk sv w117 tg118 y td pc ac sc ln se plv (xs (nI ((7 * k) + 1)).toNatClampNeg) (xs (nI ((7 * k) + 2)).toNatClampNeg) (xs (nI ((7 * k) + 3)).toNatClampNeg) hIM122) gT_X11_credit rfl rfl (by decide +kernel) ⟨(Nat.le_of_ble_eq_true rfl), (Nat.le_of_ble_eq_true rfl)⟩ rfl hl.1 (Nat.le_of_ble_eq_true rfl) hyc124 rfl dL_law_360 rfl ⟨(show 250 + 2 * k + 1 + 0 ≤ 600000 from by omega), (show 12629 + 15 * k + 7 + 0 ≤ 7302250 from by omega)⟩ (fun v126 w127 hp125 H locs hP hD hS => ?_)
          obtain ⟨rfl, hk128, hIM130⟩ := hp125
          have hIX129 := IX.kept hIX121 hk128 (fun a h9 => Nat.not_le.mpr h9) (fun _ _ => rfl)
          obtain ⟨_, hxc131⟩ := hIX129.cell
          obtain ⟨_, hyc132⟩ := hIM130.cell
          refine W.eq (g2 := F0 m 363 ls [.int (credA pc (xs (nI ((7 * k) + 1)).toNatClampNeg) (xs (nI ((7 * k) + 2)).toNatClampNeg) (xs (nI ((7 * k) + 3)).toNatClampNeg))]) rfl (W.widen (k := 250 + 2 * k + 1 + 0) (n := 12629 + 15 * k + 7 + 0) (Nat.le_refl _) (Nat.le_refl _) ?_)
          refine lv_pop hx hb dL_law_363 rfl ?_
          refine lv_goto (tgt := 956) hx hb dL_law_364 (by decide) ?_
          refine lv_iinc (v := nI (7 * (k + 1))) (lv' := [(3, .int (nI (7 * (k + 1)))), (0, .ref b), (1, .ref x), (2, .ref y)]) hx hb dL_law_956 hl (k := 3) rfl (lw_7 k) (by decide) rfl (fun ls hl => ?_)
          refine lv_goto (tgt := 18) hx hb dL_law_959 (by decide) ?_
          refine W.widen (k := 250 + 2 * (k + 1)) (n := 12629 + 15 * (k + 1)) (by omega) (by omega) ?_
          exact ih18 (k + 1) tg118 td (credC pc (xs (nI ((7 * k) + 1)).toNatClampNeg) (xs (nI ((7 * k) + 2)).toNatClampNeg) (xs (nI ((7 * k) + 3)).toNatClampNeg)) ac sc ln se (credL plv pc (xs (nI ((7 * k) + 1)).toNatClampNeg) (xs (nI ((7 * k) + 2)).toNatClampNeg) (xs (nI ((7 * k) + 3)).toNatClampNeg)) w127 (by omega) (by omega) hIX129 hIM130 ls (lv_sub hl [1, 2, 3, 0] rfl) H locs hP hD hS
        by_cases c_133 : sw = 5
        · refine lv_tableIn (off := 334) (tgt := 367) hx hb dL_law_33 (by rw [c_133]; decide) (by rw [c_133]; decide) (by rw [c_133]; decide) (by decide) ?_
          refine lv_aload_n hx hb dL_law_367 rfl (lv_at hl 1 rfl) ?_
          refine lv_aload_n hx hb dL_law_368 rfl (lv_at hl 0 rfl) ?_
          refine lv_iload_n hx hb dL_law_369 rfl (lv_at hl 3 rfl) ?_
          refine lv_iconst (v := 1) hx hb dL_law_370 (by decide) ?_
          refine lv_iadd hx hb dL_law_371 ?_
          rw [show ((nI (7 * k)) + 1 : Int32) = nI ((7 * k) + 1) from nI_add (7 * k) 1]
          refine va_sld hx hb hX hbl hbA hS (vp_in_nI (n := ((7 * k) + 1)) (N := L) (by omega) (by omega)) dL_law_372 ?_
          refine lv_aload_n hx hb dL_law_373 rfl (lv_at hl 0 rfl) ?_
          refine lv_iload_n hx hb dL_law_374 rfl (lv_at hl 3 rfl) ?_
          refine lv_iconst (v := 2) hx hb dL_law_375 (by decide) ?_
          refine lv_iadd hx hb dL_law_376 ?_
          rw [show ((nI (7 * k)) + 2 : Int32) = nI ((7 * k) + 2) from nI_add (7 * k) 2]
          refine va_sld hx hb hX hbl hbA hS (vp_in_nI (n := ((7 * k) + 2)) (N := L) (by omega) (by omega)) dL_law_377 ?_
          refine x_callV (n := 2) (As := [.int (xs (nI ((7 * k) + 1)).toNatClampNeg), .int (xs (nI ((7 * k) + 2)).toNatClampNeg)]) (rest := []) F hP hD hS (X_advise l D cy sk sv w tg x td pc ac sc ln se plv (xs (nI ((7 * k) + 1)).toNatClampNeg) (xs (nI ((7 * k) + 2)).toNatClampNeg) hIX) gT_X10_advise rfl rfl (by decide +kernel) ⟨(Nat.le_of_ble_eq_true rfl), (Nat.le_of_ble_eq_true rfl)⟩ rfl hl.1 (Nat.le_of_ble_eq_true rfl) hxc rfl dL_law_378 rfl ⟨(show 250 + 2 * k + 1 ≤ 600000 from by omega), (show 12629 + 15 * k + 4 ≤ 7302250 from by omega)⟩ (fun v135 w136 hp134 H locs hP hD hS => ?_)
          obtain ⟨rfl, tg137, hg138, hk139, hIX140⟩ := hp134
          have hIM141 := IM.kept hIM hk139 (fun a h9 => Nat.not_lt.mpr h9) hg138
          obtain ⟨_, hxc142⟩ := hIX140.cell
          obtain ⟨_, hyc143⟩ := hIM141.cell
          refine W.eq (g2 := F0 m 381 ls [.int (advA pc ac (xs (nI ((7 * k) + 1)).toNatClampNeg) (xs (nI ((7 * k) + 2)).toNatClampNeg))]) rfl (W.widen (k := 250 + 2 * k + 1) (n := 12629 + 15 * k + 4) (Nat.le_refl _) (Nat.le_refl _) ?_)
          refine lv_pop hx hb dL_law_381 rfl ?_
          refine lv_aload_n hx hb dL_law_382 rfl (lv_at hl 2 rfl) ?_
          refine lv_aload_n hx hb dL_law_383 rfl (lv_at hl 0 rfl) ?_
          refine lv_iload_n hx hb dL_law_384 rfl (lv_at hl 3 rfl) ?_
          refine lv_iconst (v := 1) hx hb dL_law_385 (by decide) ?_
          refine lv_iadd hx hb dL_law_386 ?_
          rw [show ((nI (7 * k)) + 1 : Int32) = nI ((7 * k) + 1) from nI_add (7 * k) 1]
          refine va_sld hx hb hX hbl hbA hS (vp_in_nI (n := ((7 * k) + 1)) (N := L) (by omega) (by omega)) dL_law_387 ?_
          refine lv_aload_n hx hb dL_law_388 rfl (lv_at hl 0 rfl) ?_
          refine lv_iload_n hx hb dL_law_389 rfl (lv_at hl 3 rfl) ?_
          refine lv_iconst (v := 2) hx hb dL_law_390 (by decide) ?_
          refine lv_iadd hx hb dL_law_391 ?_
          rw [show ((nI (7 * k)) + 2 : Int32) = nI ((7 * k) + 2) from nI_add (7 * k) 2]
          refine va_sld hx hb hX hbl hbA hS (vp_in_nI (n := ((7 * k) + 2)) (N := L) (by omega) (by omega)) dL_law_392 ?_
          refine x_callV (n := 2) (As := [.int (xs (nI ((7 * k) + 1)).toNatClampNeg), .int (xs (nI ((7 * k) + 2)).toNatClampNeg)]) (rest := []) F hP hD hS (M_advise l D cy sk sv w136 tg137 y td pc ac sc ln se plv (xs (nI ((7 * k) + 1)).toNatClampNeg) (xs (nI ((7 * k) + 2)).toNatClampNeg) hIM141) gT_X11_advise rfl rfl (by decide +kernel) ⟨(Nat.le_of_ble_eq_true rfl), (Nat.le_of_ble_eq_true rfl)⟩ rfl hl.1 (Nat.le_of_ble_eq_true rfl) hyc143 rfl dL_law_393 rfl ⟨(show 250 + 2 * k + 1 + 0 ≤ 600000 from by omega), (show 12629 + 15 * k + 4 + 0 ≤ 7302250 from by omega)⟩ (fun v145 w146 hp144 H locs hP hD hS => ?_)
          obtain ⟨rfl, hk147, hIM149⟩ := hp144
          have hIX148 := IX.kept hIX140 hk147 (fun a h9 => Nat.not_le.mpr h9) (fun _ _ => rfl)
          obtain ⟨_, hxc150⟩ := hIX148.cell
          obtain ⟨_, hyc151⟩ := hIM149.cell
          refine W.eq (g2 := F0 m 396 ls [.int (advA pc ac (xs (nI ((7 * k) + 1)).toNatClampNeg) (xs (nI ((7 * k) + 2)).toNatClampNeg))]) rfl (W.widen (k := 250 + 2 * k + 1 + 0) (n := 12629 + 15 * k + 4 + 0) (Nat.le_refl _) (Nat.le_refl _) ?_)
          refine lv_pop hx hb dL_law_396 rfl ?_
          refine lv_goto (tgt := 956) hx hb dL_law_397 (by decide) ?_
          refine lv_iinc (v := nI (7 * (k + 1))) (lv' := [(3, .int (nI (7 * (k + 1)))), (0, .ref b), (1, .ref x), (2, .ref y)]) hx hb dL_law_956 hl (k := 3) rfl (lw_7 k) (by decide) rfl (fun ls hl => ?_)
          refine lv_goto (tgt := 18) hx hb dL_law_959 (by decide) ?_
          refine W.widen (k := 250 + 2 * (k + 1)) (n := 12629 + 15 * (k + 1)) (by omega) (by omega) ?_
          exact ih18 (k + 1) tg137 td pc (advC pc ac (xs (nI ((7 * k) + 1)).toNatClampNeg) (xs (nI ((7 * k) + 2)).toNatClampNeg)) sc ln se plv w146 (by omega) (by omega) hIX148 hIM149 ls (lv_sub hl [1, 2, 3, 0] rfl) H locs hP hD hS
        by_cases c_152 : sw = 6
        · refine lv_tableIn (off := 367) (tgt := 400) hx hb dL_law_33 (by rw [c_152]; decide) (by rw [c_152]; decide) (by rw [c_152]; decide) (by decide) ?_
          refine lv_aload_n hx hb dL_law_400 rfl (lv_at hl 1 rfl) ?_
          refine lv_aload_n hx hb dL_law_401 rfl (lv_at hl 0 rfl) ?_
          refine lv_iload_n hx hb dL_law_402 rfl (lv_at hl 3 rfl) ?_
          refine lv_iconst (v := 1) hx hb dL_law_403 (by decide) ?_
          refine lv_iadd hx hb dL_law_404 ?_
          rw [show ((nI (7 * k)) + 1 : Int32) = nI ((7 * k) + 1) from nI_add (7 * k) 1]
          refine va_sld hx hb hX hbl hbA hS (vp_in_nI (n := ((7 * k) + 1)) (N := L) (by omega) (by omega)) dL_law_405 ?_
          refine x_callV (n := 1) (As := [.int (xs (nI ((7 * k) + 1)).toNatClampNeg)]) (rest := []) F hP hD hS (X_lose l D cy sk sv w tg x td pc ac sc ln se plv (xs (nI ((7 * k) + 1)).toNatClampNeg) hIX) gT_X10_lose rfl rfl (by decide +kernel) ⟨(Nat.le_of_ble_eq_true rfl), (Nat.le_of_ble_eq_true rfl)⟩ rfl hl.1 (Nat.le_of_ble_eq_true rfl) hxc rfl dL_law_406 rfl ⟨(show 250 + 2 * k + 0 ≤ 600000 from by omega), (show 12629 + 15 * k + 0 ≤ 7302250 from by omega)⟩ (fun v154 w155 hp153 H locs hP hD hS => ?_)
          obtain ⟨⟨r156, rfl⟩, tg157, hg158, hk159, hIX160⟩ := hp153
          have hIM161 := IM.kept hIM hk159 (fun a h9 => Nat.not_lt.mpr h9) hg158
          obtain ⟨_, hxc162⟩ := hIX160.cell
          obtain ⟨_, hyc163⟩ := hIM161.cell
          refine W.eq (g2 := F0 m 409 ls [.int r156]) rfl (W.widen (k := 250 + 2 * k + 0) (n := 12629 + 15 * k + 0) (Nat.le_refl _) (Nat.le_refl _) ?_)
          refine lv_pop hx hb dL_law_409 rfl ?_
          refine lv_aload_n hx hb dL_law_410 rfl (lv_at hl 2 rfl) ?_
          refine lv_aload_n hx hb dL_law_411 rfl (lv_at hl 0 rfl) ?_
          refine lv_iload_n hx hb dL_law_412 rfl (lv_at hl 3 rfl) ?_
          refine lv_iconst (v := 1) hx hb dL_law_413 (by decide) ?_
          refine lv_iadd hx hb dL_law_414 ?_
          rw [show ((nI (7 * k)) + 1 : Int32) = nI ((7 * k) + 1) from nI_add (7 * k) 1]
          refine va_sld hx hb hX hbl hbA hS (vp_in_nI (n := ((7 * k) + 1)) (N := L) (by omega) (by omega)) dL_law_415 ?_
          refine x_callV (n := 1) (As := [.int (xs (nI ((7 * k) + 1)).toNatClampNeg)]) (rest := []) F hP hD hS (M_lose l D cy sk sv w155 tg157 y td pc ac sc ln se plv (xs (nI ((7 * k) + 1)).toNatClampNeg) hIM161) gT_X11_lose rfl rfl (by decide +kernel) ⟨(Nat.le_of_ble_eq_true rfl), (Nat.le_of_ble_eq_true rfl)⟩ rfl hl.1 (Nat.le_of_ble_eq_true rfl) hyc163 rfl dL_law_416 rfl ⟨(show 250 + 2 * k + 0 + 0 ≤ 600000 from by omega), (show 12629 + 15 * k + 0 + 0 ≤ 7302250 from by omega)⟩ (fun v165 w166 hp164 H locs hP hD hS => ?_)
          obtain ⟨⟨r167, rfl⟩, hk168, hIM170⟩ := hp164
          have hIX169 := IX.kept hIX160 hk168 (fun a h9 => Nat.not_le.mpr h9) (fun _ _ => rfl)
          obtain ⟨_, hxc171⟩ := hIX169.cell
          obtain ⟨_, hyc172⟩ := hIM170.cell
          refine W.eq (g2 := F0 m 419 ls [.int r167]) rfl (W.widen (k := 250 + 2 * k + 0 + 0) (n := 12629 + 15 * k + 0 + 0) (Nat.le_refl _) (Nat.le_refl _) ?_)
          refine lv_pop hx hb dL_law_419 rfl ?_
          refine lv_goto (tgt := 956) hx hb dL_law_420 (by decide) ?_
          refine lv_iinc (v := nI (7 * (k + 1))) (lv' := [(3, .int (nI (7 * (k + 1)))), (0, .ref b), (1, .ref x), (2, .ref y)]) hx hb dL_law_956 hl (k := 3) rfl (lw_7 k) (by decide) rfl (fun ls hl => ?_)
          refine lv_goto (tgt := 18) hx hb dL_law_959 (by decide) ?_
          refine W.widen (k := 250 + 2 * (k + 1)) (n := 12629 + 15 * (k + 1)) (by omega) (by omega) ?_
          exact ih18 (k + 1) tg157 td pc ac sc ln se plv w166 (by omega) (by omega) hIX169 hIM170 ls (lv_sub hl [1, 2, 3, 0] rfl) H locs hP hD hS
        by_cases c_173 : sw = 7
        · refine lv_tableIn (off := 390) (tgt := 423) hx hb dL_law_33 (by rw [c_173]; decide) (by rw [c_173]; decide) (by rw [c_173]; decide) (by decide) ?_
          refine lv_aload_n hx hb dL_law_423 rfl (lv_at hl 1 rfl) ?_
          refine lv_aload_n hx hb dL_law_424 rfl (lv_at hl 0 rfl) ?_
          refine lv_iload_n hx hb dL_law_425 rfl (lv_at hl 3 rfl) ?_
          refine lv_iconst (v := 1) hx hb dL_law_426 (by decide) ?_
          refine lv_iadd hx hb dL_law_427 ?_
          rw [show ((nI (7 * k)) + 1 : Int32) = nI ((7 * k) + 1) from nI_add (7 * k) 1]
          refine va_sld hx hb hX hbl hbA hS (vp_in_nI (n := ((7 * k) + 1)) (N := L) (by omega) (by omega)) dL_law_428 ?_
          refine lv_aload_n hx hb dL_law_429 rfl (lv_at hl 0 rfl) ?_
          refine lv_iload_n hx hb dL_law_430 rfl (lv_at hl 3 rfl) ?_
          refine lv_iconst (v := 2) hx hb dL_law_431 (by decide) ?_
          refine lv_iadd hx hb dL_law_432 ?_
          rw [show ((nI (7 * k)) + 2 : Int32) = nI ((7 * k) + 2) from nI_add (7 * k) 2]
          refine va_sld hx hb hX hbl hbA hS (vp_in_nI (n := ((7 * k) + 2)) (N := L) (by omega) (by omega)) dL_law_433 ?_
          refine lv_aload_n hx hb dL_law_434 rfl (lv_at hl 0 rfl) ?_
          refine lv_iload_n hx hb dL_law_435 rfl (lv_at hl 3 rfl) ?_
          refine lv_iconst (v := 3) hx hb dL_law_436 (by decide) ?_
          refine lv_iadd hx hb dL_law_437 ?_
          rw [show ((nI (7 * k)) + 3 : Int32) = nI ((7 * k) + 3) from nI_add (7 * k) 3]
          refine va_sld hx hb hX hbl hbA hS (vp_in_nI (n := ((7 * k) + 3)) (N := L) (by omega) (by omega)) dL_law_438 ?_
          refine x_callV (n := 3) (As := [.int (xs (nI ((7 * k) + 1)).toNatClampNeg), .int (xs (nI ((7 * k) + 2)).toNatClampNeg), .int (xs (nI ((7 * k) + 3)).toNatClampNeg)]) (rest := []) F hP hD hS (X_stop l D cy sk sv w tg x td pc ac sc ln se plv (xs (nI ((7 * k) + 1)).toNatClampNeg) (xs (nI ((7 * k) + 2)).toNatClampNeg) (xs (nI ((7 * k) + 3)).toNatClampNeg) hIX) gT_X10_stop rfl rfl (by decide +kernel) ⟨(Nat.le_of_ble_eq_true rfl), (Nat.le_of_ble_eq_true rfl)⟩ rfl hl.1 (Nat.le_of_ble_eq_true rfl) hxc rfl dL_law_439 rfl ⟨(show 250 + 2 * k + 2 ≤ 600000 from by omega), (show 12629 + 15 * k + 15 ≤ 7302250 from by omega)⟩ (fun v175 w176 hp174 H locs hP hD hS => ?_)
          obtain ⟨rfl, tg177, hg178, hk179, hIX180⟩ := hp174
          have hIM181 := IM.kept hIM hk179 (fun a h9 => Nat.not_lt.mpr h9) hg178
          obtain ⟨_, hxc182⟩ := hIX180.cell
          obtain ⟨_, hyc183⟩ := hIM181.cell
          refine W.eq (g2 := F0 m 442 ls [.int (stpA plv pc sc (xs (nI ((7 * k) + 1)).toNatClampNeg) (xs (nI ((7 * k) + 2)).toNatClampNeg) (xs (nI ((7 * k) + 3)).toNatClampNeg))]) rfl (W.widen (k := 250 + 2 * k + 2) (n := 12629 + 15 * k + 15) (Nat.le_refl _) (Nat.le_refl _) ?_)
          refine lv_aload_n hx hb dL_law_442 rfl (lv_at hl 2 rfl) ?_
          refine lv_aload_n hx hb dL_law_443 rfl (lv_at hl 0 rfl) ?_
          refine lv_iload_n hx hb dL_law_444 rfl (lv_at hl 3 rfl) ?_
          refine lv_iconst (v := 1) hx hb dL_law_445 (by decide) ?_
          refine lv_iadd hx hb dL_law_446 ?_
          rw [show ((nI (7 * k)) + 1 : Int32) = nI ((7 * k) + 1) from nI_add (7 * k) 1]
          refine va_sld hx hb hX hbl hbA hS (vp_in_nI (n := ((7 * k) + 1)) (N := L) (by omega) (by omega)) dL_law_447 ?_
          refine lv_aload_n hx hb dL_law_448 rfl (lv_at hl 0 rfl) ?_
          refine lv_iload_n hx hb dL_law_449 rfl (lv_at hl 3 rfl) ?_
          refine lv_iconst (v := 2) hx hb dL_law_450 (by decide) ?_
          refine lv_iadd hx hb dL_law_451 ?_
          rw [show ((nI (7 * k)) + 2 : Int32) = nI ((7 * k) + 2) from nI_add (7 * k) 2]
          refine va_sld hx hb hX hbl hbA hS (vp_in_nI (n := ((7 * k) + 2)) (N := L) (by omega) (by omega)) dL_law_452 ?_
          refine lv_aload_n hx hb dL_law_453 rfl (lv_at hl 0 rfl) ?_
          refine lv_iload_n hx hb dL_law_454 rfl (lv_at hl 3 rfl) ?_
          refine lv_iconst (v := 3) hx hb dL_law_455 (by decide) ?_
          refine lv_iadd hx hb dL_law_456 ?_
          rw [show ((nI (7 * k)) + 3 : Int32) = nI ((7 * k) + 3) from nI_add (7 * k) 3]
          refine va_sld hx hb hX hbl hbA hS (vp_in_nI (n := ((7 * k) + 3)) (N := L) (by omega) (by omega)) dL_law_457 ?_
          refine x_callV (n := 3) (As := [.int (xs (nI ((7 * k) + 1)).toNatClampNeg), .int (xs (nI ((7 * k) + 2)).toNatClampNeg), .int (xs (nI ((7 * k) + 3)).toNatClampNeg)]) (rest := [.int (stpA plv pc sc (xs (nI ((7 * k) + 1)).toNatClampNeg) (xs (nI ((7 * k) + 2)).toNatClampNeg) (xs (nI ((7 * k) + 3)).toNatClampNeg))]) F hP hD hS (M_stop l D cy sk sv w176 tg177 y td pc ac sc ln se plv (xs (nI ((7 * k) + 1)).toNatClampNeg) (xs (nI ((7 * k) + 2)).toNatClampNeg) (xs (nI ((7 * k) + 3)).toNatClampNeg) hIM181) gT_X11_stop rfl rfl (by decide +kernel) ⟨(Nat.le_of_ble_eq_true rfl), (Nat.le_of_ble_eq_true rfl)⟩ rfl hl.1 (Nat.le_of_ble_eq_true rfl) hyc183 rfl dL_law_458 rfl ⟨(show 250 + 2 * k + 2 + 0 ≤ 600000 from by omega), (show 12629 + 15 * k + 15 + 0 ≤ 7302250 from by omega)⟩ (fun v185 w186 hp184 H locs hP hD hS => ?_)
          obtain ⟨rfl, hk187, hIM189⟩ := hp184
          have hIX188 := IX.kept hIX180 hk187 (fun a h9 => Nat.not_le.mpr h9) (fun _ _ => rfl)
          obtain ⟨_, hxc190⟩ := hIX188.cell
          obtain ⟨_, hyc191⟩ := hIM189.cell
          refine W.eq (g2 := F0 m 461 ls [.int (stpA plv pc sc (xs (nI ((7 * k) + 1)).toNatClampNeg) (xs (nI ((7 * k) + 2)).toNatClampNeg) (xs (nI ((7 * k) + 3)).toNatClampNeg)), .int (stpA plv pc sc (xs (nI ((7 * k) + 1)).toNatClampNeg) (xs (nI ((7 * k) + 2)).toNatClampNeg) (xs (nI ((7 * k) + 3)).toNatClampNeg))]) rfl (W.widen (k := 250 + 2 * k + 2 + 0) (n := 12629 + 15 * k + 15 + 0) (Nat.le_refl _) (Nat.le_refl _) ?_)
          refine lv_icmp_eq (tgt := 956) hx hb dL_law_461 (by decide) (fun c_192 => ?_) (fun c_192 => absurd rfl c_192)
          refine lv_iinc (v := nI (7 * (k + 1))) (lv' := [(3, .int (nI (7 * (k + 1)))), (0, .ref b), (1, .ref x), (2, .ref y)]) hx hb dL_law_956 hl (k := 3) rfl (lw_7 k) (by decide) rfl (fun ls hl => ?_)
          refine lv_goto (tgt := 18) hx hb dL_law_959 (by decide) ?_
          refine W.widen (k := 250 + 2 * (k + 1)) (n := 12629 + 15 * (k + 1)) (by omega) (by omega) ?_
          exact ih18 (k + 1) tg177 td pc ac (stpC plv pc sc (xs (nI ((7 * k) + 1)).toNatClampNeg) (xs (nI ((7 * k) + 2)).toNatClampNeg) (xs (nI ((7 * k) + 3)).toNatClampNeg)) ln se plv w186 (by omega) (by omega) hIX188 hIM189 ls (lv_sub hl [1, 2, 3, 0] rfl) H locs hP hD hS
        by_cases c_193 : sw = 8
        · refine lv_tableIn (off := 433) (tgt := 466) hx hb dL_law_33 (by rw [c_193]; decide) (by rw [c_193]; decide) (by rw [c_193]; decide) (by decide) ?_
          refine lv_aload_n hx hb dL_law_466 rfl (lv_at hl 1 rfl) ?_
          refine lv_aload_n hx hb dL_law_467 rfl (lv_at hl 0 rfl) ?_
          refine lv_iload_n hx hb dL_law_468 rfl (lv_at hl 3 rfl) ?_
          refine lv_iconst (v := 1) hx hb dL_law_469 (by decide) ?_
          refine lv_iadd hx hb dL_law_470 ?_
          rw [show ((nI (7 * k)) + 1 : Int32) = nI ((7 * k) + 1) from nI_add (7 * k) 1]
          refine va_sld hx hb hX hbl hbA hS (vp_in_nI (n := ((7 * k) + 1)) (N := L) (by omega) (by omega)) dL_law_471 ?_
          refine lv_aload_n hx hb dL_law_472 rfl (lv_at hl 0 rfl) ?_
          refine lv_iload_n hx hb dL_law_473 rfl (lv_at hl 3 rfl) ?_
          refine lv_iconst (v := 2) hx hb dL_law_474 (by decide) ?_
          refine lv_iadd hx hb dL_law_475 ?_
          rw [show ((nI (7 * k)) + 2 : Int32) = nI ((7 * k) + 2) from nI_add (7 * k) 2]
          refine va_sld hx hb hX hbl hbA hS (vp_in_nI (n := ((7 * k) + 2)) (N := L) (by omega) (by omega)) dL_law_476 ?_
          refine lv_aload_n hx hb dL_law_477 rfl (lv_at hl 0 rfl) ?_
          refine lv_iload_n hx hb dL_law_478 rfl (lv_at hl 3 rfl) ?_
          refine lv_iconst (v := 3) hx hb dL_law_479 (by decide) ?_
          refine lv_iadd hx hb dL_law_480 ?_
          rw [show ((nI (7 * k)) + 3 : Int32) = nI ((7 * k) + 3) from nI_add (7 * k) 3]
          refine va_sld hx hb hX hbl hbA hS (vp_in_nI (n := ((7 * k) + 3)) (N := L) (by omega) (by omega)) dL_law_481 ?_
          refine lv_aload_n hx hb dL_law_482 rfl (lv_at hl 0 rfl) ?_
          refine lv_iload_n hx hb dL_law_483 rfl (lv_at hl 3 rfl) ?_
          refine lv_iconst (v := 4) hx hb dL_law_484 (by decide) ?_
          refine lv_iadd hx hb dL_law_485 ?_
          rw [show ((nI (7 * k)) + 4 : Int32) = nI ((7 * k) + 4) from nI_add (7 * k) 4]
          refine va_sld hx hb hX hbl hbA hS (vp_in_nI (n := ((7 * k) + 4)) (N := L) (by omega) (by omega)) dL_law_486 ?_
          refine lv_aload_n hx hb dL_law_487 rfl (lv_at hl 0 rfl) ?_
          refine lv_iload_n hx hb dL_law_488 rfl (lv_at hl 3 rfl) ?_
          refine lv_iconst (v := 5) hx hb dL_law_489 (by decide) ?_
          refine lv_iadd hx hb dL_law_490 ?_
          rw [show ((nI (7 * k)) + 5 : Int32) = nI ((7 * k) + 5) from nI_add (7 * k) 5]
          refine va_sld hx hb hX hbl hbA hS (vp_in_nI (n := ((7 * k) + 5)) (N := L) (by omega) (by omega)) dL_law_491 ?_
          refine x_callV (n := 5) (As := [.int (xs (nI ((7 * k) + 1)).toNatClampNeg), .int (xs (nI ((7 * k) + 2)).toNatClampNeg), .int (xs (nI ((7 * k) + 3)).toNatClampNeg), .int (xs (nI ((7 * k) + 4)).toNatClampNeg), .int (xs (nI ((7 * k) + 5)).toNatClampNeg)]) (rest := []) F hP hD hS (X_feed l D cy sk sv w tg x td pc ac sc ln se plv (xs (nI ((7 * k) + 1)).toNatClampNeg) (xs (nI ((7 * k) + 2)).toNatClampNeg) (xs (nI ((7 * k) + 3)).toNatClampNeg) (xs (nI ((7 * k) + 4)).toNatClampNeg) (xs (nI ((7 * k) + 5)).toNatClampNeg) hIX) gT_X10_feed rfl rfl (by decide +kernel) ⟨(Nat.le_of_ble_eq_true rfl), (Nat.le_of_ble_eq_true rfl)⟩ rfl hl.1 (Nat.le_of_ble_eq_true rfl) hxc rfl dL_law_492 rfl ⟨(show 250 + 2 * k + 0 ≤ 600000 from by omega), (show 12629 + 15 * k + 0 ≤ 7302250 from by omega)⟩ (fun v195 w196 hp194 H locs hP hD hS => ?_)
          obtain ⟨rfl, tg197, hg198, hk199, hIX200⟩ := hp194
          have hIM201 := IM.kept hIM hk199 (fun a h9 => Nat.not_lt.mpr h9) hg198
          obtain ⟨_, hxc202⟩ := hIX200.cell
          obtain ⟨_, hyc203⟩ := hIM201.cell
          refine W.eq (g2 := F0 m 495 ls [.int (feedA ln)]) rfl (W.widen (k := 250 + 2 * k + 0) (n := 12629 + 15 * k + 0) (Nat.le_refl _) (Nat.le_refl _) ?_)
          refine lv_pop hx hb dL_law_495 rfl ?_
          refine lv_aload_n hx hb dL_law_496 rfl (lv_at hl 2 rfl) ?_
          refine lv_aload_n hx hb dL_law_497 rfl (lv_at hl 0 rfl) ?_
          refine lv_iload_n hx hb dL_law_498 rfl (lv_at hl 3 rfl) ?_
          refine lv_iconst (v := 1) hx hb dL_law_499 (by decide) ?_
          refine lv_iadd hx hb dL_law_500 ?_
          rw [show ((nI (7 * k)) + 1 : Int32) = nI ((7 * k) + 1) from nI_add (7 * k) 1]
          refine va_sld hx hb hX hbl hbA hS (vp_in_nI (n := ((7 * k) + 1)) (N := L) (by omega) (by omega)) dL_law_501 ?_
          refine lv_aload_n hx hb dL_law_502 rfl (lv_at hl 0 rfl) ?_
          refine lv_iload_n hx hb dL_law_503 rfl (lv_at hl 3 rfl) ?_
          refine lv_iconst (v := 2) hx hb dL_law_504 (by decide) ?_
          refine lv_iadd hx hb dL_law_505 ?_
          rw [show ((nI (7 * k)) + 2 : Int32) = nI ((7 * k) + 2) from nI_add (7 * k) 2]
          refine va_sld hx hb hX hbl hbA hS (vp_in_nI (n := ((7 * k) + 2)) (N := L) (by omega) (by omega)) dL_law_506 ?_
          refine lv_aload_n hx hb dL_law_507 rfl (lv_at hl 0 rfl) ?_
          refine lv_iload_n hx hb dL_law_508 rfl (lv_at hl 3 rfl) ?_
          refine lv_iconst (v := 3) hx hb dL_law_509 (by decide) ?_
          refine lv_iadd hx hb dL_law_510 ?_
          rw [show ((nI (7 * k)) + 3 : Int32) = nI ((7 * k) + 3) from nI_add (7 * k) 3]
          refine va_sld hx hb hX hbl hbA hS (vp_in_nI (n := ((7 * k) + 3)) (N := L) (by omega) (by omega)) dL_law_511 ?_
          refine lv_aload_n hx hb dL_law_512 rfl (lv_at hl 0 rfl) ?_
          refine lv_iload_n hx hb dL_law_513 rfl (lv_at hl 3 rfl) ?_
          refine lv_iconst (v := 4) hx hb dL_law_514 (by decide) ?_
          refine lv_iadd hx hb dL_law_515 ?_
          rw [show ((nI (7 * k)) + 4 : Int32) = nI ((7 * k) + 4) from nI_add (7 * k) 4]
          refine va_sld hx hb hX hbl hbA hS (vp_in_nI (n := ((7 * k) + 4)) (N := L) (by omega) (by omega)) dL_law_516 ?_
          refine lv_aload_n hx hb dL_law_517 rfl (lv_at hl 0 rfl) ?_
          refine lv_iload_n hx hb dL_law_518 rfl (lv_at hl 3 rfl) ?_
          refine lv_iconst (v := 5) hx hb dL_law_519 (by decide) ?_
          refine lv_iadd hx hb dL_law_520 ?_
          rw [show ((nI (7 * k)) + 5 : Int32) = nI ((7 * k) + 5) from nI_add (7 * k) 5]
          refine va_sld hx hb hX hbl hbA hS (vp_in_nI (n := ((7 * k) + 5)) (N := L) (by omega) (by omega)) dL_law_521 ?_
          refine x_callV (n := 5) (As := [.int (xs (nI ((7 * k) + 1)).toNatClampNeg), .int (xs (nI ((7 * k) + 2)).toNatClampNeg), .int (xs (nI ((7 * k) + 3)).toNatClampNeg), .int (xs (nI ((7 * k) + 4)).toNatClampNeg), .int (xs (nI ((7 * k) + 5)).toNatClampNeg)]) (rest := []) F hP hD hS (M_feed l D cy sk sv w196 tg197 y td pc ac sc ln se plv (xs (nI ((7 * k) + 1)).toNatClampNeg) (xs (nI ((7 * k) + 2)).toNatClampNeg) (xs (nI ((7 * k) + 3)).toNatClampNeg) (xs (nI ((7 * k) + 4)).toNatClampNeg) (xs (nI ((7 * k) + 5)).toNatClampNeg) hIM201) gT_X11_feed rfl rfl (by decide +kernel) ⟨(Nat.le_of_ble_eq_true rfl), (Nat.le_of_ble_eq_true rfl)⟩ rfl hl.1 (Nat.le_of_ble_eq_true rfl) hyc203 rfl dL_law_522 rfl ⟨(show 250 + 2 * k + 0 + 0 ≤ 600000 from by omega), (show 12629 + 15 * k + 0 + 0 ≤ 7302250 from by omega)⟩ (fun v205 w206 hp204 H locs hP hD hS => ?_)
          obtain ⟨rfl, hk207, hIM209⟩ := hp204
          have hIX208 := IX.kept hIX200 hk207 (fun a h9 => Nat.not_le.mpr h9) (fun _ _ => rfl)
          obtain ⟨_, hxc210⟩ := hIX208.cell
          obtain ⟨_, hyc211⟩ := hIM209.cell
          refine W.eq (g2 := F0 m 525 ls [.int (feedA ln)]) rfl (W.widen (k := 250 + 2 * k + 0 + 0) (n := 12629 + 15 * k + 0 + 0) (Nat.le_refl _) (Nat.le_refl _) ?_)
          refine lv_pop hx hb dL_law_525 rfl ?_
          refine lv_goto (tgt := 956) hx hb dL_law_526 (by decide) ?_
          refine lv_iinc (v := nI (7 * (k + 1))) (lv' := [(3, .int (nI (7 * (k + 1)))), (0, .ref b), (1, .ref x), (2, .ref y)]) hx hb dL_law_956 hl (k := 3) rfl (lw_7 k) (by decide) rfl (fun ls hl => ?_)
          refine lv_goto (tgt := 18) hx hb dL_law_959 (by decide) ?_
          refine W.widen (k := 250 + 2 * (k + 1)) (n := 12629 + 15 * (k + 1)) (by omega) (by omega) ?_
          exact ih18 (k + 1) tg197 td pc ac sc (feedC ln) se plv w206 (by omega) (by omega) hIX208 hIM209 ls (lv_sub hl [1, 2, 3, 0] rfl) H locs hP hD hS
        by_cases c_212 : sw = 9
        · refine lv_tableIn (off := 496) (tgt := 529) hx hb dL_law_33 (by rw [c_212]; decide) (by rw [c_212]; decide) (by rw [c_212]; decide) (by decide) ?_
          refine lv_aload_n hx hb dL_law_529 rfl (lv_at hl 1 rfl) ?_
          refine lv_aload_n hx hb dL_law_530 rfl (lv_at hl 0 rfl) ?_
          refine lv_iload_n hx hb dL_law_531 rfl (lv_at hl 3 rfl) ?_
          refine lv_iconst (v := 1) hx hb dL_law_532 (by decide) ?_
          refine lv_iadd hx hb dL_law_533 ?_
          rw [show ((nI (7 * k)) + 1 : Int32) = nI ((7 * k) + 1) from nI_add (7 * k) 1]
          refine va_sld hx hb hX hbl hbA hS (vp_in_nI (n := ((7 * k) + 1)) (N := L) (by omega) (by omega)) dL_law_534 ?_
          refine x_callV (n := 1) (As := [.int (xs (nI ((7 * k) + 1)).toNatClampNeg)]) (rest := []) F hP hD hS (X_end l D cy sk sv w tg x td pc ac sc ln se plv (xs (nI ((7 * k) + 1)).toNatClampNeg) hIX) gT_X10_end rfl rfl (by decide +kernel) ⟨(Nat.le_of_ble_eq_true rfl), (Nat.le_of_ble_eq_true rfl)⟩ rfl hl.1 (Nat.le_of_ble_eq_true rfl) hxc rfl dL_law_535 rfl ⟨(show 250 + 2 * k + 0 ≤ 600000 from by omega), (show 12629 + 15 * k + 0 ≤ 7302250 from by omega)⟩ (fun v214 w215 hp213 H locs hP hD hS => ?_)
          obtain ⟨rfl, tg216, hg217, hk218, hIX219⟩ := hp213
          have hIM220 := IM.kept hIM hk218 (fun a h9 => Nat.not_lt.mpr h9) hg217
          obtain ⟨_, hxc221⟩ := hIX219.cell
          obtain ⟨_, hyc222⟩ := hIM220.cell
          refine W.eq (g2 := F0 m 538 ls [.int (endA ln (xs (nI ((7 * k) + 1)).toNatClampNeg))]) rfl (W.widen (k := 250 + 2 * k + 0) (n := 12629 + 15 * k + 0) (Nat.le_refl _) (Nat.le_refl _) ?_)
          refine lv_pop hx hb dL_law_538 rfl ?_
          refine lv_aload_n hx hb dL_law_539 rfl (lv_at hl 2 rfl) ?_
          refine lv_aload_n hx hb dL_law_540 rfl (lv_at hl 0 rfl) ?_
          refine lv_iload_n hx hb dL_law_541 rfl (lv_at hl 3 rfl) ?_
          refine lv_iconst (v := 1) hx hb dL_law_542 (by decide) ?_
          refine lv_iadd hx hb dL_law_543 ?_
          rw [show ((nI (7 * k)) + 1 : Int32) = nI ((7 * k) + 1) from nI_add (7 * k) 1]
          refine va_sld hx hb hX hbl hbA hS (vp_in_nI (n := ((7 * k) + 1)) (N := L) (by omega) (by omega)) dL_law_544 ?_
          refine x_callV (n := 1) (As := [.int (xs (nI ((7 * k) + 1)).toNatClampNeg)]) (rest := []) F hP hD hS (M_end l D cy sk sv w215 tg216 y td pc ac sc ln se plv (xs (nI ((7 * k) + 1)).toNatClampNeg) hIM220) gT_X11_end rfl rfl (by decide +kernel) ⟨(Nat.le_of_ble_eq_true rfl), (Nat.le_of_ble_eq_true rfl)⟩ rfl hl.1 (Nat.le_of_ble_eq_true rfl) hyc222 rfl dL_law_545 rfl ⟨(show 250 + 2 * k + 0 + 0 ≤ 600000 from by omega), (show 12629 + 15 * k + 0 + 0 ≤ 7302250 from by omega)⟩ (fun v224 w225 hp223 H locs hP hD hS => ?_)
          obtain ⟨rfl, hk226, hIM228⟩ := hp223
          have hIX227 := IX.kept hIX219 hk226 (fun a h9 => Nat.not_le.mpr h9) (fun _ _ => rfl)
          obtain ⟨_, hxc229⟩ := hIX227.cell
          obtain ⟨_, hyc230⟩ := hIM228.cell
          refine W.eq (g2 := F0 m 548 ls [.int (endA ln (xs (nI ((7 * k) + 1)).toNatClampNeg))]) rfl (W.widen (k := 250 + 2 * k + 0 + 0) (n := 12629 + 15 * k + 0 + 0) (Nat.le_refl _) (Nat.le_refl _) ?_)
          refine lv_pop hx hb dL_law_548 rfl ?_
          refine lv_goto (tgt := 956) hx hb dL_law_549 (by decide) ?_
          refine lv_iinc (v := nI (7 * (k + 1))) (lv' := [(3, .int (nI (7 * (k + 1)))), (0, .ref b), (1, .ref x), (2, .ref y)]) hx hb dL_law_956 hl (k := 3) rfl (lw_7 k) (by decide) rfl (fun ls hl => ?_)
          refine lv_goto (tgt := 18) hx hb dL_law_959 (by decide) ?_
          refine W.widen (k := 250 + 2 * (k + 1)) (n := 12629 + 15 * (k + 1)) (by omega) (by omega) ?_
          exact ih18 (k + 1) tg216 td pc ac sc (endC ln (xs (nI ((7 * k) + 1)).toNatClampNeg)) se plv w225 (by omega) (by omega) hIX227 hIM228 ls (lv_sub hl [1, 2, 3, 0] rfl) H locs hP hD hS
        by_cases c_231 : sw = 10
        · refine lv_tableIn (off := 519) (tgt := 552) hx hb dL_law_33 (by rw [c_231]; decide) (by rw [c_231]; decide) (by rw [c_231]; decide) (by decide) ?_
          refine lv_aload_n hx hb dL_law_552 rfl (lv_at hl 1 rfl) ?_
          refine lv_aload_n hx hb dL_law_553 rfl (lv_at hl 0 rfl) ?_
          refine lv_iload_n hx hb dL_law_554 rfl (lv_at hl 3 rfl) ?_
          refine lv_iconst (v := 1) hx hb dL_law_555 (by decide) ?_
          refine lv_iadd hx hb dL_law_556 ?_
          rw [show ((nI (7 * k)) + 1 : Int32) = nI ((7 * k) + 1) from nI_add (7 * k) 1]
          refine va_sld hx hb hX hbl hbA hS (vp_in_nI (n := ((7 * k) + 1)) (N := L) (by omega) (by omega)) dL_law_557 ?_
          refine x_callV (n := 1) (As := [.int (xs (nI ((7 * k) + 1)).toNatClampNeg)]) (rest := []) F hP hD hS (X_text l D cy sk sv w tg x td pc ac sc ln se plv (xs (nI ((7 * k) + 1)).toNatClampNeg) hIX) gT_X10_text rfl rfl (by decide +kernel) ⟨(Nat.le_of_ble_eq_true rfl), (Nat.le_of_ble_eq_true rfl)⟩ rfl hl.1 (Nat.le_of_ble_eq_true rfl) hxc rfl dL_law_558 rfl ⟨(show 250 + 2 * k + 0 ≤ 600000 from by omega), (show 12629 + 15 * k + 0 ≤ 7302250 from by omega)⟩ (fun v233 w234 hp232 H locs hP hD hS => ?_)
          obtain ⟨⟨r235, rfl⟩, tg236, hg237, hk238, hIX239⟩ := hp232
          have hIM240 := IM.kept hIM hk238 (fun a h9 => Nat.not_lt.mpr h9) hg237
          obtain ⟨_, hxc241⟩ := hIX239.cell
          obtain ⟨_, hyc242⟩ := hIM240.cell
          refine W.eq (g2 := F0 m 561 ls [.int r235]) rfl (W.widen (k := 250 + 2 * k + 0) (n := 12629 + 15 * k + 0) (Nat.le_refl _) (Nat.le_refl _) ?_)
          refine lv_pop hx hb dL_law_561 rfl ?_
          refine lv_aload_n hx hb dL_law_562 rfl (lv_at hl 2 rfl) ?_
          refine lv_aload_n hx hb dL_law_563 rfl (lv_at hl 0 rfl) ?_
          refine lv_iload_n hx hb dL_law_564 rfl (lv_at hl 3 rfl) ?_
          refine lv_iconst (v := 1) hx hb dL_law_565 (by decide) ?_
          refine lv_iadd hx hb dL_law_566 ?_
          rw [show ((nI (7 * k)) + 1 : Int32) = nI ((7 * k) + 1) from nI_add (7 * k) 1]
          refine va_sld hx hb hX hbl hbA hS (vp_in_nI (n := ((7 * k) + 1)) (N := L) (by omega) (by omega)) dL_law_567 ?_
          refine x_callV (n := 1) (As := [.int (xs (nI ((7 * k) + 1)).toNatClampNeg)]) (rest := []) F hP hD hS (M_text l D cy sk sv w234 tg236 y td pc ac sc ln se plv (xs (nI ((7 * k) + 1)).toNatClampNeg) hIM240) gT_X11_text rfl rfl (by decide +kernel) ⟨(Nat.le_of_ble_eq_true rfl), (Nat.le_of_ble_eq_true rfl)⟩ rfl hl.1 (Nat.le_of_ble_eq_true rfl) hyc242 rfl dL_law_568 rfl ⟨(show 250 + 2 * k + 0 + 0 ≤ 600000 from by omega), (show 12629 + 15 * k + 0 + 0 ≤ 7302250 from by omega)⟩ (fun v244 w245 hp243 H locs hP hD hS => ?_)
          obtain ⟨⟨r246, rfl⟩, hk247, hIM249⟩ := hp243
          have hIX248 := IX.kept hIX239 hk247 (fun a h9 => Nat.not_le.mpr h9) (fun _ _ => rfl)
          obtain ⟨_, hxc250⟩ := hIX248.cell
          obtain ⟨_, hyc251⟩ := hIM249.cell
          refine W.eq (g2 := F0 m 571 ls [.int r246]) rfl (W.widen (k := 250 + 2 * k + 0 + 0) (n := 12629 + 15 * k + 0 + 0) (Nat.le_refl _) (Nat.le_refl _) ?_)
          refine lv_pop hx hb dL_law_571 rfl ?_
          refine lv_goto (tgt := 956) hx hb dL_law_572 (by decide) ?_
          refine lv_iinc (v := nI (7 * (k + 1))) (lv' := [(3, .int (nI (7 * (k + 1)))), (0, .ref b), (1, .ref x), (2, .ref y)]) hx hb dL_law_956 hl (k := 3) rfl (lw_7 k) (by decide) rfl (fun ls hl => ?_)
          refine lv_goto (tgt := 18) hx hb dL_law_959 (by decide) ?_
          refine W.widen (k := 250 + 2 * (k + 1)) (n := 12629 + 15 * (k + 1)) (by omega) (by omega) ?_
          exact ih18 (k + 1) tg236 td pc ac sc (txtC ln (xs (nI ((7 * k) + 1)).toNatClampNeg)) se plv w245 (by omega) (by omega) hIX248 hIM249 ls (lv_sub hl [1, 2, 3, 0] rfl) H locs hP hD hS
        by_cases c_252 : sw = 11
        · refine lv_tableIn (off := 542) (tgt := 575) hx hb dL_law_33 (by rw [c_252]; decide) (by rw [c_252]; decide) (by rw [c_252]; decide) (by decide) ?_
          refine lv_aload_n hx hb dL_law_575 rfl (lv_at hl 1 rfl) ?_
          refine x_callV (n := 0) (As := []) (rest := []) F hP hD hS (X_law l D cy sk sv w tg x td pc ac sc ln se plv hIX) gT_X10_law rfl rfl (by decide +kernel) ⟨(Nat.le_of_ble_eq_true rfl), (Nat.le_of_ble_eq_true rfl)⟩ rfl hl.1 (Nat.le_of_ble_eq_true rfl) hxc rfl dL_law_576 rfl ⟨(show 250 + 2 * k + 0 ≤ 600000 from by omega), (show 12629 + 15 * k + 0 ≤ 7302250 from by omega)⟩ (fun v254 w255 hp253 H locs hP hD hS => ?_)
          obtain ⟨⟨r256, rfl⟩, tg257, hg258, hk259, hIX260⟩ := hp253
          have hIM261 := IM.kept hIM hk259 (fun a h9 => Nat.not_lt.mpr h9) hg258
          obtain ⟨_, hxc262⟩ := hIX260.cell
          obtain ⟨_, hyc263⟩ := hIM261.cell
          refine W.eq (g2 := F0 m 579 ls [.int r256]) rfl (W.widen (k := 250 + 2 * k + 0) (n := 12629 + 15 * k + 0) (Nat.le_refl _) (Nat.le_refl _) ?_)
          refine lv_pop hx hb dL_law_579 rfl ?_
          refine lv_aload_n hx hb dL_law_580 rfl (lv_at hl 2 rfl) ?_
          refine x_callV (n := 0) (As := []) (rest := []) F hP hD hS (M_law l D cy sk sv w255 tg257 y td pc ac sc ln se plv hIM261) gT_X11_law rfl rfl (by decide +kernel) ⟨(Nat.le_of_ble_eq_true rfl), (Nat.le_of_ble_eq_true rfl)⟩ rfl hl.1 (Nat.le_of_ble_eq_true rfl) hyc263 rfl dL_law_581 rfl ⟨(show 250 + 2 * k + 0 + 0 ≤ 600000 from by omega), (show 12629 + 15 * k + 0 + 0 ≤ 7302250 from by omega)⟩ (fun v265 w266 hp264 H locs hP hD hS => ?_)
          obtain ⟨⟨r267, rfl⟩, hk268, hIM270⟩ := hp264
          have hIX269 := IX.kept hIX260 hk268 (fun a h9 => Nat.not_le.mpr h9) (fun _ _ => rfl)
          obtain ⟨_, hxc271⟩ := hIX269.cell
          obtain ⟨_, hyc272⟩ := hIM270.cell
          refine W.eq (g2 := F0 m 584 ls [.int r267]) rfl (W.widen (k := 250 + 2 * k + 0 + 0) (n := 12629 + 15 * k + 0 + 0) (Nat.le_refl _) (Nat.le_refl _) ?_)
          refine lv_pop hx hb dL_law_584 rfl ?_
          refine lv_goto (tgt := 956) hx hb dL_law_585 (by decide) ?_
          refine lv_iinc (v := nI (7 * (k + 1))) (lv' := [(3, .int (nI (7 * (k + 1)))), (0, .ref b), (1, .ref x), (2, .ref y)]) hx hb dL_law_956 hl (k := 3) rfl (lw_7 k) (by decide) rfl (fun ls hl => ?_)
          refine lv_goto (tgt := 18) hx hb dL_law_959 (by decide) ?_
          refine W.widen (k := 250 + 2 * (k + 1)) (n := 12629 + 15 * (k + 1)) (by omega) (by omega) ?_
          exact ih18 (k + 1) tg257 td pc ac sc 0 se plv w266 (by omega) (by omega) hIX269 hIM270 ls (lv_sub hl [1, 2, 3, 0] rfl) H locs hP hD hS
        by_cases c_273 : sw = 12
        · refine lv_tableIn (off := 555) (tgt := 588) hx hb dL_law_33 (by rw [c_273]; decide) (by rw [c_273]; decide) (by rw [c_273]; decide) (by decide) ?_
          refine lv_aload_n hx hb dL_law_588 rfl (lv_at hl 1 rfl) ?_
          refine lv_aload_n hx hb dL_law_589 rfl (lv_at hl 0 rfl) ?_
          refine lv_iload_n hx hb dL_law_590 rfl (lv_at hl 3 rfl) ?_
          refine lv_iconst (v := 1) hx hb dL_law_591 (by decide) ?_
          refine lv_iadd hx hb dL_law_592 ?_
          rw [show ((nI (7 * k)) + 1 : Int32) = nI ((7 * k) + 1) from nI_add (7 * k) 1]
          refine va_sld hx hb hX hbl hbA hS (vp_in_nI (n := ((7 * k) + 1)) (N := L) (by omega) (by omega)) dL_law_593 ?_
          refine lv_aload_n hx hb dL_law_594 rfl (lv_at hl 0 rfl) ?_
          refine lv_iload_n hx hb dL_law_595 rfl (lv_at hl 3 rfl) ?_
          refine lv_iconst (v := 2) hx hb dL_law_596 (by decide) ?_
          refine lv_iadd hx hb dL_law_597 ?_
          rw [show ((nI (7 * k)) + 2 : Int32) = nI ((7 * k) + 2) from nI_add (7 * k) 2]
          refine va_sld hx hb hX hbl hbA hS (vp_in_nI (n := ((7 * k) + 2)) (N := L) (by omega) (by omega)) dL_law_598 ?_
          refine lv_aload_n hx hb dL_law_599 rfl (lv_at hl 0 rfl) ?_
          refine lv_iload_n hx hb dL_law_600 rfl (lv_at hl 3 rfl) ?_
          refine lv_iconst (v := 3) hx hb dL_law_601 (by decide) ?_
          refine lv_iadd hx hb dL_law_602 ?_
          rw [show ((nI (7 * k)) + 3 : Int32) = nI ((7 * k) + 3) from nI_add (7 * k) 3]
          refine va_sld hx hb hX hbl hbA hS (vp_in_nI (n := ((7 * k) + 3)) (N := L) (by omega) (by omega)) dL_law_603 ?_
          refine lv_aload_n hx hb dL_law_604 rfl (lv_at hl 0 rfl) ?_
          refine lv_iload_n hx hb dL_law_605 rfl (lv_at hl 3 rfl) ?_
          refine lv_iconst (v := 4) hx hb dL_law_606 (by decide) ?_
          refine lv_iadd hx hb dL_law_607 ?_
          rw [show ((nI (7 * k)) + 4 : Int32) = nI ((7 * k) + 4) from nI_add (7 * k) 4]
          refine va_sld hx hb hX hbl hbA hS (vp_in_nI (n := ((7 * k) + 4)) (N := L) (by omega) (by omega)) dL_law_608 ?_
          refine lv_aload_n hx hb dL_law_609 rfl (lv_at hl 0 rfl) ?_
          refine lv_iload_n hx hb dL_law_610 rfl (lv_at hl 3 rfl) ?_
          refine lv_iconst (v := 5) hx hb dL_law_611 (by decide) ?_
          refine lv_iadd hx hb dL_law_612 ?_
          rw [show ((nI (7 * k)) + 5 : Int32) = nI ((7 * k) + 5) from nI_add (7 * k) 5]
          refine va_sld hx hb hX hbl hbA hS (vp_in_nI (n := ((7 * k) + 5)) (N := L) (by omega) (by omega)) dL_law_613 ?_
          refine lv_aload_n hx hb dL_law_614 rfl (lv_at hl 0 rfl) ?_
          refine lv_iload_n hx hb dL_law_615 rfl (lv_at hl 3 rfl) ?_
          refine lv_bipush (v := 6) hx hb dL_law_616 (by decide) ?_
          refine lv_iadd hx hb dL_law_618 ?_
          rw [show ((nI (7 * k)) + 6 : Int32) = nI ((7 * k) + 6) from nI_add (7 * k) 6]
          refine va_sld hx hb hX hbl hbA hS (vp_in_nI (n := ((7 * k) + 6)) (N := L) (by omega) (by omega)) dL_law_619 ?_
          refine lv_if_eq (tgt := 627) hx hb dL_law_620 (by decide) (fun c_274 => ?_) (fun c_274 => ?_)
          · refine lv_iconst (v := 0) hx hb dL_law_627 (by decide) ?_
            refine x_callV (n := 6) (As := [.int (xs (nI ((7 * k) + 1)).toNatClampNeg), .int (xs (nI ((7 * k) + 2)).toNatClampNeg), .int (xs (nI ((7 * k) + 3)).toNatClampNeg), .int (xs (nI ((7 * k) + 4)).toNatClampNeg), .int (xs (nI ((7 * k) + 5)).toNatClampNeg), .int 0]) (rest := []) F hP hD hS (X_show l D cy sk sv w tg x td pc ac sc ln se plv (xs (nI ((7 * k) + 1)).toNatClampNeg) (xs (nI ((7 * k) + 2)).toNatClampNeg) (xs (nI ((7 * k) + 3)).toNatClampNeg) (xs (nI ((7 * k) + 4)).toNatClampNeg) (xs (nI ((7 * k) + 5)).toNatClampNeg) 0 hIX) gT_X10_show rfl rfl (by decide +kernel) ⟨(Nat.le_of_ble_eq_true rfl), (Nat.le_of_ble_eq_true rfl)⟩ rfl hl.1 (Nat.le_of_ble_eq_true rfl) hxc rfl dL_law_628 rfl ⟨(show 250 + 2 * k + 1 ≤ 600000 from by omega), (show 12629 + 15 * k + 10 ≤ 7302250 from by omega)⟩ (fun v276 w277 hp275 H locs hP hD hS => ?_)
            obtain ⟨⟨r278, rfl⟩, tg279, hg280, hk281, hIX282⟩ := hp275
            have hIM283 := IM.kept hIM hk281 (fun a h9 => Nat.not_lt.mpr h9) hg280
            obtain ⟨_, hxc284⟩ := hIX282.cell
            obtain ⟨_, hyc285⟩ := hIM283.cell
            refine W.eq (g2 := F0 m 631 ls [.int r278]) rfl (W.widen (k := 250 + 2 * k + 1) (n := 12629 + 15 * k + 10) (Nat.le_refl _) (Nat.le_refl _) ?_)
            refine lv_pop hx hb dL_law_631 rfl ?_
            refine lv_aload_n hx hb dL_law_632 rfl (lv_at hl 2 rfl) ?_
            refine lv_aload_n hx hb dL_law_633 rfl (lv_at hl 0 rfl) ?_
            refine lv_iload_n hx hb dL_law_634 rfl (lv_at hl 3 rfl) ?_
            refine lv_iconst (v := 1) hx hb dL_law_635 (by decide) ?_
            refine lv_iadd hx hb dL_law_636 ?_
            rw [show ((nI (7 * k)) + 1 : Int32) = nI ((7 * k) + 1) from nI_add (7 * k) 1]
            refine va_sld hx hb hX hbl hbA hS (vp_in_nI (n := ((7 * k) + 1)) (N := L) (by omega) (by omega)) dL_law_637 ?_
            refine lv_aload_n hx hb dL_law_638 rfl (lv_at hl 0 rfl) ?_
            refine lv_iload_n hx hb dL_law_639 rfl (lv_at hl 3 rfl) ?_
            refine lv_iconst (v := 2) hx hb dL_law_640 (by decide) ?_
            refine lv_iadd hx hb dL_law_641 ?_
            rw [show ((nI (7 * k)) + 2 : Int32) = nI ((7 * k) + 2) from nI_add (7 * k) 2]
            refine va_sld hx hb hX hbl hbA hS (vp_in_nI (n := ((7 * k) + 2)) (N := L) (by omega) (by omega)) dL_law_642 ?_
            refine lv_aload_n hx hb dL_law_643 rfl (lv_at hl 0 rfl) ?_
            refine lv_iload_n hx hb dL_law_644 rfl (lv_at hl 3 rfl) ?_
            refine lv_iconst (v := 3) hx hb dL_law_645 (by decide) ?_
            refine lv_iadd hx hb dL_law_646 ?_
            rw [show ((nI (7 * k)) + 3 : Int32) = nI ((7 * k) + 3) from nI_add (7 * k) 3]
            refine va_sld hx hb hX hbl hbA hS (vp_in_nI (n := ((7 * k) + 3)) (N := L) (by omega) (by omega)) dL_law_647 ?_
            refine lv_aload_n hx hb dL_law_648 rfl (lv_at hl 0 rfl) ?_
            refine lv_iload_n hx hb dL_law_649 rfl (lv_at hl 3 rfl) ?_
            refine lv_iconst (v := 4) hx hb dL_law_650 (by decide) ?_
            refine lv_iadd hx hb dL_law_651 ?_
            rw [show ((nI (7 * k)) + 4 : Int32) = nI ((7 * k) + 4) from nI_add (7 * k) 4]
            refine va_sld hx hb hX hbl hbA hS (vp_in_nI (n := ((7 * k) + 4)) (N := L) (by omega) (by omega)) dL_law_652 ?_
            refine lv_aload_n hx hb dL_law_653 rfl (lv_at hl 0 rfl) ?_
            refine lv_iload_n hx hb dL_law_654 rfl (lv_at hl 3 rfl) ?_
            refine lv_iconst (v := 5) hx hb dL_law_655 (by decide) ?_
            refine lv_iadd hx hb dL_law_656 ?_
            rw [show ((nI (7 * k)) + 5 : Int32) = nI ((7 * k) + 5) from nI_add (7 * k) 5]
            refine va_sld hx hb hX hbl hbA hS (vp_in_nI (n := ((7 * k) + 5)) (N := L) (by omega) (by omega)) dL_law_657 ?_
            refine lv_aload_n hx hb dL_law_658 rfl (lv_at hl 0 rfl) ?_
            refine lv_iload_n hx hb dL_law_659 rfl (lv_at hl 3 rfl) ?_
            refine lv_bipush (v := 6) hx hb dL_law_660 (by decide) ?_
            refine lv_iadd hx hb dL_law_662 ?_
            rw [show ((nI (7 * k)) + 6 : Int32) = nI ((7 * k) + 6) from nI_add (7 * k) 6]
            refine va_sld hx hb hX hbl hbA hS (vp_in_nI (n := ((7 * k) + 6)) (N := L) (by omega) (by omega)) dL_law_663 ?_
            refine lv_if_eq (tgt := 671) hx hb dL_law_664 (by decide) (fun c_286 => ?_) (fun c_286 => absurd c_274 c_286)
            refine lv_iconst (v := 0) hx hb dL_law_671 (by decide) ?_
            refine x_callV (n := 6) (As := [.int (xs (nI ((7 * k) + 1)).toNatClampNeg), .int (xs (nI ((7 * k) + 2)).toNatClampNeg), .int (xs (nI ((7 * k) + 3)).toNatClampNeg), .int (xs (nI ((7 * k) + 4)).toNatClampNeg), .int (xs (nI ((7 * k) + 5)).toNatClampNeg), .int 0]) (rest := []) F hP hD hS (M_show l D cy sk sv w277 tg279 y td pc ac sc ln se plv (xs (nI ((7 * k) + 1)).toNatClampNeg) (xs (nI ((7 * k) + 2)).toNatClampNeg) (xs (nI ((7 * k) + 3)).toNatClampNeg) (xs (nI ((7 * k) + 4)).toNatClampNeg) (xs (nI ((7 * k) + 5)).toNatClampNeg) 0 hIM283) gT_X11_show rfl rfl (by decide +kernel) ⟨(Nat.le_of_ble_eq_true rfl), (Nat.le_of_ble_eq_true rfl)⟩ rfl hl.1 (Nat.le_of_ble_eq_true rfl) hyc285 rfl dL_law_672 rfl ⟨(show 250 + 2 * k + 1 + 0 ≤ 600000 from by omega), (show 12629 + 15 * k + 10 + 0 ≤ 7302250 from by omega)⟩ (fun v288 w289 hp287 H locs hP hD hS => ?_)
            obtain ⟨⟨r290, rfl⟩, hk291, hIM293⟩ := hp287
            have hIX292 := IX.kept hIX282 hk291 (fun a h9 => Nat.not_le.mpr h9) (fun _ _ => rfl)
            obtain ⟨_, hxc294⟩ := hIX292.cell
            obtain ⟨_, hyc295⟩ := hIM293.cell
            refine W.eq (g2 := F0 m 675 ls [.int r290]) rfl (W.widen (k := 250 + 2 * k + 1 + 0) (n := 12629 + 15 * k + 10 + 0) (Nat.le_refl _) (Nat.le_refl _) ?_)
            refine lv_pop hx hb dL_law_675 rfl ?_
            refine lv_goto (tgt := 956) hx hb dL_law_676 (by decide) ?_
            refine lv_iinc (v := nI (7 * (k + 1))) (lv' := [(3, .int (nI (7 * (k + 1)))), (0, .ref b), (1, .ref x), (2, .ref y)]) hx hb dL_law_956 hl (k := 3) rfl (lw_7 k) (by decide) rfl (fun ls hl => ?_)
            refine lv_goto (tgt := 18) hx hb dL_law_959 (by decide) ?_
            refine W.widen (k := 250 + 2 * (k + 1)) (n := 12629 + 15 * (k + 1)) (by omega) (by omega) ?_
            exact ih18 (k + 1) tg279 td pc ac sc ln se plv w289 (by omega) (by omega) hIX292 hIM293 ls (lv_sub hl [1, 2, 3, 0] rfl) H locs hP hD hS
          · refine lv_iconst (v := 1) hx hb dL_law_623 (by decide) ?_
            refine lv_goto (tgt := 628) hx hb dL_law_624 (by decide) ?_
            refine x_callV (n := 6) (As := [.int (xs (nI ((7 * k) + 1)).toNatClampNeg), .int (xs (nI ((7 * k) + 2)).toNatClampNeg), .int (xs (nI ((7 * k) + 3)).toNatClampNeg), .int (xs (nI ((7 * k) + 4)).toNatClampNeg), .int (xs (nI ((7 * k) + 5)).toNatClampNeg), .int 1]) (rest := []) F hP hD hS (X_show l D cy sk sv w tg x td pc ac sc ln se plv (xs (nI ((7 * k) + 1)).toNatClampNeg) (xs (nI ((7 * k) + 2)).toNatClampNeg) (xs (nI ((7 * k) + 3)).toNatClampNeg) (xs (nI ((7 * k) + 4)).toNatClampNeg) (xs (nI ((7 * k) + 5)).toNatClampNeg) 1 hIX) gT_X10_show rfl rfl (by decide +kernel) ⟨(Nat.le_of_ble_eq_true rfl), (Nat.le_of_ble_eq_true rfl)⟩ rfl hl.1 (Nat.le_of_ble_eq_true rfl) hxc rfl dL_law_628 rfl ⟨(show 250 + 2 * k + 1 ≤ 600000 from by omega), (show 12629 + 15 * k + 10 ≤ 7302250 from by omega)⟩ (fun v297 w298 hp296 H locs hP hD hS => ?_)
            obtain ⟨⟨r299, rfl⟩, tg300, hg301, hk302, hIX303⟩ := hp296
            have hIM304 := IM.kept hIM hk302 (fun a h9 => Nat.not_lt.mpr h9) hg301
            obtain ⟨_, hxc305⟩ := hIX303.cell
            obtain ⟨_, hyc306⟩ := hIM304.cell
            refine W.eq (g2 := F0 m 631 ls [.int r299]) rfl (W.widen (k := 250 + 2 * k + 1) (n := 12629 + 15 * k + 10) (Nat.le_refl _) (Nat.le_refl _) ?_)
            refine lv_pop hx hb dL_law_631 rfl ?_
            refine lv_aload_n hx hb dL_law_632 rfl (lv_at hl 2 rfl) ?_
            refine lv_aload_n hx hb dL_law_633 rfl (lv_at hl 0 rfl) ?_
            refine lv_iload_n hx hb dL_law_634 rfl (lv_at hl 3 rfl) ?_
            refine lv_iconst (v := 1) hx hb dL_law_635 (by decide) ?_
            refine lv_iadd hx hb dL_law_636 ?_
            rw [show ((nI (7 * k)) + 1 : Int32) = nI ((7 * k) + 1) from nI_add (7 * k) 1]
            refine va_sld hx hb hX hbl hbA hS (vp_in_nI (n := ((7 * k) + 1)) (N := L) (by omega) (by omega)) dL_law_637 ?_
            refine lv_aload_n hx hb dL_law_638 rfl (lv_at hl 0 rfl) ?_
            refine lv_iload_n hx hb dL_law_639 rfl (lv_at hl 3 rfl) ?_
            refine lv_iconst (v := 2) hx hb dL_law_640 (by decide) ?_
            refine lv_iadd hx hb dL_law_641 ?_
            rw [show ((nI (7 * k)) + 2 : Int32) = nI ((7 * k) + 2) from nI_add (7 * k) 2]
            refine va_sld hx hb hX hbl hbA hS (vp_in_nI (n := ((7 * k) + 2)) (N := L) (by omega) (by omega)) dL_law_642 ?_
            refine lv_aload_n hx hb dL_law_643 rfl (lv_at hl 0 rfl) ?_
            refine lv_iload_n hx hb dL_law_644 rfl (lv_at hl 3 rfl) ?_
            refine lv_iconst (v := 3) hx hb dL_law_645 (by decide) ?_
            refine lv_iadd hx hb dL_law_646 ?_
            rw [show ((nI (7 * k)) + 3 : Int32) = nI ((7 * k) + 3) from nI_add (7 * k) 3]
            refine va_sld hx hb hX hbl hbA hS (vp_in_nI (n := ((7 * k) + 3)) (N := L) (by omega) (by omega)) dL_law_647 ?_
            refine lv_aload_n hx hb dL_law_648 rfl (lv_at hl 0 rfl) ?_
            refine lv_iload_n hx hb dL_law_649 rfl (lv_at hl 3 rfl) ?_
            refine lv_iconst (v := 4) hx hb dL_law_650 (by decide) ?_
            refine lv_iadd hx hb dL_law_651 ?_
            rw [show ((nI (7 * k)) + 4 : Int32) = nI ((7 * k) + 4) from nI_add (7 * k) 4]
            refine va_sld hx hb hX hbl hbA hS (vp_in_nI (n := ((7 * k) + 4)) (N := L) (by omega) (by omega)) dL_law_652 ?_
            refine lv_aload_n hx hb dL_law_653 rfl (lv_at hl 0 rfl) ?_
            refine lv_iload_n hx hb dL_law_654 rfl (lv_at hl 3 rfl) ?_
            refine lv_iconst (v := 5) hx hb dL_law_655 (by decide) ?_
            refine lv_iadd hx hb dL_law_656 ?_
            rw [show ((nI (7 * k)) + 5 : Int32) = nI ((7 * k) + 5) from nI_add (7 * k) 5]
            refine va_sld hx hb hX hbl hbA hS (vp_in_nI (n := ((7 * k) + 5)) (N := L) (by omega) (by omega)) dL_law_657 ?_
            refine lv_aload_n hx hb dL_law_658 rfl (lv_at hl 0 rfl) ?_
            refine lv_iload_n hx hb dL_law_659 rfl (lv_at hl 3 rfl) ?_
            refine lv_bipush (v := 6) hx hb dL_law_660 (by decide) ?_
            refine lv_iadd hx hb dL_law_662 ?_
            rw [show ((nI (7 * k)) + 6 : Int32) = nI ((7 * k) + 6) from nI_add (7 * k) 6]
            refine va_sld hx hb hX hbl hbA hS (vp_in_nI (n := ((7 * k) + 6)) (N := L) (by omega) (by omega)) dL_law_663 ?_
            refine lv_if_eq (tgt := 671) hx hb dL_law_664 (by decide) (fun c_307 => absurd c_307 c_274) (fun c_307 => ?_)
            refine lv_iconst (v := 1) hx hb dL_law_667 (by decide) ?_
            refine lv_goto (tgt := 672) hx hb dL_law_668 (by decide) ?_
            refine x_callV (n := 6) (As := [.int (xs (nI ((7 * k) + 1)).toNatClampNeg), .int (xs (nI ((7 * k) + 2)).toNatClampNeg), .int (xs (nI ((7 * k) + 3)).toNatClampNeg), .int (xs (nI ((7 * k) + 4)).toNatClampNeg), .int (xs (nI ((7 * k) + 5)).toNatClampNeg), .int 1]) (rest := []) F hP hD hS (M_show l D cy sk sv w298 tg300 y td pc ac sc ln se plv (xs (nI ((7 * k) + 1)).toNatClampNeg) (xs (nI ((7 * k) + 2)).toNatClampNeg) (xs (nI ((7 * k) + 3)).toNatClampNeg) (xs (nI ((7 * k) + 4)).toNatClampNeg) (xs (nI ((7 * k) + 5)).toNatClampNeg) 1 hIM304) gT_X11_show rfl rfl (by decide +kernel) ⟨(Nat.le_of_ble_eq_true rfl), (Nat.le_of_ble_eq_true rfl)⟩ rfl hl.1 (Nat.le_of_ble_eq_true rfl) hyc306 rfl dL_law_672 rfl ⟨(show 250 + 2 * k + 1 + 0 ≤ 600000 from by omega), (show 12629 + 15 * k + 10 + 0 ≤ 7302250 from by omega)⟩ (fun v309 w310 hp308 H locs hP hD hS => ?_)
            obtain ⟨⟨r311, rfl⟩, hk312, hIM314⟩ := hp308
            have hIX313 := IX.kept hIX303 hk312 (fun a h9 => Nat.not_le.mpr h9) (fun _ _ => rfl)
            obtain ⟨_, hxc315⟩ := hIX313.cell
            obtain ⟨_, hyc316⟩ := hIM314.cell
            refine W.eq (g2 := F0 m 675 ls [.int r311]) rfl (W.widen (k := 250 + 2 * k + 1 + 0) (n := 12629 + 15 * k + 10 + 0) (Nat.le_refl _) (Nat.le_refl _) ?_)
            refine lv_pop hx hb dL_law_675 rfl ?_
            refine lv_goto (tgt := 956) hx hb dL_law_676 (by decide) ?_
            refine lv_iinc (v := nI (7 * (k + 1))) (lv' := [(3, .int (nI (7 * (k + 1)))), (0, .ref b), (1, .ref x), (2, .ref y)]) hx hb dL_law_956 hl (k := 3) rfl (lw_7 k) (by decide) rfl (fun ls hl => ?_)
            refine lv_goto (tgt := 18) hx hb dL_law_959 (by decide) ?_
            refine W.widen (k := 250 + 2 * (k + 1)) (n := 12629 + 15 * (k + 1)) (by omega) (by omega) ?_
            exact ih18 (k + 1) tg300 td pc ac sc ln se plv w310 (by omega) (by omega) hIX313 hIM314 ls (lv_sub hl [1, 2, 3, 0] rfl) H locs hP hD hS
        by_cases c_317 : sw = 13
        · refine lv_tableIn (off := 646) (tgt := 679) hx hb dL_law_33 (by rw [c_317]; decide) (by rw [c_317]; decide) (by rw [c_317]; decide) (by decide) ?_
          refine lv_aload_n hx hb dL_law_679 rfl (lv_at hl 1 rfl) ?_
          refine lv_aload_n hx hb dL_law_680 rfl (lv_at hl 0 rfl) ?_
          refine lv_iload_n hx hb dL_law_681 rfl (lv_at hl 3 rfl) ?_
          refine lv_iconst (v := 1) hx hb dL_law_682 (by decide) ?_
          refine lv_iadd hx hb dL_law_683 ?_
          rw [show ((nI (7 * k)) + 1 : Int32) = nI ((7 * k) + 1) from nI_add (7 * k) 1]
          refine va_sld hx hb hX hbl hbA hS (vp_in_nI (n := ((7 * k) + 1)) (N := L) (by omega) (by omega)) dL_law_684 ?_
          refine lv_aload_n hx hb dL_law_685 rfl (lv_at hl 0 rfl) ?_
          refine lv_iload_n hx hb dL_law_686 rfl (lv_at hl 3 rfl) ?_
          refine lv_iconst (v := 2) hx hb dL_law_687 (by decide) ?_
          refine lv_iadd hx hb dL_law_688 ?_
          rw [show ((nI (7 * k)) + 2 : Int32) = nI ((7 * k) + 2) from nI_add (7 * k) 2]
          refine va_sld hx hb hX hbl hbA hS (vp_in_nI (n := ((7 * k) + 2)) (N := L) (by omega) (by omega)) dL_law_689 ?_
          refine x_callV (n := 2) (As := [.int (xs (nI ((7 * k) + 1)).toNatClampNeg), .int (xs (nI ((7 * k) + 2)).toNatClampNeg)]) (rest := []) F hP hD hS (X_send l D cy sk sv w tg x td pc ac sc ln se plv (xs (nI ((7 * k) + 1)).toNatClampNeg) (xs (nI ((7 * k) + 2)).toNatClampNeg) hIX) gT_X10_send rfl rfl (by decide +kernel) ⟨(Nat.le_of_ble_eq_true rfl), (Nat.le_of_ble_eq_true rfl)⟩ rfl hl.1 (Nat.le_of_ble_eq_true rfl) hxc rfl dL_law_690 rfl ⟨(show 250 + 2 * k + 0 ≤ 600000 from by omega), (show 12629 + 15 * k + 0 ≤ 7302250 from by omega)⟩ (fun v319 w320 hp318 H locs hP hD hS => ?_)
          obtain ⟨rfl, tg321, hg322, hk323, hIX324⟩ := hp318
          have hIM325 := IM.kept hIM hk323 (fun a h9 => Nat.not_lt.mpr h9) hg322
          obtain ⟨_, hxc326⟩ := hIX324.cell
          obtain ⟨_, hyc327⟩ := hIM325.cell
          refine W.eq (g2 := F0 m 693 ls [.int (sndA se (xs (nI ((7 * k) + 1)).toNatClampNeg) (xs (nI ((7 * k) + 2)).toNatClampNeg))]) rfl (W.widen (k := 250 + 2 * k + 0) (n := 12629 + 15 * k + 0) (Nat.le_refl _) (Nat.le_refl _) ?_)
          refine lv_pop hx hb dL_law_693 rfl ?_
          refine lv_aload_n hx hb dL_law_694 rfl (lv_at hl 2 rfl) ?_
          refine lv_aload_n hx hb dL_law_695 rfl (lv_at hl 0 rfl) ?_
          refine lv_iload_n hx hb dL_law_696 rfl (lv_at hl 3 rfl) ?_
          refine lv_iconst (v := 1) hx hb dL_law_697 (by decide) ?_
          refine lv_iadd hx hb dL_law_698 ?_
          rw [show ((nI (7 * k)) + 1 : Int32) = nI ((7 * k) + 1) from nI_add (7 * k) 1]
          refine va_sld hx hb hX hbl hbA hS (vp_in_nI (n := ((7 * k) + 1)) (N := L) (by omega) (by omega)) dL_law_699 ?_
          refine lv_aload_n hx hb dL_law_700 rfl (lv_at hl 0 rfl) ?_
          refine lv_iload_n hx hb dL_law_701 rfl (lv_at hl 3 rfl) ?_
          refine lv_iconst (v := 2) hx hb dL_law_702 (by decide) ?_
          refine lv_iadd hx hb dL_law_703 ?_
          rw [show ((nI (7 * k)) + 2 : Int32) = nI ((7 * k) + 2) from nI_add (7 * k) 2]
          refine va_sld hx hb hX hbl hbA hS (vp_in_nI (n := ((7 * k) + 2)) (N := L) (by omega) (by omega)) dL_law_704 ?_
          refine x_callV (n := 2) (As := [.int (xs (nI ((7 * k) + 1)).toNatClampNeg), .int (xs (nI ((7 * k) + 2)).toNatClampNeg)]) (rest := []) F hP hD hS (M_send l D cy sk sv w320 tg321 y td pc ac sc ln se plv (xs (nI ((7 * k) + 1)).toNatClampNeg) (xs (nI ((7 * k) + 2)).toNatClampNeg) hIM325) gT_X11_send rfl rfl (by decide +kernel) ⟨(Nat.le_of_ble_eq_true rfl), (Nat.le_of_ble_eq_true rfl)⟩ rfl hl.1 (Nat.le_of_ble_eq_true rfl) hyc327 rfl dL_law_705 rfl ⟨(show 250 + 2 * k + 0 + 0 ≤ 600000 from by omega), (show 12629 + 15 * k + 0 + 0 ≤ 7302250 from by omega)⟩ (fun v329 w330 hp328 H locs hP hD hS => ?_)
          obtain ⟨rfl, hk331, hIM333⟩ := hp328
          have hIX332 := IX.kept hIX324 hk331 (fun a h9 => Nat.not_le.mpr h9) (fun _ _ => rfl)
          obtain ⟨_, hxc334⟩ := hIX332.cell
          obtain ⟨_, hyc335⟩ := hIM333.cell
          refine W.eq (g2 := F0 m 708 ls [.int (sndA se (xs (nI ((7 * k) + 1)).toNatClampNeg) (xs (nI ((7 * k) + 2)).toNatClampNeg))]) rfl (W.widen (k := 250 + 2 * k + 0 + 0) (n := 12629 + 15 * k + 0 + 0) (Nat.le_refl _) (Nat.le_refl _) ?_)
          refine lv_pop hx hb dL_law_708 rfl ?_
          refine lv_goto (tgt := 956) hx hb dL_law_709 (by decide) ?_
          refine lv_iinc (v := nI (7 * (k + 1))) (lv' := [(3, .int (nI (7 * (k + 1)))), (0, .ref b), (1, .ref x), (2, .ref y)]) hx hb dL_law_956 hl (k := 3) rfl (lw_7 k) (by decide) rfl (fun ls hl => ?_)
          refine lv_goto (tgt := 18) hx hb dL_law_959 (by decide) ?_
          refine W.widen (k := 250 + 2 * (k + 1)) (n := 12629 + 15 * (k + 1)) (by omega) (by omega) ?_
          exact ih18 (k + 1) tg321 td pc ac sc ln (sndS se (xs (nI ((7 * k) + 1)).toNatClampNeg) (xs (nI ((7 * k) + 2)).toNatClampNeg)) plv w330 (by omega) (by omega) hIX332 hIM333 ls (lv_sub hl [1, 2, 3, 0] rfl) H locs hP hD hS
        by_cases c_336 : sw = 14
        · refine lv_tableIn (off := 679) (tgt := 712) hx hb dL_law_33 (by rw [c_336]; decide) (by rw [c_336]; decide) (by rw [c_336]; decide) (by decide) ?_
          refine lv_aload_n hx hb dL_law_712 rfl (lv_at hl 1 rfl) ?_
          refine lv_aload_n hx hb dL_law_713 rfl (lv_at hl 0 rfl) ?_
          refine lv_iload_n hx hb dL_law_714 rfl (lv_at hl 3 rfl) ?_
          refine lv_iconst (v := 1) hx hb dL_law_715 (by decide) ?_
          refine lv_iadd hx hb dL_law_716 ?_
          rw [show ((nI (7 * k)) + 1 : Int32) = nI ((7 * k) + 1) from nI_add (7 * k) 1]
          refine va_sld hx hb hX hbl hbA hS (vp_in_nI (n := ((7 * k) + 1)) (N := L) (by omega) (by omega)) dL_law_717 ?_
          refine lv_aload_n hx hb dL_law_718 rfl (lv_at hl 0 rfl) ?_
          refine lv_iload_n hx hb dL_law_719 rfl (lv_at hl 3 rfl) ?_
          refine lv_iconst (v := 2) hx hb dL_law_720 (by decide) ?_
          refine lv_iadd hx hb dL_law_721 ?_
          rw [show ((nI (7 * k)) + 2 : Int32) = nI ((7 * k) + 2) from nI_add (7 * k) 2]
          refine va_sld hx hb hX hbl hbA hS (vp_in_nI (n := ((7 * k) + 2)) (N := L) (by omega) (by omega)) dL_law_722 ?_
          refine x_callV (n := 2) (As := [.int (xs (nI ((7 * k) + 1)).toNatClampNeg), .int (xs (nI ((7 * k) + 2)).toNatClampNeg)]) (rest := []) F hP hD hS (X_shown l D cy sk sv w tg x td pc ac sc ln se plv (xs (nI ((7 * k) + 1)).toNatClampNeg) (xs (nI ((7 * k) + 2)).toNatClampNeg) hIX) gT_X10_shown rfl rfl (by decide +kernel) ⟨(Nat.le_of_ble_eq_true rfl), (Nat.le_of_ble_eq_true rfl)⟩ rfl hl.1 (Nat.le_of_ble_eq_true rfl) hxc rfl dL_law_723 rfl ⟨(show 250 + 2 * k + 0 ≤ 600000 from by omega), (show 12629 + 15 * k + 0 ≤ 7302250 from by omega)⟩ (fun v338 w339 hp337 H locs hP hD hS => ?_)
          obtain ⟨⟨r340, rfl⟩, tg341, hg342, hk343, hIX344⟩ := hp337
          have hIM345 := IM.kept hIM hk343 (fun a h9 => Nat.not_lt.mpr h9) hg342
          obtain ⟨_, hxc346⟩ := hIX344.cell
          obtain ⟨_, hyc347⟩ := hIM345.cell
          refine W.eq (g2 := F0 m 726 ls [.int r340]) rfl (W.widen (k := 250 + 2 * k + 0) (n := 12629 + 15 * k + 0) (Nat.le_refl _) (Nat.le_refl _) ?_)
          refine lv_pop hx hb dL_law_726 rfl ?_
          refine lv_aload_n hx hb dL_law_727 rfl (lv_at hl 2 rfl) ?_
          refine lv_aload_n hx hb dL_law_728 rfl (lv_at hl 0 rfl) ?_
          refine lv_iload_n hx hb dL_law_729 rfl (lv_at hl 3 rfl) ?_
          refine lv_iconst (v := 1) hx hb dL_law_730 (by decide) ?_
          refine lv_iadd hx hb dL_law_731 ?_
          rw [show ((nI (7 * k)) + 1 : Int32) = nI ((7 * k) + 1) from nI_add (7 * k) 1]
          refine va_sld hx hb hX hbl hbA hS (vp_in_nI (n := ((7 * k) + 1)) (N := L) (by omega) (by omega)) dL_law_732 ?_
          refine lv_aload_n hx hb dL_law_733 rfl (lv_at hl 0 rfl) ?_
          refine lv_iload_n hx hb dL_law_734 rfl (lv_at hl 3 rfl) ?_
          refine lv_iconst (v := 2) hx hb dL_law_735 (by decide) ?_
          refine lv_iadd hx hb dL_law_736 ?_
          rw [show ((nI (7 * k)) + 2 : Int32) = nI ((7 * k) + 2) from nI_add (7 * k) 2]
          refine va_sld hx hb hX hbl hbA hS (vp_in_nI (n := ((7 * k) + 2)) (N := L) (by omega) (by omega)) dL_law_737 ?_
          refine x_callV (n := 2) (As := [.int (xs (nI ((7 * k) + 1)).toNatClampNeg), .int (xs (nI ((7 * k) + 2)).toNatClampNeg)]) (rest := []) F hP hD hS (M_shown l D cy sk sv w339 tg341 y td pc ac sc ln se plv (xs (nI ((7 * k) + 1)).toNatClampNeg) (xs (nI ((7 * k) + 2)).toNatClampNeg) hIM345) gT_X11_shown rfl rfl (by decide +kernel) ⟨(Nat.le_of_ble_eq_true rfl), (Nat.le_of_ble_eq_true rfl)⟩ rfl hl.1 (Nat.le_of_ble_eq_true rfl) hyc347 rfl dL_law_738 rfl ⟨(show 250 + 2 * k + 0 + 0 ≤ 600000 from by omega), (show 12629 + 15 * k + 0 + 0 ≤ 7302250 from by omega)⟩ (fun v349 w350 hp348 H locs hP hD hS => ?_)
          obtain ⟨⟨r351, rfl⟩, hk352, hIM354⟩ := hp348
          have hIX353 := IX.kept hIX344 hk352 (fun a h9 => Nat.not_le.mpr h9) (fun _ _ => rfl)
          obtain ⟨_, hxc355⟩ := hIX353.cell
          obtain ⟨_, hyc356⟩ := hIM354.cell
          refine W.eq (g2 := F0 m 741 ls [.int r351]) rfl (W.widen (k := 250 + 2 * k + 0 + 0) (n := 12629 + 15 * k + 0 + 0) (Nat.le_refl _) (Nat.le_refl _) ?_)
          refine lv_pop hx hb dL_law_741 rfl ?_
          refine lv_goto (tgt := 956) hx hb dL_law_742 (by decide) ?_
          refine lv_iinc (v := nI (7 * (k + 1))) (lv' := [(3, .int (nI (7 * (k + 1)))), (0, .ref b), (1, .ref x), (2, .ref y)]) hx hb dL_law_956 hl (k := 3) rfl (lw_7 k) (by decide) rfl (fun ls hl => ?_)
          refine lv_goto (tgt := 18) hx hb dL_law_959 (by decide) ?_
          refine W.widen (k := 250 + 2 * (k + 1)) (n := 12629 + 15 * (k + 1)) (by omega) (by omega) ?_
          exact ih18 (k + 1) tg341 td pc ac sc ln se plv w350 (by omega) (by omega) hIX353 hIM354 ls (lv_sub hl [1, 2, 3, 0] rfl) H locs hP hD hS
        by_cases c_357 : sw = 15
        · refine lv_tableIn (off := 712) (tgt := 745) hx hb dL_law_33 (by rw [c_357]; decide) (by rw [c_357]; decide) (by rw [c_357]; decide) (by decide) ?_
          refine lv_aload_n hx hb dL_law_745 rfl (lv_at hl 1 rfl) ?_
          refine lv_aload_n hx hb dL_law_746 rfl (lv_at hl 0 rfl) ?_
          refine lv_iload_n hx hb dL_law_747 rfl (lv_at hl 3 rfl) ?_
          refine lv_iconst (v := 1) hx hb dL_law_748 (by decide) ?_
          refine lv_iadd hx hb dL_law_749 ?_
          rw [show ((nI (7 * k)) + 1 : Int32) = nI ((7 * k) + 1) from nI_add (7 * k) 1]
          refine va_sld hx hb hX hbl hbA hS (vp_in_nI (n := ((7 * k) + 1)) (N := L) (by omega) (by omega)) dL_law_750 ?_
          refine lv_aload_n hx hb dL_law_751 rfl (lv_at hl 0 rfl) ?_
          refine lv_iload_n hx hb dL_law_752 rfl (lv_at hl 3 rfl) ?_
          refine lv_iconst (v := 2) hx hb dL_law_753 (by decide) ?_
          refine lv_iadd hx hb dL_law_754 ?_
          rw [show ((nI (7 * k)) + 2 : Int32) = nI ((7 * k) + 2) from nI_add (7 * k) 2]
          refine va_sld hx hb hX hbl hbA hS (vp_in_nI (n := ((7 * k) + 2)) (N := L) (by omega) (by omega)) dL_law_755 ?_
          refine x_callV (n := 2) (As := [.int (xs (nI ((7 * k) + 1)).toNatClampNeg), .int (xs (nI ((7 * k) + 2)).toNatClampNeg)]) (rest := []) F hP hD hS (X_paper l D cy sk sv w tg x td pc ac sc ln se plv (xs (nI ((7 * k) + 1)).toNatClampNeg) (xs (nI ((7 * k) + 2)).toNatClampNeg) hIX) gT_X10_paper rfl rfl (by decide +kernel) ⟨(Nat.le_of_ble_eq_true rfl), (Nat.le_of_ble_eq_true rfl)⟩ rfl hl.1 (Nat.le_of_ble_eq_true rfl) hxc rfl dL_law_756 rfl ⟨(show 250 + 2 * k + 0 ≤ 600000 from by omega), (show 12629 + 15 * k + 0 ≤ 7302250 from by omega)⟩ (fun v359 w360 hp358 H locs hP hD hS => ?_)
          obtain ⟨⟨r361, rfl⟩, tg362, hg363, hk364, hIX365⟩ := hp358
          have hIM366 := IM.kept hIM hk364 (fun a h9 => Nat.not_lt.mpr h9) hg363
          obtain ⟨_, hxc367⟩ := hIX365.cell
          obtain ⟨_, hyc368⟩ := hIM366.cell
          refine W.eq (g2 := F0 m 759 ls [.int r361]) rfl (W.widen (k := 250 + 2 * k + 0) (n := 12629 + 15 * k + 0) (Nat.le_refl _) (Nat.le_refl _) ?_)
          refine lv_pop hx hb dL_law_759 rfl ?_
          refine lv_aload_n hx hb dL_law_760 rfl (lv_at hl 2 rfl) ?_
          refine lv_aload_n hx hb dL_law_761 rfl (lv_at hl 0 rfl) ?_
          refine lv_iload_n hx hb dL_law_762 rfl (lv_at hl 3 rfl) ?_
          refine lv_iconst (v := 1) hx hb dL_law_763 (by decide) ?_
          refine lv_iadd hx hb dL_law_764 ?_
          rw [show ((nI (7 * k)) + 1 : Int32) = nI ((7 * k) + 1) from nI_add (7 * k) 1]
          refine va_sld hx hb hX hbl hbA hS (vp_in_nI (n := ((7 * k) + 1)) (N := L) (by omega) (by omega)) dL_law_765 ?_
          refine lv_aload_n hx hb dL_law_766 rfl (lv_at hl 0 rfl) ?_
          refine lv_iload_n hx hb dL_law_767 rfl (lv_at hl 3 rfl) ?_
          refine lv_iconst (v := 2) hx hb dL_law_768 (by decide) ?_
          refine lv_iadd hx hb dL_law_769 ?_
          rw [show ((nI (7 * k)) + 2 : Int32) = nI ((7 * k) + 2) from nI_add (7 * k) 2]
          refine va_sld hx hb hX hbl hbA hS (vp_in_nI (n := ((7 * k) + 2)) (N := L) (by omega) (by omega)) dL_law_770 ?_
          refine x_callV (n := 2) (As := [.int (xs (nI ((7 * k) + 1)).toNatClampNeg), .int (xs (nI ((7 * k) + 2)).toNatClampNeg)]) (rest := []) F hP hD hS (M_paper l D cy sk sv w360 tg362 y td pc ac sc ln se plv (xs (nI ((7 * k) + 1)).toNatClampNeg) (xs (nI ((7 * k) + 2)).toNatClampNeg) hIM366) gT_X11_paper rfl rfl (by decide +kernel) ⟨(Nat.le_of_ble_eq_true rfl), (Nat.le_of_ble_eq_true rfl)⟩ rfl hl.1 (Nat.le_of_ble_eq_true rfl) hyc368 rfl dL_law_771 rfl ⟨(show 250 + 2 * k + 0 + 0 ≤ 600000 from by omega), (show 12629 + 15 * k + 0 + 0 ≤ 7302250 from by omega)⟩ (fun v370 w371 hp369 H locs hP hD hS => ?_)
          obtain ⟨⟨r372, rfl⟩, hk373, hIM375⟩ := hp369
          have hIX374 := IX.kept hIX365 hk373 (fun a h9 => Nat.not_le.mpr h9) (fun _ _ => rfl)
          obtain ⟨_, hxc376⟩ := hIX374.cell
          obtain ⟨_, hyc377⟩ := hIM375.cell
          refine W.eq (g2 := F0 m 774 ls [.int r372]) rfl (W.widen (k := 250 + 2 * k + 0 + 0) (n := 12629 + 15 * k + 0 + 0) (Nat.le_refl _) (Nat.le_refl _) ?_)
          refine lv_pop hx hb dL_law_774 rfl ?_
          refine lv_goto (tgt := 956) hx hb dL_law_775 (by decide) ?_
          refine lv_iinc (v := nI (7 * (k + 1))) (lv' := [(3, .int (nI (7 * (k + 1)))), (0, .ref b), (1, .ref x), (2, .ref y)]) hx hb dL_law_956 hl (k := 3) rfl (lw_7 k) (by decide) rfl (fun ls hl => ?_)
          refine lv_goto (tgt := 18) hx hb dL_law_959 (by decide) ?_
          refine W.widen (k := 250 + 2 * (k + 1)) (n := 12629 + 15 * (k + 1)) (by omega) (by omega) ?_
          exact ih18 (k + 1) tg362 td pc ac sc ln se plv w371 (by omega) (by omega) hIX374 hIM375 ls (lv_sub hl [1, 2, 3, 0] rfl) H locs hP hD hS
        by_cases c_378 : sw = 16
        · refine lv_tableIn (off := 745) (tgt := 778) hx hb dL_law_33 (by rw [c_378]; decide) (by rw [c_378]; decide) (by rw [c_378]; decide) (by decide) ?_
          refine lv_aload_n hx hb dL_law_778 rfl (lv_at hl 1 rfl) ?_
          refine lv_aload_n hx hb dL_law_779 rfl (lv_at hl 0 rfl) ?_
          refine lv_iload_n hx hb dL_law_780 rfl (lv_at hl 3 rfl) ?_
          refine lv_iconst (v := 1) hx hb dL_law_781 (by decide) ?_
          refine lv_iadd hx hb dL_law_782 ?_
          rw [show ((nI (7 * k)) + 1 : Int32) = nI ((7 * k) + 1) from nI_add (7 * k) 1]
          refine va_sld hx hb hX hbl hbA hS (vp_in_nI (n := ((7 * k) + 1)) (N := L) (by omega) (by omega)) dL_law_783 ?_
          refine lv_aload_n hx hb dL_law_784 rfl (lv_at hl 0 rfl) ?_
          refine lv_iload_n hx hb dL_law_785 rfl (lv_at hl 3 rfl) ?_
          refine lv_iconst (v := 2) hx hb dL_law_786 (by decide) ?_
          refine lv_iadd hx hb dL_law_787 ?_
          rw [show ((nI (7 * k)) + 2 : Int32) = nI ((7 * k) + 2) from nI_add (7 * k) 2]
          refine va_sld hx hb hX hbl hbA hS (vp_in_nI (n := ((7 * k) + 2)) (N := L) (by omega) (by omega)) dL_law_788 ?_
          refine lv_aload_n hx hb dL_law_789 rfl (lv_at hl 0 rfl) ?_
          refine lv_iload_n hx hb dL_law_790 rfl (lv_at hl 3 rfl) ?_
          refine lv_iconst (v := 3) hx hb dL_law_791 (by decide) ?_
          refine lv_iadd hx hb dL_law_792 ?_
          rw [show ((nI (7 * k)) + 3 : Int32) = nI ((7 * k) + 3) from nI_add (7 * k) 3]
          refine va_sld hx hb hX hbl hbA hS (vp_in_nI (n := ((7 * k) + 3)) (N := L) (by omega) (by omega)) dL_law_793 ?_
          refine x_callV (n := 3) (As := [.int (xs (nI ((7 * k) + 1)).toNatClampNeg), .int (xs (nI ((7 * k) + 2)).toNatClampNeg), .int (xs (nI ((7 * k) + 3)).toNatClampNeg)]) (rest := []) F hP hD hS (X_comes l D cy sk sv w tg x td pc ac sc ln se plv (xs (nI ((7 * k) + 1)).toNatClampNeg) (xs (nI ((7 * k) + 2)).toNatClampNeg) (xs (nI ((7 * k) + 3)).toNatClampNeg) hIX) gT_X10_comes rfl rfl (by decide +kernel) ⟨(Nat.le_of_ble_eq_true rfl), (Nat.le_of_ble_eq_true rfl)⟩ rfl hl.1 (Nat.le_of_ble_eq_true rfl) hxc rfl dL_law_794 rfl ⟨(show 250 + 2 * k + 0 ≤ 600000 from by omega), (show 12629 + 15 * k + 0 ≤ 7302250 from by omega)⟩ (fun v380 w381 hp379 H locs hP hD hS => ?_)
          obtain ⟨⟨r382, rfl⟩, tg383, hg384, hk385, hIX386⟩ := hp379
          have hIM387 := IM.kept hIM hk385 (fun a h9 => Nat.not_lt.mpr h9) hg384
          obtain ⟨_, hxc388⟩ := hIX386.cell
          obtain ⟨_, hyc389⟩ := hIM387.cell
          refine W.eq (g2 := F0 m 797 ls [.int r382]) rfl (W.widen (k := 250 + 2 * k + 0) (n := 12629 + 15 * k + 0) (Nat.le_refl _) (Nat.le_refl _) ?_)
          refine lv_pop hx hb dL_law_797 rfl ?_
          refine lv_aload_n hx hb dL_law_798 rfl (lv_at hl 2 rfl) ?_
          refine lv_aload_n hx hb dL_law_799 rfl (lv_at hl 0 rfl) ?_
          refine lv_iload_n hx hb dL_law_800 rfl (lv_at hl 3 rfl) ?_
          refine lv_iconst (v := 1) hx hb dL_law_801 (by decide) ?_
          refine lv_iadd hx hb dL_law_802 ?_
          rw [show ((nI (7 * k)) + 1 : Int32) = nI ((7 * k) + 1) from nI_add (7 * k) 1]
          refine va_sld hx hb hX hbl hbA hS (vp_in_nI (n := ((7 * k) + 1)) (N := L) (by omega) (by omega)) dL_law_803 ?_
          refine lv_aload_n hx hb dL_law_804 rfl (lv_at hl 0 rfl) ?_
          refine lv_iload_n hx hb dL_law_805 rfl (lv_at hl 3 rfl) ?_
          refine lv_iconst (v := 2) hx hb dL_law_806 (by decide) ?_
          refine lv_iadd hx hb dL_law_807 ?_
          rw [show ((nI (7 * k)) + 2 : Int32) = nI ((7 * k) + 2) from nI_add (7 * k) 2]
          refine va_sld hx hb hX hbl hbA hS (vp_in_nI (n := ((7 * k) + 2)) (N := L) (by omega) (by omega)) dL_law_808 ?_
          refine lv_aload_n hx hb dL_law_809 rfl (lv_at hl 0 rfl) ?_
          refine lv_iload_n hx hb dL_law_810 rfl (lv_at hl 3 rfl) ?_
          refine lv_iconst (v := 3) hx hb dL_law_811 (by decide) ?_
          refine lv_iadd hx hb dL_law_812 ?_
          rw [show ((nI (7 * k)) + 3 : Int32) = nI ((7 * k) + 3) from nI_add (7 * k) 3]
          refine va_sld hx hb hX hbl hbA hS (vp_in_nI (n := ((7 * k) + 3)) (N := L) (by omega) (by omega)) dL_law_813 ?_
          refine x_callV (n := 3) (As := [.int (xs (nI ((7 * k) + 1)).toNatClampNeg), .int (xs (nI ((7 * k) + 2)).toNatClampNeg), .int (xs (nI ((7 * k) + 3)).toNatClampNeg)]) (rest := []) F hP hD hS (M_comes l D cy sk sv w381 tg383 y td pc ac sc ln se plv (xs (nI ((7 * k) + 1)).toNatClampNeg) (xs (nI ((7 * k) + 2)).toNatClampNeg) (xs (nI ((7 * k) + 3)).toNatClampNeg) hIM387) gT_X11_comes rfl rfl (by decide +kernel) ⟨(Nat.le_of_ble_eq_true rfl), (Nat.le_of_ble_eq_true rfl)⟩ rfl hl.1 (Nat.le_of_ble_eq_true rfl) hyc389 rfl dL_law_814 rfl ⟨(show 250 + 2 * k + 0 + 0 ≤ 600000 from by omega), (show 12629 + 15 * k + 0 + 0 ≤ 7302250 from by omega)⟩ (fun v391 w392 hp390 H locs hP hD hS => ?_)
          obtain ⟨⟨r393, rfl⟩, hk394, hIM396⟩ := hp390
          have hIX395 := IX.kept hIX386 hk394 (fun a h9 => Nat.not_le.mpr h9) (fun _ _ => rfl)
          obtain ⟨_, hxc397⟩ := hIX395.cell
          obtain ⟨_, hyc398⟩ := hIM396.cell
          refine W.eq (g2 := F0 m 817 ls [.int r393]) rfl (W.widen (k := 250 + 2 * k + 0 + 0) (n := 12629 + 15 * k + 0 + 0) (Nat.le_refl _) (Nat.le_refl _) ?_)
          refine lv_pop hx hb dL_law_817 rfl ?_
          refine lv_goto (tgt := 956) hx hb dL_law_818 (by decide) ?_
          refine lv_iinc (v := nI (7 * (k + 1))) (lv' := [(3, .int (nI (7 * (k + 1)))), (0, .ref b), (1, .ref x), (2, .ref y)]) hx hb dL_law_956 hl (k := 3) rfl (lw_7 k) (by decide) rfl (fun ls hl => ?_)
          refine lv_goto (tgt := 18) hx hb dL_law_959 (by decide) ?_
          refine W.widen (k := 250 + 2 * (k + 1)) (n := 12629 + 15 * (k + 1)) (by omega) (by omega) ?_
          exact ih18 (k + 1) tg383 td pc ac sc ln se plv w392 (by omega) (by omega) hIX395 hIM396 ls (lv_sub hl [1, 2, 3, 0] rfl) H locs hP hD hS
        by_cases c_399 : sw = 17
        · refine lv_tableIn (off := 788) (tgt := 821) hx hb dL_law_33 (by rw [c_399]; decide) (by rw [c_399]; decide) (by rw [c_399]; decide) (by decide) ?_
          refine lv_aload_n hx hb dL_law_821 rfl (lv_at hl 1 rfl) ?_
          refine lv_aload_n hx hb dL_law_822 rfl (lv_at hl 0 rfl) ?_
          refine lv_iload_n hx hb dL_law_823 rfl (lv_at hl 3 rfl) ?_
          refine lv_iconst (v := 1) hx hb dL_law_824 (by decide) ?_
          refine lv_iadd hx hb dL_law_825 ?_
          rw [show ((nI (7 * k)) + 1 : Int32) = nI ((7 * k) + 1) from nI_add (7 * k) 1]
          refine va_sld hx hb hX hbl hbA hS (vp_in_nI (n := ((7 * k) + 1)) (N := L) (by omega) (by omega)) dL_law_826 ?_
          refine x_callV (n := 1) (As := [.int (xs (nI ((7 * k) + 1)).toNatClampNeg)]) (rest := []) F hP hD hS (X_settle l D cy sk sv w tg x td pc ac sc ln se plv (xs (nI ((7 * k) + 1)).toNatClampNeg) hIX) gT_X10_settle rfl rfl (by decide +kernel) ⟨(Nat.le_of_ble_eq_true rfl), (Nat.le_of_ble_eq_true rfl)⟩ rfl hl.1 (Nat.le_of_ble_eq_true rfl) hxc rfl dL_law_827 rfl ⟨(show 250 + 2 * k + 0 ≤ 600000 from by omega), (show 12629 + 15 * k + 0 ≤ 7302250 from by omega)⟩ (fun v401 w402 hp400 H locs hP hD hS => ?_)
          obtain ⟨⟨r403, rfl⟩, tg404, hg405, hk406, hIX407⟩ := hp400
          have hIM408 := IM.kept hIM hk406 (fun a h9 => Nat.not_lt.mpr h9) hg405
          obtain ⟨_, hxc409⟩ := hIX407.cell
          obtain ⟨_, hyc410⟩ := hIM408.cell
          refine W.eq (g2 := F0 m 830 ls [.int r403]) rfl (W.widen (k := 250 + 2 * k + 0) (n := 12629 + 15 * k + 0) (Nat.le_refl _) (Nat.le_refl _) ?_)
          refine lv_pop hx hb dL_law_830 rfl ?_
          refine lv_aload_n hx hb dL_law_831 rfl (lv_at hl 2 rfl) ?_
          refine lv_aload_n hx hb dL_law_832 rfl (lv_at hl 0 rfl) ?_
          refine lv_iload_n hx hb dL_law_833 rfl (lv_at hl 3 rfl) ?_
          refine lv_iconst (v := 1) hx hb dL_law_834 (by decide) ?_
          refine lv_iadd hx hb dL_law_835 ?_
          rw [show ((nI (7 * k)) + 1 : Int32) = nI ((7 * k) + 1) from nI_add (7 * k) 1]
          refine va_sld hx hb hX hbl hbA hS (vp_in_nI (n := ((7 * k) + 1)) (N := L) (by omega) (by omega)) dL_law_836 ?_
          refine x_callV (n := 1) (As := [.int (xs (nI ((7 * k) + 1)).toNatClampNeg)]) (rest := []) F hP hD hS (M_settle l D cy sk sv w402 tg404 y td pc ac sc ln se plv (xs (nI ((7 * k) + 1)).toNatClampNeg) hIM408) gT_X11_settle rfl rfl (by decide +kernel) ⟨(Nat.le_of_ble_eq_true rfl), (Nat.le_of_ble_eq_true rfl)⟩ rfl hl.1 (Nat.le_of_ble_eq_true rfl) hyc410 rfl dL_law_837 rfl ⟨(show 250 + 2 * k + 0 + 0 ≤ 600000 from by omega), (show 12629 + 15 * k + 0 + 0 ≤ 7302250 from by omega)⟩ (fun v412 w413 hp411 H locs hP hD hS => ?_)
          obtain ⟨⟨r414, rfl⟩, hk415, hIM417⟩ := hp411
          have hIX416 := IX.kept hIX407 hk415 (fun a h9 => Nat.not_le.mpr h9) (fun _ _ => rfl)
          obtain ⟨_, hxc418⟩ := hIX416.cell
          obtain ⟨_, hyc419⟩ := hIM417.cell
          refine W.eq (g2 := F0 m 840 ls [.int r414]) rfl (W.widen (k := 250 + 2 * k + 0 + 0) (n := 12629 + 15 * k + 0 + 0) (Nat.le_refl _) (Nat.le_refl _) ?_)
          refine lv_pop hx hb dL_law_840 rfl ?_
          refine lv_goto (tgt := 956) hx hb dL_law_841 (by decide) ?_
          refine lv_iinc (v := nI (7 * (k + 1))) (lv' := [(3, .int (nI (7 * (k + 1)))), (0, .ref b), (1, .ref x), (2, .ref y)]) hx hb dL_law_956 hl (k := 3) rfl (lw_7 k) (by decide) rfl (fun ls hl => ?_)
          refine lv_goto (tgt := 18) hx hb dL_law_959 (by decide) ?_
          refine W.widen (k := 250 + 2 * (k + 1)) (n := 12629 + 15 * (k + 1)) (by omega) (by omega) ?_
          exact ih18 (k + 1) tg404 td pc ac sc ln se plv w413 (by omega) (by omega) hIX416 hIM417 ls (lv_sub hl [1, 2, 3, 0] rfl) H locs hP hD hS
        by_cases c_420 : sw = 18
        · refine lv_tableIn (off := 811) (tgt := 844) hx hb dL_law_33 (by rw [c_420]; decide) (by rw [c_420]; decide) (by rw [c_420]; decide) (by decide) ?_
          refine lv_aload_n hx hb dL_law_844 rfl (lv_at hl 1 rfl) ?_
          refine lv_aload_n hx hb dL_law_845 rfl (lv_at hl 0 rfl) ?_
          refine lv_iload_n hx hb dL_law_846 rfl (lv_at hl 3 rfl) ?_
          refine lv_iconst (v := 1) hx hb dL_law_847 (by decide) ?_
          refine lv_iadd hx hb dL_law_848 ?_
          rw [show ((nI (7 * k)) + 1 : Int32) = nI ((7 * k) + 1) from nI_add (7 * k) 1]
          refine va_sld hx hb hX hbl hbA hS (vp_in_nI (n := ((7 * k) + 1)) (N := L) (by omega) (by omega)) dL_law_849 ?_
          refine lv_aload_n hx hb dL_law_850 rfl (lv_at hl 0 rfl) ?_
          refine lv_iload_n hx hb dL_law_851 rfl (lv_at hl 3 rfl) ?_
          refine lv_iconst (v := 2) hx hb dL_law_852 (by decide) ?_
          refine lv_iadd hx hb dL_law_853 ?_
          rw [show ((nI (7 * k)) + 2 : Int32) = nI ((7 * k) + 2) from nI_add (7 * k) 2]
          refine va_sld hx hb hX hbl hbA hS (vp_in_nI (n := ((7 * k) + 2)) (N := L) (by omega) (by omega)) dL_law_854 ?_
          refine x_callV (n := 2) (As := [.int (xs (nI ((7 * k) + 1)).toNatClampNeg), .int (xs (nI ((7 * k) + 2)).toNatClampNeg)]) (rest := []) F hP hD hS (X_settled l D cy sk sv w tg x td pc ac sc ln se plv (xs (nI ((7 * k) + 1)).toNatClampNeg) (xs (nI ((7 * k) + 2)).toNatClampNeg) hIX) gT_X10_settled rfl rfl (by decide +kernel) ⟨(Nat.le_of_ble_eq_true rfl), (Nat.le_of_ble_eq_true rfl)⟩ rfl hl.1 (Nat.le_of_ble_eq_true rfl) hxc rfl dL_law_855 rfl ⟨(show 250 + 2 * k + 0 ≤ 600000 from by omega), (show 12629 + 15 * k + 0 ≤ 7302250 from by omega)⟩ (fun v422 w423 hp421 H locs hP hD hS => ?_)
          obtain ⟨⟨r424, rfl⟩, tg425, hg426, hk427, hIX428⟩ := hp421
          have hIM429 := IM.kept hIM hk427 (fun a h9 => Nat.not_lt.mpr h9) hg426
          obtain ⟨_, hxc430⟩ := hIX428.cell
          obtain ⟨_, hyc431⟩ := hIM429.cell
          refine W.eq (g2 := F0 m 858 ls [.int r424]) rfl (W.widen (k := 250 + 2 * k + 0) (n := 12629 + 15 * k + 0) (Nat.le_refl _) (Nat.le_refl _) ?_)
          refine lv_pop hx hb dL_law_858 rfl ?_
          refine lv_aload_n hx hb dL_law_859 rfl (lv_at hl 2 rfl) ?_
          refine lv_aload_n hx hb dL_law_860 rfl (lv_at hl 0 rfl) ?_
          refine lv_iload_n hx hb dL_law_861 rfl (lv_at hl 3 rfl) ?_
          refine lv_iconst (v := 1) hx hb dL_law_862 (by decide) ?_
          refine lv_iadd hx hb dL_law_863 ?_
          rw [show ((nI (7 * k)) + 1 : Int32) = nI ((7 * k) + 1) from nI_add (7 * k) 1]
          refine va_sld hx hb hX hbl hbA hS (vp_in_nI (n := ((7 * k) + 1)) (N := L) (by omega) (by omega)) dL_law_864 ?_
          refine lv_aload_n hx hb dL_law_865 rfl (lv_at hl 0 rfl) ?_
          refine lv_iload_n hx hb dL_law_866 rfl (lv_at hl 3 rfl) ?_
          refine lv_iconst (v := 2) hx hb dL_law_867 (by decide) ?_
          refine lv_iadd hx hb dL_law_868 ?_
          rw [show ((nI (7 * k)) + 2 : Int32) = nI ((7 * k) + 2) from nI_add (7 * k) 2]
          refine va_sld hx hb hX hbl hbA hS (vp_in_nI (n := ((7 * k) + 2)) (N := L) (by omega) (by omega)) dL_law_869 ?_
          refine x_callV (n := 2) (As := [.int (xs (nI ((7 * k) + 1)).toNatClampNeg), .int (xs (nI ((7 * k) + 2)).toNatClampNeg)]) (rest := []) F hP hD hS (M_settled l D cy sk sv w423 tg425 y td pc ac sc ln se plv (xs (nI ((7 * k) + 1)).toNatClampNeg) (xs (nI ((7 * k) + 2)).toNatClampNeg) hIM429) gT_X11_settled rfl rfl (by decide +kernel) ⟨(Nat.le_of_ble_eq_true rfl), (Nat.le_of_ble_eq_true rfl)⟩ rfl hl.1 (Nat.le_of_ble_eq_true rfl) hyc431 rfl dL_law_870 rfl ⟨(show 250 + 2 * k + 0 + 0 ≤ 600000 from by omega), (show 12629 + 15 * k + 0 + 0 ≤ 7302250 from by omega)⟩ (fun v433 w434 hp432 H locs hP hD hS => ?_)
          obtain ⟨⟨r435, rfl⟩, hk436, hIM438⟩ := hp432
          have hIX437 := IX.kept hIX428 hk436 (fun a h9 => Nat.not_le.mpr h9) (fun _ _ => rfl)
          obtain ⟨_, hxc439⟩ := hIX437.cell
          obtain ⟨_, hyc440⟩ := hIM438.cell
          refine W.eq (g2 := F0 m 873 ls [.int r435]) rfl (W.widen (k := 250 + 2 * k + 0 + 0) (n := 12629 + 15 * k + 0 + 0) (Nat.le_refl _) (Nat.le_refl _) ?_)
          refine lv_pop hx hb dL_law_873 rfl ?_
          refine lv_goto (tgt := 956) hx hb dL_law_874 (by decide) ?_
          refine lv_iinc (v := nI (7 * (k + 1))) (lv' := [(3, .int (nI (7 * (k + 1)))), (0, .ref b), (1, .ref x), (2, .ref y)]) hx hb dL_law_956 hl (k := 3) rfl (lw_7 k) (by decide) rfl (fun ls hl => ?_)
          refine lv_goto (tgt := 18) hx hb dL_law_959 (by decide) ?_
          refine W.widen (k := 250 + 2 * (k + 1)) (n := 12629 + 15 * (k + 1)) (by omega) (by omega) ?_
          exact ih18 (k + 1) tg425 td pc ac sc ln se plv w434 (by omega) (by omega) hIX437 hIM438 ls (lv_sub hl [1, 2, 3, 0] rfl) H locs hP hD hS
        by_cases c_441 : sw = 19
        · refine lv_tableIn (off := 844) (tgt := 877) hx hb dL_law_33 (by rw [c_441]; decide) (by rw [c_441]; decide) (by rw [c_441]; decide) (by decide) ?_
          refine lv_aload_n hx hb dL_law_877 rfl (lv_at hl 1 rfl) ?_
          refine lv_aload_n hx hb dL_law_878 rfl (lv_at hl 0 rfl) ?_
          refine lv_iload_n hx hb dL_law_879 rfl (lv_at hl 3 rfl) ?_
          refine lv_iconst (v := 1) hx hb dL_law_880 (by decide) ?_
          refine lv_iadd hx hb dL_law_881 ?_
          rw [show ((nI (7 * k)) + 1 : Int32) = nI ((7 * k) + 1) from nI_add (7 * k) 1]
          refine va_sld hx hb hX hbl hbA hS (vp_in_nI (n := ((7 * k) + 1)) (N := L) (by omega) (by omega)) dL_law_882 ?_
          refine x_callV (n := 1) (As := [.int (xs (nI ((7 * k) + 1)).toNatClampNeg)]) (rest := []) F hP hD hS (X_due l D cy sk sv w tg x td pc ac sc ln se plv (xs (nI ((7 * k) + 1)).toNatClampNeg) hIX) gT_X10_due rfl rfl (by decide +kernel) ⟨(Nat.le_of_ble_eq_true rfl), (Nat.le_of_ble_eq_true rfl)⟩ rfl hl.1 (Nat.le_of_ble_eq_true rfl) hxc rfl dL_law_883 rfl ⟨(show 250 + 2 * k + 0 ≤ 600000 from by omega), (show 12629 + 15 * k + 0 ≤ 7302250 from by omega)⟩ (fun v443 w444 hp442 H locs hP hD hS => ?_)
          obtain ⟨⟨r445, rfl⟩, tg446, hg447, hk448, hIX449⟩ := hp442
          have hIM450 := IM.kept hIM hk448 (fun a h9 => Nat.not_lt.mpr h9) hg447
          obtain ⟨_, hxc451⟩ := hIX449.cell
          obtain ⟨_, hyc452⟩ := hIM450.cell
          refine W.eq (g2 := F0 m 886 ls [.long r445]) rfl (W.widen (k := 250 + 2 * k + 0) (n := 12629 + 15 * k + 0) (Nat.le_refl _) (Nat.le_refl _) ?_)
          refine lv_pop2_2 hx hb dL_law_886 rfl ?_
          refine lv_aload_n hx hb dL_law_887 rfl (lv_at hl 2 rfl) ?_
          refine lv_aload_n hx hb dL_law_888 rfl (lv_at hl 0 rfl) ?_
          refine lv_iload_n hx hb dL_law_889 rfl (lv_at hl 3 rfl) ?_
          refine lv_iconst (v := 1) hx hb dL_law_890 (by decide) ?_
          refine lv_iadd hx hb dL_law_891 ?_
          rw [show ((nI (7 * k)) + 1 : Int32) = nI ((7 * k) + 1) from nI_add (7 * k) 1]
          refine va_sld hx hb hX hbl hbA hS (vp_in_nI (n := ((7 * k) + 1)) (N := L) (by omega) (by omega)) dL_law_892 ?_
          refine x_callV (n := 1) (As := [.int (xs (nI ((7 * k) + 1)).toNatClampNeg)]) (rest := []) F hP hD hS (M_due l D cy sk sv w444 tg446 y td pc ac sc ln se plv (xs (nI ((7 * k) + 1)).toNatClampNeg) hIM450) gT_X11_due rfl rfl (by decide +kernel) ⟨(Nat.le_of_ble_eq_true rfl), (Nat.le_of_ble_eq_true rfl)⟩ rfl hl.1 (Nat.le_of_ble_eq_true rfl) hyc452 rfl dL_law_893 rfl ⟨(show 250 + 2 * k + 0 + 0 ≤ 600000 from by omega), (show 12629 + 15 * k + 0 + 0 ≤ 7302250 from by omega)⟩ (fun v454 w455 hp453 H locs hP hD hS => ?_)
          obtain ⟨⟨r456, rfl⟩, hk457, hIM459⟩ := hp453
          have hIX458 := IX.kept hIX449 hk457 (fun a h9 => Nat.not_le.mpr h9) (fun _ _ => rfl)
          obtain ⟨_, hxc460⟩ := hIX458.cell
          obtain ⟨_, hyc461⟩ := hIM459.cell
          refine W.eq (g2 := F0 m 896 ls [.long r456]) rfl (W.widen (k := 250 + 2 * k + 0 + 0) (n := 12629 + 15 * k + 0 + 0) (Nat.le_refl _) (Nat.le_refl _) ?_)
          refine lv_pop2_2 hx hb dL_law_896 rfl ?_
          refine lv_goto (tgt := 956) hx hb dL_law_897 (by decide) ?_
          refine lv_iinc (v := nI (7 * (k + 1))) (lv' := [(3, .int (nI (7 * (k + 1)))), (0, .ref b), (1, .ref x), (2, .ref y)]) hx hb dL_law_956 hl (k := 3) rfl (lw_7 k) (by decide) rfl (fun ls hl => ?_)
          refine lv_goto (tgt := 18) hx hb dL_law_959 (by decide) ?_
          refine W.widen (k := 250 + 2 * (k + 1)) (n := 12629 + 15 * (k + 1)) (by omega) (by omega) ?_
          exact ih18 (k + 1) tg446 td pc ac sc ln se plv w455 (by omega) (by omega) hIX458 hIM459 ls (lv_sub hl [1, 2, 3, 0] rfl) H locs hP hD hS
        by_cases c_462 : sw = 20
        · refine lv_tableIn (off := 867) (tgt := 900) hx hb dL_law_33 (by rw [c_462]; decide) (by rw [c_462]; decide) (by rw [c_462]; decide) (by decide) ?_
          refine lv_aload_n hx hb dL_law_900 rfl (lv_at hl 1 rfl) ?_
          refine lv_aload_n hx hb dL_law_901 rfl (lv_at hl 0 rfl) ?_
          refine lv_iload_n hx hb dL_law_902 rfl (lv_at hl 3 rfl) ?_
          refine lv_iconst (v := 1) hx hb dL_law_903 (by decide) ?_
          refine lv_iadd hx hb dL_law_904 ?_
          rw [show ((nI (7 * k)) + 1 : Int32) = nI ((7 * k) + 1) from nI_add (7 * k) 1]
          refine va_sld hx hb hX hbl hbA hS (vp_in_nI (n := ((7 * k) + 1)) (N := L) (by omega) (by omega)) dL_law_905 ?_
          refine lv_aload_n hx hb dL_law_906 rfl (lv_at hl 0 rfl) ?_
          refine lv_iload_n hx hb dL_law_907 rfl (lv_at hl 3 rfl) ?_
          refine lv_iconst (v := 2) hx hb dL_law_908 (by decide) ?_
          refine lv_iadd hx hb dL_law_909 ?_
          rw [show ((nI (7 * k)) + 2 : Int32) = nI ((7 * k) + 2) from nI_add (7 * k) 2]
          refine va_sld hx hb hX hbl hbA hS (vp_in_nI (n := ((7 * k) + 2)) (N := L) (by omega) (by omega)) dL_law_910 ?_
          refine x_callV (n := 2) (As := [.int (xs (nI ((7 * k) + 1)).toNatClampNeg), .int (xs (nI ((7 * k) + 2)).toNatClampNeg)]) (rest := []) F hP hD hS (X_netted l D cy sk sv w tg x td pc ac sc ln se plv (xs (nI ((7 * k) + 1)).toNatClampNeg) (xs (nI ((7 * k) + 2)).toNatClampNeg) hIX) gT_X10_netted rfl rfl (by decide +kernel) ⟨(Nat.le_of_ble_eq_true rfl), (Nat.le_of_ble_eq_true rfl)⟩ rfl hl.1 (Nat.le_of_ble_eq_true rfl) hxc rfl dL_law_911 rfl ⟨(show 250 + 2 * k + 0 ≤ 600000 from by omega), (show 12629 + 15 * k + 0 ≤ 7302250 from by omega)⟩ (fun v464 w465 hp463 H locs hP hD hS => ?_)
          obtain ⟨⟨r466, rfl⟩, tg467, hg468, hk469, hIX470⟩ := hp463
          have hIM471 := IM.kept hIM hk469 (fun a h9 => Nat.not_lt.mpr h9) hg468
          obtain ⟨_, hxc472⟩ := hIX470.cell
          obtain ⟨_, hyc473⟩ := hIM471.cell
          refine W.eq (g2 := F0 m 914 ls [.long r466]) rfl (W.widen (k := 250 + 2 * k + 0) (n := 12629 + 15 * k + 0) (Nat.le_refl _) (Nat.le_refl _) ?_)
          refine lv_pop2_2 hx hb dL_law_914 rfl ?_
          refine lv_aload_n hx hb dL_law_915 rfl (lv_at hl 2 rfl) ?_
          refine lv_aload_n hx hb dL_law_916 rfl (lv_at hl 0 rfl) ?_
          refine lv_iload_n hx hb dL_law_917 rfl (lv_at hl 3 rfl) ?_
          refine lv_iconst (v := 1) hx hb dL_law_918 (by decide) ?_
          refine lv_iadd hx hb dL_law_919 ?_
          rw [show ((nI (7 * k)) + 1 : Int32) = nI ((7 * k) + 1) from nI_add (7 * k) 1]
          refine va_sld hx hb hX hbl hbA hS (vp_in_nI (n := ((7 * k) + 1)) (N := L) (by omega) (by omega)) dL_law_920 ?_
          refine lv_aload_n hx hb dL_law_921 rfl (lv_at hl 0 rfl) ?_
          refine lv_iload_n hx hb dL_law_922 rfl (lv_at hl 3 rfl) ?_
          refine lv_iconst (v := 2) hx hb dL_law_923 (by decide) ?_
          refine lv_iadd hx hb dL_law_924 ?_
          rw [show ((nI (7 * k)) + 2 : Int32) = nI ((7 * k) + 2) from nI_add (7 * k) 2]
          refine va_sld hx hb hX hbl hbA hS (vp_in_nI (n := ((7 * k) + 2)) (N := L) (by omega) (by omega)) dL_law_925 ?_
          refine x_callV (n := 2) (As := [.int (xs (nI ((7 * k) + 1)).toNatClampNeg), .int (xs (nI ((7 * k) + 2)).toNatClampNeg)]) (rest := []) F hP hD hS (M_netted l D cy sk sv w465 tg467 y td pc ac sc ln se plv (xs (nI ((7 * k) + 1)).toNatClampNeg) (xs (nI ((7 * k) + 2)).toNatClampNeg) hIM471) gT_X11_netted rfl rfl (by decide +kernel) ⟨(Nat.le_of_ble_eq_true rfl), (Nat.le_of_ble_eq_true rfl)⟩ rfl hl.1 (Nat.le_of_ble_eq_true rfl) hyc473 rfl dL_law_926 rfl ⟨(show 250 + 2 * k + 0 + 0 ≤ 600000 from by omega), (show 12629 + 15 * k + 0 + 0 ≤ 7302250 from by omega)⟩ (fun v475 w476 hp474 H locs hP hD hS => ?_)
          obtain ⟨⟨r477, rfl⟩, hk478, hIM480⟩ := hp474
          have hIX479 := IX.kept hIX470 hk478 (fun a h9 => Nat.not_le.mpr h9) (fun _ _ => rfl)
          obtain ⟨_, hxc481⟩ := hIX479.cell
          obtain ⟨_, hyc482⟩ := hIM480.cell
          refine W.eq (g2 := F0 m 929 ls [.long r477]) rfl (W.widen (k := 250 + 2 * k + 0 + 0) (n := 12629 + 15 * k + 0 + 0) (Nat.le_refl _) (Nat.le_refl _) ?_)
          refine lv_pop2_2 hx hb dL_law_929 rfl ?_
          refine lv_goto (tgt := 956) hx hb dL_law_930 (by decide) ?_
          refine lv_iinc (v := nI (7 * (k + 1))) (lv' := [(3, .int (nI (7 * (k + 1)))), (0, .ref b), (1, .ref x), (2, .ref y)]) hx hb dL_law_956 hl (k := 3) rfl (lw_7 k) (by decide) rfl (fun ls hl => ?_)
          refine lv_goto (tgt := 18) hx hb dL_law_959 (by decide) ?_
          refine W.widen (k := 250 + 2 * (k + 1)) (n := 12629 + 15 * (k + 1)) (by omega) (by omega) ?_
          exact ih18 (k + 1) tg467 td pc ac sc ln se plv w476 (by omega) (by omega) hIX479 hIM480 ls (lv_sub hl [1, 2, 3, 0] rfl) H locs hP hD hS
        by_cases c_483 : sw = 21
        · refine lv_tableIn (off := 900) (tgt := 933) hx hb dL_law_33 (by rw [c_483]; decide) (by rw [c_483]; decide) (by rw [c_483]; decide) (by decide) ?_
          refine lv_aload_n hx hb dL_law_933 rfl (lv_at hl 1 rfl) ?_
          refine lv_aload_n hx hb dL_law_934 rfl (lv_at hl 0 rfl) ?_
          refine lv_iload_n hx hb dL_law_935 rfl (lv_at hl 3 rfl) ?_
          refine lv_iconst (v := 1) hx hb dL_law_936 (by decide) ?_
          refine lv_iadd hx hb dL_law_937 ?_
          rw [show ((nI (7 * k)) + 1 : Int32) = nI ((7 * k) + 1) from nI_add (7 * k) 1]
          refine va_sld hx hb hX hbl hbA hS (vp_in_nI (n := ((7 * k) + 1)) (N := L) (by omega) (by omega)) dL_law_938 ?_
          refine x_callV (n := 1) (As := [.int (xs (nI ((7 * k) + 1)).toNatClampNeg)]) (rest := []) F hP hD hS (X_count l D cy sk sv w tg x td pc ac sc ln se plv (xs (nI ((7 * k) + 1)).toNatClampNeg) hIX) gT_X10_count rfl rfl (by decide +kernel) ⟨(Nat.le_of_ble_eq_true rfl), (Nat.le_of_ble_eq_true rfl)⟩ rfl hl.1 (Nat.le_of_ble_eq_true rfl) hxc rfl dL_law_939 rfl ⟨(show 250 + 2 * k + 0 ≤ 600000 from by omega), (show 12629 + 15 * k + 0 ≤ 7302250 from by omega)⟩ (fun v485 w486 hp484 H locs hP hD hS => ?_)
          obtain ⟨⟨r487, rfl⟩, tg488, hg489, hk490, hIX491⟩ := hp484
          have hIM492 := IM.kept hIM hk490 (fun a h9 => Nat.not_lt.mpr h9) hg489
          obtain ⟨_, hxc493⟩ := hIX491.cell
          obtain ⟨_, hyc494⟩ := hIM492.cell
          refine W.eq (g2 := F0 m 942 ls [.int r487]) rfl (W.widen (k := 250 + 2 * k + 0) (n := 12629 + 15 * k + 0) (Nat.le_refl _) (Nat.le_refl _) ?_)
          refine lv_pop hx hb dL_law_942 rfl ?_
          refine lv_aload_n hx hb dL_law_943 rfl (lv_at hl 2 rfl) ?_
          refine lv_aload_n hx hb dL_law_944 rfl (lv_at hl 0 rfl) ?_
          refine lv_iload_n hx hb dL_law_945 rfl (lv_at hl 3 rfl) ?_
          refine lv_iconst (v := 1) hx hb dL_law_946 (by decide) ?_
          refine lv_iadd hx hb dL_law_947 ?_
          rw [show ((nI (7 * k)) + 1 : Int32) = nI ((7 * k) + 1) from nI_add (7 * k) 1]
          refine va_sld hx hb hX hbl hbA hS (vp_in_nI (n := ((7 * k) + 1)) (N := L) (by omega) (by omega)) dL_law_948 ?_
          refine x_callV (n := 1) (As := [.int (xs (nI ((7 * k) + 1)).toNatClampNeg)]) (rest := []) F hP hD hS (M_count l D cy sk sv w486 tg488 y td pc ac sc ln se plv (xs (nI ((7 * k) + 1)).toNatClampNeg) hIM492) gT_X11_count rfl rfl (by decide +kernel) ⟨(Nat.le_of_ble_eq_true rfl), (Nat.le_of_ble_eq_true rfl)⟩ rfl hl.1 (Nat.le_of_ble_eq_true rfl) hyc494 rfl dL_law_949 rfl ⟨(show 250 + 2 * k + 0 + 0 ≤ 600000 from by omega), (show 12629 + 15 * k + 0 + 0 ≤ 7302250 from by omega)⟩ (fun v496 w497 hp495 H locs hP hD hS => ?_)
          obtain ⟨⟨r498, rfl⟩, hk499, hIM501⟩ := hp495
          have hIX500 := IX.kept hIX491 hk499 (fun a h9 => Nat.not_le.mpr h9) (fun _ _ => rfl)
          obtain ⟨_, hxc502⟩ := hIX500.cell
          obtain ⟨_, hyc503⟩ := hIM501.cell
          refine W.eq (g2 := F0 m 952 ls [.int r498]) rfl (W.widen (k := 250 + 2 * k + 0 + 0) (n := 12629 + 15 * k + 0 + 0) (Nat.le_refl _) (Nat.le_refl _) ?_)
          refine lv_pop hx hb dL_law_952 rfl ?_
          refine lv_goto (tgt := 956) hx hb dL_law_953 (by decide) ?_
          refine lv_iinc (v := nI (7 * (k + 1))) (lv' := [(3, .int (nI (7 * (k + 1)))), (0, .ref b), (1, .ref x), (2, .ref y)]) hx hb dL_law_956 hl (k := 3) rfl (lw_7 k) (by decide) rfl (fun ls hl => ?_)
          refine lv_goto (tgt := 18) hx hb dL_law_959 (by decide) ?_
          refine W.widen (k := 250 + 2 * (k + 1)) (n := 12629 + 15 * (k + 1)) (by omega) (by omega) ?_
          exact ih18 (k + 1) tg488 td pc ac sc ln se plv w497 (by omega) (by omega) hIX500 hIM501 ls (lv_sub hl [1, 2, 3, 0] rfl) H locs hP hD hS
        refine lv_tableOut (tgt := 956) hx hb dL_law_33 (by have z0 := lv_neT c_17 (show (0 : Int32).toInt = 0 by decide); have z1 := lv_neT c_36 (show (1 : Int32).toInt = 1 by decide); have z2 := lv_neT c_76 (show (2 : Int32).toInt = 2 by decide); have z3 := lv_neT c_95 (show (3 : Int32).toInt = 3 by decide); have z4 := lv_neT c_114 (show (4 : Int32).toInt = 4 by decide); have z5 := lv_neT c_133 (show (5 : Int32).toInt = 5 by decide); have z6 := lv_neT c_152 (show (6 : Int32).toInt = 6 by decide); have z7 := lv_neT c_173 (show (7 : Int32).toInt = 7 by decide); have z8 := lv_neT c_193 (show (8 : Int32).toInt = 8 by decide); have z9 := lv_neT c_212 (show (9 : Int32).toInt = 9 by decide); have z10 := lv_neT c_231 (show (10 : Int32).toInt = 10 by decide); have z11 := lv_neT c_252 (show (11 : Int32).toInt = 11 by decide); have z12 := lv_neT c_273 (show (12 : Int32).toInt = 12 by decide); have z13 := lv_neT c_317 (show (13 : Int32).toInt = 13 by decide); have z14 := lv_neT c_336 (show (14 : Int32).toInt = 14 by decide); have z15 := lv_neT c_357 (show (15 : Int32).toInt = 15 by decide); have z16 := lv_neT c_378 (show (16 : Int32).toInt = 16 by decide); have z17 := lv_neT c_399 (show (17 : Int32).toInt = 17 by decide); have z18 := lv_neT c_420 (show (18 : Int32).toInt = 18 by decide); have z19 := lv_neT c_441 (show (19 : Int32).toInt = 19 by decide); have z20 := lv_neT c_462 (show (20 : Int32).toInt = 20 by decide); have z21 := lv_neT c_483 (show (21 : Int32).toInt = 21 by decide); omega) (by decide) ?_
        refine lv_iinc (v := nI (7 * (k + 1))) (lv' := [(3, .int (nI (7 * (k + 1)))), (0, .ref b), (1, .ref x), (2, .ref y)]) hx hb dL_law_956 hl (k := 3) rfl (lw_7 k) (by decide) rfl (fun ls hl => ?_)
        refine lv_goto (tgt := 18) hx hb dL_law_959 (by decide) ?_
        refine W.widen (k := 250 + 2 * (k + 1)) (n := 12629 + 15 * (k + 1)) (by omega) (by omega) ?_
        exact ih18 (k + 1) tg td pc ac sc ln se plv w (by omega) (by omega) hIX hIM ls (lv_sub hl [1, 2, 3, 0] rfl) H locs hP hD hS
  refine W.widen (k := 250 + 2 * 0) (n := 12629 + 15 * 0) (by omega) (by omega) ?_
  exact lp18 512 0 tg3 0 0 0 0 0 se (fun _ => 0) w14 (by omega) (by omega) hIX3 hIM ls (lv_sub hl [3, 2, 1, 0] rfl) H locs hP hD hS
