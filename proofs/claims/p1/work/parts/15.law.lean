/-! THE CLAIM OUT OF ONE WALK OF THE LAW'S BODY. Your part is whole_start (and what it stands on); all else here is the same for every law, but numbers. -/
def R_law : String := "NoteHouseLaw"
def lw_P (b : Addr) (xs : List Int32) (args : Array Value) (s : State) : Prop := args = #[.ref b] ∧ s.IntsAt b xs ∧ xs.length ≤ 7 ∧ (Jvm.Cond.and given_1 narrow_1).before args s = true
def lw_Q (_ : Array Value) (s : State) (o : Outcome) (t : State) : Prop := o = .returned (some (.int 1)) ∧ Framed s o t [] 600000 7302250
def lw_Z (below : List Frame) (a : Array Value) (s : State) : State → Prop := fun t => ∃ o, t.status = .running ∧ Ended t below o ∧ lw_Q a s o t
/-- the law's own end, with 1 on the stack, nothing written that was there before, its room as the claim has it -/
theorem lw_ret {p : Program} {l : Launch} {e : Env} {s : State} {m : MethodId} {below : List Frame} {meth : Method} {c : Code} {b : Nat} (hx : p.tables.exec = Jvm.exec) (hb : c.code = code) (hr : meth.sig.returnType = ret) (hlocks : meth.locks = false) {pc : Nat} {H : Heap} {ls : Array Slot} (hdg : decode code pc = .ok (.ireturn, 1)) : W p l e room_1 s m #[Value.ref b] below meth c H [] 600000 7302250 (lw_Z below #[Value.ref b] s) (F0 m pc ls [.int 1]) := by
  intro T hT X
  obtain ⟨fs, hret, hrun, hended, hW, hframe⟩ := X.leave (v := some (.int 1)) (hlocks := hlocks) (fun h => by rw [hr] at h; cases h)
  have hmeth' : T.vm.method? m = some meth := X.method'
  refine ⟨T.setFrames fs, ?_, .returned (some (.int 1)), hrun, hended, rfl, ⟨_, rfl⟩, hW, hframe⟩
  jvm_step X.here [X.here.top, hx, hb, hdg, hmeth', hr, ret, narrow_b1]
  (try refine ⟨rfl, ?_⟩); (try refine ⟨rfl, ?_⟩)
  first | (intro acts; rw [hret _ acts rfl rfl rfl]) | rw [hret _ _ rfl rfl rfl]
  exact Steps.refl _
/-- what holds at the law's entry: the machine, the code, the tables' words (any of lw_tbl by 'hts w (by decide +kernel)'), the script of L ints xs at the cell b, what the Statement gives of the start (any of its parts by flat_of_before) -/
def lw_At (p : Program) (s : State) (m : MethodId) (meth : Method) (c : Code) (b L : Nat) (xs : Nat → Int32) : Prop :=
  p.tables.exec = Jvm.exec ∧ c.code = code ∧ meth.sig.returnType = ret ∧ c.maxLocals = 4 ∧ s.vm.findClass R_law = some m.cls ∧ (∀ w ∈ lw_tbl, w.before #[Value.ref b] s = true) ∧ va_X b L xs s s.heap ∧ b < s.heap.size ∧ meth.locks = false ∧ (Jvm.Cond.and given_1 narrow_1).before #[Value.ref b] s = true
-- ===== YOUR PART BEGINS =====

theorem lt7 {L : Nat} (h : L < 7) : (Int32.ofNat L - 7 : Int32) < 0 := pk_sneg (a := L) (b := 7) (by decide) h
section WDI2
variable {p : Program} {l : Launch} {e : Env} {R : Room} {s : State} {m : MethodId} {args : Array Value} {below : List Frame} {meth : Method} {c : Code} {H : Heap} {locs : List Loc} {cells slots : Nat} {Q : State → Prop}
variable {cc : ByteArray} {pc nL : Nat} {ls : Array Slot} {rest : List Value} {D : va_G} {cy : Nat → ClassId} {A : Nat → Prop} {a : Nat} {w : Wd} {Ts : List Cond} {own : String}
theorem x_callI2 (F : wd_Fx p s m args meth c cc nL Ts own D cy A) (hP : va_P D vwCl (wd_pl w) H) (hD : va_D A (wd_pl w)) (hS : va_S A s.heap H locs) {y : MethodName} {bytes : ByteArray} {maxL index n : Nat} {ret : Option FieldType} {wsm ws' : List Cond} {rm : Room} {As : List Value} {post : Option Value → Wd → Prop} {b : Nat} (hAO : va_AOA .int s) (hM : Ct2 l D cy y wsm rm (.ref b :: As) w post) (hT : GoodIn Ts wsm) (hw : wsm = Cond.code y bytes maxL none :: ws') (hini : Cond.initialized y.cls ∈ Ts) (hl : Cond.methodLink own index y ∈ Ts) (hin : Cond.instanceMethod y ∈ Ts) (hy1 : y.name = "<init>") (hd : y.cls ≠ "java/lang/invoke/MethodHandle" ∧ y.cls ≠ "java/lang/invoke/VarHandle" ∧ (parseMethodDescriptor y.desc).map (fun d => d.parameters.length) = some n) (hR : rm.frames + 1 ≤ R.frames ∧ 8 + (maxL + 11) + rm.locals ≤ R.locals) (hn : As.length = n) (hls : ls.size = nL) (hrm : (rest.map fun v => v.category).sum ≤ 8) (hdg : decode cc pc = .ok (.invokespecial index, 3)) {st0 : List Value} (hst : st0 = As.reverse ++ .ref b :: rest)
    (hroom : cells + rm.cells ≤ R.cells ∧ slots + rm.slots ≤ R.slots) (kk : ∀ (v : Option Value) (w1 : Wd), post v w1 → ∀ (H1 : Heap) (locs1 : List Loc), va_P D vwCl (wd_pl w1) H1 → va_D A (wd_pl w1) → va_S A s.heap H1 locs1 → W p l e R s m args below meth c H1 locs1 (cells + rm.cells) (slots + rm.slots) Q (F0 m (pc + 3) ls (v.toList ++ rest))) : W p l e R s m args below meth c H locs cells slots Q (F0 m pc ls st0) := by
  obtain ⟨hfix, hG, hA, hlk⟩ := F
  have hts := hfix.2.2.2.2
  exact x_after hP hD hS hA rfl (va_runI (g := F0 m pc ls st0) hfix (hM H.size) (cwI n hts hT hw rfl rfl (hts _ hini) (hts _ hl) (hts _ hin) hy1 hd hR) ⟨fun a U g mk q => ⟨wd_P.blind a U g mk q.1, va_AOA.moved (u := U) (U := U.calling g mk a) (Vm.Alike.refl U.vm) q.2⟩, fun U hU hW => ⟨wd_P.met hP hD hG U hU hW, va_AOA.moved hW.alike hAO⟩⟩ rfl hn hls hst (lv_room hrm) hdg hroom) kk
end WDI2
set_option maxRecDepth 20000 in
theorem df_11 : ∀ j, j < 60 → defaultValue (tyX11 j) = vp_V [.int 0, .int 0, .null, .null, .null, .null, .null, .int 0, .null, .null, .null, .null, .null, .null, .null, .int 0, .int 0, .null, .null, .null, .null, .null, .null, .null, .null, .int 0, .int 0, .int 0, .int 0, .null, .null, .null, .null, .null, .null, .null, .null, .null, .int 0, .null, .null, .null, .null, .null, .null, .null, .null, .null, .null, .null, .int 0, .null, .null, .null, .null, .int 0, .null, .null, .null, .null] j := by
  intro j hj
  match j, hj with
  | 0, _ => exact rfl
  | 1, _ => exact rfl
  | 2, _ => exact rfl
  | 3, _ => exact rfl
  | 4, _ => exact rfl
  | 5, _ => exact rfl
  | 6, _ => exact rfl
  | 7, _ => exact rfl
  | 8, _ => exact rfl
  | 9, _ => exact rfl
  | 10, _ => exact rfl
  | 11, _ => exact rfl
  | 12, _ => exact rfl
  | 13, _ => exact rfl
  | 14, _ => exact rfl
  | 15, _ => exact rfl
  | 16, _ => exact rfl
  | 17, _ => exact rfl
  | 18, _ => exact rfl
  | 19, _ => exact rfl
  | 20, _ => exact rfl
  | 21, _ => exact rfl
  | 22, _ => exact rfl
  | 23, _ => exact rfl
  | 24, _ => exact rfl
  | 25, _ => exact rfl
  | 26, _ => exact rfl
  | 27, _ => exact rfl
  | 28, _ => exact rfl
  | 29, _ => exact rfl
  | 30, _ => exact rfl
  | 31, _ => exact rfl
  | 32, _ => exact rfl
  | 33, _ => exact rfl
  | 34, _ => exact rfl
  | 35, _ => exact rfl
  | 36, _ => exact rfl
  | 37, _ => exact rfl
  | 38, _ => exact rfl
  | 39, _ => exact rfl
  | 40, _ => exact rfl
  | 41, _ => exact rfl
  | 42, _ => exact rfl
  | 43, _ => exact rfl
  | 44, _ => exact rfl
  | 45, _ => exact rfl
  | 46, _ => exact rfl
  | 47, _ => exact rfl
  | 48, _ => exact rfl
  | 49, _ => exact rfl
  | 50, _ => exact rfl
  | 51, _ => exact rfl
  | 52, _ => exact rfl
  | 53, _ => exact rfl
  | 54, _ => exact rfl
  | 55, _ => exact rfl
  | 56, _ => exact rfl
  | 57, _ => exact rfl
  | 58, _ => exact rfl
  | 59, _ => exact rfl
  | j + 60, hj => exact absurd hj (by omega)
set_option maxHeartbeats 8000000 in
set_option maxRecDepth 100000 in
/-- YOUR PART: from the entry, for every script of at most 7 ints, the law comes to its end with true -/
theorem whole_start {p : Program} {e : Env} {s : State} {m : MethodId} {below : List Frame} {meth : Method} {c : Code} (l : Launch) {b L : Nat} {xs : Nat → Int32} (hL : L ≤ 7) (C0 : lw_At p s m meth c b L xs) : W p l e room_1 s m #[Value.ref b] below meth c s.heap [] 0 0 (lw_Z below #[Value.ref b] s) (entryFrame m ([Value.ref b] : List Value).toArray 4) := by
  obtain ⟨hx, hb, hr, hml, hown, hts, hX, hbl, hlocks, hgv⟩ := id C0
  have hbA : ¬ (fun q : Nat => s.heap.size ≤ q) b := Nat.not_le.mpr hbl
  obtain ⟨D, cy, hGd, hAO⟩ := gd_start hts
  have F : wd_Fx p s m #[Value.ref b] meth c cL_law 4 lw_tbl RL D cy (fun q : Nat => s.heap.size ≤ q) := ⟨⟨hx, hb, hml, hown, hts⟩, hGd, fun _ h => h, hlocks⟩
  have hl := lv_entry ([.ref b]) (n := 4) (Nat.le_of_ble_eq_true rfl)
  rw [lg_entry_eq]
  generalize (lg_sl ([.ref b]) ++ List.replicate (4 - (lg_sl ([.ref b])).length) Slot.unset).toArray = ls at hl ⊢
  have hl : lv_has ls 4 [(0, .ref b)] := hl
  obtain ⟨w, ew⟩ : ∃ w : Wd, w = ([], fun _ => .inr (0, [])) := ⟨_, rfl⟩
  have hP : va_P D vwCl (wd_pl w) s.heap := by subst ew; intro k q h; simp [wd_pl, va_pl] at h
  have hD : va_D (fun q : Nat => s.heap.size ≤ q) (wd_pl w) := by subst ew; exact ⟨fun i j p q h => by simp [wd_pl, va_pl] at h, fun k q h => by simp [wd_pl, va_pl] at h⟩
  have hS : va_S (fun q : Nat => s.heap.size ≤ q) s.heap s.heap [] := va_S.rf
  refine y_new (fs := [.null, .null, .null, .null, .null, .null, .null, .null, .null, .null, .null, .null, .int 0, .int 0, .int 0, .int 0, .int 0]) F hP hD hS (ci := 10) rfl inX10 tyX10_ok (tm_1 (List.mem_of_getElem? (i := 20) rfl)) (tm_1 (List.mem_of_getElem? (i := 21) rfl)) (tm_1 (List.mem_of_getElem? (i := 1) rfl)) df_10 (Nat.le_of_ble_eq_true rfl) (Nat.le_of_ble_eq_true rfl) dL_law_0 (fun q1 w2 ew3 hq4 H hP hD hS => ?_)
  refine W.widen (k := 1) (n := 17) (Nat.le_of_ble_eq_true rfl) (Nat.le_of_ble_eq_true rfl) ?_
  have k5 : wd_at w2 q1 (.inr (10, [.null, .null, .null, .null, .null, .null, .null, .null, .null, .null, .null, .null, .int 0, .int 0, .int 0, .int 0, .int 0])) := wd_at.nw ew3
  refine lv_dup hx hb dL_law_3 rfl ?_
  refine x_callI (ret := none) (n := 0) (As := []) (rest := [.ref q1]) F hP hD hS (c_X10_init l D cy w2 q1 k5 (fun b => b = q1) rfl) gT_X10_init rfl (tm_1 (List.mem_of_getElem? (i := 1) rfl)) (tm_1 (List.mem_of_getElem? (i := 22) rfl)) (tm_1 (List.mem_of_getElem? (i := 23) rfl)) rfl (by decide +kernel) ⟨(Nat.le_of_ble_eq_true rfl), (Nat.le_of_ble_eq_true rfl)⟩ rfl hl.1 (Nat.le_of_ble_eq_true rfl) dL_law_4 rfl ⟨(Nat.le_of_ble_eq_true rfl), (Nat.le_of_ble_eq_true rfl)⟩ (fun v7 w8 hp6 H locs hP hD hS => ?_)
  obtain ⟨rfl, -, a0, a1, a2, a3, a4, a5, a6, a7, a8, a9, a10, a11, b0, b1, b2, b3, wf, wg, tf, tn, ag, gg, pf, b6, l0, l1, l2, l3, l4, l5, l6, l7, sg, g0, g1, g2, g3, g4, b10, g10, b11, g11, o_x, o_nb, o_a0, o_b0, o_b1, o_a1, o_TW, o_a2, o_a6, o_b6, o_hsg, o_n23, o_a7, o_l0, o_l2, o_l3, o_a9, o_hg10, o_a10, o_b10, o_a11, o_b11⟩ := hp6
  refine W.eq (g2 := F0 m 7 ls [.ref q1]) rfl (W.widen (k := 117) (n := 4748) (Nat.le_of_ble_eq_true rfl) (Nat.le_of_ble_eq_true rfl) ?_)
  refine lv_astore_n (lv' := [(1, .ref q1), (0, .ref b)]) hx hb dL_law_7 rfl hl (by decide) rfl (fun ls hl => ?_)
  refine y_new (fs := [.int 0, .int 0, .null, .null, .null, .null, .null, .int 0, .null, .null, .null, .null, .null, .null, .null, .int 0, .int 0, .null, .null, .null, .null, .null, .null, .null, .null, .int 0, .int 0, .int 0, .int 0, .null, .null, .null, .null, .null, .null, .null, .null, .null, .int 0, .null, .null, .null, .null, .null, .null, .null, .null, .null, .null, .null, .int 0, .null, .null, .null, .null, .int 0, .null, .null, .null, .null]) F hP hD hS (ci := 11) rfl inX11 tyX11_ok (tm_4 (List.mem_of_getElem? (i := 74) rfl)) (tm_4 (List.mem_of_getElem? (i := 75) rfl)) (tm_1 (List.mem_of_getElem? (i := 9) rfl)) df_11 (Nat.le_of_ble_eq_true rfl) (Nat.le_of_ble_eq_true rfl) dL_law_8 (fun q9 w10 ew11 hq12 H hP hD hS => ?_)
  refine W.widen (k := 118) (n := 4808) (Nat.le_of_ble_eq_true rfl) (Nat.le_of_ble_eq_true rfl) ?_
  have k13 := wd_at.ad ew11 hq12 o_x
  have k14 : wd_at w10 q9 (.inr (11, [.int 0, .int 0, .null, .null, .null, .null, .null, .int 0, .null, .null, .null, .null, .null, .null, .null, .int 0, .int 0, .null, .null, .null, .null, .null, .null, .null, .null, .int 0, .int 0, .int 0, .int 0, .null, .null, .null, .null, .null, .null, .null, .null, .null, .int 0, .null, .null, .null, .null, .null, .null, .null, .null, .null, .null, .null, .int 0, .null, .null, .null, .null, .int 0, .null, .null, .null, .null])) := wd_at.nw ew11
  refine lv_dup hx hb dL_law_11 rfl ?_
  refine x_callI2 (ret := none) (n := 0) (As := []) (rest := [.ref q9]) F hP hD hS hAO (c_X11_init l D cy w10 q9 k14 (fun b => b = q9) rfl) gT_X11_init rfl (tm_1 (List.mem_of_getElem? (i := 9) rfl)) (tm_4 (List.mem_of_getElem? (i := 76) rfl)) (tm_4 (List.mem_of_getElem? (i := 77) rfl)) rfl (by decide +kernel) ⟨(Nat.le_of_ble_eq_true rfl), (Nat.le_of_ble_eq_true rfl)⟩ rfl hl.1 (Nat.le_of_ble_eq_true rfl) dL_law_12 rfl ⟨(Nat.le_of_ble_eq_true rfl), (Nat.le_of_ble_eq_true rfl)⟩ (fun v16 w17 hp15 H locs hP hD hS => ?_)
  obtain ⟨rfl, hkm, m2, m3, m4, m5, m6, m8, m9, m10, m11, m12, m13, m14, m17, m18, m19, m20, m21, m22, m23, m24, m29, m30, m31, m32, m33, m34, m35, m36, m37, m39, m40, m41, m42, m43, m44, m45, m46, m47, m48, m49, m51, m52, m53, m54, m56, m57, m58, m59, pr, wr, fp, fw, rc, be, q_y, q_m2, q_m3, q_pr, q_wr, q_m4, q_m5, q_m8, q_m9, q_m10, q_m11, q_m12, q_m24, q_m29, q_m35, q_m36, q_m37, q_m49, q_m51, q_m53, q_m54, hbe, n4x5, n8x9, n8x10, n8x11, n8x12, n9x10, n9x11, n9x12, n10x11, n10x12, n11x12, n35x36, n35x37, n36x37, n53x54, ipr, iwr, no2, no3, no4, no5, no8, no9, no10, no11, no12, no24, no29, no35, no36, no37, no49, no51, no53, no54, nopr, nowr⟩ := hp15
  have hk13 : wd_kp (fun b => b = q9) w8 w17 := (wd_kp.rf.add ew11 hq12).tr hkm (fun _ _ q => q)
  have hnx : ∀ b, b ∈ w8.1 → ¬ b = q9 := fun b hm q => hq12 (q ▸ hm)
  have hsub : ∀ b, b ∈ w8.1 → b ∈ w10.1 := (wd_kp.add (S := fun _ => False) wd_kp.rf ew11 hq12).1
  have p_x := hk13.2 _ _ o_x (hnx _ o_x.1)
  have p_a0 := hk13.2 _ _ o_a0 (hnx _ o_a0.1)
  have p_b0 := hk13.2 _ _ o_b0 (hnx _ o_b0.1)
  have p_b1 := hk13.2 _ _ o_b1 (hnx _ o_b1.1)
  have p_a1 := hk13.2 _ _ o_a1 (hnx _ o_a1.1)
  have p_a2 := hk13.2 _ _ o_a2 (hnx _ o_a2.1)
  have p_a6 := hk13.2 _ _ o_a6 (hnx _ o_a6.1)
  have p_b6 := hk13.2 _ _ o_b6 (hnx _ o_b6.1)
  have p_a7 := hk13.2 _ _ o_a7 (hnx _ o_a7.1)
  have p_l0 := hk13.2 _ _ o_l0 (hnx _ o_l0.1)
  have p_l2 := hk13.2 _ _ o_l2 (hnx _ o_l2.1)
  have p_l3 := hk13.2 _ _ o_l3 (hnx _ o_l3.1)
  have p_a9 := hk13.2 _ _ o_a9 (hnx _ o_a9.1)
  have p_a10 := hk13.2 _ _ o_a10 (hnx _ o_a10.1)
  have p_b10 := hk13.2 _ _ o_b10 (hnx _ o_b10.1)
  have p_a11 := hk13.2 _ _ o_a11 (hnx _ o_a11.1)
  have p_b11 := hk13.2 _ _ o_b11 (hnx _ o_b11.1)
  have p_TW : ∀ k, k < 12 → tf k = some (tn k) ∧ wd_at w17 (tn k) (.inr (8, [.int 0, .int 1000, .int 0, .ref (ag k)])) ∧ wd_at w17 (ag k) (.inr (1, [.ref (gg k 0), .ref (gg k 1), .ref (gg k 2), .ref (gg k 3), .ref (gg k 4), .int 0])) := fun k hk => ⟨(o_TW k hk).1, hk13.2 _ _ (o_TW k hk).2.1 (hnx _ (o_TW k hk).2.1.1), hk13.2 _ _ (o_TW k hk).2.2 (hnx _ (o_TW k hk).2.2.1)⟩
  have ny : q9 ∉ w8.1 := hq12
  have nx2 : m2 ∉ w8.1 := fun hm => no2 (hsub _ hm)
  have nx3 : m3 ∉ w8.1 := fun hm => no3 (hsub _ hm)
  have nx4 : m4 ∉ w8.1 := fun hm => no4 (hsub _ hm)
  have nx5 : m5 ∉ w8.1 := fun hm => no5 (hsub _ hm)
  have nx8 : m8 ∉ w8.1 := fun hm => no8 (hsub _ hm)
  have nx9 : m9 ∉ w8.1 := fun hm => no9 (hsub _ hm)
  have nx10 : m10 ∉ w8.1 := fun hm => no10 (hsub _ hm)
  have nx11 : m11 ∉ w8.1 := fun hm => no11 (hsub _ hm)
  have nx12 : m12 ∉ w8.1 := fun hm => no12 (hsub _ hm)
  have nx24 : m24 ∉ w8.1 := fun hm => no24 (hsub _ hm)
  have nx29 : m29 ∉ w8.1 := fun hm => no29 (hsub _ hm)
  have nx35 : m35 ∉ w8.1 := fun hm => no35 (hsub _ hm)
  have nx36 : m36 ∉ w8.1 := fun hm => no36 (hsub _ hm)
  have nx37 : m37 ∉ w8.1 := fun hm => no37 (hsub _ hm)
  have nx49 : m49 ∉ w8.1 := fun hm => no49 (hsub _ hm)
  have nx51 : m51 ∉ w8.1 := fun hm => no51 (hsub _ hm)
  have nx53 : m53 ∉ w8.1 := fun hm => no53 (hsub _ hm)
  have nx54 : m54 ∉ w8.1 := fun hm => no54 (hsub _ hm)
  have nxpr : ∀ i, i < 12 → pr i ∉ w8.1 := fun i hi hm => nopr i hi (hsub _ hm)
  have nxwr : ∀ i, i < 12 → wr i ∉ w8.1 := fun i hi hm => nowr i hi (hsub _ hm)
  refine W.eq (g2 := F0 m 15 ls [.ref q9]) rfl (W.widen (k := 250) (n := 12629) (Nat.le_of_ble_eq_true rfl) (Nat.le_of_ble_eq_true rfl) ?_)
  refine lv_astore_n (lv' := [(2, .ref q9), (1, .ref q1), (0, .ref b)]) hx hb dL_law_15 rfl hl (by decide) rfl (fun ls hl => ?_)
  refine lv_iconst (v := 0) hx hb dL_law_16 (by decide) ?_
  refine lv_istore_n (lv' := [(3, .int 0), (2, .ref q9), (1, .ref q1), (0, .ref b)]) hx hb dL_law_17 rfl hl (by decide) rfl (fun ls hl => ?_)
  by_cases hL7 : L = 7
  · refine lv_iload_n hx hb dL_law_18 rfl (lv_at hl 0 rfl) ?_
    refine lv_aload_n hx hb dL_law_19 rfl (lv_at hl 3 rfl) ?_
    refine va_slen hx hb hX hbl hbA hS dL_law_20 ?_
    rw [show Int32.ofNat L = 7 from by rw [hL7]; rfl]
    refine lv_bipush (v := 7) hx hb dL_law_21 (by decide) ?_
    refine lv_isub hx hb dL_law_23 ?_
    rw [show (7 - 7 : Int32) = 0 from by decide]
    refine lv_icmp_gt (tgt := 964) hx hb dL_law_24 (by decide) (fun c_18 => absurd c_18 (show ¬ (0 : Int32) < (0 : Int32) by decide)) (fun c_18 => ?_)
    refine lv_aload_n hx hb dL_law_27 rfl (lv_at hl 3 rfl) ?_
    refine lv_iload_n hx hb dL_law_28 rfl (lv_at hl 0 rfl) ?_
    refine va_sld hx hb hX hbl hbA hS (by rw [hL7]; exact vp_in_iff.mpr ⟨by decide, by decide⟩) dL_law_29 ?_
    refine lv_bipush (v := 31) hx hb dL_law_30 (by decide) ?_
    refine lv_iand hx hb dL_law_32 ?_
    refine lv_topi (fun sw esw => ?_)
    by_cases c_19 : sw = 0
    · refine lv_tableIn (off := 103) (tgt := 136) hx hb dL_law_33 (by rw [c_19]; decide) (by rw [c_19]; decide) (by rw [c_19]; decide) (by decide) ?_
      refine lv_aload_n hx hb dL_law_136 rfl (lv_at hl 2 rfl) ?_
      refine lv_aload_n hx hb dL_law_137 rfl (lv_at hl 3 rfl) ?_
      refine lv_iload_n hx hb dL_law_138 rfl (lv_at hl 0 rfl) ?_
      refine lv_iconst (v := 1) hx hb dL_law_139 (by decide) ?_
      refine lv_iadd hx hb dL_law_140 ?_
      rw [show (0 + 1 : Int32) = 1 from by decide]
      refine va_sld hx hb hX hbl hbA hS (by rw [hL7]; exact vp_in_iff.mpr ⟨by decide, by decide⟩) dL_law_141 ?_
      refine x_callV (n := 1) (As := [.int (xs (1 : Int32).toNatClampNeg)]) (rest := []) F hP hD hS (c_X10_clock l D cy w17 q1 a0 a1 a2 a3 a4 a5 a6 a7 a8 a9 a10 a11 (xs (1 : Int32).toNatClampNeg) p_x (fun b => b ∈ w8.1) o_x.1 ) gT_X10_clock rfl rfl (by decide +kernel) ⟨(Nat.le_of_ble_eq_true rfl), (Nat.le_of_ble_eq_true rfl)⟩ rfl hl.1 (Nat.le_of_ble_eq_true rfl) p_x rfl dL_law_142 rfl ⟨(Nat.le_of_ble_eq_true rfl), (Nat.le_of_ble_eq_true rfl)⟩ (fun v21 w22 hp20 H locs hP hD hS => ?_)
      obtain ⟨rfl, hp20⟩ := hp20
      have k23 := hp20.2 _ _ q_y ny
      refine W.eq (g2 := F0 m 145 ls [.int (wi (xs (1 : Int32).toNatClampNeg) 0 3000)]) rfl (W.widen (k := 250) (n := 12629) (Nat.le_of_ble_eq_true rfl) (Nat.le_of_ble_eq_true rfl) ?_)
      refine lv_aload_n hx hb dL_law_145 rfl (lv_at hl 1 rfl) ?_
      refine lv_aload_n hx hb dL_law_146 rfl (lv_at hl 3 rfl) ?_
      refine lv_iload_n hx hb dL_law_147 rfl (lv_at hl 0 rfl) ?_
      refine lv_iconst (v := 1) hx hb dL_law_148 (by decide) ?_
      refine lv_iadd hx hb dL_law_149 ?_
      rw [show (0 + 1 : Int32) = 1 from by decide]
      refine va_sld hx hb hX hbl hbA hS (by rw [hL7]; exact vp_in_iff.mpr ⟨by decide, by decide⟩) dL_law_150 ?_
      refine x_callV (n := 1) (As := [.int (xs (1 : Int32).toNatClampNeg)]) (rest := [.int (wi (xs (1 : Int32).toNatClampNeg) 0 3000)]) F hP hD hS (c_X11_clock l D cy w22 q9 m2 m3 m4 m5 m6 m8 m9 m10 m11 m12 m13 m14 m17 m18 m19 m20 m21 m22 m23 m24 m29 m30 m31 m32 m33 m34 m35 m36 m37 m39 m40 m41 m42 m43 m44 m45 m46 m47 m48 m49 m51 m52 m53 m54 m56 m57 m58 m59 (xs (1 : Int32).toNatClampNeg) k23 ) gT_X11_clock rfl rfl (by decide +kernel) ⟨(Nat.le_of_ble_eq_true rfl), (Nat.le_of_ble_eq_true rfl)⟩ rfl hl.1 (Nat.le_of_ble_eq_true rfl) k23 rfl dL_law_151 rfl ⟨(Nat.le_of_ble_eq_true rfl), (Nat.le_of_ble_eq_true rfl)⟩ (fun v25 w26 hp24 H locs hP hD hS => ?_)
      subst hp24
      refine W.eq (g2 := F0 m 154 ls [.int (wi (xs (1 : Int32).toNatClampNeg) 0 3000), .int (wi (xs (1 : Int32).toNatClampNeg) 0 3000)]) rfl (W.widen (k := 250) (n := 12629) (Nat.le_of_ble_eq_true rfl) (Nat.le_of_ble_eq_true rfl) ?_)
      refine lv_icmp_eq (tgt := 958) hx hb dL_law_154 (by decide) (fun c_27 => ?_) (fun c_27 => absurd rfl c_27)
      refine lv_iinc (v := 7) (lv' := [(3, .int 7), (2, .ref q9), (1, .ref q1), (0, .ref b)]) hx hb dL_law_958 hl (k := 0) rfl (by decide) (by decide) rfl (fun ls hl => ?_)
      refine lv_goto (tgt := 18) hx hb dL_law_961 (by decide) ?_
      refine lv_iload_n hx hb dL_law_18 rfl (lv_at hl 0 rfl) ?_
      refine lv_aload_n hx hb dL_law_19 rfl (lv_at hl 3 rfl) ?_
      refine va_slen hx hb hX hbl hbA hS dL_law_20 ?_
      rw [show Int32.ofNat L = 7 from by rw [hL7]; rfl]
      refine lv_bipush (v := 7) hx hb dL_law_21 (by decide) ?_
      refine lv_isub hx hb dL_law_23 ?_
      rw [show (7 - 7 : Int32) = 0 from by decide]
      refine lv_icmp_gt (tgt := 964) hx hb dL_law_24 (by decide) (fun c_28 => ?_) (fun c_28 => absurd (show (0 : Int32) < (7 : Int32) by decide) c_28)
      refine lv_iconst (v := 1) hx hb dL_law_964 (by decide) ?_
      refine va_forget (fun q hq => hS.2.2 q hq) ?_
      refine W.widen (k := 600000) (n := 7302250) (Nat.le_of_ble_eq_true rfl) (Nat.le_of_ble_eq_true rfl) ?_
      exact lw_ret hx hb hr hlocks dL_law_965
    by_cases c_29 : sw = 1
    · refine lv_tableIn (off := 126) (tgt := 159) hx hb dL_law_33 (by rw [c_29]; decide) (by rw [c_29]; decide) (by rw [c_29]; decide) (by decide) ?_
      refine lv_aload_n hx hb dL_law_159 rfl (lv_at hl 2 rfl) ?_
      refine lv_aload_n hx hb dL_law_160 rfl (lv_at hl 3 rfl) ?_
      refine lv_iload_n hx hb dL_law_161 rfl (lv_at hl 0 rfl) ?_
      refine lv_iconst (v := 1) hx hb dL_law_162 (by decide) ?_
      refine lv_iadd hx hb dL_law_163 ?_
      rw [show (0 + 1 : Int32) = 1 from by decide]
      refine va_sld hx hb hX hbl hbA hS (by rw [hL7]; exact vp_in_iff.mpr ⟨by decide, by decide⟩) dL_law_164 ?_
      refine lv_aload_n hx hb dL_law_165 rfl (lv_at hl 3 rfl) ?_
      refine lv_iload_n hx hb dL_law_166 rfl (lv_at hl 0 rfl) ?_
      refine lv_iconst (v := 2) hx hb dL_law_167 (by decide) ?_
      refine lv_iadd hx hb dL_law_168 ?_
      rw [show (0 + 2 : Int32) = 2 from by decide]
      refine va_sld hx hb hX hbl hbA hS (by rw [hL7]; exact vp_in_iff.mpr ⟨by decide, by decide⟩) dL_law_169 ?_
      refine lv_aload_n hx hb dL_law_170 rfl (lv_at hl 3 rfl) ?_
      refine lv_iload_n hx hb dL_law_171 rfl (lv_at hl 0 rfl) ?_
      refine lv_iconst (v := 3) hx hb dL_law_172 (by decide) ?_
      refine lv_iadd hx hb dL_law_173 ?_
      rw [show (0 + 3 : Int32) = 3 from by decide]
      refine va_sld hx hb hX hbl hbA hS (by rw [hL7]; exact vp_in_iff.mpr ⟨by decide, by decide⟩) dL_law_174 ?_
      refine lv_if_eq (tgt := 182) hx hb dL_law_175 (by decide) (fun c_30 => ?_) (fun c_30 => ?_)
      · refine lv_iconst (v := 0) hx hb dL_law_182 (by decide) ?_
        refine lv_aload_n hx hb dL_law_183 rfl (lv_at hl 3 rfl) ?_
        refine lv_iload_n hx hb dL_law_184 rfl (lv_at hl 0 rfl) ?_
        refine lv_iconst (v := 4) hx hb dL_law_185 (by decide) ?_
        refine lv_iadd hx hb dL_law_186 ?_
        rw [show (0 + 4 : Int32) = 4 from by decide]
        refine va_sld hx hb hX hbl hbA hS (by rw [hL7]; exact vp_in_iff.mpr ⟨by decide, by decide⟩) dL_law_187 ?_
        refine x_callV (n := 4) (As := [.int (xs (1 : Int32).toNatClampNeg), .int (xs (2 : Int32).toNatClampNeg), .int 0, .int (xs (4 : Int32).toNatClampNeg)]) (rest := []) F hP hD hS (c_X10_way l D cy w17 q1 a0 a1 a2 a3 a4 a5 a6 a7 a8 a9 a10 a11 b0 b1 b2 b3 wf wg (xs (1 : Int32).toNatClampNeg) (xs (2 : Int32).toNatClampNeg) 0 (xs (4 : Int32).toNatClampNeg) p_x p_a0 p_b0 p_b1 (fun b => b ∈ w8.1) o_b0.1 o_b1.1 o_nb) gT_X10_way rfl rfl (by decide +kernel) ⟨(Nat.le_of_ble_eq_true rfl), (Nat.le_of_ble_eq_true rfl)⟩ rfl hl.1 (Nat.le_of_ble_eq_true rfl) p_x rfl dL_law_188 rfl ⟨(Nat.le_of_ble_eq_true rfl), (Nat.le_of_ble_eq_true rfl)⟩ (fun v32 w33 hp31 H locs hP hD hS => ?_)
        obtain ⟨rfl, hp31⟩ := hp31
        have k34 := hp31.2 _ _ q_y ny
        have k35 := hp31.2 _ _ q_m2 nx2
        have k36 := hp31.2 _ _ q_m3 nx3
        have fm37 := fun i hi => hp31.2 _ _ (q_pr i hi) (nxpr i hi)
        have fm38 := fun i hi => hp31.2 _ _ (q_wr i hi) (nxwr i hi)
        refine W.eq (g2 := F0 m 191 ls [.int (sp_way (xs (1 : Int32).toNatClampNeg) (xs (2 : Int32).toNatClampNeg) (xs (4 : Int32).toNatClampNeg))]) rfl (W.widen (k := 250) (n := 12629) (Nat.le_of_ble_eq_true rfl) (Nat.le_of_ble_eq_true rfl) ?_)
        refine lv_aload_n hx hb dL_law_191 rfl (lv_at hl 1 rfl) ?_
        refine lv_aload_n hx hb dL_law_192 rfl (lv_at hl 3 rfl) ?_
        refine lv_iload_n hx hb dL_law_193 rfl (lv_at hl 0 rfl) ?_
        refine lv_iconst (v := 1) hx hb dL_law_194 (by decide) ?_
        refine lv_iadd hx hb dL_law_195 ?_
        rw [show (0 + 1 : Int32) = 1 from by decide]
        refine va_sld hx hb hX hbl hbA hS (by rw [hL7]; exact vp_in_iff.mpr ⟨by decide, by decide⟩) dL_law_196 ?_
        refine lv_aload_n hx hb dL_law_197 rfl (lv_at hl 3 rfl) ?_
        refine lv_iload_n hx hb dL_law_198 rfl (lv_at hl 0 rfl) ?_
        refine lv_iconst (v := 2) hx hb dL_law_199 (by decide) ?_
        refine lv_iadd hx hb dL_law_200 ?_
        rw [show (0 + 2 : Int32) = 2 from by decide]
        refine va_sld hx hb hX hbl hbA hS (by rw [hL7]; exact vp_in_iff.mpr ⟨by decide, by decide⟩) dL_law_201 ?_
        refine lv_aload_n hx hb dL_law_202 rfl (lv_at hl 3 rfl) ?_
        refine lv_iload_n hx hb dL_law_203 rfl (lv_at hl 0 rfl) ?_
        refine lv_iconst (v := 3) hx hb dL_law_204 (by decide) ?_
        refine lv_iadd hx hb dL_law_205 ?_
        rw [show (0 + 3 : Int32) = 3 from by decide]
        refine va_sld hx hb hX hbl hbA hS (by rw [hL7]; exact vp_in_iff.mpr ⟨by decide, by decide⟩) dL_law_206 ?_
        refine lv_if_eq (tgt := 214) hx hb dL_law_207 (by decide) (fun c_39 => ?_) (fun c_39 => ?_)
        · refine lv_iconst (v := 0) hx hb dL_law_214 (by decide) ?_
          refine lv_aload_n hx hb dL_law_215 rfl (lv_at hl 3 rfl) ?_
          refine lv_iload_n hx hb dL_law_216 rfl (lv_at hl 0 rfl) ?_
          refine lv_iconst (v := 4) hx hb dL_law_217 (by decide) ?_
          refine lv_iadd hx hb dL_law_218 ?_
          rw [show (0 + 4 : Int32) = 4 from by decide]
          refine va_sld hx hb hX hbl hbA hS (by rw [hL7]; exact vp_in_iff.mpr ⟨by decide, by decide⟩) dL_law_219 ?_
          refine x_callV (n := 4) (As := [.int (xs (1 : Int32).toNatClampNeg), .int (xs (2 : Int32).toNatClampNeg), .int 0, .int (xs (4 : Int32).toNatClampNeg)]) (rest := [.int (sp_way (xs (1 : Int32).toNatClampNeg) (xs (2 : Int32).toNatClampNeg) (xs (4 : Int32).toNatClampNeg))]) F hP hD hS (c_X11_way l D cy w33 q9 m2 m3 m4 m5 m6 m8 m9 m10 m11 m12 m13 m14 m17 m18 m19 m20 m21 m22 m23 m24 m29 m30 m31 m32 m33 m34 m35 m36 m37 m39 m40 m41 m42 m43 m44 m45 m46 m47 m48 m49 m51 m52 m53 m54 m56 m57 m58 m59 pr wr fp fw (xs (1 : Int32).toNatClampNeg) (xs (2 : Int32).toNatClampNeg) 0 (xs (4 : Int32).toNatClampNeg) k34 k35 k36 fm37 fm38 ipr iwr) gT_X11_way rfl rfl (by decide +kernel) ⟨(Nat.le_of_ble_eq_true rfl), (Nat.le_of_ble_eq_true rfl)⟩ rfl hl.1 (Nat.le_of_ble_eq_true rfl) k34 rfl dL_law_220 rfl ⟨(Nat.le_of_ble_eq_true rfl), (Nat.le_of_ble_eq_true rfl)⟩ (fun v41 w42 hp40 H locs hP hD hS => ?_)
          subst hp40
          refine W.eq (g2 := F0 m 223 ls [.int (sp_way (xs (1 : Int32).toNatClampNeg) (xs (2 : Int32).toNatClampNeg) (xs (4 : Int32).toNatClampNeg)), .int (sp_way (xs (1 : Int32).toNatClampNeg) (xs (2 : Int32).toNatClampNeg) (xs (4 : Int32).toNatClampNeg))]) rfl (W.widen (k := 250) (n := 12629) (Nat.le_of_ble_eq_true rfl) (Nat.le_of_ble_eq_true rfl) ?_)
          refine lv_icmp_eq (tgt := 958) hx hb dL_law_223 (by decide) (fun c_43 => ?_) (fun c_43 => absurd rfl c_43)
          refine lv_iinc (v := 7) (lv' := [(3, .int 7), (2, .ref q9), (1, .ref q1), (0, .ref b)]) hx hb dL_law_958 hl (k := 0) rfl (by decide) (by decide) rfl (fun ls hl => ?_)
          refine lv_goto (tgt := 18) hx hb dL_law_961 (by decide) ?_
          refine lv_iload_n hx hb dL_law_18 rfl (lv_at hl 0 rfl) ?_
          refine lv_aload_n hx hb dL_law_19 rfl (lv_at hl 3 rfl) ?_
          refine va_slen hx hb hX hbl hbA hS dL_law_20 ?_
          rw [show Int32.ofNat L = 7 from by rw [hL7]; rfl]
          refine lv_bipush (v := 7) hx hb dL_law_21 (by decide) ?_
          refine lv_isub hx hb dL_law_23 ?_
          rw [show (7 - 7 : Int32) = 0 from by decide]
          refine lv_icmp_gt (tgt := 964) hx hb dL_law_24 (by decide) (fun c_44 => ?_) (fun c_44 => absurd (show (0 : Int32) < (7 : Int32) by decide) c_44)
          refine lv_iconst (v := 1) hx hb dL_law_964 (by decide) ?_
          refine va_forget (fun q hq => hS.2.2 q hq) ?_
          refine W.widen (k := 600000) (n := 7302250) (Nat.le_of_ble_eq_true rfl) (Nat.le_of_ble_eq_true rfl) ?_
          exact lw_ret hx hb hr hlocks dL_law_965
        · refine lv_iconst (v := 1) hx hb dL_law_210 (by decide) ?_
          refine lv_goto (tgt := 215) hx hb dL_law_211 (by decide) ?_
          refine lv_aload_n hx hb dL_law_215 rfl (lv_at hl 3 rfl) ?_
          refine lv_iload_n hx hb dL_law_216 rfl (lv_at hl 0 rfl) ?_
          refine lv_iconst (v := 4) hx hb dL_law_217 (by decide) ?_
          refine lv_iadd hx hb dL_law_218 ?_
          rw [show (0 + 4 : Int32) = 4 from by decide]
          refine va_sld hx hb hX hbl hbA hS (by rw [hL7]; exact vp_in_iff.mpr ⟨by decide, by decide⟩) dL_law_219 ?_
          refine x_callV (n := 4) (As := [.int (xs (1 : Int32).toNatClampNeg), .int (xs (2 : Int32).toNatClampNeg), .int 1, .int (xs (4 : Int32).toNatClampNeg)]) (rest := [.int (sp_way (xs (1 : Int32).toNatClampNeg) (xs (2 : Int32).toNatClampNeg) (xs (4 : Int32).toNatClampNeg))]) F hP hD hS (c_X11_way l D cy w33 q9 m2 m3 m4 m5 m6 m8 m9 m10 m11 m12 m13 m14 m17 m18 m19 m20 m21 m22 m23 m24 m29 m30 m31 m32 m33 m34 m35 m36 m37 m39 m40 m41 m42 m43 m44 m45 m46 m47 m48 m49 m51 m52 m53 m54 m56 m57 m58 m59 pr wr fp fw (xs (1 : Int32).toNatClampNeg) (xs (2 : Int32).toNatClampNeg) 1 (xs (4 : Int32).toNatClampNeg) k34 k35 k36 fm37 fm38 ipr iwr) gT_X11_way rfl rfl (by decide +kernel) ⟨(Nat.le_of_ble_eq_true rfl), (Nat.le_of_ble_eq_true rfl)⟩ rfl hl.1 (Nat.le_of_ble_eq_true rfl) k34 rfl dL_law_220 rfl ⟨(Nat.le_of_ble_eq_true rfl), (Nat.le_of_ble_eq_true rfl)⟩ (fun v46 w47 hp45 H locs hP hD hS => ?_)
          subst hp45
          refine W.eq (g2 := F0 m 223 ls [.int (sp_way (xs (1 : Int32).toNatClampNeg) (xs (2 : Int32).toNatClampNeg) (xs (4 : Int32).toNatClampNeg)), .int (sp_way (xs (1 : Int32).toNatClampNeg) (xs (2 : Int32).toNatClampNeg) (xs (4 : Int32).toNatClampNeg))]) rfl (W.widen (k := 250) (n := 12629) (Nat.le_of_ble_eq_true rfl) (Nat.le_of_ble_eq_true rfl) ?_)
          refine lv_icmp_eq (tgt := 958) hx hb dL_law_223 (by decide) (fun c_48 => ?_) (fun c_48 => absurd rfl c_48)
          refine lv_iinc (v := 7) (lv' := [(3, .int 7), (2, .ref q9), (1, .ref q1), (0, .ref b)]) hx hb dL_law_958 hl (k := 0) rfl (by decide) (by decide) rfl (fun ls hl => ?_)
          refine lv_goto (tgt := 18) hx hb dL_law_961 (by decide) ?_
          refine lv_iload_n hx hb dL_law_18 rfl (lv_at hl 0 rfl) ?_
          refine lv_aload_n hx hb dL_law_19 rfl (lv_at hl 3 rfl) ?_
          refine va_slen hx hb hX hbl hbA hS dL_law_20 ?_
          rw [show Int32.ofNat L = 7 from by rw [hL7]; rfl]
          refine lv_bipush (v := 7) hx hb dL_law_21 (by decide) ?_
          refine lv_isub hx hb dL_law_23 ?_
          rw [show (7 - 7 : Int32) = 0 from by decide]
          refine lv_icmp_gt (tgt := 964) hx hb dL_law_24 (by decide) (fun c_49 => ?_) (fun c_49 => absurd (show (0 : Int32) < (7 : Int32) by decide) c_49)
          refine lv_iconst (v := 1) hx hb dL_law_964 (by decide) ?_
          refine va_forget (fun q hq => hS.2.2 q hq) ?_
          refine W.widen (k := 600000) (n := 7302250) (Nat.le_of_ble_eq_true rfl) (Nat.le_of_ble_eq_true rfl) ?_
          exact lw_ret hx hb hr hlocks dL_law_965
      · refine lv_iconst (v := 1) hx hb dL_law_178 (by decide) ?_
        refine lv_goto (tgt := 183) hx hb dL_law_179 (by decide) ?_
        refine lv_aload_n hx hb dL_law_183 rfl (lv_at hl 3 rfl) ?_
        refine lv_iload_n hx hb dL_law_184 rfl (lv_at hl 0 rfl) ?_
        refine lv_iconst (v := 4) hx hb dL_law_185 (by decide) ?_
        refine lv_iadd hx hb dL_law_186 ?_
        rw [show (0 + 4 : Int32) = 4 from by decide]
        refine va_sld hx hb hX hbl hbA hS (by rw [hL7]; exact vp_in_iff.mpr ⟨by decide, by decide⟩) dL_law_187 ?_
        refine x_callV (n := 4) (As := [.int (xs (1 : Int32).toNatClampNeg), .int (xs (2 : Int32).toNatClampNeg), .int 1, .int (xs (4 : Int32).toNatClampNeg)]) (rest := []) F hP hD hS (c_X10_way l D cy w17 q1 a0 a1 a2 a3 a4 a5 a6 a7 a8 a9 a10 a11 b0 b1 b2 b3 wf wg (xs (1 : Int32).toNatClampNeg) (xs (2 : Int32).toNatClampNeg) 1 (xs (4 : Int32).toNatClampNeg) p_x p_a0 p_b0 p_b1 (fun b => b ∈ w8.1) o_b0.1 o_b1.1 o_nb) gT_X10_way rfl rfl (by decide +kernel) ⟨(Nat.le_of_ble_eq_true rfl), (Nat.le_of_ble_eq_true rfl)⟩ rfl hl.1 (Nat.le_of_ble_eq_true rfl) p_x rfl dL_law_188 rfl ⟨(Nat.le_of_ble_eq_true rfl), (Nat.le_of_ble_eq_true rfl)⟩ (fun v51 w52 hp50 H locs hP hD hS => ?_)
        obtain ⟨rfl, hp50⟩ := hp50
        have k53 := hp50.2 _ _ q_y ny
        have k54 := hp50.2 _ _ q_m2 nx2
        have k55 := hp50.2 _ _ q_m3 nx3
        have fm56 := fun i hi => hp50.2 _ _ (q_pr i hi) (nxpr i hi)
        have fm57 := fun i hi => hp50.2 _ _ (q_wr i hi) (nxwr i hi)
        refine W.eq (g2 := F0 m 191 ls [.int (sp_way (xs (1 : Int32).toNatClampNeg) (xs (2 : Int32).toNatClampNeg) (xs (4 : Int32).toNatClampNeg))]) rfl (W.widen (k := 250) (n := 12629) (Nat.le_of_ble_eq_true rfl) (Nat.le_of_ble_eq_true rfl) ?_)
        refine lv_aload_n hx hb dL_law_191 rfl (lv_at hl 1 rfl) ?_
        refine lv_aload_n hx hb dL_law_192 rfl (lv_at hl 3 rfl) ?_
        refine lv_iload_n hx hb dL_law_193 rfl (lv_at hl 0 rfl) ?_
        refine lv_iconst (v := 1) hx hb dL_law_194 (by decide) ?_
        refine lv_iadd hx hb dL_law_195 ?_
        rw [show (0 + 1 : Int32) = 1 from by decide]
        refine va_sld hx hb hX hbl hbA hS (by rw [hL7]; exact vp_in_iff.mpr ⟨by decide, by decide⟩) dL_law_196 ?_
        refine lv_aload_n hx hb dL_law_197 rfl (lv_at hl 3 rfl) ?_
        refine lv_iload_n hx hb dL_law_198 rfl (lv_at hl 0 rfl) ?_
        refine lv_iconst (v := 2) hx hb dL_law_199 (by decide) ?_
        refine lv_iadd hx hb dL_law_200 ?_
        rw [show (0 + 2 : Int32) = 2 from by decide]
        refine va_sld hx hb hX hbl hbA hS (by rw [hL7]; exact vp_in_iff.mpr ⟨by decide, by decide⟩) dL_law_201 ?_
        refine lv_aload_n hx hb dL_law_202 rfl (lv_at hl 3 rfl) ?_
        refine lv_iload_n hx hb dL_law_203 rfl (lv_at hl 0 rfl) ?_
        refine lv_iconst (v := 3) hx hb dL_law_204 (by decide) ?_
        refine lv_iadd hx hb dL_law_205 ?_
        rw [show (0 + 3 : Int32) = 3 from by decide]
        refine va_sld hx hb hX hbl hbA hS (by rw [hL7]; exact vp_in_iff.mpr ⟨by decide, by decide⟩) dL_law_206 ?_
        refine lv_if_eq (tgt := 214) hx hb dL_law_207 (by decide) (fun c_58 => ?_) (fun c_58 => ?_)
        · refine lv_iconst (v := 0) hx hb dL_law_214 (by decide) ?_
          refine lv_aload_n hx hb dL_law_215 rfl (lv_at hl 3 rfl) ?_
          refine lv_iload_n hx hb dL_law_216 rfl (lv_at hl 0 rfl) ?_
          refine lv_iconst (v := 4) hx hb dL_law_217 (by decide) ?_
          refine lv_iadd hx hb dL_law_218 ?_
          rw [show (0 + 4 : Int32) = 4 from by decide]
          refine va_sld hx hb hX hbl hbA hS (by rw [hL7]; exact vp_in_iff.mpr ⟨by decide, by decide⟩) dL_law_219 ?_
          refine x_callV (n := 4) (As := [.int (xs (1 : Int32).toNatClampNeg), .int (xs (2 : Int32).toNatClampNeg), .int 0, .int (xs (4 : Int32).toNatClampNeg)]) (rest := [.int (sp_way (xs (1 : Int32).toNatClampNeg) (xs (2 : Int32).toNatClampNeg) (xs (4 : Int32).toNatClampNeg))]) F hP hD hS (c_X11_way l D cy w52 q9 m2 m3 m4 m5 m6 m8 m9 m10 m11 m12 m13 m14 m17 m18 m19 m20 m21 m22 m23 m24 m29 m30 m31 m32 m33 m34 m35 m36 m37 m39 m40 m41 m42 m43 m44 m45 m46 m47 m48 m49 m51 m52 m53 m54 m56 m57 m58 m59 pr wr fp fw (xs (1 : Int32).toNatClampNeg) (xs (2 : Int32).toNatClampNeg) 0 (xs (4 : Int32).toNatClampNeg) k53 k54 k55 fm56 fm57 ipr iwr) gT_X11_way rfl rfl (by decide +kernel) ⟨(Nat.le_of_ble_eq_true rfl), (Nat.le_of_ble_eq_true rfl)⟩ rfl hl.1 (Nat.le_of_ble_eq_true rfl) k53 rfl dL_law_220 rfl ⟨(Nat.le_of_ble_eq_true rfl), (Nat.le_of_ble_eq_true rfl)⟩ (fun v60 w61 hp59 H locs hP hD hS => ?_)
          subst hp59
          refine W.eq (g2 := F0 m 223 ls [.int (sp_way (xs (1 : Int32).toNatClampNeg) (xs (2 : Int32).toNatClampNeg) (xs (4 : Int32).toNatClampNeg)), .int (sp_way (xs (1 : Int32).toNatClampNeg) (xs (2 : Int32).toNatClampNeg) (xs (4 : Int32).toNatClampNeg))]) rfl (W.widen (k := 250) (n := 12629) (Nat.le_of_ble_eq_true rfl) (Nat.le_of_ble_eq_true rfl) ?_)
          refine lv_icmp_eq (tgt := 958) hx hb dL_law_223 (by decide) (fun c_62 => ?_) (fun c_62 => absurd rfl c_62)
          refine lv_iinc (v := 7) (lv' := [(3, .int 7), (2, .ref q9), (1, .ref q1), (0, .ref b)]) hx hb dL_law_958 hl (k := 0) rfl (by decide) (by decide) rfl (fun ls hl => ?_)
          refine lv_goto (tgt := 18) hx hb dL_law_961 (by decide) ?_
          refine lv_iload_n hx hb dL_law_18 rfl (lv_at hl 0 rfl) ?_
          refine lv_aload_n hx hb dL_law_19 rfl (lv_at hl 3 rfl) ?_
          refine va_slen hx hb hX hbl hbA hS dL_law_20 ?_
          rw [show Int32.ofNat L = 7 from by rw [hL7]; rfl]
          refine lv_bipush (v := 7) hx hb dL_law_21 (by decide) ?_
          refine lv_isub hx hb dL_law_23 ?_
          rw [show (7 - 7 : Int32) = 0 from by decide]
          refine lv_icmp_gt (tgt := 964) hx hb dL_law_24 (by decide) (fun c_63 => ?_) (fun c_63 => absurd (show (0 : Int32) < (7 : Int32) by decide) c_63)
          refine lv_iconst (v := 1) hx hb dL_law_964 (by decide) ?_
          refine va_forget (fun q hq => hS.2.2 q hq) ?_
          refine W.widen (k := 600000) (n := 7302250) (Nat.le_of_ble_eq_true rfl) (Nat.le_of_ble_eq_true rfl) ?_
          exact lw_ret hx hb hr hlocks dL_law_965
        · refine lv_iconst (v := 1) hx hb dL_law_210 (by decide) ?_
          refine lv_goto (tgt := 215) hx hb dL_law_211 (by decide) ?_
          refine lv_aload_n hx hb dL_law_215 rfl (lv_at hl 3 rfl) ?_
          refine lv_iload_n hx hb dL_law_216 rfl (lv_at hl 0 rfl) ?_
          refine lv_iconst (v := 4) hx hb dL_law_217 (by decide) ?_
          refine lv_iadd hx hb dL_law_218 ?_
          rw [show (0 + 4 : Int32) = 4 from by decide]
          refine va_sld hx hb hX hbl hbA hS (by rw [hL7]; exact vp_in_iff.mpr ⟨by decide, by decide⟩) dL_law_219 ?_
          refine x_callV (n := 4) (As := [.int (xs (1 : Int32).toNatClampNeg), .int (xs (2 : Int32).toNatClampNeg), .int 1, .int (xs (4 : Int32).toNatClampNeg)]) (rest := [.int (sp_way (xs (1 : Int32).toNatClampNeg) (xs (2 : Int32).toNatClampNeg) (xs (4 : Int32).toNatClampNeg))]) F hP hD hS (c_X11_way l D cy w52 q9 m2 m3 m4 m5 m6 m8 m9 m10 m11 m12 m13 m14 m17 m18 m19 m20 m21 m22 m23 m24 m29 m30 m31 m32 m33 m34 m35 m36 m37 m39 m40 m41 m42 m43 m44 m45 m46 m47 m48 m49 m51 m52 m53 m54 m56 m57 m58 m59 pr wr fp fw (xs (1 : Int32).toNatClampNeg) (xs (2 : Int32).toNatClampNeg) 1 (xs (4 : Int32).toNatClampNeg) k53 k54 k55 fm56 fm57 ipr iwr) gT_X11_way rfl rfl (by decide +kernel) ⟨(Nat.le_of_ble_eq_true rfl), (Nat.le_of_ble_eq_true rfl)⟩ rfl hl.1 (Nat.le_of_ble_eq_true rfl) k53 rfl dL_law_220 rfl ⟨(Nat.le_of_ble_eq_true rfl), (Nat.le_of_ble_eq_true rfl)⟩ (fun v65 w66 hp64 H locs hP hD hS => ?_)
          subst hp64
          refine W.eq (g2 := F0 m 223 ls [.int (sp_way (xs (1 : Int32).toNatClampNeg) (xs (2 : Int32).toNatClampNeg) (xs (4 : Int32).toNatClampNeg)), .int (sp_way (xs (1 : Int32).toNatClampNeg) (xs (2 : Int32).toNatClampNeg) (xs (4 : Int32).toNatClampNeg))]) rfl (W.widen (k := 250) (n := 12629) (Nat.le_of_ble_eq_true rfl) (Nat.le_of_ble_eq_true rfl) ?_)
          refine lv_icmp_eq (tgt := 958) hx hb dL_law_223 (by decide) (fun c_67 => ?_) (fun c_67 => absurd rfl c_67)
          refine lv_iinc (v := 7) (lv' := [(3, .int 7), (2, .ref q9), (1, .ref q1), (0, .ref b)]) hx hb dL_law_958 hl (k := 0) rfl (by decide) (by decide) rfl (fun ls hl => ?_)
          refine lv_goto (tgt := 18) hx hb dL_law_961 (by decide) ?_
          refine lv_iload_n hx hb dL_law_18 rfl (lv_at hl 0 rfl) ?_
          refine lv_aload_n hx hb dL_law_19 rfl (lv_at hl 3 rfl) ?_
          refine va_slen hx hb hX hbl hbA hS dL_law_20 ?_
          rw [show Int32.ofNat L = 7 from by rw [hL7]; rfl]
          refine lv_bipush (v := 7) hx hb dL_law_21 (by decide) ?_
          refine lv_isub hx hb dL_law_23 ?_
          rw [show (7 - 7 : Int32) = 0 from by decide]
          refine lv_icmp_gt (tgt := 964) hx hb dL_law_24 (by decide) (fun c_68 => ?_) (fun c_68 => absurd (show (0 : Int32) < (7 : Int32) by decide) c_68)
          refine lv_iconst (v := 1) hx hb dL_law_964 (by decide) ?_
          refine va_forget (fun q hq => hS.2.2 q hq) ?_
          refine W.widen (k := 600000) (n := 7302250) (Nat.le_of_ble_eq_true rfl) (Nat.le_of_ble_eq_true rfl) ?_
          exact lw_ret hx hb hr hlocks dL_law_965
    by_cases c_69 : sw = 2
    · refine lv_tableIn (off := 195) (tgt := 228) hx hb dL_law_33 (by rw [c_69]; decide) (by rw [c_69]; decide) (by rw [c_69]; decide) (by decide) ?_
      refine lv_aload_n hx hb dL_law_228 rfl (lv_at hl 2 rfl) ?_
      refine lv_aload_n hx hb dL_law_229 rfl (lv_at hl 3 rfl) ?_
      refine lv_iload_n hx hb dL_law_230 rfl (lv_at hl 0 rfl) ?_
      refine lv_iconst (v := 1) hx hb dL_law_231 (by decide) ?_
      refine lv_iadd hx hb dL_law_232 ?_
      rw [show (0 + 1 : Int32) = 1 from by decide]
      refine va_sld hx hb hX hbl hbA hS (by rw [hL7]; exact vp_in_iff.mpr ⟨by decide, by decide⟩) dL_law_233 ?_
      refine lv_aload_n hx hb dL_law_234 rfl (lv_at hl 3 rfl) ?_
      refine lv_iload_n hx hb dL_law_235 rfl (lv_at hl 0 rfl) ?_
      refine lv_iconst (v := 2) hx hb dL_law_236 (by decide) ?_
      refine lv_iadd hx hb dL_law_237 ?_
      rw [show (0 + 2 : Int32) = 2 from by decide]
      refine va_sld hx hb hX hbl hbA hS (by rw [hL7]; exact vp_in_iff.mpr ⟨by decide, by decide⟩) dL_law_238 ?_
      refine lv_aload_n hx hb dL_law_239 rfl (lv_at hl 3 rfl) ?_
      refine lv_iload_n hx hb dL_law_240 rfl (lv_at hl 0 rfl) ?_
      refine lv_iconst (v := 3) hx hb dL_law_241 (by decide) ?_
      refine lv_iadd hx hb dL_law_242 ?_
      rw [show (0 + 3 : Int32) = 3 from by decide]
      refine va_sld hx hb hX hbl hbA hS (by rw [hL7]; exact vp_in_iff.mpr ⟨by decide, by decide⟩) dL_law_243 ?_
      refine x_callV (n := 3) (As := [.int (xs (1 : Int32).toNatClampNeg), .int (xs (2 : Int32).toNatClampNeg), .int (xs (3 : Int32).toNatClampNeg)]) (rest := []) F hP hD hS (c_X10_rate l D cy w17 q1 a0 a1 a2 a3 a4 a5 a6 a7 a8 a9 a10 a11 tf tn ag (xs (1 : Int32).toNatClampNeg) (xs (2 : Int32).toNatClampNeg) (xs (3 : Int32).toNatClampNeg) p_x p_a1 (fun i hi => ⟨(p_TW i hi).1, (p_TW i hi).2.1⟩) (fun b => b ∈ w8.1) (fun i hi => (o_TW i hi).2.1.1)) gT_X10_rate rfl rfl (by decide +kernel) ⟨(Nat.le_of_ble_eq_true rfl), (Nat.le_of_ble_eq_true rfl)⟩ rfl hl.1 (Nat.le_of_ble_eq_true rfl) p_x rfl dL_law_244 rfl ⟨(Nat.le_of_ble_eq_true rfl), (Nat.le_of_ble_eq_true rfl)⟩ (fun v71 w72 hp70 H locs hP hD hS => ?_)
      obtain ⟨rfl, hp70⟩ := hp70
      have k73 := hp70.2 _ _ q_y ny
      have k74 := hp70.2 _ _ q_m4 nx4
      have k75 := hp70.2 _ _ q_m5 nx5
      refine W.eq (g2 := F0 m 247 ls [.int (sp_rate (xs (1 : Int32).toNatClampNeg) (xs (2 : Int32).toNatClampNeg) (xs (3 : Int32).toNatClampNeg))]) rfl (W.widen (k := 250) (n := 12629) (Nat.le_of_ble_eq_true rfl) (Nat.le_of_ble_eq_true rfl) ?_)
      refine lv_aload_n hx hb dL_law_247 rfl (lv_at hl 1 rfl) ?_
      refine lv_aload_n hx hb dL_law_248 rfl (lv_at hl 3 rfl) ?_
      refine lv_iload_n hx hb dL_law_249 rfl (lv_at hl 0 rfl) ?_
      refine lv_iconst (v := 1) hx hb dL_law_250 (by decide) ?_
      refine lv_iadd hx hb dL_law_251 ?_
      rw [show (0 + 1 : Int32) = 1 from by decide]
      refine va_sld hx hb hX hbl hbA hS (by rw [hL7]; exact vp_in_iff.mpr ⟨by decide, by decide⟩) dL_law_252 ?_
      refine lv_aload_n hx hb dL_law_253 rfl (lv_at hl 3 rfl) ?_
      refine lv_iload_n hx hb dL_law_254 rfl (lv_at hl 0 rfl) ?_
      refine lv_iconst (v := 2) hx hb dL_law_255 (by decide) ?_
      refine lv_iadd hx hb dL_law_256 ?_
      rw [show (0 + 2 : Int32) = 2 from by decide]
      refine va_sld hx hb hX hbl hbA hS (by rw [hL7]; exact vp_in_iff.mpr ⟨by decide, by decide⟩) dL_law_257 ?_
      refine lv_aload_n hx hb dL_law_258 rfl (lv_at hl 3 rfl) ?_
      refine lv_iload_n hx hb dL_law_259 rfl (lv_at hl 0 rfl) ?_
      refine lv_iconst (v := 3) hx hb dL_law_260 (by decide) ?_
      refine lv_iadd hx hb dL_law_261 ?_
      rw [show (0 + 3 : Int32) = 3 from by decide]
      refine va_sld hx hb hX hbl hbA hS (by rw [hL7]; exact vp_in_iff.mpr ⟨by decide, by decide⟩) dL_law_262 ?_
      refine x_callV (n := 3) (As := [.int (xs (1 : Int32).toNatClampNeg), .int (xs (2 : Int32).toNatClampNeg), .int (xs (3 : Int32).toNatClampNeg)]) (rest := [.int (sp_rate (xs (1 : Int32).toNatClampNeg) (xs (2 : Int32).toNatClampNeg) (xs (3 : Int32).toNatClampNeg))]) F hP hD hS (c_X11_rate l D cy w72 q9 m2 m3 m4 m5 m6 m8 m9 m10 m11 m12 m13 m14 m17 m18 m19 m20 m21 m22 m23 m24 m29 m30 m31 m32 m33 m34 m35 m36 m37 m39 m40 m41 m42 m43 m44 m45 m46 m47 m48 m49 m51 m52 m53 m54 m56 m57 m58 m59 (fun _ => 0) rc (xs (1 : Int32).toNatClampNeg) (xs (2 : Int32).toNatClampNeg) (xs (3 : Int32).toNatClampNeg) k73 k74 k75 n4x5) gT_X11_rate rfl rfl (by decide +kernel) ⟨(Nat.le_of_ble_eq_true rfl), (Nat.le_of_ble_eq_true rfl)⟩ rfl hl.1 (Nat.le_of_ble_eq_true rfl) k73 rfl dL_law_263 rfl ⟨(Nat.le_of_ble_eq_true rfl), (Nat.le_of_ble_eq_true rfl)⟩ (fun v77 w78 hp76 H locs hP hD hS => ?_)
      subst hp76
      refine W.eq (g2 := F0 m 266 ls [.int (sp_rate (xs (1 : Int32).toNatClampNeg) (xs (2 : Int32).toNatClampNeg) (xs (3 : Int32).toNatClampNeg)), .int (sp_rate (xs (1 : Int32).toNatClampNeg) (xs (2 : Int32).toNatClampNeg) (xs (3 : Int32).toNatClampNeg))]) rfl (W.widen (k := 250) (n := 12629) (Nat.le_of_ble_eq_true rfl) (Nat.le_of_ble_eq_true rfl) ?_)
      refine lv_icmp_eq (tgt := 958) hx hb dL_law_266 (by decide) (fun c_79 => ?_) (fun c_79 => absurd rfl c_79)
      refine lv_iinc (v := 7) (lv' := [(3, .int 7), (2, .ref q9), (1, .ref q1), (0, .ref b)]) hx hb dL_law_958 hl (k := 0) rfl (by decide) (by decide) rfl (fun ls hl => ?_)
      refine lv_goto (tgt := 18) hx hb dL_law_961 (by decide) ?_
      refine lv_iload_n hx hb dL_law_18 rfl (lv_at hl 0 rfl) ?_
      refine lv_aload_n hx hb dL_law_19 rfl (lv_at hl 3 rfl) ?_
      refine va_slen hx hb hX hbl hbA hS dL_law_20 ?_
      rw [show Int32.ofNat L = 7 from by rw [hL7]; rfl]
      refine lv_bipush (v := 7) hx hb dL_law_21 (by decide) ?_
      refine lv_isub hx hb dL_law_23 ?_
      rw [show (7 - 7 : Int32) = 0 from by decide]
      refine lv_icmp_gt (tgt := 964) hx hb dL_law_24 (by decide) (fun c_80 => ?_) (fun c_80 => absurd (show (0 : Int32) < (7 : Int32) by decide) c_80)
      refine lv_iconst (v := 1) hx hb dL_law_964 (by decide) ?_
      refine va_forget (fun q hq => hS.2.2 q hq) ?_
      refine W.widen (k := 600000) (n := 7302250) (Nat.le_of_ble_eq_true rfl) (Nat.le_of_ble_eq_true rfl) ?_
      exact lw_ret hx hb hr hlocks dL_law_965
    by_cases c_81 : sw = 3
    · refine lv_tableIn (off := 238) (tgt := 271) hx hb dL_law_33 (by rw [c_81]; decide) (by rw [c_81]; decide) (by rw [c_81]; decide) (by decide) ?_
      refine lv_aload_n hx hb dL_law_271 rfl (lv_at hl 2 rfl) ?_
      refine lv_aload_n hx hb dL_law_272 rfl (lv_at hl 3 rfl) ?_
      refine lv_iload_n hx hb dL_law_273 rfl (lv_at hl 0 rfl) ?_
      refine lv_iconst (v := 1) hx hb dL_law_274 (by decide) ?_
      refine lv_iadd hx hb dL_law_275 ?_
      rw [show (0 + 1 : Int32) = 1 from by decide]
      refine va_sld hx hb hX hbl hbA hS (by rw [hL7]; exact vp_in_iff.mpr ⟨by decide, by decide⟩) dL_law_276 ?_
      refine lv_aload_n hx hb dL_law_277 rfl (lv_at hl 3 rfl) ?_
      refine lv_iload_n hx hb dL_law_278 rfl (lv_at hl 0 rfl) ?_
      refine lv_iconst (v := 2) hx hb dL_law_279 (by decide) ?_
      refine lv_iadd hx hb dL_law_280 ?_
      rw [show (0 + 2 : Int32) = 2 from by decide]
      refine va_sld hx hb hX hbl hbA hS (by rw [hL7]; exact vp_in_iff.mpr ⟨by decide, by decide⟩) dL_law_281 ?_
      refine lv_aload_n hx hb dL_law_282 rfl (lv_at hl 3 rfl) ?_
      refine lv_iload_n hx hb dL_law_283 rfl (lv_at hl 0 rfl) ?_
      refine lv_iconst (v := 3) hx hb dL_law_284 (by decide) ?_
      refine lv_iadd hx hb dL_law_285 ?_
      rw [show (0 + 3 : Int32) = 3 from by decide]
      refine va_sld hx hb hX hbl hbA hS (by rw [hL7]; exact vp_in_iff.mpr ⟨by decide, by decide⟩) dL_law_286 ?_
      refine lv_aload_n hx hb dL_law_287 rfl (lv_at hl 3 rfl) ?_
      refine lv_iload_n hx hb dL_law_288 rfl (lv_at hl 0 rfl) ?_
      refine lv_iconst (v := 4) hx hb dL_law_289 (by decide) ?_
      refine lv_iadd hx hb dL_law_290 ?_
      rw [show (0 + 4 : Int32) = 4 from by decide]
      refine va_sld hx hb hX hbl hbA hS (by rw [hL7]; exact vp_in_iff.mpr ⟨by decide, by decide⟩) dL_law_291 ?_
      refine x_callV (n := 4) (As := [.int (xs (1 : Int32).toNatClampNeg), .int (xs (2 : Int32).toNatClampNeg), .int (xs (3 : Int32).toNatClampNeg), .int (xs (4 : Int32).toNatClampNeg)]) (rest := []) F hP hD hS (c_X10_book l D cy w17 q1 a0 a1 a2 a3 a4 a5 a6 a7 a8 a9 a10 a11 pf (xs (1 : Int32).toNatClampNeg) (xs (2 : Int32).toNatClampNeg) (xs (3 : Int32).toNatClampNeg) (xs (4 : Int32).toNatClampNeg) p_x p_a2 (fun b => b ∈ w8.1) o_x.1 o_a2.1 ) gT_X10_book rfl rfl (by decide +kernel) ⟨(Nat.le_of_ble_eq_true rfl), (Nat.le_of_ble_eq_true rfl)⟩ rfl hl.1 (Nat.le_of_ble_eq_true rfl) p_x rfl dL_law_292 rfl ⟨(Nat.le_of_ble_eq_true rfl), (Nat.le_of_ble_eq_true rfl)⟩ (fun v83 w84 hp82 H locs hP hD hS => ?_)
      obtain ⟨rfl, hp82⟩ := hp82
      have k85 := hp82.2 _ _ q_y ny
      have k86 := hp82.2 _ _ q_m8 nx8
      have k87 := hp82.2 _ _ q_m9 nx9
      have k88 := hp82.2 _ _ q_m10 nx10
      have k89 := hp82.2 _ _ q_m11 nx11
      have k90 := hp82.2 _ _ q_m12 nx12
      refine W.eq (g2 := F0 m 295 ls [.int (sp_book (xs (1 : Int32).toNatClampNeg) (xs (2 : Int32).toNatClampNeg) (xs (3 : Int32).toNatClampNeg) (xs (4 : Int32).toNatClampNeg))]) rfl (W.widen (k := 251) (n := 12636) (Nat.le_of_ble_eq_true rfl) (Nat.le_of_ble_eq_true rfl) ?_)
      refine lv_aload_n hx hb dL_law_295 rfl (lv_at hl 1 rfl) ?_
      refine lv_aload_n hx hb dL_law_296 rfl (lv_at hl 3 rfl) ?_
      refine lv_iload_n hx hb dL_law_297 rfl (lv_at hl 0 rfl) ?_
      refine lv_iconst (v := 1) hx hb dL_law_298 (by decide) ?_
      refine lv_iadd hx hb dL_law_299 ?_
      rw [show (0 + 1 : Int32) = 1 from by decide]
      refine va_sld hx hb hX hbl hbA hS (by rw [hL7]; exact vp_in_iff.mpr ⟨by decide, by decide⟩) dL_law_300 ?_
      refine lv_aload_n hx hb dL_law_301 rfl (lv_at hl 3 rfl) ?_
      refine lv_iload_n hx hb dL_law_302 rfl (lv_at hl 0 rfl) ?_
      refine lv_iconst (v := 2) hx hb dL_law_303 (by decide) ?_
      refine lv_iadd hx hb dL_law_304 ?_
      rw [show (0 + 2 : Int32) = 2 from by decide]
      refine va_sld hx hb hX hbl hbA hS (by rw [hL7]; exact vp_in_iff.mpr ⟨by decide, by decide⟩) dL_law_305 ?_
      refine lv_aload_n hx hb dL_law_306 rfl (lv_at hl 3 rfl) ?_
      refine lv_iload_n hx hb dL_law_307 rfl (lv_at hl 0 rfl) ?_
      refine lv_iconst (v := 3) hx hb dL_law_308 (by decide) ?_
      refine lv_iadd hx hb dL_law_309 ?_
      rw [show (0 + 3 : Int32) = 3 from by decide]
      refine va_sld hx hb hX hbl hbA hS (by rw [hL7]; exact vp_in_iff.mpr ⟨by decide, by decide⟩) dL_law_310 ?_
      refine lv_aload_n hx hb dL_law_311 rfl (lv_at hl 3 rfl) ?_
      refine lv_iload_n hx hb dL_law_312 rfl (lv_at hl 0 rfl) ?_
      refine lv_iconst (v := 4) hx hb dL_law_313 (by decide) ?_
      refine lv_iadd hx hb dL_law_314 ?_
      rw [show (0 + 4 : Int32) = 4 from by decide]
      refine va_sld hx hb hX hbl hbA hS (by rw [hL7]; exact vp_in_iff.mpr ⟨by decide, by decide⟩) dL_law_315 ?_
      refine x_callV (n := 4) (As := [.int (xs (1 : Int32).toNatClampNeg), .int (xs (2 : Int32).toNatClampNeg), .int (xs (3 : Int32).toNatClampNeg), .int (xs (4 : Int32).toNatClampNeg)]) (rest := [.int (sp_book (xs (1 : Int32).toNatClampNeg) (xs (2 : Int32).toNatClampNeg) (xs (3 : Int32).toNatClampNeg) (xs (4 : Int32).toNatClampNeg))]) F hP hD hS (c_X11_book l D cy w84 q9 m2 m3 m4 m5 m6 m8 m9 m10 m11 m12 m13 m14 m17 m18 m19 m20 m21 m22 m23 m24 m29 m30 m31 m32 m33 m34 m35 m36 m37 m39 m40 m41 m42 m43 m44 m45 m46 m47 m48 m49 m51 m52 m53 m54 m56 m57 m58 m59 (fun _ => 0) (fun _ => 0) (fun _ => 0) (fun _ => 0) (fun _ => 0) (xs (1 : Int32).toNatClampNeg) (xs (2 : Int32).toNatClampNeg) (xs (3 : Int32).toNatClampNeg) (xs (4 : Int32).toNatClampNeg) k85 k86 k87 k88 k89 k90 n8x9 n8x10 n8x11 n8x12 n9x10 n9x11 n9x12 n10x11 n10x12 n11x12) gT_X11_book rfl rfl (by decide +kernel) ⟨(Nat.le_of_ble_eq_true rfl), (Nat.le_of_ble_eq_true rfl)⟩ rfl hl.1 (Nat.le_of_ble_eq_true rfl) k85 rfl dL_law_316 rfl ⟨(Nat.le_of_ble_eq_true rfl), (Nat.le_of_ble_eq_true rfl)⟩ (fun v92 w93 hp91 H locs hP hD hS => ?_)
      subst hp91
      refine W.eq (g2 := F0 m 319 ls [.int (sp_book (xs (1 : Int32).toNatClampNeg) (xs (2 : Int32).toNatClampNeg) (xs (3 : Int32).toNatClampNeg) (xs (4 : Int32).toNatClampNeg)), .int (sp_book (xs (1 : Int32).toNatClampNeg) (xs (2 : Int32).toNatClampNeg) (xs (3 : Int32).toNatClampNeg) (xs (4 : Int32).toNatClampNeg))]) rfl (W.widen (k := 251) (n := 12636) (Nat.le_of_ble_eq_true rfl) (Nat.le_of_ble_eq_true rfl) ?_)
      refine lv_icmp_eq (tgt := 958) hx hb dL_law_319 (by decide) (fun c_94 => ?_) (fun c_94 => absurd rfl c_94)
      refine lv_iinc (v := 7) (lv' := [(3, .int 7), (2, .ref q9), (1, .ref q1), (0, .ref b)]) hx hb dL_law_958 hl (k := 0) rfl (by decide) (by decide) rfl (fun ls hl => ?_)
      refine lv_goto (tgt := 18) hx hb dL_law_961 (by decide) ?_
      refine lv_iload_n hx hb dL_law_18 rfl (lv_at hl 0 rfl) ?_
      refine lv_aload_n hx hb dL_law_19 rfl (lv_at hl 3 rfl) ?_
      refine va_slen hx hb hX hbl hbA hS dL_law_20 ?_
      rw [show Int32.ofNat L = 7 from by rw [hL7]; rfl]
      refine lv_bipush (v := 7) hx hb dL_law_21 (by decide) ?_
      refine lv_isub hx hb dL_law_23 ?_
      rw [show (7 - 7 : Int32) = 0 from by decide]
      refine lv_icmp_gt (tgt := 964) hx hb dL_law_24 (by decide) (fun c_95 => ?_) (fun c_95 => absurd (show (0 : Int32) < (7 : Int32) by decide) c_95)
      refine lv_iconst (v := 1) hx hb dL_law_964 (by decide) ?_
      refine va_forget (fun q hq => hS.2.2 q hq) ?_
      refine W.widen (k := 600000) (n := 7302250) (Nat.le_of_ble_eq_true rfl) (Nat.le_of_ble_eq_true rfl) ?_
      exact lw_ret hx hb hr hlocks dL_law_965
    by_cases c_96 : sw = 4
    · refine lv_tableIn (off := 291) (tgt := 324) hx hb dL_law_33 (by rw [c_96]; decide) (by rw [c_96]; decide) (by rw [c_96]; decide) (by decide) ?_
      refine lv_aload_n hx hb dL_law_324 rfl (lv_at hl 2 rfl) ?_
      refine lv_aload_n hx hb dL_law_325 rfl (lv_at hl 3 rfl) ?_
      refine lv_iload_n hx hb dL_law_326 rfl (lv_at hl 0 rfl) ?_
      refine lv_iconst (v := 1) hx hb dL_law_327 (by decide) ?_
      refine lv_iadd hx hb dL_law_328 ?_
      rw [show (0 + 1 : Int32) = 1 from by decide]
      refine va_sld hx hb hX hbl hbA hS (by rw [hL7]; exact vp_in_iff.mpr ⟨by decide, by decide⟩) dL_law_329 ?_
      refine lv_aload_n hx hb dL_law_330 rfl (lv_at hl 3 rfl) ?_
      refine lv_iload_n hx hb dL_law_331 rfl (lv_at hl 0 rfl) ?_
      refine lv_iconst (v := 2) hx hb dL_law_332 (by decide) ?_
      refine lv_iadd hx hb dL_law_333 ?_
      rw [show (0 + 2 : Int32) = 2 from by decide]
      refine va_sld hx hb hX hbl hbA hS (by rw [hL7]; exact vp_in_iff.mpr ⟨by decide, by decide⟩) dL_law_334 ?_
      refine lv_aload_n hx hb dL_law_335 rfl (lv_at hl 3 rfl) ?_
      refine lv_iload_n hx hb dL_law_336 rfl (lv_at hl 0 rfl) ?_
      refine lv_iconst (v := 3) hx hb dL_law_337 (by decide) ?_
      refine lv_iadd hx hb dL_law_338 ?_
      rw [show (0 + 3 : Int32) = 3 from by decide]
      refine va_sld hx hb hX hbl hbA hS (by rw [hL7]; exact vp_in_iff.mpr ⟨by decide, by decide⟩) dL_law_339 ?_
      refine x_callV (n := 3) (As := [.int (xs (1 : Int32).toNatClampNeg), .int (xs (2 : Int32).toNatClampNeg), .int (xs (3 : Int32).toNatClampNeg)]) (rest := []) F hP hD hS (c_X10_credit l D cy w17 q1 a0 a1 a2 a3 a4 a5 a6 a7 a8 a9 a10 a11 pf (xs (1 : Int32).toNatClampNeg) (xs (2 : Int32).toNatClampNeg) (xs (3 : Int32).toNatClampNeg) p_x p_a2 (fun b => b ∈ w8.1) o_x.1 o_a2.1 ) gT_X10_credit rfl rfl (by decide +kernel) ⟨(Nat.le_of_ble_eq_true rfl), (Nat.le_of_ble_eq_true rfl)⟩ rfl hl.1 (Nat.le_of_ble_eq_true rfl) p_x rfl dL_law_340 rfl ⟨(Nat.le_of_ble_eq_true rfl), (Nat.le_of_ble_eq_true rfl)⟩ (fun v98 w99 hp97 H locs hP hD hS => ?_)
      obtain ⟨rfl, hp97⟩ := hp97
      have k100 := hp97.2 _ _ q_y ny
      have k101 := hp97.2 _ _ q_m8 nx8
      have k102 := hp97.2 _ _ q_m9 nx9
      have k103 := hp97.2 _ _ q_m10 nx10
      have k104 := hp97.2 _ _ q_m11 nx11
      have k105 := hp97.2 _ _ q_m12 nx12
      refine W.eq (g2 := F0 m 343 ls [.int (sp_credit (xs (1 : Int32).toNatClampNeg) (xs (2 : Int32).toNatClampNeg) (xs (3 : Int32).toNatClampNeg))]) rfl (W.widen (k := 251) (n := 12636) (Nat.le_of_ble_eq_true rfl) (Nat.le_of_ble_eq_true rfl) ?_)
      refine lv_aload_n hx hb dL_law_343 rfl (lv_at hl 1 rfl) ?_
      refine lv_aload_n hx hb dL_law_344 rfl (lv_at hl 3 rfl) ?_
      refine lv_iload_n hx hb dL_law_345 rfl (lv_at hl 0 rfl) ?_
      refine lv_iconst (v := 1) hx hb dL_law_346 (by decide) ?_
      refine lv_iadd hx hb dL_law_347 ?_
      rw [show (0 + 1 : Int32) = 1 from by decide]
      refine va_sld hx hb hX hbl hbA hS (by rw [hL7]; exact vp_in_iff.mpr ⟨by decide, by decide⟩) dL_law_348 ?_
      refine lv_aload_n hx hb dL_law_349 rfl (lv_at hl 3 rfl) ?_
      refine lv_iload_n hx hb dL_law_350 rfl (lv_at hl 0 rfl) ?_
      refine lv_iconst (v := 2) hx hb dL_law_351 (by decide) ?_
      refine lv_iadd hx hb dL_law_352 ?_
      rw [show (0 + 2 : Int32) = 2 from by decide]
      refine va_sld hx hb hX hbl hbA hS (by rw [hL7]; exact vp_in_iff.mpr ⟨by decide, by decide⟩) dL_law_353 ?_
      refine lv_aload_n hx hb dL_law_354 rfl (lv_at hl 3 rfl) ?_
      refine lv_iload_n hx hb dL_law_355 rfl (lv_at hl 0 rfl) ?_
      refine lv_iconst (v := 3) hx hb dL_law_356 (by decide) ?_
      refine lv_iadd hx hb dL_law_357 ?_
      rw [show (0 + 3 : Int32) = 3 from by decide]
      refine va_sld hx hb hX hbl hbA hS (by rw [hL7]; exact vp_in_iff.mpr ⟨by decide, by decide⟩) dL_law_358 ?_
      refine x_callV (n := 3) (As := [.int (xs (1 : Int32).toNatClampNeg), .int (xs (2 : Int32).toNatClampNeg), .int (xs (3 : Int32).toNatClampNeg)]) (rest := [.int (sp_credit (xs (1 : Int32).toNatClampNeg) (xs (2 : Int32).toNatClampNeg) (xs (3 : Int32).toNatClampNeg))]) F hP hD hS (c_X11_credit l D cy w99 q9 m2 m3 m4 m5 m6 m8 m9 m10 m11 m12 m13 m14 m17 m18 m19 m20 m21 m22 m23 m24 m29 m30 m31 m32 m33 m34 m35 m36 m37 m39 m40 m41 m42 m43 m44 m45 m46 m47 m48 m49 m51 m52 m53 m54 m56 m57 m58 m59 (fun _ => 0) (fun _ => 0) (fun _ => 0) (fun _ => 0) (fun _ => 0) (xs (1 : Int32).toNatClampNeg) (xs (2 : Int32).toNatClampNeg) (xs (3 : Int32).toNatClampNeg) k100 k101 k102 k103 k104 k105 n8x9 n8x10 n8x11 n8x12 n9x10 n9x11 n9x12 n10x11 n10x12 n11x12) gT_X11_credit rfl rfl (by decide +kernel) ⟨(Nat.le_of_ble_eq_true rfl), (Nat.le_of_ble_eq_true rfl)⟩ rfl hl.1 (Nat.le_of_ble_eq_true rfl) k100 rfl dL_law_359 rfl ⟨(Nat.le_of_ble_eq_true rfl), (Nat.le_of_ble_eq_true rfl)⟩ (fun v107 w108 hp106 H locs hP hD hS => ?_)
      subst hp106
      refine W.eq (g2 := F0 m 362 ls [.int (sp_credit (xs (1 : Int32).toNatClampNeg) (xs (2 : Int32).toNatClampNeg) (xs (3 : Int32).toNatClampNeg)), .int (sp_credit (xs (1 : Int32).toNatClampNeg) (xs (2 : Int32).toNatClampNeg) (xs (3 : Int32).toNatClampNeg))]) rfl (W.widen (k := 251) (n := 12636) (Nat.le_of_ble_eq_true rfl) (Nat.le_of_ble_eq_true rfl) ?_)
      refine lv_icmp_eq (tgt := 958) hx hb dL_law_362 (by decide) (fun c_109 => ?_) (fun c_109 => absurd rfl c_109)
      refine lv_iinc (v := 7) (lv' := [(3, .int 7), (2, .ref q9), (1, .ref q1), (0, .ref b)]) hx hb dL_law_958 hl (k := 0) rfl (by decide) (by decide) rfl (fun ls hl => ?_)
      refine lv_goto (tgt := 18) hx hb dL_law_961 (by decide) ?_
      refine lv_iload_n hx hb dL_law_18 rfl (lv_at hl 0 rfl) ?_
      refine lv_aload_n hx hb dL_law_19 rfl (lv_at hl 3 rfl) ?_
      refine va_slen hx hb hX hbl hbA hS dL_law_20 ?_
      rw [show Int32.ofNat L = 7 from by rw [hL7]; rfl]
      refine lv_bipush (v := 7) hx hb dL_law_21 (by decide) ?_
      refine lv_isub hx hb dL_law_23 ?_
      rw [show (7 - 7 : Int32) = 0 from by decide]
      refine lv_icmp_gt (tgt := 964) hx hb dL_law_24 (by decide) (fun c_110 => ?_) (fun c_110 => absurd (show (0 : Int32) < (7 : Int32) by decide) c_110)
      refine lv_iconst (v := 1) hx hb dL_law_964 (by decide) ?_
      refine va_forget (fun q hq => hS.2.2 q hq) ?_
      refine W.widen (k := 600000) (n := 7302250) (Nat.le_of_ble_eq_true rfl) (Nat.le_of_ble_eq_true rfl) ?_
      exact lw_ret hx hb hr hlocks dL_law_965
    by_cases c_111 : sw = 5
    · refine lv_tableIn (off := 334) (tgt := 367) hx hb dL_law_33 (by rw [c_111]; decide) (by rw [c_111]; decide) (by rw [c_111]; decide) (by decide) ?_
      refine lv_aload_n hx hb dL_law_367 rfl (lv_at hl 2 rfl) ?_
      refine lv_aload_n hx hb dL_law_368 rfl (lv_at hl 3 rfl) ?_
      refine lv_iload_n hx hb dL_law_369 rfl (lv_at hl 0 rfl) ?_
      refine lv_iconst (v := 1) hx hb dL_law_370 (by decide) ?_
      refine lv_iadd hx hb dL_law_371 ?_
      rw [show (0 + 1 : Int32) = 1 from by decide]
      refine va_sld hx hb hX hbl hbA hS (by rw [hL7]; exact vp_in_iff.mpr ⟨by decide, by decide⟩) dL_law_372 ?_
      refine lv_aload_n hx hb dL_law_373 rfl (lv_at hl 3 rfl) ?_
      refine lv_iload_n hx hb dL_law_374 rfl (lv_at hl 0 rfl) ?_
      refine lv_iconst (v := 2) hx hb dL_law_375 (by decide) ?_
      refine lv_iadd hx hb dL_law_376 ?_
      rw [show (0 + 2 : Int32) = 2 from by decide]
      refine va_sld hx hb hX hbl hbA hS (by rw [hL7]; exact vp_in_iff.mpr ⟨by decide, by decide⟩) dL_law_377 ?_
      refine x_callV (n := 2) (As := [.int (xs (1 : Int32).toNatClampNeg), .int (xs (2 : Int32).toNatClampNeg)]) (rest := []) F hP hD hS (c_X10_advise l D cy w17 q1 a0 a1 a2 a3 a4 a5 a6 a7 a8 a9 a10 a11 (xs (1 : Int32).toNatClampNeg) (xs (2 : Int32).toNatClampNeg) p_x ) gT_X10_advise rfl rfl (by decide +kernel) ⟨(Nat.le_of_ble_eq_true rfl), (Nat.le_of_ble_eq_true rfl)⟩ rfl hl.1 (Nat.le_of_ble_eq_true rfl) p_x rfl dL_law_378 rfl ⟨(Nat.le_of_ble_eq_true rfl), (Nat.le_of_ble_eq_true rfl)⟩ (fun v113 w114 hp112 H locs hP hD hS => ?_)
      obtain ⟨rfl, rfl⟩ := hp112
      refine W.eq (g2 := F0 m 381 ls [.int (-1)]) rfl (W.widen (k := 250) (n := 12629) (Nat.le_of_ble_eq_true rfl) (Nat.le_of_ble_eq_true rfl) ?_)
      refine lv_aload_n hx hb dL_law_381 rfl (lv_at hl 1 rfl) ?_
      refine lv_aload_n hx hb dL_law_382 rfl (lv_at hl 3 rfl) ?_
      refine lv_iload_n hx hb dL_law_383 rfl (lv_at hl 0 rfl) ?_
      refine lv_iconst (v := 1) hx hb dL_law_384 (by decide) ?_
      refine lv_iadd hx hb dL_law_385 ?_
      rw [show (0 + 1 : Int32) = 1 from by decide]
      refine va_sld hx hb hX hbl hbA hS (by rw [hL7]; exact vp_in_iff.mpr ⟨by decide, by decide⟩) dL_law_386 ?_
      refine lv_aload_n hx hb dL_law_387 rfl (lv_at hl 3 rfl) ?_
      refine lv_iload_n hx hb dL_law_388 rfl (lv_at hl 0 rfl) ?_
      refine lv_iconst (v := 2) hx hb dL_law_389 (by decide) ?_
      refine lv_iadd hx hb dL_law_390 ?_
      rw [show (0 + 2 : Int32) = 2 from by decide]
      refine va_sld hx hb hX hbl hbA hS (by rw [hL7]; exact vp_in_iff.mpr ⟨by decide, by decide⟩) dL_law_391 ?_
      refine x_callV (n := 2) (As := [.int (xs (1 : Int32).toNatClampNeg), .int (xs (2 : Int32).toNatClampNeg)]) (rest := [.int (-1)]) F hP hD hS (c_X11_advise l D cy w17 q9 m2 m3 m4 m5 m6 m8 m9 m10 m11 m12 m13 m14 m17 m18 m19 m20 m21 m22 m23 m24 m29 m30 m31 m32 m33 m34 m35 m36 m37 m39 m40 m41 m42 m43 m44 m45 m46 m47 m48 m49 m51 m52 m53 m54 m56 m57 m58 m59 (xs (1 : Int32).toNatClampNeg) (xs (2 : Int32).toNatClampNeg) q_y ) gT_X11_advise rfl rfl (by decide +kernel) ⟨(Nat.le_of_ble_eq_true rfl), (Nat.le_of_ble_eq_true rfl)⟩ rfl hl.1 (Nat.le_of_ble_eq_true rfl) q_y rfl dL_law_392 rfl ⟨(Nat.le_of_ble_eq_true rfl), (Nat.le_of_ble_eq_true rfl)⟩ (fun v116 w117 hp115 H locs hP hD hS => ?_)
      subst hp115
      refine W.eq (g2 := F0 m 395 ls [.int (-1), .int (-1)]) rfl (W.widen (k := 250) (n := 12629) (Nat.le_of_ble_eq_true rfl) (Nat.le_of_ble_eq_true rfl) ?_)
      refine lv_icmp_eq (tgt := 958) hx hb dL_law_395 (by decide) (fun c_118 => ?_) (fun c_118 => absurd (show (-1 : Int32) = (-1 : Int32) by decide) c_118)
      refine lv_iinc (v := 7) (lv' := [(3, .int 7), (2, .ref q9), (1, .ref q1), (0, .ref b)]) hx hb dL_law_958 hl (k := 0) rfl (by decide) (by decide) rfl (fun ls hl => ?_)
      refine lv_goto (tgt := 18) hx hb dL_law_961 (by decide) ?_
      refine lv_iload_n hx hb dL_law_18 rfl (lv_at hl 0 rfl) ?_
      refine lv_aload_n hx hb dL_law_19 rfl (lv_at hl 3 rfl) ?_
      refine va_slen hx hb hX hbl hbA hS dL_law_20 ?_
      rw [show Int32.ofNat L = 7 from by rw [hL7]; rfl]
      refine lv_bipush (v := 7) hx hb dL_law_21 (by decide) ?_
      refine lv_isub hx hb dL_law_23 ?_
      rw [show (7 - 7 : Int32) = 0 from by decide]
      refine lv_icmp_gt (tgt := 964) hx hb dL_law_24 (by decide) (fun c_119 => ?_) (fun c_119 => absurd (show (0 : Int32) < (7 : Int32) by decide) c_119)
      refine lv_iconst (v := 1) hx hb dL_law_964 (by decide) ?_
      refine va_forget (fun q hq => hS.2.2 q hq) ?_
      refine W.widen (k := 600000) (n := 7302250) (Nat.le_of_ble_eq_true rfl) (Nat.le_of_ble_eq_true rfl) ?_
      exact lw_ret hx hb hr hlocks dL_law_965
    by_cases c_120 : sw = 6
    · refine lv_tableIn (off := 367) (tgt := 400) hx hb dL_law_33 (by rw [c_120]; decide) (by rw [c_120]; decide) (by rw [c_120]; decide) (by decide) ?_
      refine lv_aload_n hx hb dL_law_400 rfl (lv_at hl 2 rfl) ?_
      refine lv_aload_n hx hb dL_law_401 rfl (lv_at hl 3 rfl) ?_
      refine lv_iload_n hx hb dL_law_402 rfl (lv_at hl 0 rfl) ?_
      refine lv_iconst (v := 1) hx hb dL_law_403 (by decide) ?_
      refine lv_iadd hx hb dL_law_404 ?_
      rw [show (0 + 1 : Int32) = 1 from by decide]
      refine va_sld hx hb hX hbl hbA hS (by rw [hL7]; exact vp_in_iff.mpr ⟨by decide, by decide⟩) dL_law_405 ?_
      refine x_callV (n := 1) (As := [.int (xs (1 : Int32).toNatClampNeg)]) (rest := []) F hP hD hS (c_X10_lose l D cy w17 q1 a0 a1 a2 a3 a4 a5 a6 a7 a8 a9 a10 a11 (xs (1 : Int32).toNatClampNeg) p_x ) gT_X10_lose rfl rfl (by decide +kernel) ⟨(Nat.le_of_ble_eq_true rfl), (Nat.le_of_ble_eq_true rfl)⟩ rfl hl.1 (Nat.le_of_ble_eq_true rfl) p_x rfl dL_law_406 rfl ⟨(Nat.le_of_ble_eq_true rfl), (Nat.le_of_ble_eq_true rfl)⟩ (fun v122 w123 hp121 H locs hP hD hS => ?_)
      obtain ⟨rfl, rfl⟩ := hp121
      refine W.eq (g2 := F0 m 409 ls [.int 0]) rfl (W.widen (k := 250) (n := 12629) (Nat.le_of_ble_eq_true rfl) (Nat.le_of_ble_eq_true rfl) ?_)
      refine lv_aload_n hx hb dL_law_409 rfl (lv_at hl 1 rfl) ?_
      refine lv_aload_n hx hb dL_law_410 rfl (lv_at hl 3 rfl) ?_
      refine lv_iload_n hx hb dL_law_411 rfl (lv_at hl 0 rfl) ?_
      refine lv_iconst (v := 1) hx hb dL_law_412 (by decide) ?_
      refine lv_iadd hx hb dL_law_413 ?_
      rw [show (0 + 1 : Int32) = 1 from by decide]
      refine va_sld hx hb hX hbl hbA hS (by rw [hL7]; exact vp_in_iff.mpr ⟨by decide, by decide⟩) dL_law_414 ?_
      refine x_callV (n := 1) (As := [.int (xs (1 : Int32).toNatClampNeg)]) (rest := [.int 0]) F hP hD hS (c_X11_lose l D cy w17 q9 m2 m3 m4 m5 m6 m8 m9 m10 m11 m12 m13 m14 m17 m18 m19 m20 m21 m22 m23 m24 m29 m30 m31 m32 m33 m34 m35 m36 m37 m39 m40 m41 m42 m43 m44 m45 m46 m47 m48 m49 m51 m52 m53 m54 m56 m57 m58 m59 (xs (1 : Int32).toNatClampNeg) q_y ) gT_X11_lose rfl rfl (by decide +kernel) ⟨(Nat.le_of_ble_eq_true rfl), (Nat.le_of_ble_eq_true rfl)⟩ rfl hl.1 (Nat.le_of_ble_eq_true rfl) q_y rfl dL_law_415 rfl ⟨(Nat.le_of_ble_eq_true rfl), (Nat.le_of_ble_eq_true rfl)⟩ (fun v125 w126 hp124 H locs hP hD hS => ?_)
      subst hp124
      refine W.eq (g2 := F0 m 418 ls [.int 0, .int 0]) rfl (W.widen (k := 250) (n := 12629) (Nat.le_of_ble_eq_true rfl) (Nat.le_of_ble_eq_true rfl) ?_)
      refine lv_icmp_eq (tgt := 958) hx hb dL_law_418 (by decide) (fun c_127 => ?_) (fun c_127 => absurd (show (0 : Int32) = (0 : Int32) by decide) c_127)
      refine lv_iinc (v := 7) (lv' := [(3, .int 7), (2, .ref q9), (1, .ref q1), (0, .ref b)]) hx hb dL_law_958 hl (k := 0) rfl (by decide) (by decide) rfl (fun ls hl => ?_)
      refine lv_goto (tgt := 18) hx hb dL_law_961 (by decide) ?_
      refine lv_iload_n hx hb dL_law_18 rfl (lv_at hl 0 rfl) ?_
      refine lv_aload_n hx hb dL_law_19 rfl (lv_at hl 3 rfl) ?_
      refine va_slen hx hb hX hbl hbA hS dL_law_20 ?_
      rw [show Int32.ofNat L = 7 from by rw [hL7]; rfl]
      refine lv_bipush (v := 7) hx hb dL_law_21 (by decide) ?_
      refine lv_isub hx hb dL_law_23 ?_
      rw [show (7 - 7 : Int32) = 0 from by decide]
      refine lv_icmp_gt (tgt := 964) hx hb dL_law_24 (by decide) (fun c_128 => ?_) (fun c_128 => absurd (show (0 : Int32) < (7 : Int32) by decide) c_128)
      refine lv_iconst (v := 1) hx hb dL_law_964 (by decide) ?_
      refine va_forget (fun q hq => hS.2.2 q hq) ?_
      refine W.widen (k := 600000) (n := 7302250) (Nat.le_of_ble_eq_true rfl) (Nat.le_of_ble_eq_true rfl) ?_
      exact lw_ret hx hb hr hlocks dL_law_965
    by_cases c_129 : sw = 7
    · refine lv_tableIn (off := 390) (tgt := 423) hx hb dL_law_33 (by rw [c_129]; decide) (by rw [c_129]; decide) (by rw [c_129]; decide) (by decide) ?_
      refine lv_aload_n hx hb dL_law_423 rfl (lv_at hl 2 rfl) ?_
      refine lv_aload_n hx hb dL_law_424 rfl (lv_at hl 3 rfl) ?_
      refine lv_iload_n hx hb dL_law_425 rfl (lv_at hl 0 rfl) ?_
      refine lv_iconst (v := 1) hx hb dL_law_426 (by decide) ?_
      refine lv_iadd hx hb dL_law_427 ?_
      rw [show (0 + 1 : Int32) = 1 from by decide]
      refine va_sld hx hb hX hbl hbA hS (by rw [hL7]; exact vp_in_iff.mpr ⟨by decide, by decide⟩) dL_law_428 ?_
      refine lv_aload_n hx hb dL_law_429 rfl (lv_at hl 3 rfl) ?_
      refine lv_iload_n hx hb dL_law_430 rfl (lv_at hl 0 rfl) ?_
      refine lv_iconst (v := 2) hx hb dL_law_431 (by decide) ?_
      refine lv_iadd hx hb dL_law_432 ?_
      rw [show (0 + 2 : Int32) = 2 from by decide]
      refine va_sld hx hb hX hbl hbA hS (by rw [hL7]; exact vp_in_iff.mpr ⟨by decide, by decide⟩) dL_law_433 ?_
      refine lv_aload_n hx hb dL_law_434 rfl (lv_at hl 3 rfl) ?_
      refine lv_iload_n hx hb dL_law_435 rfl (lv_at hl 0 rfl) ?_
      refine lv_iconst (v := 3) hx hb dL_law_436 (by decide) ?_
      refine lv_iadd hx hb dL_law_437 ?_
      rw [show (0 + 3 : Int32) = 3 from by decide]
      refine va_sld hx hb hX hbl hbA hS (by rw [hL7]; exact vp_in_iff.mpr ⟨by decide, by decide⟩) dL_law_438 ?_
      refine x_callV (n := 3) (As := [.int (xs (1 : Int32).toNatClampNeg), .int (xs (2 : Int32).toNatClampNeg), .int (xs (3 : Int32).toNatClampNeg)]) (rest := []) F hP hD hS (c_X10_stop l D cy w17 q1 a0 a1 a2 a3 a4 a5 a6 a7 a8 a9 a10 a11 (xs (1 : Int32).toNatClampNeg) (xs (2 : Int32).toNatClampNeg) (xs (3 : Int32).toNatClampNeg) p_x ) gT_X10_stop rfl rfl (by decide +kernel) ⟨(Nat.le_of_ble_eq_true rfl), (Nat.le_of_ble_eq_true rfl)⟩ rfl hl.1 (Nat.le_of_ble_eq_true rfl) p_x rfl dL_law_439 rfl ⟨(Nat.le_of_ble_eq_true rfl), (Nat.le_of_ble_eq_true rfl)⟩ (fun v131 w132 hp130 H locs hP hD hS => ?_)
      obtain ⟨rfl, rfl⟩ := hp130
      refine W.eq (g2 := F0 m 442 ls [.int (-1)]) rfl (W.widen (k := 250) (n := 12629) (Nat.le_of_ble_eq_true rfl) (Nat.le_of_ble_eq_true rfl) ?_)
      refine lv_aload_n hx hb dL_law_442 rfl (lv_at hl 1 rfl) ?_
      refine lv_aload_n hx hb dL_law_443 rfl (lv_at hl 3 rfl) ?_
      refine lv_iload_n hx hb dL_law_444 rfl (lv_at hl 0 rfl) ?_
      refine lv_iconst (v := 1) hx hb dL_law_445 (by decide) ?_
      refine lv_iadd hx hb dL_law_446 ?_
      rw [show (0 + 1 : Int32) = 1 from by decide]
      refine va_sld hx hb hX hbl hbA hS (by rw [hL7]; exact vp_in_iff.mpr ⟨by decide, by decide⟩) dL_law_447 ?_
      refine lv_aload_n hx hb dL_law_448 rfl (lv_at hl 3 rfl) ?_
      refine lv_iload_n hx hb dL_law_449 rfl (lv_at hl 0 rfl) ?_
      refine lv_iconst (v := 2) hx hb dL_law_450 (by decide) ?_
      refine lv_iadd hx hb dL_law_451 ?_
      rw [show (0 + 2 : Int32) = 2 from by decide]
      refine va_sld hx hb hX hbl hbA hS (by rw [hL7]; exact vp_in_iff.mpr ⟨by decide, by decide⟩) dL_law_452 ?_
      refine lv_aload_n hx hb dL_law_453 rfl (lv_at hl 3 rfl) ?_
      refine lv_iload_n hx hb dL_law_454 rfl (lv_at hl 0 rfl) ?_
      refine lv_iconst (v := 3) hx hb dL_law_455 (by decide) ?_
      refine lv_iadd hx hb dL_law_456 ?_
      rw [show (0 + 3 : Int32) = 3 from by decide]
      refine va_sld hx hb hX hbl hbA hS (by rw [hL7]; exact vp_in_iff.mpr ⟨by decide, by decide⟩) dL_law_457 ?_
      refine x_callV (n := 3) (As := [.int (xs (1 : Int32).toNatClampNeg), .int (xs (2 : Int32).toNatClampNeg), .int (xs (3 : Int32).toNatClampNeg)]) (rest := [.int (-1)]) F hP hD hS (c_X11_stop l D cy w17 q9 m2 m3 m4 m5 m6 m8 m9 m10 m11 m12 m13 m14 m17 m18 m19 m20 m21 m22 m23 m24 m29 m30 m31 m32 m33 m34 m35 m36 m37 m39 m40 m41 m42 m43 m44 m45 m46 m47 m48 m49 m51 m52 m53 m54 m56 m57 m58 m59 (xs (1 : Int32).toNatClampNeg) (xs (2 : Int32).toNatClampNeg) (xs (3 : Int32).toNatClampNeg) q_y ) gT_X11_stop rfl rfl (by decide +kernel) ⟨(Nat.le_of_ble_eq_true rfl), (Nat.le_of_ble_eq_true rfl)⟩ rfl hl.1 (Nat.le_of_ble_eq_true rfl) q_y rfl dL_law_458 rfl ⟨(Nat.le_of_ble_eq_true rfl), (Nat.le_of_ble_eq_true rfl)⟩ (fun v134 w135 hp133 H locs hP hD hS => ?_)
      subst hp133
      refine W.eq (g2 := F0 m 461 ls [.int (-1), .int (-1)]) rfl (W.widen (k := 250) (n := 12629) (Nat.le_of_ble_eq_true rfl) (Nat.le_of_ble_eq_true rfl) ?_)
      refine lv_icmp_eq (tgt := 958) hx hb dL_law_461 (by decide) (fun c_136 => ?_) (fun c_136 => absurd (show (-1 : Int32) = (-1 : Int32) by decide) c_136)
      refine lv_iinc (v := 7) (lv' := [(3, .int 7), (2, .ref q9), (1, .ref q1), (0, .ref b)]) hx hb dL_law_958 hl (k := 0) rfl (by decide) (by decide) rfl (fun ls hl => ?_)
      refine lv_goto (tgt := 18) hx hb dL_law_961 (by decide) ?_
      refine lv_iload_n hx hb dL_law_18 rfl (lv_at hl 0 rfl) ?_
      refine lv_aload_n hx hb dL_law_19 rfl (lv_at hl 3 rfl) ?_
      refine va_slen hx hb hX hbl hbA hS dL_law_20 ?_
      rw [show Int32.ofNat L = 7 from by rw [hL7]; rfl]
      refine lv_bipush (v := 7) hx hb dL_law_21 (by decide) ?_
      refine lv_isub hx hb dL_law_23 ?_
      rw [show (7 - 7 : Int32) = 0 from by decide]
      refine lv_icmp_gt (tgt := 964) hx hb dL_law_24 (by decide) (fun c_137 => ?_) (fun c_137 => absurd (show (0 : Int32) < (7 : Int32) by decide) c_137)
      refine lv_iconst (v := 1) hx hb dL_law_964 (by decide) ?_
      refine va_forget (fun q hq => hS.2.2 q hq) ?_
      refine W.widen (k := 600000) (n := 7302250) (Nat.le_of_ble_eq_true rfl) (Nat.le_of_ble_eq_true rfl) ?_
      exact lw_ret hx hb hr hlocks dL_law_965
    by_cases c_138 : sw = 8
    · refine lv_tableIn (off := 433) (tgt := 466) hx hb dL_law_33 (by rw [c_138]; decide) (by rw [c_138]; decide) (by rw [c_138]; decide) (by decide) ?_
      refine lv_aload_n hx hb dL_law_466 rfl (lv_at hl 2 rfl) ?_
      refine lv_aload_n hx hb dL_law_467 rfl (lv_at hl 3 rfl) ?_
      refine lv_iload_n hx hb dL_law_468 rfl (lv_at hl 0 rfl) ?_
      refine lv_iconst (v := 1) hx hb dL_law_469 (by decide) ?_
      refine lv_iadd hx hb dL_law_470 ?_
      rw [show (0 + 1 : Int32) = 1 from by decide]
      refine va_sld hx hb hX hbl hbA hS (by rw [hL7]; exact vp_in_iff.mpr ⟨by decide, by decide⟩) dL_law_471 ?_
      refine lv_aload_n hx hb dL_law_472 rfl (lv_at hl 3 rfl) ?_
      refine lv_iload_n hx hb dL_law_473 rfl (lv_at hl 0 rfl) ?_
      refine lv_iconst (v := 2) hx hb dL_law_474 (by decide) ?_
      refine lv_iadd hx hb dL_law_475 ?_
      rw [show (0 + 2 : Int32) = 2 from by decide]
      refine va_sld hx hb hX hbl hbA hS (by rw [hL7]; exact vp_in_iff.mpr ⟨by decide, by decide⟩) dL_law_476 ?_
      refine lv_aload_n hx hb dL_law_477 rfl (lv_at hl 3 rfl) ?_
      refine lv_iload_n hx hb dL_law_478 rfl (lv_at hl 0 rfl) ?_
      refine lv_iconst (v := 3) hx hb dL_law_479 (by decide) ?_
      refine lv_iadd hx hb dL_law_480 ?_
      rw [show (0 + 3 : Int32) = 3 from by decide]
      refine va_sld hx hb hX hbl hbA hS (by rw [hL7]; exact vp_in_iff.mpr ⟨by decide, by decide⟩) dL_law_481 ?_
      refine lv_aload_n hx hb dL_law_482 rfl (lv_at hl 3 rfl) ?_
      refine lv_iload_n hx hb dL_law_483 rfl (lv_at hl 0 rfl) ?_
      refine lv_iconst (v := 4) hx hb dL_law_484 (by decide) ?_
      refine lv_iadd hx hb dL_law_485 ?_
      rw [show (0 + 4 : Int32) = 4 from by decide]
      refine va_sld hx hb hX hbl hbA hS (by rw [hL7]; exact vp_in_iff.mpr ⟨by decide, by decide⟩) dL_law_486 ?_
      refine lv_aload_n hx hb dL_law_487 rfl (lv_at hl 3 rfl) ?_
      refine lv_iload_n hx hb dL_law_488 rfl (lv_at hl 0 rfl) ?_
      refine lv_iconst (v := 5) hx hb dL_law_489 (by decide) ?_
      refine lv_iadd hx hb dL_law_490 ?_
      rw [show (0 + 5 : Int32) = 5 from by decide]
      refine va_sld hx hb hX hbl hbA hS (by rw [hL7]; exact vp_in_iff.mpr ⟨by decide, by decide⟩) dL_law_491 ?_
      refine x_callV (n := 5) (As := [.int (xs (1 : Int32).toNatClampNeg), .int (xs (2 : Int32).toNatClampNeg), .int (xs (3 : Int32).toNatClampNeg), .int (xs (4 : Int32).toNatClampNeg), .int (xs (5 : Int32).toNatClampNeg)]) (rest := []) F hP hD hS (c_X10_feed l D cy w17 q1 a0 a1 a2 a3 a4 a5 a6 a7 a8 a9 a10 a11 b6 0 (fun _ => 0) (xs (1 : Int32).toNatClampNeg) (xs (2 : Int32).toNatClampNeg) (xs (3 : Int32).toNatClampNeg) (xs (4 : Int32).toNatClampNeg) (xs (5 : Int32).toNatClampNeg) p_x p_a6 p_b6 (fun b => b ∈ w8.1) o_a6.1 o_b6.1 ) gT_X10_feed rfl rfl (by decide +kernel) ⟨(Nat.le_of_ble_eq_true rfl), (Nat.le_of_ble_eq_true rfl)⟩ rfl hl.1 (Nat.le_of_ble_eq_true rfl) p_x rfl dL_law_492 rfl ⟨(Nat.le_of_ble_eq_true rfl), (Nat.le_of_ble_eq_true rfl)⟩ (fun v140 w141 hp139 H locs hP hD hS => ?_)
      obtain ⟨rfl, hp139⟩ := hp139
      have k142 := hp139.2 _ _ q_y ny
      have k143 := hp139.2 _ _ q_m24 nx24
      refine W.eq (g2 := F0 m 495 ls [.int 20]) rfl (W.widen (k := 250) (n := 12629) (Nat.le_of_ble_eq_true rfl) (Nat.le_of_ble_eq_true rfl) ?_)
      refine lv_aload_n hx hb dL_law_495 rfl (lv_at hl 1 rfl) ?_
      refine lv_aload_n hx hb dL_law_496 rfl (lv_at hl 3 rfl) ?_
      refine lv_iload_n hx hb dL_law_497 rfl (lv_at hl 0 rfl) ?_
      refine lv_iconst (v := 1) hx hb dL_law_498 (by decide) ?_
      refine lv_iadd hx hb dL_law_499 ?_
      rw [show (0 + 1 : Int32) = 1 from by decide]
      refine va_sld hx hb hX hbl hbA hS (by rw [hL7]; exact vp_in_iff.mpr ⟨by decide, by decide⟩) dL_law_500 ?_
      refine lv_aload_n hx hb dL_law_501 rfl (lv_at hl 3 rfl) ?_
      refine lv_iload_n hx hb dL_law_502 rfl (lv_at hl 0 rfl) ?_
      refine lv_iconst (v := 2) hx hb dL_law_503 (by decide) ?_
      refine lv_iadd hx hb dL_law_504 ?_
      rw [show (0 + 2 : Int32) = 2 from by decide]
      refine va_sld hx hb hX hbl hbA hS (by rw [hL7]; exact vp_in_iff.mpr ⟨by decide, by decide⟩) dL_law_505 ?_
      refine lv_aload_n hx hb dL_law_506 rfl (lv_at hl 3 rfl) ?_
      refine lv_iload_n hx hb dL_law_507 rfl (lv_at hl 0 rfl) ?_
      refine lv_iconst (v := 3) hx hb dL_law_508 (by decide) ?_
      refine lv_iadd hx hb dL_law_509 ?_
      rw [show (0 + 3 : Int32) = 3 from by decide]
      refine va_sld hx hb hX hbl hbA hS (by rw [hL7]; exact vp_in_iff.mpr ⟨by decide, by decide⟩) dL_law_510 ?_
      refine lv_aload_n hx hb dL_law_511 rfl (lv_at hl 3 rfl) ?_
      refine lv_iload_n hx hb dL_law_512 rfl (lv_at hl 0 rfl) ?_
      refine lv_iconst (v := 4) hx hb dL_law_513 (by decide) ?_
      refine lv_iadd hx hb dL_law_514 ?_
      rw [show (0 + 4 : Int32) = 4 from by decide]
      refine va_sld hx hb hX hbl hbA hS (by rw [hL7]; exact vp_in_iff.mpr ⟨by decide, by decide⟩) dL_law_515 ?_
      refine lv_aload_n hx hb dL_law_516 rfl (lv_at hl 3 rfl) ?_
      refine lv_iload_n hx hb dL_law_517 rfl (lv_at hl 0 rfl) ?_
      refine lv_iconst (v := 5) hx hb dL_law_518 (by decide) ?_
      refine lv_iadd hx hb dL_law_519 ?_
      rw [show (0 + 5 : Int32) = 5 from by decide]
      refine va_sld hx hb hX hbl hbA hS (by rw [hL7]; exact vp_in_iff.mpr ⟨by decide, by decide⟩) dL_law_520 ?_
      refine x_callV (n := 5) (As := [.int (xs (1 : Int32).toNatClampNeg), .int (xs (2 : Int32).toNatClampNeg), .int (xs (3 : Int32).toNatClampNeg), .int (xs (4 : Int32).toNatClampNeg), .int (xs (5 : Int32).toNatClampNeg)]) (rest := [.int 20]) F hP hD hS (c_X11_feed l D cy w141 q9 m2 m3 m4 m5 m6 m8 m9 m10 m11 m12 m13 m14 m17 m18 m19 m20 m21 m22 m23 m24 m29 m30 m31 m32 m33 m34 m35 m36 m37 m39 m40 m41 m42 m43 m44 m45 m46 m47 m48 m49 m51 m52 m53 m54 m56 m57 m58 m59 (fun _ => 0) (xs (1 : Int32).toNatClampNeg) (xs (2 : Int32).toNatClampNeg) (xs (3 : Int32).toNatClampNeg) (xs (4 : Int32).toNatClampNeg) (xs (5 : Int32).toNatClampNeg) k142 k143 ) gT_X11_feed rfl rfl (by decide +kernel) ⟨(Nat.le_of_ble_eq_true rfl), (Nat.le_of_ble_eq_true rfl)⟩ rfl hl.1 (Nat.le_of_ble_eq_true rfl) k142 rfl dL_law_521 rfl ⟨(Nat.le_of_ble_eq_true rfl), (Nat.le_of_ble_eq_true rfl)⟩ (fun v145 w146 hp144 H locs hP hD hS => ?_)
      subst hp144
      refine W.eq (g2 := F0 m 524 ls [.int 20, .int 20]) rfl (W.widen (k := 250) (n := 12629) (Nat.le_of_ble_eq_true rfl) (Nat.le_of_ble_eq_true rfl) ?_)
      refine lv_icmp_eq (tgt := 958) hx hb dL_law_524 (by decide) (fun c_147 => ?_) (fun c_147 => absurd (show (20 : Int32) = (20 : Int32) by decide) c_147)
      refine lv_iinc (v := 7) (lv' := [(3, .int 7), (2, .ref q9), (1, .ref q1), (0, .ref b)]) hx hb dL_law_958 hl (k := 0) rfl (by decide) (by decide) rfl (fun ls hl => ?_)
      refine lv_goto (tgt := 18) hx hb dL_law_961 (by decide) ?_
      refine lv_iload_n hx hb dL_law_18 rfl (lv_at hl 0 rfl) ?_
      refine lv_aload_n hx hb dL_law_19 rfl (lv_at hl 3 rfl) ?_
      refine va_slen hx hb hX hbl hbA hS dL_law_20 ?_
      rw [show Int32.ofNat L = 7 from by rw [hL7]; rfl]
      refine lv_bipush (v := 7) hx hb dL_law_21 (by decide) ?_
      refine lv_isub hx hb dL_law_23 ?_
      rw [show (7 - 7 : Int32) = 0 from by decide]
      refine lv_icmp_gt (tgt := 964) hx hb dL_law_24 (by decide) (fun c_148 => ?_) (fun c_148 => absurd (show (0 : Int32) < (7 : Int32) by decide) c_148)
      refine lv_iconst (v := 1) hx hb dL_law_964 (by decide) ?_
      refine va_forget (fun q hq => hS.2.2 q hq) ?_
      refine W.widen (k := 600000) (n := 7302250) (Nat.le_of_ble_eq_true rfl) (Nat.le_of_ble_eq_true rfl) ?_
      exact lw_ret hx hb hr hlocks dL_law_965
    by_cases c_149 : sw = 9
    · refine lv_tableIn (off := 496) (tgt := 529) hx hb dL_law_33 (by rw [c_149]; decide) (by rw [c_149]; decide) (by rw [c_149]; decide) (by decide) ?_
      refine lv_aload_n hx hb dL_law_529 rfl (lv_at hl 2 rfl) ?_
      refine lv_aload_n hx hb dL_law_530 rfl (lv_at hl 3 rfl) ?_
      refine lv_iload_n hx hb dL_law_531 rfl (lv_at hl 0 rfl) ?_
      refine lv_iconst (v := 1) hx hb dL_law_532 (by decide) ?_
      refine lv_iadd hx hb dL_law_533 ?_
      rw [show (0 + 1 : Int32) = 1 from by decide]
      refine va_sld hx hb hX hbl hbA hS (by rw [hL7]; exact vp_in_iff.mpr ⟨by decide, by decide⟩) dL_law_534 ?_
      refine x_callV (n := 1) (As := [.int (xs (1 : Int32).toNatClampNeg)]) (rest := []) F hP hD hS (c_X10_end l D cy w17 q1 a0 a1 a2 a3 a4 a5 a6 a7 a8 a9 a10 a11 b6 0 (xs (1 : Int32).toNatClampNeg) p_x p_a6 (fun b => b ∈ w8.1) o_a6.1 ) gT_X10_end rfl rfl (by decide +kernel) ⟨(Nat.le_of_ble_eq_true rfl), (Nat.le_of_ble_eq_true rfl)⟩ rfl hl.1 (Nat.le_of_ble_eq_true rfl) p_x rfl dL_law_535 rfl ⟨(Nat.le_of_ble_eq_true rfl), (Nat.le_of_ble_eq_true rfl)⟩ (fun v151 w152 hp150 H locs hP hD hS => ?_)
      obtain ⟨rfl, hp150⟩ := hp150
      have k153 := hp150.2 _ _ q_y ny
      refine W.eq (g2 := F0 m 538 ls [.int (sp_end (xs (1 : Int32).toNatClampNeg))]) rfl (W.widen (k := 250) (n := 12629) (Nat.le_of_ble_eq_true rfl) (Nat.le_of_ble_eq_true rfl) ?_)
      refine lv_aload_n hx hb dL_law_538 rfl (lv_at hl 1 rfl) ?_
      refine lv_aload_n hx hb dL_law_539 rfl (lv_at hl 3 rfl) ?_
      refine lv_iload_n hx hb dL_law_540 rfl (lv_at hl 0 rfl) ?_
      refine lv_iconst (v := 1) hx hb dL_law_541 (by decide) ?_
      refine lv_iadd hx hb dL_law_542 ?_
      rw [show (0 + 1 : Int32) = 1 from by decide]
      refine va_sld hx hb hX hbl hbA hS (by rw [hL7]; exact vp_in_iff.mpr ⟨by decide, by decide⟩) dL_law_543 ?_
      refine x_callV (n := 1) (As := [.int (xs (1 : Int32).toNatClampNeg)]) (rest := [.int (sp_end (xs (1 : Int32).toNatClampNeg))]) F hP hD hS (c_X11_end l D cy w152 q9 m2 m3 m4 m5 m6 m8 m9 m10 m11 m12 m13 m14 m17 m18 m19 m20 m21 m22 m23 m24 m29 m30 m31 m32 m33 m34 m35 m36 m37 m39 m40 m41 m42 m43 m44 m45 m46 m47 m48 m49 m51 m52 m53 m54 m56 m57 m58 m59 (xs (1 : Int32).toNatClampNeg) k153 ) gT_X11_end rfl rfl (by decide +kernel) ⟨(Nat.le_of_ble_eq_true rfl), (Nat.le_of_ble_eq_true rfl)⟩ rfl hl.1 (Nat.le_of_ble_eq_true rfl) k153 rfl dL_law_544 rfl ⟨(Nat.le_of_ble_eq_true rfl), (Nat.le_of_ble_eq_true rfl)⟩ (fun v155 w156 hp154 H locs hP hD hS => ?_)
      subst hp154
      refine W.eq (g2 := F0 m 547 ls [.int (sp_end (xs (1 : Int32).toNatClampNeg)), .int (sp_end (xs (1 : Int32).toNatClampNeg))]) rfl (W.widen (k := 250) (n := 12629) (Nat.le_of_ble_eq_true rfl) (Nat.le_of_ble_eq_true rfl) ?_)
      refine lv_icmp_eq (tgt := 958) hx hb dL_law_547 (by decide) (fun c_157 => ?_) (fun c_157 => absurd rfl c_157)
      refine lv_iinc (v := 7) (lv' := [(3, .int 7), (2, .ref q9), (1, .ref q1), (0, .ref b)]) hx hb dL_law_958 hl (k := 0) rfl (by decide) (by decide) rfl (fun ls hl => ?_)
      refine lv_goto (tgt := 18) hx hb dL_law_961 (by decide) ?_
      refine lv_iload_n hx hb dL_law_18 rfl (lv_at hl 0 rfl) ?_
      refine lv_aload_n hx hb dL_law_19 rfl (lv_at hl 3 rfl) ?_
      refine va_slen hx hb hX hbl hbA hS dL_law_20 ?_
      rw [show Int32.ofNat L = 7 from by rw [hL7]; rfl]
      refine lv_bipush (v := 7) hx hb dL_law_21 (by decide) ?_
      refine lv_isub hx hb dL_law_23 ?_
      rw [show (7 - 7 : Int32) = 0 from by decide]
      refine lv_icmp_gt (tgt := 964) hx hb dL_law_24 (by decide) (fun c_158 => ?_) (fun c_158 => absurd (show (0 : Int32) < (7 : Int32) by decide) c_158)
      refine lv_iconst (v := 1) hx hb dL_law_964 (by decide) ?_
      refine va_forget (fun q hq => hS.2.2 q hq) ?_
      refine W.widen (k := 600000) (n := 7302250) (Nat.le_of_ble_eq_true rfl) (Nat.le_of_ble_eq_true rfl) ?_
      exact lw_ret hx hb hr hlocks dL_law_965
    by_cases c_159 : sw = 10
    · refine lv_tableIn (off := 519) (tgt := 552) hx hb dL_law_33 (by rw [c_159]; decide) (by rw [c_159]; decide) (by rw [c_159]; decide) (by decide) ?_
      refine lv_aload_n hx hb dL_law_552 rfl (lv_at hl 2 rfl) ?_
      refine lv_aload_n hx hb dL_law_553 rfl (lv_at hl 3 rfl) ?_
      refine lv_iload_n hx hb dL_law_554 rfl (lv_at hl 0 rfl) ?_
      refine lv_iconst (v := 1) hx hb dL_law_555 (by decide) ?_
      refine lv_iadd hx hb dL_law_556 ?_
      rw [show (0 + 1 : Int32) = 1 from by decide]
      refine va_sld hx hb hX hbl hbA hS (by rw [hL7]; exact vp_in_iff.mpr ⟨by decide, by decide⟩) dL_law_557 ?_
      refine x_callV (n := 1) (As := [.int (xs (1 : Int32).toNatClampNeg)]) (rest := []) F hP hD hS (c_X10_text l D cy w17 q1 a0 a1 a2 a3 a4 a5 a6 a7 a8 a9 a10 a11 tf tn ag b6 g0 g1 g2 g3 g4 0 0 (xs (1 : Int32).toNatClampNeg) p_x p_a1 p_a6 p_a9 (fun i hi => ⟨(p_TW i hi).1, (p_TW i hi).2.1⟩) (fun b => b ∈ w8.1) o_x.1 o_a6.1 o_a9.1 (fun i hi => (o_TW i hi).2.1.1)) gT_X10_text rfl rfl (by decide +kernel) ⟨(Nat.le_of_ble_eq_true rfl), (Nat.le_of_ble_eq_true rfl)⟩ rfl hl.1 (Nat.le_of_ble_eq_true rfl) p_x rfl dL_law_558 rfl ⟨(Nat.le_of_ble_eq_true rfl), (Nat.le_of_ble_eq_true rfl)⟩ (fun v161 w162 hp160 H locs hP hD hS => ?_)
      obtain ⟨rfl, hp160⟩ := hp160
      have k163 := hp160.2 _ _ q_y ny
      have k164 := hp160.2 _ _ q_m29 nx29
      refine W.eq (g2 := F0 m 561 ls [.int (sp_text (xs (1 : Int32).toNatClampNeg))]) rfl (W.widen (k := 250) (n := 12629) (Nat.le_of_ble_eq_true rfl) (Nat.le_of_ble_eq_true rfl) ?_)
      refine lv_aload_n hx hb dL_law_561 rfl (lv_at hl 1 rfl) ?_
      refine lv_aload_n hx hb dL_law_562 rfl (lv_at hl 3 rfl) ?_
      refine lv_iload_n hx hb dL_law_563 rfl (lv_at hl 0 rfl) ?_
      refine lv_iconst (v := 1) hx hb dL_law_564 (by decide) ?_
      refine lv_iadd hx hb dL_law_565 ?_
      rw [show (0 + 1 : Int32) = 1 from by decide]
      refine va_sld hx hb hX hbl hbA hS (by rw [hL7]; exact vp_in_iff.mpr ⟨by decide, by decide⟩) dL_law_566 ?_
      refine x_callV (n := 1) (As := [.int (xs (1 : Int32).toNatClampNeg)]) (rest := [.int (sp_text (xs (1 : Int32).toNatClampNeg))]) F hP hD hS (c_X11_text l D cy w162 q9 m2 m3 m4 m5 m6 m8 m9 m10 m11 m12 m13 m14 m17 m18 m19 m20 m21 m22 m23 m24 m29 m30 m31 m32 m33 m34 m35 m36 m37 m39 m40 m41 m42 m43 m44 m45 m46 m47 m48 m49 m51 m52 m53 m54 m56 m57 m58 m59 (fun _ => 0) (xs (1 : Int32).toNatClampNeg) k163 k164 ) gT_X11_text rfl rfl (by decide +kernel) ⟨(Nat.le_of_ble_eq_true rfl), (Nat.le_of_ble_eq_true rfl)⟩ rfl hl.1 (Nat.le_of_ble_eq_true rfl) k163 rfl dL_law_567 rfl ⟨(Nat.le_of_ble_eq_true rfl), (Nat.le_of_ble_eq_true rfl)⟩ (fun v166 w167 hp165 H locs hP hD hS => ?_)
      subst hp165
      refine W.eq (g2 := F0 m 570 ls [.int (sp_text (xs (1 : Int32).toNatClampNeg)), .int (sp_text (xs (1 : Int32).toNatClampNeg))]) rfl (W.widen (k := 250) (n := 12629) (Nat.le_of_ble_eq_true rfl) (Nat.le_of_ble_eq_true rfl) ?_)
      refine lv_icmp_eq (tgt := 958) hx hb dL_law_570 (by decide) (fun c_168 => ?_) (fun c_168 => absurd rfl c_168)
      refine lv_iinc (v := 7) (lv' := [(3, .int 7), (2, .ref q9), (1, .ref q1), (0, .ref b)]) hx hb dL_law_958 hl (k := 0) rfl (by decide) (by decide) rfl (fun ls hl => ?_)
      refine lv_goto (tgt := 18) hx hb dL_law_961 (by decide) ?_
      refine lv_iload_n hx hb dL_law_18 rfl (lv_at hl 0 rfl) ?_
      refine lv_aload_n hx hb dL_law_19 rfl (lv_at hl 3 rfl) ?_
      refine va_slen hx hb hX hbl hbA hS dL_law_20 ?_
      rw [show Int32.ofNat L = 7 from by rw [hL7]; rfl]
      refine lv_bipush (v := 7) hx hb dL_law_21 (by decide) ?_
      refine lv_isub hx hb dL_law_23 ?_
      rw [show (7 - 7 : Int32) = 0 from by decide]
      refine lv_icmp_gt (tgt := 964) hx hb dL_law_24 (by decide) (fun c_169 => ?_) (fun c_169 => absurd (show (0 : Int32) < (7 : Int32) by decide) c_169)
      refine lv_iconst (v := 1) hx hb dL_law_964 (by decide) ?_
      refine va_forget (fun q hq => hS.2.2 q hq) ?_
      refine W.widen (k := 600000) (n := 7302250) (Nat.le_of_ble_eq_true rfl) (Nat.le_of_ble_eq_true rfl) ?_
      exact lw_ret hx hb hr hlocks dL_law_965
    by_cases c_170 : sw = 11
    · refine lv_tableIn (off := 542) (tgt := 575) hx hb dL_law_33 (by rw [c_170]; decide) (by rw [c_170]; decide) (by rw [c_170]; decide) (by decide) ?_
      refine lv_aload_n hx hb dL_law_575 rfl (lv_at hl 2 rfl) ?_
      refine x_callV (n := 0) (As := []) (rest := []) F hP hD hS (c_X10_law l D cy w17 q1 a0 a1 a2 a3 a4 a5 a6 a7 a8 a9 a10 a11 b6 b11 g11 10 0 0 p_x p_a6 p_a11 p_b11 (fun b => b ∈ w8.1) o_x.1 o_a6.1 o_a11.1 o_b11.1 ) gT_X10_law rfl rfl (by decide +kernel) ⟨(Nat.le_of_ble_eq_true rfl), (Nat.le_of_ble_eq_true rfl)⟩ rfl hl.1 (Nat.le_of_ble_eq_true rfl) p_x rfl dL_law_576 rfl ⟨(Nat.le_of_ble_eq_true rfl), (Nat.le_of_ble_eq_true rfl)⟩ (fun v172 w173 hp171 H locs hP hD hS => ?_)
      obtain ⟨rfl, hp171⟩ := hp171
      have k174 := hp171.2 _ _ q_y ny
      have k175 := hp171.2 _ _ q_m35 nx35
      have k176 := hp171.2 _ _ q_m36 nx36
      have k177 := hp171.2 _ _ q_m37 nx37
      refine W.eq (g2 := F0 m 579 ls [.int 0]) rfl (W.widen (k := 250) (n := 12629) (Nat.le_of_ble_eq_true rfl) (Nat.le_of_ble_eq_true rfl) ?_)
      refine lv_aload_n hx hb dL_law_579 rfl (lv_at hl 1 rfl) ?_
      refine x_callV (n := 0) (As := []) (rest := [.int 0]) F hP hD hS (c_X11_law l D cy w173 q9 m2 m3 m4 m5 m6 m8 m9 m10 m11 m12 m13 m14 m17 m18 m19 m20 m21 m22 m23 m24 m29 m30 m31 m32 m33 m34 m35 m36 m37 m39 m40 m41 m42 m43 m44 m45 m46 m47 m48 m49 m51 m52 m53 m54 m56 m57 m58 m59 be (fun _ => 0) (fun _ => 0) k174 k175 k176 k177 n35x36 n35x37 n36x37) gT_X11_law rfl rfl (by decide +kernel) ⟨(Nat.le_of_ble_eq_true rfl), (Nat.le_of_ble_eq_true rfl)⟩ rfl hl.1 (Nat.le_of_ble_eq_true rfl) k174 rfl dL_law_580 rfl ⟨(Nat.le_of_ble_eq_true rfl), (Nat.le_of_ble_eq_true rfl)⟩ (fun v179 w180 hp178 H locs hP hD hS => ?_)
      subst hp178
      refine W.eq (g2 := F0 m 583 ls [.int 0, .int 0]) rfl (W.widen (k := 250) (n := 12629) (Nat.le_of_ble_eq_true rfl) (Nat.le_of_ble_eq_true rfl) ?_)
      refine lv_icmp_eq (tgt := 958) hx hb dL_law_583 (by decide) (fun c_181 => ?_) (fun c_181 => absurd (show (0 : Int32) = (0 : Int32) by decide) c_181)
      refine lv_iinc (v := 7) (lv' := [(3, .int 7), (2, .ref q9), (1, .ref q1), (0, .ref b)]) hx hb dL_law_958 hl (k := 0) rfl (by decide) (by decide) rfl (fun ls hl => ?_)
      refine lv_goto (tgt := 18) hx hb dL_law_961 (by decide) ?_
      refine lv_iload_n hx hb dL_law_18 rfl (lv_at hl 0 rfl) ?_
      refine lv_aload_n hx hb dL_law_19 rfl (lv_at hl 3 rfl) ?_
      refine va_slen hx hb hX hbl hbA hS dL_law_20 ?_
      rw [show Int32.ofNat L = 7 from by rw [hL7]; rfl]
      refine lv_bipush (v := 7) hx hb dL_law_21 (by decide) ?_
      refine lv_isub hx hb dL_law_23 ?_
      rw [show (7 - 7 : Int32) = 0 from by decide]
      refine lv_icmp_gt (tgt := 964) hx hb dL_law_24 (by decide) (fun c_182 => ?_) (fun c_182 => absurd (show (0 : Int32) < (7 : Int32) by decide) c_182)
      refine lv_iconst (v := 1) hx hb dL_law_964 (by decide) ?_
      refine va_forget (fun q hq => hS.2.2 q hq) ?_
      refine W.widen (k := 600000) (n := 7302250) (Nat.le_of_ble_eq_true rfl) (Nat.le_of_ble_eq_true rfl) ?_
      exact lw_ret hx hb hr hlocks dL_law_965
    by_cases c_183 : sw = 12
    · refine lv_tableIn (off := 555) (tgt := 588) hx hb dL_law_33 (by rw [c_183]; decide) (by rw [c_183]; decide) (by rw [c_183]; decide) (by decide) ?_
      refine lv_aload_n hx hb dL_law_588 rfl (lv_at hl 2 rfl) ?_
      refine lv_aload_n hx hb dL_law_589 rfl (lv_at hl 3 rfl) ?_
      refine lv_iload_n hx hb dL_law_590 rfl (lv_at hl 0 rfl) ?_
      refine lv_iconst (v := 1) hx hb dL_law_591 (by decide) ?_
      refine lv_iadd hx hb dL_law_592 ?_
      rw [show (0 + 1 : Int32) = 1 from by decide]
      refine va_sld hx hb hX hbl hbA hS (by rw [hL7]; exact vp_in_iff.mpr ⟨by decide, by decide⟩) dL_law_593 ?_
      refine lv_aload_n hx hb dL_law_594 rfl (lv_at hl 3 rfl) ?_
      refine lv_iload_n hx hb dL_law_595 rfl (lv_at hl 0 rfl) ?_
      refine lv_iconst (v := 2) hx hb dL_law_596 (by decide) ?_
      refine lv_iadd hx hb dL_law_597 ?_
      rw [show (0 + 2 : Int32) = 2 from by decide]
      refine va_sld hx hb hX hbl hbA hS (by rw [hL7]; exact vp_in_iff.mpr ⟨by decide, by decide⟩) dL_law_598 ?_
      refine lv_aload_n hx hb dL_law_599 rfl (lv_at hl 3 rfl) ?_
      refine lv_iload_n hx hb dL_law_600 rfl (lv_at hl 0 rfl) ?_
      refine lv_iconst (v := 3) hx hb dL_law_601 (by decide) ?_
      refine lv_iadd hx hb dL_law_602 ?_
      rw [show (0 + 3 : Int32) = 3 from by decide]
      refine va_sld hx hb hX hbl hbA hS (by rw [hL7]; exact vp_in_iff.mpr ⟨by decide, by decide⟩) dL_law_603 ?_
      refine lv_aload_n hx hb dL_law_604 rfl (lv_at hl 3 rfl) ?_
      refine lv_iload_n hx hb dL_law_605 rfl (lv_at hl 0 rfl) ?_
      refine lv_iconst (v := 4) hx hb dL_law_606 (by decide) ?_
      refine lv_iadd hx hb dL_law_607 ?_
      rw [show (0 + 4 : Int32) = 4 from by decide]
      refine va_sld hx hb hX hbl hbA hS (by rw [hL7]; exact vp_in_iff.mpr ⟨by decide, by decide⟩) dL_law_608 ?_
      refine lv_aload_n hx hb dL_law_609 rfl (lv_at hl 3 rfl) ?_
      refine lv_iload_n hx hb dL_law_610 rfl (lv_at hl 0 rfl) ?_
      refine lv_iconst (v := 5) hx hb dL_law_611 (by decide) ?_
      refine lv_iadd hx hb dL_law_612 ?_
      rw [show (0 + 5 : Int32) = 5 from by decide]
      refine va_sld hx hb hX hbl hbA hS (by rw [hL7]; exact vp_in_iff.mpr ⟨by decide, by decide⟩) dL_law_613 ?_
      refine lv_aload_n hx hb dL_law_614 rfl (lv_at hl 3 rfl) ?_
      refine lv_iload_n hx hb dL_law_615 rfl (lv_at hl 0 rfl) ?_
      refine lv_bipush (v := 6) hx hb dL_law_616 (by decide) ?_
      refine lv_iadd hx hb dL_law_618 ?_
      rw [show (0 + 6 : Int32) = 6 from by decide]
      refine va_sld hx hb hX hbl hbA hS (by rw [hL7]; exact vp_in_iff.mpr ⟨by decide, by decide⟩) dL_law_619 ?_
      refine lv_if_eq (tgt := 627) hx hb dL_law_620 (by decide) (fun c_184 => ?_) (fun c_184 => ?_)
      · refine lv_iconst (v := 0) hx hb dL_law_627 (by decide) ?_
        refine x_callV (n := 6) (As := [.int (xs (1 : Int32).toNatClampNeg), .int (xs (2 : Int32).toNatClampNeg), .int (xs (3 : Int32).toNatClampNeg), .int (xs (4 : Int32).toNatClampNeg), .int (xs (5 : Int32).toNatClampNeg), .int 0]) (rest := []) F hP hD hS (c_X10_show l D cy w17 q1 a0 a1 a2 a3 a4 a5 a6 a7 a8 a9 a10 a11 (xs (1 : Int32).toNatClampNeg) (xs (2 : Int32).toNatClampNeg) (xs (3 : Int32).toNatClampNeg) (xs (4 : Int32).toNatClampNeg) (xs (5 : Int32).toNatClampNeg) 0 p_x ) gT_X10_show rfl rfl (by decide +kernel) ⟨(Nat.le_of_ble_eq_true rfl), (Nat.le_of_ble_eq_true rfl)⟩ rfl hl.1 (Nat.le_of_ble_eq_true rfl) p_x rfl dL_law_628 rfl ⟨(Nat.le_of_ble_eq_true rfl), (Nat.le_of_ble_eq_true rfl)⟩ (fun v186 w187 hp185 H locs hP hD hS => ?_)
        obtain ⟨rfl, rfl⟩ := hp185
        refine W.eq (g2 := F0 m 631 ls [.int (-1)]) rfl (W.widen (k := 250) (n := 12629) (Nat.le_of_ble_eq_true rfl) (Nat.le_of_ble_eq_true rfl) ?_)
        refine lv_aload_n hx hb dL_law_631 rfl (lv_at hl 1 rfl) ?_
        refine lv_aload_n hx hb dL_law_632 rfl (lv_at hl 3 rfl) ?_
        refine lv_iload_n hx hb dL_law_633 rfl (lv_at hl 0 rfl) ?_
        refine lv_iconst (v := 1) hx hb dL_law_634 (by decide) ?_
        refine lv_iadd hx hb dL_law_635 ?_
        rw [show (0 + 1 : Int32) = 1 from by decide]
        refine va_sld hx hb hX hbl hbA hS (by rw [hL7]; exact vp_in_iff.mpr ⟨by decide, by decide⟩) dL_law_636 ?_
        refine lv_aload_n hx hb dL_law_637 rfl (lv_at hl 3 rfl) ?_
        refine lv_iload_n hx hb dL_law_638 rfl (lv_at hl 0 rfl) ?_
        refine lv_iconst (v := 2) hx hb dL_law_639 (by decide) ?_
        refine lv_iadd hx hb dL_law_640 ?_
        rw [show (0 + 2 : Int32) = 2 from by decide]
        refine va_sld hx hb hX hbl hbA hS (by rw [hL7]; exact vp_in_iff.mpr ⟨by decide, by decide⟩) dL_law_641 ?_
        refine lv_aload_n hx hb dL_law_642 rfl (lv_at hl 3 rfl) ?_
        refine lv_iload_n hx hb dL_law_643 rfl (lv_at hl 0 rfl) ?_
        refine lv_iconst (v := 3) hx hb dL_law_644 (by decide) ?_
        refine lv_iadd hx hb dL_law_645 ?_
        rw [show (0 + 3 : Int32) = 3 from by decide]
        refine va_sld hx hb hX hbl hbA hS (by rw [hL7]; exact vp_in_iff.mpr ⟨by decide, by decide⟩) dL_law_646 ?_
        refine lv_aload_n hx hb dL_law_647 rfl (lv_at hl 3 rfl) ?_
        refine lv_iload_n hx hb dL_law_648 rfl (lv_at hl 0 rfl) ?_
        refine lv_iconst (v := 4) hx hb dL_law_649 (by decide) ?_
        refine lv_iadd hx hb dL_law_650 ?_
        rw [show (0 + 4 : Int32) = 4 from by decide]
        refine va_sld hx hb hX hbl hbA hS (by rw [hL7]; exact vp_in_iff.mpr ⟨by decide, by decide⟩) dL_law_651 ?_
        refine lv_aload_n hx hb dL_law_652 rfl (lv_at hl 3 rfl) ?_
        refine lv_iload_n hx hb dL_law_653 rfl (lv_at hl 0 rfl) ?_
        refine lv_iconst (v := 5) hx hb dL_law_654 (by decide) ?_
        refine lv_iadd hx hb dL_law_655 ?_
        rw [show (0 + 5 : Int32) = 5 from by decide]
        refine va_sld hx hb hX hbl hbA hS (by rw [hL7]; exact vp_in_iff.mpr ⟨by decide, by decide⟩) dL_law_656 ?_
        refine lv_aload_n hx hb dL_law_657 rfl (lv_at hl 3 rfl) ?_
        refine lv_iload_n hx hb dL_law_658 rfl (lv_at hl 0 rfl) ?_
        refine lv_bipush (v := 6) hx hb dL_law_659 (by decide) ?_
        refine lv_iadd hx hb dL_law_661 ?_
        rw [show (0 + 6 : Int32) = 6 from by decide]
        refine va_sld hx hb hX hbl hbA hS (by rw [hL7]; exact vp_in_iff.mpr ⟨by decide, by decide⟩) dL_law_662 ?_
        refine lv_if_eq (tgt := 670) hx hb dL_law_663 (by decide) (fun c_188 => ?_) (fun c_188 => ?_)
        · refine lv_iconst (v := 0) hx hb dL_law_670 (by decide) ?_
          refine x_callV (n := 6) (As := [.int (xs (1 : Int32).toNatClampNeg), .int (xs (2 : Int32).toNatClampNeg), .int (xs (3 : Int32).toNatClampNeg), .int (xs (4 : Int32).toNatClampNeg), .int (xs (5 : Int32).toNatClampNeg), .int 0]) (rest := [.int (-1)]) F hP hD hS (c_X11_show l D cy w17 q9 m2 m3 m4 m5 m6 m8 m9 m10 m11 m12 m13 m14 m17 m18 m19 m20 m21 m22 m23 m24 m29 m30 m31 m32 m33 m34 m35 m36 m37 m39 m40 m41 m42 m43 m44 m45 m46 m47 m48 m49 m51 m52 m53 m54 m56 m57 m58 m59 (xs (1 : Int32).toNatClampNeg) (xs (2 : Int32).toNatClampNeg) (xs (3 : Int32).toNatClampNeg) (xs (4 : Int32).toNatClampNeg) (xs (5 : Int32).toNatClampNeg) 0 q_y ) gT_X11_show rfl rfl (by decide +kernel) ⟨(Nat.le_of_ble_eq_true rfl), (Nat.le_of_ble_eq_true rfl)⟩ rfl hl.1 (Nat.le_of_ble_eq_true rfl) q_y rfl dL_law_671 rfl ⟨(Nat.le_of_ble_eq_true rfl), (Nat.le_of_ble_eq_true rfl)⟩ (fun v190 w191 hp189 H locs hP hD hS => ?_)
          subst hp189
          refine W.eq (g2 := F0 m 674 ls [.int (-1), .int (-1)]) rfl (W.widen (k := 250) (n := 12629) (Nat.le_of_ble_eq_true rfl) (Nat.le_of_ble_eq_true rfl) ?_)
          refine lv_icmp_eq (tgt := 958) hx hb dL_law_674 (by decide) (fun c_192 => ?_) (fun c_192 => absurd (show (-1 : Int32) = (-1 : Int32) by decide) c_192)
          refine lv_iinc (v := 7) (lv' := [(3, .int 7), (2, .ref q9), (1, .ref q1), (0, .ref b)]) hx hb dL_law_958 hl (k := 0) rfl (by decide) (by decide) rfl (fun ls hl => ?_)
          refine lv_goto (tgt := 18) hx hb dL_law_961 (by decide) ?_
          refine lv_iload_n hx hb dL_law_18 rfl (lv_at hl 0 rfl) ?_
          refine lv_aload_n hx hb dL_law_19 rfl (lv_at hl 3 rfl) ?_
          refine va_slen hx hb hX hbl hbA hS dL_law_20 ?_
          rw [show Int32.ofNat L = 7 from by rw [hL7]; rfl]
          refine lv_bipush (v := 7) hx hb dL_law_21 (by decide) ?_
          refine lv_isub hx hb dL_law_23 ?_
          rw [show (7 - 7 : Int32) = 0 from by decide]
          refine lv_icmp_gt (tgt := 964) hx hb dL_law_24 (by decide) (fun c_193 => ?_) (fun c_193 => absurd (show (0 : Int32) < (7 : Int32) by decide) c_193)
          refine lv_iconst (v := 1) hx hb dL_law_964 (by decide) ?_
          refine va_forget (fun q hq => hS.2.2 q hq) ?_
          refine W.widen (k := 600000) (n := 7302250) (Nat.le_of_ble_eq_true rfl) (Nat.le_of_ble_eq_true rfl) ?_
          exact lw_ret hx hb hr hlocks dL_law_965
        · refine lv_iconst (v := 1) hx hb dL_law_666 (by decide) ?_
          refine lv_goto (tgt := 671) hx hb dL_law_667 (by decide) ?_
          refine x_callV (n := 6) (As := [.int (xs (1 : Int32).toNatClampNeg), .int (xs (2 : Int32).toNatClampNeg), .int (xs (3 : Int32).toNatClampNeg), .int (xs (4 : Int32).toNatClampNeg), .int (xs (5 : Int32).toNatClampNeg), .int 1]) (rest := [.int (-1)]) F hP hD hS (c_X11_show l D cy w17 q9 m2 m3 m4 m5 m6 m8 m9 m10 m11 m12 m13 m14 m17 m18 m19 m20 m21 m22 m23 m24 m29 m30 m31 m32 m33 m34 m35 m36 m37 m39 m40 m41 m42 m43 m44 m45 m46 m47 m48 m49 m51 m52 m53 m54 m56 m57 m58 m59 (xs (1 : Int32).toNatClampNeg) (xs (2 : Int32).toNatClampNeg) (xs (3 : Int32).toNatClampNeg) (xs (4 : Int32).toNatClampNeg) (xs (5 : Int32).toNatClampNeg) 1 q_y ) gT_X11_show rfl rfl (by decide +kernel) ⟨(Nat.le_of_ble_eq_true rfl), (Nat.le_of_ble_eq_true rfl)⟩ rfl hl.1 (Nat.le_of_ble_eq_true rfl) q_y rfl dL_law_671 rfl ⟨(Nat.le_of_ble_eq_true rfl), (Nat.le_of_ble_eq_true rfl)⟩ (fun v195 w196 hp194 H locs hP hD hS => ?_)
          subst hp194
          refine W.eq (g2 := F0 m 674 ls [.int (-1), .int (-1)]) rfl (W.widen (k := 250) (n := 12629) (Nat.le_of_ble_eq_true rfl) (Nat.le_of_ble_eq_true rfl) ?_)
          refine lv_icmp_eq (tgt := 958) hx hb dL_law_674 (by decide) (fun c_197 => ?_) (fun c_197 => absurd (show (-1 : Int32) = (-1 : Int32) by decide) c_197)
          refine lv_iinc (v := 7) (lv' := [(3, .int 7), (2, .ref q9), (1, .ref q1), (0, .ref b)]) hx hb dL_law_958 hl (k := 0) rfl (by decide) (by decide) rfl (fun ls hl => ?_)
          refine lv_goto (tgt := 18) hx hb dL_law_961 (by decide) ?_
          refine lv_iload_n hx hb dL_law_18 rfl (lv_at hl 0 rfl) ?_
          refine lv_aload_n hx hb dL_law_19 rfl (lv_at hl 3 rfl) ?_
          refine va_slen hx hb hX hbl hbA hS dL_law_20 ?_
          rw [show Int32.ofNat L = 7 from by rw [hL7]; rfl]
          refine lv_bipush (v := 7) hx hb dL_law_21 (by decide) ?_
          refine lv_isub hx hb dL_law_23 ?_
          rw [show (7 - 7 : Int32) = 0 from by decide]
          refine lv_icmp_gt (tgt := 964) hx hb dL_law_24 (by decide) (fun c_198 => ?_) (fun c_198 => absurd (show (0 : Int32) < (7 : Int32) by decide) c_198)
          refine lv_iconst (v := 1) hx hb dL_law_964 (by decide) ?_
          refine va_forget (fun q hq => hS.2.2 q hq) ?_
          refine W.widen (k := 600000) (n := 7302250) (Nat.le_of_ble_eq_true rfl) (Nat.le_of_ble_eq_true rfl) ?_
          exact lw_ret hx hb hr hlocks dL_law_965
      · refine lv_iconst (v := 1) hx hb dL_law_623 (by decide) ?_
        refine lv_goto (tgt := 628) hx hb dL_law_624 (by decide) ?_
        refine x_callV (n := 6) (As := [.int (xs (1 : Int32).toNatClampNeg), .int (xs (2 : Int32).toNatClampNeg), .int (xs (3 : Int32).toNatClampNeg), .int (xs (4 : Int32).toNatClampNeg), .int (xs (5 : Int32).toNatClampNeg), .int 1]) (rest := []) F hP hD hS (c_X10_show l D cy w17 q1 a0 a1 a2 a3 a4 a5 a6 a7 a8 a9 a10 a11 (xs (1 : Int32).toNatClampNeg) (xs (2 : Int32).toNatClampNeg) (xs (3 : Int32).toNatClampNeg) (xs (4 : Int32).toNatClampNeg) (xs (5 : Int32).toNatClampNeg) 1 p_x ) gT_X10_show rfl rfl (by decide +kernel) ⟨(Nat.le_of_ble_eq_true rfl), (Nat.le_of_ble_eq_true rfl)⟩ rfl hl.1 (Nat.le_of_ble_eq_true rfl) p_x rfl dL_law_628 rfl ⟨(Nat.le_of_ble_eq_true rfl), (Nat.le_of_ble_eq_true rfl)⟩ (fun v200 w201 hp199 H locs hP hD hS => ?_)
        obtain ⟨rfl, rfl⟩ := hp199
        refine W.eq (g2 := F0 m 631 ls [.int (-1)]) rfl (W.widen (k := 250) (n := 12629) (Nat.le_of_ble_eq_true rfl) (Nat.le_of_ble_eq_true rfl) ?_)
        refine lv_aload_n hx hb dL_law_631 rfl (lv_at hl 1 rfl) ?_
        refine lv_aload_n hx hb dL_law_632 rfl (lv_at hl 3 rfl) ?_
        refine lv_iload_n hx hb dL_law_633 rfl (lv_at hl 0 rfl) ?_
        refine lv_iconst (v := 1) hx hb dL_law_634 (by decide) ?_
        refine lv_iadd hx hb dL_law_635 ?_
        rw [show (0 + 1 : Int32) = 1 from by decide]
        refine va_sld hx hb hX hbl hbA hS (by rw [hL7]; exact vp_in_iff.mpr ⟨by decide, by decide⟩) dL_law_636 ?_
        refine lv_aload_n hx hb dL_law_637 rfl (lv_at hl 3 rfl) ?_
        refine lv_iload_n hx hb dL_law_638 rfl (lv_at hl 0 rfl) ?_
        refine lv_iconst (v := 2) hx hb dL_law_639 (by decide) ?_
        refine lv_iadd hx hb dL_law_640 ?_
        rw [show (0 + 2 : Int32) = 2 from by decide]
        refine va_sld hx hb hX hbl hbA hS (by rw [hL7]; exact vp_in_iff.mpr ⟨by decide, by decide⟩) dL_law_641 ?_
        refine lv_aload_n hx hb dL_law_642 rfl (lv_at hl 3 rfl) ?_
        refine lv_iload_n hx hb dL_law_643 rfl (lv_at hl 0 rfl) ?_
        refine lv_iconst (v := 3) hx hb dL_law_644 (by decide) ?_
        refine lv_iadd hx hb dL_law_645 ?_
        rw [show (0 + 3 : Int32) = 3 from by decide]
        refine va_sld hx hb hX hbl hbA hS (by rw [hL7]; exact vp_in_iff.mpr ⟨by decide, by decide⟩) dL_law_646 ?_
        refine lv_aload_n hx hb dL_law_647 rfl (lv_at hl 3 rfl) ?_
        refine lv_iload_n hx hb dL_law_648 rfl (lv_at hl 0 rfl) ?_
        refine lv_iconst (v := 4) hx hb dL_law_649 (by decide) ?_
        refine lv_iadd hx hb dL_law_650 ?_
        rw [show (0 + 4 : Int32) = 4 from by decide]
        refine va_sld hx hb hX hbl hbA hS (by rw [hL7]; exact vp_in_iff.mpr ⟨by decide, by decide⟩) dL_law_651 ?_
        refine lv_aload_n hx hb dL_law_652 rfl (lv_at hl 3 rfl) ?_
        refine lv_iload_n hx hb dL_law_653 rfl (lv_at hl 0 rfl) ?_
        refine lv_iconst (v := 5) hx hb dL_law_654 (by decide) ?_
        refine lv_iadd hx hb dL_law_655 ?_
        rw [show (0 + 5 : Int32) = 5 from by decide]
        refine va_sld hx hb hX hbl hbA hS (by rw [hL7]; exact vp_in_iff.mpr ⟨by decide, by decide⟩) dL_law_656 ?_
        refine lv_aload_n hx hb dL_law_657 rfl (lv_at hl 3 rfl) ?_
        refine lv_iload_n hx hb dL_law_658 rfl (lv_at hl 0 rfl) ?_
        refine lv_bipush (v := 6) hx hb dL_law_659 (by decide) ?_
        refine lv_iadd hx hb dL_law_661 ?_
        rw [show (0 + 6 : Int32) = 6 from by decide]
        refine va_sld hx hb hX hbl hbA hS (by rw [hL7]; exact vp_in_iff.mpr ⟨by decide, by decide⟩) dL_law_662 ?_
        refine lv_if_eq (tgt := 670) hx hb dL_law_663 (by decide) (fun c_202 => ?_) (fun c_202 => ?_)
        · refine lv_iconst (v := 0) hx hb dL_law_670 (by decide) ?_
          refine x_callV (n := 6) (As := [.int (xs (1 : Int32).toNatClampNeg), .int (xs (2 : Int32).toNatClampNeg), .int (xs (3 : Int32).toNatClampNeg), .int (xs (4 : Int32).toNatClampNeg), .int (xs (5 : Int32).toNatClampNeg), .int 0]) (rest := [.int (-1)]) F hP hD hS (c_X11_show l D cy w17 q9 m2 m3 m4 m5 m6 m8 m9 m10 m11 m12 m13 m14 m17 m18 m19 m20 m21 m22 m23 m24 m29 m30 m31 m32 m33 m34 m35 m36 m37 m39 m40 m41 m42 m43 m44 m45 m46 m47 m48 m49 m51 m52 m53 m54 m56 m57 m58 m59 (xs (1 : Int32).toNatClampNeg) (xs (2 : Int32).toNatClampNeg) (xs (3 : Int32).toNatClampNeg) (xs (4 : Int32).toNatClampNeg) (xs (5 : Int32).toNatClampNeg) 0 q_y ) gT_X11_show rfl rfl (by decide +kernel) ⟨(Nat.le_of_ble_eq_true rfl), (Nat.le_of_ble_eq_true rfl)⟩ rfl hl.1 (Nat.le_of_ble_eq_true rfl) q_y rfl dL_law_671 rfl ⟨(Nat.le_of_ble_eq_true rfl), (Nat.le_of_ble_eq_true rfl)⟩ (fun v204 w205 hp203 H locs hP hD hS => ?_)
          subst hp203
          refine W.eq (g2 := F0 m 674 ls [.int (-1), .int (-1)]) rfl (W.widen (k := 250) (n := 12629) (Nat.le_of_ble_eq_true rfl) (Nat.le_of_ble_eq_true rfl) ?_)
          refine lv_icmp_eq (tgt := 958) hx hb dL_law_674 (by decide) (fun c_206 => ?_) (fun c_206 => absurd (show (-1 : Int32) = (-1 : Int32) by decide) c_206)
          refine lv_iinc (v := 7) (lv' := [(3, .int 7), (2, .ref q9), (1, .ref q1), (0, .ref b)]) hx hb dL_law_958 hl (k := 0) rfl (by decide) (by decide) rfl (fun ls hl => ?_)
          refine lv_goto (tgt := 18) hx hb dL_law_961 (by decide) ?_
          refine lv_iload_n hx hb dL_law_18 rfl (lv_at hl 0 rfl) ?_
          refine lv_aload_n hx hb dL_law_19 rfl (lv_at hl 3 rfl) ?_
          refine va_slen hx hb hX hbl hbA hS dL_law_20 ?_
          rw [show Int32.ofNat L = 7 from by rw [hL7]; rfl]
          refine lv_bipush (v := 7) hx hb dL_law_21 (by decide) ?_
          refine lv_isub hx hb dL_law_23 ?_
          rw [show (7 - 7 : Int32) = 0 from by decide]
          refine lv_icmp_gt (tgt := 964) hx hb dL_law_24 (by decide) (fun c_207 => ?_) (fun c_207 => absurd (show (0 : Int32) < (7 : Int32) by decide) c_207)
          refine lv_iconst (v := 1) hx hb dL_law_964 (by decide) ?_
          refine va_forget (fun q hq => hS.2.2 q hq) ?_
          refine W.widen (k := 600000) (n := 7302250) (Nat.le_of_ble_eq_true rfl) (Nat.le_of_ble_eq_true rfl) ?_
          exact lw_ret hx hb hr hlocks dL_law_965
        · refine lv_iconst (v := 1) hx hb dL_law_666 (by decide) ?_
          refine lv_goto (tgt := 671) hx hb dL_law_667 (by decide) ?_
          refine x_callV (n := 6) (As := [.int (xs (1 : Int32).toNatClampNeg), .int (xs (2 : Int32).toNatClampNeg), .int (xs (3 : Int32).toNatClampNeg), .int (xs (4 : Int32).toNatClampNeg), .int (xs (5 : Int32).toNatClampNeg), .int 1]) (rest := [.int (-1)]) F hP hD hS (c_X11_show l D cy w17 q9 m2 m3 m4 m5 m6 m8 m9 m10 m11 m12 m13 m14 m17 m18 m19 m20 m21 m22 m23 m24 m29 m30 m31 m32 m33 m34 m35 m36 m37 m39 m40 m41 m42 m43 m44 m45 m46 m47 m48 m49 m51 m52 m53 m54 m56 m57 m58 m59 (xs (1 : Int32).toNatClampNeg) (xs (2 : Int32).toNatClampNeg) (xs (3 : Int32).toNatClampNeg) (xs (4 : Int32).toNatClampNeg) (xs (5 : Int32).toNatClampNeg) 1 q_y ) gT_X11_show rfl rfl (by decide +kernel) ⟨(Nat.le_of_ble_eq_true rfl), (Nat.le_of_ble_eq_true rfl)⟩ rfl hl.1 (Nat.le_of_ble_eq_true rfl) q_y rfl dL_law_671 rfl ⟨(Nat.le_of_ble_eq_true rfl), (Nat.le_of_ble_eq_true rfl)⟩ (fun v209 w210 hp208 H locs hP hD hS => ?_)
          subst hp208
          refine W.eq (g2 := F0 m 674 ls [.int (-1), .int (-1)]) rfl (W.widen (k := 250) (n := 12629) (Nat.le_of_ble_eq_true rfl) (Nat.le_of_ble_eq_true rfl) ?_)
          refine lv_icmp_eq (tgt := 958) hx hb dL_law_674 (by decide) (fun c_211 => ?_) (fun c_211 => absurd (show (-1 : Int32) = (-1 : Int32) by decide) c_211)
          refine lv_iinc (v := 7) (lv' := [(3, .int 7), (2, .ref q9), (1, .ref q1), (0, .ref b)]) hx hb dL_law_958 hl (k := 0) rfl (by decide) (by decide) rfl (fun ls hl => ?_)
          refine lv_goto (tgt := 18) hx hb dL_law_961 (by decide) ?_
          refine lv_iload_n hx hb dL_law_18 rfl (lv_at hl 0 rfl) ?_
          refine lv_aload_n hx hb dL_law_19 rfl (lv_at hl 3 rfl) ?_
          refine va_slen hx hb hX hbl hbA hS dL_law_20 ?_
          rw [show Int32.ofNat L = 7 from by rw [hL7]; rfl]
          refine lv_bipush (v := 7) hx hb dL_law_21 (by decide) ?_
          refine lv_isub hx hb dL_law_23 ?_
          rw [show (7 - 7 : Int32) = 0 from by decide]
          refine lv_icmp_gt (tgt := 964) hx hb dL_law_24 (by decide) (fun c_212 => ?_) (fun c_212 => absurd (show (0 : Int32) < (7 : Int32) by decide) c_212)
          refine lv_iconst (v := 1) hx hb dL_law_964 (by decide) ?_
          refine va_forget (fun q hq => hS.2.2 q hq) ?_
          refine W.widen (k := 600000) (n := 7302250) (Nat.le_of_ble_eq_true rfl) (Nat.le_of_ble_eq_true rfl) ?_
          exact lw_ret hx hb hr hlocks dL_law_965
    by_cases c_213 : sw = 13
    · refine lv_tableIn (off := 646) (tgt := 679) hx hb dL_law_33 (by rw [c_213]; decide) (by rw [c_213]; decide) (by rw [c_213]; decide) (by decide) ?_
      refine lv_aload_n hx hb dL_law_679 rfl (lv_at hl 2 rfl) ?_
      refine lv_aload_n hx hb dL_law_680 rfl (lv_at hl 3 rfl) ?_
      refine lv_iload_n hx hb dL_law_681 rfl (lv_at hl 0 rfl) ?_
      refine lv_iconst (v := 1) hx hb dL_law_682 (by decide) ?_
      refine lv_iadd hx hb dL_law_683 ?_
      rw [show (0 + 1 : Int32) = 1 from by decide]
      refine va_sld hx hb hX hbl hbA hS (by rw [hL7]; exact vp_in_iff.mpr ⟨by decide, by decide⟩) dL_law_684 ?_
      refine lv_aload_n hx hb dL_law_685 rfl (lv_at hl 3 rfl) ?_
      refine lv_iload_n hx hb dL_law_686 rfl (lv_at hl 0 rfl) ?_
      refine lv_iconst (v := 2) hx hb dL_law_687 (by decide) ?_
      refine lv_iadd hx hb dL_law_688 ?_
      rw [show (0 + 2 : Int32) = 2 from by decide]
      refine va_sld hx hb hX hbl hbA hS (by rw [hL7]; exact vp_in_iff.mpr ⟨by decide, by decide⟩) dL_law_689 ?_
      refine x_callV (n := 2) (As := [.int (xs (1 : Int32).toNatClampNeg), .int (xs (2 : Int32).toNatClampNeg)]) (rest := []) F hP hD hS (c_X10_send l D cy w17 q1 a0 a1 a2 a3 a4 a5 a6 a7 a8 a9 a10 a11 tf tn ag (xs (1 : Int32).toNatClampNeg) (xs (2 : Int32).toNatClampNeg) p_x p_a1 (fun i hi => ⟨(p_TW i hi).1, (p_TW i hi).2.1⟩) (fun b => b ∈ w8.1) (fun i hi => (o_TW i hi).2.1.1)) gT_X10_send rfl rfl (by decide +kernel) ⟨(Nat.le_of_ble_eq_true rfl), (Nat.le_of_ble_eq_true rfl)⟩ rfl hl.1 (Nat.le_of_ble_eq_true rfl) p_x rfl dL_law_690 rfl ⟨(Nat.le_of_ble_eq_true rfl), (Nat.le_of_ble_eq_true rfl)⟩ (fun v215 w216 hp214 H locs hP hD hS => ?_)
      obtain ⟨rfl, hp214⟩ := hp214
      have k217 := hp214.2 _ _ q_y ny
      have k218 := hp214.2 _ _ q_m49 nx49
      refine W.eq (g2 := F0 m 693 ls [.int (sp_send (xs (1 : Int32).toNatClampNeg) (xs (2 : Int32).toNatClampNeg))]) rfl (W.widen (k := 250) (n := 12629) (Nat.le_of_ble_eq_true rfl) (Nat.le_of_ble_eq_true rfl) ?_)
      refine lv_aload_n hx hb dL_law_693 rfl (lv_at hl 1 rfl) ?_
      refine lv_aload_n hx hb dL_law_694 rfl (lv_at hl 3 rfl) ?_
      refine lv_iload_n hx hb dL_law_695 rfl (lv_at hl 0 rfl) ?_
      refine lv_iconst (v := 1) hx hb dL_law_696 (by decide) ?_
      refine lv_iadd hx hb dL_law_697 ?_
      rw [show (0 + 1 : Int32) = 1 from by decide]
      refine va_sld hx hb hX hbl hbA hS (by rw [hL7]; exact vp_in_iff.mpr ⟨by decide, by decide⟩) dL_law_698 ?_
      refine lv_aload_n hx hb dL_law_699 rfl (lv_at hl 3 rfl) ?_
      refine lv_iload_n hx hb dL_law_700 rfl (lv_at hl 0 rfl) ?_
      refine lv_iconst (v := 2) hx hb dL_law_701 (by decide) ?_
      refine lv_iadd hx hb dL_law_702 ?_
      rw [show (0 + 2 : Int32) = 2 from by decide]
      refine va_sld hx hb hX hbl hbA hS (by rw [hL7]; exact vp_in_iff.mpr ⟨by decide, by decide⟩) dL_law_703 ?_
      refine x_callV (n := 2) (As := [.int (xs (1 : Int32).toNatClampNeg), .int (xs (2 : Int32).toNatClampNeg)]) (rest := [.int (sp_send (xs (1 : Int32).toNatClampNeg) (xs (2 : Int32).toNatClampNeg))]) F hP hD hS (c_X11_send l D cy w216 q9 m2 m3 m4 m5 m6 m8 m9 m10 m11 m12 m13 m14 m17 m18 m19 m20 m21 m22 m23 m24 m29 m30 m31 m32 m33 m34 m35 m36 m37 m39 m40 m41 m42 m43 m44 m45 m46 m47 m48 m49 m51 m52 m53 m54 m56 m57 m58 m59 (xs (1 : Int32).toNatClampNeg) (xs (2 : Int32).toNatClampNeg) k217 k218 ) gT_X11_send rfl rfl (by decide +kernel) ⟨(Nat.le_of_ble_eq_true rfl), (Nat.le_of_ble_eq_true rfl)⟩ rfl hl.1 (Nat.le_of_ble_eq_true rfl) k217 rfl dL_law_704 rfl ⟨(Nat.le_of_ble_eq_true rfl), (Nat.le_of_ble_eq_true rfl)⟩ (fun v220 w221 hp219 H locs hP hD hS => ?_)
      subst hp219
      refine W.eq (g2 := F0 m 707 ls [.int (sp_send (xs (1 : Int32).toNatClampNeg) (xs (2 : Int32).toNatClampNeg)), .int (sp_send (xs (1 : Int32).toNatClampNeg) (xs (2 : Int32).toNatClampNeg))]) rfl (W.widen (k := 250) (n := 12629) (Nat.le_of_ble_eq_true rfl) (Nat.le_of_ble_eq_true rfl) ?_)
      refine lv_icmp_eq (tgt := 958) hx hb dL_law_707 (by decide) (fun c_222 => ?_) (fun c_222 => absurd rfl c_222)
      refine lv_iinc (v := 7) (lv' := [(3, .int 7), (2, .ref q9), (1, .ref q1), (0, .ref b)]) hx hb dL_law_958 hl (k := 0) rfl (by decide) (by decide) rfl (fun ls hl => ?_)
      refine lv_goto (tgt := 18) hx hb dL_law_961 (by decide) ?_
      refine lv_iload_n hx hb dL_law_18 rfl (lv_at hl 0 rfl) ?_
      refine lv_aload_n hx hb dL_law_19 rfl (lv_at hl 3 rfl) ?_
      refine va_slen hx hb hX hbl hbA hS dL_law_20 ?_
      rw [show Int32.ofNat L = 7 from by rw [hL7]; rfl]
      refine lv_bipush (v := 7) hx hb dL_law_21 (by decide) ?_
      refine lv_isub hx hb dL_law_23 ?_
      rw [show (7 - 7 : Int32) = 0 from by decide]
      refine lv_icmp_gt (tgt := 964) hx hb dL_law_24 (by decide) (fun c_223 => ?_) (fun c_223 => absurd (show (0 : Int32) < (7 : Int32) by decide) c_223)
      refine lv_iconst (v := 1) hx hb dL_law_964 (by decide) ?_
      refine va_forget (fun q hq => hS.2.2 q hq) ?_
      refine W.widen (k := 600000) (n := 7302250) (Nat.le_of_ble_eq_true rfl) (Nat.le_of_ble_eq_true rfl) ?_
      exact lw_ret hx hb hr hlocks dL_law_965
    by_cases c_224 : sw = 14
    · refine lv_tableIn (off := 679) (tgt := 712) hx hb dL_law_33 (by rw [c_224]; decide) (by rw [c_224]; decide) (by rw [c_224]; decide) (by decide) ?_
      refine lv_aload_n hx hb dL_law_712 rfl (lv_at hl 2 rfl) ?_
      refine lv_aload_n hx hb dL_law_713 rfl (lv_at hl 3 rfl) ?_
      refine lv_iload_n hx hb dL_law_714 rfl (lv_at hl 0 rfl) ?_
      refine lv_iconst (v := 1) hx hb dL_law_715 (by decide) ?_
      refine lv_iadd hx hb dL_law_716 ?_
      rw [show (0 + 1 : Int32) = 1 from by decide]
      refine va_sld hx hb hX hbl hbA hS (by rw [hL7]; exact vp_in_iff.mpr ⟨by decide, by decide⟩) dL_law_717 ?_
      refine lv_aload_n hx hb dL_law_718 rfl (lv_at hl 3 rfl) ?_
      refine lv_iload_n hx hb dL_law_719 rfl (lv_at hl 0 rfl) ?_
      refine lv_iconst (v := 2) hx hb dL_law_720 (by decide) ?_
      refine lv_iadd hx hb dL_law_721 ?_
      rw [show (0 + 2 : Int32) = 2 from by decide]
      refine va_sld hx hb hX hbl hbA hS (by rw [hL7]; exact vp_in_iff.mpr ⟨by decide, by decide⟩) dL_law_722 ?_
      refine x_callV (n := 2) (As := [.int (xs (1 : Int32).toNatClampNeg), .int (xs (2 : Int32).toNatClampNeg)]) (rest := []) F hP hD hS (c_X10_shown l D cy w17 q1 a0 a1 a2 a3 a4 a5 a6 a7 a8 a9 a10 a11 (xs (1 : Int32).toNatClampNeg) (xs (2 : Int32).toNatClampNeg) p_x ) gT_X10_shown rfl rfl (by decide +kernel) ⟨(Nat.le_of_ble_eq_true rfl), (Nat.le_of_ble_eq_true rfl)⟩ rfl hl.1 (Nat.le_of_ble_eq_true rfl) p_x rfl dL_law_723 rfl ⟨(Nat.le_of_ble_eq_true rfl), (Nat.le_of_ble_eq_true rfl)⟩ (fun v226 w227 hp225 H locs hP hD hS => ?_)
      obtain ⟨rfl, rfl⟩ := hp225
      refine W.eq (g2 := F0 m 726 ls [.int (-1)]) rfl (W.widen (k := 250) (n := 12629) (Nat.le_of_ble_eq_true rfl) (Nat.le_of_ble_eq_true rfl) ?_)
      refine lv_aload_n hx hb dL_law_726 rfl (lv_at hl 1 rfl) ?_
      refine lv_aload_n hx hb dL_law_727 rfl (lv_at hl 3 rfl) ?_
      refine lv_iload_n hx hb dL_law_728 rfl (lv_at hl 0 rfl) ?_
      refine lv_iconst (v := 1) hx hb dL_law_729 (by decide) ?_
      refine lv_iadd hx hb dL_law_730 ?_
      rw [show (0 + 1 : Int32) = 1 from by decide]
      refine va_sld hx hb hX hbl hbA hS (by rw [hL7]; exact vp_in_iff.mpr ⟨by decide, by decide⟩) dL_law_731 ?_
      refine lv_aload_n hx hb dL_law_732 rfl (lv_at hl 3 rfl) ?_
      refine lv_iload_n hx hb dL_law_733 rfl (lv_at hl 0 rfl) ?_
      refine lv_iconst (v := 2) hx hb dL_law_734 (by decide) ?_
      refine lv_iadd hx hb dL_law_735 ?_
      rw [show (0 + 2 : Int32) = 2 from by decide]
      refine va_sld hx hb hX hbl hbA hS (by rw [hL7]; exact vp_in_iff.mpr ⟨by decide, by decide⟩) dL_law_736 ?_
      refine x_callV (n := 2) (As := [.int (xs (1 : Int32).toNatClampNeg), .int (xs (2 : Int32).toNatClampNeg)]) (rest := [.int (-1)]) F hP hD hS (c_X11_shown l D cy w17 q9 m2 m3 m4 m5 m6 m8 m9 m10 m11 m12 m13 m14 m17 m18 m19 m20 m21 m22 m23 m24 m29 m30 m31 m32 m33 m34 m35 m36 m37 m39 m40 m41 m42 m43 m44 m45 m46 m47 m48 m49 m51 m52 m53 m54 m56 m57 m58 m59 (xs (1 : Int32).toNatClampNeg) (xs (2 : Int32).toNatClampNeg) q_y ) gT_X11_shown rfl rfl (by decide +kernel) ⟨(Nat.le_of_ble_eq_true rfl), (Nat.le_of_ble_eq_true rfl)⟩ rfl hl.1 (Nat.le_of_ble_eq_true rfl) q_y rfl dL_law_737 rfl ⟨(Nat.le_of_ble_eq_true rfl), (Nat.le_of_ble_eq_true rfl)⟩ (fun v229 w230 hp228 H locs hP hD hS => ?_)
      subst hp228
      refine W.eq (g2 := F0 m 740 ls [.int (-1), .int (-1)]) rfl (W.widen (k := 250) (n := 12629) (Nat.le_of_ble_eq_true rfl) (Nat.le_of_ble_eq_true rfl) ?_)
      refine lv_icmp_eq (tgt := 958) hx hb dL_law_740 (by decide) (fun c_231 => ?_) (fun c_231 => absurd (show (-1 : Int32) = (-1 : Int32) by decide) c_231)
      refine lv_iinc (v := 7) (lv' := [(3, .int 7), (2, .ref q9), (1, .ref q1), (0, .ref b)]) hx hb dL_law_958 hl (k := 0) rfl (by decide) (by decide) rfl (fun ls hl => ?_)
      refine lv_goto (tgt := 18) hx hb dL_law_961 (by decide) ?_
      refine lv_iload_n hx hb dL_law_18 rfl (lv_at hl 0 rfl) ?_
      refine lv_aload_n hx hb dL_law_19 rfl (lv_at hl 3 rfl) ?_
      refine va_slen hx hb hX hbl hbA hS dL_law_20 ?_
      rw [show Int32.ofNat L = 7 from by rw [hL7]; rfl]
      refine lv_bipush (v := 7) hx hb dL_law_21 (by decide) ?_
      refine lv_isub hx hb dL_law_23 ?_
      rw [show (7 - 7 : Int32) = 0 from by decide]
      refine lv_icmp_gt (tgt := 964) hx hb dL_law_24 (by decide) (fun c_232 => ?_) (fun c_232 => absurd (show (0 : Int32) < (7 : Int32) by decide) c_232)
      refine lv_iconst (v := 1) hx hb dL_law_964 (by decide) ?_
      refine va_forget (fun q hq => hS.2.2 q hq) ?_
      refine W.widen (k := 600000) (n := 7302250) (Nat.le_of_ble_eq_true rfl) (Nat.le_of_ble_eq_true rfl) ?_
      exact lw_ret hx hb hr hlocks dL_law_965
    by_cases c_233 : sw = 15
    · refine lv_tableIn (off := 712) (tgt := 745) hx hb dL_law_33 (by rw [c_233]; decide) (by rw [c_233]; decide) (by rw [c_233]; decide) (by decide) ?_
      refine lv_aload_n hx hb dL_law_745 rfl (lv_at hl 2 rfl) ?_
      refine lv_aload_n hx hb dL_law_746 rfl (lv_at hl 3 rfl) ?_
      refine lv_iload_n hx hb dL_law_747 rfl (lv_at hl 0 rfl) ?_
      refine lv_iconst (v := 1) hx hb dL_law_748 (by decide) ?_
      refine lv_iadd hx hb dL_law_749 ?_
      rw [show (0 + 1 : Int32) = 1 from by decide]
      refine va_sld hx hb hX hbl hbA hS (by rw [hL7]; exact vp_in_iff.mpr ⟨by decide, by decide⟩) dL_law_750 ?_
      refine lv_aload_n hx hb dL_law_751 rfl (lv_at hl 3 rfl) ?_
      refine lv_iload_n hx hb dL_law_752 rfl (lv_at hl 0 rfl) ?_
      refine lv_iconst (v := 2) hx hb dL_law_753 (by decide) ?_
      refine lv_iadd hx hb dL_law_754 ?_
      rw [show (0 + 2 : Int32) = 2 from by decide]
      refine va_sld hx hb hX hbl hbA hS (by rw [hL7]; exact vp_in_iff.mpr ⟨by decide, by decide⟩) dL_law_755 ?_
      refine x_callV (n := 2) (As := [.int (xs (1 : Int32).toNatClampNeg), .int (xs (2 : Int32).toNatClampNeg)]) (rest := []) F hP hD hS (c_X10_paper l D cy w17 q1 a0 a1 a2 a3 a4 a5 a6 a7 a8 a9 a10 a11 (xs (1 : Int32).toNatClampNeg) (xs (2 : Int32).toNatClampNeg) p_x ) gT_X10_paper rfl rfl (by decide +kernel) ⟨(Nat.le_of_ble_eq_true rfl), (Nat.le_of_ble_eq_true rfl)⟩ rfl hl.1 (Nat.le_of_ble_eq_true rfl) p_x rfl dL_law_756 rfl ⟨(Nat.le_of_ble_eq_true rfl), (Nat.le_of_ble_eq_true rfl)⟩ (fun v235 w236 hp234 H locs hP hD hS => ?_)
      obtain ⟨rfl, rfl⟩ := hp234
      refine W.eq (g2 := F0 m 759 ls [.int (-1)]) rfl (W.widen (k := 250) (n := 12629) (Nat.le_of_ble_eq_true rfl) (Nat.le_of_ble_eq_true rfl) ?_)
      refine lv_aload_n hx hb dL_law_759 rfl (lv_at hl 1 rfl) ?_
      refine lv_aload_n hx hb dL_law_760 rfl (lv_at hl 3 rfl) ?_
      refine lv_iload_n hx hb dL_law_761 rfl (lv_at hl 0 rfl) ?_
      refine lv_iconst (v := 1) hx hb dL_law_762 (by decide) ?_
      refine lv_iadd hx hb dL_law_763 ?_
      rw [show (0 + 1 : Int32) = 1 from by decide]
      refine va_sld hx hb hX hbl hbA hS (by rw [hL7]; exact vp_in_iff.mpr ⟨by decide, by decide⟩) dL_law_764 ?_
      refine lv_aload_n hx hb dL_law_765 rfl (lv_at hl 3 rfl) ?_
      refine lv_iload_n hx hb dL_law_766 rfl (lv_at hl 0 rfl) ?_
      refine lv_iconst (v := 2) hx hb dL_law_767 (by decide) ?_
      refine lv_iadd hx hb dL_law_768 ?_
      rw [show (0 + 2 : Int32) = 2 from by decide]
      refine va_sld hx hb hX hbl hbA hS (by rw [hL7]; exact vp_in_iff.mpr ⟨by decide, by decide⟩) dL_law_769 ?_
      refine x_callV (n := 2) (As := [.int (xs (1 : Int32).toNatClampNeg), .int (xs (2 : Int32).toNatClampNeg)]) (rest := [.int (-1)]) F hP hD hS (c_X11_paper l D cy w17 q9 m2 m3 m4 m5 m6 m8 m9 m10 m11 m12 m13 m14 m17 m18 m19 m20 m21 m22 m23 m24 m29 m30 m31 m32 m33 m34 m35 m36 m37 m39 m40 m41 m42 m43 m44 m45 m46 m47 m48 m49 m51 m52 m53 m54 m56 m57 m58 m59 (xs (1 : Int32).toNatClampNeg) (xs (2 : Int32).toNatClampNeg) q_y ) gT_X11_paper rfl rfl (by decide +kernel) ⟨(Nat.le_of_ble_eq_true rfl), (Nat.le_of_ble_eq_true rfl)⟩ rfl hl.1 (Nat.le_of_ble_eq_true rfl) q_y rfl dL_law_770 rfl ⟨(Nat.le_of_ble_eq_true rfl), (Nat.le_of_ble_eq_true rfl)⟩ (fun v238 w239 hp237 H locs hP hD hS => ?_)
      subst hp237
      refine W.eq (g2 := F0 m 773 ls [.int (-1), .int (-1)]) rfl (W.widen (k := 250) (n := 12629) (Nat.le_of_ble_eq_true rfl) (Nat.le_of_ble_eq_true rfl) ?_)
      refine lv_icmp_eq (tgt := 958) hx hb dL_law_773 (by decide) (fun c_240 => ?_) (fun c_240 => absurd (show (-1 : Int32) = (-1 : Int32) by decide) c_240)
      refine lv_iinc (v := 7) (lv' := [(3, .int 7), (2, .ref q9), (1, .ref q1), (0, .ref b)]) hx hb dL_law_958 hl (k := 0) rfl (by decide) (by decide) rfl (fun ls hl => ?_)
      refine lv_goto (tgt := 18) hx hb dL_law_961 (by decide) ?_
      refine lv_iload_n hx hb dL_law_18 rfl (lv_at hl 0 rfl) ?_
      refine lv_aload_n hx hb dL_law_19 rfl (lv_at hl 3 rfl) ?_
      refine va_slen hx hb hX hbl hbA hS dL_law_20 ?_
      rw [show Int32.ofNat L = 7 from by rw [hL7]; rfl]
      refine lv_bipush (v := 7) hx hb dL_law_21 (by decide) ?_
      refine lv_isub hx hb dL_law_23 ?_
      rw [show (7 - 7 : Int32) = 0 from by decide]
      refine lv_icmp_gt (tgt := 964) hx hb dL_law_24 (by decide) (fun c_241 => ?_) (fun c_241 => absurd (show (0 : Int32) < (7 : Int32) by decide) c_241)
      refine lv_iconst (v := 1) hx hb dL_law_964 (by decide) ?_
      refine va_forget (fun q hq => hS.2.2 q hq) ?_
      refine W.widen (k := 600000) (n := 7302250) (Nat.le_of_ble_eq_true rfl) (Nat.le_of_ble_eq_true rfl) ?_
      exact lw_ret hx hb hr hlocks dL_law_965
    by_cases c_242 : sw = 16
    · refine lv_tableIn (off := 745) (tgt := 778) hx hb dL_law_33 (by rw [c_242]; decide) (by rw [c_242]; decide) (by rw [c_242]; decide) (by decide) ?_
      refine lv_aload_n hx hb dL_law_778 rfl (lv_at hl 2 rfl) ?_
      refine lv_aload_n hx hb dL_law_779 rfl (lv_at hl 3 rfl) ?_
      refine lv_iload_n hx hb dL_law_780 rfl (lv_at hl 0 rfl) ?_
      refine lv_iconst (v := 1) hx hb dL_law_781 (by decide) ?_
      refine lv_iadd hx hb dL_law_782 ?_
      rw [show (0 + 1 : Int32) = 1 from by decide]
      refine va_sld hx hb hX hbl hbA hS (by rw [hL7]; exact vp_in_iff.mpr ⟨by decide, by decide⟩) dL_law_783 ?_
      refine lv_aload_n hx hb dL_law_784 rfl (lv_at hl 3 rfl) ?_
      refine lv_iload_n hx hb dL_law_785 rfl (lv_at hl 0 rfl) ?_
      refine lv_iconst (v := 2) hx hb dL_law_786 (by decide) ?_
      refine lv_iadd hx hb dL_law_787 ?_
      rw [show (0 + 2 : Int32) = 2 from by decide]
      refine va_sld hx hb hX hbl hbA hS (by rw [hL7]; exact vp_in_iff.mpr ⟨by decide, by decide⟩) dL_law_788 ?_
      refine lv_aload_n hx hb dL_law_789 rfl (lv_at hl 3 rfl) ?_
      refine lv_iload_n hx hb dL_law_790 rfl (lv_at hl 0 rfl) ?_
      refine lv_iconst (v := 3) hx hb dL_law_791 (by decide) ?_
      refine lv_iadd hx hb dL_law_792 ?_
      rw [show (0 + 3 : Int32) = 3 from by decide]
      refine va_sld hx hb hX hbl hbA hS (by rw [hL7]; exact vp_in_iff.mpr ⟨by decide, by decide⟩) dL_law_793 ?_
      refine x_callV (n := 3) (As := [.int (xs (1 : Int32).toNatClampNeg), .int (xs (2 : Int32).toNatClampNeg), .int (xs (3 : Int32).toNatClampNeg)]) (rest := []) F hP hD hS (c_X10_comes l D cy w17 q1 a0 a1 a2 a3 a4 a5 a6 a7 a8 a9 a10 a11 (xs (1 : Int32).toNatClampNeg) (xs (2 : Int32).toNatClampNeg) (xs (3 : Int32).toNatClampNeg) p_x ) gT_X10_comes rfl rfl (by decide +kernel) ⟨(Nat.le_of_ble_eq_true rfl), (Nat.le_of_ble_eq_true rfl)⟩ rfl hl.1 (Nat.le_of_ble_eq_true rfl) p_x rfl dL_law_794 rfl ⟨(Nat.le_of_ble_eq_true rfl), (Nat.le_of_ble_eq_true rfl)⟩ (fun v244 w245 hp243 H locs hP hD hS => ?_)
      obtain ⟨rfl, rfl⟩ := hp243
      refine W.eq (g2 := F0 m 797 ls [.int (-1)]) rfl (W.widen (k := 250) (n := 12629) (Nat.le_of_ble_eq_true rfl) (Nat.le_of_ble_eq_true rfl) ?_)
      refine lv_aload_n hx hb dL_law_797 rfl (lv_at hl 1 rfl) ?_
      refine lv_aload_n hx hb dL_law_798 rfl (lv_at hl 3 rfl) ?_
      refine lv_iload_n hx hb dL_law_799 rfl (lv_at hl 0 rfl) ?_
      refine lv_iconst (v := 1) hx hb dL_law_800 (by decide) ?_
      refine lv_iadd hx hb dL_law_801 ?_
      rw [show (0 + 1 : Int32) = 1 from by decide]
      refine va_sld hx hb hX hbl hbA hS (by rw [hL7]; exact vp_in_iff.mpr ⟨by decide, by decide⟩) dL_law_802 ?_
      refine lv_aload_n hx hb dL_law_803 rfl (lv_at hl 3 rfl) ?_
      refine lv_iload_n hx hb dL_law_804 rfl (lv_at hl 0 rfl) ?_
      refine lv_iconst (v := 2) hx hb dL_law_805 (by decide) ?_
      refine lv_iadd hx hb dL_law_806 ?_
      rw [show (0 + 2 : Int32) = 2 from by decide]
      refine va_sld hx hb hX hbl hbA hS (by rw [hL7]; exact vp_in_iff.mpr ⟨by decide, by decide⟩) dL_law_807 ?_
      refine lv_aload_n hx hb dL_law_808 rfl (lv_at hl 3 rfl) ?_
      refine lv_iload_n hx hb dL_law_809 rfl (lv_at hl 0 rfl) ?_
      refine lv_iconst (v := 3) hx hb dL_law_810 (by decide) ?_
      refine lv_iadd hx hb dL_law_811 ?_
      rw [show (0 + 3 : Int32) = 3 from by decide]
      refine va_sld hx hb hX hbl hbA hS (by rw [hL7]; exact vp_in_iff.mpr ⟨by decide, by decide⟩) dL_law_812 ?_
      refine x_callV (n := 3) (As := [.int (xs (1 : Int32).toNatClampNeg), .int (xs (2 : Int32).toNatClampNeg), .int (xs (3 : Int32).toNatClampNeg)]) (rest := [.int (-1)]) F hP hD hS (c_X11_comes l D cy w17 q9 m2 m3 m4 m5 m6 m8 m9 m10 m11 m12 m13 m14 m17 m18 m19 m20 m21 m22 m23 m24 m29 m30 m31 m32 m33 m34 m35 m36 m37 m39 m40 m41 m42 m43 m44 m45 m46 m47 m48 m49 m51 m52 m53 m54 m56 m57 m58 m59 (xs (1 : Int32).toNatClampNeg) (xs (2 : Int32).toNatClampNeg) (xs (3 : Int32).toNatClampNeg) q_y ) gT_X11_comes rfl rfl (by decide +kernel) ⟨(Nat.le_of_ble_eq_true rfl), (Nat.le_of_ble_eq_true rfl)⟩ rfl hl.1 (Nat.le_of_ble_eq_true rfl) q_y rfl dL_law_813 rfl ⟨(Nat.le_of_ble_eq_true rfl), (Nat.le_of_ble_eq_true rfl)⟩ (fun v247 w248 hp246 H locs hP hD hS => ?_)
      subst hp246
      refine W.eq (g2 := F0 m 816 ls [.int (-1), .int (-1)]) rfl (W.widen (k := 250) (n := 12629) (Nat.le_of_ble_eq_true rfl) (Nat.le_of_ble_eq_true rfl) ?_)
      refine lv_icmp_eq (tgt := 958) hx hb dL_law_816 (by decide) (fun c_249 => ?_) (fun c_249 => absurd (show (-1 : Int32) = (-1 : Int32) by decide) c_249)
      refine lv_iinc (v := 7) (lv' := [(3, .int 7), (2, .ref q9), (1, .ref q1), (0, .ref b)]) hx hb dL_law_958 hl (k := 0) rfl (by decide) (by decide) rfl (fun ls hl => ?_)
      refine lv_goto (tgt := 18) hx hb dL_law_961 (by decide) ?_
      refine lv_iload_n hx hb dL_law_18 rfl (lv_at hl 0 rfl) ?_
      refine lv_aload_n hx hb dL_law_19 rfl (lv_at hl 3 rfl) ?_
      refine va_slen hx hb hX hbl hbA hS dL_law_20 ?_
      rw [show Int32.ofNat L = 7 from by rw [hL7]; rfl]
      refine lv_bipush (v := 7) hx hb dL_law_21 (by decide) ?_
      refine lv_isub hx hb dL_law_23 ?_
      rw [show (7 - 7 : Int32) = 0 from by decide]
      refine lv_icmp_gt (tgt := 964) hx hb dL_law_24 (by decide) (fun c_250 => ?_) (fun c_250 => absurd (show (0 : Int32) < (7 : Int32) by decide) c_250)
      refine lv_iconst (v := 1) hx hb dL_law_964 (by decide) ?_
      refine va_forget (fun q hq => hS.2.2 q hq) ?_
      refine W.widen (k := 600000) (n := 7302250) (Nat.le_of_ble_eq_true rfl) (Nat.le_of_ble_eq_true rfl) ?_
      exact lw_ret hx hb hr hlocks dL_law_965
    by_cases c_251 : sw = 17
    · refine lv_tableIn (off := 788) (tgt := 821) hx hb dL_law_33 (by rw [c_251]; decide) (by rw [c_251]; decide) (by rw [c_251]; decide) (by decide) ?_
      refine lv_aload_n hx hb dL_law_821 rfl (lv_at hl 2 rfl) ?_
      refine lv_aload_n hx hb dL_law_822 rfl (lv_at hl 3 rfl) ?_
      refine lv_iload_n hx hb dL_law_823 rfl (lv_at hl 0 rfl) ?_
      refine lv_iconst (v := 1) hx hb dL_law_824 (by decide) ?_
      refine lv_iadd hx hb dL_law_825 ?_
      rw [show (0 + 1 : Int32) = 1 from by decide]
      refine va_sld hx hb hX hbl hbA hS (by rw [hL7]; exact vp_in_iff.mpr ⟨by decide, by decide⟩) dL_law_826 ?_
      refine x_callV (n := 1) (As := [.int (xs (1 : Int32).toNatClampNeg)]) (rest := []) F hP hD hS (c_X10_settle l D cy w17 q1 a0 a1 a2 a3 a4 a5 a6 a7 a8 a9 a10 a11 l0 l1 l2 l3 l4 l5 l6 l7 tf tn ag 0 0 sg (fun _ => 0) (fun _ => 0) (xs (1 : Int32).toNatClampNeg) p_x p_a1 p_a7 p_l0 p_l2 p_l3 (fun i hi => ⟨(p_TW i hi).1, (p_TW i hi).2.1⟩) (fun b => b ∈ w8.1) o_a7.1 o_l0.1 o_l2.1 o_l3.1 o_n23) gT_X10_settle rfl rfl (by decide +kernel) ⟨(Nat.le_of_ble_eq_true rfl), (Nat.le_of_ble_eq_true rfl)⟩ rfl hl.1 (Nat.le_of_ble_eq_true rfl) p_x rfl dL_law_827 rfl ⟨(Nat.le_of_ble_eq_true rfl), (Nat.le_of_ble_eq_true rfl)⟩ (fun v253 w254 hp252 H locs hP hD hS => ?_)
      obtain ⟨rfl, hp252⟩ := hp252
      have k255 := hp252.2 _ _ q_y ny
      have k256 := hp252.2 _ _ q_m4 nx4
      have k257 := hp252.2 _ _ q_m49 nx49
      have k258 := hp252.2 _ _ q_m51 nx51
      have k259 := hp252.2 _ _ q_m53 nx53
      have k260 := hp252.2 _ _ q_m54 nx54
      refine W.eq (g2 := F0 m 830 ls [.int (sp_settle (xs (1 : Int32).toNatClampNeg))]) rfl (W.widen (k := 250) (n := 12629) (Nat.le_of_ble_eq_true rfl) (Nat.le_of_ble_eq_true rfl) ?_)
      refine lv_aload_n hx hb dL_law_830 rfl (lv_at hl 1 rfl) ?_
      refine lv_aload_n hx hb dL_law_831 rfl (lv_at hl 3 rfl) ?_
      refine lv_iload_n hx hb dL_law_832 rfl (lv_at hl 0 rfl) ?_
      refine lv_iconst (v := 1) hx hb dL_law_833 (by decide) ?_
      refine lv_iadd hx hb dL_law_834 ?_
      rw [show (0 + 1 : Int32) = 1 from by decide]
      refine va_sld hx hb hX hbl hbA hS (by rw [hL7]; exact vp_in_iff.mpr ⟨by decide, by decide⟩) dL_law_835 ?_
      refine x_callV (n := 1) (As := [.int (xs (1 : Int32).toNatClampNeg)]) (rest := [.int (sp_settle (xs (1 : Int32).toNatClampNeg))]) F hP hD hS (c_X11_settle l D cy w254 q9 m2 m3 m4 m5 m6 m8 m9 m10 m11 m12 m13 m14 m17 m18 m19 m20 m21 m22 m23 m24 m29 m30 m31 m32 m33 m34 m35 m36 m37 m39 m40 m41 m42 m43 m44 m45 m46 m47 m48 m49 m51 m52 m53 m54 m56 m57 m58 m59 (fun _ => 0) (fun _ => 0) (fun _ => 0) (fun _ => 0) (xs (1 : Int32).toNatClampNeg) k255 k256 k257 k258 k259 k260 n53x54) gT_X11_settle rfl rfl (by decide +kernel) ⟨(Nat.le_of_ble_eq_true rfl), (Nat.le_of_ble_eq_true rfl)⟩ rfl hl.1 (Nat.le_of_ble_eq_true rfl) k255 rfl dL_law_836 rfl ⟨(Nat.le_of_ble_eq_true rfl), (Nat.le_of_ble_eq_true rfl)⟩ (fun v262 w263 hp261 H locs hP hD hS => ?_)
      subst hp261
      refine W.eq (g2 := F0 m 839 ls [.int (sp_settle (xs (1 : Int32).toNatClampNeg)), .int (sp_settle (xs (1 : Int32).toNatClampNeg))]) rfl (W.widen (k := 250) (n := 12629) (Nat.le_of_ble_eq_true rfl) (Nat.le_of_ble_eq_true rfl) ?_)
      refine lv_icmp_eq (tgt := 958) hx hb dL_law_839 (by decide) (fun c_264 => ?_) (fun c_264 => absurd rfl c_264)
      refine lv_iinc (v := 7) (lv' := [(3, .int 7), (2, .ref q9), (1, .ref q1), (0, .ref b)]) hx hb dL_law_958 hl (k := 0) rfl (by decide) (by decide) rfl (fun ls hl => ?_)
      refine lv_goto (tgt := 18) hx hb dL_law_961 (by decide) ?_
      refine lv_iload_n hx hb dL_law_18 rfl (lv_at hl 0 rfl) ?_
      refine lv_aload_n hx hb dL_law_19 rfl (lv_at hl 3 rfl) ?_
      refine va_slen hx hb hX hbl hbA hS dL_law_20 ?_
      rw [show Int32.ofNat L = 7 from by rw [hL7]; rfl]
      refine lv_bipush (v := 7) hx hb dL_law_21 (by decide) ?_
      refine lv_isub hx hb dL_law_23 ?_
      rw [show (7 - 7 : Int32) = 0 from by decide]
      refine lv_icmp_gt (tgt := 964) hx hb dL_law_24 (by decide) (fun c_265 => ?_) (fun c_265 => absurd (show (0 : Int32) < (7 : Int32) by decide) c_265)
      refine lv_iconst (v := 1) hx hb dL_law_964 (by decide) ?_
      refine va_forget (fun q hq => hS.2.2 q hq) ?_
      refine W.widen (k := 600000) (n := 7302250) (Nat.le_of_ble_eq_true rfl) (Nat.le_of_ble_eq_true rfl) ?_
      exact lw_ret hx hb hr hlocks dL_law_965
    by_cases c_266 : sw = 18
    · refine lv_tableIn (off := 811) (tgt := 844) hx hb dL_law_33 (by rw [c_266]; decide) (by rw [c_266]; decide) (by rw [c_266]; decide) (by decide) ?_
      refine lv_aload_n hx hb dL_law_844 rfl (lv_at hl 2 rfl) ?_
      refine lv_aload_n hx hb dL_law_845 rfl (lv_at hl 3 rfl) ?_
      refine lv_iload_n hx hb dL_law_846 rfl (lv_at hl 0 rfl) ?_
      refine lv_iconst (v := 1) hx hb dL_law_847 (by decide) ?_
      refine lv_iadd hx hb dL_law_848 ?_
      rw [show (0 + 1 : Int32) = 1 from by decide]
      refine va_sld hx hb hX hbl hbA hS (by rw [hL7]; exact vp_in_iff.mpr ⟨by decide, by decide⟩) dL_law_849 ?_
      refine lv_aload_n hx hb dL_law_850 rfl (lv_at hl 3 rfl) ?_
      refine lv_iload_n hx hb dL_law_851 rfl (lv_at hl 0 rfl) ?_
      refine lv_iconst (v := 2) hx hb dL_law_852 (by decide) ?_
      refine lv_iadd hx hb dL_law_853 ?_
      rw [show (0 + 2 : Int32) = 2 from by decide]
      refine va_sld hx hb hX hbl hbA hS (by rw [hL7]; exact vp_in_iff.mpr ⟨by decide, by decide⟩) dL_law_854 ?_
      refine x_callV (n := 2) (As := [.int (xs (1 : Int32).toNatClampNeg), .int (xs (2 : Int32).toNatClampNeg)]) (rest := []) F hP hD hS (c_X10_settled l D cy w17 q1 a0 a1 a2 a3 a4 a5 a6 a7 a8 a9 a10 a11 l0 l1 l2 l3 l4 l5 l6 l7 sg (xs (1 : Int32).toNatClampNeg) (xs (2 : Int32).toNatClampNeg) p_x p_a7 p_l0 o_hsg) gT_X10_settled rfl rfl (by decide +kernel) ⟨(Nat.le_of_ble_eq_true rfl), (Nat.le_of_ble_eq_true rfl)⟩ rfl hl.1 (Nat.le_of_ble_eq_true rfl) p_x rfl dL_law_855 rfl ⟨(Nat.le_of_ble_eq_true rfl), (Nat.le_of_ble_eq_true rfl)⟩ (fun v268 w269 hp267 H locs hP hD hS => ?_)
      obtain ⟨rfl, rfl⟩ := hp267
      refine W.eq (g2 := F0 m 858 ls [.int (-1)]) rfl (W.widen (k := 250) (n := 12629) (Nat.le_of_ble_eq_true rfl) (Nat.le_of_ble_eq_true rfl) ?_)
      refine lv_aload_n hx hb dL_law_858 rfl (lv_at hl 1 rfl) ?_
      refine lv_aload_n hx hb dL_law_859 rfl (lv_at hl 3 rfl) ?_
      refine lv_iload_n hx hb dL_law_860 rfl (lv_at hl 0 rfl) ?_
      refine lv_iconst (v := 1) hx hb dL_law_861 (by decide) ?_
      refine lv_iadd hx hb dL_law_862 ?_
      rw [show (0 + 1 : Int32) = 1 from by decide]
      refine va_sld hx hb hX hbl hbA hS (by rw [hL7]; exact vp_in_iff.mpr ⟨by decide, by decide⟩) dL_law_863 ?_
      refine lv_aload_n hx hb dL_law_864 rfl (lv_at hl 3 rfl) ?_
      refine lv_iload_n hx hb dL_law_865 rfl (lv_at hl 0 rfl) ?_
      refine lv_iconst (v := 2) hx hb dL_law_866 (by decide) ?_
      refine lv_iadd hx hb dL_law_867 ?_
      rw [show (0 + 2 : Int32) = 2 from by decide]
      refine va_sld hx hb hX hbl hbA hS (by rw [hL7]; exact vp_in_iff.mpr ⟨by decide, by decide⟩) dL_law_868 ?_
      refine x_callV (n := 2) (As := [.int (xs (1 : Int32).toNatClampNeg), .int (xs (2 : Int32).toNatClampNeg)]) (rest := [.int (-1)]) F hP hD hS (c_X11_settled l D cy w17 q9 m2 m3 m4 m5 m6 m8 m9 m10 m11 m12 m13 m14 m17 m18 m19 m20 m21 m22 m23 m24 m29 m30 m31 m32 m33 m34 m35 m36 m37 m39 m40 m41 m42 m43 m44 m45 m46 m47 m48 m49 m51 m52 m53 m54 m56 m57 m58 m59 (xs (1 : Int32).toNatClampNeg) (xs (2 : Int32).toNatClampNeg) q_y ) gT_X11_settled rfl rfl (by decide +kernel) ⟨(Nat.le_of_ble_eq_true rfl), (Nat.le_of_ble_eq_true rfl)⟩ rfl hl.1 (Nat.le_of_ble_eq_true rfl) q_y rfl dL_law_869 rfl ⟨(Nat.le_of_ble_eq_true rfl), (Nat.le_of_ble_eq_true rfl)⟩ (fun v271 w272 hp270 H locs hP hD hS => ?_)
      subst hp270
      refine W.eq (g2 := F0 m 872 ls [.int (-1), .int (-1)]) rfl (W.widen (k := 250) (n := 12629) (Nat.le_of_ble_eq_true rfl) (Nat.le_of_ble_eq_true rfl) ?_)
      refine lv_icmp_eq (tgt := 958) hx hb dL_law_872 (by decide) (fun c_273 => ?_) (fun c_273 => absurd (show (-1 : Int32) = (-1 : Int32) by decide) c_273)
      refine lv_iinc (v := 7) (lv' := [(3, .int 7), (2, .ref q9), (1, .ref q1), (0, .ref b)]) hx hb dL_law_958 hl (k := 0) rfl (by decide) (by decide) rfl (fun ls hl => ?_)
      refine lv_goto (tgt := 18) hx hb dL_law_961 (by decide) ?_
      refine lv_iload_n hx hb dL_law_18 rfl (lv_at hl 0 rfl) ?_
      refine lv_aload_n hx hb dL_law_19 rfl (lv_at hl 3 rfl) ?_
      refine va_slen hx hb hX hbl hbA hS dL_law_20 ?_
      rw [show Int32.ofNat L = 7 from by rw [hL7]; rfl]
      refine lv_bipush (v := 7) hx hb dL_law_21 (by decide) ?_
      refine lv_isub hx hb dL_law_23 ?_
      rw [show (7 - 7 : Int32) = 0 from by decide]
      refine lv_icmp_gt (tgt := 964) hx hb dL_law_24 (by decide) (fun c_274 => ?_) (fun c_274 => absurd (show (0 : Int32) < (7 : Int32) by decide) c_274)
      refine lv_iconst (v := 1) hx hb dL_law_964 (by decide) ?_
      refine va_forget (fun q hq => hS.2.2 q hq) ?_
      refine W.widen (k := 600000) (n := 7302250) (Nat.le_of_ble_eq_true rfl) (Nat.le_of_ble_eq_true rfl) ?_
      exact lw_ret hx hb hr hlocks dL_law_965
    by_cases c_275 : sw = 19
    · refine lv_tableIn (off := 844) (tgt := 877) hx hb dL_law_33 (by rw [c_275]; decide) (by rw [c_275]; decide) (by rw [c_275]; decide) (by decide) ?_
      refine lv_aload_n hx hb dL_law_877 rfl (lv_at hl 2 rfl) ?_
      refine lv_aload_n hx hb dL_law_878 rfl (lv_at hl 3 rfl) ?_
      refine lv_iload_n hx hb dL_law_879 rfl (lv_at hl 0 rfl) ?_
      refine lv_iconst (v := 1) hx hb dL_law_880 (by decide) ?_
      refine lv_iadd hx hb dL_law_881 ?_
      rw [show (0 + 1 : Int32) = 1 from by decide]
      refine va_sld hx hb hX hbl hbA hS (by rw [hL7]; exact vp_in_iff.mpr ⟨by decide, by decide⟩) dL_law_882 ?_
      refine x_callV (n := 1) (As := [.int (xs (1 : Int32).toNatClampNeg)]) (rest := []) F hP hD hS (c_X10_due l D cy w17 q1 a0 a1 a2 a3 a4 a5 a6 a7 a8 a9 a10 a11 l0 l1 l2 l3 l4 l5 l6 l7 (fun _ => 0) (xs (1 : Int32).toNatClampNeg) p_x p_a7 p_l2 (fun _ _ => rfl)) gT_X10_due rfl rfl (by decide +kernel) ⟨(Nat.le_of_ble_eq_true rfl), (Nat.le_of_ble_eq_true rfl)⟩ rfl hl.1 (Nat.le_of_ble_eq_true rfl) p_x rfl dL_law_883 rfl ⟨(Nat.le_of_ble_eq_true rfl), (Nat.le_of_ble_eq_true rfl)⟩ (fun v277 w278 hp276 H locs hP hD hS => ?_)
      obtain ⟨rfl, rfl⟩ := hp276
      refine W.eq (g2 := F0 m 886 ls [.long 0]) rfl (W.widen (k := 250) (n := 12629) (Nat.le_of_ble_eq_true rfl) (Nat.le_of_ble_eq_true rfl) ?_)
      refine lv_aload_n hx hb dL_law_886 rfl (lv_at hl 1 rfl) ?_
      refine lv_aload_n hx hb dL_law_887 rfl (lv_at hl 3 rfl) ?_
      refine lv_iload_n hx hb dL_law_888 rfl (lv_at hl 0 rfl) ?_
      refine lv_iconst (v := 1) hx hb dL_law_889 (by decide) ?_
      refine lv_iadd hx hb dL_law_890 ?_
      rw [show (0 + 1 : Int32) = 1 from by decide]
      refine va_sld hx hb hX hbl hbA hS (by rw [hL7]; exact vp_in_iff.mpr ⟨by decide, by decide⟩) dL_law_891 ?_
      refine x_callV (n := 1) (As := [.int (xs (1 : Int32).toNatClampNeg)]) (rest := [.long 0]) F hP hD hS (c_X11_due l D cy w17 q9 m2 m3 m4 m5 m6 m8 m9 m10 m11 m12 m13 m14 m17 m18 m19 m20 m21 m22 m23 m24 m29 m30 m31 m32 m33 m34 m35 m36 m37 m39 m40 m41 m42 m43 m44 m45 m46 m47 m48 m49 m51 m52 m53 m54 m56 m57 m58 m59 (xs (1 : Int32).toNatClampNeg) q_y ) gT_X11_due rfl rfl (by decide +kernel) ⟨(Nat.le_of_ble_eq_true rfl), (Nat.le_of_ble_eq_true rfl)⟩ rfl hl.1 (Nat.le_of_ble_eq_true rfl) q_y rfl dL_law_892 rfl ⟨(Nat.le_of_ble_eq_true rfl), (Nat.le_of_ble_eq_true rfl)⟩ (fun v280 w281 hp279 H locs hP hD hS => ?_)
      subst hp279
      refine W.eq (g2 := F0 m 895 ls [.long 0, .long 0]) rfl (W.widen (k := 250) (n := 12629) (Nat.le_of_ble_eq_true rfl) (Nat.le_of_ble_eq_true rfl) ?_)
      refine W.lcmp hx hb dL_law_895 ?_
      rw [show lg_cmp 0 0 = 0 from by decide]
      refine lv_if_eq (tgt := 958) hx hb dL_law_896 (by decide) (fun c_282 => ?_) (fun c_282 => absurd (show (0 : Int32) = (0 : Int32) by decide) c_282)
      refine lv_iinc (v := 7) (lv' := [(3, .int 7), (2, .ref q9), (1, .ref q1), (0, .ref b)]) hx hb dL_law_958 hl (k := 0) rfl (by decide) (by decide) rfl (fun ls hl => ?_)
      refine lv_goto (tgt := 18) hx hb dL_law_961 (by decide) ?_
      refine lv_iload_n hx hb dL_law_18 rfl (lv_at hl 0 rfl) ?_
      refine lv_aload_n hx hb dL_law_19 rfl (lv_at hl 3 rfl) ?_
      refine va_slen hx hb hX hbl hbA hS dL_law_20 ?_
      rw [show Int32.ofNat L = 7 from by rw [hL7]; rfl]
      refine lv_bipush (v := 7) hx hb dL_law_21 (by decide) ?_
      refine lv_isub hx hb dL_law_23 ?_
      rw [show (7 - 7 : Int32) = 0 from by decide]
      refine lv_icmp_gt (tgt := 964) hx hb dL_law_24 (by decide) (fun c_283 => ?_) (fun c_283 => absurd (show (0 : Int32) < (7 : Int32) by decide) c_283)
      refine lv_iconst (v := 1) hx hb dL_law_964 (by decide) ?_
      refine va_forget (fun q hq => hS.2.2 q hq) ?_
      refine W.widen (k := 600000) (n := 7302250) (Nat.le_of_ble_eq_true rfl) (Nat.le_of_ble_eq_true rfl) ?_
      exact lw_ret hx hb hr hlocks dL_law_965
    by_cases c_284 : sw = 20
    · refine lv_tableIn (off := 868) (tgt := 901) hx hb dL_law_33 (by rw [c_284]; decide) (by rw [c_284]; decide) (by rw [c_284]; decide) (by decide) ?_
      refine lv_aload_n hx hb dL_law_901 rfl (lv_at hl 2 rfl) ?_
      refine lv_aload_n hx hb dL_law_902 rfl (lv_at hl 3 rfl) ?_
      refine lv_iload_n hx hb dL_law_903 rfl (lv_at hl 0 rfl) ?_
      refine lv_iconst (v := 1) hx hb dL_law_904 (by decide) ?_
      refine lv_iadd hx hb dL_law_905 ?_
      rw [show (0 + 1 : Int32) = 1 from by decide]
      refine va_sld hx hb hX hbl hbA hS (by rw [hL7]; exact vp_in_iff.mpr ⟨by decide, by decide⟩) dL_law_906 ?_
      refine lv_aload_n hx hb dL_law_907 rfl (lv_at hl 3 rfl) ?_
      refine lv_iload_n hx hb dL_law_908 rfl (lv_at hl 0 rfl) ?_
      refine lv_iconst (v := 2) hx hb dL_law_909 (by decide) ?_
      refine lv_iadd hx hb dL_law_910 ?_
      rw [show (0 + 2 : Int32) = 2 from by decide]
      refine va_sld hx hb hX hbl hbA hS (by rw [hL7]; exact vp_in_iff.mpr ⟨by decide, by decide⟩) dL_law_911 ?_
      refine x_callV (n := 2) (As := [.int (xs (1 : Int32).toNatClampNeg), .int (xs (2 : Int32).toNatClampNeg)]) (rest := []) F hP hD hS (c_X10_netted l D cy w17 q1 a0 a1 a2 a3 a4 a5 a6 a7 a8 a9 a10 a11 l0 l1 l2 l3 l4 l5 l6 l7 (xs (1 : Int32).toNatClampNeg) (xs (2 : Int32).toNatClampNeg) p_x p_a7 ) gT_X10_netted rfl rfl (by decide +kernel) ⟨(Nat.le_of_ble_eq_true rfl), (Nat.le_of_ble_eq_true rfl)⟩ rfl hl.1 (Nat.le_of_ble_eq_true rfl) p_x rfl dL_law_912 rfl ⟨(Nat.le_of_ble_eq_true rfl), (Nat.le_of_ble_eq_true rfl)⟩ (fun v286 w287 hp285 H locs hP hD hS => ?_)
      obtain ⟨rfl, rfl⟩ := hp285
      refine W.eq (g2 := F0 m 915 ls [.long (-1)]) rfl (W.widen (k := 250) (n := 12629) (Nat.le_of_ble_eq_true rfl) (Nat.le_of_ble_eq_true rfl) ?_)
      refine lv_aload_n hx hb dL_law_915 rfl (lv_at hl 1 rfl) ?_
      refine lv_aload_n hx hb dL_law_916 rfl (lv_at hl 3 rfl) ?_
      refine lv_iload_n hx hb dL_law_917 rfl (lv_at hl 0 rfl) ?_
      refine lv_iconst (v := 1) hx hb dL_law_918 (by decide) ?_
      refine lv_iadd hx hb dL_law_919 ?_
      rw [show (0 + 1 : Int32) = 1 from by decide]
      refine va_sld hx hb hX hbl hbA hS (by rw [hL7]; exact vp_in_iff.mpr ⟨by decide, by decide⟩) dL_law_920 ?_
      refine lv_aload_n hx hb dL_law_921 rfl (lv_at hl 3 rfl) ?_
      refine lv_iload_n hx hb dL_law_922 rfl (lv_at hl 0 rfl) ?_
      refine lv_iconst (v := 2) hx hb dL_law_923 (by decide) ?_
      refine lv_iadd hx hb dL_law_924 ?_
      rw [show (0 + 2 : Int32) = 2 from by decide]
      refine va_sld hx hb hX hbl hbA hS (by rw [hL7]; exact vp_in_iff.mpr ⟨by decide, by decide⟩) dL_law_925 ?_
      refine x_callV (n := 2) (As := [.int (xs (1 : Int32).toNatClampNeg), .int (xs (2 : Int32).toNatClampNeg)]) (rest := [.long (-1)]) F hP hD hS (c_X11_netted l D cy w17 q9 m2 m3 m4 m5 m6 m8 m9 m10 m11 m12 m13 m14 m17 m18 m19 m20 m21 m22 m23 m24 m29 m30 m31 m32 m33 m34 m35 m36 m37 m39 m40 m41 m42 m43 m44 m45 m46 m47 m48 m49 m51 m52 m53 m54 m56 m57 m58 m59 (xs (1 : Int32).toNatClampNeg) (xs (2 : Int32).toNatClampNeg) q_y ) gT_X11_netted rfl rfl (by decide +kernel) ⟨(Nat.le_of_ble_eq_true rfl), (Nat.le_of_ble_eq_true rfl)⟩ rfl hl.1 (Nat.le_of_ble_eq_true rfl) q_y rfl dL_law_926 rfl ⟨(Nat.le_of_ble_eq_true rfl), (Nat.le_of_ble_eq_true rfl)⟩ (fun v289 w290 hp288 H locs hP hD hS => ?_)
      subst hp288
      refine W.eq (g2 := F0 m 929 ls [.long (-1), .long (-1)]) rfl (W.widen (k := 250) (n := 12629) (Nat.le_of_ble_eq_true rfl) (Nat.le_of_ble_eq_true rfl) ?_)
      refine W.lcmp hx hb dL_law_929 ?_
      rw [show lg_cmp (-1) (-1) = 0 from by decide]
      refine lv_if_eq (tgt := 958) hx hb dL_law_930 (by decide) (fun c_291 => ?_) (fun c_291 => absurd (show (0 : Int32) = (0 : Int32) by decide) c_291)
      refine lv_iinc (v := 7) (lv' := [(3, .int 7), (2, .ref q9), (1, .ref q1), (0, .ref b)]) hx hb dL_law_958 hl (k := 0) rfl (by decide) (by decide) rfl (fun ls hl => ?_)
      refine lv_goto (tgt := 18) hx hb dL_law_961 (by decide) ?_
      refine lv_iload_n hx hb dL_law_18 rfl (lv_at hl 0 rfl) ?_
      refine lv_aload_n hx hb dL_law_19 rfl (lv_at hl 3 rfl) ?_
      refine va_slen hx hb hX hbl hbA hS dL_law_20 ?_
      rw [show Int32.ofNat L = 7 from by rw [hL7]; rfl]
      refine lv_bipush (v := 7) hx hb dL_law_21 (by decide) ?_
      refine lv_isub hx hb dL_law_23 ?_
      rw [show (7 - 7 : Int32) = 0 from by decide]
      refine lv_icmp_gt (tgt := 964) hx hb dL_law_24 (by decide) (fun c_292 => ?_) (fun c_292 => absurd (show (0 : Int32) < (7 : Int32) by decide) c_292)
      refine lv_iconst (v := 1) hx hb dL_law_964 (by decide) ?_
      refine va_forget (fun q hq => hS.2.2 q hq) ?_
      refine W.widen (k := 600000) (n := 7302250) (Nat.le_of_ble_eq_true rfl) (Nat.le_of_ble_eq_true rfl) ?_
      exact lw_ret hx hb hr hlocks dL_law_965
    by_cases c_293 : sw = 21
    · refine lv_tableIn (off := 902) (tgt := 935) hx hb dL_law_33 (by rw [c_293]; decide) (by rw [c_293]; decide) (by rw [c_293]; decide) (by decide) ?_
      refine lv_aload_n hx hb dL_law_935 rfl (lv_at hl 2 rfl) ?_
      refine lv_aload_n hx hb dL_law_936 rfl (lv_at hl 3 rfl) ?_
      refine lv_iload_n hx hb dL_law_937 rfl (lv_at hl 0 rfl) ?_
      refine lv_iconst (v := 1) hx hb dL_law_938 (by decide) ?_
      refine lv_iadd hx hb dL_law_939 ?_
      rw [show (0 + 1 : Int32) = 1 from by decide]
      refine va_sld hx hb hX hbl hbA hS (by rw [hL7]; exact vp_in_iff.mpr ⟨by decide, by decide⟩) dL_law_940 ?_
      refine x_callV (n := 1) (As := [.int (xs (1 : Int32).toNatClampNeg)]) (rest := []) F hP hD hS (c_X10_count l D cy w17 q1 a0 a1 a2 a3 a4 a5 a6 a7 a8 a9 a10 a11 tf tn ag gg l0 l1 l2 l3 l4 l5 l6 l7 b6 b10 0 g10 (xs (1 : Int32).toNatClampNeg) p_x p_a1 p_a6 p_a7 p_a10 p_b10 (fun i hi => ⟨(p_TW i hi).1, (p_TW i hi).2.1⟩) (fun i hi => (p_TW i hi).2.2) o_hg10) gT_X10_count rfl rfl (by decide +kernel) ⟨(Nat.le_of_ble_eq_true rfl), (Nat.le_of_ble_eq_true rfl)⟩ rfl hl.1 (Nat.le_of_ble_eq_true rfl) p_x rfl dL_law_941 rfl ⟨(Nat.le_of_ble_eq_true rfl), (Nat.le_of_ble_eq_true rfl)⟩ (fun v295 w296 hp294 H locs hP hD hS => ?_)
      obtain ⟨rfl, rfl⟩ := hp294
      refine W.eq (g2 := F0 m 944 ls [.int (sp_count (xs (1 : Int32).toNatClampNeg))]) rfl (W.widen (k := 250) (n := 12629) (Nat.le_of_ble_eq_true rfl) (Nat.le_of_ble_eq_true rfl) ?_)
      refine lv_aload_n hx hb dL_law_944 rfl (lv_at hl 1 rfl) ?_
      refine lv_aload_n hx hb dL_law_945 rfl (lv_at hl 3 rfl) ?_
      refine lv_iload_n hx hb dL_law_946 rfl (lv_at hl 0 rfl) ?_
      refine lv_iconst (v := 1) hx hb dL_law_947 (by decide) ?_
      refine lv_iadd hx hb dL_law_948 ?_
      rw [show (0 + 1 : Int32) = 1 from by decide]
      refine va_sld hx hb hX hbl hbA hS (by rw [hL7]; exact vp_in_iff.mpr ⟨by decide, by decide⟩) dL_law_949 ?_
      refine x_callV (n := 1) (As := [.int (xs (1 : Int32).toNatClampNeg)]) (rest := [.int (sp_count (xs (1 : Int32).toNatClampNeg))]) F hP hD hS (c_X11_count l D cy w17 q9 m2 m3 m4 m5 m6 m8 m9 m10 m11 m12 m13 m14 m17 m18 m19 m20 m21 m22 m23 m24 m29 m30 m31 m32 m33 m34 m35 m36 m37 m39 m40 m41 m42 m43 m44 m45 m46 m47 m48 m49 m51 m52 m53 m54 m56 m57 m58 m59 be (xs (1 : Int32).toNatClampNeg) q_y q_m29 q_m35 hbe) gT_X11_count rfl rfl (by decide +kernel) ⟨(Nat.le_of_ble_eq_true rfl), (Nat.le_of_ble_eq_true rfl)⟩ rfl hl.1 (Nat.le_of_ble_eq_true rfl) q_y rfl dL_law_950 rfl ⟨(Nat.le_of_ble_eq_true rfl), (Nat.le_of_ble_eq_true rfl)⟩ (fun v298 w299 hp297 H locs hP hD hS => ?_)
      subst hp297
      refine W.eq (g2 := F0 m 953 ls [.int (sp_count (xs (1 : Int32).toNatClampNeg)), .int (sp_count (xs (1 : Int32).toNatClampNeg))]) rfl (W.widen (k := 250) (n := 12629) (Nat.le_of_ble_eq_true rfl) (Nat.le_of_ble_eq_true rfl) ?_)
      refine lv_icmp_eq (tgt := 958) hx hb dL_law_953 (by decide) (fun c_300 => ?_) (fun c_300 => absurd rfl c_300)
      refine lv_iinc (v := 7) (lv' := [(3, .int 7), (2, .ref q9), (1, .ref q1), (0, .ref b)]) hx hb dL_law_958 hl (k := 0) rfl (by decide) (by decide) rfl (fun ls hl => ?_)
      refine lv_goto (tgt := 18) hx hb dL_law_961 (by decide) ?_
      refine lv_iload_n hx hb dL_law_18 rfl (lv_at hl 0 rfl) ?_
      refine lv_aload_n hx hb dL_law_19 rfl (lv_at hl 3 rfl) ?_
      refine va_slen hx hb hX hbl hbA hS dL_law_20 ?_
      rw [show Int32.ofNat L = 7 from by rw [hL7]; rfl]
      refine lv_bipush (v := 7) hx hb dL_law_21 (by decide) ?_
      refine lv_isub hx hb dL_law_23 ?_
      rw [show (7 - 7 : Int32) = 0 from by decide]
      refine lv_icmp_gt (tgt := 964) hx hb dL_law_24 (by decide) (fun c_301 => ?_) (fun c_301 => absurd (show (0 : Int32) < (7 : Int32) by decide) c_301)
      refine lv_iconst (v := 1) hx hb dL_law_964 (by decide) ?_
      refine va_forget (fun q hq => hS.2.2 q hq) ?_
      refine W.widen (k := 600000) (n := 7302250) (Nat.le_of_ble_eq_true rfl) (Nat.le_of_ble_eq_true rfl) ?_
      exact lw_ret hx hb hr hlocks dL_law_965
    refine lv_tableOut (tgt := 958) hx hb dL_law_33 (by have z0 := lv_neT c_19 (show (0 : Int32).toInt = 0 by decide); have z1 := lv_neT c_29 (show (1 : Int32).toInt = 1 by decide); have z2 := lv_neT c_69 (show (2 : Int32).toInt = 2 by decide); have z3 := lv_neT c_81 (show (3 : Int32).toInt = 3 by decide); have z4 := lv_neT c_96 (show (4 : Int32).toInt = 4 by decide); have z5 := lv_neT c_111 (show (5 : Int32).toInt = 5 by decide); have z6 := lv_neT c_120 (show (6 : Int32).toInt = 6 by decide); have z7 := lv_neT c_129 (show (7 : Int32).toInt = 7 by decide); have z8 := lv_neT c_138 (show (8 : Int32).toInt = 8 by decide); have z9 := lv_neT c_149 (show (9 : Int32).toInt = 9 by decide); have z10 := lv_neT c_159 (show (10 : Int32).toInt = 10 by decide); have z11 := lv_neT c_170 (show (11 : Int32).toInt = 11 by decide); have z12 := lv_neT c_183 (show (12 : Int32).toInt = 12 by decide); have z13 := lv_neT c_213 (show (13 : Int32).toInt = 13 by decide); have z14 := lv_neT c_224 (show (14 : Int32).toInt = 14 by decide); have z15 := lv_neT c_233 (show (15 : Int32).toInt = 15 by decide); have z16 := lv_neT c_242 (show (16 : Int32).toInt = 16 by decide); have z17 := lv_neT c_251 (show (17 : Int32).toInt = 17 by decide); have z18 := lv_neT c_266 (show (18 : Int32).toInt = 18 by decide); have z19 := lv_neT c_275 (show (19 : Int32).toInt = 19 by decide); have z20 := lv_neT c_284 (show (20 : Int32).toInt = 20 by decide); have z21 := lv_neT c_293 (show (21 : Int32).toInt = 21 by decide); omega) (by decide) ?_
    refine lv_iinc (v := 7) (lv' := [(3, .int 7), (2, .ref q9), (1, .ref q1), (0, .ref b)]) hx hb dL_law_958 hl (k := 0) rfl (by decide) (by decide) rfl (fun ls hl => ?_)
    refine lv_goto (tgt := 18) hx hb dL_law_961 (by decide) ?_
    refine lv_iload_n hx hb dL_law_18 rfl (lv_at hl 0 rfl) ?_
    refine lv_aload_n hx hb dL_law_19 rfl (lv_at hl 3 rfl) ?_
    refine va_slen hx hb hX hbl hbA hS dL_law_20 ?_
    rw [show Int32.ofNat L = 7 from by rw [hL7]; rfl]
    refine lv_bipush (v := 7) hx hb dL_law_21 (by decide) ?_
    refine lv_isub hx hb dL_law_23 ?_
    rw [show (7 - 7 : Int32) = 0 from by decide]
    refine lv_icmp_gt (tgt := 964) hx hb dL_law_24 (by decide) (fun c_302 => ?_) (fun c_302 => absurd (show (0 : Int32) < (7 : Int32) by decide) c_302)
    refine lv_iconst (v := 1) hx hb dL_law_964 (by decide) ?_
    refine va_forget (fun q hq => hS.2.2 q hq) ?_
    refine W.widen (k := 600000) (n := 7302250) (Nat.le_of_ble_eq_true rfl) (Nat.le_of_ble_eq_true rfl) ?_
    exact lw_ret hx hb hr hlocks dL_law_965
  refine lv_iload_n hx hb dL_law_18 rfl (lv_at hl 0 rfl) ?_
  refine lv_aload_n hx hb dL_law_19 rfl (lv_at hl 3 rfl) ?_
  refine va_slen hx hb hX hbl hbA hS dL_law_20 ?_
  refine lv_bipush (v := 7) hx hb dL_law_21 (by decide) ?_
  refine lv_isub hx hb dL_law_23 ?_
  refine lv_icmp_gt (tgt := 964) hx hb dL_law_24 (by decide) (fun c_303 => ?_) (fun c_303 => absurd (lt7 (Nat.lt_of_le_of_ne hL hL7)) c_303)
  refine lv_iconst (v := 1) hx hb dL_law_964 (by decide) ?_
  refine va_forget (fun q hq => hS.2.2 q hq) ?_
  refine W.widen (k := 600000) (n := 7302250) (Nat.le_of_ble_eq_true rfl) (Nat.le_of_ble_eq_true rfl) ?_
  exact lw_ret hx hb hr hlocks dL_law_965
