/-! ===== arrays of arrays ===== -/
theorem va_AOA.moved {t : FieldType} {u U : State} (hvm : u.vm.Alike U.vm) (h : va_AOA t u) : va_AOA t U := by
  unfold va_AOA Cond.before Cond.holds at h ⊢
  simp only [Cond.value, beq_iff_eq] at h ⊢
  cases hc : u.vm.findClass (FieldType.array t).toString with
  | none => simp [hc] at h
  | some comp =>
    simp only [hc, Option.bind_some, Option.bind_eq_some_iff, Option.map_eq_some_iff] at h
    obtain ⟨c, hi, k, hk, hb⟩ := h
    obtain ⟨k', hk', he⟩ := hvm.2.2 _ _ hk
    have f1 : U.vm.findClass (FieldType.array t).toString = some comp := by rw [hvm.findClass]; exact hc
    have hi' : (U.vm.classes.findIdx? fun (x : Class) => match x.kind with | .array component _ => component == comp | _ => false) = some c := by
      have e1 := va_idx_bare U.vm comp
      have e2 := va_idx_bare u.vm comp
      have e3 : U.vm.bare = u.vm.bare := by first | exact hvm.bare_eq | exact hvm.bare_eq.symm
      exact e1.symm.trans ((congrArg (fun (v : Vm) => v.classes.findIdx? fun (x : Class) => match x.kind with | .array component _ => component == comp | _ => false) e3).trans (e2.trans hi))
    simp only [f1, Option.bind_some, Option.bind_eq_some_iff, Option.map_eq_some_iff]
    refine ⟨c, hi', k', hk', ?_⟩
    rw [he, hvm.findClass]
    exact hb
/-- a contract that may take int[][] for granted too -/
def Ct2 (l : Launch) (D : va_G) (cy : Nat → ClassId) (y : MethodName) (ws : List Cond) (rm : Room) (av : List Value) (w : Wd) (post : Option Value → Wd → Prop) : Prop :=
  ∀ sz : Nat, Met l y ws rm (fun a U => wd_P D cy w sz av a U ∧ va_AOA .int U) (wd_Q D w sz post) rm.cells rm.slots (va_A (wd_pl w) sz)
theorem Ct2.by {l : Launch} {D : va_G} {cy : Nat → ClassId} {y : MethodName} {ws ws' : List Cond} {rm : Room} {av : List Value} {w : Wd} {post : Option Value → Wd → Prop} {cc : ByteArray} {maxL : Nat} {ret : Option FieldType} (hy : plainName y.cls = true) (hw : ws = Cond.code y cc maxL ret :: ws') (hln : (lg_sl av).length ≤ maxL)
    (body : ∀ (p : Program) (e : Env) (s : State) (m : MethodId) (args : Array Value) (below : List Frame) (meth : Method) (c : Code) (A : Nat → Prop) (Q : State → Prop), wd_Fx p s m args meth c cc maxL ws y.cls D cy A → meth.name = y.name → wd_Rt p l e rm s m args below meth c cc D A ret Q post → va_AOA .int s → ∀ ls : Array Slot, lv_has ls maxL (lv_args 0 av) →
      Wv p l e rm s m args below meth c D A 0 0 Q w (F0 m 0 ls [])) : Ct2 l D cy y ws rm av w post := by
  intro sz
  refine Met.ofW (cc := cc) (maxL := maxL) (ret := ret) hy hw ?_
  intro p e s m args below meth c s₁ B hml hv
  obtain ⟨⟨rfl, hsz, hP, hD0, hG⟩, hAO⟩ := hv
  have hl := lv_entry av (n := maxL) hln
  rw [lg_entry_eq]
  have hts := atoms_spec (ws := ws) B.pre
  have hown : s.vm.findClass y.cls = some m.cls := findClass_of_methodNamed B.named
  have hin : meth.name = y.name := (name_of_methodNamed B.named B.method).1
  subst hsz
  have F : wd_Fx p s m av.toArray meth c cc maxL ws y.cls D cy (va_A (wd_pl w) s.heap.size) := ⟨⟨B.exec, B.bytes, hml, hown, hts⟩, hG, fun q h => Or.inr h, B.notSynchronized⟩
  exact body p e s m av.toArray below meth c (va_A (wd_pl w) s.heap.size) _ F hin (fun w1 H locs pc ls v hP hD hS hp hk => by
    rcases hk with ⟨h1, ty, x, h2, rfl, h3⟩ | ⟨h1, x, h2, rfl⟩ | ⟨h1, rt, x, h2, h3, rfl, h4⟩ | ⟨h1, h2, rfl⟩
    · exact x_zret F hP hD hS (B.returns.trans h2) h3 hp h1
    · exact x_lret F hP hD hS (B.returns.trans h2) hp h1
    · exact x_aret F hP hD hS (B.returns.trans h2) h3 h4 hp h1
    · exact x_vret F hP hD hS (B.returns.trans h2) hp h1) hAO _ hl s.heap [] hP (hD0.self (sz := s.heap.size)) va_S.rf
/-- a world with an outer array and its rows new -/
def wd_mna (w : Wd) (q : Nat) (rows : List Nat) (eo er : va_E) : Wd := (q :: (w.1 ++ rows), va_up (vr_up w.2 rows er) q eo)
theorem wd_at.mo {w w1 : Wd} {q b N : Nat} {r : Nat → Nat} {e eo er : va_E} (ew : w1 = wd_mna w q ((List.range N).map r) eo er) (hq : q ∉ w.1) (hr : ∀ i, i < N → r i ∉ w.1) (h : wd_at w b e) : wd_at w1 b e := by
  rw [ew]
  refine ⟨List.mem_cons_of_mem _ (List.mem_append_left _ h.1), ?_⟩
  show va_up (vr_up w.2 _ er) q eo b = e
  rw [va_up_ne _ _ (fun z : b = q => hq (z ▸ h.1)), vr_up_ne (fun z => by
    obtain ⟨i, hi, e1⟩ := List.mem_map.mp z
    exact hr i (List.mem_range.mp hi) (by rw [e1]; exact h.1))]
  exact h.2
theorem wd_at.mq {w w1 : Wd} {q : Nat} {rows : List Nat} {eo er : va_E} (ew : w1 = wd_mna w q rows eo er) : wd_at w1 q eo := by
  rw [ew]; exact ⟨List.mem_cons_self, va_up_self _ _ _⟩
theorem wd_at.mr {w w1 : Wd} {q N : Nat} {r : Nat → Nat} {eo er : va_E} (ew : w1 = wd_mna w q ((List.range N).map r) eo er) (hz : ∀ i, i < N → r i ≠ q) (i : Nat) (hi : i < N) : wd_at w1 (r i) er := by
  have hm : r i ∈ (List.range N).map r := List.mem_map.mpr ⟨i, List.mem_range.mpr hi, rfl⟩
  rw [ew]
  refine ⟨List.mem_cons_of_mem _ (List.mem_append_right _ hm), ?_⟩
  show va_up (vr_up w.2 _ er) q eo (r i) = er
  rw [va_up_ne _ _ (hz i hi), vr_up_in hm]
theorem wd_kp.mna {S : Nat → Prop} {w w1 w2 : Wd} {q N : Nat} {r : Nat → Nat} {eo er : va_E} (h : wd_kp S w w1) (ew : w2 = wd_mna w1 q ((List.range N).map r) eo er) (hq : q ∉ w1.1) (hr : ∀ i, i < N → r i ∉ w1.1) : wd_kp S w w2 :=
  ⟨fun b hb => by rw [ew]; exact List.mem_cons_of_mem _ (List.mem_append_left _ (h.1 b hb)), fun b e hb hn => wd_at.mo ew hq hr (h.2 b e hb hn)⟩
theorem fm_row {w w1 : Wd} {cA : ClassId} {n N i : Nat} {r : Nat → Nat} {fc : Nat → Nat → Int32} {g : Nat → Int32} (ew : w1 = wd_put w (r i) (.inl (cA, n, .inl g))) (hi : i < N) (hj : ∀ a b, a < N → b < N → r a = r b → a = b) (h : ∀ k, k < N → wd_at w (r k) (.inl (cA, n, .inl (fc k)))) : ∀ k, k < N → wd_at w1 (r k) (.inl (cA, n, .inl (va_up fc i g k))) := by
  intro k hk
  by_cases e : k = i
  · subst e
    rw [va_up_self]
    exact wd_at.ps ew (h k hk)
  · rw [va_up_ne _ _ e]
    exact wd_at.pt ew (h k hk) (fun z => e (hj k i hk hi z))
theorem wd_mna_pl {w : Wd} {q : Nat} {rows : List Nat} {eo er : va_E} (hq : q ∉ w.1 ++ rows) : [(q, eo)] ++ va_pl (w.1 ++ rows) (vr_up w.2 rows er) = wd_pl (wd_mna w q rows eo er) := by
  show (q, eo) :: (w.1 ++ rows).map _ = (q, va_up (vr_up w.2 rows er) q eo q) :: (w.1 ++ rows).map _
  rw [va_up_self]
  congr 1
  apply List.map_congr_left
  intro a ha
  show (a, vr_up w.2 rows er a) = (a, va_up (vr_up w.2 rows er) q eo a)
  rw [va_up_ne _ _ (fun z : a = q => hq (z ▸ ha))]
theorem wd_mna_q {A : Nat → Prop} {L : List Nat} {f : Nat → va_E} {q : Nat} {e : va_E} (hD : va_D A ([(q, e)] ++ va_pl L f)) : q ∉ L := fun h => by
  obtain ⟨k, hk⟩ := List.getElem?_of_mem (List.mem_map.mpr ⟨q, h, rfl⟩ : (q, f q) ∈ va_pl L f)
  have := hD.1 0 (k + 1) (q, e) (q, f q) rfl (by rw [List.singleton_append, List.getElem?_cons_succ]; exact hk) rfl
  omega
theorem y_mna {p : Program} {l : Launch} {e : Env} {R : Room} {s : State} {m : MethodId} {args : Array Value} {below : List Frame} {meth : Method} {c : Code} {H : Heap} {locs : List Loc} {cells slots : Nat} {Q : State → Prop} {cc : ByteArray} {pc nL : Nat} {ls : Array Slot} {rest : List Value} {D : va_G} {cy : Nat → ClassId} {A : Nat → Prop} {w : Wd} {Ts : List Cond} {own : String} (F : wd_Fx p s m args meth c cc nL Ts own D cy A) (hAO : va_AOA .int s) (hP : va_P D vwCl (wd_pl w) H) (hD : va_D A (wd_pl w)) (hS : va_S A s.heap H locs) {index N M : Nat} (hcl : Cond.classLink own index "[[I" ∈ Ts) (harr : Cond.arrayClass .int ∈ Ts) {n k : Int32} (hn : ¬ n < 0) (hk : ¬ k < 0) (hN : n.toNatClampNeg = N) (hM : k.toNatClampNeg = M) (hb1 : N * 4 ≤ 536870912) (hb2 : M * 4 ≤ 536870912) (hcells : cells + (1 + N) ≤ R.cells) (hslots : slots + (N + N * M) ≤ R.slots) (hdg : decode cc pc = .ok (.multianewarray index 2, 4))
    (kk : ∀ (q : Nat) (r : Nat → Nat) (w1 : Wd), w1 = wd_mna w q ((List.range N).map r) (.inl (cy 10, N, .inr (.inr (.inr (.inr (fun i => if i < N then some (r i) else none)))))) (.inl (cy 2, M, .inl (fun _ => 0))) → q ∉ w.1 → (∀ i, i < N → r i ∉ w.1) → (∀ a b, a < N → b < N → r a = r b → a = b) → (∀ i, i < N → r i ≠ q) → ∀ (H1 : Heap), va_P D vwCl (wd_pl w1) H1 → va_D A (wd_pl w1) → va_S A s.heap H1 locs → W p l e R s m args below meth c H1 locs (cells + (1 + N)) (slots + (N + N * M)) Q (F0 m (pc + 4) ls (.ref q :: rest))) : W p l e R s m args below meth c H locs cells slots Q (F0 m pc ls (.int k :: .int n :: rest)) := by
  obtain ⟨⟨hx, hb, hml, hown, hts⟩, hG, hA, hlk⟩ := F
  have hcy : s.vm.findClass (FieldType.array .int).toString = some (cy 2) := (hG.1.2 2 _ rfl).2
  refine va_mna (X := []) (L := w.1) (f := w.2) (z := (M, .inl (fun _ => 0))) hx hb hown (hts _ hcl) hAO (hts _ harr) hcy hG.1 hP hD hS hA hn hk hN hM hb1 hb2 (Nat.le_trans (Nat.le_mul_of_pos_right M (by decide)) hb2) rfl rfl hcells hslots (fun c9 => by first | rfl | simp [Jvm.Free.Multi.innerC, vp_cell, arrV_new, defaultValue]) hdg (fun q r cA H1 hinj hrn hK1 hP1 hD1 hS1 => ?_)
  have hc := wd_cls hK1 hG.1 (t0 := 10) rfl
  subst hc
  have hq := wd_mna_q (A := A) hD1
  have e1 := wd_mna_pl (w := w) (eo := .inl (cy 10, N, .inr (.inr (.inr (.inr (fun i => if i < N then some (r i) else none)))))) (er := .inl (cy 2, M, .inl (fun _ => 0))) hq
  have hP2 : va_P D vwCl (wd_pl (wd_mna w q ((List.range N).map r) (.inl (cy 10, N, .inr (.inr (.inr (.inr (fun i => if i < N then some (r i) else none)))))) (.inl (cy 2, M, .inl (fun _ => 0))))) H1 := by rw [← e1]; exact hP1
  have hD2 : va_D A (wd_pl (wd_mna w q ((List.range N).map r) (.inl (cy 10, N, .inr (.inr (.inr (.inr (fun i => if i < N then some (r i) else none)))))) (.inl (cy 2, M, .inl (fun _ => 0))))) := by rw [← e1]; exact hD1
  have := kk q r _ rfl (fun h => hq (List.mem_append_left _ h)) hrn (fun a b ha hb9 e9 => hinj a b ha hb9 e9) (fun i hi e9 => hq (List.mem_append_right _ (List.mem_map.mpr ⟨i, List.mem_range.mpr hi, e9⟩))) H1 hP2 hD2 hS1
  rw [show cells + 1 + N = cells + (1 + N) by omega, show slots + N + N * M = slots + (N + N * M) by omega]
  exact this
theorem x_aaldA {p : Program} {l : Launch} {e : Env} {R : Room} {s : State} {m : MethodId} {args : Array Value} {below : List Frame} {meth : Method} {c : Code} {H : Heap} {locs : List Loc} {cells slots : Nat} {Q : State → Prop} {cc : ByteArray} {pc nL : Nat} {ls : Array Slot} {rest : List Value} {D : va_G} {cy : Nat → ClassId} {A : Nat → Prop} {a : Nat} {w : Wd} {Ts : List Cond} {own : String} (F : wd_Fx p s m args meth c cc nL Ts own D cy A) (hP : va_P D vwCl (wd_pl w) H) {n : Nat} {f : Nat → Option Nat} (h : wd_at w a (.inl (cy 10, n, .inr (.inr (.inr (.inr f)))))) {i : Int32} (hin : vp_in i n) (hdg : decode cc pc = .ok (.aaload, 1))
    (kk : W p l e R s m args below meth c H locs cells slots Q (F0 m (pc + 1) ls (va_rf (f i.toNatClampNeg) :: rest))) : W p l e R s m args below meth c H locs cells slots Q (F0 m pc ls (.int i :: .ref a :: rest)) := by
  obtain ⟨⟨hx, hb, hml, hown, hts⟩, hG, hA, hlk⟩ := F
  obtain ⟨q0, hq⟩ := wd_get h
  have hlt : i.toNatClampNeg < n := Nat.not_le.mp fun q => hin (Or.inr q)
  exact W.aald (v := va_rf (f i.toNatClampNeg)) (ty := .array .int) hx hb (hP q0 _ hq) ((hG.1.2 10 _ rfl).1 n (fun j => va_rf (f j))) rfl (fun q => by cases q) (by show ¬ (i < 0 ∨ (arrV _ _ _).slots.size ≤ _); rw [arrV_size]; exact hin) (by show (arrV _ _ _).slots[_]? = _; rw [arrV_read _ _ hlt]) rfl rfl hdg kk
