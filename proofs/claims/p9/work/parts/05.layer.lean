/-! ===== the layer: one pool of cells, its worlds, and the rows over them; strings ===== -/
theorem va_AOA.moved {t : FieldType} {u U : State} (hvm : u.vm.Alike U.vm) (h : va_AOA t u) : va_AOA t U := by
  unfold va_AOA Cond.before Cond.holds at h ⊢
  simp only [Cond.value, beq_iff_eq] at h ⊢
  cases hc : u.vm.findClass (FieldType.array t).toString with
  | none => simp [hc] at h
  | some comp =>
    simp only [hc, Option.bind_some, Option.bind_eq_some_iff, Option.map_eq_some_iff] at h
    obtain ⟨c, hi, k, hk, hb⟩ := h
    obtain ⟨k', hk', he⟩ := hvm.2.2 _ _ hk
    have f1 : U.vm.findClass (FieldType.array t).toString = some comp := by rw [hvm.findClass]; exact hc
    have hi' : (U.vm.classes.findIdx? fun (x : Class) => match x.kind with | .array component _ => component == comp | _ => false) = some c := by
      have e1 := va_idx_bare U.vm comp
      have e2 := va_idx_bare u.vm comp
      have e3 : U.vm.bare = u.vm.bare := by first | exact hvm.bare_eq | exact hvm.bare_eq.symm
      exact e1.symm.trans ((congrArg (fun (v : Vm) => v.classes.findIdx? fun (x : Class) => match x.kind with | .array component _ => component == comp | _ => false) e3).trans (e2.trans hi))
    simp only [f1, Option.bind_some, Option.bind_eq_some_iff, Option.map_eq_some_iff]
    refine ⟨c, hi', k', hk', ?_⟩
    rw [he, hvm.findClass]
    exact hb
def st_len : List Nat := [14, 2, 45, 3, 30, 15, 3, 6, 3, 4, 7, 7, 3, 4, 6, 4, 3, 6, 5, 4, 5, 4, 4]
def st_byt : List (List Int32) := [[112, 97, 121, 32, 114, 101, 102, 117, 115, 101, 32, 97, 115, 107], [105, 102], [104, 97, 110, 100, 32, 97, 100, 118, 105, 115, 101, 100, 32, 115, 116, 111, 112, 112, 101, 100, 32, 97, 103, 101, 32, 108, 97, 116, 101, 32, 97, 109, 111, 117, 110, 116, 32, 108, 101, 102, 116, 32, 100, 97, 121], [97, 110, 100], [115, 116, 111, 112, 112, 101, 100, 32, 102, 111, 114, 103, 101, 100, 32, 116, 119, 105, 99, 101, 32, 111, 118, 101, 114, 32, 104, 97, 110, 100], [104, 111, 117, 115, 101, 32, 116, 111, 119, 110, 32, 104, 97, 108, 102], [112, 97, 121], [114, 101, 102, 117, 115, 101], [97, 115, 107], [104, 97, 110, 100], [97, 100, 118, 105, 115, 101, 100], [115, 116, 111, 112, 112, 101, 100], [97, 103, 101], [108, 97, 116, 101], [97, 109, 111, 117, 110, 116], [108, 101, 102, 116], [100, 97, 121], [102, 111, 114, 103, 101, 100], [116, 119, 105, 99, 101], [111, 118, 101, 114], [104, 111, 117, 115, 101], [116, 111, 119, 110], [104, 97, 108, 102]]
def st_ref : List (String × Nat × String × Nat) := [("NoteHouse$Agent", 57, "pay refuse ask", 0), ("NoteHouse$Agent", 67, "if", 1), ("NoteHouse$Agent", 75, "hand advised stopped age late amount left day", 2), ("NoteHouse$Agent", 73, "and", 3), ("NoteHouse$Law", 57, "stopped forged twice over hand", 4), ("NoteHouse$Law", 73, "house town half", 5), ("NoteHouseModel", 247, "pay", 6), ("NoteHouseModel", 249, "refuse", 7), ("NoteHouseModel", 251, "ask", 8), ("NoteHouseModel", 264, "if", 1), ("NoteHouseModel", 234, "hand", 9), ("NoteHouseModel", 235, "advised", 10), ("NoteHouseModel", 237, "stopped", 11), ("NoteHouseModel", 239, "age", 12), ("NoteHouseModel", 241, "late", 13), ("NoteHouseModel", 243, "amount", 14), ("NoteHouseModel", 244, "left", 15), ("NoteHouseModel", 246, "day", 16), ("NoteHouseModel", 269, "and", 3), ("NoteHouseModel", 283, "forged", 17), ("NoteHouseModel", 285, "twice", 18), ("NoteHouseModel", 287, "over", 19), ("NoteHouseModel", 289, "house", 20), ("NoteHouseModel", 291, "town", 21), ("NoteHouseModel", 292, "half", 22)]
/-- the texts and statics that nobody writes -/
def wd_Ev (sk sv : Nat → Nat) (A : Nat → Prop) (U : State) (H : Heap) : Prop := vk_S 23 st_len st_byt sk sv A U H ∧ (∀ r ∈ st_ref, vk_R r.1 r.2.1 r.2.2.1 (sk r.2.2.2) U) ∧ va_Z "java/lang/String" "COMPACT_STRINGS" "Z" (.int 1) A U H ∧ va_Zq "jdk/internal/util/Preconditions" "SIOOBE_FORMATTER" "Ljava/util/function/BiFunction;" A U H
theorem wd_Ev.go {sk sv : Nat → Nat} {A B : Nat → Prop} {s U : State} {H : Heap} (hW : s.WarmedH U.vm) (h : wd_Ev sk sv A s s.heap) (hq : ∀ a : Nat, a < s.heap.size → ¬ A a → H[a]? = s.heap[a]?) (hAB : ∀ q, B q → A q) : wd_Ev sk sv B U H :=
  ⟨((h.1.moved hW.alike).kept hq).narrow hAB, fun r hr => vk_R.warm hW (h.2.1 r hr), ((h.2.2.1.moved hW.alike).kept hq).narrow hAB, ((h.2.2.2.moved hW.alike).kept hq).narrow hAB⟩
theorem wd_Ev.calling {sk sv : Nat → Nat} {A : Nat → Prop} {U : State} (g : JFrame) (mk : MethodId) (a : Array Value) (h : wd_Ev sk sv A U U.heap) : wd_Ev sk sv A (U.calling g mk a) (U.calling g mk a).heap :=
  ⟨vk_S.moved (u := U) (U := U.calling g mk a) (Vm.Alike.refl U.vm) h.1, fun r hr => vk_R.same (u := U) (U := U.calling g mk a) rfl (h.2.1 r hr), va_Z.moved (u := U) (U := U.calling g mk a) (Vm.Alike.refl U.vm) h.2.2.1, va_Zq.moved (u := U) (U := U.calling g mk a) (Vm.Alike.refl U.vm) h.2.2.2⟩
/-- a world: the addresses, and what each holds -/
abbrev Wd : Type := List Nat × (Nat → va_E)
def wd_pl (w : Wd) : va_W := va_pl w.1 w.2
def wd_at (w : Wd) (a : Nat) (e : va_E) : Prop := a ∈ w.1 ∧ w.2 a = e
def wd_put (w : Wd) (a : Nat) (e : va_E) : Wd := (w.1, va_up w.2 a e)
def wd_add (w : Wd) (a : Nat) (e : va_E) : Wd := (w.1 ++ [a], va_up w.2 a e)
theorem wd_at.self {w : Wd} {a : Nat} {e : va_E} (h : wd_at w a e) (e1 : va_E) : wd_at (wd_put w a e1) a e1 := ⟨h.1, va_up_self _ _ _⟩
theorem wd_at.put {w : Wd} {a b : Nat} {e : va_E} (h : wd_at w b e) (n : b ≠ a) (e1 : va_E) : wd_at (wd_put w a e1) b e := ⟨h.1, (va_up_ne _ _ n).trans h.2⟩
theorem wd_at.new (w : Wd) (a : Nat) (e : va_E) : wd_at (wd_add w a e) a e := ⟨List.mem_append_right _ (List.mem_singleton.mpr rfl), va_up_self _ _ _⟩
theorem wd_at.add {w : Wd} {a b : Nat} {e : va_E} (h : wd_at w b e) (n : a ∉ w.1) (e1 : va_E) : wd_at (wd_add w a e1) b e := ⟨List.mem_append_left _ h.1, (va_up_ne _ _ (fun q : b = a => n (by rw [← q]; exact h.1))).trans h.2⟩
theorem wd_ne {w : Wd} {a b : Nat} {e e1 : va_E} (h : wd_at w a e) (h1 : wd_at w b e1) (n : e ≠ e1) : a ≠ b := fun q => n (h.2.symm.trans (by rw [q]; exact h1.2))
theorem wd_one {w : Wd} {a : Nat} {e e1 : va_E} (h : wd_at w a e) (h1 : wd_at w a e1) : e = e1 := h.2.symm.trans h1.2
theorem wd_get {w : Wd} {a : Nat} {e : va_E} (h : wd_at w a e) : ∃ k : Nat, (wd_pl w)[k]? = some (a, e) := by
  obtain ⟨k, hk⟩ := va_pl_get (X := []) (f := w.2) h.1
  exact ⟨k, by rw [← h.2]; exact hk⟩
theorem wd_set {A : Nat → Prop} {w : Wd} {a k : Nat} {e e1 : va_E} (hD : va_D A (wd_pl w)) (h : wd_at w a e) (hk : (wd_pl w)[k]? = some (a, e)) : (wd_pl w).set k (a, e1) = wd_pl (wd_put w a e1) :=
  va_pl_set (X := []) hD h.1 (by rw [h.2]; exact hk)
theorem wd_push {w : Wd} {a : Nat} {e : va_E} (h : a ∉ w.1) : wd_pl w ++ [(a, e)] = wd_pl (wd_add w a e) := va_pl_push h
theorem wd_fresh {A : Nat → Prop} {w : Wd} {a : Nat} {e : va_E} (hD : va_D A (wd_pl w ++ [(a, e)])) : a ∉ w.1 := va_pl_fresh2 (X := []) hD
/-- the array classes, by their numbers -/
def wd_tys (cy : Nat → ClassId) : List (ClassId × FieldType) := [(cy 0, .byte), (cy 1, .char), (cy 2, .int), (cy 3, .long), (cy 4, .boolean), (cy 5, .object RX0), (cy 6, .object RX3), (cy 7, .object RX5), (cy 8, .object RX6), (cy 9, .object RX8), (cy 10, .array .int)]
def wd_nest : List Cond := [.methodLinkNest RX10 22 yX8_init RX10, .methodLinkNest RX10 49 yX7_init RX10, .methodLinkNest RX10 67 yX1_init RX10, .methodLinkNest RX1 63 yX10_faultAt RX10, .methodLinkNest RX2 30 yX10_faultAt RX10, .methodLinkNest RX3 42 yX10_isWithin RX10, .methodLinkNest RX6 33 yX10_hasCome RX10, .methodLinkNest RX7 26 yX10_faultAt RX10, .methodLinkNest RX7 38 yX10_isWithin RX10, .methodLinkNest RX8 23 yX1_init RX10]
def wd_over : List FieldType := [.object RX0, .object RX3, .object RX5, .object RX6, .object RX8]
/-- what a method may take for granted of the machine: classes, array classes, the nest's links -/
def wd_Gd (D : va_G) (cy : Nat → ClassId) (U : State) : Prop := va_K D vwCl (wd_tys cy) U ∧ (∀ w ∈ wd_nest, va_Nw w U) ∧ (∀ C ∈ [RX0, RX3, RX5, RX6, RX8], va_AO C U) ∧ va_AOA .int U
theorem wd_nest_warm {s U : State} (hW : s.WarmedH U.vm) (h : ∀ w ∈ wd_nest, va_Nw w s) : ∀ w ∈ wd_nest, va_Nw w U := by
  intro w hw
  have h1 := h w hw
  simp only [wd_nest, List.mem_cons, List.not_mem_nil, or_false] at hw
  rcases hw with rfl | rfl | rfl | rfl | rfl | rfl | rfl | rfl | rfl | rfl <;> exact va_Nw.warmM hW h1
theorem wd_Gd.warm {D : va_G} {cy : Nat → ClassId} {s U : State} (hW : s.WarmedH U.vm) (h : wd_Gd D cy s) : wd_Gd D cy U :=
  ⟨va_K.moved hW.alike h.1, wd_nest_warm hW h.2.1, fun C hC => va_AO.moved hW.alike (h.2.2.1 C hC), va_AOA.moved hW.alike h.2.2.2⟩
theorem wd_nest_same {s U : State} (e : s.vm = U.vm) (h : ∀ w ∈ wd_nest, va_Nw w s) : ∀ w ∈ wd_nest, va_Nw w U := by
  intro w hw
  have h1 := h w hw
  simp only [wd_nest, List.mem_cons, List.not_mem_nil, or_false] at hw
  rcases hw with rfl | rfl | rfl | rfl | rfl | rfl | rfl | rfl | rfl | rfl <;> exact va_Nw.same rfl e h1
theorem wd_Gd.calling {D : va_G} {cy : Nat → ClassId} {U : State} (g : JFrame) (mk : MethodId) (a : Array Value) (h : wd_Gd D cy U) : wd_Gd D cy (U.calling g mk a) :=
  ⟨va_K.moved (u := U) (U := U.calling g mk a) (Vm.Alike.refl U.vm) h.1, wd_nest_same (s := U) (U := U.calling g mk a) rfl h.2.1, fun C hC => va_AO.moved (u := U) (U := U.calling g mk a) (Vm.Alike.refl U.vm) (h.2.2.1 C hC), va_AOA.moved (u := U) (U := U.calling g mk a) (Vm.Alike.refl U.vm) h.2.2.2⟩
/-- a contract's start -/
def wd_P (D : va_G) (cy : Nat → ClassId) (sk sv : Nat → Nat) (w : Wd) (sz : Nat) (av : List Value) : Array Value → State → Prop :=
  va_Pc av (fun U => U.heap.size = sz ∧ va_P D vwCl (wd_pl w) U.heap ∧ va_D (fun _ => True) (wd_pl w) ∧ wd_Gd D cy U ∧ wd_Ev sk sv (va_A (wd_pl w) sz) U U.heap)
/-- a contract's end -/
def wd_Q (D : va_G) (w : Wd) (sz : Nat) (post : Option Value → Wd → Prop) : Array Value → State → Outcome → State → Prop := fun _ st oc t =>
  (∃ (v : Option Value) (w1 : Wd), oc = .returned v ∧ post v w1 ∧ va_P D vwCl (wd_pl w1) t.heap ∧ va_D (va_A (wd_pl w) sz) (wd_pl w1)) ∧ va_F (va_A (wd_pl w) sz) st t
/-- a contract: from the world w, with the arguments av, the method returns, and 'post answer world' -/
def Ct (l : Launch) (D : va_G) (cy : Nat → ClassId) (sk sv : Nat → Nat) (y : MethodName) (ws : List Cond) (rm : Room) (av : List Value) (w : Wd) (post : Option Value → Wd → Prop) : Prop :=
  ∀ sz : Nat, Met l y ws rm (wd_P D cy sk sv w sz av) (wd_Q D w sz post) rm.cells rm.slots (va_A (wd_pl w) sz)
/-- the fixed things of a walk -/
def wd_Fx (p : Program) (s : State) (m : MethodId) (args : Array Value) (meth : Method) (c : Code) (cc : ByteArray) (nL : Nat) (Ts : List Cond) (own : String) (D : va_G) (cy : Nat → ClassId) (sk sv : Nat → Nat) (A : Nat → Prop) : Prop :=
  CallFix p m c cc nL s args Ts own ∧ wd_Gd D cy s ∧ (∀ q : Nat, s.heap.size ≤ q → A q) ∧ meth.locks = false ∧ wd_Ev sk sv A s s.heap
section WDR
variable {p : Program} {l : Launch} {e : Env} {R : Room} {s : State} {m : MethodId} {args : Array Value} {below : List Frame} {meth : Method} {c : Code} {H : Heap} {locs : List Loc} {cells slots : Nat} {Q : State → Prop}
variable {cc : ByteArray} {pc nL : Nat} {ls : Array Slot} {rest : List Value} {D : va_G} {cy : Nat → ClassId} {sk sv : Nat → Nat} {A : Nat → Prop} {a : Nat} {w : Wd} {Ts : List Cond} {own : String}
/-- the judgement over a world -/
def Wv (p : Program) (l : Launch) (e : Env) (R : Room) (s : State) (m : MethodId) (args : Array Value) (below : List Frame) (meth : Method) (c : Code) (D : va_G) (A : Nat → Prop) (cells slots : Nat) (Q : State → Prop) (w : Wd) (g : JFrame) : Prop :=
  ∀ (H : Heap) (locs : List Loc), va_P D vwCl (wd_pl w) H → va_D A (wd_pl w) → va_S A s.heap H locs → W p l e R s m args below meth c H locs cells slots Q g
theorem x_get (F : wd_Fx p s m args meth c cc nL Ts own D cy sk sv A) (hP : va_P D vwCl (wd_pl w) H) {C ref : String} {T : u_T} {N ci index : Nat} {fs : List Value} (h : wd_at w a (.inr (ci, fs))) (hc : vwCl[ci]? = some (C, T, N)) (hin : ∀ w ∈ u_ws C T N, w ∈ Ts) (k : Nat) (hk : k < N) (hlink : Cond.fieldLink own index ref (T k).2.1 (T k).2.2.1 ∈ Ts) (hsame : (T k).1 = ref) {v : Value} (hv : fs[k]? = some v) (hdg : decode cc pc = .ok (.getfield index, 3))
    (kk : W p l e R s m args below meth c H locs cells slots Q (F0 m (pc + 3) ls (v :: rest))) : W p l e R s m args below meth c H locs cells slots Q (F0 m pc ls (.ref a :: rest)) := by
  obtain ⟨⟨hx, hb, hml, hown, hts⟩, hG, hA, hlk, hEv⟩ := F
  obtain ⟨q0, hq⟩ := wd_get h
  exact va_get hx hb hts hin hown hG.1 hP q0 hq hc k hk (hts _ hlink) (fun x h9 => by rw [← hsame]; exact h9) hv hdg kk
theorem x_put (F : wd_Fx p s m args meth c cc nL Ts own D cy sk sv A) (hP : va_P D vwCl (wd_pl w) H) (hD : va_D A (wd_pl w)) (hS : va_S A s.heap H locs) {C ref : String} {T : u_T} {N ci index : Nat} {fs : List Value} (h : wd_at w a (.inr (ci, fs))) (hc : vwCl[ci]? = some (C, T, N)) (hin : ∀ w ∈ u_ws C T N, w ∈ Ts) {ty0 : Nat → FieldType} (hty : ∀ k, k < N → parseFieldDescriptor (T k).2.2.1 = some (ty0 k)) (hnm : ∀ a, a < N → ∀ b, b < N → a ≠ b → (T a).2.1 ≠ (T b).2.1) (k : Nat) (hk : k < N) (hlink : Cond.fieldLink own index ref (T k).2.1 (T k).2.2.1 ∈ Ts) (hsame : (T k).1 = ref) (hfin : (T k).2.2.2 = false) {v : Value} (hn : narrow (ty0 k) v = v) (hfit : fits (ty0 k) v = true) (hl : k < fs.length) (hdg : decode cc pc = .ok (.putfield index, 3))
    (kk : ∀ (H1 : Heap) (locs1 : List Loc), va_P D vwCl (wd_pl (wd_put w a (.inr (ci, fs.set k v)))) H1 → va_D A (wd_pl (wd_put w a (.inr (ci, fs.set k v)))) → va_S A s.heap H1 locs1 → W p l e R s m args below meth c H1 locs1 cells slots Q (F0 m (pc + 3) ls rest)) : W p l e R s m args below meth c H locs cells slots Q (F0 m pc ls (v :: .ref a :: rest)) := by
  obtain ⟨⟨hx, hb, hml, hown, hts⟩, hG, hA, hlk, hEv⟩ := F
  obtain ⟨q0, hq⟩ := wd_get h
  refine va_put hx hb hts hin ty0 hty hnm hown hG.1 hP hD hS q0 hq hc k hk (hts _ hlink) (fun x h9 => by rw [← hsame]; exact h9) hfin (hty k hk) hn hfit hl hdg (fun H1 locs1 hP1 hD1 hS1 => ?_)
  rw [wd_set hD h hq] at hP1 hD1
  exact kk H1 locs1 hP1 hD1 hS1
theorem x_putF (F : wd_Fx p s m args meth c cc nL Ts own D cy sk sv A) (hP : va_P D vwCl (wd_pl w) H) (hD : va_D A (wd_pl w)) (hS : va_S A s.heap H locs) {C ref : String} {T : u_T} {N ci index : Nat} {fs : List Value} (h : wd_at w a (.inr (ci, fs))) (hc : vwCl[ci]? = some (C, T, N)) (hin : ∀ w ∈ u_ws C T N, w ∈ Ts) {ty0 : Nat → FieldType} (hty : ∀ k, k < N → parseFieldDescriptor (T k).2.2.1 = some (ty0 k)) (hnm : ∀ a, a < N → ∀ b, b < N → a ≠ b → (T a).2.1 ≠ (T b).2.1) (hini : meth.name = "<init>") (k : Nat) (hk : k < N) (hlink : Cond.fieldLink own index ref (T k).2.1 (T k).2.2.1 ∈ Ts) (hsame : (T k).1 = ref) (hown2 : (T k).1 = own) (hfin : (T k).2.2.2 = true) {v : Value} (hn : narrow (ty0 k) v = v) (hfit : fits (ty0 k) v = true) (hl : k < fs.length) (hdg : decode cc pc = .ok (.putfield index, 3))
    (kk : ∀ (H1 : Heap) (locs1 : List Loc), va_P D vwCl (wd_pl (wd_put w a (.inr (ci, fs.set k v)))) H1 → va_D A (wd_pl (wd_put w a (.inr (ci, fs.set k v)))) → va_S A s.heap H1 locs1 → W p l e R s m args below meth c H1 locs1 cells slots Q (F0 m (pc + 3) ls rest)) : W p l e R s m args below meth c H locs cells slots Q (F0 m pc ls (v :: .ref a :: rest)) := by
  obtain ⟨⟨hx, hb, hml, hown, hts⟩, hG, hA, hlk, hEv⟩ := F
  obtain ⟨q0, hq⟩ := wd_get h
  refine va_putF hx hb hts hin ty0 hty hnm hown hG.1 hP hD hS q0 hq hc k hk (hts _ hlink) (fun x h9 => by rw [← hsame]; exact h9) hfin hini hown2 (hty k hk) hn hfit hl hdg (fun H1 locs1 hP1 hD1 hS1 => ?_)
  rw [wd_set hD h hq] at hP1 hD1
  exact kk H1 locs1 hP1 hD1 hS1
theorem x_iald (F : wd_Fx p s m args meth c cc nL Ts own D cy sk sv A) (hP : va_P D vwCl (wd_pl w) H) {n : Nat} {f : Nat → Int32} (h : wd_at w a (.inl (cy 2, n, .inl f))) {i : Int32} (hin : vp_in i n) (hdg : decode cc pc = .ok (.iaload, 1))
    (kk : W p l e R s m args below meth c H locs cells slots Q (F0 m (pc + 1) ls (.int (f i.toNatClampNeg) :: rest))) : W p l e R s m args below meth c H locs cells slots Q (F0 m pc ls (.int i :: .ref a :: rest)) := by
  obtain ⟨⟨hx, hb, hml, hown, hts⟩, hG, hA, hlk, hEv⟩ := F
  obtain ⟨q0, hq⟩ := wd_get h
  exact va_iald hx hb hG.1 hP q0 2 hq rfl hin hdg kk
theorem x_bald (F : wd_Fx p s m args meth c cc nL Ts own D cy sk sv A) (hP : va_P D vwCl (wd_pl w) H) {n : Nat} {f : Nat → Int32} (h : wd_at w a (.inl (cy 0, n, .inl f))) {i : Int32} (hin : vp_in i n) (hdg : decode cc pc = .ok (.baload, 1))
    (kk : W p l e R s m args below meth c H locs cells slots Q (F0 m (pc + 1) ls (.int (f i.toNatClampNeg) :: rest))) : W p l e R s m args below meth c H locs cells slots Q (F0 m pc ls (.int i :: .ref a :: rest)) := by
  obtain ⟨⟨hx, hb, hml, hown, hts⟩, hG, hA, hlk, hEv⟩ := F
  obtain ⟨q0, hq⟩ := wd_get h
  exact va_bald hx hb hG.1 hP q0 0 hq rfl hin hdg kk
theorem x_zald (F : wd_Fx p s m args meth c cc nL Ts own D cy sk sv A) (hP : va_P D vwCl (wd_pl w) H) {n : Nat} {f : Nat → Int32} (h : wd_at w a (.inl (cy 4, n, .inl f))) {i : Int32} (hin : vp_in i n) (hdg : decode cc pc = .ok (.baload, 1))
    (kk : W p l e R s m args below meth c H locs cells slots Q (F0 m (pc + 1) ls (.int (f i.toNatClampNeg) :: rest))) : W p l e R s m args below meth c H locs cells slots Q (F0 m pc ls (.int i :: .ref a :: rest)) := by
  obtain ⟨⟨hx, hb, hml, hown, hts⟩, hG, hA, hlk, hEv⟩ := F
  obtain ⟨q0, hq⟩ := wd_get h
  exact va_zald hx hb hG.1 hP q0 4 hq rfl hin hdg kk
theorem x_cald (F : wd_Fx p s m args meth c cc nL Ts own D cy sk sv A) (hP : va_P D vwCl (wd_pl w) H) {n : Nat} {f : Nat → Int32} (h : wd_at w a (.inl (cy 1, n, .inl f))) {i : Int32} (hin : vp_in i n) (hdg : decode cc pc = .ok (.caload, 1))
    (kk : W p l e R s m args below meth c H locs cells slots Q (F0 m (pc + 1) ls (.int (f i.toNatClampNeg) :: rest))) : W p l e R s m args below meth c H locs cells slots Q (F0 m pc ls (.int i :: .ref a :: rest)) := by
  obtain ⟨⟨hx, hb, hml, hown, hts⟩, hG, hA, hlk, hEv⟩ := F
  obtain ⟨q0, hq⟩ := wd_get h
  exact va_cald hx hb hG.1 hP q0 1 hq rfl hin hdg kk
theorem x_lald (F : wd_Fx p s m args meth c cc nL Ts own D cy sk sv A) (hP : va_P D vwCl (wd_pl w) H) {n : Nat} {f : Nat → Int64} (h : wd_at w a (.inl (cy 3, n, .inr (.inl f)))) {i : Int32} (hin : vp_in i n) (hdg : decode cc pc = .ok (.laload, 1))
    (kk : W p l e R s m args below meth c H locs cells slots Q (F0 m (pc + 1) ls (.long (f i.toNatClampNeg) :: rest))) : W p l e R s m args below meth c H locs cells slots Q (F0 m pc ls (.int i :: .ref a :: rest)) := by
  obtain ⟨⟨hx, hb, hml, hown, hts⟩, hG, hA, hlk, hEv⟩ := F
  obtain ⟨q0, hq⟩ := wd_get h
  exact va_lald hx hb hG.1 hP q0 3 hq rfl hin hdg kk
theorem x_iast (F : wd_Fx p s m args meth c cc nL Ts own D cy sk sv A) (hP : va_P D vwCl (wd_pl w) H) (hD : va_D A (wd_pl w)) (hS : va_S A s.heap H locs) {n : Nat} {f : Nat → Int32} (h : wd_at w a (.inl (cy 2, n, .inl f))) {i : Int32} {x : Int32} (hin : vp_in i n) (hdg : decode cc pc = .ok (.iastore, 1))
    (kk : ∀ (H1 : Heap) (locs1 : List Loc), va_P D vwCl (wd_pl (wd_put w a (.inl (cy 2, n, .inl (upd f i.toNatClampNeg x))))) H1 → va_D A (wd_pl (wd_put w a (.inl (cy 2, n, .inl (upd f i.toNatClampNeg x))))) → va_S A s.heap H1 locs1 → W p l e R s m args below meth c H1 locs1 cells slots Q (F0 m (pc + 1) ls rest)) : W p l e R s m args below meth c H locs cells slots Q (F0 m pc ls (.int x :: .int i :: .ref a :: rest)) := by
  obtain ⟨⟨hx, hb, hml, hown, hts⟩, hG, hA, hlk, hEv⟩ := F
  obtain ⟨q0, hq⟩ := wd_get h
  refine va_iast hx hb hG.1 hP hD hS q0 2 hq rfl hin hdg (fun H1 locs1 hP1 hD1 hS1 => ?_)
  rw [wd_set hD h hq] at hP1 hD1
  exact kk H1 locs1 hP1 hD1 hS1
theorem x_bast (F : wd_Fx p s m args meth c cc nL Ts own D cy sk sv A) (hP : va_P D vwCl (wd_pl w) H) (hD : va_D A (wd_pl w)) (hS : va_S A s.heap H locs) {n : Nat} {f : Nat → Int32} (h : wd_at w a (.inl (cy 0, n, .inl f))) {i : Int32} {x : Int32} (hin : vp_in i n) (hdg : decode cc pc = .ok (.bastore, 1))
    (kk : ∀ (H1 : Heap) (locs1 : List Loc), va_P D vwCl (wd_pl (wd_put w a (.inl (cy 0, n, .inl (upd f i.toNatClampNeg (vp_nar .byte x)))))) H1 → va_D A (wd_pl (wd_put w a (.inl (cy 0, n, .inl (upd f i.toNatClampNeg (vp_nar .byte x)))))) → va_S A s.heap H1 locs1 → W p l e R s m args below meth c H1 locs1 cells slots Q (F0 m (pc + 1) ls rest)) : W p l e R s m args below meth c H locs cells slots Q (F0 m pc ls (.int x :: .int i :: .ref a :: rest)) := by
  obtain ⟨⟨hx, hb, hml, hown, hts⟩, hG, hA, hlk, hEv⟩ := F
  obtain ⟨q0, hq⟩ := wd_get h
  refine va_bast hx hb hG.1 hP hD hS q0 0 hq rfl hin hdg (fun H1 locs1 hP1 hD1 hS1 => ?_)
  rw [wd_set hD h hq] at hP1 hD1
  exact kk H1 locs1 hP1 hD1 hS1
theorem x_zast (F : wd_Fx p s m args meth c cc nL Ts own D cy sk sv A) (hP : va_P D vwCl (wd_pl w) H) (hD : va_D A (wd_pl w)) (hS : va_S A s.heap H locs) {n : Nat} {f : Nat → Int32} (h : wd_at w a (.inl (cy 4, n, .inl f))) {i : Int32} {x : Int32} (hin : vp_in i n) (hdg : decode cc pc = .ok (.bastore, 1))
    (kk : ∀ (H1 : Heap) (locs1 : List Loc), va_P D vwCl (wd_pl (wd_put w a (.inl (cy 4, n, .inl (upd f i.toNatClampNeg (vp_nar .boolean x)))))) H1 → va_D A (wd_pl (wd_put w a (.inl (cy 4, n, .inl (upd f i.toNatClampNeg (vp_nar .boolean x)))))) → va_S A s.heap H1 locs1 → W p l e R s m args below meth c H1 locs1 cells slots Q (F0 m (pc + 1) ls rest)) : W p l e R s m args below meth c H locs cells slots Q (F0 m pc ls (.int x :: .int i :: .ref a :: rest)) := by
  obtain ⟨⟨hx, hb, hml, hown, hts⟩, hG, hA, hlk, hEv⟩ := F
  obtain ⟨q0, hq⟩ := wd_get h
  refine va_zast hx hb hG.1 hP hD hS q0 4 hq rfl hin hdg (fun H1 locs1 hP1 hD1 hS1 => ?_)
  rw [wd_set hD h hq] at hP1 hD1
  exact kk H1 locs1 hP1 hD1 hS1
theorem x_cast (F : wd_Fx p s m args meth c cc nL Ts own D cy sk sv A) (hP : va_P D vwCl (wd_pl w) H) (hD : va_D A (wd_pl w)) (hS : va_S A s.heap H locs) {n : Nat} {f : Nat → Int32} (h : wd_at w a (.inl (cy 1, n, .inl f))) {i : Int32} {x : Int32} (hin : vp_in i n) (hdg : decode cc pc = .ok (.castore, 1))
    (kk : ∀ (H1 : Heap) (locs1 : List Loc), va_P D vwCl (wd_pl (wd_put w a (.inl (cy 1, n, .inl (upd f i.toNatClampNeg (vp_nar .char x)))))) H1 → va_D A (wd_pl (wd_put w a (.inl (cy 1, n, .inl (upd f i.toNatClampNeg (vp_nar .char x)))))) → va_S A s.heap H1 locs1 → W p l e R s m args below meth c H1 locs1 cells slots Q (F0 m (pc + 1) ls rest)) : W p l e R s m args below meth c H locs cells slots Q (F0 m pc ls (.int x :: .int i :: .ref a :: rest)) := by
  obtain ⟨⟨hx, hb, hml, hown, hts⟩, hG, hA, hlk, hEv⟩ := F
  obtain ⟨q0, hq⟩ := wd_get h
  refine va_cast hx hb hG.1 hP hD hS q0 1 hq rfl hin hdg (fun H1 locs1 hP1 hD1 hS1 => ?_)
  rw [wd_set hD h hq] at hP1 hD1
  exact kk H1 locs1 hP1 hD1 hS1
theorem x_last (F : wd_Fx p s m args meth c cc nL Ts own D cy sk sv A) (hP : va_P D vwCl (wd_pl w) H) (hD : va_D A (wd_pl w)) (hS : va_S A s.heap H locs) {n : Nat} {f : Nat → Int64} (h : wd_at w a (.inl (cy 3, n, .inr (.inl f)))) {i : Int32} {x : Int64} (hin : vp_in i n) (hdg : decode cc pc = .ok (.lastore, 1))
    (kk : ∀ (H1 : Heap) (locs1 : List Loc), va_P D vwCl (wd_pl (wd_put w a (.inl (cy 3, n, .inr (.inl (vp_updL f i.toNatClampNeg x)))))) H1 → va_D A (wd_pl (wd_put w a (.inl (cy 3, n, .inr (.inl (vp_updL f i.toNatClampNeg x)))))) → va_S A s.heap H1 locs1 → W p l e R s m args below meth c H1 locs1 cells slots Q (F0 m (pc + 1) ls rest)) : W p l e R s m args below meth c H locs cells slots Q (F0 m pc ls (.long x :: .int i :: .ref a :: rest)) := by
  obtain ⟨⟨hx, hb, hml, hown, hts⟩, hG, hA, hlk, hEv⟩ := F
  obtain ⟨q0, hq⟩ := wd_get h
  refine va_last hx hb hG.1 hP hD hS q0 3 hq rfl hin hdg (fun H1 locs1 hP1 hD1 hS1 => ?_)
  rw [wd_set hD h hq] at hP1 hD1
  exact kk H1 locs1 hP1 hD1 hS1
theorem x_aald (F : wd_Fx p s m args meth c cc nL Ts own D cy sk sv A) (hP : va_P D vwCl (wd_pl w) H) {n t0 : Nat} {C : String} {f : Nat → Option Nat} (h : wd_at w a (.inl (cy t0, n, .inr (.inr (.inr (.inr f)))))) (ht : (wd_tys cy)[t0]? = some (cy t0, .object C)) {i : Int32} (hin : vp_in i n) (hdg : decode cc pc = .ok (.aaload, 1))
    (kk : W p l e R s m args below meth c H locs cells slots Q (F0 m (pc + 1) ls (va_rf (f i.toNatClampNeg) :: rest))) : W p l e R s m args below meth c H locs cells slots Q (F0 m pc ls (.int i :: .ref a :: rest)) := by
  obtain ⟨⟨hx, hb, hml, hown, hts⟩, hG, hA, hlk, hEv⟩ := F
  obtain ⟨q0, hq⟩ := wd_get h
  exact va_aldq hx hb hG.1 hP q0 t0 hq ht hin hdg kk
theorem x_aast (F : wd_Fx p s m args meth c cc nL Ts own D cy sk sv A) (hP : va_P D vwCl (wd_pl w) H) (hD : va_D A (wd_pl w)) (hS : va_S A s.heap H locs) {n t0 ci v : Nat} {r : vw_C} {f : Nat → Option Nat} {vs : List Value} (h : wd_at w a (.inl (cy t0, n, .inr (.inr (.inr (.inr f)))))) (ht : (wd_tys cy)[t0]? = some (cy t0, .object r.1)) (hv : wd_at w v (.inr (ci, vs))) (hc : vwCl[ci]? = some r) {i : Int32} (hin : vp_in i n) (hdg : decode cc pc = .ok (.aastore, 1))
    (kk : ∀ (H1 : Heap) (locs1 : List Loc), va_P D vwCl (wd_pl (wd_put w a (.inl (cy t0, n, .inr (.inr (.inr (.inr (va_up f i.toNatClampNeg (some v))))))))) H1 → va_D A (wd_pl (wd_put w a (.inl (cy t0, n, .inr (.inr (.inr (.inr (va_up f i.toNatClampNeg (some v))))))))) → va_S A s.heap H1 locs1 → W p l e R s m args below meth c H1 locs1 cells slots Q (F0 m (pc + 1) ls rest)) : W p l e R s m args below meth c H locs cells slots Q (F0 m pc ls (.ref v :: .int i :: .ref a :: rest)) := by
  obtain ⟨⟨hx, hb, hml, hown, hts⟩, hG, hA, hlk, hEv⟩ := F
  obtain ⟨q0, hq⟩ := wd_get h
  obtain ⟨q1, hq1⟩ := wd_get hv
  refine va_astq hx hb hG.1 hP hD hS q0 t0 q1 ci hq ht hq1 hc hin hdg (fun H1 locs1 hP1 hD1 hS1 => ?_)
  rw [wd_set hD h hq] at hP1 hD1
  exact kk H1 locs1 hP1 hD1 hS1
theorem x_alen (F : wd_Fx p s m args meth c cc nL Ts own D cy sk sv A) (hP : va_P D vwCl (wd_pl w) H) {t0 : Nat} {x : vp_A} {ty : FieldType} (h : wd_at w a (.inl (cy t0, x))) (ht : (wd_tys cy)[t0]? = some (cy t0, ty)) {v : Int32} (hv : Int32.ofNat x.1 = v) (hdg : decode cc pc = .ok (.arraylength, 1))
    (kk : W p l e R s m args below meth c H locs cells slots Q (F0 m (pc + 1) ls (.int v :: rest))) : W p l e R s m args below meth c H locs cells slots Q (F0 m pc ls (.ref a :: rest)) := by
  obtain ⟨⟨hx, hb, hml, hown, hts⟩, hG, hA, hlk, hEv⟩ := F
  obtain ⟨q0, hq⟩ := wd_get h
  exact va_alen hx hb hG.1 hP q0 t0 hq ht hv hdg kk
theorem x_new (F : wd_Fx p s m args meth c cc nL Ts own D cy sk sv A) (hP : va_P D vwCl (wd_pl w) H) (hD : va_D A (wd_pl w)) (hS : va_S A s.heap H locs) {C : String} {T : u_T} {N ci index : Nat} {fs : List Value} (hc : vwCl[ci]? = some (C, T, N)) (hin : ∀ w ∈ u_ws C T N, w ∈ Ts) {ty0 : Nat → FieldType} (hty : ∀ k, k < N → parseFieldDescriptor (T k).2.2.1 = some (ty0 k)) (hcl : Cond.classLink own index C ∈ Ts) (hinst : Cond.instantiable C N ∈ Ts) (hini : Cond.initialized C ∈ Ts) (hfs : ∀ j, j < N → defaultValue (ty0 j) = vp_V fs j) (hcells : cells + 1 ≤ R.cells) (hslots : slots + N ≤ R.slots) (hdg : decode cc pc = .ok (.new index, 3))
    (kk : ∀ (q : Nat) (H1 : Heap), q ∉ w.1 → va_P D vwCl (wd_pl (wd_add w q (.inr (ci, fs)))) H1 → va_D A (wd_pl (wd_add w q (.inr (ci, fs)))) → va_S A s.heap H1 locs → W p l e R s m args below meth c H1 locs (cells + 1) (slots + N) Q (F0 m (pc + 3) ls (.ref q :: rest))) : W p l e R s m args below meth c H locs cells slots Q (F0 m pc ls rest) := by
  obtain ⟨⟨hx, hb, hml, hown, hts⟩, hG, hA, hlk, hEv⟩ := F
  refine va_new hx hb hts hin ty0 hty hown (hts _ hcl) (hts _ hinst) (hts _ hini) hG.1 hP hD hS hA hc hfs hcells hslots hdg (fun q H1 hP1 hD1 hS1 => ?_)
  have hq := wd_fresh hD1
  rw [wd_push hq] at hP1 hD1
  exact kk q H1 hq hP1 hD1 hS1
theorem wd_cls {U : State} {cA : ClassId} {ty : FieldType} {t0 : Nat} (hK : va_K D vwCl (wd_tys cy ++ [(cA, ty)]) U) (hG : va_K D vwCl (wd_tys cy) U) (h0 : (wd_tys cy)[t0]? = some (cy t0, ty)) : cA = cy t0 := by
  have h1 := (hK.2 (wd_tys cy).length (cA, ty) (by simp)).2
  have h2 := (hG.2 t0 _ h0).2
  cases ty with
  | object C =>
    obtain ⟨_, _, -, -, -, a1⟩ := h1
    obtain ⟨_, _, -, -, -, a2⟩ := h2
    exact Option.some.inj (a1.symm.trans a2)
  | _ => exact Option.some.inj (Eq.trans (Eq.symm h1) h2)
theorem x_newI (F : wd_Fx p s m args meth c cc nL Ts own D cy sk sv A) (hP : va_P D vwCl (wd_pl w) H) (hD : va_D A (wd_pl w)) (hS : va_S A s.heap H locs) (harr : Cond.arrayClass .int ∈ Ts) {n : Int32} {N : Nat} (hn : ¬ n < 0) (hN : n.toNatClampNeg = N) (hbytes : N * 8 ≤ 536870912) (hcells : cells + 1 ≤ R.cells) (hslots : slots + N ≤ R.slots) (hdg : decode cc pc = .ok (.newarray .int, 2))
    (kk : ∀ (q : Nat) (H1 : Heap), q ∉ w.1 → va_P D vwCl (wd_pl (wd_add w q (.inl (cy 2, N, .inl (fun _ => 0))))) H1 → va_D A (wd_pl (wd_add w q (.inl (cy 2, N, .inl (fun _ => 0))))) → va_S A s.heap H1 locs → W p l e R s m args below meth c H1 locs (cells + 1) (slots + N) Q (F0 m (pc + 2) ls (.ref q :: rest))) : W p l e R s m args below meth c H locs cells slots Q (F0 m pc ls (.int n :: rest)) := by
  obtain ⟨⟨hx, hb, hml, hown, hts⟩, hG, hA, hlk, hEv⟩ := F
  refine va_newa (a0 := (N, .inl (fun _ => 0))) hx hb (atype := .int) (hts _ harr) (ty := .int) rfl hG.1 hP hD hS hA (fun cA => by first | rfl | simp [vp_cell, defaultValue]) hn hN (Nat.le_trans (Nat.mul_le_mul_left N (by decide)) hbytes) hcells hslots hdg (fun q cA H1 hK1 hP1 hD1 hS1 => ?_)
  have hc := wd_cls hK1 hG.1 (t0 := 2) rfl
  subst hc
  have hq := wd_fresh hD1
  rw [wd_push hq] at hP1 hD1
  exact kk q H1 hq hP1 hD1 hS1
theorem x_newB (F : wd_Fx p s m args meth c cc nL Ts own D cy sk sv A) (hP : va_P D vwCl (wd_pl w) H) (hD : va_D A (wd_pl w)) (hS : va_S A s.heap H locs) (harr : Cond.arrayClass .byte ∈ Ts) {n : Int32} {N : Nat} (hn : ¬ n < 0) (hN : n.toNatClampNeg = N) (hbytes : N * 8 ≤ 536870912) (hcells : cells + 1 ≤ R.cells) (hslots : slots + N ≤ R.slots) (hdg : decode cc pc = .ok (.newarray .byte, 2))
    (kk : ∀ (q : Nat) (H1 : Heap), q ∉ w.1 → va_P D vwCl (wd_pl (wd_add w q (.inl (cy 0, N, .inl (fun _ => 0))))) H1 → va_D A (wd_pl (wd_add w q (.inl (cy 0, N, .inl (fun _ => 0))))) → va_S A s.heap H1 locs → W p l e R s m args below meth c H1 locs (cells + 1) (slots + N) Q (F0 m (pc + 2) ls (.ref q :: rest))) : W p l e R s m args below meth c H locs cells slots Q (F0 m pc ls (.int n :: rest)) := by
  obtain ⟨⟨hx, hb, hml, hown, hts⟩, hG, hA, hlk, hEv⟩ := F
  refine va_newa (a0 := (N, .inl (fun _ => 0))) hx hb (atype := .byte) (hts _ harr) (ty := .byte) rfl hG.1 hP hD hS hA (fun cA => by first | rfl | simp [vp_cell, defaultValue]) hn hN (Nat.le_trans (Nat.mul_le_mul_left N (by decide)) hbytes) hcells hslots hdg (fun q cA H1 hK1 hP1 hD1 hS1 => ?_)
  have hc := wd_cls hK1 hG.1 (t0 := 0) rfl
  subst hc
  have hq := wd_fresh hD1
  rw [wd_push hq] at hP1 hD1
  exact kk q H1 hq hP1 hD1 hS1
theorem x_newC (F : wd_Fx p s m args meth c cc nL Ts own D cy sk sv A) (hP : va_P D vwCl (wd_pl w) H) (hD : va_D A (wd_pl w)) (hS : va_S A s.heap H locs) (harr : Cond.arrayClass .char ∈ Ts) {n : Int32} {N : Nat} (hn : ¬ n < 0) (hN : n.toNatClampNeg = N) (hbytes : N * 8 ≤ 536870912) (hcells : cells + 1 ≤ R.cells) (hslots : slots + N ≤ R.slots) (hdg : decode cc pc = .ok (.newarray .char, 2))
    (kk : ∀ (q : Nat) (H1 : Heap), q ∉ w.1 → va_P D vwCl (wd_pl (wd_add w q (.inl (cy 1, N, .inl (fun _ => 0))))) H1 → va_D A (wd_pl (wd_add w q (.inl (cy 1, N, .inl (fun _ => 0))))) → va_S A s.heap H1 locs → W p l e R s m args below meth c H1 locs (cells + 1) (slots + N) Q (F0 m (pc + 2) ls (.ref q :: rest))) : W p l e R s m args below meth c H locs cells slots Q (F0 m pc ls (.int n :: rest)) := by
  obtain ⟨⟨hx, hb, hml, hown, hts⟩, hG, hA, hlk, hEv⟩ := F
  refine va_newa (a0 := (N, .inl (fun _ => 0))) hx hb (atype := .char) (hts _ harr) (ty := .char) rfl hG.1 hP hD hS hA (fun cA => by first | rfl | simp [vp_cell, defaultValue]) hn hN (Nat.le_trans (Nat.mul_le_mul_left N (by decide)) hbytes) hcells hslots hdg (fun q cA H1 hK1 hP1 hD1 hS1 => ?_)
  have hc := wd_cls hK1 hG.1 (t0 := 1) rfl
  subst hc
  have hq := wd_fresh hD1
  rw [wd_push hq] at hP1 hD1
  exact kk q H1 hq hP1 hD1 hS1
theorem x_newZ (F : wd_Fx p s m args meth c cc nL Ts own D cy sk sv A) (hP : va_P D vwCl (wd_pl w) H) (hD : va_D A (wd_pl w)) (hS : va_S A s.heap H locs) (harr : Cond.arrayClass .boolean ∈ Ts) {n : Int32} {N : Nat} (hn : ¬ n < 0) (hN : n.toNatClampNeg = N) (hbytes : N * 8 ≤ 536870912) (hcells : cells + 1 ≤ R.cells) (hslots : slots + N ≤ R.slots) (hdg : decode cc pc = .ok (.newarray .boolean, 2))
    (kk : ∀ (q : Nat) (H1 : Heap), q ∉ w.1 → va_P D vwCl (wd_pl (wd_add w q (.inl (cy 4, N, .inl (fun _ => 0))))) H1 → va_D A (wd_pl (wd_add w q (.inl (cy 4, N, .inl (fun _ => 0))))) → va_S A s.heap H1 locs → W p l e R s m args below meth c H1 locs (cells + 1) (slots + N) Q (F0 m (pc + 2) ls (.ref q :: rest))) : W p l e R s m args below meth c H locs cells slots Q (F0 m pc ls (.int n :: rest)) := by
  obtain ⟨⟨hx, hb, hml, hown, hts⟩, hG, hA, hlk, hEv⟩ := F
  refine va_newa (a0 := (N, .inl (fun _ => 0))) hx hb (atype := .boolean) (hts _ harr) (ty := .boolean) rfl hG.1 hP hD hS hA (fun cA => by first | rfl | simp [vp_cell, defaultValue]) hn hN (Nat.le_trans (Nat.mul_le_mul_left N (by decide)) hbytes) hcells hslots hdg (fun q cA H1 hK1 hP1 hD1 hS1 => ?_)
  have hc := wd_cls hK1 hG.1 (t0 := 4) rfl
  subst hc
  have hq := wd_fresh hD1
  rw [wd_push hq] at hP1 hD1
  exact kk q H1 hq hP1 hD1 hS1
theorem x_newJ (F : wd_Fx p s m args meth c cc nL Ts own D cy sk sv A) (hP : va_P D vwCl (wd_pl w) H) (hD : va_D A (wd_pl w)) (hS : va_S A s.heap H locs) (harr : Cond.arrayClass .long ∈ Ts) {n : Int32} {N : Nat} (hn : ¬ n < 0) (hN : n.toNatClampNeg = N) (hbytes : N * 8 ≤ 536870912) (hcells : cells + 1 ≤ R.cells) (hslots : slots + N ≤ R.slots) (hdg : decode cc pc = .ok (.newarray .long, 2))
    (kk : ∀ (q : Nat) (H1 : Heap), q ∉ w.1 → va_P D vwCl (wd_pl (wd_add w q (.inl (cy 3, N, .inr (.inl (fun _ => 0)))))) H1 → va_D A (wd_pl (wd_add w q (.inl (cy 3, N, .inr (.inl (fun _ => 0)))))) → va_S A s.heap H1 locs → W p l e R s m args below meth c H1 locs (cells + 1) (slots + N) Q (F0 m (pc + 2) ls (.ref q :: rest))) : W p l e R s m args below meth c H locs cells slots Q (F0 m pc ls (.int n :: rest)) := by
  obtain ⟨⟨hx, hb, hml, hown, hts⟩, hG, hA, hlk, hEv⟩ := F
  refine va_newa (a0 := (N, .inr (.inl (fun _ => 0)))) hx hb (atype := .long) (hts _ harr) (ty := .long) rfl hG.1 hP hD hS hA (fun cA => by first | rfl | simp [vp_cell, defaultValue]) hn hN (Nat.le_trans (Nat.mul_le_mul_left N (by decide)) hbytes) hcells hslots hdg (fun q cA H1 hK1 hP1 hD1 hS1 => ?_)
  have hc := wd_cls hK1 hG.1 (t0 := 3) rfl
  subst hc
  have hq := wd_fresh hD1
  rw [wd_push hq] at hP1 hD1
  exact kk q H1 hq hP1 hD1 hS1
theorem x_newA (F : wd_Fx p s m args meth c cc nL Ts own D cy sk sv A) (hP : va_P D vwCl (wd_pl w) H) (hD : va_D A (wd_pl w)) (hS : va_S A s.heap H locs) {C : String} {index t0 : Nat} (hcl : Cond.classLink own index C ∈ Ts) (hC : C ∈ [RX0, RX3, RX5, RX6, RX8]) (ht : (wd_tys cy)[t0]? = some (cy t0, .object C)) {n : Int32} {N : Nat} (hn : ¬ n < 0) (hN : n.toNatClampNeg = N) (hbytes : N * 4 ≤ 536870912) (hcells : cells + 1 ≤ R.cells) (hslots : slots + N ≤ R.slots) (hdg : decode cc pc = .ok (.anewarray index, 3))
    (kk : ∀ (q : Nat) (H1 : Heap), q ∉ w.1 → va_P D vwCl (wd_pl (wd_add w q (.inl (cy t0, N, .inr (.inr (.inr (.inr (fun _ => none)))))))) H1 → va_D A (wd_pl (wd_add w q (.inl (cy t0, N, .inr (.inr (.inr (.inr (fun _ => none)))))))) → va_S A s.heap H1 locs → W p l e R s m args below meth c H1 locs (cells + 1) (slots + N) Q (F0 m (pc + 3) ls (.ref q :: rest))) : W p l e R s m args below meth c H locs cells slots Q (F0 m pc ls (.int n :: rest)) := by
  obtain ⟨⟨hx, hb, hml, hown, hts⟩, hG, hA, hlk, hEv⟩ := F
  refine va_newq hx hb hown (hts _ hcl) (hG.2.2.1 C hC) hG.1 hP hD hS hA hn hN hbytes hcells hslots hdg (fun q cA H1 hK1 hP1 hD1 hS1 => ?_)
  have hc := wd_cls hK1 hG.1 (t0 := t0) ht
  subst hc
  have hq := wd_fresh hD1
  rw [wd_push hq] at hP1 hD1
  exact kk q H1 hq hP1 hD1 hS1
/-- behind a call: the answer, the new world -/
theorem x_after {st0 : List Value} {mc ms sz : Nat} {w : Wd} {post : Option Value → Wd → Prop} {av : Array Value} (hP : va_P D vwCl (wd_pl w) H) (hD : va_D A (wd_pl w)) (hS : va_S A s.heap H locs) (hA : ∀ q : Nat, s.heap.size ≤ q → A q) (hsz : H.size = sz)
    (hr : va_Run p l e R s m args below meth c H locs cells slots mc ms (F0 m pc ls st0) rest (wd_Q D w sz post av) (va_A (wd_pl w) sz))
    (kk : ∀ (v : Option Value) (w1 : Wd), post v w1 → ∀ (H1 : Heap) (locs1 : List Loc), va_P D vwCl (wd_pl w1) H1 → va_D A (wd_pl w1) → va_S A s.heap H1 locs1 → W p l e R s m args below meth c H1 locs1 (cells + mc) (slots + ms) Q (F0 m (pc + 3) ls (v.toList ++ rest))) : W p l e R s m args below meth c H locs cells slots Q (F0 m pc ls st0) := by
  subst hsz
  have hfree : ∀ q : Nat, va_A (wd_pl w) H.size q → A q := fun q hq => by
    rcases hq with ⟨k, e9, hk⟩ | hq
    · exact hD.2 k _ hk
    · exact hA q (Nat.le_trans hS.1 hq)
  intro T hT X
  obtain ⟨v, st₀, t, T', L, h0, X', hL, e1, e2, ⟨⟨v', w1, hv, hp, hP1, hD1⟩, hz, hk⟩, st⟩ := hr T hT X
  cases hv
  rw [h0] at hz hk
  have hS1 : va_S A s.heap t.heap (locs ++ L) := by
    refine ⟨Nat.le_trans hS.1 hz, fun q h1 h2 => ?_, fun x hx => ?_⟩
    · exact (hk q (Nat.lt_of_lt_of_le h1 hS.1) (fun h3 => h2 (hfree q h3))).trans (hS.2.1 q h1 h2)
    · rcases List.mem_append.mp hx with h4 | h4
      · exact hS.2.2 x h4
      · exact hfree _ (hL x h4)
  obtain ⟨t2, a1, b1⟩ := kk v w1 hp t.heap (locs ++ L) hP1 (hD1.weaken (fun k q hq h9 => hfree _ h9)) hS1 T' e1 X'
  exact ⟨t2, st _ a1, b1⟩
/-- a callee's start, met -/
theorem wd_P.met {av : List Value} (hP : va_P D vwCl (wd_pl w) H) (hD : va_D A (wd_pl w)) (hS : va_S A s.heap H locs) (hA : ∀ q : Nat, s.heap.size ≤ q → A q) (hG : wd_Gd D cy s) (hEv : wd_Ev sk sv A s s.heap) (U : State) (hU : U.heap = H) (hW : s.WarmedH U.vm) : wd_P D cy sk sv w H.size av av.toArray U :=
  ⟨rfl, by rw [hU], by rw [hU]; exact hP, hD.weaken (fun _ _ _ _ => trivial), hG.warm hW, by rw [hU]; exact hEv.go hW hS.2.1 (fun q hq => by
    rcases hq with ⟨k, e9, hk⟩ | hq
    · exact hD.2 k _ hk
    · exact hA q (Nat.le_trans hS.1 hq))⟩
theorem wd_P.blind {sz : Nat} {av : List Value} : FrameBlind (wd_P D cy sk sv w sz av) := fun a U g mk q => ⟨q.1, q.2.1, q.2.2.1, q.2.2.2.1, q.2.2.2.2.1.calling g mk a, q.2.2.2.2.2.calling g mk a⟩
theorem x_callV (F : wd_Fx p s m args meth c cc nL Ts own D cy sk sv A) (hP : va_P D vwCl (wd_pl w) H) (hD : va_D A (wd_pl w)) (hS : va_S A s.heap H locs) {y : MethodName} {bytes : ByteArray} {maxL index n : Nat} {ret : Option FieldType} {wsm ws' : List Cond} {rm : Room} {As : List Value} {post : Option Value → Wd → Prop} {C : String} {N ci b : Nat} {T : u_T} {fs : List Value} (hM : Ct l D cy sk sv y wsm rm (.ref b :: As) w post) (hT : GoodIn Ts (wsV own index C y wsm)) (hw : wsm = Cond.code y bytes maxL ret :: ws') (hC : y.cls = C) (hd : y.cls ≠ "java/lang/invoke/MethodHandle" ∧ y.cls ≠ "java/lang/invoke/VarHandle" ∧ (parseMethodDescriptor y.desc).map (fun d => d.parameters.length) = some n) (hR : rm.frames + 1 ≤ R.frames ∧ 8 + (maxL + 11) + rm.locals ≤ R.locals) (hn : As.length = n) (hls : ls.size = nL) (hrm : (rest.map fun v => v.category).sum ≤ 8) (h : wd_at w b (.inr (ci, fs))) (hc : vwCl[ci]? = some (C, T, N)) (hdg : decode cc pc = .ok (.invokevirtual index, 3)) {st0 : List Value} (hst : st0 = As.reverse ++ .ref b :: rest)
    (hroom : cells + rm.cells ≤ R.cells ∧ slots + rm.slots ≤ R.slots) (kk : ∀ (v : Option Value) (w1 : Wd), post v w1 → ∀ (H1 : Heap) (locs1 : List Loc), va_P D vwCl (wd_pl w1) H1 → va_D A (wd_pl w1) → va_S A s.heap H1 locs1 → W p l e R s m args below meth c H1 locs1 (cells + rm.cells) (slots + rm.slots) Q (F0 m (pc + 3) ls (v.toList ++ rest))) : W p l e R s m args below meth c H locs cells slots Q (F0 m pc ls st0) := by
  obtain ⟨hfix, hG, hA, hlk, hEv⟩ := F
  obtain ⟨q0, hq⟩ := wd_get h
  exact x_after hP hD hS hA rfl (va_runV (g := F0 m pc ls st0) hfix (hM H.size) (cwV n hfix.2.2.2.2 hT hw rfl rfl ⟨hC, hd⟩ hR) ⟨wd_P.blind, va_recv hG.1 hP hc hq, fun U hU hW => wd_P.met hP hD hS hA hG hEv U hU hW⟩ rfl hn hls hst (lv_room hrm) hdg hroom) kk
theorem x_callS (F : wd_Fx p s m args meth c cc nL Ts own D cy sk sv A) (hP : va_P D vwCl (wd_pl w) H) (hD : va_D A (wd_pl w)) (hS : va_S A s.heap H locs) {y : MethodName} {bytes : ByteArray} {maxL index n : Nat} {ret : Option FieldType} {wsm ws' : List Cond} {rm : Room} {As : List Value} {post : Option Value → Wd → Prop} (hM : Ct l D cy sk sv y wsm rm As w post) (hT : GoodIn Ts (va_wsS own index y wsm)) (hw : wsm = Cond.code y bytes maxL ret :: ws') (hd : y.cls ≠ "java/lang/invoke/MethodHandle" ∧ y.cls ≠ "java/lang/invoke/VarHandle" ∧ (parseMethodDescriptor y.desc).map (fun d => d.parameters.length) = some n) (hR : rm.frames + 1 ≤ R.frames ∧ 8 + (maxL + 11) + rm.locals ≤ R.locals) (hn : As.length = n) (hls : ls.size = nL) (hrm : (rest.map fun v => v.category).sum ≤ 8) (hdg : decode cc pc = .ok (.invokestatic index, 3)) {st0 : List Value} (hst : st0 = As.reverse ++ rest)
    (hroom : cells + rm.cells ≤ R.cells ∧ slots + rm.slots ≤ R.slots) (kk : ∀ (v : Option Value) (w1 : Wd), post v w1 → ∀ (H1 : Heap) (locs1 : List Loc), va_P D vwCl (wd_pl w1) H1 → va_D A (wd_pl w1) → va_S A s.heap H1 locs1 → W p l e R s m args below meth c H1 locs1 (cells + rm.cells) (slots + rm.slots) Q (F0 m (pc + 3) ls (v.toList ++ rest))) : W p l e R s m args below meth c H locs cells slots Q (F0 m pc ls st0) := by
  obtain ⟨hfix, hG, hA, hlk, hEv⟩ := F
  exact x_after hP hD hS hA rfl (va_runS (g := F0 m pc ls st0) hfix (hM H.size) (va_cwS n hfix.2.2.2.2 hT hw rfl rfl hd hR) ⟨wd_P.blind, fun U hU hW => wd_P.met hP hD hS hA hG hEv U hU hW⟩ rfl hn hls hst (lv_room hrm) hdg hroom) kk
theorem x_callSN (F : wd_Fx p s m args meth c cc nL Ts own D cy sk sv A) (hP : va_P D vwCl (wd_pl w) H) (hD : va_D A (wd_pl w)) (hS : va_S A s.heap H locs) {y : MethodName} {bytes : ByteArray} {maxL index n : Nat} {ret : Option FieldType} {wsm ws' : List Cond} {rm : Room} {As : List Value} {post : Option Value → Wd → Prop} {host : String} (hM : Ct l D cy sk sv y wsm rm As w post) (hT : GoodIn Ts wsm) (hw : wsm = Cond.code y bytes maxL ret :: ws') (hnest : Cond.methodLinkNest own index y host ∈ wd_nest) (hini : Cond.initialized y.cls ∈ Ts) (hstat : Cond.static y ∈ Ts) (hd : y.cls ≠ "java/lang/invoke/MethodHandle" ∧ y.cls ≠ "java/lang/invoke/VarHandle" ∧ (parseMethodDescriptor y.desc).map (fun d => d.parameters.length) = some n) (hR : rm.frames + 1 ≤ R.frames ∧ 8 + (maxL + 11) + rm.locals ≤ R.locals) (hn : As.length = n) (hls : ls.size = nL) (hrm : (rest.map fun v => v.category).sum ≤ 8) (hdg : decode cc pc = .ok (.invokestatic index, 3)) {st0 : List Value} (hst : st0 = As.reverse ++ rest)
    (hroom : cells + rm.cells ≤ R.cells ∧ slots + rm.slots ≤ R.slots) (kk : ∀ (v : Option Value) (w1 : Wd), post v w1 → ∀ (H1 : Heap) (locs1 : List Loc), va_P D vwCl (wd_pl w1) H1 → va_D A (wd_pl w1) → va_S A s.heap H1 locs1 → W p l e R s m args below meth c H1 locs1 (cells + rm.cells) (slots + rm.slots) Q (F0 m (pc + 3) ls (v.toList ++ rest))) : W p l e R s m args below meth c H locs cells slots Q (F0 m pc ls st0) := by
  obtain ⟨hfix, hG, hA, hlk, hEv⟩ := F
  have hts := hfix.2.2.2.2
  exact x_after hP hD hS hA rfl (va_runSN (g := F0 m pc ls st0) hfix (hM H.size) ⟨va_cnB n hts hT hw rfl rfl (hG.2.1 _ hnest) (hts _ hini) hd hR, hts _ hstat, trivial⟩ ⟨wd_P.blind, fun U hU hW => wd_P.met hP hD hS hA hG hEv U hU hW⟩ rfl hn hls hst (lv_room hrm) hdg hroom) kk
theorem x_callI (F : wd_Fx p s m args meth c cc nL Ts own D cy sk sv A) (hP : va_P D vwCl (wd_pl w) H) (hD : va_D A (wd_pl w)) (hS : va_S A s.heap H locs) {y : MethodName} {bytes : ByteArray} {maxL index n : Nat} {ret : Option FieldType} {wsm ws' : List Cond} {rm : Room} {As : List Value} {post : Option Value → Wd → Prop} {b : Nat} (hM : Ct l D cy sk sv y wsm rm (.ref b :: As) w post) (hT : GoodIn Ts wsm) (hw : wsm = Cond.code y bytes maxL none :: ws') (hini : Cond.initialized y.cls ∈ Ts) (hl : Cond.methodLink own index y ∈ Ts) (hin : Cond.instanceMethod y ∈ Ts) (hy1 : y.name = "<init>") (hd : y.cls ≠ "java/lang/invoke/MethodHandle" ∧ y.cls ≠ "java/lang/invoke/VarHandle" ∧ (parseMethodDescriptor y.desc).map (fun d => d.parameters.length) = some n) (hR : rm.frames + 1 ≤ R.frames ∧ 8 + (maxL + 11) + rm.locals ≤ R.locals) (hn : As.length = n) (hls : ls.size = nL) (hrm : (rest.map fun v => v.category).sum ≤ 8) (hdg : decode cc pc = .ok (.invokespecial index, 3)) {st0 : List Value} (hst : st0 = As.reverse ++ .ref b :: rest)
    (hroom : cells + rm.cells ≤ R.cells ∧ slots + rm.slots ≤ R.slots) (kk : ∀ (v : Option Value) (w1 : Wd), post v w1 → ∀ (H1 : Heap) (locs1 : List Loc), va_P D vwCl (wd_pl w1) H1 → va_D A (wd_pl w1) → va_S A s.heap H1 locs1 → W p l e R s m args below meth c H1 locs1 (cells + rm.cells) (slots + rm.slots) Q (F0 m (pc + 3) ls (v.toList ++ rest))) : W p l e R s m args below meth c H locs cells slots Q (F0 m pc ls st0) := by
  obtain ⟨hfix, hG, hA, hlk, hEv⟩ := F
  have hts := hfix.2.2.2.2
  exact x_after hP hD hS hA rfl (va_runI (g := F0 m pc ls st0) hfix (hM H.size) (cwI n hts hT hw rfl rfl (hts _ hini) (hts _ hl) (hts _ hin) hy1 hd hR) ⟨wd_P.blind, fun U hU hW => wd_P.met hP hD hS hA hG hEv U hU hW⟩ rfl hn hls hst (lv_room hrm) hdg hroom) kk
theorem x_callIN (F : wd_Fx p s m args meth c cc nL Ts own D cy sk sv A) (hP : va_P D vwCl (wd_pl w) H) (hD : va_D A (wd_pl w)) (hS : va_S A s.heap H locs) {y : MethodName} {bytes : ByteArray} {maxL index n : Nat} {ret : Option FieldType} {wsm ws' : List Cond} {rm : Room} {As : List Value} {post : Option Value → Wd → Prop} {b : Nat} {host : String} (hM : Ct l D cy sk sv y wsm rm (.ref b :: As) w post) (hT : GoodIn Ts wsm) (hw : wsm = Cond.code y bytes maxL none :: ws') (hnest : Cond.methodLinkNest own index y host ∈ wd_nest) (hini : Cond.initialized y.cls ∈ Ts) (hin : Cond.instanceMethod y ∈ Ts) (hy1 : y.name = "<init>") (hd : y.cls ≠ "java/lang/invoke/MethodHandle" ∧ y.cls ≠ "java/lang/invoke/VarHandle" ∧ (parseMethodDescriptor y.desc).map (fun d => d.parameters.length) = some n) (hR : rm.frames + 1 ≤ R.frames ∧ 8 + (maxL + 11) + rm.locals ≤ R.locals) (hn : As.length = n) (hls : ls.size = nL) (hrm : (rest.map fun v => v.category).sum ≤ 8) (hdg : decode cc pc = .ok (.invokespecial index, 3)) {st0 : List Value} (hst : st0 = As.reverse ++ .ref b :: rest)
    (hroom : cells + rm.cells ≤ R.cells ∧ slots + rm.slots ≤ R.slots) (kk : ∀ (v : Option Value) (w1 : Wd), post v w1 → ∀ (H1 : Heap) (locs1 : List Loc), va_P D vwCl (wd_pl w1) H1 → va_D A (wd_pl w1) → va_S A s.heap H1 locs1 → W p l e R s m args below meth c H1 locs1 (cells + rm.cells) (slots + rm.slots) Q (F0 m (pc + 3) ls (v.toList ++ rest))) : W p l e R s m args below meth c H locs cells slots Q (F0 m pc ls st0) := by
  obtain ⟨hfix, hG, hA, hlk, hEv⟩ := F
  have hts := hfix.2.2.2.2
  exact x_after hP hD hS hA rfl (va_runIN (g := F0 m pc ls st0) hfix (hM H.size) ⟨va_cnB n hts hT hw rfl rfl (hG.2.1 _ hnest) (hts _ hini) hd hR, hy1, hts _ hin⟩ ⟨wd_P.blind, fun U hU hW => wd_P.met hP hD hS hA hG hEv U hU hW⟩ rfl hn hls hst (lv_room hrm) hdg hroom) kk
theorem x_objInit (F : wd_Fx p s m args meth c cc nL Ts own D cy sk sv A) {index : Nat} (hlink : Cond.methodLink own index objectInit ∈ Ts) (hinst : Cond.instanceMethod objectInit ∈ Ts) (hcode : Cond.code objectInit ⟨#[0xb1]⟩ 1 none ∈ Ts) (hls : ls.size = nL) (hdg : decode cc pc = .ok (.invokespecial index, 3)) (hframes : 1 ≤ R.frames) (hlocals : 2 * (F0 m pc ls (.ref a :: rest)).monitorRoom + (rest.map fun v => v.category).sum + 12 ≤ R.locals)
    (kk : W p l e R s m args below meth c H locs cells slots Q (F0 m (pc + 3) ls rest)) : W p l e R s m args below meth c H locs cells slots Q (F0 m pc ls (.ref a :: rest)) := by
  obtain ⟨⟨hx, hb, hml, hown, hts⟩, hG, hA, hlk, hEv⟩ := F
  refine W.objInit hx hb hown (hts _ hlink) (hts _ hinst) (hts _ hcode) rfl (by rw [hml]; exact hls) rfl hdg hframes hlocals ?_
  exact W.eq (g2 := F0 m (pc + 3) ls rest) rfl kk
theorem x_iret {w0 : Wd} {sz : Nat} {post : Option Value → Wd → Prop} (F : wd_Fx p s m args meth c cc nL Ts own D cy sk sv (va_A (wd_pl w0) sz)) (hP : va_P D vwCl (wd_pl w) H) (hD : va_D (va_A (wd_pl w0) sz) (wd_pl w)) (hS : va_S (va_A (wd_pl w0) sz) s.heap H locs) (hr : meth.sig.returnType = some .int) {v : Int32} (hp : post (some (.int v)) w) (hdg : decode cc pc = .ok (.ireturn, 1)) : W p l e R s m args below meth c H locs cells slots (MQ below (wd_Q D w0 sz post) args s cells slots (va_A (wd_pl w0) sz)) (F0 m pc ls [.int v]) := by
  obtain ⟨⟨hx, hb, hml, hown, hts⟩, hG, hA, hlk, hEv⟩ := F
  exact W.iret hx hb hr (fun t ht hW => ⟨⟨_, w, rfl, hp, by rw [ht]; exact hP, hD⟩, hS.F ht⟩) hS.2.2 hdg hlk
theorem x_lret {w0 : Wd} {sz : Nat} {post : Option Value → Wd → Prop} (F : wd_Fx p s m args meth c cc nL Ts own D cy sk sv (va_A (wd_pl w0) sz)) (hP : va_P D vwCl (wd_pl w) H) (hD : va_D (va_A (wd_pl w0) sz) (wd_pl w)) (hS : va_S (va_A (wd_pl w0) sz) s.heap H locs) (hr : meth.sig.returnType = some .long) {v : Int64} (hp : post (some (.long v)) w) (hdg : decode cc pc = .ok (.lreturn, 1)) : W p l e R s m args below meth c H locs cells slots (MQ below (wd_Q D w0 sz post) args s cells slots (va_A (wd_pl w0) sz)) (F0 m pc ls [.long v]) := by
  obtain ⟨⟨hx, hb, hml, hown, hts⟩, hG, hA, hlk, hEv⟩ := F
  exact W.lret hx hb hr (fun t ht hW => ⟨⟨_, w, rfl, hp, by rw [ht]; exact hP, hD⟩, hS.F ht⟩) hS.2.2 hdg hlk
theorem x_zret {w0 : Wd} {sz : Nat} {post : Option Value → Wd → Prop} (F : wd_Fx p s m args meth c cc nL Ts own D cy sk sv (va_A (wd_pl w0) sz)) (hP : va_P D vwCl (wd_pl w) H) (hD : va_D (va_A (wd_pl w0) sz) (wd_pl w)) (hS : va_S (va_A (wd_pl w0) sz) s.heap H locs) {ty : FieldType} (hr : meth.sig.returnType = some ty) {v : Int32} (hn : narrow ty (.int v) = .int v) (hp : post (some (.int v)) w) (hdg : decode cc pc = .ok (.ireturn, 1)) : W p l e R s m args below meth c H locs cells slots (MQ below (wd_Q D w0 sz post) args s cells slots (va_A (wd_pl w0) sz)) (F0 m pc ls [.int v]) := by
  obtain ⟨⟨hx, hb, hml, hown, hts⟩, hG, hA, hlk, hEv⟩ := F
  exact W.zret hx hb hr hn (fun t ht hW => ⟨⟨_, w, rfl, hp, by rw [ht]; exact hP, hD⟩, hS.F ht⟩) hS.2.2 hdg hlk
theorem x_vret {w0 : Wd} {sz : Nat} {post : Option Value → Wd → Prop} (F : wd_Fx p s m args meth c cc nL Ts own D cy sk sv (va_A (wd_pl w0) sz)) (hP : va_P D vwCl (wd_pl w) H) (hD : va_D (va_A (wd_pl w0) sz) (wd_pl w)) (hS : va_S (va_A (wd_pl w0) sz) s.heap H locs) (hr : meth.sig.returnType = none) (hp : post none w) (hdg : decode cc pc = .ok (.return_, 1)) : W p l e R s m args below meth c H locs cells slots (MQ below (wd_Q D w0 sz post) args s cells slots (va_A (wd_pl w0) sz)) (F0 m pc ls []) := by
  obtain ⟨⟨hx, hb, hml, hown, hts⟩, hG, hA, hlk, hEv⟩ := F
  exact W.vret hx hb hr (fun t ht hW => ⟨⟨_, w, rfl, hp, by rw [ht]; exact hP, hD⟩, hS.F ht⟩) hS.2.2 hdg hlk
theorem x_aret {w0 : Wd} {sz : Nat} {post : Option Value → Wd → Prop} (F : wd_Fx p s m args meth c cc nL Ts own D cy sk sv (va_A (wd_pl w0) sz)) (hP : va_P D vwCl (wd_pl w) H) (hD : va_D (va_A (wd_pl w0) sz) (wd_pl w)) (hS : va_S (va_A (wd_pl w0) sz) s.heap H locs) {rt : FieldType} (hr : meth.sig.returnType = some rt) (hrt : (∃ n, rt = .object n) ∨ ∃ t, rt = .array t) {v : Value} (hv : v = .null ∨ ∃ a, v = .ref a) (hp : post (some v) w) (hdg : decode cc pc = .ok (.areturn, 1)) : W p l e R s m args below meth c H locs cells slots (MQ below (wd_Q D w0 sz post) args s cells slots (va_A (wd_pl w0) sz)) (F0 m pc ls [v]) := by
  obtain ⟨⟨hx, hb, hml, hown, hts⟩, hG, hA, hlk, hEv⟩ := F
  exact W.aret hx hb hr hrt hv (fun t ht hW => ⟨⟨_, w, rfl, hp, by rw [ht]; exact hP, hD⟩, hS.F ht⟩) hS.2.2 hdg hlk
end WDR
/-- a contract out of the walk of its body -/
theorem Ct.of {l : Launch} {D : va_G} {cy : Nat → ClassId} {sk sv : Nat → Nat} {y : MethodName} {ws ws' : List Cond} {rm : Room} {av : List Value} {w : Wd} {post : Option Value → Wd → Prop} {cc : ByteArray} {maxL : Nat} {ret : Option FieldType} (hy : plainName y.cls = true) (hw : ws = Cond.code y cc maxL ret :: ws') (hln : (lg_sl av).length ≤ maxL)
    (body : ∀ (p : Program) (e : Env) (s : State) (m : MethodId) (below : List Frame) (meth : Method) (c : Code) (sz : Nat), wd_Fx p s m av.toArray meth c cc maxL ws y.cls D cy sk sv (va_A (wd_pl w) sz) → meth.sig.returnType = ret → meth.name = y.name → ∀ ls : Array Slot, lv_has ls maxL (lv_args 0 av) →
      Wv p l e rm s m av.toArray below meth c D (va_A (wd_pl w) sz) 0 0 (MQ below (wd_Q D w sz post) av.toArray s rm.cells rm.slots (va_A (wd_pl w) sz)) w (F0 m 0 ls [])) : Ct l D cy sk sv y ws rm av w post := by
  intro sz
  refine Met.ofW (cc := cc) (maxL := maxL) (ret := ret) hy hw ?_
  intro p e s m args below meth c s₁ B hml hv
  obtain ⟨rfl, hsz, hP, hD0, hG, hEv⟩ := hv
  have hl := lv_entry av (n := maxL) hln
  rw [lg_entry_eq]
  have hts := atoms_spec (ws := ws) B.pre
  have hown : s.vm.findClass y.cls = some m.cls := findClass_of_methodNamed B.named
  have hin : meth.name = y.name := (name_of_methodNamed B.named B.method).1
  subst hsz
  exact body p e s m below meth c s.heap.size ⟨⟨B.exec, B.bytes, hml, hown, hts⟩, hG, fun q h => Or.inr h, B.notSynchronized, hEv⟩ B.returns hin _ hl s.heap [] hP (hD0.self (sz := s.heap.size)) va_S.rf
/-! ===== the layer, second part: worlds by name, returns, entry ===== -/
theorem wd_at.pt {w w1 : Wd} {a b : Nat} {e e1 : va_E} (ew : w1 = wd_put w a e1) (h : wd_at w b e) (n : b ≠ a) : wd_at w1 b e := by rw [ew]; exact h.put n e1
theorem wd_at.ps {w w1 : Wd} {a : Nat} {e e1 : va_E} (ew : w1 = wd_put w a e1) (h : wd_at w a e) : wd_at w1 a e1 := by rw [ew]; exact h.self e1
theorem wd_at.ad {w w1 : Wd} {q b : Nat} {e e1 : va_E} (ew : w1 = wd_add w q e1) (hq : q ∉ w.1) (h : wd_at w b e) : wd_at w1 b e := by rw [ew]; exact h.add hq e1
theorem wd_at.nw {w w1 : Wd} {q : Nat} {e1 : va_E} (ew : w1 = wd_add w q e1) : wd_at w1 q e1 := by rw [ew]; exact wd_at.new w q e1
/-- the kind of a cell: an object's class, an array's length and sort -/
def wd_kd : va_E → Nat
  | .inr q => q.1
  | .inl (_, n, .inl _) => 100 + 10 * n
  | .inl (_, n, .inr (.inl _)) => 101 + 10 * n
  | .inl (_, n, .inr (.inr _)) => 102 + 10 * n
theorem wd_nk {w : Wd} {a b : Nat} {e e1 : va_E} (h : wd_at w a e) (h1 : wd_at w b e1) (n : (wd_kd e == wd_kd e1) = false) : a ≠ b := wd_ne h h1 (fun q => by rw [q] at n; simp at n)
theorem wd_nL {w : Wd} {q b : Nat} {e : va_E} (hq : q ∉ w.1) (h : wd_at w b e) : b ≠ q := fun c => hq (c ▸ h.1)
def wd_rok (cc : ByteArray) (pc : Nat) (ret : Option FieldType) (v : Option Value) : Prop :=
  (decode cc pc = .ok (.ireturn, 1) ∧ ∃ (ty : FieldType) (x : Int32), ret = some ty ∧ v = some (.int x) ∧ narrow ty (.int x) = .int x) ∨
  (decode cc pc = .ok (.lreturn, 1) ∧ ∃ (x : Int64), ret = some .long ∧ v = some (.long x)) ∨
  (decode cc pc = .ok (.areturn, 1) ∧ ∃ (rt : FieldType) (x : Value), ret = some rt ∧ ((∃ n, rt = .object n) ∨ ∃ t, rt = .array t) ∧ v = some x ∧ (x = .null ∨ ∃ a, x = .ref a)) ∨
  (decode cc pc = .ok (.return_, 1) ∧ ret = none ∧ v = none)
/-- the way out of a method -/
def wd_Rt (p : Program) (l : Launch) (e : Env) (R : Room) (s : State) (m : MethodId) (args : Array Value) (below : List Frame) (meth : Method) (c : Code) (cc : ByteArray) (D : va_G) (A : Nat → Prop) (ret : Option FieldType) (Q : State → Prop) (post : Option Value → Wd → Prop) : Prop :=
  ∀ (w1 : Wd) (H : Heap) (locs : List Loc) (pc : Nat) (ls : Array Slot) (v : Option Value), va_P D vwCl (wd_pl w1) H → va_D A (wd_pl w1) → va_S A s.heap H locs → post v w1 → wd_rok cc pc ret v → W p l e R s m args below meth c H locs R.cells R.slots Q (F0 m pc ls v.toList)
section WDR2
variable {p : Program} {l : Launch} {e : Env} {R : Room} {s : State} {m : MethodId} {args : Array Value} {below : List Frame} {meth : Method} {c : Code} {H : Heap} {locs : List Loc} {cells slots : Nat} {Q : State → Prop}
variable {cc : ByteArray} {pc nL : Nat} {ls : Array Slot} {rest : List Value} {D : va_G} {cy : Nat → ClassId} {sk sv : Nat → Nat} {A : Nat → Prop} {a : Nat} {w : Wd} {Ts : List Cond} {own : String} {ret : Option FieldType} {post : Option Value → Wd → Prop}
theorem y_ir (K : wd_Rt p l e R s m args below meth c cc D A ret Q post) (hP : va_P D vwCl (wd_pl w) H) (hD : va_D A (wd_pl w)) (hS : va_S A s.heap H locs) (hc : cells ≤ R.cells) (hs : slots ≤ R.slots) {v : Int32} {ty : FieldType} (hr : ret = some ty) (hn : narrow ty (.int v) = .int v) (hdg : decode cc pc = .ok (.ireturn, 1)) (hp : post (some (.int v)) w) : W p l e R s m args below meth c H locs cells slots Q (F0 m pc ls [.int v]) :=
  W.widen hc hs (K w H locs pc ls (some (.int v)) hP hD hS hp (Or.inl ⟨hdg, ty, v, hr, rfl, hn⟩))
theorem y_lr (K : wd_Rt p l e R s m args below meth c cc D A ret Q post) (hP : va_P D vwCl (wd_pl w) H) (hD : va_D A (wd_pl w)) (hS : va_S A s.heap H locs) (hc : cells ≤ R.cells) (hs : slots ≤ R.slots) {v : Int64} (hr : ret = some .long) (hdg : decode cc pc = .ok (.lreturn, 1)) (hp : post (some (.long v)) w) : W p l e R s m args below meth c H locs cells slots Q (F0 m pc ls [.long v]) :=
  W.widen hc hs (K w H locs pc ls (some (.long v)) hP hD hS hp (Or.inr (Or.inl ⟨hdg, v, hr, rfl⟩)))
theorem y_vr (K : wd_Rt p l e R s m args below meth c cc D A ret Q post) (hP : va_P D vwCl (wd_pl w) H) (hD : va_D A (wd_pl w)) (hS : va_S A s.heap H locs) (hc : cells ≤ R.cells) (hs : slots ≤ R.slots) (hr : ret = none) (hdg : decode cc pc = .ok (.return_, 1)) (hp : post none w) : W p l e R s m args below meth c H locs cells slots Q (F0 m pc ls []) :=
  W.widen hc hs (K w H locs pc ls none hP hD hS hp (Or.inr (Or.inr (Or.inr ⟨hdg, hr, rfl⟩))))
theorem y_ar (K : wd_Rt p l e R s m args below meth c cc D A ret Q post) (hP : va_P D vwCl (wd_pl w) H) (hD : va_D A (wd_pl w)) (hS : va_S A s.heap H locs) (hc : cells ≤ R.cells) (hs : slots ≤ R.slots) {v : Value} {rt : FieldType} (hr : ret = some rt) (hrt : (∃ n, rt = .object n) ∨ ∃ t, rt = .array t) (hv : v = .null ∨ ∃ a, v = .ref a) (hdg : decode cc pc = .ok (.areturn, 1)) (hp : post (some v) w) : W p l e R s m args below meth c H locs cells slots Q (F0 m pc ls [v]) :=
  W.widen hc hs (K w H locs pc ls (some v) hP hD hS hp (Or.inr (Or.inr (Or.inl ⟨hdg, rt, v, hr, hrt, rfl, hv⟩))))
end WDR2
/-- a contract out of the walk of its body, over an end that is not looked into -/
theorem Ct.by {l : Launch} {D : va_G} {cy : Nat → ClassId} {sk sv : Nat → Nat} {y : MethodName} {ws ws' : List Cond} {rm : Room} {av : List Value} {w : Wd} {post : Option Value → Wd → Prop} {cc : ByteArray} {maxL : Nat} {ret : Option FieldType} (hy : plainName y.cls = true) (hw : ws = Cond.code y cc maxL ret :: ws') (hln : (lg_sl av).length ≤ maxL)
    (body : ∀ (p : Program) (e : Env) (s : State) (m : MethodId) (args : Array Value) (below : List Frame) (meth : Method) (c : Code) (A : Nat → Prop) (Q : State → Prop), wd_Fx p s m args meth c cc maxL ws y.cls D cy sk sv A → meth.name = y.name → wd_Rt p l e rm s m args below meth c cc D A ret Q post → ∀ ls : Array Slot, lv_has ls maxL (lv_args 0 av) →
      Wv p l e rm s m args below meth c D A 0 0 Q w (F0 m 0 ls [])) : Ct l D cy sk sv y ws rm av w post :=
  Ct.of hy hw hln (fun p e s m below meth c sz F hr hnm ls hl => body p e s m av.toArray below meth c (va_A (wd_pl w) sz) (MQ below (wd_Q D w sz post) av.toArray s rm.cells rm.slots (va_A (wd_pl w) sz)) F hnm (fun w1 H locs pc ls v hP hD hS hp hk => by
    rcases hk with ⟨h1, ty, x, h2, rfl, h3⟩ | ⟨h1, x, h2, rfl⟩ | ⟨h1, rt, x, h2, h3, rfl, h4⟩ | ⟨h1, h2, rfl⟩
    · exact x_zret F hP hD hS (hr.trans h2) h3 hp h1
    · exact x_lret F hP hD hS (hr.trans h2) hp h1
    · exact x_aret F hP hD hS (hr.trans h2) h3 h4 hp h1
    · exact x_vret F hP hD hS (hr.trans h2) hp h1) ls hl)
/-! named stores -/
section WDR3
variable {p : Program} {l : Launch} {e : Env} {R : Room} {s : State} {m : MethodId} {args : Array Value} {below : List Frame} {meth : Method} {c : Code} {H : Heap} {locs : List Loc} {cells slots : Nat} {Q : State → Prop}
variable {cc : ByteArray} {pc nL : Nat} {ls : Array Slot} {rest : List Value} {D : va_G} {cy : Nat → ClassId} {sk sv : Nat → Nat} {A : Nat → Prop} {a : Nat} {w : Wd} {Ts : List Cond} {own : String}
theorem y_put (F : wd_Fx p s m args meth c cc nL Ts own D cy sk sv A) (hP : va_P D vwCl (wd_pl w) H) (hD : va_D A (wd_pl w)) (hS : va_S A s.heap H locs) {C ref : String} {T : u_T} {N ci index : Nat} {fs : List Value} (h : wd_at w a (.inr (ci, fs))) (hc : vwCl[ci]? = some (C, T, N)) (hin : ∀ w ∈ u_ws C T N, w ∈ Ts) {ty0 : Nat → FieldType} (hty : ∀ k, k < N → parseFieldDescriptor (T k).2.2.1 = some (ty0 k)) (hnm : ∀ a, a < N → ∀ b, b < N → a ≠ b → (T a).2.1 ≠ (T b).2.1) (k : Nat) (hk : k < N) (hlink : Cond.fieldLink own index ref (T k).2.1 (T k).2.2.1 ∈ Ts) (hsame : (T k).1 = ref) (hfin : (T k).2.2.2 = false) {v : Value} (hn : narrow (ty0 k) v = v) (hfit : fits (ty0 k) v = true) (hl : k < fs.length) (hdg : decode cc pc = .ok (.putfield index, 3))
    (kk : ∀ (w1 : Wd), w1 = wd_put w a (.inr (ci, fs.set k v)) → ∀ (H1 : Heap) (locs1 : List Loc), va_P D vwCl (wd_pl w1) H1 → va_D A (wd_pl w1) → va_S A s.heap H1 locs1 → W p l e R s m args below meth c H1 locs1 cells slots Q (F0 m (pc + 3) ls rest)) : W p l e R s m args below meth c H locs cells slots Q (F0 m pc ls (v :: .ref a :: rest)) := x_put F hP hD hS h hc hin hty hnm k hk hlink hsame hfin hn hfit hl hdg (fun H1 locs1 a1 a2 a3 => kk _ rfl H1 locs1 a1 a2 a3)
theorem y_putF (F : wd_Fx p s m args meth c cc nL Ts own D cy sk sv A) (hP : va_P D vwCl (wd_pl w) H) (hD : va_D A (wd_pl w)) (hS : va_S A s.heap H locs) {C ref : String} {T : u_T} {N ci index : Nat} {fs : List Value} (h : wd_at w a (.inr (ci, fs))) (hc : vwCl[ci]? = some (C, T, N)) (hin : ∀ w ∈ u_ws C T N, w ∈ Ts) {ty0 : Nat → FieldType} (hty : ∀ k, k < N → parseFieldDescriptor (T k).2.2.1 = some (ty0 k)) (hnm : ∀ a, a < N → ∀ b, b < N → a ≠ b → (T a).2.1 ≠ (T b).2.1) (hini : meth.name = "<init>") (k : Nat) (hk : k < N) (hlink : Cond.fieldLink own index ref (T k).2.1 (T k).2.2.1 ∈ Ts) (hsame : (T k).1 = ref) (hown2 : (T k).1 = own) (hfin : (T k).2.2.2 = true) {v : Value} (hn : narrow (ty0 k) v = v) (hfit : fits (ty0 k) v = true) (hl : k < fs.length) (hdg : decode cc pc = .ok (.putfield index, 3))
    (kk : ∀ (w1 : Wd), w1 = wd_put w a (.inr (ci, fs.set k v)) → ∀ (H1 : Heap) (locs1 : List Loc), va_P D vwCl (wd_pl w1) H1 → va_D A (wd_pl w1) → va_S A s.heap H1 locs1 → W p l e R s m args below meth c H1 locs1 cells slots Q (F0 m (pc + 3) ls rest)) : W p l e R s m args below meth c H locs cells slots Q (F0 m pc ls (v :: .ref a :: rest)) := x_putF F hP hD hS h hc hin hty hnm hini k hk hlink hsame hown2 hfin hn hfit hl hdg (fun H1 locs1 a1 a2 a3 => kk _ rfl H1 locs1 a1 a2 a3)
theorem y_iast (F : wd_Fx p s m args meth c cc nL Ts own D cy sk sv A) (hP : va_P D vwCl (wd_pl w) H) (hD : va_D A (wd_pl w)) (hS : va_S A s.heap H locs) {n : Nat} {f : Nat → Int32} (h : wd_at w a (.inl (cy 2, n, .inl f))) {i : Int32} {x : Int32} (hin : vp_in i n) (hdg : decode cc pc = .ok (.iastore, 1))
    (kk : ∀ (w1 : Wd), w1 = wd_put w a (.inl (cy 2, n, .inl (upd f i.toNatClampNeg x))) → ∀ (H1 : Heap) (locs1 : List Loc), va_P D vwCl (wd_pl w1) H1 → va_D A (wd_pl w1) → va_S A s.heap H1 locs1 → W p l e R s m args below meth c H1 locs1 cells slots Q (F0 m (pc + 1) ls rest)) : W p l e R s m args below meth c H locs cells slots Q (F0 m pc ls (.int x :: .int i :: .ref a :: rest)) := x_iast F hP hD hS h hin hdg (fun H1 locs1 a1 a2 a3 => kk _ rfl H1 locs1 a1 a2 a3)
theorem y_bast (F : wd_Fx p s m args meth c cc nL Ts own D cy sk sv A) (hP : va_P D vwCl (wd_pl w) H) (hD : va_D A (wd_pl w)) (hS : va_S A s.heap H locs) {n : Nat} {f : Nat → Int32} (h : wd_at w a (.inl (cy 0, n, .inl f))) {i : Int32} {x : Int32} (hin : vp_in i n) (hdg : decode cc pc = .ok (.bastore, 1))
    (kk : ∀ (w1 : Wd), w1 = wd_put w a (.inl (cy 0, n, .inl (upd f i.toNatClampNeg (vp_nar .byte x)))) → ∀ (H1 : Heap) (locs1 : List Loc), va_P D vwCl (wd_pl w1) H1 → va_D A (wd_pl w1) → va_S A s.heap H1 locs1 → W p l e R s m args below meth c H1 locs1 cells slots Q (F0 m (pc + 1) ls rest)) : W p l e R s m args below meth c H locs cells slots Q (F0 m pc ls (.int x :: .int i :: .ref a :: rest)) := x_bast F hP hD hS h hin hdg (fun H1 locs1 a1 a2 a3 => kk _ rfl H1 locs1 a1 a2 a3)
theorem y_zast (F : wd_Fx p s m args meth c cc nL Ts own D cy sk sv A) (hP : va_P D vwCl (wd_pl w) H) (hD : va_D A (wd_pl w)) (hS : va_S A s.heap H locs) {n : Nat} {f : Nat → Int32} (h : wd_at w a (.inl (cy 4, n, .inl f))) {i : Int32} {x : Int32} (hin : vp_in i n) (hdg : decode cc pc = .ok (.bastore, 1))
    (kk : ∀ (w1 : Wd), w1 = wd_put w a (.inl (cy 4, n, .inl (upd f i.toNatClampNeg (vp_nar .boolean x)))) → ∀ (H1 : Heap) (locs1 : List Loc), va_P D vwCl (wd_pl w1) H1 → va_D A (wd_pl w1) → va_S A s.heap H1 locs1 → W p l e R s m args below meth c H1 locs1 cells slots Q (F0 m (pc + 1) ls rest)) : W p l e R s m args below meth c H locs cells slots Q (F0 m pc ls (.int x :: .int i :: .ref a :: rest)) := x_zast F hP hD hS h hin hdg (fun H1 locs1 a1 a2 a3 => kk _ rfl H1 locs1 a1 a2 a3)
theorem y_cast (F : wd_Fx p s m args meth c cc nL Ts own D cy sk sv A) (hP : va_P D vwCl (wd_pl w) H) (hD : va_D A (wd_pl w)) (hS : va_S A s.heap H locs) {n : Nat} {f : Nat → Int32} (h : wd_at w a (.inl (cy 1, n, .inl f))) {i : Int32} {x : Int32} (hin : vp_in i n) (hdg : decode cc pc = .ok (.castore, 1))
    (kk : ∀ (w1 : Wd), w1 = wd_put w a (.inl (cy 1, n, .inl (upd f i.toNatClampNeg (vp_nar .char x)))) → ∀ (H1 : Heap) (locs1 : List Loc), va_P D vwCl (wd_pl w1) H1 → va_D A (wd_pl w1) → va_S A s.heap H1 locs1 → W p l e R s m args below meth c H1 locs1 cells slots Q (F0 m (pc + 1) ls rest)) : W p l e R s m args below meth c H locs cells slots Q (F0 m pc ls (.int x :: .int i :: .ref a :: rest)) := x_cast F hP hD hS h hin hdg (fun H1 locs1 a1 a2 a3 => kk _ rfl H1 locs1 a1 a2 a3)
theorem y_last (F : wd_Fx p s m args meth c cc nL Ts own D cy sk sv A) (hP : va_P D vwCl (wd_pl w) H) (hD : va_D A (wd_pl w)) (hS : va_S A s.heap H locs) {n : Nat} {f : Nat → Int64} (h : wd_at w a (.inl (cy 3, n, .inr (.inl f)))) {i : Int32} {x : Int64} (hin : vp_in i n) (hdg : decode cc pc = .ok (.lastore, 1))
    (kk : ∀ (w1 : Wd), w1 = wd_put w a (.inl (cy 3, n, .inr (.inl (vp_updL f i.toNatClampNeg x)))) → ∀ (H1 : Heap) (locs1 : List Loc), va_P D vwCl (wd_pl w1) H1 → va_D A (wd_pl w1) → va_S A s.heap H1 locs1 → W p l e R s m args below meth c H1 locs1 cells slots Q (F0 m (pc + 1) ls rest)) : W p l e R s m args below meth c H locs cells slots Q (F0 m pc ls (.long x :: .int i :: .ref a :: rest)) := x_last F hP hD hS h hin hdg (fun H1 locs1 a1 a2 a3 => kk _ rfl H1 locs1 a1 a2 a3)
theorem y_aast (F : wd_Fx p s m args meth c cc nL Ts own D cy sk sv A) (hP : va_P D vwCl (wd_pl w) H) (hD : va_D A (wd_pl w)) (hS : va_S A s.heap H locs) {n t0 ci v : Nat} {r : vw_C} {f : Nat → Option Nat} {vs : List Value} (h : wd_at w a (.inl (cy t0, n, .inr (.inr (.inr (.inr f)))))) (ht : (wd_tys cy)[t0]? = some (cy t0, .object r.1)) (hv : wd_at w v (.inr (ci, vs))) (hc : vwCl[ci]? = some r) {i : Int32} (hin : vp_in i n) (hdg : decode cc pc = .ok (.aastore, 1))
    (kk : ∀ (w1 : Wd), w1 = wd_put w a (.inl (cy t0, n, .inr (.inr (.inr (.inr (va_up f i.toNatClampNeg (some v))))))) → ∀ (H1 : Heap) (locs1 : List Loc), va_P D vwCl (wd_pl w1) H1 → va_D A (wd_pl w1) → va_S A s.heap H1 locs1 → W p l e R s m args below meth c H1 locs1 cells slots Q (F0 m (pc + 1) ls rest)) : W p l e R s m args below meth c H locs cells slots Q (F0 m pc ls (.ref v :: .int i :: .ref a :: rest)) := x_aast F hP hD hS h ht hv hc hin hdg (fun H1 locs1 a1 a2 a3 => kk _ rfl H1 locs1 a1 a2 a3)
theorem y_new (F : wd_Fx p s m args meth c cc nL Ts own D cy sk sv A) (hP : va_P D vwCl (wd_pl w) H) (hD : va_D A (wd_pl w)) (hS : va_S A s.heap H locs) {C : String} {T : u_T} {N ci index : Nat} {fs : List Value} (hc : vwCl[ci]? = some (C, T, N)) (hin : ∀ w ∈ u_ws C T N, w ∈ Ts) {ty0 : Nat → FieldType} (hty : ∀ k, k < N → parseFieldDescriptor (T k).2.2.1 = some (ty0 k)) (hcl : Cond.classLink own index C ∈ Ts) (hinst : Cond.instantiable C N ∈ Ts) (hini : Cond.initialized C ∈ Ts) (hfs : ∀ j, j < N → defaultValue (ty0 j) = vp_V fs j) (hcells : cells + 1 ≤ R.cells) (hslots : slots + N ≤ R.slots) (hdg : decode cc pc = .ok (.new index, 3))
    (kk : ∀ (q : Nat) (w1 : Wd), w1 = wd_add w q (.inr (ci, fs)) → q ∉ w.1 → ∀ (H1 : Heap), va_P D vwCl (wd_pl w1) H1 → va_D A (wd_pl w1) → va_S A s.heap H1 locs → W p l e R s m args below meth c H1 locs (cells + 1) (slots + N) Q (F0 m (pc + 3) ls (.ref q :: rest))) : W p l e R s m args below meth c H locs cells slots Q (F0 m pc ls rest) := x_new F hP hD hS hc hin hty hcl hinst hini hfs hcells hslots hdg (fun q H1 hq a1 a2 a3 => kk q _ rfl hq H1 a1 a2 a3)
theorem y_newI (F : wd_Fx p s m args meth c cc nL Ts own D cy sk sv A) (hP : va_P D vwCl (wd_pl w) H) (hD : va_D A (wd_pl w)) (hS : va_S A s.heap H locs) (harr : Cond.arrayClass .int ∈ Ts) {n : Int32} {N : Nat} (hn : ¬ n < 0) (hN : n.toNatClampNeg = N) (hbytes : N * 8 ≤ 536870912) (hcells : cells + 1 ≤ R.cells) (hslots : slots + N ≤ R.slots) (hdg : decode cc pc = .ok (.newarray .int, 2))
    (kk : ∀ (q : Nat) (w1 : Wd), w1 = wd_add w q (.inl (cy 2, N, .inl (fun _ => 0))) → q ∉ w.1 → ∀ (H1 : Heap), va_P D vwCl (wd_pl w1) H1 → va_D A (wd_pl w1) → va_S A s.heap H1 locs → W p l e R s m args below meth c H1 locs (cells + 1) (slots + N) Q (F0 m (pc + 2) ls (.ref q :: rest))) : W p l e R s m args below meth c H locs cells slots Q (F0 m pc ls (.int n :: rest)) := x_newI F hP hD hS harr hn hN hbytes hcells hslots hdg (fun q H1 hq a1 a2 a3 => kk q _ rfl hq H1 a1 a2 a3)
theorem y_newB (F : wd_Fx p s m args meth c cc nL Ts own D cy sk sv A) (hP : va_P D vwCl (wd_pl w) H) (hD : va_D A (wd_pl w)) (hS : va_S A s.heap H locs) (harr : Cond.arrayClass .byte ∈ Ts) {n : Int32} {N : Nat} (hn : ¬ n < 0) (hN : n.toNatClampNeg = N) (hbytes : N * 8 ≤ 536870912) (hcells : cells + 1 ≤ R.cells) (hslots : slots + N ≤ R.slots) (hdg : decode cc pc = .ok (.newarray .byte, 2))
    (kk : ∀ (q : Nat) (w1 : Wd), w1 = wd_add w q (.inl (cy 0, N, .inl (fun _ => 0))) → q ∉ w.1 → ∀ (H1 : Heap), va_P D vwCl (wd_pl w1) H1 → va_D A (wd_pl w1) → va_S A s.heap H1 locs → W p l e R s m args below meth c H1 locs (cells + 1) (slots + N) Q (F0 m (pc + 2) ls (.ref q :: rest))) : W p l e R s m args below meth c H locs cells slots Q (F0 m pc ls (.int n :: rest)) := x_newB F hP hD hS harr hn hN hbytes hcells hslots hdg (fun q H1 hq a1 a2 a3 => kk q _ rfl hq H1 a1 a2 a3)
theorem y_newC (F : wd_Fx p s m args meth c cc nL Ts own D cy sk sv A) (hP : va_P D vwCl (wd_pl w) H) (hD : va_D A (wd_pl w)) (hS : va_S A s.heap H locs) (harr : Cond.arrayClass .char ∈ Ts) {n : Int32} {N : Nat} (hn : ¬ n < 0) (hN : n.toNatClampNeg = N) (hbytes : N * 8 ≤ 536870912) (hcells : cells + 1 ≤ R.cells) (hslots : slots + N ≤ R.slots) (hdg : decode cc pc = .ok (.newarray .char, 2))
    (kk : ∀ (q : Nat) (w1 : Wd), w1 = wd_add w q (.inl (cy 1, N, .inl (fun _ => 0))) → q ∉ w.1 → ∀ (H1 : Heap), va_P D vwCl (wd_pl w1) H1 → va_D A (wd_pl w1) → va_S A s.heap H1 locs → W p l e R s m args below meth c H1 locs (cells + 1) (slots + N) Q (F0 m (pc + 2) ls (.ref q :: rest))) : W p l e R s m args below meth c H locs cells slots Q (F0 m pc ls (.int n :: rest)) := x_newC F hP hD hS harr hn hN hbytes hcells hslots hdg (fun q H1 hq a1 a2 a3 => kk q _ rfl hq H1 a1 a2 a3)
theorem y_newZ (F : wd_Fx p s m args meth c cc nL Ts own D cy sk sv A) (hP : va_P D vwCl (wd_pl w) H) (hD : va_D A (wd_pl w)) (hS : va_S A s.heap H locs) (harr : Cond.arrayClass .boolean ∈ Ts) {n : Int32} {N : Nat} (hn : ¬ n < 0) (hN : n.toNatClampNeg = N) (hbytes : N * 8 ≤ 536870912) (hcells : cells + 1 ≤ R.cells) (hslots : slots + N ≤ R.slots) (hdg : decode cc pc = .ok (.newarray .boolean, 2))
    (kk : ∀ (q : Nat) (w1 : Wd), w1 = wd_add w q (.inl (cy 4, N, .inl (fun _ => 0))) → q ∉ w.1 → ∀ (H1 : Heap), va_P D vwCl (wd_pl w1) H1 → va_D A (wd_pl w1) → va_S A s.heap H1 locs → W p l e R s m args below meth c H1 locs (cells + 1) (slots + N) Q (F0 m (pc + 2) ls (.ref q :: rest))) : W p l e R s m args below meth c H locs cells slots Q (F0 m pc ls (.int n :: rest)) := x_newZ F hP hD hS harr hn hN hbytes hcells hslots hdg (fun q H1 hq a1 a2 a3 => kk q _ rfl hq H1 a1 a2 a3)
theorem y_newJ (F : wd_Fx p s m args meth c cc nL Ts own D cy sk sv A) (hP : va_P D vwCl (wd_pl w) H) (hD : va_D A (wd_pl w)) (hS : va_S A s.heap H locs) (harr : Cond.arrayClass .long ∈ Ts) {n : Int32} {N : Nat} (hn : ¬ n < 0) (hN : n.toNatClampNeg = N) (hbytes : N * 8 ≤ 536870912) (hcells : cells + 1 ≤ R.cells) (hslots : slots + N ≤ R.slots) (hdg : decode cc pc = .ok (.newarray .long, 2))
    (kk : ∀ (q : Nat) (w1 : Wd), w1 = wd_add w q (.inl (cy 3, N, .inr (.inl (fun _ => 0)))) → q ∉ w.1 → ∀ (H1 : Heap), va_P D vwCl (wd_pl w1) H1 → va_D A (wd_pl w1) → va_S A s.heap H1 locs → W p l e R s m args below meth c H1 locs (cells + 1) (slots + N) Q (F0 m (pc + 2) ls (.ref q :: rest))) : W p l e R s m args below meth c H locs cells slots Q (F0 m pc ls (.int n :: rest)) := x_newJ F hP hD hS harr hn hN hbytes hcells hslots hdg (fun q H1 hq a1 a2 a3 => kk q _ rfl hq H1 a1 a2 a3)
theorem y_newA (F : wd_Fx p s m args meth c cc nL Ts own D cy sk sv A) (hP : va_P D vwCl (wd_pl w) H) (hD : va_D A (wd_pl w)) (hS : va_S A s.heap H locs) {C : String} {index t0 : Nat} (hcl : Cond.classLink own index C ∈ Ts) (hC : C ∈ [RX0, RX3, RX5, RX6, RX8]) (ht : (wd_tys cy)[t0]? = some (cy t0, .object C)) {n : Int32} {N : Nat} (hn : ¬ n < 0) (hN : n.toNatClampNeg = N) (hbytes : N * 4 ≤ 536870912) (hcells : cells + 1 ≤ R.cells) (hslots : slots + N ≤ R.slots) (hdg : decode cc pc = .ok (.anewarray index, 3))
    (kk : ∀ (q : Nat) (w1 : Wd), w1 = wd_add w q (.inl (cy t0, N, .inr (.inr (.inr (.inr (fun _ => none)))))) → q ∉ w.1 → ∀ (H1 : Heap), va_P D vwCl (wd_pl w1) H1 → va_D A (wd_pl w1) → va_S A s.heap H1 locs → W p l e R s m args below meth c H1 locs (cells + 1) (slots + N) Q (F0 m (pc + 3) ls (.ref q :: rest))) : W p l e R s m args below meth c H locs cells slots Q (F0 m pc ls (.int n :: rest)) := x_newA F hP hD hS hcl hC ht hn hN hbytes hcells hslots hdg (fun q H1 hq a1 a2 a3 => kk q _ rfl hq H1 a1 a2 a3)
end WDR3
theorem df_0 : ∀ j, j < 4 → defaultValue (tyX0 j) = vp_V [.int 0, .int 0, .int 0, .int 0] j := by
  intro j hj
  match j, hj with
  | 0, _ => exact rfl
  | 1, _ => exact rfl
  | 2, _ => exact rfl
  | 3, _ => exact rfl
  | j + 4, hj => exact absurd hj (by omega)
theorem df_1 : ∀ j, j < 6 → defaultValue (tyX1 j) = vp_V [.null, .null, .null, .null, .null, .int 0] j := by
  intro j hj
  match j, hj with
  | 0, _ => exact rfl
  | 1, _ => exact rfl
  | 2, _ => exact rfl
  | 3, _ => exact rfl
  | 4, _ => exact rfl
  | 5, _ => exact rfl
  | j + 6, hj => exact absurd hj (by omega)
theorem df_2 : ∀ j, j < 3 → defaultValue (tyX2 j) = vp_V [.null, .int 0, .int 0] j := by
  intro j hj
  match j, hj with
  | 0, _ => exact rfl
  | 1, _ => exact rfl
  | 2, _ => exact rfl
  | j + 3, hj => exact absurd hj (by omega)
theorem df_3 : ∀ j, j < 7 → defaultValue (tyX3 j) = vp_V [.int 0, .int 0, .int 0, .int 0, .int 0, .int 0, .int 0] j := by
  intro j hj
  match j, hj with
  | 0, _ => exact rfl
  | 1, _ => exact rfl
  | 2, _ => exact rfl
  | 3, _ => exact rfl
  | 4, _ => exact rfl
  | 5, _ => exact rfl
  | 6, _ => exact rfl
  | j + 7, hj => exact absurd hj (by omega)
theorem df_4 : ∀ j, j < 10 → defaultValue (tyX4 j) = vp_V [.null, .null, .null, .null, .null, .null, .null, .null, .int 0, .int 0] j := by
  intro j hj
  match j, hj with
  | 0, _ => exact rfl
  | 1, _ => exact rfl
  | 2, _ => exact rfl
  | 3, _ => exact rfl
  | 4, _ => exact rfl
  | 5, _ => exact rfl
  | 6, _ => exact rfl
  | 7, _ => exact rfl
  | 8, _ => exact rfl
  | 9, _ => exact rfl
  | j + 10, hj => exact absurd hj (by omega)
theorem df_5 : ∀ j, j < 10 → defaultValue (tyX5 j) = vp_V [.int 0, .int 0, .int 0, .int 0, .int 0, .int 0, .int 0, .int 0, .int 0, .int 0] j := by
  intro j hj
  match j, hj with
  | 0, _ => exact rfl
  | 1, _ => exact rfl
  | 2, _ => exact rfl
  | 3, _ => exact rfl
  | 4, _ => exact rfl
  | 5, _ => exact rfl
  | 6, _ => exact rfl
  | 7, _ => exact rfl
  | 8, _ => exact rfl
  | 9, _ => exact rfl
  | j + 10, hj => exact absurd hj (by omega)
theorem df_6 : ∀ j, j < 3 → defaultValue (tyX6 j) = vp_V [.int 0, .int 0, .null] j := by
  intro j hj
  match j, hj with
  | 0, _ => exact rfl
  | 1, _ => exact rfl
  | 2, _ => exact rfl
  | j + 3, hj => exact absurd hj (by omega)
theorem df_7 : ∀ j, j < 3 → defaultValue (tyX7 j) = vp_V [.null, .int 0, .int 0] j := by
  intro j hj
  match j, hj with
  | 0, _ => exact rfl
  | 1, _ => exact rfl
  | 2, _ => exact rfl
  | j + 3, hj => exact absurd hj (by omega)
theorem df_8 : ∀ j, j < 4 → defaultValue (tyX8 j) = vp_V [.int 0, .int 0, .int 0, .null] j := by
  intro j hj
  match j, hj with
  | 0, _ => exact rfl
  | 1, _ => exact rfl
  | 2, _ => exact rfl
  | 3, _ => exact rfl
  | j + 4, hj => exact absurd hj (by omega)
theorem df_9 : ∀ j, j < 4 → defaultValue (tyX9 j) = vp_V [.null, .null, .null, .null] j := by
  intro j hj
  match j, hj with
  | 0, _ => exact rfl
  | 1, _ => exact rfl
  | 2, _ => exact rfl
  | 3, _ => exact rfl
  | j + 4, hj => exact absurd hj (by omega)
theorem df_10 : ∀ j, j < 17 → defaultValue (tyX10 j) = vp_V [.null, .null, .null, .null, .null, .null, .null, .null, .null, .null, .null, .null, .int 0, .int 0, .int 0, .int 0, .int 0] j := by
  intro j hj
  match j, hj with
  | 0, _ => exact rfl
  | 1, _ => exact rfl
  | 2, _ => exact rfl
  | 3, _ => exact rfl
  | 4, _ => exact rfl
  | 5, _ => exact rfl
  | 6, _ => exact rfl
  | 7, _ => exact rfl
  | 8, _ => exact rfl
  | 9, _ => exact rfl
  | 10, _ => exact rfl
  | 11, _ => exact rfl
  | 12, _ => exact rfl
  | 13, _ => exact rfl
  | 14, _ => exact rfl
  | 15, _ => exact rfl
  | 16, _ => exact rfl
  | j + 17, hj => exact absurd hj (by omega)
/-- what lies outside S is kept -/
def wd_kp (S : Nat → Prop) (w w1 : Wd) : Prop := (∀ b, b ∈ w.1 → b ∈ w1.1) ∧ ∀ b e, wd_at w b e → ¬ S b → wd_at w1 b e
theorem wd_kp.rf {S : Nat → Prop} {w : Wd} : wd_kp S w w := ⟨fun _ h => h, fun _ _ h _ => h⟩
theorem wd_kp.put {S : Nat → Prop} {w w1 w2 : Wd} {a : Nat} {e1 : va_E} (h : wd_kp S w w1) (ew : w2 = wd_put w1 a e1) (ha : S a) : wd_kp S w w2 :=
  ⟨fun b hb => by rw [ew]; exact h.1 b hb, fun b e hb hn => wd_at.pt ew (h.2 b e hb hn) (fun q => hn (by rw [q]; exact ha))⟩
theorem wd_kp.putN {S : Nat → Prop} {w w1 w2 : Wd} {a : Nat} {e1 : va_E} (h : wd_kp S w w1) (ew : w2 = wd_put w1 a e1) (ha : a ∉ w.1) : wd_kp S w w2 :=
  ⟨fun b hb => by rw [ew]; exact h.1 b hb, fun b e hb hn => wd_at.pt ew (h.2 b e hb hn) (fun q => ha (by rw [← q]; exact hb.1))⟩
theorem wd_kp.add {S : Nat → Prop} {w w1 w2 : Wd} {q : Nat} {e1 : va_E} (h : wd_kp S w w1) (ew : w2 = wd_add w1 q e1) (hq : q ∉ w1.1) : wd_kp S w w2 :=
  ⟨fun b hb => by rw [ew]; exact List.mem_append_left _ (h.1 b hb), fun b e hb hn => wd_at.ad ew hq (h.2 b e hb hn)⟩
theorem wd_kp.tr {S S1 : Nat → Prop} {w w1 w2 : Wd} (h : wd_kp S w w1) (h2 : wd_kp S1 w1 w2) (hs : ∀ b, b ∈ w.1 → S1 b → S b) : wd_kp S w w2 :=
  ⟨fun b hb => h2.1 b (h.1 b hb), fun b e hb hn => h2.2 b e (h.2 b e hb hn) (fun q => hn (hs b hb.1 q))⟩
theorem wd_kp.out {S : Nat → Prop} {w w1 : Wd} {q : Nat} (h : wd_kp S w w1) (hq : q ∉ w1.1) : q ∉ w.1 := fun hm => hq (h.1 q hm)
def wd_mna (w : Wd) (q : Nat) (rows : List Nat) (eo er : va_E) : Wd := (q :: (w.1 ++ rows), va_up (vr_up w.2 rows er) q eo)
theorem wd_at.mo {w w1 : Wd} {q b N : Nat} {r : Nat → Nat} {e eo er : va_E} (ew : w1 = wd_mna w q ((List.range N).map r) eo er) (hq : q ∉ w.1) (hr : ∀ i, i < N → r i ∉ w.1) (h : wd_at w b e) : wd_at w1 b e := by
  rw [ew]
  refine ⟨List.mem_cons_of_mem _ (List.mem_append_left _ h.1), ?_⟩
  show va_up (vr_up w.2 _ er) q eo b = e
  rw [va_up_ne _ _ (fun z : b = q => hq (z ▸ h.1)), vr_up_ne (fun z => by
    obtain ⟨i, hi, e1⟩ := List.mem_map.mp z
    exact hr i (List.mem_range.mp hi) (by rw [e1]; exact h.1))]
  exact h.2
theorem wd_at.mq {w w1 : Wd} {q : Nat} {rows : List Nat} {eo er : va_E} (ew : w1 = wd_mna w q rows eo er) : wd_at w1 q eo := by
  rw [ew]; exact ⟨List.mem_cons_self, va_up_self _ _ _⟩
theorem wd_at.mr {w w1 : Wd} {q N : Nat} {r : Nat → Nat} {eo er : va_E} (ew : w1 = wd_mna w q ((List.range N).map r) eo er) (hz : ∀ i, i < N → r i ≠ q) (i : Nat) (hi : i < N) : wd_at w1 (r i) er := by
  have hm : r i ∈ (List.range N).map r := List.mem_map.mpr ⟨i, List.mem_range.mpr hi, rfl⟩
  rw [ew]
  refine ⟨List.mem_cons_of_mem _ (List.mem_append_right _ hm), ?_⟩
  show va_up (vr_up w.2 _ er) q eo (r i) = er
  rw [va_up_ne _ _ (hz i hi), vr_up_in hm]
theorem wd_kp.mna {S : Nat → Prop} {w w1 w2 : Wd} {q N : Nat} {r : Nat → Nat} {eo er : va_E} (h : wd_kp S w w1) (ew : w2 = wd_mna w1 q ((List.range N).map r) eo er) (hq : q ∉ w1.1) (hr : ∀ i, i < N → r i ∉ w1.1) : wd_kp S w w2 :=
  ⟨fun b hb => by rw [ew]; exact List.mem_cons_of_mem _ (List.mem_append_left _ (h.1 b hb)), fun b e hb hn => wd_at.mo ew hq hr (h.2 b e hb hn)⟩
theorem fm_row {w w1 : Wd} {cA : ClassId} {n N i : Nat} {r : Nat → Nat} {fc : Nat → Nat → Int32} {g : Nat → Int32} (ew : w1 = wd_put w (r i) (.inl (cA, n, .inl g))) (hi : i < N) (hj : ∀ a b, a < N → b < N → r a = r b → a = b) (h : ∀ k, k < N → wd_at w (r k) (.inl (cA, n, .inl (fc k)))) : ∀ k, k < N → wd_at w1 (r k) (.inl (cA, n, .inl (va_up fc i g k))) := by
  intro k hk
  by_cases e : k = i
  · subst e
    rw [va_up_self]
    exact wd_at.ps ew (h k hk)
  · rw [va_up_ne _ _ e]
    exact wd_at.pt ew (h k hk) (fun z => e (hj k i hk hi z))
theorem wd_mna_pl {w : Wd} {q : Nat} {rows : List Nat} {eo er : va_E} (hq : q ∉ w.1 ++ rows) : [(q, eo)] ++ va_pl (w.1 ++ rows) (vr_up w.2 rows er) = wd_pl (wd_mna w q rows eo er) := by
  show (q, eo) :: (w.1 ++ rows).map _ = (q, va_up (vr_up w.2 rows er) q eo q) :: (w.1 ++ rows).map _
  rw [va_up_self]
  congr 1
  apply List.map_congr_left
  intro a ha
  show (a, vr_up w.2 rows er a) = (a, va_up (vr_up w.2 rows er) q eo a)
  rw [va_up_ne _ _ (fun z : a = q => hq (z ▸ ha))]
theorem wd_mna_q {A : Nat → Prop} {L : List Nat} {f : Nat → va_E} {q : Nat} {e : va_E} (hD : va_D A ([(q, e)] ++ va_pl L f)) : q ∉ L := fun h => by
  obtain ⟨k, hk⟩ := List.getElem?_of_mem (List.mem_map.mpr ⟨q, h, rfl⟩ : (q, f q) ∈ va_pl L f)
  have := hD.1 0 (k + 1) (q, e) (q, f q) rfl (by rw [List.singleton_append, List.getElem?_cons_succ]; exact hk) rfl
  omega
theorem y_mna {p : Program} {l : Launch} {e : Env} {R : Room} {s : State} {m : MethodId} {args : Array Value} {below : List Frame} {meth : Method} {c : Code} {H : Heap} {locs : List Loc} {cells slots : Nat} {Q : State → Prop} {cc : ByteArray} {pc nL : Nat} {ls : Array Slot} {rest : List Value} {D : va_G} {cy : Nat → ClassId} {sk sv : Nat → Nat} {A : Nat → Prop} {w : Wd} {Ts : List Cond} {own : String} (F : wd_Fx p s m args meth c cc nL Ts own D cy sk sv A) (hP : va_P D vwCl (wd_pl w) H) (hD : va_D A (wd_pl w)) (hS : va_S A s.heap H locs) {index N M : Nat} (hcl : Cond.classLink own index "[[I" ∈ Ts) (harr : Cond.arrayClass .int ∈ Ts) {n k : Int32} (hn : ¬ n < 0) (hk : ¬ k < 0) (hN : n.toNatClampNeg = N) (hM : k.toNatClampNeg = M) (hb1 : N * 4 ≤ 536870912) (hb2 : M * 4 ≤ 536870912) (hcells : cells + (1 + N) ≤ R.cells) (hslots : slots + (N + N * M) ≤ R.slots) (hdg : decode cc pc = .ok (.multianewarray index 2, 4))
    (kk : ∀ (q : Nat) (r : Nat → Nat) (w1 : Wd), w1 = wd_mna w q ((List.range N).map r) (.inl (cy 10, N, .inr (.inr (.inr (.inr (fun i => if i < N then some (r i) else none)))))) (.inl (cy 2, M, .inl (fun _ => 0))) → q ∉ w.1 → (∀ i, i < N → r i ∉ w.1) → (∀ a b, a < N → b < N → r a = r b → a = b) → (∀ i, i < N → r i ≠ q) → ∀ (H1 : Heap), va_P D vwCl (wd_pl w1) H1 → va_D A (wd_pl w1) → va_S A s.heap H1 locs → W p l e R s m args below meth c H1 locs (cells + (1 + N)) (slots + (N + N * M)) Q (F0 m (pc + 4) ls (.ref q :: rest))) : W p l e R s m args below meth c H locs cells slots Q (F0 m pc ls (.int k :: .int n :: rest)) := by
  obtain ⟨⟨hx, hb, hml, hown, hts⟩, hG, hA, hlk, hEv⟩ := F
  have hcy : s.vm.findClass (FieldType.array .int).toString = some (cy 2) := (hG.1.2 2 _ rfl).2
  refine va_mna (X := []) (L := w.1) (f := w.2) (z := (M, .inl (fun _ => 0))) hx hb hown (hts _ hcl) hG.2.2.2 (hts _ harr) hcy hG.1 hP hD hS hA hn hk hN hM hb1 hb2 (Nat.le_trans (Nat.le_mul_of_pos_right M (by decide)) hb2) rfl rfl hcells hslots (fun c9 => by first | rfl | simp [Jvm.Free.Multi.innerC, vp_cell, arrV_new, defaultValue]) hdg (fun q r cA H1 hinj hrn hK1 hP1 hD1 hS1 => ?_)
  have hc := wd_cls hK1 hG.1 (t0 := 10) rfl
  subst hc
  have hq := wd_mna_q (A := A) hD1
  have e1 := wd_mna_pl (w := w) (eo := .inl (cy 10, N, .inr (.inr (.inr (.inr (fun i => if i < N then some (r i) else none)))))) (er := .inl (cy 2, M, .inl (fun _ => 0))) hq
  have hP2 : va_P D vwCl (wd_pl (wd_mna w q ((List.range N).map r) (.inl (cy 10, N, .inr (.inr (.inr (.inr (fun i => if i < N then some (r i) else none)))))) (.inl (cy 2, M, .inl (fun _ => 0))))) H1 := by rw [← e1]; exact hP1
  have hD2 : va_D A (wd_pl (wd_mna w q ((List.range N).map r) (.inl (cy 10, N, .inr (.inr (.inr (.inr (fun i => if i < N then some (r i) else none)))))) (.inl (cy 2, M, .inl (fun _ => 0))))) := by rw [← e1]; exact hD1
  have := kk q r _ rfl (fun h => hq (List.mem_append_left _ h)) hrn (fun a b ha hb9 e9 => hinj a b ha hb9 e9) (fun i hi e9 => hq (List.mem_append_right _ (List.mem_map.mpr ⟨i, List.mem_range.mpr hi, e9⟩))) H1 hP2 hD2 hS1
  rw [show cells + 1 + N = cells + (1 + N) by omega, show slots + N + N * M = slots + (N + N * M) by omega]
  exact this
theorem x_aaldA {p : Program} {l : Launch} {e : Env} {R : Room} {s : State} {m : MethodId} {args : Array Value} {below : List Frame} {meth : Method} {c : Code} {H : Heap} {locs : List Loc} {cells slots : Nat} {Q : State → Prop} {cc : ByteArray} {pc nL : Nat} {ls : Array Slot} {rest : List Value} {D : va_G} {cy : Nat → ClassId} {sk sv : Nat → Nat} {A : Nat → Prop} {a : Nat} {w : Wd} {Ts : List Cond} {own : String} (F : wd_Fx p s m args meth c cc nL Ts own D cy sk sv A) (hP : va_P D vwCl (wd_pl w) H) {n : Nat} {f : Nat → Option Nat} (h : wd_at w a (.inl (cy 10, n, .inr (.inr (.inr (.inr f)))))) {i : Int32} (hin : vp_in i n) (hdg : decode cc pc = .ok (.aaload, 1))
    (kk : W p l e R s m args below meth c H locs cells slots Q (F0 m (pc + 1) ls (va_rf (f i.toNatClampNeg) :: rest))) : W p l e R s m args below meth c H locs cells slots Q (F0 m pc ls (.int i :: .ref a :: rest)) := by
  obtain ⟨⟨hx, hb, hml, hown, hts⟩, hG, hA, hlk, hEv⟩ := F
  obtain ⟨q0, hq⟩ := wd_get h
  have hlt : i.toNatClampNeg < n := Nat.not_le.mp fun q => hin (Or.inr q)
  exact W.aald (v := va_rf (f i.toNatClampNeg)) (ty := .array .int) hx hb (hP q0 _ hq) ((hG.1.2 10 _ rfl).1 n (fun j => va_rf (f j))) rfl (fun q => by cases q) (by show ¬ (i < 0 ∨ (arrV _ _ _).slots.size ≤ _); rw [arrV_size]; exact hin) (by show (arrV _ _ _).slots[_]? = _; rw [arrV_read _ _ hlt]) rfl rfl hdg kk
theorem y_copyl {p : Program} {l : Launch} {e : Env} {R : Room} {s : State} {m : MethodId} {args : Array Value} {below : List Frame} {meth : Method} {c : Code} {H : Heap} {locs : List Loc} {cells slots : Nat} {Q : State → Prop} {cc : ByteArray} {pc nL : Nat} {ls : Array Slot} {rest : List Value} {D : va_G} {cy : Nat → ClassId} {sk sv : Nat → Nat} {A : Nat → Prop} {a : Nat} {w : Wd} {Ts : List Cond} {own : String} (F : wd_Fx p s m args meth c cc nL Ts own D cy sk sv A) (hP : va_P D vwCl (wd_pl w) H) (hD : va_D A (wd_pl w)) (hS : va_S A s.heap H locs) {a0 n0 n1 index : Nat} {f g : Nat → Int64} (h0 : wd_at w a0 (.inl (cy 3, n0, .inr (.inl f)))) (h1 : wd_at w a (.inl (cy 3, n1, .inr (.inl g)))) (hlink : Cond.methodLink own index arraycopyName ∈ Ts) (hnat : Cond.native arraycopyName ∈ Ts) (hstat : Cond.static arraycopyName ∈ Ts) (hini : Cond.initialized "java/lang/System" ∈ Ts) (hls : ls.size = nL) {sp dp n : Int32} (e1 : ¬ sp < 0) (e2 : ¬ dp < 0) (e3 : ¬ n < 0) (e4 : sp.toNatClampNeg + n.toNatClampNeg ≤ n0) (e5 : dp.toNatClampNeg + n.toNatClampNeg ≤ n1) (hframes : 1 ≤ R.frames) (hlocals : (rest.map fun v => v.category).sum + (nativeFrameWords "java/lang/System" "arraycopy" 5 + 11) ≤ R.locals) (hdg : decode cc pc = .ok (.invokestatic index, 3))
    (kk : ∀ (w1 : Wd), w1 = wd_put w a (.inl (cy 3, n1, .inr (.inl (va_cpy f g sp.toNatClampNeg dp.toNatClampNeg n.toNatClampNeg)))) → ∀ (H1 : Heap) (locs1 : List Loc), va_P D vwCl (wd_pl w1) H1 → va_D A (wd_pl w1) → va_S A s.heap H1 locs1 → W p l e R s m args below meth c H1 locs1 cells slots Q (F0 m (pc + 3) ls rest)) : W p l e R s m args below meth c H locs cells slots Q (F0 m pc ls (.int n :: .int dp :: .ref a :: .int sp :: .ref a0 :: rest)) := by
  obtain ⟨⟨hx, hb, hml, hown, hts⟩, hG, hA, hlk, hEv⟩ := F
  obtain ⟨q0, hq0⟩ := wd_get h0
  obtain ⟨q1, hq1⟩ := wd_get h1
  refine va_copyl hx hb (hml.trans hls.symm) hown (hts _ hlink) (hts _ hnat) (hts _ hstat) (hts _ hini) hG.1 hP hD hS q0 q1 3 3 hq0 hq1 rfl rfl rfl e1 e2 e3 e4 e5 (fun _ _ => rfl) hframes hlocals hdg (fun H1 locs1 hP1 hD1 hS1 => ?_)
  rw [wd_set hD h1 hq1] at hP1 hD1
  exact kk _ rfl H1 locs1 hP1 hD1 hS1
