/-! ===== the layer, second part: worlds by name, returns, entry ===== -/
theorem wd_at.pt {w w1 : Wd} {a b : Nat} {e e1 : va_E} (ew : w1 = wd_put w a e1) (h : wd_at w b e) (n : b ≠ a) : wd_at w1 b e := by rw [ew]; exact h.put n e1
theorem wd_at.ps {w w1 : Wd} {a : Nat} {e e1 : va_E} (ew : w1 = wd_put w a e1) (h : wd_at w a e) : wd_at w1 a e1 := by rw [ew]; exact h.self e1
theorem wd_at.ad {w w1 : Wd} {q b : Nat} {e e1 : va_E} (ew : w1 = wd_add w q e1) (hq : q ∉ w.1) (h : wd_at w b e) : wd_at w1 b e := by rw [ew]; exact h.add hq e1
theorem wd_at.nw {w w1 : Wd} {q : Nat} {e1 : va_E} (ew : w1 = wd_add w q e1) : wd_at w1 q e1 := by rw [ew]; exact wd_at.new w q e1
/-- the kind of a cell: an object's class, an array's length and sort -/
def wd_kd : va_E → Nat
  | .inr q => q.1
  | .inl (_, n, .inl _) => 100 + 10 * n
  | .inl (_, n, .inr (.inl _)) => 101 + 10 * n
  | .inl (_, n, .inr (.inr _)) => 102 + 10 * n
theorem wd_nk {w : Wd} {a b : Nat} {e e1 : va_E} (h : wd_at w a e) (h1 : wd_at w b e1) (n : (wd_kd e == wd_kd e1) = false) : a ≠ b := wd_ne h h1 (fun q => by rw [q] at n; simp at n)
theorem wd_nL {w : Wd} {q b : Nat} {e : va_E} (hq : q ∉ w.1) (h : wd_at w b e) : b ≠ q := fun c => hq (c ▸ h.1)
def wd_rok (cc : ByteArray) (pc : Nat) (ret : Option FieldType) (v : Option Value) : Prop :=
  (decode cc pc = .ok (.ireturn, 1) ∧ ∃ (ty : FieldType) (x : Int32), ret = some ty ∧ v = some (.int x) ∧ narrow ty (.int x) = .int x) ∨
  (decode cc pc = .ok (.lreturn, 1) ∧ ∃ (x : Int64), ret = some .long ∧ v = some (.long x)) ∨
  (decode cc pc = .ok (.areturn, 1) ∧ ∃ (rt : FieldType) (x : Value), ret = some rt ∧ ((∃ n, rt = .object n) ∨ ∃ t, rt = .array t) ∧ v = some x ∧ (x = .null ∨ ∃ a, x = .ref a)) ∨
  (decode cc pc = .ok (.return_, 1) ∧ ret = none ∧ v = none)
/-- the way out of a method -/
def wd_Rt (p : Program) (l : Launch) (e : Env) (R : Room) (s : State) (m : MethodId) (args : Array Value) (below : List Frame) (meth : Method) (c : Code) (cc : ByteArray) (D : va_G) (A : Nat → Prop) (ret : Option FieldType) (Q : State → Prop) (post : Option Value → Wd → Prop) : Prop :=
  ∀ (w1 : Wd) (H : Heap) (locs : List Loc) (pc : Nat) (ls : Array Slot) (v : Option Value), va_P D vwCl (wd_pl w1) H → va_D A (wd_pl w1) → va_S A s.heap H locs → post v w1 → wd_rok cc pc ret v → W p l e R s m args below meth c H locs R.cells R.slots Q (F0 m pc ls v.toList)
section WDR2
variable {p : Program} {l : Launch} {e : Env} {R : Room} {s : State} {m : MethodId} {args : Array Value} {below : List Frame} {meth : Method} {c : Code} {H : Heap} {locs : List Loc} {cells slots : Nat} {Q : State → Prop}
variable {cc : ByteArray} {pc nL : Nat} {ls : Array Slot} {rest : List Value} {D : va_G} {cy : Nat → ClassId} {A : Nat → Prop} {a : Nat} {w : Wd} {Ts : List Cond} {own : String} {ret : Option FieldType} {post : Option Value → Wd → Prop}
theorem y_ir (K : wd_Rt p l e R s m args below meth c cc D A ret Q post) (hP : va_P D vwCl (wd_pl w) H) (hD : va_D A (wd_pl w)) (hS : va_S A s.heap H locs) (hc : cells ≤ R.cells) (hs : slots ≤ R.slots) {v : Int32} {ty : FieldType} (hr : ret = some ty) (hn : narrow ty (.int v) = .int v) (hdg : decode cc pc = .ok (.ireturn, 1)) (hp : post (some (.int v)) w) : W p l e R s m args below meth c H locs cells slots Q (F0 m pc ls [.int v]) :=
  W.widen hc hs (K w H locs pc ls (some (.int v)) hP hD hS hp (Or.inl ⟨hdg, ty, v, hr, rfl, hn⟩))
theorem y_lr (K : wd_Rt p l e R s m args below meth c cc D A ret Q post) (hP : va_P D vwCl (wd_pl w) H) (hD : va_D A (wd_pl w)) (hS : va_S A s.heap H locs) (hc : cells ≤ R.cells) (hs : slots ≤ R.slots) {v : Int64} (hr : ret = some .long) (hdg : decode cc pc = .ok (.lreturn, 1)) (hp : post (some (.long v)) w) : W p l e R s m args below meth c H locs cells slots Q (F0 m pc ls [.long v]) :=
  W.widen hc hs (K w H locs pc ls (some (.long v)) hP hD hS hp (Or.inr (Or.inl ⟨hdg, v, hr, rfl⟩)))
theorem y_vr (K : wd_Rt p l e R s m args below meth c cc D A ret Q post) (hP : va_P D vwCl (wd_pl w) H) (hD : va_D A (wd_pl w)) (hS : va_S A s.heap H locs) (hc : cells ≤ R.cells) (hs : slots ≤ R.slots) (hr : ret = none) (hdg : decode cc pc = .ok (.return_, 1)) (hp : post none w) : W p l e R s m args below meth c H locs cells slots Q (F0 m pc ls []) :=
  W.widen hc hs (K w H locs pc ls none hP hD hS hp (Or.inr (Or.inr (Or.inr ⟨hdg, hr, rfl⟩))))
theorem y_ar (K : wd_Rt p l e R s m args below meth c cc D A ret Q post) (hP : va_P D vwCl (wd_pl w) H) (hD : va_D A (wd_pl w)) (hS : va_S A s.heap H locs) (hc : cells ≤ R.cells) (hs : slots ≤ R.slots) {v : Value} {rt : FieldType} (hr : ret = some rt) (hrt : (∃ n, rt = .object n) ∨ ∃ t, rt = .array t) (hv : v = .null ∨ ∃ a, v = .ref a) (hdg : decode cc pc = .ok (.areturn, 1)) (hp : post (some v) w) : W p l e R s m args below meth c H locs cells slots Q (F0 m pc ls [v]) :=
  W.widen hc hs (K w H locs pc ls (some v) hP hD hS hp (Or.inr (Or.inr (Or.inl ⟨hdg, rt, v, hr, hrt, rfl, hv⟩))))
end WDR2
/-- a contract out of the walk of its body, over an end that is not looked into -/
theorem Ct.by {l : Launch} {D : va_G} {cy : Nat → ClassId} {y : MethodName} {ws ws' : List Cond} {rm : Room} {av : List Value} {w : Wd} {post : Option Value → Wd → Prop} {cc : ByteArray} {maxL : Nat} {ret : Option FieldType} (hy : plainName y.cls = true) (hw : ws = Cond.code y cc maxL ret :: ws') (hln : (lg_sl av).length ≤ maxL)
    (body : ∀ (p : Program) (e : Env) (s : State) (m : MethodId) (args : Array Value) (below : List Frame) (meth : Method) (c : Code) (A : Nat → Prop) (Q : State → Prop), wd_Fx p s m args meth c cc maxL ws y.cls D cy A → meth.name = y.name → wd_Rt p l e rm s m args below meth c cc D A ret Q post → ∀ ls : Array Slot, lv_has ls maxL (lv_args 0 av) →
      Wv p l e rm s m args below meth c D A 0 0 Q w (F0 m 0 ls [])) : Ct l D cy y ws rm av w post :=
  Ct.of hy hw hln (fun p e s m below meth c sz F hr hnm ls hl => body p e s m av.toArray below meth c (va_A (wd_pl w) sz) (MQ below (wd_Q D w sz post) av.toArray s rm.cells rm.slots (va_A (wd_pl w) sz)) F hnm (fun w1 H locs pc ls v hP hD hS hp hk => by
    rcases hk with ⟨h1, ty, x, h2, rfl, h3⟩ | ⟨h1, x, h2, rfl⟩ | ⟨h1, rt, x, h2, h3, rfl, h4⟩ | ⟨h1, h2, rfl⟩
    · exact x_zret F hP hD hS (hr.trans h2) h3 hp h1
    · exact x_lret F hP hD hS (hr.trans h2) hp h1
    · exact x_aret F hP hD hS (hr.trans h2) h3 h4 hp h1
    · exact x_vret F hP hD hS (hr.trans h2) hp h1) ls hl)
/-! named stores -/
section WDR3
variable {p : Program} {l : Launch} {e : Env} {R : Room} {s : State} {m : MethodId} {args : Array Value} {below : List Frame} {meth : Method} {c : Code} {H : Heap} {locs : List Loc} {cells slots : Nat} {Q : State → Prop}
variable {cc : ByteArray} {pc nL : Nat} {ls : Array Slot} {rest : List Value} {D : va_G} {cy : Nat → ClassId} {A : Nat → Prop} {a : Nat} {w : Wd} {Ts : List Cond} {own : String}
theorem y_put (F : wd_Fx p s m args meth c cc nL Ts own D cy A) (hP : va_P D vwCl (wd_pl w) H) (hD : va_D A (wd_pl w)) (hS : va_S A s.heap H locs) {C ref : String} {T : u_T} {N ci index : Nat} {fs : List Value} (h : wd_at w a (.inr (ci, fs))) (hc : vwCl[ci]? = some (C, T, N)) (hin : ∀ w ∈ u_ws C T N, w ∈ Ts) {ty0 : Nat → FieldType} (hty : ∀ k, k < N → parseFieldDescriptor (T k).2.2.1 = some (ty0 k)) (hnm : ∀ a, a < N → ∀ b, b < N → a ≠ b → (T a).2.1 ≠ (T b).2.1) (k : Nat) (hk : k < N) (hlink : Cond.fieldLink own index ref (T k).2.1 (T k).2.2.1 ∈ Ts) (hsame : (T k).1 = ref) (hfin : (T k).2.2.2 = false) {v : Value} (hn : narrow (ty0 k) v = v) (hfit : fits (ty0 k) v = true) (hl : k < fs.length) (hdg : decode cc pc = .ok (.putfield index, 3))
    (kk : ∀ (w1 : Wd), w1 = wd_put w a (.inr (ci, fs.set k v)) → ∀ (H1 : Heap) (locs1 : List Loc), va_P D vwCl (wd_pl w1) H1 → va_D A (wd_pl w1) → va_S A s.heap H1 locs1 → W p l e R s m args below meth c H1 locs1 cells slots Q (F0 m (pc + 3) ls rest)) : W p l e R s m args below meth c H locs cells slots Q (F0 m pc ls (v :: .ref a :: rest)) := x_put F hP hD hS h hc hin hty hnm k hk hlink hsame hfin hn hfit hl hdg (fun H1 locs1 a1 a2 a3 => kk _ rfl H1 locs1 a1 a2 a3)
theorem y_putF (F : wd_Fx p s m args meth c cc nL Ts own D cy A) (hP : va_P D vwCl (wd_pl w) H) (hD : va_D A (wd_pl w)) (hS : va_S A s.heap H locs) {C ref : String} {T : u_T} {N ci index : Nat} {fs : List Value} (h : wd_at w a (.inr (ci, fs))) (hc : vwCl[ci]? = some (C, T, N)) (hin : ∀ w ∈ u_ws C T N, w ∈ Ts) {ty0 : Nat → FieldType} (hty : ∀ k, k < N → parseFieldDescriptor (T k).2.2.1 = some (ty0 k)) (hnm : ∀ a, a < N → ∀ b, b < N → a ≠ b → (T a).2.1 ≠ (T b).2.1) (hini : meth.name = "<init>") (k : Nat) (hk : k < N) (hlink : Cond.fieldLink own index ref (T k).2.1 (T k).2.2.1 ∈ Ts) (hsame : (T k).1 = ref) (hown2 : (T k).1 = own) (hfin : (T k).2.2.2 = true) {v : Value} (hn : narrow (ty0 k) v = v) (hfit : fits (ty0 k) v = true) (hl : k < fs.length) (hdg : decode cc pc = .ok (.putfield index, 3))
    (kk : ∀ (w1 : Wd), w1 = wd_put w a (.inr (ci, fs.set k v)) → ∀ (H1 : Heap) (locs1 : List Loc), va_P D vwCl (wd_pl w1) H1 → va_D A (wd_pl w1) → va_S A s.heap H1 locs1 → W p l e R s m args below meth c H1 locs1 cells slots Q (F0 m (pc + 3) ls rest)) : W p l e R s m args below meth c H locs cells slots Q (F0 m pc ls (v :: .ref a :: rest)) := x_putF F hP hD hS h hc hin hty hnm hini k hk hlink hsame hown2 hfin hn hfit hl hdg (fun H1 locs1 a1 a2 a3 => kk _ rfl H1 locs1 a1 a2 a3)
theorem y_iast (F : wd_Fx p s m args meth c cc nL Ts own D cy A) (hP : va_P D vwCl (wd_pl w) H) (hD : va_D A (wd_pl w)) (hS : va_S A s.heap H locs) {n : Nat} {f : Nat → Int32} (h : wd_at w a (.inl (cy 2, n, .inl f))) {i : Int32} {x : Int32} (hin : vp_in i n) (hdg : decode cc pc = .ok (.iastore, 1))
    (kk : ∀ (w1 : Wd), w1 = wd_put w a (.inl (cy 2, n, .inl (upd f i.toNatClampNeg x))) → ∀ (H1 : Heap) (locs1 : List Loc), va_P D vwCl (wd_pl w1) H1 → va_D A (wd_pl w1) → va_S A s.heap H1 locs1 → W p l e R s m args below meth c H1 locs1 cells slots Q (F0 m (pc + 1) ls rest)) : W p l e R s m args below meth c H locs cells slots Q (F0 m pc ls (.int x :: .int i :: .ref a :: rest)) := x_iast F hP hD hS h hin hdg (fun H1 locs1 a1 a2 a3 => kk _ rfl H1 locs1 a1 a2 a3)
theorem y_bast (F : wd_Fx p s m args meth c cc nL Ts own D cy A) (hP : va_P D vwCl (wd_pl w) H) (hD : va_D A (wd_pl w)) (hS : va_S A s.heap H locs) {n : Nat} {f : Nat → Int32} (h : wd_at w a (.inl (cy 0, n, .inl f))) {i : Int32} {x : Int32} (hin : vp_in i n) (hdg : decode cc pc = .ok (.bastore, 1))
    (kk : ∀ (w1 : Wd), w1 = wd_put w a (.inl (cy 0, n, .inl (upd f i.toNatClampNeg (vp_nar .byte x)))) → ∀ (H1 : Heap) (locs1 : List Loc), va_P D vwCl (wd_pl w1) H1 → va_D A (wd_pl w1) → va_S A s.heap H1 locs1 → W p l e R s m args below meth c H1 locs1 cells slots Q (F0 m (pc + 1) ls rest)) : W p l e R s m args below meth c H locs cells slots Q (F0 m pc ls (.int x :: .int i :: .ref a :: rest)) := x_bast F hP hD hS h hin hdg (fun H1 locs1 a1 a2 a3 => kk _ rfl H1 locs1 a1 a2 a3)
theorem y_zast (F : wd_Fx p s m args meth c cc nL Ts own D cy A) (hP : va_P D vwCl (wd_pl w) H) (hD : va_D A (wd_pl w)) (hS : va_S A s.heap H locs) {n : Nat} {f : Nat → Int32} (h : wd_at w a (.inl (cy 4, n, .inl f))) {i : Int32} {x : Int32} (hin : vp_in i n) (hdg : decode cc pc = .ok (.bastore, 1))
    (kk : ∀ (w1 : Wd), w1 = wd_put w a (.inl (cy 4, n, .inl (upd f i.toNatClampNeg (vp_nar .boolean x)))) → ∀ (H1 : Heap) (locs1 : List Loc), va_P D vwCl (wd_pl w1) H1 → va_D A (wd_pl w1) → va_S A s.heap H1 locs1 → W p l e R s m args below meth c H1 locs1 cells slots Q (F0 m (pc + 1) ls rest)) : W p l e R s m args below meth c H locs cells slots Q (F0 m pc ls (.int x :: .int i :: .ref a :: rest)) := x_zast F hP hD hS h hin hdg (fun H1 locs1 a1 a2 a3 => kk _ rfl H1 locs1 a1 a2 a3)
theorem y_cast (F : wd_Fx p s m args meth c cc nL Ts own D cy A) (hP : va_P D vwCl (wd_pl w) H) (hD : va_D A (wd_pl w)) (hS : va_S A s.heap H locs) {n : Nat} {f : Nat → Int32} (h : wd_at w a (.inl (cy 1, n, .inl f))) {i : Int32} {x : Int32} (hin : vp_in i n) (hdg : decode cc pc = .ok (.castore, 1))
    (kk : ∀ (w1 : Wd), w1 = wd_put w a (.inl (cy 1, n, .inl (upd f i.toNatClampNeg (vp_nar .char x)))) → ∀ (H1 : Heap) (locs1 : List Loc), va_P D vwCl (wd_pl w1) H1 → va_D A (wd_pl w1) → va_S A s.heap H1 locs1 → W p l e R s m args below meth c H1 locs1 cells slots Q (F0 m (pc + 1) ls rest)) : W p l e R s m args below meth c H locs cells slots Q (F0 m pc ls (.int x :: .int i :: .ref a :: rest)) := x_cast F hP hD hS h hin hdg (fun H1 locs1 a1 a2 a3 => kk _ rfl H1 locs1 a1 a2 a3)
theorem y_last (F : wd_Fx p s m args meth c cc nL Ts own D cy A) (hP : va_P D vwCl (wd_pl w) H) (hD : va_D A (wd_pl w)) (hS : va_S A s.heap H locs) {n : Nat} {f : Nat → Int64} (h : wd_at w a (.inl (cy 3, n, .inr (.inl f)))) {i : Int32} {x : Int64} (hin : vp_in i n) (hdg : decode cc pc = .ok (.lastore, 1))
    (kk : ∀ (w1 : Wd), w1 = wd_put w a (.inl (cy 3, n, .inr (.inl (vp_updL f i.toNatClampNeg x)))) → ∀ (H1 : Heap) (locs1 : List Loc), va_P D vwCl (wd_pl w1) H1 → va_D A (wd_pl w1) → va_S A s.heap H1 locs1 → W p l e R s m args below meth c H1 locs1 cells slots Q (F0 m (pc + 1) ls rest)) : W p l e R s m args below meth c H locs cells slots Q (F0 m pc ls (.long x :: .int i :: .ref a :: rest)) := x_last F hP hD hS h hin hdg (fun H1 locs1 a1 a2 a3 => kk _ rfl H1 locs1 a1 a2 a3)
theorem y_aast (F : wd_Fx p s m args meth c cc nL Ts own D cy A) (hP : va_P D vwCl (wd_pl w) H) (hD : va_D A (wd_pl w)) (hS : va_S A s.heap H locs) {n t0 ci v : Nat} {r : vw_C} {f : Nat → Option Nat} {vs : List Value} (h : wd_at w a (.inl (cy t0, n, .inr (.inr (.inr (.inr f)))))) (ht : (wd_tys cy)[t0]? = some (cy t0, .object r.1)) (hv : wd_at w v (.inr (ci, vs))) (hc : vwCl[ci]? = some r) {i : Int32} (hin : vp_in i n) (hdg : decode cc pc = .ok (.aastore, 1))
    (kk : ∀ (w1 : Wd), w1 = wd_put w a (.inl (cy t0, n, .inr (.inr (.inr (.inr (va_up f i.toNatClampNeg (some v))))))) → ∀ (H1 : Heap) (locs1 : List Loc), va_P D vwCl (wd_pl w1) H1 → va_D A (wd_pl w1) → va_S A s.heap H1 locs1 → W p l e R s m args below meth c H1 locs1 cells slots Q (F0 m (pc + 1) ls rest)) : W p l e R s m args below meth c H locs cells slots Q (F0 m pc ls (.ref v :: .int i :: .ref a :: rest)) := x_aast F hP hD hS h ht hv hc hin hdg (fun H1 locs1 a1 a2 a3 => kk _ rfl H1 locs1 a1 a2 a3)
theorem y_new (F : wd_Fx p s m args meth c cc nL Ts own D cy A) (hP : va_P D vwCl (wd_pl w) H) (hD : va_D A (wd_pl w)) (hS : va_S A s.heap H locs) {C : String} {T : u_T} {N ci index : Nat} {fs : List Value} (hc : vwCl[ci]? = some (C, T, N)) (hin : ∀ w ∈ u_ws C T N, w ∈ Ts) {ty0 : Nat → FieldType} (hty : ∀ k, k < N → parseFieldDescriptor (T k).2.2.1 = some (ty0 k)) (hcl : Cond.classLink own index C ∈ Ts) (hinst : Cond.instantiable C N ∈ Ts) (hini : Cond.initialized C ∈ Ts) (hfs : ∀ j, j < N → defaultValue (ty0 j) = vp_V fs j) (hcells : cells + 1 ≤ R.cells) (hslots : slots + N ≤ R.slots) (hdg : decode cc pc = .ok (.new index, 3))
    (kk : ∀ (q : Nat) (w1 : Wd), w1 = wd_add w q (.inr (ci, fs)) → q ∉ w.1 → ∀ (H1 : Heap), va_P D vwCl (wd_pl w1) H1 → va_D A (wd_pl w1) → va_S A s.heap H1 locs → W p l e R s m args below meth c H1 locs (cells + 1) (slots + N) Q (F0 m (pc + 3) ls (.ref q :: rest))) : W p l e R s m args below meth c H locs cells slots Q (F0 m pc ls rest) := x_new F hP hD hS hc hin hty hcl hinst hini hfs hcells hslots hdg (fun q H1 hq a1 a2 a3 => kk q _ rfl hq H1 a1 a2 a3)
theorem y_newI (F : wd_Fx p s m args meth c cc nL Ts own D cy A) (hP : va_P D vwCl (wd_pl w) H) (hD : va_D A (wd_pl w)) (hS : va_S A s.heap H locs) (harr : Cond.arrayClass .int ∈ Ts) {n : Int32} {N : Nat} (hn : ¬ n < 0) (hN : n.toNatClampNeg = N) (hbytes : N * 8 ≤ 536870912) (hcells : cells + 1 ≤ R.cells) (hslots : slots + N ≤ R.slots) (hdg : decode cc pc = .ok (.newarray .int, 2))
    (kk : ∀ (q : Nat) (w1 : Wd), w1 = wd_add w q (.inl (cy 2, N, .inl (fun _ => 0))) → q ∉ w.1 → ∀ (H1 : Heap), va_P D vwCl (wd_pl w1) H1 → va_D A (wd_pl w1) → va_S A s.heap H1 locs → W p l e R s m args below meth c H1 locs (cells + 1) (slots + N) Q (F0 m (pc + 2) ls (.ref q :: rest))) : W p l e R s m args below meth c H locs cells slots Q (F0 m pc ls (.int n :: rest)) := x_newI F hP hD hS harr hn hN hbytes hcells hslots hdg (fun q H1 hq a1 a2 a3 => kk q _ rfl hq H1 a1 a2 a3)
theorem y_newB (F : wd_Fx p s m args meth c cc nL Ts own D cy A) (hP : va_P D vwCl (wd_pl w) H) (hD : va_D A (wd_pl w)) (hS : va_S A s.heap H locs) (harr : Cond.arrayClass .byte ∈ Ts) {n : Int32} {N : Nat} (hn : ¬ n < 0) (hN : n.toNatClampNeg = N) (hbytes : N * 8 ≤ 536870912) (hcells : cells + 1 ≤ R.cells) (hslots : slots + N ≤ R.slots) (hdg : decode cc pc = .ok (.newarray .byte, 2))
    (kk : ∀ (q : Nat) (w1 : Wd), w1 = wd_add w q (.inl (cy 0, N, .inl (fun _ => 0))) → q ∉ w.1 → ∀ (H1 : Heap), va_P D vwCl (wd_pl w1) H1 → va_D A (wd_pl w1) → va_S A s.heap H1 locs → W p l e R s m args below meth c H1 locs (cells + 1) (slots + N) Q (F0 m (pc + 2) ls (.ref q :: rest))) : W p l e R s m args below meth c H locs cells slots Q (F0 m pc ls (.int n :: rest)) := x_newB F hP hD hS harr hn hN hbytes hcells hslots hdg (fun q H1 hq a1 a2 a3 => kk q _ rfl hq H1 a1 a2 a3)
theorem y_newC (F : wd_Fx p s m args meth c cc nL Ts own D cy A) (hP : va_P D vwCl (wd_pl w) H) (hD : va_D A (wd_pl w)) (hS : va_S A s.heap H locs) (harr : Cond.arrayClass .char ∈ Ts) {n : Int32} {N : Nat} (hn : ¬ n < 0) (hN : n.toNatClampNeg = N) (hbytes : N * 8 ≤ 536870912) (hcells : cells + 1 ≤ R.cells) (hslots : slots + N ≤ R.slots) (hdg : decode cc pc = .ok (.newarray .char, 2))
    (kk : ∀ (q : Nat) (w1 : Wd), w1 = wd_add w q (.inl (cy 1, N, .inl (fun _ => 0))) → q ∉ w.1 → ∀ (H1 : Heap), va_P D vwCl (wd_pl w1) H1 → va_D A (wd_pl w1) → va_S A s.heap H1 locs → W p l e R s m args below meth c H1 locs (cells + 1) (slots + N) Q (F0 m (pc + 2) ls (.ref q :: rest))) : W p l e R s m args below meth c H locs cells slots Q (F0 m pc ls (.int n :: rest)) := x_newC F hP hD hS harr hn hN hbytes hcells hslots hdg (fun q H1 hq a1 a2 a3 => kk q _ rfl hq H1 a1 a2 a3)
theorem y_newZ (F : wd_Fx p s m args meth c cc nL Ts own D cy A) (hP : va_P D vwCl (wd_pl w) H) (hD : va_D A (wd_pl w)) (hS : va_S A s.heap H locs) (harr : Cond.arrayClass .boolean ∈ Ts) {n : Int32} {N : Nat} (hn : ¬ n < 0) (hN : n.toNatClampNeg = N) (hbytes : N * 8 ≤ 536870912) (hcells : cells + 1 ≤ R.cells) (hslots : slots + N ≤ R.slots) (hdg : decode cc pc = .ok (.newarray .boolean, 2))
    (kk : ∀ (q : Nat) (w1 : Wd), w1 = wd_add w q (.inl (cy 4, N, .inl (fun _ => 0))) → q ∉ w.1 → ∀ (H1 : Heap), va_P D vwCl (wd_pl w1) H1 → va_D A (wd_pl w1) → va_S A s.heap H1 locs → W p l e R s m args below meth c H1 locs (cells + 1) (slots + N) Q (F0 m (pc + 2) ls (.ref q :: rest))) : W p l e R s m args below meth c H locs cells slots Q (F0 m pc ls (.int n :: rest)) := x_newZ F hP hD hS harr hn hN hbytes hcells hslots hdg (fun q H1 hq a1 a2 a3 => kk q _ rfl hq H1 a1 a2 a3)
theorem y_newJ (F : wd_Fx p s m args meth c cc nL Ts own D cy A) (hP : va_P D vwCl (wd_pl w) H) (hD : va_D A (wd_pl w)) (hS : va_S A s.heap H locs) (harr : Cond.arrayClass .long ∈ Ts) {n : Int32} {N : Nat} (hn : ¬ n < 0) (hN : n.toNatClampNeg = N) (hbytes : N * 8 ≤ 536870912) (hcells : cells + 1 ≤ R.cells) (hslots : slots + N ≤ R.slots) (hdg : decode cc pc = .ok (.newarray .long, 2))
    (kk : ∀ (q : Nat) (w1 : Wd), w1 = wd_add w q (.inl (cy 3, N, .inr (.inl (fun _ => 0)))) → q ∉ w.1 → ∀ (H1 : Heap), va_P D vwCl (wd_pl w1) H1 → va_D A (wd_pl w1) → va_S A s.heap H1 locs → W p l e R s m args below meth c H1 locs (cells + 1) (slots + N) Q (F0 m (pc + 2) ls (.ref q :: rest))) : W p l e R s m args below meth c H locs cells slots Q (F0 m pc ls (.int n :: rest)) := x_newJ F hP hD hS harr hn hN hbytes hcells hslots hdg (fun q H1 hq a1 a2 a3 => kk q _ rfl hq H1 a1 a2 a3)
theorem y_newA (F : wd_Fx p s m args meth c cc nL Ts own D cy A) (hP : va_P D vwCl (wd_pl w) H) (hD : va_D A (wd_pl w)) (hS : va_S A s.heap H locs) {C : String} {index t0 : Nat} (hcl : Cond.classLink own index C ∈ Ts) (hC : C ∈ [RX0, RX3, RX5, RX6, RX8]) (ht : (wd_tys cy)[t0]? = some (cy t0, .object C)) {n : Int32} {N : Nat} (hn : ¬ n < 0) (hN : n.toNatClampNeg = N) (hbytes : N * 4 ≤ 536870912) (hcells : cells + 1 ≤ R.cells) (hslots : slots + N ≤ R.slots) (hdg : decode cc pc = .ok (.anewarray index, 3))
    (kk : ∀ (q : Nat) (w1 : Wd), w1 = wd_add w q (.inl (cy t0, N, .inr (.inr (.inr (.inr (fun _ => none)))))) → q ∉ w.1 → ∀ (H1 : Heap), va_P D vwCl (wd_pl w1) H1 → va_D A (wd_pl w1) → va_S A s.heap H1 locs → W p l e R s m args below meth c H1 locs (cells + 1) (slots + N) Q (F0 m (pc + 3) ls (.ref q :: rest))) : W p l e R s m args below meth c H locs cells slots Q (F0 m pc ls (.int n :: rest)) := x_newA F hP hD hS hcl hC ht hn hN hbytes hcells hslots hdg (fun q H1 hq a1 a2 a3 => kk q _ rfl hq H1 a1 a2 a3)
end WDR3
theorem df_0 : ∀ j, j < 4 → defaultValue (tyX0 j) = vp_V [.int 0, .int 0, .int 0, .int 0] j := by
  intro j hj
  match j, hj with
  | 0, _ => exact rfl
  | 1, _ => exact rfl
  | 2, _ => exact rfl
  | 3, _ => exact rfl
  | j + 4, hj => exact absurd hj (by omega)
theorem df_1 : ∀ j, j < 6 → defaultValue (tyX1 j) = vp_V [.null, .null, .null, .null, .null, .int 0] j := by
  intro j hj
  match j, hj with
  | 0, _ => exact rfl
  | 1, _ => exact rfl
  | 2, _ => exact rfl
  | 3, _ => exact rfl
  | 4, _ => exact rfl
  | 5, _ => exact rfl
  | j + 6, hj => exact absurd hj (by omega)
theorem df_2 : ∀ j, j < 3 → defaultValue (tyX2 j) = vp_V [.null, .int 0, .int 0] j := by
  intro j hj
  match j, hj with
  | 0, _ => exact rfl
  | 1, _ => exact rfl
  | 2, _ => exact rfl
  | j + 3, hj => exact absurd hj (by omega)
theorem df_3 : ∀ j, j < 7 → defaultValue (tyX3 j) = vp_V [.int 0, .int 0, .int 0, .int 0, .int 0, .int 0, .int 0] j := by
  intro j hj
  match j, hj with
  | 0, _ => exact rfl
  | 1, _ => exact rfl
  | 2, _ => exact rfl
  | 3, _ => exact rfl
  | 4, _ => exact rfl
  | 5, _ => exact rfl
  | 6, _ => exact rfl
  | j + 7, hj => exact absurd hj (by omega)
theorem df_4 : ∀ j, j < 10 → defaultValue (tyX4 j) = vp_V [.null, .null, .null, .null, .null, .null, .null, .null, .int 0, .int 0] j := by
  intro j hj
  match j, hj with
  | 0, _ => exact rfl
  | 1, _ => exact rfl
  | 2, _ => exact rfl
  | 3, _ => exact rfl
  | 4, _ => exact rfl
  | 5, _ => exact rfl
  | 6, _ => exact rfl
  | 7, _ => exact rfl
  | 8, _ => exact rfl
  | 9, _ => exact rfl
  | j + 10, hj => exact absurd hj (by omega)
theorem df_5 : ∀ j, j < 10 → defaultValue (tyX5 j) = vp_V [.int 0, .int 0, .int 0, .int 0, .int 0, .int 0, .int 0, .int 0, .int 0, .int 0] j := by
  intro j hj
  match j, hj with
  | 0, _ => exact rfl
  | 1, _ => exact rfl
  | 2, _ => exact rfl
  | 3, _ => exact rfl
  | 4, _ => exact rfl
  | 5, _ => exact rfl
  | 6, _ => exact rfl
  | 7, _ => exact rfl
  | 8, _ => exact rfl
  | 9, _ => exact rfl
  | j + 10, hj => exact absurd hj (by omega)
theorem df_6 : ∀ j, j < 3 → defaultValue (tyX6 j) = vp_V [.int 0, .int 0, .null] j := by
  intro j hj
  match j, hj with
  | 0, _ => exact rfl
  | 1, _ => exact rfl
  | 2, _ => exact rfl
  | j + 3, hj => exact absurd hj (by omega)
theorem df_7 : ∀ j, j < 3 → defaultValue (tyX7 j) = vp_V [.null, .int 0, .int 0] j := by
  intro j hj
  match j, hj with
  | 0, _ => exact rfl
  | 1, _ => exact rfl
  | 2, _ => exact rfl
  | j + 3, hj => exact absurd hj (by omega)
theorem df_8 : ∀ j, j < 4 → defaultValue (tyX8 j) = vp_V [.int 0, .int 0, .int 0, .null] j := by
  intro j hj
  match j, hj with
  | 0, _ => exact rfl
  | 1, _ => exact rfl
  | 2, _ => exact rfl
  | 3, _ => exact rfl
  | j + 4, hj => exact absurd hj (by omega)
theorem df_9 : ∀ j, j < 4 → defaultValue (tyX9 j) = vp_V [.null, .null, .null, .null] j := by
  intro j hj
  match j, hj with
  | 0, _ => exact rfl
  | 1, _ => exact rfl
  | 2, _ => exact rfl
  | 3, _ => exact rfl
  | j + 4, hj => exact absurd hj (by omega)
theorem df_10 : ∀ j, j < 17 → defaultValue (tyX10 j) = vp_V [.null, .null, .null, .null, .null, .null, .null, .null, .null, .null, .null, .null, .int 0, .int 0, .int 0, .int 0, .int 0] j := by
  intro j hj
  match j, hj with
  | 0, _ => exact rfl
  | 1, _ => exact rfl
  | 2, _ => exact rfl
  | 3, _ => exact rfl
  | 4, _ => exact rfl
  | 5, _ => exact rfl
  | 6, _ => exact rfl
  | 7, _ => exact rfl
  | 8, _ => exact rfl
  | 9, _ => exact rfl
  | 10, _ => exact rfl
  | 11, _ => exact rfl
  | 12, _ => exact rfl
  | 13, _ => exact rfl
  | 14, _ => exact rfl
  | 15, _ => exact rfl
  | 16, _ => exact rfl
  | j + 17, hj => exact absurd hj (by omega)
/-- what lies outside S is kept -/
def wd_kp (S : Nat → Prop) (w w1 : Wd) : Prop := (∀ b, b ∈ w.1 → b ∈ w1.1) ∧ ∀ b e, wd_at w b e → ¬ S b → wd_at w1 b e
theorem wd_kp.rf {S : Nat → Prop} {w : Wd} : wd_kp S w w := ⟨fun _ h => h, fun _ _ h _ => h⟩
theorem wd_kp.put {S : Nat → Prop} {w w1 w2 : Wd} {a : Nat} {e1 : va_E} (h : wd_kp S w w1) (ew : w2 = wd_put w1 a e1) (ha : S a) : wd_kp S w w2 :=
  ⟨fun b hb => by rw [ew]; exact h.1 b hb, fun b e hb hn => wd_at.pt ew (h.2 b e hb hn) (fun q => hn (by rw [q]; exact ha))⟩
theorem wd_kp.putN {S : Nat → Prop} {w w1 w2 : Wd} {a : Nat} {e1 : va_E} (h : wd_kp S w w1) (ew : w2 = wd_put w1 a e1) (ha : a ∉ w.1) : wd_kp S w w2 :=
  ⟨fun b hb => by rw [ew]; exact h.1 b hb, fun b e hb hn => wd_at.pt ew (h.2 b e hb hn) (fun q => ha (by rw [← q]; exact hb.1))⟩
theorem wd_kp.add {S : Nat → Prop} {w w1 w2 : Wd} {q : Nat} {e1 : va_E} (h : wd_kp S w w1) (ew : w2 = wd_add w1 q e1) (hq : q ∉ w1.1) : wd_kp S w w2 :=
  ⟨fun b hb => by rw [ew]; exact List.mem_append_left _ (h.1 b hb), fun b e hb hn => wd_at.ad ew hq (h.2 b e hb hn)⟩
theorem wd_kp.tr {S S1 : Nat → Prop} {w w1 w2 : Wd} (h : wd_kp S w w1) (h2 : wd_kp S1 w1 w2) (hs : ∀ b, b ∈ w.1 → S1 b → S b) : wd_kp S w w2 :=
  ⟨fun b hb => h2.1 b (h.1 b hb), fun b e hb hn => h2.2 b e (h.2 b e hb hn) (fun q => hn (hs b hb.1 q))⟩
theorem wd_kp.out {S : Nat → Prop} {w w1 : Wd} {q : Nat} (h : wd_kp S w w1) (hq : q ∉ w1.1) : q ∉ w.1 := fun hm => hq (h.1 q hm)
