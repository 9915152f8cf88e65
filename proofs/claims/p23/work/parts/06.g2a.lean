theorem tg_ne {tg : Nat → Nat} {a b s t : Nat} (h1 : tg b = s) (h2 : tg a = t) (n : s ≠ t) : b ≠ a := fun q => n (h1.symm.trans (q ▸ h2))
section STR
variable {p : Program} {l : Launch} {e : Env} {R : Room} {s : State} {m : MethodId} {args : Array Value} {below : List Frame} {meth : Method} {c : Code} {H : Heap} {locs : List Loc} {cells slots : Nat} {Q : State → Prop}
variable {cc : ByteArray} {pc nL : Nat} {ls : Array Slot} {rest : List Value} {D : va_G} {cy : Nat → ClassId} {sk sv : Nat → Nat} {A : Nat → Prop} {a : Nat} {w : Wd} {Ts : List Cond} {own : String}
theorem x_scod (F : wd_Fx p s m args meth c cc nL Ts own D cy sk sv A) (hS : va_S A s.heap H locs) {i index : Nat} (hi : i < 23) (hlink : Cond.fieldLink own index "java/lang/String" "coder" "B" ∈ Ts) (hdg : decode cc pc = .ok (.getfield index, 3)) (kk : W p l e R s m args below meth c H locs cells slots Q (F0 m (pc + 3) ls (.int 0 :: rest))) : W p l e R s m args below meth c H locs cells slots Q (F0 m pc ls (.ref (sk i) :: rest)) := by
  obtain ⟨⟨hx, hb, hml, hown, hts⟩, hG, hA, hlk, hEv⟩ := F
  exact vk_getf hx hb (hEv.1.1 i hi).2.1 hS hown (hts _ hlink) (fun _ h => h) hdg kk
theorem x_sval (F : wd_Fx p s m args meth c cc nL Ts own D cy sk sv A) (hS : va_S A s.heap H locs) {i index : Nat} (hi : i < 23) (hlink : Cond.fieldLink own index "java/lang/String" "value" "[B" ∈ Ts) (hdg : decode cc pc = .ok (.getfield index, 3)) (kk : W p l e R s m args below meth c H locs cells slots Q (F0 m (pc + 3) ls (.ref (sv i) :: rest))) : W p l e R s m args below meth c H locs cells slots Q (F0 m pc ls (.ref (sk i) :: rest)) := by
  obtain ⟨⟨hx, hb, hml, hown, hts⟩, hG, hA, hlk, hEv⟩ := F
  exact vk_getf hx hb (hEv.1.1 i hi).2.2.1 hS hown (hts _ hlink) (fun _ h => h) hdg kk
theorem x_slen (F : wd_Fx p s m args meth c cc nL Ts own D cy sk sv A) (hS : va_S A s.heap H locs) {i : Nat} (hi : i < 23) (hdg : decode cc pc = .ok (.arraylength, 1)) (kk : W p l e R s m args below meth c H locs cells slots Q (F0 m (pc + 1) ls (.int (nI (st_len.getD i 0)) :: rest))) : W p l e R s m args below meth c H locs cells slots Q (F0 m pc ls (.ref (sv i) :: rest)) := by
  obtain ⟨⟨hx, hb, hml, hown, hts⟩, hG, hA, hlk, hEv⟩ := F
  exact va_tlen hx hb (hEv.1.1 i hi).2.2.2 hS rfl hdg kk
theorem x_sbld (F : wd_Fx p s m args meth c cc nL Ts own D cy sk sv A) (hS : va_S A s.heap H locs) {i : Nat} (hi : i < 23) {k : Int32} (hk : vp_in k (st_len.getD i 0)) (hdg : decode cc pc = .ok (.baload, 1)) (kk : W p l e R s m args below meth c H locs cells slots Q (F0 m (pc + 1) ls (.int ((st_byt.getD i []).getD k.toNatClampNeg 0) :: rest))) : W p l e R s m args below meth c H locs cells slots Q (F0 m pc ls (.int k :: .ref (sv i) :: rest)) := by
  obtain ⟨⟨hx, hb, hml, hown, hts⟩, hG, hA, hlk, hEv⟩ := F
  exact va_tb hx hb (hEv.1.1 i hi).2.2.2 hS hk rfl hdg kk
theorem x_compact (F : wd_Fx p s m args meth c cc nL Ts own D cy sk sv A) (hS : va_S A s.heap H locs) {index : Nat} (hlink : Cond.fieldLink own index "java/lang/String" "COMPACT_STRINGS" "Z" ∈ Ts) (hdg : decode cc pc = .ok (.getstatic index, 3)) (kk : W p l e R s m args below meth c H locs cells slots Q (F0 m (pc + 3) ls (.int 1 :: rest))) : W p l e R s m args below meth c H locs cells slots Q (F0 m pc ls rest) := by
  obtain ⟨⟨hx, hb, hml, hown, hts⟩, hG, hA, hlk, hEv⟩ := F
  exact va_gets hx hb hEv.2.2.1 hS hown (hts _ hlink) (fun _ h => h) hdg kk
theorem x_siobe (F : wd_Fx p s m args meth c cc nL Ts own D cy sk sv A) (hS : va_S A s.heap H locs) {index : Nat} (hlink : Cond.fieldLink own index "jdk/internal/util/Preconditions" "SIOOBE_FORMATTER" "Ljava/util/function/BiFunction;" ∈ Ts) (hdg : decode cc pc = .ok (.getstatic index, 3)) (k1 : W p l e R s m args below meth c H locs cells slots Q (F0 m (pc + 3) ls (.null :: rest))) (k2 : ∀ t : Nat, W p l e R s m args below meth c H locs cells slots Q (F0 m (pc + 3) ls (.ref t :: rest))) : W p l e R s m args below meth c H locs cells slots Q (F0 m pc ls rest) := by
  obtain ⟨⟨hx, hb, hml, hown, hts⟩, hG, hA, hlk, hEv⟩ := F
  rcases hEv.2.2.2 with h | ⟨t, h⟩
  · exact va_gets hx hb h hS hown (hts _ hlink) (fun _ h => h) hdg k1
  · exact va_gets hx hb h hS hown (hts _ hlink) (fun _ h => h) hdg (k2 t)
theorem x_callVs (F : wd_Fx p s m args meth c cc nL Ts own D cy sk sv A) (hP : va_P D vwCl (wd_pl w) H) (hD : va_D A (wd_pl w)) (hS : va_S A s.heap H locs) {y : MethodName} {bytes : ByteArray} {maxL index n : Nat} {ret : Option FieldType} {wsm ws' : List Cond} {rm : Room} {As : List Value} {post : Option Value → Wd → Prop} {i : Nat} (hi : i < 23) (hM : Ct l D cy sk sv y wsm rm (.ref (sk i) :: As) w post) (hT : GoodIn Ts (wsV own index "java/lang/String" y wsm)) (hw : wsm = Cond.code y bytes maxL ret :: ws') (hC : y.cls = "java/lang/String") (hd : y.cls ≠ "java/lang/invoke/MethodHandle" ∧ y.cls ≠ "java/lang/invoke/VarHandle" ∧ (parseMethodDescriptor y.desc).map (fun d => d.parameters.length) = some n) (hR : rm.frames + 1 ≤ R.frames ∧ 8 + (maxL + 11) + rm.locals ≤ R.locals) (hn : As.length = n) (hls : ls.size = nL) (hrm : (rest.map fun v => v.category).sum ≤ 8) (hdg : decode cc pc = .ok (.invokevirtual index, 3)) {st0 : List Value} (hst : st0 = As.reverse ++ .ref (sk i) :: rest)
    (hroom : cells + rm.cells ≤ R.cells ∧ slots + rm.slots ≤ R.slots) (kk : ∀ (v : Option Value) (w1 : Wd), post v w1 → ∀ (H1 : Heap) (locs1 : List Loc), va_P D vwCl (wd_pl w1) H1 → va_D A (wd_pl w1) → va_S A s.heap H1 locs1 → W p l e R s m args below meth c H1 locs1 (cells + rm.cells) (slots + rm.slots) Q (F0 m (pc + 3) ls (v.toList ++ rest))) : W p l e R s m args below meth c H locs cells slots Q (F0 m pc ls st0) := by
  obtain ⟨hfix, hG, hA, hlk, hEv⟩ := F
  exact x_after hP hD hS hA rfl (va_runV (g := F0 m pc ls st0) hfix (hM H.size) (cwV n hfix.2.2.2.2 hT hw rfl rfl ⟨hC, hd⟩ hR) ⟨wd_P.blind, vk_recv hEv.1 hi hS, fun U hU hW => wd_P.met hP hD hS hA hG hEv U hU hW⟩ rfl hn hls hst (lv_room hrm) hdg hroom) kk
theorem x_ldcS (F : wd_Fx p s m args meth c cc nL Ts own D cy sk sv A) {i index : Nat} {tx : String} (hr : (own, index, tx, i) ∈ st_ref) (hdg : decode cc pc = .ok (.ldc index, 2)) (kk : W p l e R s m args below meth c H locs cells slots Q (F0 m (pc + 2) ls (.ref (sk i) :: rest))) : W p l e R s m args below meth c H locs cells slots Q (F0 m pc ls rest) := by
  obtain ⟨⟨hx, hb, hml, hown, hts⟩, hG, hA, hlk, hEv⟩ := F
  exact va_ldcS hx hb hown (hEv.2.1 _ hr) hdg kk
end STR
