section STR
variable {p : Program} {l : Launch} {e : Env} {R : Room} {s : State} {m : MethodId} {args : Array Value} {below : List Frame} {meth : Method} {c : Code} {H : Heap} {locs : List Loc} {cells slots : Nat} {Q : State → Prop}
variable {cc : ByteArray} {pc nL : Nat} {ls : Array Slot} {rest : List Value} {D : va_G} {cy : Nat → ClassId} {sk sv : Nat → Nat} {A : Nat → Prop} {a : Nat} {w : Wd} {Ts : List Cond} {own : String}
theorem x_compact (F : wd_Fx p s m args meth c cc nL Ts own D cy sk sv A) (hS : va_S A s.heap H locs) {index : Nat} (hlink : Cond.fieldLink own index "java/lang/String" "COMPACT_STRINGS" "Z" ∈ Ts) (hdg : decode cc pc = .ok (.getstatic index, 3)) (kk : W p l e R s m args below meth c H locs cells slots Q (F0 m (pc + 3) ls (.int 1 :: rest))) : W p l e R s m args below meth c H locs cells slots Q (F0 m pc ls rest) := by
  obtain ⟨⟨hx, hb, hml, hown, hts⟩, hG, hA, hlk, hEv⟩ := F
  exact va_gets hx hb hEv.2.2.1 hS hown (hts _ hlink) (fun _ h => h) hdg kk
end STR
