section STR
variable {p : Program} {l : Launch} {e : Env} {R : Room} {s : State} {m : MethodId} {args : Array Value} {below : List Frame} {meth : Method} {c : Code} {H : Heap} {locs : List Loc} {cells slots : Nat} {Q : State → Prop}
variable {cc : ByteArray} {pc nL : Nat} {ls : Array Slot} {rest : List Value} {D : va_G} {cy : Nat → ClassId} {sk sv : Nat → Nat} {A : Nat → Prop} {a : Nat} {w : Wd} {Ts : List Cond} {own : String}
theorem x_slen (F : wd_Fx p s m args meth c cc nL Ts own D cy sk sv A) (hS : va_S A s.heap H locs) {i : Nat} (hi : i < 23) (hdg : decode cc pc = .ok (.arraylength, 1)) (kk : W p l e R s m args below meth c H locs cells slots Q (F0 m (pc + 1) ls (.int (nI (st_len.getD i 0)) :: rest))) : W p l e R s m args below meth c H locs cells slots Q (F0 m pc ls (.ref (sv i) :: rest)) := by
  obtain ⟨⟨hx, hb, hml, hown, hts⟩, hG, hA, hlk, hEv⟩ := F
  exact va_tlen hx hb (hEv.1.1 i hi).2.2.2 hS rfl hdg kk
end STR
