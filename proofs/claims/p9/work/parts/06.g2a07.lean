section STR
variable {p : Program} {l : Launch} {e : Env} {R : Room} {s : State} {m : MethodId} {args : Array Value} {below : List Frame} {meth : Method} {c : Code} {H : Heap} {locs : List Loc} {cells slots : Nat} {Q : State → Prop}
variable {cc : ByteArray} {pc nL : Nat} {ls : Array Slot} {rest : List Value} {D : va_G} {cy : Nat → ClassId} {sk sv : Nat → Nat} {A : Nat → Prop} {a : Nat} {w : Wd} {Ts : List Cond} {own : String}
theorem x_ldcS (F : wd_Fx p s m args meth c cc nL Ts own D cy sk sv A) {i index : Nat} {tx : String} (hr : (own, index, tx, i) ∈ st_ref) (hdg : decode cc pc = .ok (.ldc index, 2)) (kk : W p l e R s m args below meth c H locs cells slots Q (F0 m (pc + 2) ls (.ref (sk i) :: rest))) : W p l e R s m args below meth c H locs cells slots Q (F0 m pc ls rest) := by
  obtain ⟨⟨hx, hb, hml, hown, hts⟩, hG, hA, hlk, hEv⟩ := F
  have h1 := hEv.2.1 (own, index, tx, i) hr
  have h2 : vk_R own index tx (sk i) _ := h1
  exact va_ldcS hx hb hown h2 hdg kk
end STR
