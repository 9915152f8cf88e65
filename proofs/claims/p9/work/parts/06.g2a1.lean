theorem st_lt : ∀ i, i < 23 → st_len.getD i 0 < 64 := by decide +kernel
theorem gd_all {P : Int32 → Prop} (h0 : P 0) (h : ∀ l ∈ st_byt, ∀ x ∈ l, P x) (i k : Nat) : P ((st_byt.getD i []).getD k 0) := by
  rw [List.getD_eq_getElem?_getD, List.getD_eq_getElem?_getD]
  cases e : st_byt[i]? with
  | none =>
    show P (([] : List Int32)[k]?.getD 0)
    rw [List.getElem?_nil]
    exact h0
  | some l =>
    show P (l[k]?.getD 0)
    cases e2 : l[k]? with
    | none => exact h0
    | some x => exact h l (List.mem_of_getElem? e) x (List.mem_of_getElem? e2)
theorem st_and : ∀ i, i < 23 → ∀ k, k < 64 → ((st_byt.getD i []).getD k 0 &&& 255) = (st_byt.getD i []).getD k 0 := fun i _ k _ => gd_all (P := fun x => (x &&& 255) = x) (by decide) (show ∀ l ∈ st_byt, ∀ x ∈ l, (x &&& 255) = x by decide +kernel) i k
theorem st_i2c (x : Int32) (h : x &&& 255 = x) : ((x &&& 255).toUInt32 % 65536).toInt32 = x := by rw [sc_c2]; exact h
theorem st_nc : ∀ i, i < 23 → ∀ k, k < 64 → narrow .char (.int ((st_byt.getD i []).getD k 0)) = .int ((st_byt.getD i []).getD k 0) := fun i _ k _ => gd_all (P := fun x => narrow .char (.int x) = .int x) (by decide) (show ∀ l ∈ st_byt, ∀ x ∈ l, narrow .char (.int x) = .int x by decide +kernel) i k
