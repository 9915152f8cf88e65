theorem i32_le {x : Int32} {u : Nat} (e : x = nI u) (hu : u ≤ 20) : x ≤ 0 ↔ ¬ 0 < x := ⟨fun h q => absurd (Int32.lt_of_lt_of_le q h) Int32.lt_irrefl, fun h => Int32.not_lt.mp h⟩
theorem i32_p0 {x : Int32} {u : Nat} (e : x = nI u) (hu : u ≤ 20) (h : ¬ 0 < x) : x = 0 := by
  rw [e] at h ⊢
  by_cases q : u = 0
  · rw [q]; rfl
  · exact absurd (nI_lt (a := 0) (b := u) (by omega) (by omega)) h
theorem sh200 {sh : Nat} (h : sh < 200) : ¬ (200 : Int32) ≤ nI sh := nI_ge (b := 200) h (by omega)
theorem uu9 {f : Nat → Int32} {k : Nat} {a b : Int32} : upd (upd f k a) k b = upd f k b := by
  funext j
  by_cases e : j = k
  · rw [e, pk_us, pk_us]
  · rw [pk_un e, pk_un e, pk_un e]
theorem uL9 {f : Nat → Int64} {k : Nat} {a b : Int64} : vp_updL (vp_updL f k a) k b = vp_updL f k b := by
  funext j
  by_cases e : j = k
  · rw [e, pk_uLs, pk_uLs]
  · rw [pk_uLn e, pk_uLn e, pk_uLn e]
