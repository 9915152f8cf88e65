/-! ===== gifts ===== -/
abbrev NS := (Nat → Int64) × Nat × (Nat → Int32) × (Nat → Int32) × (Nat → Int64) × (Nat → Int32)
def aG {α : Type} (n : Nat) (f : Nat → α) (x : α) : Nat → α := if 12 ≤ n then f else fun j => if j = n then x else f j
def adG (S : NS) (a b : Int32) (v : Int64) (k : Int32) : NS := (S.1, (if 12 ≤ S.2.1 then S.2.1 else S.2.1 + 1), aG S.2.1 S.2.2.1 a, aG S.2.1 S.2.2.2.1 b, aG S.2.1 S.2.2.2.2.1 v, aG S.2.1 S.2.2.2.2.2 k)
def nV (o : Nat → Int64) (i j : Nat) : Int64 := if o j < -(o i) then o j else -(o i)
def nO (o : Nat → Int64) (i j : Nat) : Nat → Int64 := vp_updL (vp_updL o i (o i + nV o i j)) j (o j - nV o i j)
def nT (co : Nat → Int32) (k : Int32) (i j : Nat) (S : NS) : NS := if co i = k ∧ co j = k ∧ S.1 i < 0 ∧ 0 < S.1 j then adG (nO S.1 i j, S.2) (nI i) (nI j) (nV S.1 i j) k else S
def nF (co : Nat → Int32) (k : Int32) : Nat → Nat → NS → NS
  | 0, _, S => S
  | F + 1, q, S => nF co k F (q + 1) (nT co k (q / 12) (q % 12) S)
def nh (co : Nat → Int32) (k : Int32) (t : Nat) (S : NS) : NS := if co t = k ∧ 0 < S.1 t then adG S 12 (nI t) (S.1 t) k else if co t = k ∧ S.1 t < 0 then adG S (nI t) 12 (-(S.1 t)) k else S
def nH (co : Nat → Int32) (k : Int32) : Nat → Nat → NS → NS
  | 0, _, S => S
  | F + 1, t, S => nH co k F (t + 1) (nh co k t S)
def nA (co : Nat → Int32) : Nat → Nat → NS → NS
  | 0, _, S => S
  | F + 1, z, S => nA co F (z + 1) (nH co (nI z) 12 0 (nF co (nI z) 144 0 S))
def nN (co : Nat → Int32) (o : Nat → Int64) : NS := nA co 4 0 (o, 0, fun _ => 0, fun _ => 0, fun _ => 0, fun _ => 0)
theorem nF_s {co : Nat → Int32} {k : Int32} {F i j : Nat} {S : NS} (hj : j < 12) : nF co k (F + 1) (12 * i + j) S = nF co k F (12 * i + j + 1) (nT co k i j S) := by
  show nF co k F (12 * i + j + 1) (nT co k ((12 * i + j) / 12) ((12 * i + j) % 12) S) = _
  rw [show (12 * i + j) / 12 = i by omega, show (12 * i + j) % 12 = j by omega]
theorem nF_k {co : Nat → Int32} {k : Int32} : ∀ d q F (S : NS), (∀ p, q ≤ p → p < q + d → nT co k (p / 12) (p % 12) S = S) → nF co k (d + F) q S = nF co k F (q + d) S
  | 0, q, F, S, _ => by rw [Nat.zero_add, Nat.add_zero]
  | d + 1, q, F, S, h => by
    rw [show d + 1 + F = (d + F) + 1 by omega]
    show nF co k (d + F) (q + 1) (nT co k (q / 12) (q % 12) S) = _
    rw [h q (Nat.le_refl q) (by omega), nF_k d (q + 1) F S (fun p h1 h2 => h p (by omega) (by omega)), show q + 1 + d = q + (d + 1) by omega]
theorem nF_0 {co : Nat → Int32} {k : Int32} {S : NS} {q : Nat} (hq : q ≤ 144) (h : ∀ i j, i < 12 → j < 12 → 12 * i + j < q → ¬ (co i = k ∧ co j = k ∧ S.1 i < 0 ∧ 0 < S.1 j)) : nF co k 144 0 S = nF co k (144 - q) q S := by
  have h1 := nF_k (co := co) (k := k) q 0 (144 - q) S (fun p _ hp => if_neg (h (p / 12) (p % 12) (by omega) (by omega) (by omega)))
  rw [show q + (144 - q) = 144 by omega, Nat.zero_add] at h1
  exact h1
theorem nF_e {co : Nat → Int32} {k : Int32} {S : NS} (h : ∀ i j, i < 12 → j < 12 → ¬ (co i = k ∧ co j = k ∧ S.1 i < 0 ∧ 0 < S.1 j)) : nF co k 144 0 S = S := by
  rw [nF_0 (q := 144) (Nat.le_refl _) (fun i j hi hj _ => h i j hi hj)]
  rfl
theorem i64_b (x : Int64) : -9223372036854775808 ≤ x.toInt ∧ x.toInt < 9223372036854775808 := ⟨Int64.le_toInt x, Int64.toInt_lt x⟩
theorem i64_neg {x : Int64} (h : ¬ x.toInt = -9223372036854775808) : (-x).toInt = -x.toInt := by
  have h1 := i64_b x
  rw [Int64.toInt_neg, Int.bmod_eq_of_le (by omega) (by omega)]
theorem i64_add {x y : Int64} (h : -9223372036854775808 ≤ x.toInt + y.toInt) (h2 : x.toInt + y.toInt < 9223372036854775808) : (x + y).toInt = x.toInt + y.toInt := by
  rw [Int64.toInt_add, Int.bmod_eq_of_le (by omega) (by omega)]
theorem i64_sub {x y : Int64} (h : -9223372036854775808 ≤ x.toInt - y.toInt) (h2 : x.toInt - y.toInt < 9223372036854775808) : (x - y).toInt = x.toInt - y.toInt := by
  rw [Int64.toInt_sub, Int.bmod_eq_of_le (by omega) (by omega)]
/-- what a gift leaves of giver and getter -/
theorem nV_p {x y v : Int64} (hx : x < 0) (hm : ¬ x.toInt = -9223372036854775808) (hy : 0 < y) (hv : v = if y < -x then y else -x) : (x + v).toInt ≤ 0 ∧ 0 ≤ (y - v).toInt ∧ ((x + v).toInt = 0 ∨ (y - v).toInt = 0) ∧ x.toInt ≤ (x + v).toInt := by
  have bx := i64_b x
  have b2 := i64_b y
  have h1 : x.toInt < 0 := Int64.lt_iff_toInt_lt.mp hx
  have h2 : 0 < y.toInt := Int64.lt_iff_toInt_lt.mp hy
  have h3 := i64_neg hm
  by_cases q : y < -x
  · rw [if_pos q] at hv
    subst hv
    have h4 := Int64.lt_iff_toInt_lt.mp q
    rw [h3] at h4
    rw [i64_add (by omega) (by omega), i64_sub (by omega) (by omega)]
    omega
  · rw [if_neg q] at hv
    subst hv
    have h4 : ¬ y.toInt < (-x).toInt := fun z => q (Int64.lt_iff_toInt_lt.mpr z)
    rw [h3] at h4
    rw [i64_add (by rw [h3]; omega) (by rw [h3]; omega), i64_sub (by rw [h3]; omega) (by rw [h3]; omega), h3]
    omega
def noM (o : Nat → Int64) : Prop := ∀ t, t < 12 → ¬ (o t).toInt = -9223372036854775808
theorem nO_a {o : Nat → Int64} {a b : Nat} (h : a ≠ b) : nO o a b a = o a + nV o a b := by
  unfold nO
  rw [pk_uLn h, pk_uLs]
theorem nO_b {o : Nat → Int64} {a b : Nat} : nO o a b b = o b - nV o a b := by
  unfold nO
  rw [pk_uLs]
theorem nO_t {o : Nat → Int64} {a b t : Nat} (h : t ≠ a) (h2 : t ≠ b) : nO o a b t = o t := by
  unfold nO
  rw [pk_uLn h2, pk_uLn h]
theorem i64_0 {x : Int64} : x < 0 ↔ x.toInt < 0 := Int64.lt_iff_toInt_lt
theorem i64_p {x : Int64} : 0 < x ↔ 0 < x.toInt := Int64.lt_iff_toInt_lt
theorem nO_m {o : Nat → Int64} {a b : Nat} (hm : noM o) (ha : a < 12) (h3 : o a < 0) (h4 : 0 < o b) : noM (nO o a b) := fun t ht => by
  have hv := nV_p h3 (hm a ha) h4 (v := nV o a b) rfl
  have hab : a ≠ b := fun q => by rw [q, i64_0] at h3; rw [i64_p] at h4; omega
  by_cases ea : t = a
  · rw [ea, nO_a hab]
    have h5 := i64_0.mp h3
    have h6 := hm a ha
    have h7 := i64_b (o a)
    omega
  · by_cases eb : t = b
    · rw [eb, nO_b]; omega
    · rw [nO_t ea eb]; exact hm t ht
/-- the least giver gives to the least getter: the same gifts as from the beginning -/
theorem nF_g {co : Nat → Int32} {k : Int32} {S : NS} {a b : Nat} (hm : noM S.1) (ha : a < 12) (hb : b < 12) (h1 : co a = k) (h2 : co b = k) (h3 : S.1 a < 0) (h4 : 0 < S.1 b) (la : ∀ i, i < a → ¬ (co i = k ∧ S.1 i < 0)) (lb : ∀ j, j < b → ¬ (co j = k ∧ 0 < S.1 j)) : nF co k 144 0 S = nF co k 144 0 (adG (nO S.1 a b, S.2) (nI a) (nI b) (nV S.1 a b) k) := by
  have hv := nV_p h3 (hm a ha) h4 (v := nV S.1 a b) rfl
  have hab : a ≠ b := fun q => by rw [q, i64_0] at h3; rw [i64_p] at h4; omega
  have e1 : nF co k 144 0 S = nF co k (144 - (12 * a + b)) (12 * a + b) S := nF_0 (by omega) (fun i j hi hj hq z => by
    by_cases q : i < a
    · exact la i q ⟨z.1, z.2.2.1⟩
    · exact lb j (by omega) ⟨z.2.1, z.2.2.2⟩)
  have e2 : nT co k a b S = adG (nO S.1 a b, S.2) (nI a) (nI b) (nV S.1 a b) k := if_pos ⟨h1, h2, h3, h4⟩
  rw [e1, show 144 - (12 * a + b) = (143 - (12 * a + b)) + 1 by omega, nF_s hb, e2]
  refine ((nF_0 (q := 12 * a + b + 1) (by omega) (fun i j hi hj hq z => ?_)).trans (by rw [show 144 - (12 * a + b + 1) = 143 - (12 * a + b) by omega])).symm
  have z3 : nO S.1 a b i < 0 := z.2.2.1
  have z4 : 0 < nO S.1 a b j := z.2.2.2
  rw [i64_0] at z3
  rw [i64_p] at z4
  by_cases ea : i = a
  · rw [ea, nO_a hab] at z3
    by_cases eb : j = b
    · rw [eb, nO_b] at z4; omega
    · by_cases ej : j = a
      · rw [ej, nO_a hab] at z4; omega
      · rw [nO_t ej eb] at z4
        exact lb j (by omega) ⟨z.2.1, i64_p.mpr z4⟩
  · have hi2 : i < a := by omega
    by_cases eb : i = b
    · rw [eb, nO_b] at z3; omega
    · rw [nO_t ea eb] at z3
      exact la i hi2 ⟨z.1, i64_0.mpr z3⟩
def nsR (S S2 : NS) : Prop := (∀ t, t < 12 → S.1 t = S2.1 t) ∧ S.2.1 = S2.2.1 ∧ ∀ k, k < S.2.1 → S.2.2.1 k = S2.2.2.1 k ∧ S.2.2.2.1 k = S2.2.2.2.1 k ∧ S.2.2.2.2.1 k = S2.2.2.2.2.1 k ∧ S.2.2.2.2.2 k = S2.2.2.2.2.2 k
theorem aG_c {α : Type} {n k : Nat} {f g : Nat → α} {x : α} (hn : ¬ 12 ≤ n) (h : k < n → f k = g k) (hk : k < n + 1) : aG n f x k = aG n g x k := by
  unfold aG
  rw [if_neg hn, if_neg hn]
  by_cases e : k = n
  · rw [if_pos e, if_pos e]
  · rw [if_neg e, if_neg e]; exact h (by omega)
theorem nsR.a {S S2 : NS} {a b k : Int32} {v : Int64} (h : nsR S S2) : nsR (adG S a b v k) (adG S2 a b v k) := by
  obtain ⟨h1, h2, h3⟩ := h
  unfold adG
  rw [← h2]
  by_cases q : 12 ≤ S.2.1
  · unfold aG
    simp only [if_pos q]
    exact ⟨h1, rfl, h3⟩
  · refine ⟨h1, rfl, fun j hj => ?_⟩
    have hj2 : j < S.2.1 + 1 := by
      have h9 : j < (if 12 ≤ S.2.1 then S.2.1 else S.2.1 + 1) := hj
      rw [if_neg q] at h9; exact h9
    exact ⟨aG_c q (fun z => (h3 j z).1) hj2, aG_c q (fun z => (h3 j z).2.1) hj2, aG_c q (fun z => (h3 j z).2.2.1) hj2, aG_c q (fun z => (h3 j z).2.2.2) hj2⟩
theorem nV_c {o o2 : Nat → Int64} {i j : Nat} (h : ∀ t, t < 12 → o t = o2 t) (hi : i < 12) (hj : j < 12) : nV o i j = nV o2 i j := by
  unfold nV
  rw [h i hi, h j hj]
theorem nO_c {o o2 : Nat → Int64} {i j : Nat} (h : ∀ t, t < 12 → o t = o2 t) (hi : i < 12) (hj : j < 12) : ∀ t, t < 12 → nO o i j t = nO o2 i j t := fun t ht => by
  unfold nO
  rw [nV_c h hi hj, h i hi, h j hj]
  by_cases e : t = j
  · rw [e, pk_uLs, pk_uLs]
  · rw [pk_uLn e, pk_uLn e]
    by_cases e2 : t = i
    · rw [e2, pk_uLs, pk_uLs]
    · rw [pk_uLn e2, pk_uLn e2]; exact h t ht
theorem nsR.t {co : Nat → Int32} {k : Int32} {S S2 : NS} {i j : Nat} (h : nsR S S2) (hi : i < 12) (hj : j < 12) : nsR (nT co k i j S) (nT co k i j S2) := by
  unfold nT
  rw [← h.1 i hi, ← h.1 j hj, ← nV_c h.1 hi hj]
  by_cases q : co i = k ∧ co j = k ∧ S.1 i < 0 ∧ 0 < S.1 j
  · rw [if_pos q, if_pos q]
    exact nsR.a ⟨nO_c h.1 hi hj, h.2.1, h.2.2⟩
  · rw [if_neg q, if_neg q]; exact h
theorem nsR.f {co : Nat → Int32} {k : Int32} : ∀ F q (S S2 : NS), F + q ≤ 144 → nsR S S2 → nsR (nF co k F q S) (nF co k F q S2)
  | 0, _, _, _, _, h => h
  | F + 1, q, S, S2, hq, h => nsR.f F (q + 1) _ _ (by omega) (h.t (by omega) (by omega))
theorem nsR.h {co : Nat → Int32} {k : Int32} {t : Nat} {S S2 : NS} (h : nsR S S2) (ht : t < 12) : nsR (nh co k t S) (nh co k t S2) := by
  unfold nh
  rw [← h.1 t ht]
  by_cases q : co t = k ∧ 0 < S.1 t
  · rw [if_pos q, if_pos q]; exact h.a
  · rw [if_neg q, if_neg q]
    by_cases q2 : co t = k ∧ S.1 t < 0
    · rw [if_pos q2, if_pos q2]; exact h.a
    · rw [if_neg q2, if_neg q2]; exact h
theorem nsR.g {co : Nat → Int32} {k : Int32} : ∀ F t (S S2 : NS), F + t ≤ 12 → nsR S S2 → nsR (nH co k F t S) (nH co k F t S2)
  | 0, _, _, _, _, h => h
  | F + 1, t, S, S2, hq, h => nsR.g F (t + 1) _ _ (by omega) (h.h (by omega))
theorem nsR.all {co : Nat → Int32} : ∀ F z (S S2 : NS), nsR S S2 → nsR (nA co F z S) (nA co F z S2)
  | 0, _, _, _, h => h
  | F + 1, z, S, S2, h => nsR.all F (z + 1) _ _ (nsR.g 12 0 _ _ (Nat.le_refl _) (nsR.f 144 0 _ _ (Nat.le_refl _) h))
theorem nsR.n {co : Nat → Int32} {o o2 : Nat → Int64} {f1 f2 f4 : Nat → Int32} {f3 : Nat → Int64} (h : ∀ t, t < 12 → o t = o2 t) : nsR (nA co 4 0 (o, 0, f1, f2, f3, f4)) (nN co o2) := nsR.all 4 0 _ _ ⟨h, rfl, fun k hk => absurd hk (Nat.not_lt_zero k)⟩
theorem adG_12 {S : NS} {a b k : Int32} {v : Int64} (h : S.2.1 ≤ 12) : (adG S a b v k).2.1 ≤ 12 := by
  show (if 12 ≤ S.2.1 then S.2.1 else S.2.1 + 1) ≤ 12
  split <;> omega
theorem nT_12 {co : Nat → Int32} {k : Int32} {S : NS} {i j : Nat} (h : S.2.1 ≤ 12) : (nT co k i j S).2.1 ≤ 12 := by
  unfold nT
  split
  · exact adG_12 h
  · exact h
theorem nF_12 {co : Nat → Int32} {k : Int32} : ∀ F q (S : NS), S.2.1 ≤ 12 → (nF co k F q S).2.1 ≤ 12
  | 0, _, _, h => h
  | F + 1, q, _, h => nF_12 F (q + 1) _ (nT_12 h)
theorem nh_12 {co : Nat → Int32} {k : Int32} {S : NS} {t : Nat} (h : S.2.1 ≤ 12) : (nh co k t S).2.1 ≤ 12 := by
  unfold nh
  split
  · exact adG_12 h
  · split
    · exact adG_12 h
    · exact h
theorem nH_12 {co : Nat → Int32} {k : Int32} : ∀ F t (S : NS), S.2.1 ≤ 12 → (nH co k F t S).2.1 ≤ 12
  | 0, _, _, h => h
  | F + 1, t, _, h => nH_12 F (t + 1) _ (nh_12 h)
theorem nA_12 {co : Nat → Int32} : ∀ F z (S : NS), S.2.1 ≤ 12 → (nA co F z S).2.1 ≤ 12
  | 0, _, _, h => h
  | F + 1, z, _, h => nA_12 F (z + 1) _ (nH_12 12 0 _ (nF_12 144 0 _ h))
theorem nN_12 {co : Nat → Int32} {o : Nat → Int64} : (nN co o).2.1 ≤ 12 := nA_12 4 0 _ (Nat.zero_le 12)
/-- no sum is beyond what a long holds -/
theorem stS_b {hto : Nat → Nat} {V hld : Nat → Int32} {kn : Int32} {t : Nat} : ∀ n : Nat, n ≤ 200 → -(2147483648 * (n : Int)) ≤ (stS hto V hld kn t n).toInt ∧ (stS hto V hld kn t n).toInt ≤ 2147483648 * (n : Int)
  | 0, _ => by
    show -(2147483648 * ((0 : Nat) : Int)) ≤ (0 : Int64).toInt ∧ (0 : Int64).toInt ≤ 2147483648 * ((0 : Nat) : Int)
    decide
  | n + 1, hn => by
    have h := stS_b (hto := hto) (V := V) (hld := hld) (kn := kn) (t := t) n (by omega)
    by_cases q : stl hld kn n = true ∧ hto n = t
    · rw [stS_y q.1 q.2]
      have e : (V n).toInt64.toInt = (V n).toInt := Int32.toInt_toInt64 _
      have h1 : -2147483648 ≤ (V n).toInt := Int32.le_toInt _
      have h2 : (V n).toInt < 2147483648 := Int32.toInt_lt _
      rw [i64_add (by omega) (by omega), e]
      omega
    · rw [stS_n q]; omega
theorem stD_m {hto : Nat → Nat} {V hld se : Nat → Int32} {kn : Int32} {sh : Nat} (h : sh ≤ 200) : noM (stD hto V hld kn se sh) := fun t _ => by
  have h1 := stS_b (hto := hto) (V := V) (hld := hld) (kn := kn) (t := t) sh h
  have e : (se t).toInt64.toInt = (se t).toInt := Int32.toInt_toInt64 _
  have h2 : -2147483648 ≤ (se t).toInt := Int32.le_toInt _
  have h3 : (se t).toInt < 2147483648 := Int32.toInt_lt _
  unfold stD
  rw [i64_sub (by omega) (by omega), e]
  omega
theorem noM.c {o o2 : Nat → Int64} (h : noM o) (e : ∀ t, t < 12 → o2 t = o t) : noM o2 := fun t ht => by rw [e t ht]; exact h t ht
theorem aG_0 {α : Type} {n : Nat} {f : Nat → α} {x : α} (h : 12 ≤ n) : aG n f x = f := if_pos h
theorem aG_i {n : Nat} {f : Nat → Int32} {x : Int32} (h : n < 12) : upd f (nI n).toNatClampNeg x = aG n f x := by
  unfold aG
  rw [if_neg (Nat.not_le.mpr h), nI_clamp (by omega)]
  funext j
  by_cases e : j = n
  · rw [e, pk_us, if_pos rfl]
  · rw [pk_un e, if_neg e]
theorem aG_l {n : Nat} {f : Nat → Int64} {x : Int64} (h : n < 12) : vp_updL f (nI n).toNatClampNeg x = aG n f x := by
  unfold aG
  rw [if_neg (Nat.not_le.mpr h), nI_clamp (by omega)]
  funext j
  by_cases e : j = n
  · rw [e, pk_uLs, if_pos rfl]
  · rw [pk_uLn e, if_neg e]
theorem nF_y {co : Nat → Int32} {k : Int32} {i j : Nat} {S S2 T : NS} (hi : i < 12) (hj : j < 12) (h : nF co k (144 - (12 * i + j)) (12 * i + j) S = T) (e : nT co k i j S = S2) : nF co k (144 - (12 * i + (j + 1))) (12 * i + (j + 1)) S2 = T := by
  rw [show 144 - (12 * i + j) = (144 - (12 * i + (j + 1))) + 1 by omega, nF_s hj, e] at h
  exact h
theorem nT_g {co : Nat → Int32} {k : Int32} {i j : Nat} {o : Nat → Int64} {r : Nat × (Nat → Int32) × (Nat → Int32) × (Nat → Int64) × (Nat → Int32)} (hi : i < 12) (hj : j < 12) (h1 : co i = k) (h2 : co j = k) (h3 : o i < 0) (h4 : 0 < o j) : nT co k i j (o, r) = adG (vp_updL (vp_updL o (nI i).toNatClampNeg (o i + if o j < -(o i) then o j else -(o i))) (nI j).toNatClampNeg (vp_updL o (nI i).toNatClampNeg (o i + if o j < -(o i) then o j else -(o i)) (nI j).toNatClampNeg - if o j < -(o i) then o j else -(o i)), r) (nI i) (nI j) (if o j < -(o i) then o j else -(o i)) k := by
  have hij : j ≠ i := fun q => by rw [q, i64_p] at h4; rw [i64_0] at h3; omega
  unfold nT
  rw [if_pos ⟨h1, h2, h3, h4⟩, nI_clamp (n := i) (by omega), nI_clamp (n := j) (by omega), pk_uLn hij]
  rfl
theorem nH_y {co : Nat → Int32} {k : Int32} {i : Nat} {S S2 T : NS} (hi : i < 12) (h : nH co k (12 - i) i S = T) (e : nh co k i S = S2) : nH co k (12 - (i + 1)) (i + 1) S2 = T := by
  rw [show 12 - i = (12 - (i + 1)) + 1 by omega] at h
  have h9 : nH co k (12 - (i + 1)) (i + 1) (nh co k i S) = T := h
  rw [e] at h9
  exact h9
theorem nh_n {co : Nat → Int32} {k : Int32} {t : Nat} {S : NS} (h : ¬ co t = k) : nh co k t S = S := by
  unfold nh
  rw [if_neg (fun q => h q.1), if_neg (fun q => h q.1)]
theorem nh_z {co : Nat → Int32} {k : Int32} {t : Nat} {S : NS} (h1 : ¬ 0 < S.1 t) (h2 : ¬ S.1 t < 0) : nh co k t S = S := by
  unfold nh
  rw [if_neg (fun q => h1 q.2), if_neg (fun q => h2 q.2)]
theorem nh_g {co : Nat → Int32} {k : Int32} {t : Nat} {S : NS} (h : co t = k) (h1 : 0 < S.1 t) : nh co k t S = adG S 12 (nI t) (S.1 t) k := if_pos ⟨h, h1⟩
theorem nh_l {co : Nat → Int32} {k : Int32} {t : Nat} {S : NS} (h : co t = k) (h1 : S.1 t < 0) : nh co k t S = adG S (nI t) 12 (-(S.1 t)) k := by
  unfold nh
  rw [if_neg (fun q => by have h2 := i64_p.mp q.2; rw [i64_0] at h1; omega), if_pos ⟨h, h1⟩]
theorem nA_y {co : Nat → Int32} {i : Nat} {S S1 S2 T : NS} (hi : i < 4) (h : nA co (4 - i) i S = T) (e1 : S1 = nF co (nI i) 144 0 S) (e2 : S2 = nH co (nI i) 12 0 S1) : nA co (4 - (i + 1)) (i + 1) S2 = T := by
  rw [show 4 - i = (4 - (i + 1)) + 1 by omega] at h
  rw [e2, e1]
  exact h
theorem cpy_12 {a b : Nat → Int64} : ∀ t, t < 12 → va_cpy a b (0 : Int32).toNatClampNeg (0 : Int32).toNatClampNeg (12 : Int32).toNatClampNeg t = a t := fun t ht => by
  rw [show (0 : Int32).toNatClampNeg = 0 from by decide, show (12 : Int32).toNatClampNeg = 12 from by decide]
  unfold va_cpy
  simp [ht]
theorem gift_e {o : Nat → Int64} {n : Nat} {f1 f2 f4 : Nat → Int32} {f3 : Nat → Int64} {a b k : Int32} {v : Int64} (h : n < 12) : (o, n + 1, upd f1 (nI n).toNatClampNeg a, upd f2 (nI n).toNatClampNeg b, vp_updL f3 (nI n).toNatClampNeg v, upd f4 (nI n).toNatClampNeg k) = adG (o, n, f1, f2, f3, f4) a b v k := by
  unfold adG
  rw [aG_i h, aG_i h, aG_i h, aG_l h]
  show _ = (o, (if 12 ≤ n then n else n + 1), aG n f1 a, aG n f2 b, aG n f3 v, aG n f4 k)
  rw [if_neg (Nat.not_le.mpr h)]
theorem nV_1 {o : Nat → Int64} {a b : Nat} (h : -(o a) < o b) : -(o a) = nV o a b := by
  unfold nV
  rw [if_neg (Int64.lt_asymm h)]
theorem nV_2 {o : Nat → Int64} {a b : Nat} (h : ¬ -(o a) < o b) : o b = nV o a b := by
  unfold nV
  by_cases q : o b < -(o a)
  · rw [if_pos q]
  · rw [if_neg q]; exact Int64.le_antisymm (Int64.not_lt.mp h) (Int64.not_lt.mp q)
theorem nO_e {o : Nat → Int64} {a b : Nat} {v : Int64} (ha : a < 12) (hb : b < 12) (h3 : o a < 0) (h4 : 0 < o b) (hv : v = nV o a b) : vp_updL (vp_updL o (nI a).toNatClampNeg (o (nI a).toNatClampNeg + v)) (nI b).toNatClampNeg (vp_updL o (nI a).toNatClampNeg (o (nI a).toNatClampNeg + v) (nI b).toNatClampNeg - v) = nO o a b := by
  have hab : b ≠ a := fun q => by rw [q, i64_p] at h4; rw [i64_0] at h3; omega
  rw [nI_clamp (n := a) (by omega), nI_clamp (n := b) (by omega), pk_uLn hab, hv]
  rfl
theorem nF_m {co : Nat → Int32} {k : Int32} {o : Nat → Int64} {n : Nat} {f1 f2 f4 : Nat → Int32} {f3 : Nat → Int64} {a b : Nat} {v : Int64} (hm : noM o) (ha : a < 12) (hb : b < 12) (h1 : co a = k) (h2 : co b = k) (h3 : o a < 0) (h4 : 0 < o b) (la : ∀ i, i < a → ¬ (co i = k ∧ o i < 0)) (lb : ∀ j, j < b → ¬ (co j = k ∧ 0 < o j)) (hn : n < 12) (hv : v = nV o a b) : nF co k 144 0 (vp_updL (vp_updL o (nI a).toNatClampNeg (o (nI a).toNatClampNeg + v)) (nI b).toNatClampNeg (vp_updL o (nI a).toNatClampNeg (o (nI a).toNatClampNeg + v) (nI b).toNatClampNeg - v), n + 1, upd f1 (nI n).toNatClampNeg (nI a), upd f2 (nI n).toNatClampNeg (nI b), vp_updL f3 (nI n).toNatClampNeg v, upd f4 (nI n).toNatClampNeg k) = nF co k 144 0 (o, n, f1, f2, f3, f4) := by
  rw [nO_e ha hb h3 h4 hv, gift_e hn, hv]
  exact (nF_g (S := (o, n, f1, f2, f3, f4)) hm ha hb h1 h2 h3 h4 la lb).symm
theorem nO_n {o : Nat → Int64} {a b : Nat} {v : Int64} (hm : noM o) (ha : a < 12) (hb : b < 12) (h3 : o a < 0) (h4 : 0 < o b) (hv : v = nV o a b) : noM (vp_updL (vp_updL o (nI a).toNatClampNeg (o (nI a).toNatClampNeg + v)) (nI b).toNatClampNeg (vp_updL o (nI a).toNatClampNeg (o (nI a).toNatClampNeg + v) (nI b).toNatClampNeg - v)) := by
  rw [nO_e ha hb h3 h4 hv]
  exact nO_m hm ha h3 h4
/-- no pair is left, where the loop has ended -/
def noP (co : Nat → Int32) (k : Int32) (o : Nat → Int64) (on : Nat) : Prop := on = 0 → ∀ i j, i < 12 → j < 12 → ¬ (co i = k ∧ co j = k ∧ o i < 0 ∧ 0 < o j)
/-- the least one from j on -/
def lsR (P : Nat → Prop) (j : Nat) (v : Int32) : Prop := (v = -1 ∧ ∀ i, j ≤ i → i < 12 → ¬ P i) ∨ ∃ i, i < 12 ∧ v = nI i ∧ P i ∧ ∀ z, j ≤ z → z < i → ¬ P z
theorem lsR.s {P : Nat → Prop} : lsR P 12 (-1) := Or.inl ⟨rfl, fun i h1 h2 => absurd h1 (by omega)⟩
theorem lsR.y {P : Nat → Prop} {n : Nat} (hn : n < 12) (h : P n) : lsR P n (nI n) := Or.inr ⟨n, hn, rfl, h, fun z h1 h2 => absurd h1 (by omega)⟩
theorem lsR.n {P : Nat → Prop} {n j : Nat} {v : Int32} (h : lsR P j v) (e : j = n + 1) (hn : ¬ P n) : lsR P n v := by
  subst e
  rcases h with ⟨h1, h2⟩ | ⟨i, h1, h2, h3, h4⟩
  · refine Or.inl ⟨h1, fun i h3 h4 => ?_⟩
    by_cases q : i = n
    · rw [q]; exact hn
    · exact h2 i (by omega) h4
  · refine Or.inr ⟨i, h1, h2, h3, fun z h5 h6 => ?_⟩
    by_cases q : z = n
    · rw [q]; exact hn
    · exact h4 z (by omega) h6
theorem lsR.r {P : Nat → Prop} {j : Nat} {v : Int32} (h : lsR P j v) (e : j = 0) (hv : ¬ v = -1) : ∃ i, i < 12 ∧ v = nI i ∧ P i ∧ ∀ z, z < i → ¬ P z := by
  subst e
  rcases h with ⟨h1, _⟩ | ⟨i, h1, h2, h3, h4⟩
  · exact absurd h1 hv
  · exact ⟨i, h1, h2, h3, fun z hz => h4 z (Nat.zero_le z) hz⟩
theorem lsR.z {P : Nat → Prop} {j : Nat} {v : Int32} (h : lsR P j v) (e : j = 0) (hv : v = -1) : ∀ i, i < 12 → ¬ P i := by
  subst e
  rcases h with ⟨_, h2⟩ | ⟨i, h1, h2, _, _⟩
  · exact fun i hi => h2 i (Nat.zero_le i) hi
  · exact absurd (nI_pos (n := i) (by omega)) (fun q => q (by rw [← h2, hv]; decide))
theorem nA_u {co : Nat → Int32} {i : Nat} {S T : NS} (hi : i < 4) (h : nA co (4 - i) i S = T) : nA co (4 - (i + 1)) (i + 1) (nH co (nI i) 12 0 (nF co (nI i) 144 0 S)) = T := by
  rw [show 4 - i = (4 - (i + 1)) + 1 by omega] at h
  exact h
theorem nH_z {co : Nat → Int32} {k : Int32} {F z t : Nat} {S S2 T : NS} (ht : t < 12) (h : nA co F z (nH co k (12 - t) t S) = T) (e : nh co k t S = S2) : nA co F z (nH co k (12 - (t + 1)) (t + 1) S2) = T := by
  rw [← nH_y ht rfl e] at h
  exact h
theorem cp_l {o f : Nat → Int64} {t : Nat} (ht : t < 12) (h : ∀ z, z < t → o z = f z) : ∀ z, z < t + 1 → vp_updL o (nI t).toNatClampNeg (f (nI t).toNatClampNeg) z = f z := fun z hz => by
  rw [nI_clamp (by omega)]
  by_cases e : z = t
  · rw [e, pk_uLs]
  · rw [pk_uLn e]; exact h z (by omega)
theorem nT_co {co c2 : Nat → Int32} {k : Int32} {i j : Nat} {S : NS} (h : ∀ t, t < 12 → co t = c2 t) (hi : i < 12) (hj : j < 12) : nT co k i j S = nT c2 k i j S := by
  unfold nT
  rw [h i hi, h j hj]
theorem nF_co {co c2 : Nat → Int32} {k : Int32} (h : ∀ t, t < 12 → co t = c2 t) : ∀ F q (S : NS), F + q ≤ 144 → nF co k F q S = nF c2 k F q S
  | 0, _, _, _ => rfl
  | F + 1, q, S, hq => by
    show nF co k F (q + 1) (nT co k (q / 12) (q % 12) S) = nF c2 k F (q + 1) (nT c2 k (q / 12) (q % 12) S)
    rw [nT_co h (by omega) (by omega)]
    exact nF_co h F (q + 1) _ (by omega)
theorem nH_co {co c2 : Nat → Int32} {k : Int32} (h : ∀ t, t < 12 → co t = c2 t) : ∀ F t (S : NS), F + t ≤ 12 → nH co k F t S = nH c2 k F t S
  | 0, _, _, _ => rfl
  | F + 1, t, S, hq => by
    show nH co k F (t + 1) (nh co k t S) = nH c2 k F (t + 1) (nh c2 k t S)
    rw [show nh co k t S = nh c2 k t S from by unfold nh; rw [h t (by omega)]]
    exact nH_co h F (t + 1) _ (by omega)
theorem nA_co {co c2 : Nat → Int32} (h : ∀ t, t < 12 → co t = c2 t) : ∀ F z (S : NS), nA co F z S = nA c2 F z S
  | 0, _, _ => rfl
  | F + 1, z, S => by
    show nA co F (z + 1) (nH co (nI z) 12 0 (nF co (nI z) 144 0 S)) = nA c2 F (z + 1) (nH c2 (nI z) 12 0 (nF c2 (nI z) 144 0 S))
    rw [nF_co h 144 0 S (Nat.le_refl _), nH_co h 12 0 _ (Nat.le_refl _)]
    exact nA_co h F (z + 1) _
def gs0 : NS := (fun _ => 0, 0, fun _ => 0, fun _ => 0, fun _ => 0, fun _ => 0)
def gfR (n : Nat) (e4 e5 : Nat → Int32) (e6 : Nat → Int64) (e7 : Nat → Int32) (S : NS) : Prop := n = S.2.1 ∧ ∀ k, k < n → e4 k = S.2.2.1 k ∧ e5 k = S.2.2.2.1 k ∧ e6 k = S.2.2.2.2.1 k ∧ e7 k = S.2.2.2.2.2 k
theorem gfR.i {e4 e5 e7 : Nat → Int32} {e6 : Nat → Int64} : gfR 0 e4 e5 e6 e7 gs0 := ⟨rfl, fun k hk => absurd hk (Nat.not_lt_zero k)⟩
theorem gfR.n {o : Nat → Int64} {n : Nat} {e4 e5 e7 : Nat → Int32} {e6 : Nat → Int64} {S : NS} (h : nsR (o, n, e4, e5, e6, e7) S) : gfR n e4 e5 e6 e7 S := ⟨h.2.1, h.2.2⟩
theorem nsR.tr {A B C : NS} (h : nsR A B) (g : nsR B C) : nsR A C := ⟨fun t ht => (h.1 t ht).trans (g.1 t ht), h.2.1.trans g.2.1, fun k hk => by
  obtain ⟨a1, a2, a3, a4⟩ := h.2.2 k hk
  obtain ⟨b1, b2, b3, b4⟩ := g.2.2 k (h.2.1 ▸ hk)
  exact ⟨a1.trans b1, a2.trans b2, a3.trans b3, a4.trans b4⟩⟩
def stlG {α : Type} (kn : Int32) (a b : α) : α := if wi kn 0 3000 = 0 then a else b
def ntA (S : NS) (k w : Int32) : Int64 := if wi k 0 (nI S.2.1 - 1) = 0 then -1 else if w = 0 then (S.2.2.1 k.toNatClampNeg).toInt64 else if w = 1 then (S.2.2.2.1 k.toNatClampNeg).toInt64 else if w = 2 then S.2.2.2.2.1 k.toNatClampNeg else if w = 3 then (S.2.2.2.2.2 k.toNatClampNeg).toInt64 else -1

