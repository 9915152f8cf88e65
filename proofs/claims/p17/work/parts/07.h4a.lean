/-- how far bytes of a sort go on -/
def runE (q : Int32 → Bool) (B : Nat → Int32) (n : Nat) : Nat → Nat → Nat
  | 0, a => a
  | f + 1, a => if a < n then (if q (B a) then runE q B n f (a + 1) else a) else a
def run (q : Int32 → Bool) (B : Nat → Int32) (n a : Nat) : Nat := runE q B n (n - a) a
theorem run_in {q : Int32 → Bool} {B : Nat → Int32} {n a : Nat} (h : a < n) (hq : q (B a) = true) : run q B n a = run q B n (a + 1) := by
  unfold run
  rw [show n - a = (n - (a + 1)) + 1 by omega]
  show (if a < n then (if q (B a) then runE q B n (n - (a + 1)) (a + 1) else a) else a) = _
  rw [if_pos h, if_pos hq]
theorem run_no {q : Int32 → Bool} {B : Nat → Int32} {n a : Nat} (hq : q (B a) = false) : run q B n a = a := by
  unfold run
  cases hk : n - a with
  | zero => rfl
  | succ f =>
    show (if a < n then (if q (B a) then runE q B n f (a + 1) else a) else a) = a
    rw [hq]
    by_cases h : a < n
    · rw [if_pos h]; rfl
    · rw [if_neg h]
theorem run_end {q : Int32 → Bool} {B : Nat → Int32} {n a : Nat} (h : n ≤ a) : run q B n a = a := by
  unfold run
  rw [show n - a = 0 by omega]; rfl
theorem run_le {q : Int32 → Bool} {B : Nat → Int32} {n : Nat} : ∀ f a, n - a = f → a ≤ n → a ≤ run q B n a ∧ run q B n a ≤ n
  | 0, a, hf, h => by rw [run_end (by omega)]; omega
  | f + 1, a, hf, h => by
    cases hq : q (B a) with
    | false => rw [run_no hq]; omega
    | true =>
      rw [run_in (by omega) hq]
      have h1 := run_le (q := q) (B := B) (n := n) f (a + 1) (by omega) (by omega)
      omega
theorem run_all {q : Int32 → Bool} {B : Nat → Int32} {n : Nat} : ∀ f a, n - a = f → a ≤ n → ∀ j, a ≤ j → j < run q B n a → q (B j) = true
  | 0, a, hf, h, j, h1, h2 => by rw [run_end (by omega)] at h2; omega
  | f + 1, a, hf, h, j, h1, h2 => by
    cases hq : q (B a) with
    | false => rw [run_no hq] at h2; omega
    | true =>
      rw [run_in (by omega) hq] at h2
      by_cases e : j = a
      · rw [e]; exact hq
      · exact run_all f (a + 1) (by omega) (by omega) j (by omega) h2
theorem run_congr {q : Int32 → Bool} {B C : Nat → Int32} {n : Nat} (hB : ∀ j, j < n → B j = C j) : ∀ f a, n - a = f → run q B n a = run q C n a
  | 0, a, hf => by rw [run_end (by omega), run_end (by omega)]
  | f + 1, a, hf => by
    have e := hB a (by omega)
    cases hq : q (B a) with
    | false => rw [run_no hq, run_no (by rw [← e]; exact hq)]
    | true => rw [run_in (by omega) hq, run_in (B := C) (by omega) (by rw [← e]; exact hq)]; exact run_congr hB f (a + 1) (by omega)
theorem run_stop {q : Int32 → Bool} {B : Nat → Int32} {n : Nat} : ∀ f a, n - a = f → a ≤ n → run q B n a = n ∨ q (B (run q B n a)) = false
  | 0, a, hf, h => by rw [run_end (by omega)]; exact Or.inl (by omega)
  | f + 1, a, hf, h => by
    cases hq : q (B a) with
    | false => rw [run_no hq]; exact Or.inr hq
    | true => rw [run_in (by omega) hq]; exact run_stop f (a + 1) (by omega) (by omega)
theorem wi_lo {x lo hi : Int32} (h : x < lo) : wi x lo hi = 0 := by unfold wi; rw [if_pos h]
theorem wi_hi {x lo hi : Int32} (h : ¬ x ≤ hi) : wi x lo hi = 0 := by
  unfold wi
  by_cases q : x < lo
  · rw [if_pos q]
  · rw [if_neg q, if_neg h]
theorem wi_ok {x lo hi : Int32} (h1 : ¬ x < lo) (h2 : x ≤ hi) : ¬ wi x lo hi = 0 := by unfold wi; rw [if_neg h1, if_pos h2]; decide
def qb (x : Int32) : Bool := decide (x = 32)
def ql (x : Int32) : Bool := !decide (wi x 97 122 = 0)
def qd (x : Int32) : Bool := !decide (wi x 48 57 = 0)
theorem qb_t {x : Int32} (h : x = 32) : qb x = true := by simp [qb, h]
theorem qb_f {x : Int32} (h : ¬ x = 32) : qb x = false := by simp [qb, h]
theorem ql_f {x : Int32} (h : wi x 97 122 = 0) : ql x = false := by simp [ql, h]
theorem ql_t {x : Int32} (h : ¬ wi x 97 122 = 0) : ql x = true := by simp [ql, h]
theorem qd_f {x : Int32} (h : wi x 48 57 = 0) : qd x = false := by simp [qd, h]
theorem qd_t {x : Int32} (h : ¬ wi x 48 57 = 0) : qd x = true := by simp [qd, h]
/-- the next place that is no blank; a word's end; a number's end -/
def nx (B : Nat → Int32) (n a : Nat) : Nat := run qb B n a
def wE (B : Nat → Int32) (n a : Nat) : Nat := run ql B n a
def dE (B : Nat → Int32) (n a : Nat) : Nat := run qd B n a
theorem nx_le {B : Nat → Int32} {n a : Nat} (h : a ≤ n) : a ≤ nx B n a ∧ nx B n a ≤ n := run_le (n - a) a rfl h
theorem wE_le {B : Nat → Int32} {n a : Nat} (h : a ≤ n) : a ≤ wE B n a ∧ wE B n a ≤ n := run_le (n - a) a rfl h
theorem dE_le {B : Nat → Int32} {n a : Nat} (h : a ≤ n) : a ≤ dE B n a ∧ dE B n a ≤ n := run_le (n - a) a rfl h
theorem nx_nx {B : Nat → Int32} {n a : Nat} (h : a ≤ n) : nx B n (nx B n a) = nx B n a := by
  unfold nx
  rcases run_stop (q := qb) (B := B) (n := n) (n - a) a rfl h with e | e
  · exact run_end (by omega)
  · exact run_no e
/-- the word of text i stands at a, z bytes long -/
def wB (B : Nat → Int32) (a z i : Nat) : Bool := decide (z = st_len.getD i 0) && (List.range z).all (fun j => decide (B (a + j) = (st_byt.getD i []).getD j 0))
theorem wB_t {B : Nat → Int32} {a z i : Nat} : wB B a z i = true ↔ (z = st_len.getD i 0 ∧ ∀ j, j < z → B (a + j) = (st_byt.getD i []).getD j 0) := by
  unfold wB
  rw [Bool.and_eq_true, decide_eq_true_iff, List.all_eq_true]
  constructor
  · intro h; exact ⟨h.1, fun j hj => of_decide_eq_true (h.2 j (List.mem_range.mpr hj))⟩
  · intro h; exact ⟨h.1, fun j hj => decide_eq_true (h.2 j (List.mem_range.mp hj))⟩
theorem wB_f {B : Nat → Int32} {a z i : Nat} (h : ¬ (z = st_len.getD i 0 ∧ ∀ j, j < z → B (a + j) = (st_byt.getD i []).getD j 0)) : wB B a z i = false := by
  cases q : wB B a z i with
  | false => rfl
  | true => exact absurd (wB_t.mp q) h
/-- the first of a list of texts that stands there (else how many they are) -/
def wx (B : Nat → Int32) (p z : Nat) : List Nat → Nat
  | [] => 0
  | i :: L => if wB B p z i then 0 else wx B p z L + 1
theorem wx_le {B : Nat → Int32} {p z : Nat} : ∀ L, wx B p z L ≤ L.length
  | [] => Nat.le_refl 0
  | i :: L => by
    have h := wx_le (B := B) (p := p) (z := z) L
    show (if wB B p z i then 0 else wx B p z L + 1) ≤ L.length + 1
    split <;> omega
theorem wx_at {B : Nat → Int32} {p z : Nat} : ∀ (L : List Nat) (k : Nat), k ≤ L.length → (∀ j, j < k → wB B p z (L.getD j 0) = false) → (k = L.length ∨ wB B p z (L.getD k 0) = true) → wx B p z L = k
  | [], k, hk, _, _ => by
    have h : k = 0 := Nat.le_zero.mp hk
    rw [h]; rfl
  | i :: L, 0, hk, h1, h2 => by
    rcases h2 with h2 | h2
    · exact absurd h2 (by simp)
    · have h3 : wB B p z i = true := h2
      show (if wB B p z i then 0 else wx B p z L + 1) = 0
      rw [if_pos h3]
  | i :: L, k + 1, hk, h1, h2 => by
    have h0 : wB B p z i = false := h1 0 (Nat.succ_pos k)
    have hk2 : k + 1 ≤ L.length + 1 := hk
    have h3 : wx B p z L = k := wx_at L k (by omega) (fun j hj => h1 (j + 1) (by omega)) (by
      rcases h2 with h2 | h2
      · have h4 : k + 1 = L.length + 1 := h2
        exact Or.inl (by omega)
      · exact Or.inr h2)
    show (if wB B p z i then 0 else wx B p z L + 1) = k + 1
    rw [h0, if_neg Bool.false_ne_true, h3]
def WL : Nat → List Nat
  | 0 => [6, 7, 8]
  | 1 => [1]
  | 2 => [9, 10, 11, 12, 13, 14, 15, 16]
  | 3 => [3]
  | 4 => [11, 17, 18, 19, 9]
  | _ => [20, 21, 22]
def st_bl (i k : Nat) : Nat := ((st_byt.getD i []).take k).countP (fun z => z == 32)
def st_g (i : Nat) : Nat → Nat
  | 0 => 0
  | j + 1 => if (st_byt.getD i []).getD j 0 = 32 then j + 1 else st_g i j
theorem bl_s : ∀ i, i < 23 → ∀ j, j < 46 → ((st_byt.getD i []).getD j 0 = 32 → st_bl i (j + 1) = st_bl i j + 1) ∧ st_bl i j ≤ st_bl i (j + 1) := by decide +kernel
theorem bl_e : ∀ i, i < 23 → ∀ j, j < 46 → j ≤ st_len.getD i 0 → st_bl i j ≤ st_bl i (st_len.getD i 0) := by decide +kernel
theorem st_46 : ∀ i, i < 23 → st_len.getD i 0 < 46 := by decide +kernel
theorem wl_a : ∀ i, i < 6 → ∀ j, j < 46 → j ≤ st_len.getD i 0 → st_bl i j < (WL i).length ∧ st_g i j ≤ j := by decide +kernel
theorem wl_b : ∀ i, i < 6 → ∀ j, j < 46 → j < st_len.getD i 0 → ¬ (st_byt.getD i []).getD j 0 = 32 → st_bl i (j + 1) = st_bl i j ∧ st_g i (j + 1) = st_g i j := by decide +kernel
theorem wl_c : ∀ i, i < 6 → ∀ j, j < 46 → j < st_len.getD i 0 → (st_byt.getD i []).getD j 0 = 32 → st_bl i (j + 1) = st_bl i j + 1 ∧ st_g i (j + 1) = j + 1 := by decide +kernel
theorem wl_d : ∀ i, i < 6 → ∀ j, j < 46 → j ≤ st_len.getD i 0 → (j = st_len.getD i 0 ∨ (st_byt.getD i []).getD j 0 = 32) → j - st_g i j = st_len.getD ((WL i).getD (st_bl i j) 0) 0 ∧ ∀ k, k < j - st_g i j → (st_byt.getD i []).getD (st_g i j + k) 0 = (st_byt.getD ((WL i).getD (st_bl i j) 0) []).getD k 0 := by decide +kernel
theorem wl_e : ∀ i, i < 6 → st_bl i (st_len.getD i 0) + 1 = (WL i).length ∧ (WL i).length ≤ 8 := by decide +kernel
theorem wl_p : ∀ i, i < 6 → ∀ u, u < 8 → u < (WL i).length → 0 < st_len.getD ((WL i).getD u 0) 0 := by decide +kernel
theorem wxZ0 {B : Nat → Int32} {p i : Nat} (hi : i < 6) : wx B p 0 (WL i) = (WL i).length := wx_at _ _ (Nat.le_refl _) (fun j hj => wB_f (fun h => by
  have h1 := (wl_e i hi).2
  have h2 := wl_p i hi j (by omega) hj
  have h3 := h.1
  omega)) (Or.inl rfl)
/-- bytes of a list of words beside the tape's -/
def smB (i g q z : Nat) (B : Nat → Int32) : Bool := (List.range z).all (fun k => decide ((st_byt.getD i []).getD (g + k) 0 = B (q + k)))
theorem smB_t {i g q z : Nat} {B : Nat → Int32} (h : ∀ k, k < z → (st_byt.getD i []).getD (g + k) 0 = B (q + k)) : smB i g q z B = true := by
  unfold smB
  rw [List.all_eq_true]
  exact fun k hk => decide_eq_true (h k (List.mem_range.mp hk))
theorem smB_f {i g q z k : Nat} {B : Nat → Int32} (hk : k < z) (h : ¬ (st_byt.getD i []).getD (g + k) 0 = B (q + k)) : smB i g q z B = false := by
  cases e : smB i g q z B with
  | false => rfl
  | true =>
    unfold smB at e
    rw [List.all_eq_true] at e
    exact absurd (of_decide_eq_true (e k (List.mem_range.mpr hk))) h
theorem smB_w {i j q z : Nat} {B : Nat → Int32} (hi : i < 6) (hj : j ≤ st_len.getD i 0) (he : j = st_len.getD i 0 ∨ (st_byt.getD i []).getD j 0 = 32) (hz : j - st_g i j = z) : wB B q z ((WL i).getD (st_bl i j) 0) = smB i (st_g i j) q z B := by
  have h46 := st_46 i (by omega)
  obtain ⟨h1, h2⟩ := wl_d i hi j (by omega) hj he
  rw [hz] at h1 h2
  cases e : smB i (st_g i j) q z B with
  | true =>
    refine wB_t.mpr ⟨h1, fun k hk => ?_⟩
    unfold smB at e
    rw [List.all_eq_true] at e
    rw [← h2 k hk]
    exact (of_decide_eq_true (e k (List.mem_range.mpr hk))).symm
  | false =>
    refine wB_f (fun h => ?_)
    have h3 := smB_t (i := i) (g := st_g i j) (q := q) (z := z) (B := B) (fun k hk => by rw [h2 k hk]; exact (h.2 k hk).symm)
    rw [h3] at e
    exact absurd e (by decide)
def twK (B : Nat → Int32) (n a i : Nat) : Nat := wx B (nx B n a) (wE B n (nx B n a) - nx B n a) (WL i)
def twA (B : Nat → Int32) (n a i : Nat) : Nat := if twK B n a i = (WL i).length then nx B n a else wE B n (nx B n a)
def twR (B : Nat → Int32) (n a i : Nat) : Int32 := if twK B n a i = (WL i).length then -1 else nI (twK B n a i)
theorem twK_le {B : Nat → Int32} {n a i : Nat} : twK B n a i ≤ (WL i).length := wx_le _
theorem twK_z {B : Nat → Int32} {n a i : Nat} (hi : i < 6) (h : wE B n (nx B n a) = nx B n a) : twK B n a i = (WL i).length := by
  unfold twK
  rw [h, Nat.sub_self]
  exact wxZ0 hi
theorem twA_le {B : Nat → Int32} {n a i : Nat} (h : a ≤ n) : a ≤ twA B n a i ∧ twA B n a i ≤ n := by
  have h1 := nx_le (B := B) h
  have h2 := wE_le (B := B) h1.2
  unfold twA
  split <;> omega
theorem twR_no {B : Nat → Int32} {n a i : Nat} (hi : i < 6) : twR B n a i = -1 ↔ twK B n a i = (WL i).length := by
  have h1 := (wl_e i hi).2
  have h2 := twK_le (B := B) (n := n) (a := a) (i := i)
  unfold twR
  by_cases e : twK B n a i = (WL i).length
  · rw [if_pos e]; exact ⟨fun _ => e, fun _ => rfl⟩
  · rw [if_neg e]; exact ⟨fun q => absurd (nI_pos (n := twK B n a i) (by omega)) (fun y => y (by rw [q]; decide)), fun q => absurd q e⟩
theorem twR_yes {B : Nat → Int32} {n a i : Nat} (h : ¬ twK B n a i = (WL i).length) : twR B n a i = nI (twK B n a i) := if_neg h
theorem twA_yes {B : Nat → Int32} {n a i : Nat} (h : ¬ twK B n a i = (WL i).length) : twA B n a i = wE B n (nx B n a) := if_neg h
theorem twA_no {B : Nat → Int32} {n a i : Nat} (h : twK B n a i = (WL i).length) : twA B n a i = nx B n a := if_pos h
/-- the value of the digits from a, k of them -/
def dg (x : Int32) : Nat := x.toNatClampNeg - 48
def numN (B : Nat → Int32) (a : Nat) : Nat → Nat
  | 0 => 0
  | k + 1 => numN B a k * 10 + dg (B (a + k))
theorem qd_v {x : Int32} (h : qd x = true) : ∃ j : Nat, 48 ≤ j ∧ j ≤ 57 ∧ x = nI j := by
  have h9 : ¬ wi x 48 57 = 0 := fun q => by rw [qd_f q] at h; exact absurd h (by decide)
  obtain ⟨h1, h2⟩ := wi_n h9
  have h0 : ¬ x < 0 := fun q => h1 (Int32.lt_trans q (by decide))
  obtain ⟨j, hj, rfl⟩ := nI_of2 (M := 57) (n := 57) (by decide) h0 h2
  exact ⟨j, Nat.le_of_not_lt (fun q => h1 (nI_lt (b := 48) q (by decide))), hj, rfl⟩
theorem dg_s {x : Int32} {u : Nat} (h : qd x = true) : nI u * 10 + x - 48 = nI (u * 10 + dg x) := by
  obtain ⟨j, h1, h2, rfl⟩ := qd_v h
  unfold dg
  rw [nI_clamp (by omega)]
  show nI u * nI 10 + nI j - nI 48 = _
  rw [pk_mul, nI_add, pk_sub (by omega), Nat.add_sub_assoc h1]
theorem dg_s2 {x : Int32} {u : Nat} (h : qd x = true) : 10 * nI u + x - 48 = nI (u * 10 + dg x) := by rw [Int32.mul_comm]; exact dg_s h
theorem dg_9 {x : Int32} (h : qd x = true) : dg x ≤ 9 := by
  obtain ⟨j, h1, h2, rfl⟩ := qd_v h
  unfold dg
  rw [nI_clamp (by omega)]
  omega
theorem numN_lt {B : Nat → Int32} {a : Nat} : ∀ k, (∀ j, j < k → qd (B (a + j)) = true) → numN B a k < 10 ^ k
  | 0, _ => Nat.succ_pos 0
  | k + 1, h => by
    have h1 := numN_lt k (fun j hj => h j (by omega))
    have h2 := dg_9 (h k (by omega))
    show numN B a k * 10 + dg (B (a + k)) < 10 ^ (k + 1)
    rw [Nat.pow_succ]
    omega
def tnR (B : Nat → Int32) (n a d : Nat) : Int32 := if dE B n (nx B n a) = nx B n a then -1 else if d < dE B n (nx B n a) - nx B n a then -2 else nI (numN B (nx B n a) (dE B n (nx B n a) - nx B n a))
def tnA (B : Nat → Int32) (n a d : Nat) : Nat := if dE B n (nx B n a) = nx B n a ∨ d < dE B n (nx B n a) - nx B n a then nx B n a else dE B n (nx B n a)
theorem tnA_le {B : Nat → Int32} {n a d : Nat} (h : a ≤ n) : a ≤ tnA B n a d ∧ tnA B n a d ≤ n := by
  have h1 := nx_le (B := B) h
  have h2 := dE_le (B := B) h1.2
  unfold tnA
  split <;> omega
theorem dE_all {B : Nat → Int32} {n p : Nat} (h : p ≤ n) : ∀ j, j < dE B n p - p → qd (B (p + j)) = true := fun j hj => run_all (n - p) p rfl h (p + j) (by omega) (show p + j < run qd B n p from by have h3 : j < run qd B n p - p := hj; omega)
theorem tnR_v {B : Nat → Int32} {n a d : Nat} (h : a ≤ n) (hd : d ≤ 6) (h1 : ¬ dE B n (nx B n a) = nx B n a) (h2 : ¬ d < dE B n (nx B n a) - nx B n a) : ∃ v, v < 1000000 ∧ tnR B n a d = nI v ∧ v = numN B (nx B n a) (dE B n (nx B n a) - nx B n a) := by
  have h3 := numN_lt (B := B) (a := nx B n a) _ (dE_all (nx_le h).2)
  have h4 : 10 ^ (dE B n (nx B n a) - nx B n a) ≤ 10 ^ 6 := Nat.pow_le_pow_right (by decide) (by omega)
  refine ⟨_, Nat.lt_of_lt_of_le h3 h4, ?_, rfl⟩
  unfold tnR
  rw [if_neg h1, if_neg h2]
theorem tnR_neg {B : Nat → Int32} {n a d : Nat} (h : a ≤ n) (hd : d ≤ 6) : tnR B n a d < 0 ↔ (dE B n (nx B n a) = nx B n a ∨ d < dE B n (nx B n a) - nx B n a) := by
  by_cases h1 : dE B n (nx B n a) = nx B n a
  · unfold tnR; rw [if_pos h1]; exact ⟨fun _ => Or.inl h1, fun _ => by decide⟩
  · by_cases h2 : d < dE B n (nx B n a) - nx B n a
    · unfold tnR; rw [if_neg h1, if_pos h2]; exact ⟨fun _ => Or.inr h2, fun _ => by decide⟩
    · obtain ⟨v, hv, e, -⟩ := tnR_v h hd h1 h2
      rw [e]
      exact ⟨fun q => absurd q (nI_pos (by omega)), fun q => absurd q (fun z => z.elim h1 h2)⟩
theorem tnA_neg {B : Nat → Int32} {n a d : Nat} (h : a ≤ n) (hd : d ≤ 6) (q : tnR B n a d < 0) : tnA B n a d = nx B n a := if_pos ((tnR_neg h hd).mp q)
/-- four bytes of a number come behind k -/
def by9 (x s : Int32) : Int32 := vp_nar .byte ((x >>> (s &&& 31)).toInt8.toInt32)
def ap4 (f : Nat → Int32) (k : Nat) (x : Int32) : Nat → Int32 := upd (upd (upd (upd f (nI k).toNatClampNeg (by9 x 24)) (nI (k + 1)).toNatClampNeg (by9 x 16)) (nI (k + 2)).toNatClampNeg (by9 x 8)) (nI (k + 3)).toNatClampNeg (by9 x 0)
def ap20 (f : Nat → Int32) (k : Nat) (a b c d e : Int32) : Nat → Int32 := ap4 (ap4 (ap4 (ap4 (ap4 f k a) (k + 4) b) (k + 4 + 4) c) (k + 4 + 4 + 4) d) (k + 4 + 4 + 4 + 4) e
/-! ===== the law's text ===== -/
def hdF (B : Nat → Int32) (n q : Nat) : Nat := if tnR B n q 2 < 0 then 1 + 4 * nx B n q + (if tnR B n q 2 = -2 then 1 else 0) else 0
def brF (B : Nat → Int32) (n q : Nat) : Nat := if twK B n q 5 = 3 then 1 + 4 * nx B n q + 0 else 0
def clK (B : Nat → Int32) (n a : Nat) : Nat := twK B n (nx B n a) 4
def clQ (B : Nat → Int32) (n a : Nat) : Nat := twA B n (nx B n a) 4
def clF (B : Nat → Int32) (n a m : Nat) : Nat := if clK B n a = 5 then 1 + 4 * nx B n a + 0 else if m.testBit (clK B n a) then 1 + 4 * nx B n a + 2 else if clK B n a = 4 then hdF B n (clQ B n a) else brF B n (clQ B n a)
def clA (B : Nat → Int32) (n a : Nat) : Nat := if clK B n a = 4 then tnA B n (clQ B n a) 2 else twA B n (clQ B n a) 5
def clB (B : Nat → Int32) (n a : Nat) (b : Nat → Int32) : Nat → Int32 := if clK B n a = 4 then va_up b 4 (tnR B n (clQ B n a) 2) else va_up b (clK B n a) (twR B n (clQ B n a) 5)
def clM (B : Nat → Int32) (n a m : Nat) : Nat := m ||| 1 <<< clK B n a
def lawG (B : Nat → Int32) (n : Nat) : Nat → Nat → Nat → (Nat → Int32) → Nat × (Nat → Int32)
  | 0, _, _, b => (0, b)
  | F + 1, a, m, b => if clF B n a m = 0 then (if nx B n (clA B n a) < n then (if B (nx B n (clA B n a)) = 59 then lawG B n F (nx B n (clA B n a) + 1) (clM B n a m) (clB B n a b) else (1 + 4 * nx B n (clA B n a) + 0, b)) else (0, clB B n a b)) else (clF B n a m, b)
def law0 : Nat → Int32 := fun k => if k < 2 then 1 else if k = 2 then 0 else if k = 3 then 2 else 10
def lawT (B : Nat → Int32) (n : Nat) : Nat × (Nat → Int32) := if 200 < n then (801, law0) else if nx B n 0 < n then lawG B n 6 (nx B n 0) 0 law0 else (0, law0)
def lawA (B : Nat → Int32) (n : Nat) : Int32 := nI (lawT B n).1
def lawB (lb : Nat → Int32) (B : Nat → Int32) (n : Nat) : Nat → Int32 := if (lawT B n).1 = 0 then (lawT B n).2 else lb
def lwR (bf : Nat → Int32) (ff : Int32) (b : Nat → Int32) : Prop := (∀ j, j < 4 → bf j = b j) ∧ ff = b 4
theorem lwR0 (bf : Nat → Int32) : lwR (upd (upd (upd (upd bf (0 : Int32).toNatClampNeg 1) (1 : Int32).toNatClampNeg 1) (2 : Int32).toNatClampNeg 0) (3 : Int32).toNatClampNeg 2) 10 law0 := by
  rw [show (0 : Int32).toNatClampNeg = 0 from by decide, show (1 : Int32).toNatClampNeg = 1 from by decide, show (2 : Int32).toNatClampNeg = 2 from by decide, show (3 : Int32).toNatClampNeg = 3 from by decide]
  refine ⟨fun j hj => ?_, rfl⟩
  match j, hj with
  | 0, _ => rfl
  | 1, _ => rfl
  | 2, _ => rfl
  | 3, _ => rfl
  | j + 4, hj => exact absurd hj (by omega)
theorem lwR.h {bf : Nat → Int32} {ff x : Int32} {b : Nat → Int32} (h : lwR bf ff b) : lwR bf x (va_up b 4 x) := ⟨fun j hj => by rw [va_up_ne _ _ (show j ≠ 4 by omega)]; exact h.1 j hj, (va_up_self _ _ _).symm⟩
theorem lwR.b {bf : Nat → Int32} {ff x : Int32} {b : Nat → Int32} {k : Nat} (h : lwR bf ff b) (hk : k < 4) : lwR (upd bf (nI k).toNatClampNeg x) ff (va_up b k x) := by
  rw [nI_clamp (by omega)]
  refine ⟨fun j hj => ?_, ?_⟩
  · by_cases e : j = k
    · rw [e, pk_us, va_up_self]
    · rw [pk_un e, va_up_ne _ _ e]; exact h.1 j hj
  · rw [va_up_ne _ _ (show 4 ≠ k by omega)]; exact h.2
/-- the clauses told, as bits -/
def bc5 (m : Nat) : Nat := (if m.testBit 0 then 1 else 0) + (if m.testBit 1 then 1 else 0) + (if m.testBit 2 then 1 else 0) + (if m.testBit 3 then 1 else 0) + (if m.testBit 4 then 1 else 0)
theorem bt_a : ∀ m, m < 32 → ∀ k, k < 5 → (nI m &&& (1 : Int32) <<< (nI k &&& 31) = 0 ↔ m.testBit k = false) := by decide +kernel
theorem bt_o : ∀ m, m < 32 → ∀ k, k < 5 → nI m ||| (1 : Int32) <<< (nI k &&& 31) = nI (m ||| 1 <<< k) := by decide +kernel
theorem bt_l : ∀ m, m < 32 → ∀ k, k < 5 → m ||| 1 <<< k < 32 ∧ (m.testBit k = false → bc5 (m ||| 1 <<< k) = bc5 m + 1) := by decide +kernel
theorem bt_5 : ∀ m, m < 32 → bc5 m ≤ 5 := by decide +kernel
theorem bt_j : ∀ m, m < 32 → ∀ k, k < 5 → ∀ j, j < 5 → (m ||| 1 <<< k).testBit j = (m.testBit j || decide (j = k)) := by decide +kernel
def tR (f : Nat → Int32) (m : Nat) : Prop := ∀ j, j < 5 → f j = if m.testBit j then 1 else 0
theorem tR.u {f : Nat → Int32} {m k : Nat} (h : tR f m) (hm : m < 32) (hk : k < 5) : tR (upd f (nI k).toNatClampNeg (vp_nar .boolean 1)) (m ||| 1 <<< k) := fun j hj => by
  rw [nI_clamp (by omega), bt_j m hm k hk j hj]
  by_cases e : j = k
  · rw [e, pk_us]; simp; rfl
  · rw [pk_un e, h j hj]; simp [e]
theorem clK_le {B : Nat → Int32} {n a : Nat} : clK B n a ≤ 5 := twK_le (i := 4)
theorem lawG_n {B : Nat → Int32} {n F a m : Nat} {b : Nat → Int32} (h : ¬ clF B n a m = 0) : lawG B n (F + 1) a m b = (clF B n a m, b) := by
  show (if clF B n a m = 0 then _ else (clF B n a m, b)) = _
  rw [if_neg h]
theorem lawG_e {B : Nat → Int32} {n F a m : Nat} {b : Nat → Int32} (h : clF B n a m = 0) (h1 : ¬ nx B n (clA B n a) < n) : lawG B n (F + 1) a m b = (0, clB B n a b) := by
  show (if clF B n a m = 0 then (if nx B n (clA B n a) < n then _ else (0, clB B n a b)) else _) = _
  rw [if_pos h, if_neg h1]
theorem lawG_f {B : Nat → Int32} {n F a m : Nat} {b : Nat → Int32} (h : clF B n a m = 0) (h1 : nx B n (clA B n a) < n) (h2 : ¬ B (nx B n (clA B n a)) = 59) : lawG B n (F + 1) a m b = (1 + 4 * nx B n (clA B n a) + 0, b) := by
  show (if clF B n a m = 0 then (if nx B n (clA B n a) < n then (if B (nx B n (clA B n a)) = 59 then _ else (1 + 4 * nx B n (clA B n a) + 0, b)) else _) else _) = _
  rw [if_pos h, if_pos h1, if_neg h2]
theorem lawG_s {B : Nat → Int32} {n F a m : Nat} {b : Nat → Int32} (h : clF B n a m = 0) (h1 : nx B n (clA B n a) < n) (h2 : B (nx B n (clA B n a)) = 59) : lawG B n (F + 1) a m b = lawG B n F (nx B n (clA B n a) + 1) (clM B n a m) (clB B n a b) := by
  show (if clF B n a m = 0 then (if nx B n (clA B n a) < n then (if B (nx B n (clA B n a)) = 59 then lawG B n F (nx B n (clA B n a) + 1) (clM B n a m) (clB B n a b) else _) else _) else _) = _
  rw [if_pos h, if_pos h1, if_pos h2]
theorem clF_k {B : Nat → Int32} {n a m : Nat} (h : clF B n a m = 0) : clK B n a < 5 ∧ m.testBit (clK B n a) = false := by
  have h5 := clK_le (B := B) (n := n) (a := a)
  unfold clF at h
  by_cases h1 : clK B n a = 5
  · rw [if_pos h1] at h; omega
  · rw [if_neg h1] at h
    cases h2 : m.testBit (clK B n a) with
    | true => rw [h2, if_pos rfl] at h; omega
    | false => exact ⟨by omega, rfl⟩
theorem clM_s {B : Nat → Int32} {n a m : Nat} (hm : m < 32) (h : clF B n a m = 0) : clM B n a m < 32 ∧ bc5 (clM B n a m) = bc5 m + 1 := by
  obtain ⟨h1, h2⟩ := clF_k h
  obtain ⟨h3, h4⟩ := bt_l m hm _ h1
  exact ⟨h3, h4 h2⟩
theorem clA_le {B : Nat → Int32} {n a : Nat} (h : a ≤ n) : a ≤ clA B n a ∧ clA B n a ≤ n := by
  have h1 := nx_le (B := B) h
  have h2 := twA_le (B := B) (i := 4) h1.2
  have h3 := twA_le (B := B) (i := 5) h2.2
  have h4 := tnA_le (B := B) (d := 2) h2.2
  unfold clA clQ
  split <;> omega
theorem clF_lt {B : Nat → Int32} {n a m : Nat} (h : a ≤ n) : clF B n a m ≤ 4 * n + 4 := by
  have h1 := nx_le (B := B) h
  have h2 := twA_le (B := B) (i := 4) h1.2
  have h3 := nx_le (B := B) h2.2
  unfold clF hdF brF clQ
  split
  · omega
  · split
    · omega
    · split
      · split
        · split <;> omega
        · omega
      · split <;> omega
def ovr (B : Nat → Int32) (n a : Nat) : Int32 := if nx B n a < n then 0 else 1
def tkR (B : Nat → Int32) (n a : Nat) (x : Int32) : Int32 := if nx B n a < n ∧ B (nx B n a) = x then 1 else 0
def tkA (B : Nat → Int32) (n a : Nat) (x : Int32) : Nat := if nx B n a < n ∧ B (nx B n a) = x then nx B n a + 1 else nx B n a
theorem ovr_0 {B : Nat → Int32} {n a : Nat} : ovr B n a = 0 ↔ nx B n a < n := by
  unfold ovr
  by_cases h : nx B n a < n
  · rw [if_pos h]; exact ⟨fun _ => h, fun _ => rfl⟩
  · rw [if_neg h]; exact ⟨fun q => absurd q (by decide), fun q => absurd q h⟩
theorem tkR_0 {B : Nat → Int32} {n a : Nat} {x : Int32} : tkR B n a x = 0 ↔ ¬ (nx B n a < n ∧ B (nx B n a) = x) := by
  unfold tkR
  by_cases h : nx B n a < n ∧ B (nx B n a) = x
  · rw [if_pos h]; exact ⟨fun q => absurd q (by decide), fun q => absurd h q⟩
  · rw [if_neg h]; exact ⟨fun _ => h, fun _ => rfl⟩
theorem tkA_y {B : Nat → Int32} {n a : Nat} {x : Int32} (h : nx B n a < n ∧ B (nx B n a) = x) : tkA B n a x = nx B n a + 1 := if_pos h
theorem tkA_n {B : Nat → Int32} {n a : Nat} {x : Int32} (h : ¬ (nx B n a < n ∧ B (nx B n a) = x)) : tkA B n a x = nx B n a := if_neg h
def ixR (B : Nat → Int32) (q z i : Nat) : Int32 := if wx B q z (WL i) = (WL i).length then -1 else nI (wx B q z (WL i))
theorem ixR_u {B : Nat → Int32} {q z i u : Nat} (h : wx B q z (WL i) = u) (hu : u < (WL i).length) : nI u = ixR B q z i := by unfold ixR; rw [h, if_neg (by omega)]
theorem ixR_n {B : Nat → Int32} {q z i : Nat} (h : wx B q z (WL i) = (WL i).length) : -1 = ixR B q z i := by unfold ixR; rw [if_pos h]
theorem smB_1 {i g q z : Nat} {B : Nat → Int32} (h : ¬ (if smB i g q z B then (1 : Int32) else 0) = 0) : smB i g q z B = true := by
  cases e : smB i g q z B with
  | true => rfl
  | false => rw [e] at h; exact absurd rfl h
theorem smB_0 {i g q z : Nat} {B : Nat → Int32} (h : (if smB i g q z B then (1 : Int32) else 0) = 0) : smB i g q z B = false := by
  cases e : smB i g q z B with
  | false => rfl
  | true => rw [e] at h; exact absurd h (by decide)
theorem dg_s3 {x : Int32} {u : Nat} (h : qd x = true) : nI (u * 10) + x - 48 = nI (u * 10 + dg x) := by rw [← dg_s h]; show _ = nI u * nI 10 + x - 48; rw [pk_mul]
theorem dg_s4 {x : Int32} {u : Nat} (h : qd x = true) : nI (10 * u) + x - 48 = nI (u * 10 + dg x) := by rw [Nat.mul_comm 10 u]; exact dg_s3 h
theorem lawG_lt {B : Nat → Int32} {n : Nat} : ∀ F a m b, a ≤ n → (lawG B n F a m b).1 ≤ 4 * n + 4
  | 0, _, _, _, _ => Nat.zero_le _
  | F + 1, a, m, b, h => by
    have h1 := clA_le (B := B) h
    have h2 := nx_le (B := B) h1.2
    by_cases c1 : clF B n a m = 0
    · by_cases c2 : nx B n (clA B n a) < n
      · by_cases c3 : B (nx B n (clA B n a)) = 59
        · rw [lawG_s c1 c2 c3]; exact lawG_lt F _ _ _ (by omega)
        · rw [lawG_f c1 c2 c3]; show 1 + 4 * nx B n (clA B n a) + 0 ≤ 4 * n + 4; omega
      · rw [lawG_e c1 c2]; exact Nat.zero_le _
    · rw [lawG_n c1]; exact clF_lt h
theorem lawT_lt {B : Nat → Int32} {n : Nat} (h : n ≤ 300) : (lawT B n).1 ≤ 1204 := by
  have h1 := nx_le (B := B) (Nat.zero_le n)
  unfold lawT
  split
  · show 801 ≤ 1204; omega
  · split
    · have h2 := lawG_lt (B := B) (n := n) 6 (nx B n 0) 0 law0 h1.2
      omega
    · exact Nat.zero_le _
theorem lawT_1 {B : Nat → Int32} {n : Nat} (h : 200 < n) : lawT B n = (801, law0) := by unfold lawT; rw [if_pos h]
theorem lawT_2 {B : Nat → Int32} {n : Nat} (h : ¬ 200 < n) (h1 : ¬ nx B n 0 < n) : lawT B n = (0, law0) := by unfold lawT; rw [if_neg h, if_neg h1]
theorem lawT_3 {B : Nat → Int32} {n : Nat} (h : ¬ 200 < n) (h1 : nx B n 0 < n) : lawT B n = lawG B n 6 (nx B n 0) 0 law0 := by unfold lawT; rw [if_neg h, if_pos h1]

