/-! ===== the quickest ways ===== -/
def cn (P : Nat → Bool) : Nat → Nat
  | 0 => 0
  | k + 1 => cn P k + (if P k then 1 else 0)
theorem cn_le (P : Nat → Bool) : ∀ k, cn P k ≤ k
  | 0 => Nat.le_refl 0
  | k + 1 => by
    have h := cn_le P k
    show cn P k + _ ≤ k + 1
    split <;> omega
theorem cn_mono {P Q : Nat → Bool} : ∀ k, (∀ i, i < k → P i = true → Q i = true) → cn P k ≤ cn Q k
  | 0, _ => Nat.le_refl 0
  | k + 1, h => by
    have h1 := cn_mono k (fun i hi => h i (by omega))
    have h2 := h k (by omega)
    show cn P k + (if P k then 1 else 0) ≤ cn Q k + (if Q k then 1 else 0)
    by_cases hp : P k = true
    · rw [if_pos hp, if_pos (h2 hp)]; omega
    · rw [if_neg hp]; omega
theorem cn_lt {P Q : Nat → Bool} {j : Nat} : ∀ k, (∀ i, i < k → P i = true → Q i = true) → j < k → P j = false → Q j = true → cn P k + 1 ≤ cn Q k
  | 0, _, hj, _, _ => absurd hj (Nat.not_lt_zero j)
  | k + 1, h, hj, h1, h2 => by
    show cn P k + (if P k then 1 else 0) + 1 ≤ cn Q k + (if Q k then 1 else 0)
    by_cases e : j = k
    · subst e
      have h3 := cn_mono (P := P) (Q := Q) j (fun i hi => h i (by omega))
      rw [h1, h2]
      simp
      omega
    · have h3 := cn_lt k (fun i hi => h i (by omega)) (by omega) h1 h2
      have h4 := h k (by omega)
      by_cases hp : P k = true
      · rw [if_pos hp, if_pos (h4 hp)]; omega
      · rw [if_neg hp]; omega
theorem cn_congr {P Q : Nat → Bool} : ∀ k, (∀ i, i < k → P i = Q i) → cn P k = cn Q k
  | 0, _ => rfl
  | k + 1, h => by
    show cn P k + (if P k then 1 else 0) = cn Q k + (if Q k then 1 else 0)
    rw [cn_congr k (fun i hi => h i (by omega)), h k (by omega)]
theorem cn_one {P : Nat → Bool} {j : Nat} : ∀ k, j < k → P j = false → cn (fun t => P t || decide (t = j)) k = cn P k + 1
  | 0, hj, _ => absurd hj (Nat.not_lt_zero j)
  | k + 1, hj, h => by
    show cn (fun t => P t || decide (t = j)) k + (if (P k || decide (k = j)) then 1 else 0) = cn P k + (if P k then 1 else 0) + 1
    by_cases e : k = j
    · subst e
      rw [cn_congr (Q := P) k (fun i hi => by simp [show ¬ i = k by omega]), h]
      simp
    · rw [cn_one k (by omega) h]
      simp [e]
      omega
theorem cn_all {P : Nat → Bool} (h : cn P 12 = 12) : ∀ t, t < 12 → P t = true := fun t ht => by
  cases hp : P t with
  | true => rfl
  | false =>
    have h1 := cn_lt (P := P) (Q := fun _ => true) 12 (fun _ _ _ => rfl) ht hp rfl
    have h2 := cn_le (fun _ => true) 12
    omega
/-- a walk of at most k edges from s to t of length n; W a b of 1000 and more: no way -/
def wkl (W : Nat → Nat → Nat) (s : Nat) : Nat → Nat → Nat → Prop
  | 0, t, n => t = s ∧ n = 0
  | k + 1, t, n => wkl W s k t n ∨ ∃ a m, a < 12 ∧ W a t < 1000 ∧ wkl W s k a m ∧ n = m + W a t
theorem wkl_lo {W : Nat → Nat → Nat} {s : Nat} {D : Nat → Nat} (h0 : D s = 0) (hf : ∀ a b, a < 12 → b < 12 → W a b < 1000 → D b ≤ D a + W a b) : ∀ k t n, t < 12 → wkl W s k t n → D t ≤ n
  | 0, t, n, _, h => by
    have h : t = s ∧ n = 0 := h
    rw [h.1, h0]; omega
  | k + 1, t, n, ht, h => by
    have h : wkl W s k t n ∨ ∃ a m, a < 12 ∧ W a t < 1000 ∧ wkl W s k a m ∧ n = m + W a t := h
    rcases h with h | ⟨a, m, ha, hw, h, e⟩
    · exact wkl_lo h0 hf k t n ht h
    · have h1 := wkl_lo h0 hf k a m ha h
      have h2 := hf a t ha ht hw
      omega
theorem wkl_hi {W : Nat → Nat → Nat} {s : Nat} : ∀ k t n, wkl W s k t n → n ≤ 1000 * k
  | 0, t, n, h => by
    have h : t = s ∧ n = 0 := h
    omega
  | k + 1, t, n, h => by
    have h : wkl W s k t n ∨ ∃ a m, a < 12 ∧ W a t < 1000 ∧ wkl W s k a m ∧ n = m + W a t := h
    rcases h with h | ⟨a, m, ha, hw, h, e⟩
    · have h1 := wkl_hi k t n h
      omega
    · have h1 := wkl_hi k a m h
      omega
theorem wkl_up {W : Nat → Nat → Nat} {s t n : Nat} : ∀ j k, wkl W s k t n → wkl W s (k + j) t n
  | 0, _, h => h
  | j + 1, k, h => Or.inl (wkl_up j k h)
/-- what Dijkstra ends with -/
def dOK (W : Nat → Nat → Nat) (s : Nat) (D : Nat → Nat) : Prop := D s = 0 ∧ (∀ t, t < 12 → D t ≤ 1000000 ∧ (D t < 1000000 → wkl W s 12 t (D t))) ∧ ∀ a b, a < 12 → b < 12 → W a b < 1000 → D b ≤ D a + W a b
theorem dOK_r {W : Nat → Nat → Nat} {s : Nat} {D : Nat → Nat} (h : dOK W s D) : ∀ k t n, t < 12 → wkl W s k t n → D t < 1000000
  | 0, t, n, _, hw => by
    have hw : t = s ∧ n = 0 := hw
    rw [hw.1, h.1]; decide
  | k + 1, t, n, ht, hw => by
    have hw : wkl W s k t n ∨ ∃ a m, a < 12 ∧ W a t < 1000 ∧ wkl W s k a m ∧ n = m + W a t := hw
    rcases hw with hw | ⟨a, m, ha, hl, hw, e⟩
    · exact dOK_r h k t n ht hw
    · have h1 := dOK_r h k a m ha hw
      have h2 := wkl_hi 12 a (D a) ((h.2.1 a ha).2 h1)
      have h3 := h.2.2 a t ha ht hl
      omega
theorem dOK_le {W : Nat → Nat → Nat} {s : Nat} {D E : Nat → Nat} (h : dOK W s D) (g : dOK W s E) (t : Nat) (ht : t < 12) : D t ≤ E t := by
  by_cases hE : E t < 1000000
  · exact wkl_lo h.1 h.2.2 12 t (E t) ht ((g.2.1 t ht).2 hE)
  · have h1 := (h.2.1 t ht).1
    omega
/-- what the reference's rounds end with -/
def mOK (W : Nat → Nat → Nat) (s : Nat) (M : Nat → Nat) : Prop := ∀ t, t < 12 → M t ≤ 268435456 ∧ (M t < 268435456 → ∃ k, wkl W s k t (M t)) ∧ ∀ n, wkl W s 12 t n → M t ≤ n
def fq (x : Nat) : Nat := if x = 1000000 then 268435456 else x
theorem d_m {W : Nat → Nat → Nat} {s : Nat} {D M : Nat → Nat} (h : dOK W s D) (g : mOK W s M) (t : Nat) (ht : t < 12) : M t = fq (D t) := by
  obtain ⟨g1, g2, g3⟩ := g t ht
  have h1 := (h.2.1 t ht).1
  unfold fq
  by_cases e : D t = 1000000
  · rw [if_pos e]
    by_cases e2 : M t < 268435456
    · obtain ⟨k, hk⟩ := g2 e2
      have h2 := dOK_r h k t (M t) ht hk
      omega
    · omega
  · rw [if_neg e]
    have h2 := g3 (D t) ((h.2.1 t ht).2 (by omega))
    obtain ⟨k, hk⟩ := g2 (by omega)
    have h3 := wkl_lo h.1 h.2.2 k t (M t) ht hk
    omega
/-- Dijkstra's rounds -/
def djI (W : Nat → Nat → Nat) (s r : Nat) (D : Nat → Nat) (P : Nat → Bool) : Prop := D s = 0 ∧ (∀ t, t < 12 → D t ≤ 1000000 ∧ (D t < 1000000 → wkl W s r t (D t))) ∧ (∀ p u, p < 12 → u < 12 → P p = true → P u = false → D p ≤ D u) ∧ (∀ p t, p < 12 → t < 12 → P p = true → W p t < 1000 → D t ≤ D p + W p t) ∧ cn P 12 = r
theorem djI.congr {W : Nat → Nat → Nat} {s r : Nat} {D E : Nat → Nat} {P Q : Nat → Bool} (h : djI W s r D P) (hs : s < 12) (hD : ∀ t, t < 12 → E t = D t) (hP : ∀ t, t < 12 → Q t = P t) : djI W s r E Q := by
  obtain ⟨h1, h2, h3, h4, h5⟩ := h
  refine ⟨by rw [hD s hs]; exact h1, fun t ht => by rw [hD t ht]; exact h2 t ht, fun p u hp hu a b => ?_, fun p t hp ht a b => ?_, by rw [cn_congr 12 hP]; exact h5⟩
  · rw [hP p hp] at a; rw [hP u hu] at b; rw [hD p hp, hD u hu]; exact h3 p u hp hu a b
  · rw [hP p hp] at a; rw [hD p hp, hD t ht]; exact h4 p t hp ht a b
def cq (x : Nat) : Nat := if x < 1000 then x else 1000000
theorem djI.start {W : Nat → Nat → Nat} {s : Nat} : djI W s 0 (fun t => if t = s then 0 else 1000000) (fun _ => false) := by
  refine ⟨if_pos rfl, fun t ht => ?_, fun p u _ _ a _ => absurd a Bool.false_ne_true, fun p t _ _ a _ => absurd a Bool.false_ne_true, rfl⟩
  by_cases e : t = s
  · show (if t = s then 0 else 1000000) ≤ 1000000 ∧ ((if t = s then 0 else 1000000) < 1000000 → wkl W s 0 t (if t = s then 0 else 1000000))
    rw [if_pos e]; exact ⟨by decide, fun _ => ⟨e, rfl⟩⟩
  · show (if t = s then 0 else 1000000) ≤ 1000000 ∧ ((if t = s then 0 else 1000000) < 1000000 → wkl W s 0 t (if t = s then 0 else 1000000))
    rw [if_neg e]; exact ⟨by decide, fun q => absurd q (by decide)⟩
theorem djI.step {W : Nat → Nat → Nat} {s r n : Nat} {D : Nat → Nat} {P : Nat → Bool} (h : djI W s r D P) (hn : n < 12) (hp : P n = false) (hd : D n < 1000000) (hm : ∀ u, u < 12 → P u = false → D n ≤ D u) : djI W s (r + 1) (fun t => min (D t) (D n + cq (W n t))) (fun t => P t || decide (t = n)) := by
  obtain ⟨h1, h2, h3, h4, h5⟩ := h
  have hpn : ∀ p, p < 12 → P p = true → D p ≤ D n := fun p hp9 a => h3 p n hp9 hn a hp
  have keep : ∀ p, p < 12 → (P p || decide (p = n)) = true → min (D p) (D n + cq (W n p)) = D p := fun p hp9 a => by
    have h6 : D p ≤ D n := by
      by_cases e : p = n
      · rw [e]; exact Nat.le_refl _
      · simp [e] at a; exact hpn p hp9 a
    omega
  refine ⟨?_, fun t ht => ?_, fun p u hp9 hu a b => ?_, fun p t hp9 ht a b => ?_, ?_⟩
  · show min (D s) _ = 0
    rw [h1]; omega
  · show min (D t) (D n + cq (W n t)) ≤ 1000000 ∧ (min (D t) (D n + cq (W n t)) < 1000000 → wkl W s (r + 1) t (min (D t) (D n + cq (W n t))))
    have h6 := h2 t ht
    refine ⟨by omega, fun q => ?_⟩
    by_cases e : D t ≤ D n + cq (W n t)
    · rw [Nat.min_eq_left e]; rw [Nat.min_eq_left e] at q
      exact Or.inl (h6.2 q)
    · rw [Nat.min_eq_right (by omega)]; rw [Nat.min_eq_right (by omega)] at q
      have hw : W n t < 1000 := by
        by_cases z : W n t < 1000
        · exact z
        · unfold cq at q; rw [if_neg z] at q; omega
      have hc : cq (W n t) = W n t := if_pos hw
      rw [hc]
      exact Or.inr ⟨n, D n, hn, hw, (h2 n hn).2 hd, rfl⟩
  · show min (D p) (D n + cq (W n p)) ≤ min (D u) (D n + cq (W n u))
    rw [keep p hp9 a]
    have b1 : P u = false := by cases hx : P u with
      | false => rfl
      | true => simp [hx] at b
    have h6 := hm u hu b1
    have h7 : D p ≤ D n := by
      by_cases e : p = n
      · rw [e]; exact Nat.le_refl _
      · simp [e] at a; exact hpn p hp9 a
    omega
  · show min (D t) (D n + cq (W n t)) ≤ min (D p) (D n + cq (W n p)) + W p t
    rw [keep p hp9 a]
    by_cases e : p = n
    · subst e
      have hc : cq (W p t) = W p t := if_pos b
      rw [hc]; omega
    · simp [e] at a
      have h6 := h4 p t hp9 ht a b
      omega
  · rw [cn_one 12 hn hp, h5]
theorem djI.fin {W : Nat → Nat → Nat} {s r : Nat} {D : Nat → Nat} {P : Nat → Bool} (h : djI W s r D P) (hr : r ≤ 12) (hu : ∀ u, u < 12 → P u = false → ¬ D u < 1000000) : dOK W s D := by
  obtain ⟨h1, h2, h3, h4, h5⟩ := h
  refine ⟨h1, fun t ht => ⟨(h2 t ht).1, fun q => ?_⟩, fun a b ha hb hw => ?_⟩
  · have h6 := wkl_up (12 - r) r ((h2 t ht).2 q)
    rw [Nat.add_sub_cancel' hr] at h6; exact h6
  · cases hp : P a with
    | true => exact h4 a b ha hb hp hw
    | false =>
      have h6 := hu a ha hp
      have h7 := (h2 b hb).1
      omega
theorem djI.end {W : Nat → Nat → Nat} {s : Nat} {D : Nat → Nat} {P : Nat → Bool} (h : djI W s 12 D P) : dOK W s D := h.fin (Nat.le_refl 12) (fun u hu a => by
  have h1 := cn_all h.2.2.2.2 u hu
  rw [h1] at a; exact absurd a (by decide))
theorem argm (D : Nat → Nat) (P : Nat → Bool) : ∀ m, (∀ u, u < m → P u = false → ¬ D u < 1000000) ∨ ∃ n, n < m ∧ P n = false ∧ D n < 1000000 ∧ ∀ u, u < m → P u = false → D n ≤ D u
  | 0 => Or.inl (fun u hu => absurd hu (Nat.not_lt_zero u))
  | m + 1 => by
    rcases argm D P m with h | ⟨n, h1, h2, h3, h4⟩
    · by_cases hm : P m = false ∧ D m < 1000000
      · refine Or.inr ⟨m, by omega, hm.1, hm.2, fun u hu a => ?_⟩
        by_cases e : u = m
        · rw [e]; exact Nat.le_refl _
        · have h5 := h u (by omega) a
          omega
      · refine Or.inl (fun u hu a => ?_)
        by_cases e : u = m
        · subst e; exact fun q => hm ⟨a, q⟩
        · exact h u (by omega) a
    · by_cases hm : P m = false ∧ D m < D n
      · refine Or.inr ⟨m, by omega, hm.1, by omega, fun u hu a => ?_⟩
        by_cases e : u = m
        · rw [e]; exact Nat.le_refl _
        · have h5 := h4 u (by omega) a
          omega
      · refine Or.inr ⟨n, by omega, h2, h3, fun u hu a => ?_⟩
        by_cases e : u = m
        · subst e
          have h6 : ¬ D u < D n := fun q => hm ⟨a, q⟩
          omega
        · exact h4 u (by omega) a
theorem dij_j (W : Nat → Nat → Nat) (s : Nat) : ∀ j, j ≤ 12 → (∃ D, dOK W s D) ∨ ∃ D P, djI W s j D P
  | 0, _ => Or.inr ⟨_, _, djI.start⟩
  | j + 1, hj => by
    rcases dij_j W s j (by omega) with h | ⟨D, P, h⟩
    · exact Or.inl h
    · rcases argm D P 12 with g | ⟨n, g1, g2, g3, g4⟩
      · exact Or.inl ⟨D, h.fin (by omega) g⟩
      · exact Or.inr ⟨_, _, h.step g1 g2 g3 g4⟩
theorem dij_ex (W : Nat → Nat → Nat) (s : Nat) : ∃ D, dOK W s D := by
  rcases dij_j W s 12 (Nat.le_refl 12) with h | ⟨D, P, h⟩
  · exact h
  · exact ⟨D, h.end⟩
/-- the quickest way's days from s; 1000000: none -/
noncomputable def dst (W : Nat → Nat → Nat) (s : Nat) : Nat → Nat := Classical.choose (dij_ex W s)
theorem dst_ok (W : Nat → Nat → Nat) (s : Nat) : dOK W s (dst W s) := Classical.choose_spec (dij_ex W s)
theorem dst_d {W : Nat → Nat → Nat} {s : Nat} {D : Nat → Nat} (h : dOK W s D) (t : Nat) (ht : t < 12) : D t = dst W s t := Nat.le_antisymm (dOK_le h (dst_ok W s) t ht) (dOK_le (dst_ok W s) h t ht)
theorem dst_m {W : Nat → Nat → Nat} {s : Nat} {M : Nat → Nat} (h : mOK W s M) (t : Nat) (ht : t < 12) : M t = fq (dst W s t) := d_m (dst_ok W s) h t ht
theorem dst_b (W : Nat → Nat → Nat) (s t : Nat) (ht : t < 12) : dst W s t = 1000000 ∨ dst W s t ≤ 12000 := by
  have h := (dst_ok W s).2.1 t ht
  by_cases e : dst W s t < 1000000
  · exact Or.inr (wkl_hi 12 t _ (h.2 e))
  · have h1 := h.1
    omega
/-- the reference's rounds: k whole ones, and the pairs ahead of (i, j) -/
def bfI (W : Nat → Nat → Nat) (s k i j : Nat) (M : Nat → Nat) : Prop := (∀ t, t < 12 → M t ≤ 268435456 ∧ (M t < 268435456 → ∃ q, wkl W s q t (M t)) ∧ ∀ n, wkl W s k t n → M t ≤ n) ∧ ∀ a b, a < 12 → b < 12 → (a < i ∨ (a = i ∧ b < j)) → W a b < 1000 → ∀ n, wkl W s k a n → M b ≤ n + W a b
def mq (x : Nat) : Nat := if x < 1000 then x else 268435456
theorem bfI.start {W : Nat → Nat → Nat} {s : Nat} : bfI W s 0 0 0 (fun t => if t = s then 0 else 268435456) := by
  refine ⟨fun t ht => ?_, fun a b _ _ h => absurd h (by omega)⟩
  show (if t = s then 0 else 268435456) ≤ 268435456 ∧ ((if t = s then 0 else 268435456) < 268435456 → ∃ q, wkl W s q t (if t = s then 0 else 268435456)) ∧ ∀ n, wkl W s 0 t n → (if t = s then 0 else 268435456) ≤ n
  by_cases e : t = s
  · rw [if_pos e]; exact ⟨by decide, fun _ => ⟨0, e, rfl⟩, fun n _ => Nat.zero_le n⟩
  · rw [if_neg e]
    refine ⟨Nat.le_refl _, fun q => absurd q (by decide), fun n hn => ?_⟩
    have hn : t = s ∧ n = 0 := hn
    exact absurd hn.1 e
theorem bfI.congr {W : Nat → Nat → Nat} {s k i j : Nat} {M E : Nat → Nat} (h : bfI W s k i j M) (hE : ∀ t, t < 12 → E t = M t) : bfI W s k i j E := ⟨fun t ht => by rw [hE t ht]; exact h.1 t ht, fun a b ha hb h1 h2 n hn => by rw [hE b hb]; exact h.2 a b ha hb h1 h2 n hn⟩
theorem bfI.step {W : Nat → Nat → Nat} {s k i j : Nat} {M : Nat → Nat} (h : bfI W s k i j M) (hi : i < 12) (hj : j < 12) : bfI W s k i (j + 1) (fun t => if t = j then min (M j) (M i + mq (W i j)) else M t) := by
  have le : ∀ t, t < 12 → (if t = j then min (M j) (M i + mq (W i j)) else M t) ≤ M t := fun t ht => by
    by_cases e : t = j
    · rw [if_pos e, e]; omega
    · rw [if_neg e]; exact Nat.le_refl _
  refine ⟨fun t ht => ?_, fun a b ha hb h1 h2 n hn => ?_⟩
  · obtain ⟨g1, g2, g3⟩ := h.1 t ht
    refine ⟨Nat.le_trans (le t ht) g1, fun q => ?_, fun n hn => Nat.le_trans (le t ht) (g3 n hn)⟩
    show ∃ q, wkl W s q t (if t = j then min (M j) (M i + mq (W i j)) else M t)
    have q : (if t = j then min (M j) (M i + mq (W i j)) else M t) < 268435456 := q
    by_cases e : t = j
    · subst e
      rw [if_pos rfl] at q ⊢
      by_cases z : M t ≤ M i + mq (W i t)
      · rw [Nat.min_eq_left z] at q ⊢; exact g2 q
      · rw [Nat.min_eq_right (by omega)] at q ⊢
        have hw : W i t < 1000 := by
          by_cases y : W i t < 1000
          · exact y
          · unfold mq at q; rw [if_neg y] at q; omega
        have hc : mq (W i t) = W i t := if_pos hw
        rw [hc] at q ⊢
        obtain ⟨p, hp⟩ := (h.1 i hi).2.1 (by omega)
        exact ⟨p + 1, Or.inr ⟨i, M i, hi, hw, hp, rfl⟩⟩
    · rw [if_neg e] at q ⊢; exact g2 q
  · show (if b = j then min (M j) (M i + mq (W i j)) else M b) ≤ n + W a b
    by_cases old : a < i ∨ (a = i ∧ b < j)
    · exact Nat.le_trans (le b hb) (h.2 a b ha hb old h2 n hn)
    · have e1 : a = i := by omega
      have e2 : b = j := by omega
      subst e1; subst e2
      rw [if_pos rfl]
      have hc : mq (W a b) = W a b := if_pos h2
      have h3 := (h.1 a ha).2.2 n hn
      rw [hc]; omega
theorem bfI.row {W : Nat → Nat → Nat} {s k i : Nat} {M : Nat → Nat} (h : bfI W s k i 12 M) : bfI W s k (i + 1) 0 M := ⟨h.1, fun a b ha hb h1 h2 n hn => h.2 a b ha hb (by omega) h2 n hn⟩
theorem bfI.round {W : Nat → Nat → Nat} {s k : Nat} {M : Nat → Nat} (h : bfI W s k 12 0 M) : bfI W s (k + 1) 0 0 M := ⟨fun t ht => ⟨(h.1 t ht).1, (h.1 t ht).2.1, fun n hn => by
  have hn : wkl W s k t n ∨ ∃ a m, a < 12 ∧ W a t < 1000 ∧ wkl W s k a m ∧ n = m + W a t := hn
  rcases hn with hn | ⟨a, m, ha, hw, hn, e⟩
  · exact (h.1 t ht).2.2 n hn
  · have h1 := h.2 a t ha ht (Or.inl ha) hw m hn
    omega⟩, fun a b _ _ h1 => absurd h1 (by omega)⟩
theorem bfI.fin {W : Nat → Nat → Nat} {s : Nat} {M : Nat → Nat} (h : bfI W s 12 0 0 M) : mOK W s M := h.1
/-- an array's contents set at one place more -/
theorem upAll9 {P : Nat → Int32 → Prop} {g : Nat → Int32} {j n : Nat} {v : Int32} (hj : j < n) (hn : n < 2 ^ 31) (hg : ∀ z, z < j → P z (g z)) (hv : P j v) : ∀ z, z < j + 1 → P z (upd g (nI j).toNatClampNeg v z) := fun z hz => by
  rw [nI_clamp (by omega)]
  by_cases e : z = j
  · rw [e, pk_us]; exact hv
  · rw [pk_un e]; exact hg z (by omega)
def wOK (f : Nat → Int32) (M : Nat → Nat → Nat) : Prop := ∀ a b, a < 12 → b < 12 → f (a * 12 + b) = nI (cq (M a b))
def nws (u : Int32) (P Q : Nat → Nat → Nat) : Nat → Nat → Nat := fun a b => if u = 0 then P a b else min (P a b) (Q a b)
theorem cq_le (x : Nat) : cq x ≤ 1000000 := by unfold cq; split <;> omega
theorem mq_le (x : Nat) : mq x ≤ 268435456 := by unfold mq; split <;> omega
theorem cq_min (x y : Nat) : cq (min x y) = min (cq x) (cq y) := by
  unfold cq
  by_cases h1 : x < 1000
  · by_cases h2 : y < 1000
    · rw [if_pos h1, if_pos h2, if_pos (by omega)]
    · rw [if_pos h1, if_neg h2, if_pos (by omega)]; omega
  · by_cases h2 : y < 1000
    · rw [if_neg h1, if_pos h2, if_pos (by omega)]; omega
    · rw [if_neg h1, if_neg h2, if_neg (by omega)]; rfl
theorem mq_min (x y : Nat) : mq (min x y) = min (mq x) (mq y) := by
  unfold mq
  by_cases h1 : x < 1000
  · by_cases h2 : y < 1000
    · rw [if_pos h1, if_pos h2, if_pos (by omega)]
    · rw [if_pos h1, if_neg h2, if_pos (by omega)]; omega
  · by_cases h2 : y < 1000
    · rw [if_neg h1, if_pos h2, if_pos (by omega)]; omega
    · rw [if_neg h1, if_neg h2, if_neg (by omega)]; rfl
theorem nI_min {a b : Nat} (ha : a < 2 ^ 31) (hb : b < 2 ^ 31) : (if nI b < nI a then nI b else nI a) = nI (min a b) := by
  by_cases h : b < a
  · rw [if_pos (nI_lt h ha), Nat.min_eq_right (by omega)]
  · rw [if_neg (fun q => h ((nI_ltI hb ha).mp q)), Nat.min_eq_left (by omega)]
