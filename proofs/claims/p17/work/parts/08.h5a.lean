/-! ===== an agent's text ===== -/
def sgI (x : Int32) : Bool := decide (x = 60) || decide (x = 62) || decide (x = 61)
def sgO (B : Nat → Int32) (n a : Nat) : Bool := decide (nx B n a < n) && sgI (B (nx B n a))
def sgR (B : Nat → Int32) (n a : Nat) : Int32 := if sgO B n a = true then B (nx B n a) else 32
def sgA (B : Nat → Int32) (n a : Nat) : Nat := if sgO B n a = true then nx B n a + 1 else nx B n a
theorem sgI_t {x : Int32} : sgI x = true ↔ (x = 60 ∨ x = 62 ∨ x = 61) := by
  unfold sgI
  rw [Bool.or_eq_true, Bool.or_eq_true, decide_eq_true_iff, decide_eq_true_iff, decide_eq_true_iff, or_assoc]
theorem sgO_t {B : Nat → Int32} {n a : Nat} : sgO B n a = true ↔ (nx B n a < n ∧ (B (nx B n a) = 60 ∨ B (nx B n a) = 62 ∨ B (nx B n a) = 61)) := by
  unfold sgO
  rw [Bool.and_eq_true, decide_eq_true_iff, sgI_t]
theorem sgR_y {B : Nat → Int32} {n a : Nat} (h : sgO B n a = true) : sgR B n a = B (nx B n a) := if_pos h
theorem sgA_y {B : Nat → Int32} {n a : Nat} (h : sgO B n a = true) : sgA B n a = nx B n a + 1 := if_pos h
theorem sgR_n {B : Nat → Int32} {n a : Nat} (h : ¬ sgO B n a = true) : sgR B n a = 32 := if_neg h
theorem sgA_n {B : Nat → Int32} {n a : Nat} (h : ¬ sgO B n a = true) : sgA B n a = nx B n a := if_neg h
theorem sgR_32 {B : Nat → Int32} {n a : Nat} : sgR B n a = 32 ↔ ¬ sgO B n a = true := by
  constructor
  · intro h q
    rw [sgR_y q] at h
    rcases (sgO_t.mp q).2 with e | e | e
    · rw [e] at h; exact absurd h (by decide)
    · rw [e] at h; exact absurd h (by decide)
    · rw [e] at h; exact absurd h (by decide)
  · exact sgR_n
theorem sgR_c {B : Nat → Int32} {n a : Nat} : vp_nar .char (sgR B n a) = sgR B n a := by
  by_cases q : sgO B n a = true
  · rw [sgR_y q]
    rcases (sgO_t.mp q).2 with e | e | e
    · rw [e]; decide
    · rw [e]; decide
    · rw [e]; decide
  · rw [sgR_n q]; decide
theorem sgA_le {B : Nat → Int32} {n a : Nat} (h : a ≤ n) : a ≤ sgA B n a ∧ sgA B n a ≤ n := by
  have h1 := nx_le (B := B) h
  by_cases q : sgO B n a = true
  · have h2 := (sgO_t.mp q).1
    rw [sgA_y q]; omega
  · rw [sgA_n q]; omega
def cdK (B : Nat → Int32) (n a : Nat) : Nat := twK B n (nx B n a) 2
def cdQ (B : Nat → Int32) (n a : Nat) : Nat := twA B n (nx B n a) 2
def cdP (B : Nat → Int32) (n a : Nat) : Nat := sgA B n (cdQ B n a)
def cdO (B : Nat → Int32) (n a : Nat) : Prop := ¬ cdK B n a = 8 ∧ sgO B n (cdQ B n a) = true ∧ ¬ tnR B n (cdP B n a) 6 < 0
def cdE (B : Nat → Int32) (n a : Nat) : Nat := tnA B n (cdP B n a) 6
def t5 (T : Nat → Nat → Int32) (i j : Nat) (v : Int32) : Nat → Nat → Int32 := va_up T i (va_up (T i) j v)
def rwT (T : Nat → Nat → Int32) (j : Nat) (x y v : Int32) (r : Nat) (q : Int32) : Nat → Nat → Int32 := t5 (t5 (t5 (t5 T 2 j x) 3 j y) 4 j v) 1 r q
theorem rwT0 {T : Nat → Nat → Int32} {j r s : Nat} {x y v q : Int32} : rwT T j x y v r q 0 s = T 0 s := by simp [rwT, t5, va_up]
theorem rwT1 {T : Nat → Nat → Int32} {j r s : Nat} {x y v q : Int32} : rwT T j x y v r q 1 s = if s = r then q else T 1 s := by simp [rwT, t5, va_up]
theorem rwT2 {T : Nat → Nat → Int32} {j r s : Nat} {x y v q : Int32} : rwT T j x y v r q 2 s = if s = j then x else T 2 s := by simp [rwT, t5, va_up]
theorem rwT3 {T : Nat → Nat → Int32} {j r s : Nat} {x y v q : Int32} : rwT T j x y v r q 3 s = if s = j then y else T 3 s := by simp [rwT, t5, va_up]
theorem rwT4 {T : Nat → Nat → Int32} {j r s : Nat} {x y v q : Int32} : rwT T j x y v r q 4 s = if s = j then v else T 4 s := by simp [rwT, t5, va_up]
def rlT (T : Nat → Nat → Int32) (r : Nat) (x : Int32) : Nat → Nat → Int32 := t5 (t5 T 0 r x) 1 r 0
theorem rlT0 {T : Nat → Nat → Int32} {r s : Nat} {x : Int32} : rlT T r x 0 s = if s = r then x else T 0 s := by simp [rlT, t5, va_up]
theorem rlT1 {T : Nat → Nat → Int32} {r s : Nat} {x : Int32} : rlT T r x 1 s = if s = r then 0 else T 1 s := by simp [rlT, t5, va_up]
theorem rlT2 {T : Nat → Nat → Int32} {r s : Nat} {x : Int32} : rlT T r x 2 s = T 2 s := by simp [rlT, t5, va_up]
theorem rlT3 {T : Nat → Nat → Int32} {r s : Nat} {x : Int32} : rlT T r x 3 s = T 3 s := by simp [rlT, t5, va_up]
theorem rlT4 {T : Nat → Nat → Int32} {r s : Nat} {x : Int32} : rlT T r x 4 s = T 4 s := by simp [rlT, t5, va_up]
def cdT (B : Nat → Int32) (n a r c : Nat) (T : Nat → Nat → Int32) : Nat → Nat → Int32 := rwT T (r * 6 + c) (nI (cdK B n a)) (sgR B n (cdQ B n a)) (tnR B n (cdP B n a) 6) r (nI (c + 1))
noncomputable def cnG (B : Nat → Int32) (n r : Nat) : Nat → Nat → Nat → (Nat → Nat → Int32) → Option (Nat × (Nat → Nat → Int32))
  | 0, _, _, _ => none
  | F + 1, a, c, T => @ite _ (cdO B n a ∧ c < 6) (Classical.propDecidable _) (if twK B n (cdE B n a) 3 = 0 then cnG B n r F (twA B n (cdE B n a) 3) (c + 1) (cdT B n a r c T) else some (twA B n (cdE B n a) 3, cdT B n a r c T)) none
theorem cnG_n {B : Nat → Int32} {n r F a c : Nat} {T : Nat → Nat → Int32} (h : ¬ (cdO B n a ∧ c < 6)) : cnG B n r (F + 1) a c T = none := by
  show @ite _ (cdO B n a ∧ c < 6) (Classical.propDecidable _) _ none = none
  rw [if_neg h]
theorem cnG_s {B : Nat → Int32} {n r F a c : Nat} {T : Nat → Nat → Int32} (h : cdO B n a) (hc : c < 6) (h1 : twK B n (cdE B n a) 3 = 0) : cnG B n r (F + 1) a c T = cnG B n r F (twA B n (cdE B n a) 3) (c + 1) (cdT B n a r c T) := by
  show @ite _ (cdO B n a ∧ c < 6) (Classical.propDecidable _) (if twK B n (cdE B n a) 3 = 0 then cnG B n r F (twA B n (cdE B n a) 3) (c + 1) (cdT B n a r c T) else some (twA B n (cdE B n a) 3, cdT B n a r c T)) none = _
  rw [if_pos ⟨h, hc⟩, if_pos h1]
theorem cnG_e {B : Nat → Int32} {n r F a c : Nat} {T : Nat → Nat → Int32} (h : cdO B n a) (hc : c < 6) (h1 : ¬ twK B n (cdE B n a) 3 = 0) : cnG B n r (F + 1) a c T = some (twA B n (cdE B n a) 3, cdT B n a r c T) := by
  show @ite _ (cdO B n a ∧ c < 6) (Classical.propDecidable _) (if twK B n (cdE B n a) 3 = 0 then cnG B n r F (twA B n (cdE B n a) 3) (c + 1) (cdT B n a r c T) else some (twA B n (cdE B n a) 3, cdT B n a r c T)) none = _
  rw [if_pos ⟨h, hc⟩, if_neg h1]
def rlK (B : Nat → Int32) (n a : Nat) : Nat := twK B n (nx B n a) 0
def rlQ (B : Nat → Int32) (n a : Nat) : Nat := twA B n (nx B n a) 0
def rl0 (B : Nat → Int32) (n a r : Nat) (T : Nat → Nat → Int32) : Nat → Nat → Int32 := rlT T r (nI (rlK B n a))
noncomputable def rlS (B : Nat → Int32) (n a r : Nat) (T : Nat → Nat → Int32) : Option (Nat × (Nat → Nat → Int32)) := if ¬ rlK B n a = 3 ∧ r < 12 then (if twK B n (rlQ B n a) 1 = 0 then cnG B n r 7 (twA B n (rlQ B n a) 1) 0 (rl0 B n a r T) else some (twA B n (rlQ B n a) 1, rl0 B n a r T)) else none
theorem rlS_n {B : Nat → Int32} {n a r : Nat} {T : Nat → Nat → Int32} (h : ¬ (¬ rlK B n a = 3 ∧ r < 12)) : rlS B n a r T = none := by unfold rlS; rw [if_neg h]
theorem rlS_c {B : Nat → Int32} {n a r : Nat} {T : Nat → Nat → Int32} (h : ¬ rlK B n a = 3) (hr : r < 12) (h1 : twK B n (rlQ B n a) 1 = 0) : rlS B n a r T = cnG B n r 7 (twA B n (rlQ B n a) 1) 0 (rl0 B n a r T) := by unfold rlS; rw [if_pos ⟨h, hr⟩, if_pos h1]
theorem rlS_e {B : Nat → Int32} {n a r : Nat} {T : Nat → Nat → Int32} (h : ¬ rlK B n a = 3) (hr : r < 12) (h1 : ¬ twK B n (rlQ B n a) 1 = 0) : rlS B n a r T = some (twA B n (rlQ B n a) 1, rl0 B n a r T) := by unfold rlS; rw [if_pos ⟨h, hr⟩, if_neg h1]
noncomputable def txG (B : Nat → Int32) (n : Nat) : Nat → Nat → Nat → (Nat → Nat → Int32) → Option (Nat × (Nat → Nat → Int32))
  | 0, _, _, _ => none
  | F + 1, a, k, T => (rlS B n a k T).bind (fun q => if nx B n q.1 < n then (if B (nx B n q.1) = 59 then txG B n F (nx B n q.1 + 1) (k + 1) q.2 else none) else some (k + 1, q.2))
theorem txG_n {B : Nat → Int32} {n F a k : Nat} {T : Nat → Nat → Int32} (h : rlS B n a k T = none) : txG B n (F + 1) a k T = none := by
  show (rlS B n a k T).bind _ = none
  rw [h]; rfl
theorem txG_b {B : Nat → Int32} {n F a k a1 : Nat} {T T1 : Nat → Nat → Int32} (h : rlS B n a k T = some (a1, T1)) : txG B n (F + 1) a k T = if nx B n a1 < n then (if B (nx B n a1) = 59 then txG B n F (nx B n a1 + 1) (k + 1) T1 else none) else some (k + 1, T1) := by
  show (rlS B n a k T).bind _ = _
  rw [h]; rfl
theorem txG_e {B : Nat → Int32} {n F a k a1 : Nat} {T T1 : Nat → Nat → Int32} (h : rlS B n a k T = some (a1, T1)) (h1 : ¬ nx B n a1 < n) : txG B n (F + 1) a k T = some (k + 1, T1) := by rw [txG_b h, if_neg h1]
theorem txG_f {B : Nat → Int32} {n F a k a1 : Nat} {T T1 : Nat → Nat → Int32} (h : rlS B n a k T = some (a1, T1)) (h1 : nx B n a1 < n) (h2 : ¬ B (nx B n a1) = 59) : txG B n (F + 1) a k T = none := by rw [txG_b h, if_pos h1, if_neg h2]
theorem txG_s {B : Nat → Int32} {n F a k a1 : Nat} {T T1 : Nat → Nat → Int32} (h : rlS B n a k T = some (a1, T1)) (h1 : nx B n a1 < n) (h2 : B (nx B n a1) = 59) : txG B n (F + 1) a k T = txG B n F (nx B n a1 + 1) (k + 1) T1 := by rw [txG_b h, if_pos h1, if_pos h2]
noncomputable def txT (B : Nat → Int32) (n : Nat) : Option (Nat × (Nat → Nat → Int32)) := if nx B n 0 < n then txG B n 13 (nx B n 0) 0 (fun _ _ => 0) else some (0, fun _ _ => 0)
theorem txT_1 {B : Nat → Int32} {n : Nat} (h : nx B n 0 < n) : txT B n = txG B n 13 (nx B n 0) 0 (fun _ _ => 0) := by unfold txT; rw [if_pos h]
theorem txT_0 {B : Nat → Int32} {n : Nat} (h : ¬ nx B n 0 < n) : txT B n = some (0, fun _ _ => 0) := by unfold txT; rw [if_neg h]
/-- an agent's rows beside the table T, of k RULES -/
def agR (df cf nf sf uf : Nat → Int32) (k : Nat) (T : Nat → Nat → Int32) : Prop := ∀ r, r < k → df r = T 0 r ∧ cf r = T 1 r ∧ (∃ d, d < 3 ∧ T 0 r = nI d) ∧ ∃ u, u ≤ 6 ∧ T 1 r = nI u ∧ ∀ c, c < u → nf (r * 6 + c) = T 2 (r * 6 + c) ∧ sf (r * 6 + c) = T 3 (r * 6 + c) ∧ uf (r * 6 + c) = T 4 (r * 6 + c) ∧ ∃ z, z < 8 ∧ T 2 (r * 6 + c) = nI z
theorem agR.z {df cf nf sf uf : Nat → Int32} {T : Nat → Nat → Int32} : agR df cf nf sf uf 0 T := fun r hr => absurd hr (Nat.not_lt_zero r)
theorem agR.le {df cf nf sf uf : Nat → Int32} {k : Nat} {T : Nat → Nat → Int32} (h : agR df cf nf sf uf (k + 1) T) : agR df cf nf sf uf k T := fun r hr => h r (by omega)
theorem agR.rule {df cf nf sf uf : Nat → Int32} {r d : Nat} {T : Nat → Nat → Int32} (h : agR df cf nf sf uf r T) (hr : r < 1000) (hd : d < 3) : agR (upd df (nI r).toNatClampNeg (nI d)) (upd cf (nI r).toNatClampNeg 0) nf sf uf (r + 1) (rlT T r (nI d)) := fun s hs => by
  rw [nI_clamp (by omega), rlT0, rlT1]
  by_cases e : s = r
  · rw [if_pos e, if_pos e, e, pk_us, pk_us]
    exact ⟨rfl, rfl, ⟨d, hd, rfl⟩, 0, by omega, rfl, fun c hc => absurd hc (Nat.not_lt_zero c)⟩
  · obtain ⟨h1, h2, h3, u, h4, h5, h6⟩ := h s (by omega)
    rw [pk_un e, pk_un e, if_neg e, if_neg e]
    refine ⟨h1, h2, h3, u, h4, h5, fun c hc => ?_⟩
    rw [rlT2, rlT3, rlT4]
    exact h6 c hc
theorem agR.cond {df cf nf sf uf : Nat → Int32} {r c z : Nat} {y v : Int32} {T : Nat → Nat → Int32} (h : agR df cf nf sf uf (r + 1) T) (hr : r < 1000) (hc : cf r = nI c) (hc6 : c < 6) (hz : z < 8) : agR df (upd cf (nI r).toNatClampNeg (nI (c + 1))) (upd nf (nI (r * 6 + c)).toNatClampNeg (nI z)) (upd sf (nI (r * 6 + c)).toNatClampNeg y) (upd uf (nI (r * 6 + c)).toNatClampNeg v) (r + 1) (rwT T (r * 6 + c) (nI z) y v r (nI (c + 1))) := fun s hs => by
  rw [nI_clamp (n := r) (by omega), nI_clamp (n := r * 6 + c) (by omega), rwT0, rwT1]
  obtain ⟨h1, h2, h3, u, h4, h5, h6⟩ := h s hs
  by_cases e : s = r
  · rw [if_pos e, e, pk_us]
    rw [e] at h1 h2 h3 h5 h6
    refine ⟨h1, rfl, h3, c + 1, by omega, rfl, fun c2 hc2 => ?_⟩
    have hu : u = c := (nI_eq (by omega) (by omega)).mp (h5.symm.trans (h2.symm.trans hc))
    rw [rwT2, rwT3, rwT4]
    by_cases e2 : c2 = c
    · rw [e2, pk_us, pk_us, pk_us, if_pos rfl, if_pos rfl, if_pos rfl]
      exact ⟨rfl, rfl, rfl, z, hz, rfl⟩
    · have e3 : ¬ r * 6 + c2 = r * 6 + c := by omega
      rw [pk_un e3, pk_un e3, pk_un e3, if_neg e3, if_neg e3, if_neg e3]
      exact h6 c2 (by omega)
  · rw [pk_un e, if_neg e]
    refine ⟨h1, h2, h3, u, h4, h5, fun c2 hc2 => ?_⟩
    have e3 : ¬ s * 6 + c2 = r * 6 + c := by omega
    rw [rwT2, rwT3, rwT4, pk_un e3, pk_un e3, pk_un e3, if_neg e3, if_neg e3, if_neg e3]
    exact h6 c2 hc2
theorem cdE_le {B : Nat → Int32} {n a : Nat} (h : a ≤ n) : a ≤ cdE B n a ∧ cdE B n a ≤ n := by
  have h1 := nx_le (B := B) h
  have h2 := twA_le (B := B) (i := 2) h1.2
  have h3 := sgA_le (B := B) h2.2
  have h4 := tnA_le (B := B) (d := 6) h3.2
  unfold cdE cdP cdQ
  omega
theorem sg_1 {B : Nat → Int32} {n a : Nat} (h : ¬ tkR B n a 60 = 0) : 60 = sgR B n a ∧ tkA B n a 60 = sgA B n a := by
  have h1 : nx B n a < n ∧ B (nx B n a) = 60 := Classical.byContradiction (fun q => h (tkR_0.mpr q))
  have h2 : sgO B n a = true := sgO_t.mpr ⟨h1.1, Or.inl h1.2⟩
  rw [sgR_y h2, sgA_y h2, tkA_y h1, h1.2]
  exact ⟨rfl, rfl⟩
theorem sg_2 {B : Nat → Int32} {n a : Nat} (ha : a ≤ n) (h0 : tkR B n a 60 = 0) (h : ¬ tkR B n (tkA B n a 60) 62 = 0) : 62 = sgR B n a ∧ tkA B n (tkA B n a 60) 62 = sgA B n a := by
  rw [tkA_n (tkR_0.mp h0)] at h ⊢
  have h1 : nx B n (nx B n a) < n ∧ B (nx B n (nx B n a)) = 62 := Classical.byContradiction (fun q => h (tkR_0.mpr q))
  rw [tkA_y h1]
  rw [nx_nx ha] at h1 ⊢
  have h2 : sgO B n a = true := sgO_t.mpr ⟨h1.1, Or.inr (Or.inl h1.2)⟩
  rw [sgR_y h2, sgA_y h2, h1.2]
  exact ⟨rfl, rfl⟩
theorem sg_3 {B : Nat → Int32} {n a : Nat} (ha : a ≤ n) (h0 : tkR B n a 60 = 0) (h01 : tkR B n (tkA B n a 60) 62 = 0) (h : ¬ tkR B n (tkA B n (tkA B n a 60) 62) 61 = 0) : 61 = sgR B n a ∧ tkA B n (tkA B n (tkA B n a 60) 62) 61 = sgA B n a := by
  have e1 := tkA_n (tkR_0.mp h0)
  have e2 := tkA_n (tkR_0.mp h01)
  rw [e2, e1, nx_nx ha] at h ⊢
  have h1 : nx B n (nx B n a) < n ∧ B (nx B n (nx B n a)) = 61 := Classical.byContradiction (fun q => h (tkR_0.mpr q))
  rw [tkA_y h1]
  rw [nx_nx ha] at h1 ⊢
  have h2 : sgO B n a = true := sgO_t.mpr ⟨h1.1, Or.inr (Or.inr h1.2)⟩
  rw [sgR_y h2, sgA_y h2, h1.2]
  exact ⟨rfl, rfl⟩
theorem sg_4 {B : Nat → Int32} {n a : Nat} (ha : a ≤ n) (h0 : tkR B n a 60 = 0) (h01 : tkR B n (tkA B n a 60) 62 = 0) (h02 : tkR B n (tkA B n (tkA B n a 60) 62) 61 = 0) : 32 = sgR B n a ∧ tkA B n (tkA B n (tkA B n a 60) 62) 61 = sgA B n a := by
  have q0 := tkR_0.mp h0
  have q1 := tkR_0.mp h01
  have q2 := tkR_0.mp h02
  have e1 := tkA_n q0
  have e2 := tkA_n q1
  have e3 := tkA_n q2
  rw [e3, e2, e1, nx_nx ha, nx_nx ha]
  rw [e1, nx_nx ha] at q1
  rw [e2, e1, nx_nx ha, nx_nx ha] at q2
  have h2 : ¬ sgO B n a = true := fun q => by
    obtain ⟨h3, h4⟩ := sgO_t.mp q
    rcases h4 with h4 | h4 | h4
    · exact q0 ⟨h3, h4⟩
    · exact q1 ⟨h3, h4⟩
    · exact q2 ⟨h3, h4⟩
  rw [sgR_n h2, sgA_n h2]
  exact ⟨rfl, rfl⟩
noncomputable def txN (rt : Nat → Nat) (B : Nat → Int32) (n : Nat) (x : Int32) : Nat → Nat := if wi x 0 11 = 0 then rt else ((txT B n).map (fun q => va_up rt x.toNatClampNeg q.1)).getD rt
noncomputable def txV (tT : Nat → Nat → Nat → Int32) (B : Nat → Int32) (n : Nat) (x : Int32) : Nat → Nat → Nat → Int32 := if wi x 0 11 = 0 then tT else ((txT B n).map (fun q => va_up tT x.toNatClampNeg q.2)).getD tT
theorem txN_w {rt : Nat → Nat} {B : Nat → Int32} {n : Nat} {x : Int32} (h : wi x 0 11 = 0) : txN rt B n x = rt := by unfold txN; rw [if_pos h]
theorem txV_w {tT : Nat → Nat → Nat → Int32} {B : Nat → Int32} {n : Nat} {x : Int32} (h : wi x 0 11 = 0) : txV tT B n x = tT := by unfold txV; rw [if_pos h]
theorem txN_n {rt : Nat → Nat} {B : Nat → Int32} {n : Nat} {x : Int32} (h : txT B n = none) : txN rt B n x = rt := by unfold txN; rw [h]; split <;> rfl
theorem txV_n {tT : Nat → Nat → Nat → Int32} {B : Nat → Int32} {n : Nat} {x : Int32} (h : txT B n = none) : txV tT B n x = tT := by unfold txV; rw [h]; split <;> rfl
theorem txN_s {rt : Nat → Nat} {B : Nat → Int32} {n k : Nat} {x : Int32} {T : Nat → Nat → Int32} (hw : ¬ wi x 0 11 = 0) (h : txT B n = some (k, T)) : txN rt B n x = va_up rt x.toNatClampNeg k := by unfold txN; rw [if_neg hw, h]; rfl
theorem txV_s {tT : Nat → Nat → Nat → Int32} {B : Nat → Int32} {n k : Nat} {x : Int32} {T : Nat → Nat → Int32} (hw : ¬ wi x 0 11 = 0) (h : txT B n = some (k, T)) : txV tT B n x = va_up tT x.toNatClampNeg T := by unfold txV; rw [if_neg hw, h]; rfl
def atR (sl : Nat → Nat) (sg : Nat) (ag aa : Nat → Nat) : Prop := ∀ i, i < 12 → sl i < 13 ∧ ag i = aa (sl i) ∧ sl i ≠ sg ∧ ∀ j, j < 12 → sl i = sl j → i = j
def axR (sl ru rt : Nat → Nat) (df cf nf sf uf : Nat → Nat → Int32) (tT : Nat → Nat → Nat → Int32) : Prop := ∀ i, i < 12 → ru (sl i) = rt i ∧ agR (df (sl i)) (cf (sl i)) (nf (sl i)) (sf (sl i)) (uf (sl i)) (rt i) (tT i)
theorem atR.set {sl : Nat → Nat} {sg j : Nat} {ag aa : Nat → Nat} (h : atR sl sg ag aa) (hj : j < 12) (hs : sg < 13) : atR (va_up sl j sg) (sl j) (va_up ag j (aa sg)) aa := fun i hi => by
  obtain ⟨a1, a2, a3, a4⟩ := h i hi
  by_cases e : i = j
  · rw [e, va_up_self, va_up_self]
    refine ⟨hs, rfl, fun q => (h j hj).2.2.1 q.symm, fun k hk q => ?_⟩
    by_cases e2 : k = j
    · exact e2.symm
    · rw [va_up_ne _ _ e2] at q; exact absurd q.symm (h k hk).2.2.1
  · rw [va_up_ne _ _ e, va_up_ne _ _ e]
    refine ⟨a1, a2, fun q => e (a4 j hj q), fun k hk q => ?_⟩
    by_cases e2 : k = j
    · rw [e2, va_up_self] at q; exact absurd q a3
    · rw [va_up_ne _ _ e2] at q; exact a4 k hk q
theorem axR.upd {sl ru rt : Nat → Nat} {sg x : Nat} {ag aa : Nat → Nat} {df cf nf sf uf : Nat → Nat → Int32} {a b c d e : Nat → Int32} {tT : Nat → Nat → Nat → Int32} (h : axR sl ru rt df cf nf sf uf tT) (ha : atR sl sg ag aa) : axR sl (va_up ru sg x) rt (va_up df sg a) (va_up cf sg b) (va_up nf sg c) (va_up sf sg d) (va_up uf sg e) tT := fun i hi => by
  have n := (ha i hi).2.2.1
  rw [va_up_ne _ _ n, va_up_ne _ _ n, va_up_ne _ _ n, va_up_ne _ _ n, va_up_ne _ _ n, va_up_ne _ _ n]
  exact h i hi
theorem axR.set {sl ru rt : Nat → Nat} {sg x j : Nat} {df cf nf sf uf : Nat → Nat → Int32} {a b c d e : Nat → Int32} {tT : Nat → Nat → Nat → Int32} {T : Nat → Nat → Int32} (h : axR sl (va_up ru sg x) rt (va_up df sg a) (va_up cf sg b) (va_up nf sg c) (va_up sf sg d) (va_up uf sg e) tT) (hT : agR a b c d e x T) : axR (va_up sl j sg) (va_up ru sg x) (va_up rt j x) (va_up df sg a) (va_up cf sg b) (va_up nf sg c) (va_up sf sg d) (va_up uf sg e) (va_up tT j T) := fun i hi => by
  by_cases q : i = j
  · rw [q, va_up_self, va_up_self, va_up_self, va_up_self, va_up_self, va_up_self, va_up_self, va_up_self, va_up_self]
    exact ⟨rfl, hT⟩
  · rw [va_up_ne _ _ q, va_up_ne _ _ q, va_up_ne _ _ q]
    exact h i hi

