/-! ===== settling ===== -/
def stl (hld : Nat → Int32) (kn : Int32) (k : Nat) : Bool := !decide (hcI (hld k) kn = 0)
def twC (hpp hle hld : Nat → Int32) (kn p l : Int32) (j : Nat) : Bool := stl hld kn j && decide (hpp j = p) && decide (hle j = l)
def ovS (hpp ham hld : Nat → Int32) (kn p : Int32) : Nat → Int32
  | 0 => 0
  | n + 1 => if (stl hld kn n && decide (hpp n = p)) = true then ovS hpp ham hld kn p n + ham n else ovS hpp ham hld kn p n
theorem ovS_y {hpp ham hld : Nat → Int32} {kn p : Int32} {n : Nat} (h : (stl hld kn n && decide (hpp n = p)) = true) : ovS hpp ham hld kn p (n + 1) = ovS hpp ham hld kn p n + ham n := by
  show (if (stl hld kn n && decide (hpp n = p)) = true then _ else _) = _
  rw [if_pos h]
theorem ovS_n {hpp ham hld : Nat → Int32} {kn p : Int32} {n : Nat} (h : ¬ (stl hld kn n && decide (hpp n = p)) = true) : ovS hpp ham hld kn p (n + 1) = ovS hpp ham hld kn p n := by
  show (if (stl hld kn n && decide (hpp n = p)) = true then _ else _) = _
  rw [if_neg h]
def kdV (st : Bool) (u f lv : Int32) (tw : Bool) (ov wo : Int32) : Nat := if st then 1 else if f ≤ u then 2 else if 0 < lv then (if tw then 3 else 0) else (if wo < ov then 4 else 0)
theorem kdV_4 {st tw : Bool} {u f lv ov wo : Int32} : kdV st u f lv tw ov wo ≤ 4 := by
  unfold kdV
  split
  · omega
  · split
    · omega
    · split
      · split <;> omega
      · split <;> omega
def kdK (sc : Nat) (sp0 sp1 : Nat → Int32) (zC : Nat → Nat → Int32) (lb plv pwo phd : Nat → Int32) (hto : Nat → Nat) (hpp hle ham hhh hdd hld : Nat → Int32) (kn : Int32) (k : Nat) : Nat := kdV (stB sc sp0 sp1 zC (hpp k) (hle k) (hto k) (hdd k)) (unlI (hhh k) (phd (hpp k).toNatClampNeg)) (lb 4) (plv (hpp k).toNatClampNeg) (anyB (twC hpp hle hld kn (hpp k) (hle k)) k) (ovS hpp ham hld kn (hpp k) k + ham k) (pwo (hpp k).toNatClampNeg)
def hsV (lb : Nat → Int32) (kd : Nat) (x : Int32) : Int32 := if (if kd = 0 then 0 else lb (kd - 1)) = 2 then x / 2 else if (if kd = 0 then 0 else lb (kd - 1)) = 0 then x else 0
def stN (hld : Nat → Int32) (kn : Int32) : Nat → Nat
  | 0 => 0
  | n + 1 => if stl hld kn n = true then stN hld kn n + 1 else stN hld kn n
theorem stN_y {hld : Nat → Int32} {kn : Int32} {n : Nat} (h : stl hld kn n = true) : stN hld kn (n + 1) = stN hld kn n + 1 := by
  show (if stl hld kn n = true then _ else _) = _
  rw [if_pos h]
theorem stN_n {hld : Nat → Int32} {kn : Int32} {n : Nat} (h : ¬ stl hld kn n = true) : stN hld kn (n + 1) = stN hld kn n := by
  show (if stl hld kn n = true then _ else _) = _
  rw [if_neg h]
theorem stN_le {hld : Nat → Int32} {kn : Int32} : ∀ n, stN hld kn n ≤ n
  | 0 => Nat.le_refl 0
  | n + 1 => by
    have h := stN_le (hld := hld) (kn := kn) n
    by_cases q : stl hld kn n = true
    · rw [stN_y q]; omega
    · rw [stN_n q]; omega
/-- kinds, shares: of the settled ones -/
def stK (K : Nat → Nat) (hld : Nat → Int32) (kn : Int32) (sh k : Nat) : Int32 := if k < sh ∧ stl hld kn k = true then nI (K k) else -1
def stV (lb : Nat → Int32) (K : Nat → Nat) (hcp : Nat → Int32) (k : Nat) : Int32 := hsV lb (K k) (hcp k)
/-- what the house bears of a town's payments -/
def stS (hto : Nat → Nat) (V hld : Nat → Int32) (kn : Int32) (t : Nat) : Nat → Int64
  | 0 => 0
  | n + 1 => if stl hld kn n = true ∧ hto n = t then stS hto V hld kn t n + (V n).toInt64 else stS hto V hld kn t n
theorem stS_y {hto : Nat → Nat} {V hld : Nat → Int32} {kn : Int32} {t n : Nat} (h : stl hld kn n = true) (ht : hto n = t) : stS hto V hld kn t (n + 1) = stS hto V hld kn t n + (V n).toInt64 := by
  show (if stl hld kn n = true ∧ hto n = t then _ else _) = _
  rw [if_pos ⟨h, ht⟩]
theorem stS_n {hto : Nat → Nat} {V hld : Nat → Int32} {kn : Int32} {t n : Nat} (h : ¬ (stl hld kn n = true ∧ hto n = t)) : stS hto V hld kn t (n + 1) = stS hto V hld kn t n := by
  show (if stl hld kn n = true ∧ hto n = t then _ else _) = _
  rw [if_neg h]
def stD (hto : Nat → Nat) (V hld : Nat → Int32) (kn : Int32) (se : Nat → Int32) (sh t : Nat) : Int64 := stS hto V hld kn t sh - (se t).toInt64
def stlA (sh : Nat) (hld : Nat → Int32) (kn : Int32) : Int32 := if wi kn 0 3000 = 0 then -1 else nI (stN hld kn sh)
def stlU {α : Type} (kn : Int32) (f g : Nat → α) : Nat → α := if wi kn 0 3000 = 0 then f else g
/-- of what was shown: its paper is there; what wasn't paid has no letter -/
def skR (sh pc : Nat) (hpp hde hld : Nat → Int32) : Prop := ∀ k, k < sh → (∃ p, p < pc ∧ hpp k = nI p) ∧ (¬ hde k = 0 → hld k = -1)
def seR (e0 e1 : Nat → Int32) (e2 : Nat → Int64) (kd sv9 : Nat → Int32) (dU : Nat → Int64) : Prop := (∀ k, k < 200 → e0 k = kd k) ∧ (∀ k, k < 200 → ¬ kd k = -1 → e1 k = sv9 k) ∧ ∀ t, t < 12 → e2 t = dU t
theorem skR.p {sh pc : Nat} {hpp hde hld : Nat → Int32} (h : skR sh pc hpp hde hld) : skR sh (pc + 1) hpp hde hld := fun k hk => by
  obtain ⟨⟨p, hp, e⟩, h2⟩ := h k hk
  exact ⟨⟨p, by omega, e⟩, h2⟩
theorem skR.a {sh pc j : Nat} {hpp hde hld : Nat → Int32} {x d l : Int32} (h : skR sh pc hpp hde hld) (hj : j < pc) (ex : x = nI j) (hl : ¬ d = 0 → l = -1) : skR (sh + 1) pc (va_up hpp sh x) (va_up hde sh d) (va_up hld sh l) := fun k hk => by
  by_cases e : k = sh
  · rw [e, va_up_self, va_up_self, va_up_self]; exact ⟨⟨j, hj, ex⟩, hl⟩
  · rw [va_up_ne _ _ e, va_up_ne _ _ e, va_up_ne _ _ e]; exact h k (by omega)
theorem hsV_c {bf lb : Nat → Int32} {kd : Nat} {x : Int32} (h : ∀ j, j < 4 → bf j = lb j) (hk : kd ≤ 4) : hsV bf kd x = hsV lb kd x := by
  unfold hsV
  by_cases e : kd = 0
  · rw [if_pos e, if_pos e]
  · rw [if_neg e, if_neg e, h (kd - 1) (by omega)]
/-- the loop over what was shown: kinds, shares, sums up to k -/
def sgQ (K : Nat → Nat) (lb hcp hld : Nat → Int32) (hto : Nat → Nat) (kn : Int32) (k : Nat) (e0 e1 : Nat → Int32) (e2 : Nat → Int64) : Prop := (∀ j, j < 200 → e0 j = stK K hld kn k j) ∧ (∀ j, j < k → stl hld kn j = true → e1 j = stV lb K hcp j) ∧ ∀ t, t < 12 → e2 t = stS hto (stV lb K hcp) hld kn t k
theorem stK_k {K : Nat → Nat} {hld : Nat → Int32} {kn : Int32} {k j : Nat} (h : ¬ (j = k ∧ stl hld kn k = true)) : stK K hld kn (k + 1) j = stK K hld kn k j := by
  unfold stK
  by_cases q : j < k ∧ stl hld kn j = true
  · rw [if_pos q, if_pos ⟨by omega, q.2⟩]
  · rw [if_neg q, if_neg (fun z => by
      by_cases e : j = k
      · exact h ⟨e, e ▸ z.2⟩
      · exact q ⟨by omega, z.2⟩)]
theorem sgQ.n {K : Nat → Nat} {lb hcp hld : Nat → Int32} {hto : Nat → Nat} {kn : Int32} {k : Nat} {e0 e1 : Nat → Int32} {e2 : Nat → Int64} (h : sgQ K lb hcp hld hto kn k e0 e1 e2) (hs : ¬ stl hld kn k = true) : sgQ K lb hcp hld hto kn (k + 1) e0 e1 e2 := by
  refine ⟨fun j hj => ?_, fun j hj hst => ?_, fun t ht => ?_⟩
  · rw [stK_k (fun q => hs q.2)]; exact h.1 j hj
  · by_cases e : j = k
    · rw [e] at hst; exact absurd hst hs
    · exact h.2.1 j (by omega) hst
  · rw [stS_n (fun q => hs q.1)]; exact h.2.2 t ht
theorem sgQ.y {K : Nat → Nat} {lb hcp hld : Nat → Int32} {hto : Nat → Nat} {kn : Int32} {k : Nat} {e0 e1 : Nat → Int32} {e2 : Nat → Int64} (h : sgQ K lb hcp hld hto kn k e0 e1 e2) (hk : k < 200) (ht0 : hto k < 12) (hs : stl hld kn k = true) : sgQ K lb hcp hld hto kn (k + 1) (upd e0 (nI k).toNatClampNeg (nI (K k))) (upd e1 (nI k).toNatClampNeg (stV lb K hcp k)) (vp_updL e2 (nI (hto k)).toNatClampNeg (e2 (hto k) + (stV lb K hcp k).toInt64)) := by
  rw [nI_clamp (n := k) (by omega), nI_clamp (n := hto k) (by omega)]
  refine ⟨fun j hj => ?_, fun j hj hst => ?_, fun t ht => ?_⟩
  · by_cases e : j = k
    · rw [e, pk_us]; unfold stK; rw [if_pos ⟨by omega, hs⟩]
    · rw [pk_un e, stK_k (fun q => e q.1)]; exact h.1 j hj
  · by_cases e : j = k
    · rw [e, pk_us]
    · rw [pk_un e]; exact h.2.1 j (by omega) hst
  · by_cases e : t = hto k
    · rw [e, pk_uLs, stS_y hs rfl, h.2.2 _ ht0]
    · rw [pk_uLn e, stS_n (fun q => e q.2.symm)]; exact h.2.2 t ht
theorem sgQ.k {K : Nat → Nat} {lb hcp hld : Nat → Int32} {hto : Nat → Nat} {kn : Int32} {k : Nat} {e0 e1 : Nat → Int32} {e2 : Nat → Int64} (h : sgQ K lb hcp hld hto kn k e0 e1 e2) (hk : k ≤ 200) (hK : ∀ j, K j ≤ 4) : ∀ j, j < k → (e0 j = -1 ↔ ¬ stl hld kn j = true) := fun j hj => by
  rw [h.1 j (by omega)]
  unfold stK
  by_cases q : stl hld kn j = true
  · rw [if_pos ⟨hj, q⟩]
    have h4 := hK j
    exact ⟨fun z => absurd (nI_pos (n := K j) (by omega)) (fun y => y (by rw [z]; decide)), fun z => absurd q z⟩
  · rw [if_neg (fun z => q z.2)]; exact ⟨fun _ => q, fun _ => rfl⟩
def stdA (kd sv9 : Nat → Int32) (k w : Int32) : Int32 := if (if k < 0 ∨ 200 ≤ k then (0 : Int32) else if kd k.toNatClampNeg = -1 then 0 else 1) = 0 then -1 else if w = 0 then kd k.toNatClampNeg else if w = 1 then sv9 k.toNatClampNeg else -1
def dueA (dU : Nat → Int64) (t : Int32) : Int64 := if wi t 0 11 = 0 then 0 else dU t.toNatClampNeg
def lb3 (lb : Nat → Int32) : Prop := ∀ j, j < 4 → lb j = 0 ∨ lb j = 1 ∨ lb j = 2
theorem law0_3 : lb3 law0 := fun j hj => by
  match j, hj with
  | 0, _ => exact Or.inr (Or.inl rfl)
  | 1, _ => exact Or.inr (Or.inl rfl)
  | 2, _ => exact Or.inl rfl
  | 3, _ => exact Or.inr (Or.inr rfl)
  | j + 4, hj => exact absurd hj (by omega)
theorem clB_3 {B : Nat → Int32} {n a m : Nat} {b : Nat → Int32} (h : lb3 b) (h0 : clF B n a m = 0) : lb3 (clB B n a b) := by
  obtain ⟨hk, ht⟩ := clF_k h0
  unfold clB
  by_cases e : clK B n a = 4
  · rw [if_pos e]
    intro j hj
    rw [va_up_ne _ _ (show j ≠ 4 by omega)]; exact h j hj
  · rw [if_neg e]
    have hb : brF B n (clQ B n a) = 0 := by
      unfold clF at h0
      rw [if_neg (by omega), ht, if_neg Bool.false_ne_true, if_neg e] at h0
      exact h0
    have h3 : ¬ twK B n (clQ B n a) 5 = 3 := fun q => by
      unfold brF at hb
      rw [if_pos q] at hb
      omega
    have h4 : twK B n (clQ B n a) 5 ≤ 3 := twK_le (i := 5)
    have h5 : twR B n (clQ B n a) 5 = nI (twK B n (clQ B n a) 5) := twR_yes h3
    intro j hj
    by_cases q : j = clK B n a
    · rw [q, va_up_self, h5]
      have h6 : twK B n (clQ B n a) 5 = 0 ∨ twK B n (clQ B n a) 5 = 1 ∨ twK B n (clQ B n a) 5 = 2 := by omega
      rcases h6 with h6 | h6 | h6
      · rw [h6]; exact Or.inl rfl
      · rw [h6]; exact Or.inr (Or.inl rfl)
      · rw [h6]; exact Or.inr (Or.inr rfl)
    · rw [va_up_ne _ _ q]; exact h j hj
theorem lawG_3 {B : Nat → Int32} {n : Nat} : ∀ F a m b, lb3 b → lb3 (lawG B n F a m b).2
  | 0, _, _, _, h => h
  | F + 1, a, m, b, h => by
    by_cases c1 : clF B n a m = 0
    · by_cases c2 : nx B n (clA B n a) < n
      · by_cases c3 : B (nx B n (clA B n a)) = 59
        · rw [lawG_s c1 c2 c3]; exact lawG_3 F _ _ _ (clB_3 h c1)
        · rw [lawG_f c1 c2 c3]; exact h
      · rw [lawG_e c1 c2]; exact clB_3 h c1
    · rw [lawG_n c1]; exact h
theorem lawB_3 {lb B : Nat → Int32} {n : Nat} (h : lb3 lb) : lb3 (lawB lb B n) := by
  unfold lawB
  split
  · unfold lawT
    split
    · exact law0_3
    · split
      · exact lawG_3 6 _ _ _ law0_3
      · exact law0_3
  · exact h

