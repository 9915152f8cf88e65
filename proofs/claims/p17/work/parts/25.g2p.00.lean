/-- every TOWN's text beside the tables -/
def mtR (f29 f30 f31 f32 f33 f34 : Nat → Int32) (rt : Nat → Nat) (tT : Nat → Nat → Nat → Int32) : Prop := ∀ t, t < 12 → f29 t = nI (rt t) ∧ rt t ≤ 12 ∧ mgR f30 f31 f32 f33 f34 (12 * t) (rt t) (tT t)
theorem agR.congr {df cf nf sf uf df2 cf2 nf2 sf2 uf2 : Nat → Int32} {k : Nat} {T : Nat → Nat → Int32} (hk : k ≤ 12) (h : agR df cf nf sf uf k T) (h1 : ∀ j, j < 12 → df2 j = df j ∧ cf2 j = cf j) (h2 : ∀ j, j < 72 → nf2 j = nf j ∧ sf2 j = sf j ∧ uf2 j = uf j) : agR df2 cf2 nf2 sf2 uf2 k T := fun r hr => by
  obtain ⟨a1, a2, a3, u, a4, a5, a6⟩ := h r hr
  obtain ⟨b1, b2⟩ := h1 r (by omega)
  refine ⟨b1.trans a1, b2.trans a2, a3, u, a4, a5, fun c hc => ?_⟩
  obtain ⟨c1, c2, c3⟩ := h2 (r * 6 + c) (by omega)
  obtain ⟨d1, d2, d3, d4⟩ := a6 c hc
  exact ⟨c1.trans d1, c2.trans d2, c3.trans d3, d4⟩
theorem mtR.keep {f29 f30 f31 f32 f33 f34 g30 g31 g32 g33 g34 : Nat → Int32} {rt : Nat → Nat} {tT : Nat → Nat → Nat → Int32} (h : mtR f29 f30 f31 f32 f33 f34 rt tT) (h1 : ∀ j, j < 144 → g30 j = f30 j ∧ g31 j = f31 j) (h2 : ∀ j, j < 864 → g32 j = f32 j ∧ g33 j = f33 j ∧ g34 j = f34 j) : mtR f29 g30 g31 g32 g33 g34 rt tT := fun t ht => by
  obtain ⟨a1, a2, a3⟩ := h t ht
  exact ⟨a1, a2, agR.congr a2 a3 (fun j hj => h1 (12 * t + j) (by omega)) (fun j hj => h2 (6 * (12 * t) + j) (by omega))⟩
/-- the copy of a text to its TOWN t -/
def cpR (t r : Nat) (p30 p31 h30 h31 : Nat → Int32) : Prop := ∀ j, j < 156 → (12 * t ≤ j ∧ j < 12 * t + r → p30 j = h30 (144 + (j - 12 * t)) ∧ p31 j = h31 (144 + (j - 12 * t))) ∧ (j < 12 * t ∨ 12 * t + 12 ≤ j → p30 j = h30 j ∧ p31 j = h31 j)
theorem cpR.s {t r : Nat} {p30 p31 h30 h31 : Nat → Int32} {x y : Int32} (h : cpR t r p30 p31 h30 h31) (ht : t < 12) (hr : r < 12) (hx : x = h30 (144 + r)) (hy : y = h31 (144 + r)) : cpR t (r + 1) (upd p30 (nI (12 * t + r)).toNatClampNeg x) (upd p31 (nI (12 * t + r)).toNatClampNeg y) h30 h31 := fun j hj => by
  rw [nI_clamp (by omega)]
  obtain ⟨h1, h2⟩ := h j hj
  by_cases e : j = 12 * t + r
  · rw [e, pk_us, pk_us, hx, hy]
    exact ⟨fun _ => by rw [show 12 * t + r - 12 * t = r by omega]; exact ⟨rfl, rfl⟩, fun q => absurd q (by omega)⟩
  · rw [pk_un e, pk_un e]
    exact ⟨fun q => h1 (by omega), h2⟩
def cqR (t r c : Nat) (p h : Nat → Int32) : Prop := ∀ j, j < 936 → (72 * t ≤ j ∧ j < 72 * t + 6 * r + c → p j = h (864 + (j - 72 * t))) ∧ (j < 72 * t ∨ 72 * t + 72 ≤ j → p j = h j)
theorem cqR.s {t r c : Nat} {p h : Nat → Int32} {x : Int32} (H : cqR t r c p h) (ht : t < 12) (hr : r < 12) (hc : c < 6) (hx : x = h (864 + (6 * r + c))) : cqR t r (c + 1) (upd p (nI (6 * (12 * t + r) + c)).toNatClampNeg x) h := fun j hj => by
  rw [nI_clamp (by omega)]
  obtain ⟨h1, h2⟩ := H j hj
  by_cases e : j = 6 * (12 * t + r) + c
  · rw [e, pk_us, hx]
    exact ⟨fun _ => by rw [show 6 * (12 * t + r) + c - 72 * t = 6 * r + c by omega], fun q => absurd q (by omega)⟩
  · rw [pk_un e]
    exact ⟨fun q => h1 (by omega), h2⟩
theorem cqR.n {t r : Nat} {p h : Nat → Int32} (H : cqR t r 6 p h) : cqR t (r + 1) 0 p h := fun j hj => ⟨fun q => (H j hj).1 (by omega), (H j hj).2⟩
theorem cqR.z {t : Nat} {h : Nat → Int32} : cqR t 0 0 h h := fun j hj => ⟨fun q => absurd q (by omega), fun _ => rfl⟩
theorem mtR.set {f29 h30 h31 h32 h33 h34 p30 p31 p32 p33 p34 : Nat → Int32} {rt : Nat → Nat} {tT : Nat → Nat → Nat → Int32} {t k : Nat} {T : Nat → Nat → Int32} (h : mtR f29 h30 h31 h32 h33 h34 rt tT) (ht : t < 12) (hk : k ≤ 12) (hm : mgR h30 h31 h32 h33 h34 144 k T) (c1 : cpR t k p30 p31 h30 h31) (c2 : cqR t k 0 p32 h32) (c3 : cqR t k 0 p33 h33) (c4 : cqR t k 0 p34 h34) : mtR (upd f29 (nI t).toNatClampNeg (nI k)) p30 p31 p32 p33 p34 (va_up rt t k) (va_up tT t T) := fun s hs => by
  rw [nI_clamp (by omega)]
  by_cases e : s = t
  · rw [e, pk_us, va_up_self, va_up_self]
    refine ⟨rfl, hk, fun r hr => ?_⟩
    obtain ⟨a1, a2, a3, u, a4, a5, a6⟩ := hm r hr
    obtain ⟨b1, b2⟩ := (c1 (12 * t + r) (by omega)).1 (by omega)
    rw [show 12 * t + r - 12 * t = r by omega] at b1 b2
    refine ⟨b1.trans a1, b2.trans a2, a3, u, a4, a5, fun c hc => ?_⟩
    have d2 := (c2 (6 * (12 * t) + (r * 6 + c)) (by omega)).1 (by omega)
    have d3 := (c3 (6 * (12 * t) + (r * 6 + c)) (by omega)).1 (by omega)
    have d4 := (c4 (6 * (12 * t) + (r * 6 + c)) (by omega)).1 (by omega)
    rw [show 864 + (6 * (12 * t) + (r * 6 + c) - 72 * t) = 6 * 144 + (r * 6 + c) by omega] at d2 d3 d4
    obtain ⟨e1, e2, e3, e4⟩ := a6 c hc
    exact ⟨d2.trans e1, d3.trans e2, d4.trans e3, e4⟩
  · rw [pk_un e, va_up_ne _ _ e, va_up_ne _ _ e]
    obtain ⟨a1, a2, a3⟩ := h s hs
    refine ⟨a1, a2, agR.congr a2 a3 (fun j hj => ?_) (fun j hj => ?_)⟩
    · exact (c1 (12 * s + j) (by omega)).2 (by omega)
    · exact ⟨(c2 (6 * (12 * s) + j) (by omega)).2 (by omega), (c3 (6 * (12 * s) + j) (by omega)).2 (by omega), (c4 (6 * (12 * s) + j) (by omega)).2 (by omega)⟩
