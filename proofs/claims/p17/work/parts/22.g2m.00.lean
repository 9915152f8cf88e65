theorem Ct.mono {l : Launch} {D : va_G} {cy : Nat → ClassId} {sk sv : Nat → Nat} {y : MethodName} {ws : List Cond} {rm : Room} {av : List Value} {w : Wd} {post post' : Option Value → Wd → Prop} (h : Ct l D cy sk sv y ws rm av w post) (hi : ∀ v w1, post v w1 → post' v w1) : Ct l D cy sk sv y ws rm av w post' := by
  intro sz p e hl hf1 hf2 s m args below h1 h2 h3 h4
  obtain ⟨n, o, a1, a2, a3, ⟨⟨v, w1, e1, e2, e3⟩, e4⟩, e5⟩ := h sz p e hl hf1 hf2 s m args below h1 h2 h3 h4
  exact ⟨n, o, a1, a2, a3, ⟨⟨v, w1, e1, hi v w1 e2, e3⟩, e4⟩, e5⟩
theorem nI_np {n : Nat} (h : 0 < n) (hb : n < 2000) : ¬ nI n ≤ 0 := fun q => by
  have h1 := (nI_leI (a := n) (b := 0) (by omega) (by omega)).mp q
  omega
theorem nI_z {n : Nat} (hb : n < 2000) (q : nI n ≤ 0) : n = 0 := by
  have h1 := (nI_leI (a := n) (b := 0) (by omega) (by omega)).mp q
  omega
theorem nI_z0 {n : Nat} (hb : n < 2000) (q : nI n = 0) : n = 0 := (nI_eq (a := n) (b := 0) (by omega) (by omega)).mp q
theorem nI_nel {a b : Nat} (h : a ≠ b) (ha : a < 2 ^ 31) (hb : b < 2 ^ 31) : ¬ nI a = nI b := fun q => h ((nI_eq ha hb).mp q)
theorem nI_nz {n : Nat} (hb : n < 2 ^ 31) (q : ¬ nI n = 0) : 0 < n := Nat.pos_of_ne_zero (fun z => q (by rw [z]; rfl))
def cOK (f : Nat → Int32) : Prop := ∀ k, k < 156 → ∃ u, u ≤ 6 ∧ f k = nI u
theorem cOK.c {f : Nat → Int32} {r u : Nat} (h : cOK f) (hr : r < 156) (hu : u ≤ 6) : cOK (upd f (nI r).toNatClampNeg (nI u)) := fun k hk => by
  rw [nI_clamp (by omega)]
  by_cases e : k = r
  · rw [e, pk_us]; exact ⟨u, hu, rfl⟩
  · rw [pk_un e]; exact h k hk
def bOK (B M : Nat) (f : Nat → Int32) : Prop := ∀ k, k < B → ∃ u, u < M ∧ f k = nI u
theorem bOK.c {B M : Nat} {f : Nat → Int32} {r u : Nat} (h : bOK B M f) (hb : r < 2 ^ 31) (hu : u < M) : bOK B M (upd f (nI r).toNatClampNeg (nI u)) := fun k hk => by
  rw [nI_clamp (by omega)]
  by_cases e : k = r
  · rw [e, pk_us]; exact ⟨u, hu, rfl⟩
  · rw [pk_un e]; exact h k hk
theorem bOK.a {B M : Nat} {f : Nat → Int32} {u : Nat} (h : bOK B M f) (hb : B < 2 ^ 31) (hu : u < M) : bOK (B + 1) M (upd f (nI B).toNatClampNeg (nI u)) := fun k hk => by
  rw [nI_clamp (by omega)]
  by_cases e : k = B
  · rw [e, pk_us]; exact ⟨u, hu, rfl⟩
  · rw [pk_un e]; exact h k (by omega)
def sOK (f se : Nat → Int32) : Prop := ∀ t, t < 12 → f t = se t ∧ ∃ u, u ≤ 1000000000 ∧ se t = nI u
def lOK (pc : Nat) (f pl : Nat → Int32) : Prop := ∀ p, p < pc → f p = pl p ∧ ∃ u, u ≤ 20 ∧ pl p = nI u
theorem sOK.s {f se : Nat → Int32} {j : Nat} {x : Int32} (h : sOK f se) (hj : j < 12) (hx : ∃ u, u ≤ 1000000000 ∧ x = nI u) : sOK (upd f (nI j).toNatClampNeg x) (va_up se j x) := fun t ht => by
  rw [nI_clamp (by omega)]
  by_cases e : t = j
  · rw [e, pk_us, va_up_self]; exact ⟨rfl, hx⟩
  · rw [pk_un e, va_up_ne _ _ e]; exact h t ht
theorem lOK.a {pc : Nat} {f pl : Nat → Int32} {x : Int32} (h : lOK pc f pl) (hb : pc < 1000) (hx : ∃ u, u ≤ 20 ∧ x = nI u) : lOK (pc + 1) (upd f (nI pc).toNatClampNeg x) (va_up pl pc x) := fun t ht => by
  rw [nI_clamp (by omega)]
  by_cases e : t = pc
  · rw [e, pk_us, va_up_self]; exact ⟨rfl, hx⟩
  · rw [pk_un e, va_up_ne _ _ e]; exact h t (by omega)
theorem wi20 {n : Int32} (h : ¬ wi n 1 20 = 0) : ∃ u, u ≤ 20 ∧ n = nI u := by
  obtain ⟨h1, h2⟩ := wi_n h
  have h0 : ¬ n < 0 := fun q => h1 (Int32.lt_trans q (by decide))
  obtain ⟨j, hj, rfl⟩ := nI_of2 (M := 20) (n := 20) (by decide) h0 h2
  exact ⟨j, hj, rfl⟩
theorem wiM {n : Int32} (h : ¬ wi n 1 1000000 = 0) : ∃ u, 1 ≤ u ∧ u ≤ 1000000 ∧ n = nI u := by
  obtain ⟨h1, h2⟩ := wi_n h
  have h0 : ¬ n < 0 := fun q => h1 (Int32.lt_trans q (by decide))
  obtain ⟨j, hj, rfl⟩ := nI_of2 (M := 1000000) (n := 1000000) (by decide) h0 h2
  exact ⟨j, Nat.le_of_not_lt (fun q => h1 (nI_lt (b := 1) q (by decide))), hj, rfl⟩
theorem snd_iff {s c : Int32} {u : Nat} (e : s = nI u) (hu : u ≤ 1000000000) (hc : ¬ wi c 1 1000000 = 0) : s + c ≤ 1000000000 ↔ s ≤ 1000000000 - c := by
  obtain ⟨k, hk1, hk2, rfl⟩ := wiM hc
  rw [e, nI_add, show (1000000000 : Int32) = nI 1000000000 from rfl, pk_sub (a := 1000000000) (b := k) (by omega), nI_leI (by omega) (by omega), nI_leI (by omega) (by omega)]
  omega
theorem snd_b {s c : Int32} {u : Nat} (e : s = nI u) (hu : u ≤ 1000000000) (hc : ¬ wi c 1 1000000 = 0) (h : s + c ≤ 1000000000) : ∃ u, u ≤ 1000000000 ∧ s + c = nI u := by
  obtain ⟨k, hk1, hk2, rfl⟩ := wiM hc
  rw [e, nI_add, show (1000000000 : Int32) = nI 1000000000 from rfl, nI_leI (by omega) (by omega)] at h
  exact ⟨u + k, h, by rw [e, nI_add]⟩
theorem lf_wi {x lv : Int32} {u : Nat} (e : lv = nI u) (hu : u ≤ 20) : lf x lv = wi x 0 (lv - 1) := by
  unfold lf wi
  by_cases h0 : x < 0
  · rw [if_pos h0, if_pos h0]
  · rw [if_neg h0, if_neg h0]
    obtain ⟨j, hj, rfl⟩ := nI_of h0
    have e1 := pk_sub_toInt (a := u) (b := 1) (by omega) (by omega)
    by_cases h1 : lv ≤ nI j
    · have h2 : ¬ nI j ≤ lv - 1 := fun q => by
        rw [e, show (1 : Int32) = nI 1 from rfl, Int32.le_iff_toInt_le, e1, nI_toInt hj] at q
        rw [e, nI_leI (by omega) hj] at h1
        omega
      rw [if_pos h1, if_neg h2]
    · have h2 : nI j ≤ lv - 1 := by
        rw [e, show (1 : Int32) = nI 1 from rfl, Int32.le_iff_toInt_le, e1, nI_toInt hj]
        rw [e, nI_leI (by omega) hj] at h1
        omega
      rw [if_neg h1, if_pos h2]
theorem wi_o5 {n : Int32} (h : ¬ wi n 30 34 = 0) : ∃ j : Nat, j < 5 ∧ n = nI (j + 30) := by
  obtain ⟨h1, h2⟩ := wi_n h
  have h0 : ¬ n < 0 := fun q => h1 (Int32.lt_trans q (by decide))
  obtain ⟨j, hj, rfl⟩ := nI_of2 (M := 34) (n := 34) (by decide) h0 h2
  have h3 : 30 ≤ j := Nat.le_of_not_lt (fun q => h1 (nI_lt (b := 30) q (by decide)))
  exact ⟨j - 30, by omega, by rw [Nat.sub_add_cancel h3]⟩
def mc (x : Int32) : Int32 := if x = -1 then 268435456 else x
def zb (x : Int32) : Prop := x = -1 ∨ ∃ n, n ≤ 20000 ∧ x = nI n
theorem zb_mc {x : Int32} (h : zb x) (e : mc x = 268435456) : x = -1 := by
  rcases h with h | ⟨n, hn, rfl⟩
  · exact h
  · unfold mc at e
    by_cases q : nI n = -1
    · exact q
    · rw [if_neg q] at e
      have := (nI_eq (a := n) (b := 268435456) (by omega) (by omega)).mp e
      omega
theorem mc_ne {x : Int32} (e : ¬ mc x = 268435456) : mc x = x := by
  unfold mc at e ⊢
  by_cases q : x = -1
  · rw [if_pos q] at e; exact absurd rfl e
  · rw [if_neg q]
theorem td_far {td : Int32} (h : ∃ u, u ≤ 3000 ∧ td = nI u) : td < 268435456 := by
  obtain ⟨u, hu, rfl⟩ := h
  exact nI_lt (b := 268435456) (by omega) (by omega)
theorem hc_mc {x td : Int32} (h : ∃ u, u ≤ 3000 ∧ td = nI u) : td < mc x ↔ hcI x td = 0 := by
  unfold mc hcI
  by_cases q : x = -1
  · rw [if_pos q, if_pos q]; exact ⟨fun _ => rfl, fun _ => td_far h⟩
  · rw [if_neg q, if_neg q]
    by_cases z : td < x
    · rw [if_pos z]; exact ⟨fun _ => rfl, fun _ => z⟩
    · rw [if_neg z]; exact ⟨fun y => absurd y z, fun y => absurd y (by decide)⟩
theorem nI_nm1 {n : Nat} (h : n < 2 ^ 31) : ¬ nI n = -1 := fun q => absurd (nI_pos (n := n) h) (fun y => y (by rw [q]; decide))
theorem ld_zb {W : Nat → Nat → Nat} {td : Int32} {s t : Nat} (h : ∃ u, u ≤ 3000 ∧ td = nI u) (ht : t < 12) : zb (lday W td s t) := by
  obtain ⟨u, hu, rfl⟩ := h
  unfold lday
  rcases dst_b W s t ht with q | q
  · rw [if_pos q]; exact Or.inl rfl
  · rw [if_neg (by omega)]; exact Or.inr ⟨u + dst W s t, by omega, nI_add u (dst W s t)⟩
theorem ld_far {W : Nat → Nat → Nat} {td : Int32} {s t : Nat} (ht : t < 12) (e : nI (fq (dst W s t)) = 268435456) : (268435456 : Int32) = mc (lday W td s t) := by
  have hb := dst_b W s t ht
  have e2 := (nI_eq (a := fq (dst W s t)) (b := 268435456) (by unfold fq; split <;> omega) (by omega)).mp e
  have e3 : dst W s t = 1000000 := by
    unfold fq at e2
    by_cases q : dst W s t = 1000000
    · exact q
    · rw [if_neg q] at e2; omega
  unfold lday mc
  rw [if_pos e3, if_pos rfl]
theorem ld_fin {W : Nat → Nat → Nat} {td : Int32} {s t : Nat} (h : ∃ u, u ≤ 3000 ∧ td = nI u) (ht : t < 12) (e : ¬ nI (fq (dst W s t)) = 268435456) : td + nI (fq (dst W s t)) = mc (lday W td s t) := by
  obtain ⟨u, hu, rfl⟩ := h
  have hb := dst_b W s t ht
  have e3 : ¬ dst W s t = 1000000 := fun q => e (by unfold fq; rw [if_pos q]; rfl)
  have e4 : fq (dst W s t) = dst W s t := if_neg e3
  unfold lday mc
  rw [e4, if_neg e3, nI_add, if_neg (nI_nm1 (by omega))]
/-- the advices on both sides -/
def aOKr (ac : Nat) (f18 f19 f20 av1 av2 av3 : Nat → Int32) : Prop := (∀ k, k < ac → f18 k = av1 k ∧ f20 k = av3 k ∧ (av3 k = 0 → f19 k = mc (av2 k)) ∧ zb (av2 k) ∧ (¬ av3 k = 0 → av2 k = -1)) ∧ ∀ k, ac ≤ k → k < 60 → f20 k = 0
theorem aOKr.a {ac : Nat} {f18 f19 f20 av1 av2 av3 : Nat → Int32} {t v d : Int32} (h : aOKr ac f18 f19 f20 av1 av2 av3) (hac : ac < 60) (hv : v = mc d) (hz : zb d) : aOKr (ac + 1) (upd f18 (nI ac).toNatClampNeg t) (upd f19 (nI ac).toNatClampNeg v) f20 (va_up av1 ac t) (va_up av2 ac d) (va_up av3 ac 0) := by
  rw [nI_clamp (by omega)]
  refine ⟨fun k hk => ?_, fun k h1 h2 => h.2 k (by omega) h2⟩
  by_cases e : k = ac
  · rw [e, pk_us, pk_us, va_up_self, va_up_self, va_up_self]
    exact ⟨rfl, h.2 ac (Nat.le_refl _) hac, fun _ => hv, hz, fun q => absurd rfl q⟩
  · rw [pk_un e, pk_un e, va_up_ne _ _ e, va_up_ne _ _ e, va_up_ne _ _ e]; exact h.1 k (by omega)
theorem aOKr.l {ac k0 : Nat} {f18 f19 f20 av1 av2 av3 : Nat → Int32} (h : aOKr ac f18 f19 f20 av1 av2 av3) (hk0 : k0 < ac) (hac : ac ≤ 60) : aOKr ac f18 f19 (upd f20 (nI k0).toNatClampNeg (vp_nar .boolean 1)) av1 (va_up av2 k0 (-1)) (va_up av3 k0 1) := by
  rw [nI_clamp (by omega)]
  refine ⟨fun k hk => ?_, fun k h1 h2 => ?_⟩
  · by_cases e : k = k0
    · rw [e, pk_us, va_up_self, va_up_self]
      exact ⟨(h.1 k0 hk0).1, rfl, fun q => absurd q (by decide), Or.inl rfl, fun _ => rfl⟩
    · rw [pk_un e, va_up_ne _ _ e, va_up_ne _ _ e]; exact h.1 k hk
  · rw [pk_un (by omega)]; exact h.2 k h1 h2
def zOKm (sc : Nat) (fs zC : Nat → Nat → Int32) : Prop := ∀ k, k < sc → ∀ t, t < 12 → fs k t = mc (zC k t) ∧ zb (zC k t)
theorem zOKm.a {sc : Nat} {fs zC : Nat → Nat → Int32} {g v : Nat → Int32} (h : zOKm sc fs zC) (hg : ∀ t, t < 12 → g t = mc (v t) ∧ zb (v t)) : zOKm (sc + 1) (va_up fs sc g) (va_up zC sc v) := fun k hk t ht => by
  by_cases e : k = sc
  · rw [e, va_up_self, va_up_self]; exact hg t ht
  · rw [va_up_ne _ _ e, va_up_ne _ _ e]; exact h k (by omega) t ht
theorem ck_b {td d : Int32} (h : ∃ u, u ≤ 3000 ∧ td = nI u) (c : ¬ wi d td 3000 = 0) : ∃ u, u ≤ 3000 ∧ d = nI u := by
  obtain ⟨u, hu, rfl⟩ := h
  obtain ⟨h1, h2⟩ := wi_n c
  have h0 : ¬ d < 0 := fun q => h1 (Int32.lt_of_lt_of_le q (nI_le (a := 0) (by omega) (by omega)))
  obtain ⟨j, hj, rfl⟩ := nI_of2 (M := 3000) (n := 3000) (by decide) h0 h2
  exact ⟨j, hj, rfl⟩
theorem tgT {tg : Nat → Nat} {a t : Nat} (h : tg a = t) (ht : 10000 ≤ t) : (fun b => 10000 ≤ tg b) a := by show 10000 ≤ tg a; rw [h]; exact ht
def eqN (n : Nat) (f g : Nat → Int32) : Prop := ∀ k, k < n → f k = g k
theorem eqN.a {n : Nat} {f g : Nat → Int32} {x : Int32} (h : eqN n f g) (hb : n < 1000) : eqN (n + 1) (upd f (nI n).toNatClampNeg x) (va_up g n x) := fun k hk => by
  rw [nI_clamp (by omega)]
  by_cases e : k = n
  · rw [e, pk_us, va_up_self]
  · rw [pk_un e, va_up_ne _ _ e]; exact h k (by omega)
theorem eqN.u {n j : Nat} {f g : Nat → Int32} {x : Int32} (h : eqN n f g) (hb : j < 1000) : eqN n (upd f (nI j).toNatClampNeg x) (va_up g j x) := fun k hk => by
  rw [nI_clamp (by omega)]
  by_cases e : k = j
  · rw [e, pk_us, va_up_self]
  · rw [pk_un e, va_up_ne _ _ e]; exact h k hk
/-- the papers on both sides -/
def ppR (pc : Nat) (f9 f10 f11 f12 f13 f14 plv pwo phd pdy pgd pno ptp : Nat → Int32) : Prop := (∀ p, p < pc → f9 p = pwo p ∧ f10 p = phd p ∧ f11 p = pdy p ∧ f12 p = pgd p ∧ f13 p = pno p ∧ f14 p = ptp p ∧ (¬ plv p = 0 → pno p = 0)) ∧ ∀ p, pc ≤ p → p < 30 → f13 p = 0 ∧ f14 p = 0
theorem ppR.a {pc : Nat} {f9 f10 f11 f12 f13 f14 plv pwo phd pdy pgd pno ptp : Nat → Int32} {l x h d g : Int32} (H : ppR pc f9 f10 f11 f12 f13 f14 plv pwo phd pdy pgd pno ptp) (hb : pc < 30) : ppR (pc + 1) (upd f9 (nI pc).toNatClampNeg x) (upd f10 (nI pc).toNatClampNeg h) (upd f11 (nI pc).toNatClampNeg d) (upd f12 (nI pc).toNatClampNeg g) f13 f14 (va_up plv pc l) (va_up pwo pc x) (va_up phd pc h) (va_up pdy pc d) (va_up pgd pc g) (va_up pno pc 0) (va_up ptp pc 0) := by
  rw [nI_clamp (by omega)]
  refine ⟨fun p hp => ?_, fun p h1 h2 => H.2 p (by omega) h2⟩
  by_cases e : p = pc
  · rw [e, pk_us, pk_us, pk_us, pk_us, va_up_self, va_up_self, va_up_self, va_up_self, va_up_self, va_up_self]
    obtain ⟨z1, z2⟩ := H.2 pc (Nat.le_refl _) hb
    exact ⟨rfl, rfl, rfl, rfl, z1, z2, fun _ => rfl⟩
  · rw [pk_un e, pk_un e, pk_un e, pk_un e, va_up_ne _ _ e, va_up_ne _ _ e, va_up_ne _ _ e, va_up_ne _ _ e, va_up_ne _ _ e, va_up_ne _ _ e, va_up_ne _ _ e]
    exact H.1 p (by omega)
theorem ppR.p {pc j : Nat} {f9 f10 f11 f12 f13 f14 plv pwo phd pdy pgd pno ptp : Nat → Int32} {x y : Int32} (H : ppR pc f9 f10 f11 f12 f13 f14 plv pwo phd pdy pgd pno ptp) (hj : j < pc) (hb : pc ≤ 30) (hx : ¬ plv j = 0 → x = 0) : ppR pc f9 f10 f11 f12 (upd f13 (nI j).toNatClampNeg x) (upd f14 (nI j).toNatClampNeg y) plv pwo phd pdy pgd (va_up pno j x) (va_up ptp j y) := by
  rw [nI_clamp (by omega)]
  refine ⟨fun p hp => ?_, fun p h1 h2 => by rw [pk_un (show p ≠ j by omega), pk_un (show p ≠ j by omega)]; exact H.2 p h1 h2⟩
  by_cases e : p = j
  · rw [e, pk_us, pk_us, va_up_self, va_up_self]
    obtain ⟨a1, a2, a3, a4, a5, a6, a7⟩ := H.1 j hj
    exact ⟨a1, a2, a3, a4, rfl, rfl, hx⟩
  · rw [pk_un e, pk_un e, va_up_ne _ _ e, va_up_ne _ _ e]; exact H.1 p hp
/-- what was shown, on both sides -/
def shR (sh : Nat) (f39 f40 f41 f42 f43 f44 f45 f46 f47 : Nat → Int32) (f48 : Nat → Int64) (hto : Nat → Nat) (hpp hle ham hhh hdd hru hde hcp hld : Nat → Int32) : Prop := ∀ k, k < sh → f39 k = nI (hto k) ∧ f40 k = hpp k ∧ f41 k = hle k ∧ f42 k = ham k ∧ f43 k = hhh k ∧ f44 k = hde k ∧ f45 k = hru k ∧ f46 k = hdd k ∧ f47 k = mc (hld k) ∧ zb (hld k) ∧ hcp k = (f48 k).toInt32
theorem shR.a {sh t : Nat} {f39 f40 f41 f42 f43 f44 f45 f46 f47 : Nat → Int32} {f48 : Nat → Int64} {hto : Nat → Nat} {hpp hle ham hhh hdd hru hde hcp hld : Nat → Int32} {p l a h d e r g m y : Int32} {c : Int64} (H : shR sh f39 f40 f41 f42 f43 f44 f45 f46 f47 f48 hto hpp hle ham hhh hdd hru hde hcp hld) (hb : sh < 200) (hg : g = mc m) (hz : zb m) (hc : y = c.toInt32) : shR (sh + 1) (upd f39 (nI sh).toNatClampNeg (nI t)) (upd f40 (nI sh).toNatClampNeg p) (upd f41 (nI sh).toNatClampNeg l) (upd f42 (nI sh).toNatClampNeg a) (upd f43 (nI sh).toNatClampNeg h) (upd f44 (nI sh).toNatClampNeg e) (upd f45 (nI sh).toNatClampNeg r) (upd f46 (nI sh).toNatClampNeg d) (upd f47 (nI sh).toNatClampNeg g) (vp_updL f48 (nI sh).toNatClampNeg c) (va_up hto sh t) (va_up hpp sh p) (va_up hle sh l) (va_up ham sh a) (va_up hhh sh h) (va_up hdd sh d) (va_up hru sh r) (va_up hde sh e) (va_up hcp sh y) (va_up hld sh m) := fun k hk => by
  rw [nI_clamp (by omega)]
  by_cases q : k = sh
  · rw [q, pk_us, pk_us, pk_us, pk_us, pk_us, pk_us, pk_us, pk_us, pk_us, pk_uLs, va_up_self, va_up_self, va_up_self, va_up_self, va_up_self, va_up_self, va_up_self, va_up_self, va_up_self, va_up_self]
    exact ⟨rfl, rfl, rfl, rfl, rfl, rfl, rfl, rfl, hg, hz, hc⟩
  · rw [pk_un q, pk_un q, pk_un q, pk_un q, pk_un q, pk_un q, pk_un q, pk_un q, pk_un q, pk_uLn q, va_up_ne _ _ q, va_up_ne _ _ q, va_up_ne _ _ q, va_up_ne _ _ q, va_up_ne _ _ q, va_up_ne _ _ q, va_up_ne _ _ q, va_up_ne _ _ q, va_up_ne _ _ q, va_up_ne _ _ q]
    exact H k (by omega)

def mwOK (f : Nat → Nat → Int32) (M : Nat → Nat → Nat) : Prop := ∀ a b, a < 12 → b < 12 → f a b = nI (mq (M a b))
theorem bs_n {gd : Nat → Int32} {M : Nat → Nat} {j x : Nat} (h : ∀ z, z < 12 → gd z = nI (M z)) (hl : M j ≤ x) : ∀ z, z < 12 → gd z = nI (if z = j then min (M j) x else M z) := fun z hz => by
  by_cases e : z = j
  · rw [if_pos e, Nat.min_eq_left hl, e]; exact h j (e ▸ hz)
  · rw [if_neg e]; exact h z hz
theorem bs_y {gd : Nat → Int32} {M : Nat → Nat} {j x : Nat} (h : ∀ z, z < 12 → gd z = nI (M z)) (hj : j < 12) (hl : x ≤ M j) : ∀ z, z < 12 → upd gd (nI j).toNatClampNeg (nI x) z = nI (if z = j then min (M j) x else M z) := fun z hz => by
  rw [nI_clamp (by omega)]
  by_cases e : z = j
  · rw [e, pk_us, if_pos rfl, Nat.min_eq_right hl]
  · rw [pk_un e, if_neg e]; exact h z hz
theorem mwOK.up {f : Nat → Nat → Int32} {P : Nat → Nat → Nat} {i j n : Nat} (h : mwOK f P) (hi : i < 12) (hj : j < 12) (hij : i ≠ j) (hn : n < 1000) : mwOK (va_up (va_up f i (upd (f i) j (nI n))) j (upd (f j) i (nI n))) (up2 P i j n) := fun a b ha hb => by
  have hc : mq n = n := if_pos hn
  unfold up2
  by_cases e1 : a = j
  · rw [e1, va_up_self]
    by_cases e2 : b = i
    · rw [e2, pk_us, if_pos (Or.inr ⟨rfl, rfl⟩), hc]
    · rw [pk_un e2, if_neg (by omega)]; exact h j b hj hb
  · rw [va_up_ne _ _ e1]
    by_cases e2 : a = i
    · rw [e2, va_up_self]
      by_cases e3 : b = j
      · rw [e3, pk_us, if_pos (Or.inl ⟨rfl, rfl⟩), hc]
      · rw [pk_un e3, if_neg (by omega)]; exact h i b hi hb
    · rw [va_up_ne _ _ e2, if_neg (by omega)]; exact h a b ha hb
set_option maxHeartbeats 4000000 in
set_option maxRecDepth 100000 in
theorem m_sends (l : Launch) (D : va_G) (cy : Nat → ClassId) (sk sv : Nat → Nat) (w : Wd) (tg : Nat → Nat) (y m2 m3 m4 m5 m6 m8 m9 m10 m11 m12 m13 m14 m17 m18 m19 m20 m21 m22 m23 m24 m29 m30 m31 m32 m33 m34 m35 m36 m37 m39 m40 m41 m42 m43 m44 m45 m46 m47 m48 m49 m51 m52 m53 m54 m56 m57 m58 m59 pc ac sc ln sh gf : Nat) (v0 td v26 v27 v28 v50 : Int32) (f6 : Nat → Int32) (qp : Nat → Option Nat) (pr : Nat → Nat) (fp : Nat → Nat → Int32) (qw : Nat → Option Nat) (wr : Nat → Nat) (fw : Nat → Nat → Int32) (s0 : Nat) (u : Int32) (Pm Wm : Nat → Nat → Nat) (c90 : wd_at w y (.inr (11, [.int v0, .int td, .ref m2, .ref m3, .ref m4, .ref m5, .ref m6, .int (nI pc), .ref m8, .ref m9, .ref m10, .ref m11, .ref m12, .ref m13, .ref m14, .int (nI ac), .int (nI sc), .ref m17, .ref m18, .ref m19, .ref m20, .ref m21, .ref m22, .ref m23, .ref m24, .int (nI ln), .int v26, .int v27, .int v28, .ref m29, .ref m30, .ref m31, .ref m32, .ref m33, .ref m34, .ref m35, .ref m36, .ref m37, .int (nI sh), .ref m39, .ref m40, .ref m41, .ref m42, .ref m43, .ref m44, .ref m45, .ref m46, .ref m47, .ref m48, .ref m49, .int v50, .ref m51, .ref m52, .ref m53, .ref m54, .int (nI gf), .ref m56, .ref m57, .ref m58, .ref m59]))) (c91 : wd_at w m6 (.inl (cy 2, 12, .inl f6))) (c92 : wd_at w m2 (.inl (cy 10, 12, .inr (.inr (.inr (.inr qp)))))) (c93 : wd_at w m3 (.inl (cy 10, 12, .inr (.inr (.inr (.inr qw)))))) (hFPR : ∀ k9, k9 < 12 → qp k9 = some (pr k9) ∧ wd_at w (pr k9) (.inl (cy 2, 12, .inl (fp k9))) ∧ tg (pr k9) = 11000 + k9) (hFWR : ∀ k9, k9 < 12 → qw k9 = some (wr k9) ∧ wd_at w (wr k9) (.inl (cy 2, 12, .inl (fw k9))) ∧ tg (wr k9) = 12000 + k9) (S : Nat → Prop) (s90 : S m6) (ty : tg y = 10000) (tm6 : tg m6 = 10106) (tm2 : tg m2 = 10102) (tm3 : tg m3 = 10103) (hs0 : s0 < 12) (hmp : mwOK fp Pm) (hmw : mwOK fw Wm) : Ct l D cy sk sv yX11_sends wsX11_sends ({ frames := 0, cells := 0, slots := 0, locals := 0 }) [.ref y, .int (nI s0), .int u] w (fun v w1 => ∃ (g6 : Nat → Int32), v = none ∧ (∀ t, t < 12 → g6 t = nI (fq (dst (nws u Pm Wm) s0 t))) ∧ wd_kp S w w1 ∧ wd_at w1 m6 (.inl (cy 2, 12, .inl g6))) := by
  refine Ct.by (cc := cX11_sends) (maxL := 7) (ret := none) (by decide +kernel) rfl (Nat.le_of_ble_eq_true rfl) ?_
  intro p e s m args below meth c A Q F hnm K ls hl
  have F : wd_Fx p s m args meth c cX11_sends 7 wsX11_sends RX11 D cy sk sv A := F
  have hl : lv_has ls 7 [(0, .ref y), (1, .int (nI s0)), (2, .int u)] := hl
  have hx := F.1.1
  have hb := F.1.2.1
  have hown := F.1.2.2.2.1
  have hts := F.1.2.2.2.2
  intro H locs hP hD hS
  have kp0 : wd_kp S w w := wd_kp.rf
  refine lv_iconst (v := 0) hx hb dX11_sends_0 (by decide) ?_
  refine lv_istore_n (lv' := [(3, .int 0), (0, .ref y), (1, .int (nI s0)), (2, .int u)]) hx hb dX11_sends_1 rfl hl (by decide) rfl (fun ls hl => ?_)
  have lp2 : ∀ (N : Nat) (j : Nat) (ga : Nat → Int32) (w1 : Wd), (j + N = 12) → (∀ z, z < j → ga z = nI (if z = s0 then 0 else 268435456)) → (wd_at w1 y (.inr (11, [.int v0, .int td, .ref m2, .ref m3, .ref m4, .ref m5, .ref m6, .int (nI pc), .ref m8, .ref m9, .ref m10, .ref m11, .ref m12, .ref m13, .ref m14, .int (nI ac), .int (nI sc), .ref m17, .ref m18, .ref m19, .ref m20, .ref m21, .ref m22, .ref m23, .ref m24, .int (nI ln), .int v26, .int v27, .int v28, .ref m29, .ref m30, .ref m31, .ref m32, .ref m33, .ref m34, .ref m35, .ref m36, .ref m37, .int (nI sh), .ref m39, .ref m40, .ref m41, .ref m42, .ref m43, .ref m44, .ref m45, .ref m46, .ref m47, .ref m48, .ref m49, .int v50, .ref m51, .ref m52, .ref m53, .ref m54, .int (nI gf), .ref m56, .ref m57, .ref m58, .ref m59]))) → (wd_at w1 m6 (.inl (cy 2, 12, .inl ga))) → (wd_at w1 m2 (.inl (cy 10, 12, .inr (.inr (.inr (.inr qp)))))) → (wd_at w1 m3 (.inl (cy 10, 12, .inr (.inr (.inr (.inr qw)))))) → (∀ k9, k9 < 12 → qp k9 = some (pr k9) ∧ wd_at w1 (pr k9) (.inl (cy 2, 12, .inl (fp k9))) ∧ tg (pr k9) = 11000 + k9) → (∀ k9, k9 < 12 → qw k9 = some (wr k9) ∧ wd_at w1 (wr k9) (.inl (cy 2, 12, .inl (fw k9))) ∧ tg (wr k9) = 12000 + k9) → (wd_kp S w w1) → ∀ (ls : Array Slot), lv_has ls 7 [(0, .ref y), (1, .int (nI s0)), (2, .int u), (3, .int (nI j))] → Wv p l e ({ frames := 0, cells := 0, slots := 0, locals := 0 }) s m args below meth c D A (0) (0) Q w1 (F0 m 2 ls []) := by
    intro N
    induction N with
    | zero =>
      intro j ga w1 hN2 hga k2 k3 k4 k5 fm6 fm7 kp8 ls hl H locs hP hD hS
      refine lv_iload_n hx hb dX11_sends_2 rfl (lv_at hl 3 rfl) ?_
      refine lv_bipush (v := 12) hx hb dX11_sends_3 (by decide) ?_
      refine lv_icmp_ge (tgt := 31) hx hb dX11_sends_5 (by decide) (fun c_9 => ?_) (fun c_9 => absurd (nI_le (a := 12) (b := j) (by omega) (by omega)) c_9)
      refine lv_iconst (v := 0) hx hb dX11_sends_31 (by decide) ?_
      refine lv_istore_n (lv' := [(3, .int 0), (0, .ref y), (1, .int (nI s0)), (2, .int u)]) hx hb dX11_sends_32 rfl hl (by decide) rfl (fun ls hl => ?_)
      have lp33 : ∀ (N : Nat) (k : Nat) (gb : Nat → Int32) (MM : Nat → Nat) (w10 : Wd), (k + N = 12) → (∀ z, z < 12 → gb z = nI (MM z)) → (bfI (nws u Pm Wm) s0 k 0 0 MM) → (wd_at w10 y (.inr (11, [.int v0, .int td, .ref m2, .ref m3, .ref m4, .ref m5, .ref m6, .int (nI pc), .ref m8, .ref m9, .ref m10, .ref m11, .ref m12, .ref m13, .ref m14, .int (nI ac), .int (nI sc), .ref m17, .ref m18, .ref m19, .ref m20, .ref m21, .ref m22, .ref m23, .ref m24, .int (nI ln), .int v26, .int v27, .int v28, .ref m29, .ref m30, .ref m31, .ref m32, .ref m33, .ref m34, .ref m35, .ref m36, .ref m37, .int (nI sh), .ref m39, .ref m40, .ref m41, .ref m42, .ref m43, .ref m44, .ref m45, .ref m46, .ref m47, .ref m48, .ref m49, .int v50, .ref m51, .ref m52, .ref m53, .ref m54, .int (nI gf), .ref m56, .ref m57, .ref m58, .ref m59]))) → (wd_at w10 m6 (.inl (cy 2, 12, .inl gb))) → (wd_at w10 m2 (.inl (cy 10, 12, .inr (.inr (.inr (.inr qp)))))) → (wd_at w10 m3 (.inl (cy 10, 12, .inr (.inr (.inr (.inr qw)))))) → (∀ k9, k9 < 12 → qp k9 = some (pr k9) ∧ wd_at w10 (pr k9) (.inl (cy 2, 12, .inl (fp k9))) ∧ tg (pr k9) = 11000 + k9) → (∀ k9, k9 < 12 → qw k9 = some (wr k9) ∧ wd_at w10 (wr k9) (.inl (cy 2, 12, .inl (fw k9))) ∧ tg (wr k9) = 12000 + k9) → (wd_kp S w w10) → ∀ (ls : Array Slot), lv_has ls 7 [(0, .ref y), (1, .int (nI s0)), (2, .int u), (3, .int (nI k))] → Wv p l e ({ frames := 0, cells := 0, slots := 0, locals := 0 }) s m args below meth c D A (0) (0) Q w10 (F0 m 33 ls []) := by
        intro N
        induction N with
        | zero =>
          intro k gb MM w10 hN33 hgb hbf k11 k12 k13 k14 fm15 fm16 kp17 ls hl H locs hP hD hS
          refine lv_iload_n hx hb dX11_sends_33 rfl (lv_at hl 3 rfl) ?_
          refine lv_bipush (v := 12) hx hb dX11_sends_34 (by decide) ?_
          refine lv_icmp_ge (tgt := 166) hx hb dX11_sends_36 (by decide) (fun c_18 => ?_) (fun c_18 => absurd (nI_le (a := 12) (b := k) (by omega) (by omega)) c_18)
          exact y_vr K hP hD hS (Nat.le_of_ble_eq_true rfl) (Nat.le_of_ble_eq_true rfl) rfl dX11_sends_166 (⟨gb, rfl, fun t ht => by rw [hgb t ht, dst_m (W := nws u Pm Wm) (s := s0) (M := MM) (bfI.fin (by have e9 : k = 12 := (by omega); rw [← e9]; exact hbf)) t ht], kp17, k12⟩)
        | succ N ih33 =>
          intro k gb MM w10 hN33 hgb hbf k11 k12 k13 k14 fm15 fm16 kp17 ls hl H locs hP hD hS
          refine lv_iload_n hx hb dX11_sends_33 rfl (lv_at hl 3 rfl) ?_
          refine lv_bipush (v := 12) hx hb dX11_sends_34 (by decide) ?_
          refine lv_icmp_ge (tgt := 166) hx hb dX11_sends_36 (by decide) (fun c_19 => absurd c_19 (nI_ge (a := k) (b := 12) (by omega) (by omega))) (fun c_19 => ?_)
          refine lv_iconst (v := 0) hx hb dX11_sends_39 (by decide) ?_
          refine lv_istore (lv' := [(4, .int 0), (0, .ref y), (1, .int (nI s0)), (2, .int u), (3, .int (nI k))]) hx hb dX11_sends_40 hl (by decide) rfl (fun ls hl => ?_)
          have lp42 : ∀ (N : Nat) (i : Nat) (gc : Nat → Int32) (M2 : Nat → Nat) (w20 : Wd), (i + N = 12) → (∀ z, z < 12 → gc z = nI (M2 z)) → (bfI (nws u Pm Wm) s0 k i 0 M2) → (wd_at w20 y (.inr (11, [.int v0, .int td, .ref m2, .ref m3, .ref m4, .ref m5, .ref m6, .int (nI pc), .ref m8, .ref m9, .ref m10, .ref m11, .ref m12, .ref m13, .ref m14, .int (nI ac), .int (nI sc), .ref m17, .ref m18, .ref m19, .ref m20, .ref m21, .ref m22, .ref m23, .ref m24, .int (nI ln), .int v26, .int v27, .int v28, .ref m29, .ref m30, .ref m31, .ref m32, .ref m33, .ref m34, .ref m35, .ref m36, .ref m37, .int (nI sh), .ref m39, .ref m40, .ref m41, .ref m42, .ref m43, .ref m44, .ref m45, .ref m46, .ref m47, .ref m48, .ref m49, .int v50, .ref m51, .ref m52, .ref m53, .ref m54, .int (nI gf), .ref m56, .ref m57, .ref m58, .ref m59]))) → (wd_at w20 m6 (.inl (cy 2, 12, .inl gc))) → (wd_at w20 m2 (.inl (cy 10, 12, .inr (.inr (.inr (.inr qp)))))) → (wd_at w20 m3 (.inl (cy 10, 12, .inr (.inr (.inr (.inr qw)))))) → (∀ k9, k9 < 12 → qp k9 = some (pr k9) ∧ wd_at w20 (pr k9) (.inl (cy 2, 12, .inl (fp k9))) ∧ tg (pr k9) = 11000 + k9) → (∀ k9, k9 < 12 → qw k9 = some (wr k9) ∧ wd_at w20 (wr k9) (.inl (cy 2, 12, .inl (fw k9))) ∧ tg (wr k9) = 12000 + k9) → (wd_kp S w w20) → ∀ (ls : Array Slot), lv_has ls 7 [(0, .ref y), (1, .int (nI s0)), (2, .int u), (3, .int (nI k)), (4, .int (nI i))] → Wv p l e ({ frames := 0, cells := 0, slots := 0, locals := 0 }) s m args below meth c D A (0) (0) Q w20 (F0 m 42 ls []) := by
            intro N
            induction N with
            | zero =>
              intro i gc M2 w20 hN42 hgc hb2 k21 k22 k23 k24 fm25 fm26 kp27 ls hl H locs hP hD hS
              refine lv_iload hx hb dX11_sends_42 (lv_at hl 4 rfl) ?_
              refine lv_bipush (v := 12) hx hb dX11_sends_44 (by decide) ?_
              refine lv_icmp_ge (tgt := 160) hx hb dX11_sends_46 (by decide) (fun c_28 => ?_) (fun c_28 => absurd (nI_le (a := 12) (b := i) (by omega) (by omega)) c_28)
              refine lv_iinc (v := nI (k + 1)) (lv' := [(3, .int (nI (k + 1))), (0, .ref y), (1, .int (nI s0)), (2, .int u), (4, .int (nI i))]) hx hb dX11_sends_160 hl (k := 3) rfl (nI_1 k) (by decide) rfl (fun ls hl => ?_)
              refine lv_goto (tgt := 33) hx hb dX11_sends_163 (by decide) ?_
              exact ih33 (k + 1) gc M2 w20 (by omega) hgc (bfI.round (by have e9 : i = 12 := (by omega); rw [← e9]; exact hb2)) k21 k22 k23 k24 fm25 fm26 kp27 ls (lv_sub hl [1, 2, 3, 0] rfl) H locs hP hD hS
            | succ N ih42 =>
              intro i gc M2 w20 hN42 hgc hb2 k21 k22 k23 k24 fm25 fm26 kp27 ls hl H locs hP hD hS
              refine lv_iload hx hb dX11_sends_42 (lv_at hl 4 rfl) ?_
              refine lv_bipush (v := 12) hx hb dX11_sends_44 (by decide) ?_
              refine lv_icmp_ge (tgt := 160) hx hb dX11_sends_46 (by decide) (fun c_29 => absurd c_29 (nI_ge (a := i) (b := 12) (by omega) (by omega))) (fun c_29 => ?_)
              refine lv_iconst (v := 0) hx hb dX11_sends_49 (by decide) ?_
              refine lv_istore (lv' := [(5, .int 0), (0, .ref y), (1, .int (nI s0)), (2, .int u), (3, .int (nI k)), (4, .int (nI i))]) hx hb dX11_sends_50 hl (by decide) rfl (fun ls hl => ?_)
              have lp52 : ∀ (N : Nat) (j2 : Nat) (gd : Nat → Int32) (M3 : Nat → Nat) (w30 : Wd), (j2 + N = 12) → (∀ z, z < 12 → gd z = nI (M3 z)) → (bfI (nws u Pm Wm) s0 k i j2 M3) → (wd_at w30 y (.inr (11, [.int v0, .int td, .ref m2, .ref m3, .ref m4, .ref m5, .ref m6, .int (nI pc), .ref m8, .ref m9, .ref m10, .ref m11, .ref m12, .ref m13, .ref m14, .int (nI ac), .int (nI sc), .ref m17, .ref m18, .ref m19, .ref m20, .ref m21, .ref m22, .ref m23, .ref m24, .int (nI ln), .int v26, .int v27, .int v28, .ref m29, .ref m30, .ref m31, .ref m32, .ref m33, .ref m34, .ref m35, .ref m36, .ref m37, .int (nI sh), .ref m39, .ref m40, .ref m41, .ref m42, .ref m43, .ref m44, .ref m45, .ref m46, .ref m47, .ref m48, .ref m49, .int v50, .ref m51, .ref m52, .ref m53, .ref m54, .int (nI gf), .ref m56, .ref m57, .ref m58, .ref m59]))) → (wd_at w30 m6 (.inl (cy 2, 12, .inl gd))) → (wd_at w30 m2 (.inl (cy 10, 12, .inr (.inr (.inr (.inr qp)))))) → (wd_at w30 m3 (.inl (cy 10, 12, .inr (.inr (.inr (.inr qw)))))) → (∀ k9, k9 < 12 → qp k9 = some (pr k9) ∧ wd_at w30 (pr k9) (.inl (cy 2, 12, .inl (fp k9))) ∧ tg (pr k9) = 11000 + k9) → (∀ k9, k9 < 12 → qw k9 = some (wr k9) ∧ wd_at w30 (wr k9) (.inl (cy 2, 12, .inl (fw k9))) ∧ tg (wr k9) = 12000 + k9) → (wd_kp S w w30) → ∀ (ls : Array Slot), lv_has ls 7 [(0, .ref y), (1, .int (nI s0)), (2, .int u), (3, .int (nI k)), (4, .int (nI i)), (5, .int (nI j2))] → Wv p l e ({ frames := 0, cells := 0, slots := 0, locals := 0 }) s m args below meth c D A (0) (0) Q w30 (F0 m 52 ls []) := by
                intro N
                induction N with
                | zero =>
                  intro j2 gd M3 w30 hN52 hgd hb3 k31 k32 k33 k34 fm35 fm36 kp37 ls hl H locs hP hD hS
                  refine lv_iload hx hb dX11_sends_52 (lv_at hl 5 rfl) ?_
                  refine lv_bipush (v := 12) hx hb dX11_sends_54 (by decide) ?_
                  refine lv_icmp_ge (tgt := 154) hx hb dX11_sends_56 (by decide) (fun c_38 => ?_) (fun c_38 => absurd (nI_le (a := 12) (b := j2) (by omega) (by omega)) c_38)
                  refine lv_iinc (v := nI (i + 1)) (lv' := [(4, .int (nI (i + 1))), (0, .ref y), (1, .int (nI s0)), (2, .int u), (3, .int (nI k)), (5, .int (nI j2))]) hx hb dX11_sends_154 hl (k := 4) rfl (nI_1 i) (by decide) rfl (fun ls hl => ?_)
                  refine lv_goto (tgt := 42) hx hb dX11_sends_157 (by decide) ?_
                  exact ih42 (i + 1) gd M3 w30 (by omega) hgd (bfI.row (by have e9 : j2 = 12 := (by omega); rw [← e9]; exact hb3)) k31 k32 k33 k34 fm35 fm36 kp37 ls (lv_sub hl [1, 2, 3, 4, 0] rfl) H locs hP hD hS
                | succ N ih52 =>
                  intro j2 gd M3 w30 hN52 hgd hb3 k31 k32 k33 k34 fm35 fm36 kp37 ls hl H locs hP hD hS
                  refine lv_iload hx hb dX11_sends_52 (lv_at hl 5 rfl) ?_
                  refine lv_bipush (v := 12) hx hb dX11_sends_54 (by decide) ?_
                  refine lv_icmp_ge (tgt := 154) hx hb dX11_sends_56 (by decide) (fun c_39 => absurd c_39 (nI_ge (a := j2) (b := 12) (by omega) (by omega))) (fun c_39 => ?_)
                  refine lv_iload_n hx hb dX11_sends_59 rfl (lv_at hl 2 rfl) ?_
                  refine lv_if_eq (tgt := 99) hx hb dX11_sends_60 (by decide) (fun cu => ?_) (fun cu => ?_)
                  · refine lv_aload_n hx hb dX11_sends_99 rfl (lv_at hl 0 rfl) ?_
                    refine x_get (ref := "NoteHouseModel") F hP k31 rfl (fun _ h => List.mem_cons_of_mem _ (List.mem_append_right _ (h))) 2 (Nat.le_of_ble_eq_true rfl) (List.mem_cons_of_mem _ (List.mem_append_left _ (List.mem_of_getElem? (i := 3) rfl))) rfl rfl dX11_sends_100 ?_
                    refine lv_iload hx hb dX11_sends_103 (lv_at hl 4 rfl) ?_
                    refine x_aaldA F hP k33 (vp_in_nI (n := i) (N := 12) (by omega) (by decide)) dX11_sends_105 ?_
                    have pr40 := (fm35 i (by omega)).1
                    have k41 := (fm35 i (by omega)).2.1
                    have tz42 := (fm35 i (by omega)).2.2
                    rw [nI_clamp (n := i) (by omega), pr40]
                    refine W.eq (g2 := F0 m _ ls [.ref (pr i)]) rfl ?_
                    refine lv_iload hx hb dX11_sends_106 (lv_at hl 5 rfl) ?_
                    refine x_iald F hP k41 (vp_in_nI (n := j2) (N := 12) (by omega) (by decide)) dX11_sends_108 ?_
                    rw [nI_clamp (n := j2) (by omega), hmp i j2 (by omega) (by omega)]
                    rw [show nI (mq (Pm i j2)) = nI (mq (nws u Pm Wm i j2)) from by unfold nws; rw [if_pos cu]]
                    refine lv_istore (lv' := [(6, .int (nI (mq (nws u Pm Wm i j2)))), (0, .ref y), (1, .int (nI s0)), (2, .int u), (3, .int (nI k)), (4, .int (nI i)), (5, .int (nI j2))]) hx hb dX11_sends_109 hl (by decide) rfl (fun ls hl => ?_)
                    refine lv_aload_n hx hb dX11_sends_111 rfl (lv_at hl 1 rfl) ?_
                    refine x_get (ref := "NoteHouseModel") F hP k31 rfl (fun _ h => List.mem_cons_of_mem _ (List.mem_append_right _ (h))) 6 (Nat.le_of_ble_eq_true rfl) (List.mem_cons_of_mem _ (List.mem_append_left _ (List.mem_of_getElem? (i := 0) rfl))) rfl rfl dX11_sends_112 ?_
                    refine lv_iload hx hb dX11_sends_115 (lv_at hl 5 rfl) ?_
                    refine x_iald F hP k32 (vp_in_nI (n := i) (N := 12) (by omega) (by decide)) dX11_sends_117 ?_
                    rw [nI_clamp (n := i) (by omega), hgd i (by omega)]
                    refine lv_iload hx hb dX11_sends_118 (lv_at hl 0 rfl) ?_
                    refine lv_iadd hx hb dX11_sends_120 ?_
                    rw [show ((nI (M3 i)) + (nI (mq (nws u Pm Wm i j2))) : Int32) = nI ((M3 i) + (mq (nws u Pm Wm i j2))) from nI_add (M3 i) (mq (nws u Pm Wm i j2))]
                    refine lv_aload_n hx hb dX11_sends_121 rfl (lv_at hl 1 rfl) ?_
                    refine x_get (ref := "NoteHouseModel") F hP k31 rfl (fun _ h => List.mem_cons_of_mem _ (List.mem_append_right _ (h))) 6 (Nat.le_of_ble_eq_true rfl) (List.mem_cons_of_mem _ (List.mem_append_left _ (List.mem_of_getElem? (i := 0) rfl))) rfl rfl dX11_sends_122 ?_
                    refine lv_iload hx hb dX11_sends_125 (lv_at hl 6 rfl) ?_
                    refine x_iald F hP k32 (vp_in_nI (n := j2) (N := 12) (by omega) (by decide)) dX11_sends_127 ?_
                    rw [nI_clamp (n := j2) (by omega), hgd j2 (by omega)]
                    refine lv_icmp_ge (tgt := 148) hx hb dX11_sends_128 (by decide) (fun cx => ?_) (fun cx => ?_)
                    · refine lv_iinc (v := nI (j2 + 1)) (lv' := [(5, .int (nI (j2 + 1))), (6, .int (nI (mq (nws u Pm Wm i j2)))), (0, .ref y), (1, .int (nI s0)), (2, .int u), (3, .int (nI k)), (4, .int (nI i))]) hx hb dX11_sends_148 hl (k := 6) rfl (nI_1 j2) (by decide) rfl (fun ls hl => ?_)
                      refine lv_goto (tgt := 52) hx hb dX11_sends_151 (by decide) ?_
                      exact ih52 (j2 + 1) gd (fun t => if t = j2 then min (M3 j2) (M3 i + mq (nws u Pm Wm i j2)) else M3 t) w30 (by omega) (bs_n hgd ((nI_leI (by have := (hb3.1 j2 (by omega)).1; omega) (by have := (hb3.1 i (by omega)).1; have := mq_le (nws u Pm Wm i j2); omega)).mp cx)) (hb3.step (by omega) (by omega)) k31 k32 k33 k34 fm35 fm36 kp37 ls (lv_sub hl [2, 3, 4, 5, 6, 0] rfl) H locs hP hD hS
                    · refine lv_aload_n hx hb dX11_sends_131 rfl (lv_at hl 1 rfl) ?_
                      refine x_get (ref := "NoteHouseModel") F hP k31 rfl (fun _ h => List.mem_cons_of_mem _ (List.mem_append_right _ (h))) 6 (Nat.le_of_ble_eq_true rfl) (List.mem_cons_of_mem _ (List.mem_append_left _ (List.mem_of_getElem? (i := 0) rfl))) rfl rfl dX11_sends_132 ?_
                      refine lv_iload hx hb dX11_sends_135 (lv_at hl 6 rfl) ?_
                      refine lv_aload_n hx hb dX11_sends_137 rfl (lv_at hl 1 rfl) ?_
                      refine x_get (ref := "NoteHouseModel") F hP k31 rfl (fun _ h => List.mem_cons_of_mem _ (List.mem_append_right _ (h))) 6 (Nat.le_of_ble_eq_true rfl) (List.mem_cons_of_mem _ (List.mem_append_left _ (List.mem_of_getElem? (i := 0) rfl))) rfl rfl dX11_sends_138 ?_
                      refine lv_iload hx hb dX11_sends_141 (lv_at hl 5 rfl) ?_
                      refine x_iald F hP k32 (vp_in_nI (n := i) (N := 12) (by omega) (by decide)) dX11_sends_143 ?_
                      rw [nI_clamp (n := i) (by omega), hgd i (by omega)]
                      refine lv_iload hx hb dX11_sends_144 (lv_at hl 0 rfl) ?_
                      refine lv_iadd hx hb dX11_sends_146 ?_
                      rw [show ((nI (M3 i)) + (nI (mq (nws u Pm Wm i j2))) : Int32) = nI ((M3 i) + (mq (nws u Pm Wm i j2))) from nI_add (M3 i) (mq (nws u Pm Wm i j2))]
                      refine y_iast F hP hD hS k32 (vp_in_nI (n := j2) (N := 12) (by omega) (by decide)) dX11_sends_147 (fun w43 ew44 H locs hP hD hS => ?_)
                      have k45 := wd_at.pt ew44 k31 (tg_ne ty tm6 (by decide))
                      have k46 : wd_at w43 m6 (.inl (cy 2, 12, .inl (upd gd (nI j2).toNatClampNeg (nI ((M3 i) + (mq (nws u Pm Wm i j2))))))) := wd_at.ps ew44 k32
                      have k47 := wd_at.pt ew44 k33 (tg_ne tm2 tm6 (by decide))
                      have k48 := wd_at.pt ew44 k34 (tg_ne tm3 tm6 (by decide))
                      have k49 := wd_at.pt ew44 k41 (tg_ne tz42 tm6 (tqA (show 10106 < 11000 by decide)))
                      have fm50 : ∀ k9, k9 < 12 → qp k9 = some (pr k9) ∧ wd_at w43 (pr k9) (.inl (cy 2, 12, .inl (fp k9))) ∧ tg (pr k9) = 11000 + k9 := fun k9 hi9 => ⟨(fm35 k9 hi9).1, wd_at.pt ew44 (fm35 k9 hi9).2.1 (tg_ne (fm35 k9 hi9).2.2 tm6 (tqA (show 10106 < 11000 by decide))), (fm35 k9 hi9).2.2⟩
                      have fm51 : ∀ k9, k9 < 12 → qw k9 = some (wr k9) ∧ wd_at w43 (wr k9) (.inl (cy 2, 12, .inl (fw k9))) ∧ tg (wr k9) = 12000 + k9 := fun k9 hi9 => ⟨(fm36 k9 hi9).1, wd_at.pt ew44 (fm36 k9 hi9).2.1 (tg_ne (fm36 k9 hi9).2.2 tm6 (tqA (show 10106 < 12000 by decide))), (fm36 k9 hi9).2.2⟩
                      have kp52 := kp37.put ew44 s90
                      refine lv_iinc (v := nI (j2 + 1)) (lv' := [(5, .int (nI (j2 + 1))), (6, .int (nI (mq (nws u Pm Wm i j2)))), (0, .ref y), (1, .int (nI s0)), (2, .int u), (3, .int (nI k)), (4, .int (nI i))]) hx hb dX11_sends_148 hl (k := 6) rfl (nI_1 j2) (by decide) rfl (fun ls hl => ?_)
                      refine lv_goto (tgt := 52) hx hb dX11_sends_151 (by decide) ?_
                      exact ih52 (j2 + 1) (upd gd (nI j2).toNatClampNeg (nI ((M3 i) + (mq (nws u Pm Wm i j2))))) (fun t => if t = j2 then min (M3 j2) (M3 i + mq (nws u Pm Wm i j2)) else M3 t) w43 (by omega) (bs_y hgd (by omega) (Nat.le_of_lt (Nat.lt_of_not_le (fun q => cx (nI_le q (by have := (hb3.1 i (by omega)).1; have := mq_le (nws u Pm Wm i j2); omega)))))) (hb3.step (by omega) (by omega)) k45 k46 k47 k48 fm50 fm51 kp52 ls (lv_sub hl [2, 3, 4, 5, 6, 0] rfl) H locs hP hD hS
                  · refine lv_aload_n hx hb dX11_sends_63 rfl (lv_at hl 0 rfl) ?_
                    refine x_get (ref := "NoteHouseModel") F hP k31 rfl (fun _ h => List.mem_cons_of_mem _ (List.mem_append_right _ (h))) 3 (Nat.le_of_ble_eq_true rfl) (List.mem_cons_of_mem _ (List.mem_append_left _ (List.mem_of_getElem? (i := 2) rfl))) rfl rfl dX11_sends_64 ?_
                    refine lv_iload hx hb dX11_sends_67 (lv_at hl 4 rfl) ?_
                    refine x_aaldA F hP k34 (vp_in_nI (n := i) (N := 12) (by omega) (by decide)) dX11_sends_69 ?_
                    have pr53 := (fm36 i (by omega)).1
                    have k54 := (fm36 i (by omega)).2.1
                    have tz55 := (fm36 i (by omega)).2.2
                    rw [nI_clamp (n := i) (by omega), pr53]
                    refine W.eq (g2 := F0 m _ ls [.ref (wr i)]) rfl ?_
                    refine lv_iload hx hb dX11_sends_70 (lv_at hl 5 rfl) ?_
                    refine x_iald F hP k54 (vp_in_nI (n := j2) (N := 12) (by omega) (by decide)) dX11_sends_72 ?_
                    rw [nI_clamp (n := j2) (by omega), hmw i j2 (by omega) (by omega)]
                    refine lv_aload_n hx hb dX11_sends_73 rfl (lv_at hl 0 rfl) ?_
                    refine x_get (ref := "NoteHouseModel") F hP k31 rfl (fun _ h => List.mem_cons_of_mem _ (List.mem_append_right _ (h))) 2 (Nat.le_of_ble_eq_true rfl) (List.mem_cons_of_mem _ (List.mem_append_left _ (List.mem_of_getElem? (i := 3) rfl))) rfl rfl dX11_sends_74 ?_
                    refine lv_iload hx hb dX11_sends_77 (lv_at hl 4 rfl) ?_
                    refine x_aaldA F hP k33 (vp_in_nI (n := i) (N := 12) (by omega) (by decide)) dX11_sends_79 ?_
                    have pr56 := (fm35 i (by omega)).1
                    have k57 := (fm35 i (by omega)).2.1
                    have tz58 := (fm35 i (by omega)).2.2
                    rw [nI_clamp (n := i) (by omega), pr56]
                    refine W.eq (g2 := F0 m _ ls [.ref (pr i), .int (nI (mq (Wm i j2)))]) rfl ?_
                    refine lv_iload hx hb dX11_sends_80 (lv_at hl 5 rfl) ?_
                    refine x_iald F hP k57 (vp_in_nI (n := j2) (N := 12) (by omega) (by decide)) dX11_sends_82 ?_
                    rw [nI_clamp (n := j2) (by omega), hmp i j2 (by omega) (by omega)]
                    refine lv_icmp_ge (tgt := 99) hx hb dX11_sends_83 (by decide) (fun cg => ?_) (fun cg => ?_)
                    · refine lv_aload_n hx hb dX11_sends_99 rfl (lv_at hl 0 rfl) ?_
                      refine x_get (ref := "NoteHouseModel") F hP k31 rfl (fun _ h => List.mem_cons_of_mem _ (List.mem_append_right _ (h))) 2 (Nat.le_of_ble_eq_true rfl) (List.mem_cons_of_mem _ (List.mem_append_left _ (List.mem_of_getElem? (i := 3) rfl))) rfl rfl dX11_sends_100 ?_
                      refine lv_iload hx hb dX11_sends_103 (lv_at hl 4 rfl) ?_
                      refine x_aaldA F hP k33 (vp_in_nI (n := i) (N := 12) (by omega) (by decide)) dX11_sends_105 ?_
                      rw [nI_clamp (n := i) (by omega), pr56]
                      refine W.eq (g2 := F0 m _ ls [.ref (pr i)]) rfl ?_
                      refine lv_iload hx hb dX11_sends_106 (lv_at hl 5 rfl) ?_
                      refine x_iald F hP k57 (vp_in_nI (n := j2) (N := 12) (by omega) (by decide)) dX11_sends_108 ?_
                      rw [nI_clamp (n := j2) (by omega), hmp i j2 (by omega) (by omega)]
                      rw [show nI (mq (Pm i j2)) = nI (mq (nws u Pm Wm i j2)) from by unfold nws; rw [if_neg cu, mq_min, Nat.min_eq_left ((nI_leI (by have := mq_le (Pm i j2); omega) (by have := mq_le (Wm i j2); omega)).mp cg)]]
                      refine lv_istore (lv' := [(6, .int (nI (mq (nws u Pm Wm i j2)))), (0, .ref y), (1, .int (nI s0)), (2, .int u), (3, .int (nI k)), (4, .int (nI i)), (5, .int (nI j2))]) hx hb dX11_sends_109 hl (by decide) rfl (fun ls hl => ?_)
                      refine lv_aload_n hx hb dX11_sends_111 rfl (lv_at hl 1 rfl) ?_
                      refine x_get (ref := "NoteHouseModel") F hP k31 rfl (fun _ h => List.mem_cons_of_mem _ (List.mem_append_right _ (h))) 6 (Nat.le_of_ble_eq_true rfl) (List.mem_cons_of_mem _ (List.mem_append_left _ (List.mem_of_getElem? (i := 0) rfl))) rfl rfl dX11_sends_112 ?_
                      refine lv_iload hx hb dX11_sends_115 (lv_at hl 5 rfl) ?_
                      refine x_iald F hP k32 (vp_in_nI (n := i) (N := 12) (by omega) (by decide)) dX11_sends_117 ?_
                      rw [nI_clamp (n := i) (by omega), hgd i (by omega)]
                      refine lv_iload hx hb dX11_sends_118 (lv_at hl 0 rfl) ?_
                      refine lv_iadd hx hb dX11_sends_120 ?_
                      rw [show ((nI (M3 i)) + (nI (mq (nws u Pm Wm i j2))) : Int32) = nI ((M3 i) + (mq (nws u Pm Wm i j2))) from nI_add (M3 i) (mq (nws u Pm Wm i j2))]
                      refine lv_aload_n hx hb dX11_sends_121 rfl (lv_at hl 1 rfl) ?_
                      refine x_get (ref := "NoteHouseModel") F hP k31 rfl (fun _ h => List.mem_cons_of_mem _ (List.mem_append_right _ (h))) 6 (Nat.le_of_ble_eq_true rfl) (List.mem_cons_of_mem _ (List.mem_append_left _ (List.mem_of_getElem? (i := 0) rfl))) rfl rfl dX11_sends_122 ?_
                      refine lv_iload hx hb dX11_sends_125 (lv_at hl 6 rfl) ?_
                      refine x_iald F hP k32 (vp_in_nI (n := j2) (N := 12) (by omega) (by decide)) dX11_sends_127 ?_
                      rw [nI_clamp (n := j2) (by omega), hgd j2 (by omega)]
                      refine lv_icmp_ge (tgt := 148) hx hb dX11_sends_128 (by decide) (fun cx => ?_) (fun cx => ?_)
                      · refine lv_iinc (v := nI (j2 + 1)) (lv' := [(5, .int (nI (j2 + 1))), (6, .int (nI (mq (nws u Pm Wm i j2)))), (0, .ref y), (1, .int (nI s0)), (2, .int u), (3, .int (nI k)), (4, .int (nI i))]) hx hb dX11_sends_148 hl (k := 6) rfl (nI_1 j2) (by decide) rfl (fun ls hl => ?_)
                        refine lv_goto (tgt := 52) hx hb dX11_sends_151 (by decide) ?_
                        exact ih52 (j2 + 1) gd (fun t => if t = j2 then min (M3 j2) (M3 i + mq (nws u Pm Wm i j2)) else M3 t) w30 (by omega) (bs_n hgd ((nI_leI (by have := (hb3.1 j2 (by omega)).1; omega) (by have := (hb3.1 i (by omega)).1; have := mq_le (nws u Pm Wm i j2); omega)).mp cx)) (hb3.step (by omega) (by omega)) k31 k32 k33 k34 fm35 fm36 kp37 ls (lv_sub hl [2, 3, 4, 5, 6, 0] rfl) H locs hP hD hS
                      · refine lv_aload_n hx hb dX11_sends_131 rfl (lv_at hl 1 rfl) ?_
                        refine x_get (ref := "NoteHouseModel") F hP k31 rfl (fun _ h => List.mem_cons_of_mem _ (List.mem_append_right _ (h))) 6 (Nat.le_of_ble_eq_true rfl) (List.mem_cons_of_mem _ (List.mem_append_left _ (List.mem_of_getElem? (i := 0) rfl))) rfl rfl dX11_sends_132 ?_
                        refine lv_iload hx hb dX11_sends_135 (lv_at hl 6 rfl) ?_
                        refine lv_aload_n hx hb dX11_sends_137 rfl (lv_at hl 1 rfl) ?_
                        refine x_get (ref := "NoteHouseModel") F hP k31 rfl (fun _ h => List.mem_cons_of_mem _ (List.mem_append_right _ (h))) 6 (Nat.le_of_ble_eq_true rfl) (List.mem_cons_of_mem _ (List.mem_append_left _ (List.mem_of_getElem? (i := 0) rfl))) rfl rfl dX11_sends_138 ?_
                        refine lv_iload hx hb dX11_sends_141 (lv_at hl 5 rfl) ?_
                        refine x_iald F hP k32 (vp_in_nI (n := i) (N := 12) (by omega) (by decide)) dX11_sends_143 ?_
                        rw [nI_clamp (n := i) (by omega), hgd i (by omega)]
                        refine lv_iload hx hb dX11_sends_144 (lv_at hl 0 rfl) ?_
                        refine lv_iadd hx hb dX11_sends_146 ?_
                        rw [show ((nI (M3 i)) + (nI (mq (nws u Pm Wm i j2))) : Int32) = nI ((M3 i) + (mq (nws u Pm Wm i j2))) from nI_add (M3 i) (mq (nws u Pm Wm i j2))]
                        refine y_iast F hP hD hS k32 (vp_in_nI (n := j2) (N := 12) (by omega) (by decide)) dX11_sends_147 (fun w59 ew60 H locs hP hD hS => ?_)
                        have k61 := wd_at.pt ew60 k31 (tg_ne ty tm6 (by decide))
                        have k62 : wd_at w59 m6 (.inl (cy 2, 12, .inl (upd gd (nI j2).toNatClampNeg (nI ((M3 i) + (mq (nws u Pm Wm i j2))))))) := wd_at.ps ew60 k32
                        have k63 := wd_at.pt ew60 k33 (tg_ne tm2 tm6 (by decide))
                        have k64 := wd_at.pt ew60 k34 (tg_ne tm3 tm6 (by decide))
                        have k65 := wd_at.pt ew60 k54 (tg_ne tz55 tm6 (tqA (show 10106 < 12000 by decide)))
                        have k66 := wd_at.pt ew60 k57 (tg_ne tz58 tm6 (tqA (show 10106 < 11000 by decide)))
                        have fm67 : ∀ k9, k9 < 12 → qp k9 = some (pr k9) ∧ wd_at w59 (pr k9) (.inl (cy 2, 12, .inl (fp k9))) ∧ tg (pr k9) = 11000 + k9 := fun k9 hi9 => ⟨(fm35 k9 hi9).1, wd_at.pt ew60 (fm35 k9 hi9).2.1 (tg_ne (fm35 k9 hi9).2.2 tm6 (tqA (show 10106 < 11000 by decide))), (fm35 k9 hi9).2.2⟩
                        have fm68 : ∀ k9, k9 < 12 → qw k9 = some (wr k9) ∧ wd_at w59 (wr k9) (.inl (cy 2, 12, .inl (fw k9))) ∧ tg (wr k9) = 12000 + k9 := fun k9 hi9 => ⟨(fm36 k9 hi9).1, wd_at.pt ew60 (fm36 k9 hi9).2.1 (tg_ne (fm36 k9 hi9).2.2 tm6 (tqA (show 10106 < 12000 by decide))), (fm36 k9 hi9).2.2⟩
                        have kp69 := kp37.put ew60 s90
                        refine lv_iinc (v := nI (j2 + 1)) (lv' := [(5, .int (nI (j2 + 1))), (6, .int (nI (mq (nws u Pm Wm i j2)))), (0, .ref y), (1, .int (nI s0)), (2, .int u), (3, .int (nI k)), (4, .int (nI i))]) hx hb dX11_sends_148 hl (k := 6) rfl (nI_1 j2) (by decide) rfl (fun ls hl => ?_)
                        refine lv_goto (tgt := 52) hx hb dX11_sends_151 (by decide) ?_
                        exact ih52 (j2 + 1) (upd gd (nI j2).toNatClampNeg (nI ((M3 i) + (mq (nws u Pm Wm i j2))))) (fun t => if t = j2 then min (M3 j2) (M3 i + mq (nws u Pm Wm i j2)) else M3 t) w59 (by omega) (bs_y hgd (by omega) (Nat.le_of_lt (Nat.lt_of_not_le (fun q => cx (nI_le q (by have := (hb3.1 i (by omega)).1; have := mq_le (nws u Pm Wm i j2); omega)))))) (hb3.step (by omega) (by omega)) k61 k62 k63 k64 fm67 fm68 kp69 ls (lv_sub hl [2, 3, 4, 5, 6, 0] rfl) H locs hP hD hS
                    · refine lv_aload_n hx hb dX11_sends_86 rfl (lv_at hl 0 rfl) ?_
                      refine x_get (ref := "NoteHouseModel") F hP k31 rfl (fun _ h => List.mem_cons_of_mem _ (List.mem_append_right _ (h))) 3 (Nat.le_of_ble_eq_true rfl) (List.mem_cons_of_mem _ (List.mem_append_left _ (List.mem_of_getElem? (i := 2) rfl))) rfl rfl dX11_sends_87 ?_
                      refine lv_iload hx hb dX11_sends_90 (lv_at hl 4 rfl) ?_
                      refine x_aaldA F hP k34 (vp_in_nI (n := i) (N := 12) (by omega) (by decide)) dX11_sends_92 ?_
                      rw [nI_clamp (n := i) (by omega), pr53]
                      refine W.eq (g2 := F0 m _ ls [.ref (wr i)]) rfl ?_
                      refine lv_iload hx hb dX11_sends_93 (lv_at hl 5 rfl) ?_
                      refine x_iald F hP k54 (vp_in_nI (n := j2) (N := 12) (by omega) (by decide)) dX11_sends_95 ?_
                      rw [nI_clamp (n := j2) (by omega), hmw i j2 (by omega) (by omega)]
                      refine lv_goto (tgt := 109) hx hb dX11_sends_96 (by decide) ?_
                      rw [show nI (mq (Wm i j2)) = nI (mq (nws u Pm Wm i j2)) from by unfold nws; rw [if_neg cu, mq_min, Nat.min_eq_right (Nat.le_of_lt (Nat.lt_of_not_le (fun q => cg (nI_le q (by have := mq_le (Wm i j2); omega)))))]]
                      refine lv_istore (lv' := [(6, .int (nI (mq (nws u Pm Wm i j2)))), (0, .ref y), (1, .int (nI s0)), (2, .int u), (3, .int (nI k)), (4, .int (nI i)), (5, .int (nI j2))]) hx hb dX11_sends_109 hl (by decide) rfl (fun ls hl => ?_)
                      refine lv_aload_n hx hb dX11_sends_111 rfl (lv_at hl 1 rfl) ?_
                      refine x_get (ref := "NoteHouseModel") F hP k31 rfl (fun _ h => List.mem_cons_of_mem _ (List.mem_append_right _ (h))) 6 (Nat.le_of_ble_eq_true rfl) (List.mem_cons_of_mem _ (List.mem_append_left _ (List.mem_of_getElem? (i := 0) rfl))) rfl rfl dX11_sends_112 ?_
                      refine lv_iload hx hb dX11_sends_115 (lv_at hl 5 rfl) ?_
                      refine x_iald F hP k32 (vp_in_nI (n := i) (N := 12) (by omega) (by decide)) dX11_sends_117 ?_
                      rw [nI_clamp (n := i) (by omega), hgd i (by omega)]
                      refine lv_iload hx hb dX11_sends_118 (lv_at hl 0 rfl) ?_
                      refine lv_iadd hx hb dX11_sends_120 ?_
                      rw [show ((nI (M3 i)) + (nI (mq (nws u Pm Wm i j2))) : Int32) = nI ((M3 i) + (mq (nws u Pm Wm i j2))) from nI_add (M3 i) (mq (nws u Pm Wm i j2))]
                      refine lv_aload_n hx hb dX11_sends_121 rfl (lv_at hl 1 rfl) ?_
                      refine x_get (ref := "NoteHouseModel") F hP k31 rfl (fun _ h => List.mem_cons_of_mem _ (List.mem_append_right _ (h))) 6 (Nat.le_of_ble_eq_true rfl) (List.mem_cons_of_mem _ (List.mem_append_left _ (List.mem_of_getElem? (i := 0) rfl))) rfl rfl dX11_sends_122 ?_
                      refine lv_iload hx hb dX11_sends_125 (lv_at hl 6 rfl) ?_
                      refine x_iald F hP k32 (vp_in_nI (n := j2) (N := 12) (by omega) (by decide)) dX11_sends_127 ?_
                      rw [nI_clamp (n := j2) (by omega), hgd j2 (by omega)]
                      refine lv_icmp_ge (tgt := 148) hx hb dX11_sends_128 (by decide) (fun cx => ?_) (fun cx => ?_)
                      · refine lv_iinc (v := nI (j2 + 1)) (lv' := [(5, .int (nI (j2 + 1))), (6, .int (nI (mq (nws u Pm Wm i j2)))), (0, .ref y), (1, .int (nI s0)), (2, .int u), (3, .int (nI k)), (4, .int (nI i))]) hx hb dX11_sends_148 hl (k := 6) rfl (nI_1 j2) (by decide) rfl (fun ls hl => ?_)
                        refine lv_goto (tgt := 52) hx hb dX11_sends_151 (by decide) ?_
                        exact ih52 (j2 + 1) gd (fun t => if t = j2 then min (M3 j2) (M3 i + mq (nws u Pm Wm i j2)) else M3 t) w30 (by omega) (bs_n hgd ((nI_leI (by have := (hb3.1 j2 (by omega)).1; omega) (by have := (hb3.1 i (by omega)).1; have := mq_le (nws u Pm Wm i j2); omega)).mp cx)) (hb3.step (by omega) (by omega)) k31 k32 k33 k34 fm35 fm36 kp37 ls (lv_sub hl [2, 3, 4, 5, 6, 0] rfl) H locs hP hD hS
                      · refine lv_aload_n hx hb dX11_sends_131 rfl (lv_at hl 1 rfl) ?_
                        refine x_get (ref := "NoteHouseModel") F hP k31 rfl (fun _ h => List.mem_cons_of_mem _ (List.mem_append_right _ (h))) 6 (Nat.le_of_ble_eq_true rfl) (List.mem_cons_of_mem _ (List.mem_append_left _ (List.mem_of_getElem? (i := 0) rfl))) rfl rfl dX11_sends_132 ?_
                        refine lv_iload hx hb dX11_sends_135 (lv_at hl 6 rfl) ?_
                        refine lv_aload_n hx hb dX11_sends_137 rfl (lv_at hl 1 rfl) ?_
                        refine x_get (ref := "NoteHouseModel") F hP k31 rfl (fun _ h => List.mem_cons_of_mem _ (List.mem_append_right _ (h))) 6 (Nat.le_of_ble_eq_true rfl) (List.mem_cons_of_mem _ (List.mem_append_left _ (List.mem_of_getElem? (i := 0) rfl))) rfl rfl dX11_sends_138 ?_
                        refine lv_iload hx hb dX11_sends_141 (lv_at hl 5 rfl) ?_
                        refine x_iald F hP k32 (vp_in_nI (n := i) (N := 12) (by omega) (by decide)) dX11_sends_143 ?_
                        rw [nI_clamp (n := i) (by omega), hgd i (by omega)]
                        refine lv_iload hx hb dX11_sends_144 (lv_at hl 0 rfl) ?_
                        refine lv_iadd hx hb dX11_sends_146 ?_
                        rw [show ((nI (M3 i)) + (nI (mq (nws u Pm Wm i j2))) : Int32) = nI ((M3 i) + (mq (nws u Pm Wm i j2))) from nI_add (M3 i) (mq (nws u Pm Wm i j2))]
                        refine y_iast F hP hD hS k32 (vp_in_nI (n := j2) (N := 12) (by omega) (by decide)) dX11_sends_147 (fun w70 ew71 H locs hP hD hS => ?_)
                        have k72 := wd_at.pt ew71 k31 (tg_ne ty tm6 (by decide))
                        have k73 : wd_at w70 m6 (.inl (cy 2, 12, .inl (upd gd (nI j2).toNatClampNeg (nI ((M3 i) + (mq (nws u Pm Wm i j2))))))) := wd_at.ps ew71 k32
                        have k74 := wd_at.pt ew71 k33 (tg_ne tm2 tm6 (by decide))
                        have k75 := wd_at.pt ew71 k34 (tg_ne tm3 tm6 (by decide))
                        have k76 := wd_at.pt ew71 k54 (tg_ne tz55 tm6 (tqA (show 10106 < 12000 by decide)))
                        have k77 := wd_at.pt ew71 k57 (tg_ne tz58 tm6 (tqA (show 10106 < 11000 by decide)))
                        have fm78 : ∀ k9, k9 < 12 → qp k9 = some (pr k9) ∧ wd_at w70 (pr k9) (.inl (cy 2, 12, .inl (fp k9))) ∧ tg (pr k9) = 11000 + k9 := fun k9 hi9 => ⟨(fm35 k9 hi9).1, wd_at.pt ew71 (fm35 k9 hi9).2.1 (tg_ne (fm35 k9 hi9).2.2 tm6 (tqA (show 10106 < 11000 by decide))), (fm35 k9 hi9).2.2⟩
                        have fm79 : ∀ k9, k9 < 12 → qw k9 = some (wr k9) ∧ wd_at w70 (wr k9) (.inl (cy 2, 12, .inl (fw k9))) ∧ tg (wr k9) = 12000 + k9 := fun k9 hi9 => ⟨(fm36 k9 hi9).1, wd_at.pt ew71 (fm36 k9 hi9).2.1 (tg_ne (fm36 k9 hi9).2.2 tm6 (tqA (show 10106 < 12000 by decide))), (fm36 k9 hi9).2.2⟩
                        have kp80 := kp37.put ew71 s90
                        refine lv_iinc (v := nI (j2 + 1)) (lv' := [(5, .int (nI (j2 + 1))), (6, .int (nI (mq (nws u Pm Wm i j2)))), (0, .ref y), (1, .int (nI s0)), (2, .int u), (3, .int (nI k)), (4, .int (nI i))]) hx hb dX11_sends_148 hl (k := 6) rfl (nI_1 j2) (by decide) rfl (fun ls hl => ?_)
                        refine lv_goto (tgt := 52) hx hb dX11_sends_151 (by decide) ?_
                        exact ih52 (j2 + 1) (upd gd (nI j2).toNatClampNeg (nI ((M3 i) + (mq (nws u Pm Wm i j2))))) (fun t => if t = j2 then min (M3 j2) (M3 i + mq (nws u Pm Wm i j2)) else M3 t) w70 (by omega) (bs_y hgd (by omega) (Nat.le_of_lt (Nat.lt_of_not_le (fun q => cx (nI_le q (by have := (hb3.1 i (by omega)).1; have := mq_le (nws u Pm Wm i j2); omega)))))) (hb3.step (by omega) (by omega)) k72 k73 k74 k75 fm78 fm79 kp80 ls (lv_sub hl [2, 3, 4, 5, 6, 0] rfl) H locs hP hD hS
              exact lp52 _ 0 gc M2 w20 (Nat.zero_add 12) hgc hb2 k21 k22 k23 k24 fm25 fm26 kp27 ls (lv_sub hl [1, 2, 3, 4, 5, 0] rfl) H locs hP hD hS
          exact lp42 _ 0 gb MM w10 (Nat.zero_add 12) hgb hbf k11 k12 k13 k14 fm15 fm16 kp17 ls (lv_sub hl [1, 2, 3, 4, 0] rfl) H locs hP hD hS
      exact lp33 _ 0 ga (fun z => if z = s0 then 0 else 268435456) w1 (Nat.zero_add 12) (fun z hz => hga z (by omega)) bfI.start k2 k3 k4 k5 fm6 fm7 kp8 ls (lv_sub hl [1, 2, 3, 0] rfl) H locs hP hD hS
    | succ N ih2 =>
      intro j ga w1 hN2 hga k2 k3 k4 k5 fm6 fm7 kp8 ls hl H locs hP hD hS
      refine lv_iload_n hx hb dX11_sends_2 rfl (lv_at hl 3 rfl) ?_
      refine lv_bipush (v := 12) hx hb dX11_sends_3 (by decide) ?_
      refine lv_icmp_ge (tgt := 31) hx hb dX11_sends_5 (by decide) (fun c_81 => absurd c_81 (nI_ge (a := j) (b := 12) (by omega) (by omega))) (fun c_81 => ?_)
      refine lv_aload_n hx hb dX11_sends_8 rfl (lv_at hl 0 rfl) ?_
      refine x_get (ref := "NoteHouseModel") F hP k2 rfl (fun _ h => List.mem_cons_of_mem _ (List.mem_append_right _ (h))) 6 (Nat.le_of_ble_eq_true rfl) (List.mem_cons_of_mem _ (List.mem_append_left _ (List.mem_of_getElem? (i := 0) rfl))) rfl rfl dX11_sends_9 ?_
      refine lv_iload_n hx hb dX11_sends_12 rfl (lv_at hl 3 rfl) ?_
      refine lv_iload_n hx hb dX11_sends_13 rfl (lv_at hl 3 rfl) ?_
      refine lv_iload_n hx hb dX11_sends_14 rfl (lv_at hl 1 rfl) ?_
      refine lv_icmp_ne (tgt := 22) hx hb dX11_sends_15 (by decide) (fun cs => ?_) (fun cs => ?_)
      · refine lv_ldc (v := 268435456) hx hb hown (hts _ (List.mem_cons_of_mem _ (List.mem_append_left _ (List.mem_of_getElem? (i := 1) rfl)))) dX11_sends_22 ?_
        refine y_iast F hP hD hS k3 (vp_in_nI (n := j) (N := 12) (by omega) (by decide)) dX11_sends_24 (fun w82 ew83 H locs hP hD hS => ?_)
        have k84 := wd_at.pt ew83 k2 (tg_ne ty tm6 (by decide))
        have k85 : wd_at w82 m6 (.inl (cy 2, 12, .inl (upd ga (nI j).toNatClampNeg 268435456))) := wd_at.ps ew83 k3
        have k86 := wd_at.pt ew83 k4 (tg_ne tm2 tm6 (by decide))
        have k87 := wd_at.pt ew83 k5 (tg_ne tm3 tm6 (by decide))
        have fm88 : ∀ k9, k9 < 12 → qp k9 = some (pr k9) ∧ wd_at w82 (pr k9) (.inl (cy 2, 12, .inl (fp k9))) ∧ tg (pr k9) = 11000 + k9 := fun k9 hi9 => ⟨(fm6 k9 hi9).1, wd_at.pt ew83 (fm6 k9 hi9).2.1 (tg_ne (fm6 k9 hi9).2.2 tm6 (tqA (show 10106 < 11000 by decide))), (fm6 k9 hi9).2.2⟩
        have fm89 : ∀ k9, k9 < 12 → qw k9 = some (wr k9) ∧ wd_at w82 (wr k9) (.inl (cy 2, 12, .inl (fw k9))) ∧ tg (wr k9) = 12000 + k9 := fun k9 hi9 => ⟨(fm7 k9 hi9).1, wd_at.pt ew83 (fm7 k9 hi9).2.1 (tg_ne (fm7 k9 hi9).2.2 tm6 (tqA (show 10106 < 12000 by decide))), (fm7 k9 hi9).2.2⟩
        have kp90 := kp8.put ew83 s90
        refine lv_iinc (v := nI (j + 1)) (lv' := [(3, .int (nI (j + 1))), (0, .ref y), (1, .int (nI s0)), (2, .int u)]) hx hb dX11_sends_25 hl (k := 3) rfl (nI_1 j) (by decide) rfl (fun ls hl => ?_)
        refine lv_goto (tgt := 2) hx hb dX11_sends_28 (by decide) ?_
        exact ih2 (j + 1) (upd ga (nI j).toNatClampNeg 268435456) w82 (by omega) (upAll9 (P := fun z x => x = nI (if z = s0 then 0 else 268435456)) (n := 12) (by omega) (by decide) hga (show (268435456 : Int32) = nI (if j = s0 then 0 else 268435456) from by rw [if_neg (fun q => cs (by rw [q]))]; rfl)) k84 k85 k86 k87 fm88 fm89 kp90 ls (lv_sub hl [1, 2, 3, 0] rfl) H locs hP hD hS
      · refine lv_iconst (v := 0) hx hb dX11_sends_18 (by decide) ?_
        refine lv_goto (tgt := 24) hx hb dX11_sends_19 (by decide) ?_
        refine y_iast F hP hD hS k3 (vp_in_nI (n := j) (N := 12) (by omega) (by decide)) dX11_sends_24 (fun w91 ew92 H locs hP hD hS => ?_)
        have k93 := wd_at.pt ew92 k2 (tg_ne ty tm6 (by decide))
        have k94 : wd_at w91 m6 (.inl (cy 2, 12, .inl (upd ga (nI j).toNatClampNeg 0))) := wd_at.ps ew92 k3
        have k95 := wd_at.pt ew92 k4 (tg_ne tm2 tm6 (by decide))
        have k96 := wd_at.pt ew92 k5 (tg_ne tm3 tm6 (by decide))
        have fm97 : ∀ k9, k9 < 12 → qp k9 = some (pr k9) ∧ wd_at w91 (pr k9) (.inl (cy 2, 12, .inl (fp k9))) ∧ tg (pr k9) = 11000 + k9 := fun k9 hi9 => ⟨(fm6 k9 hi9).1, wd_at.pt ew92 (fm6 k9 hi9).2.1 (tg_ne (fm6 k9 hi9).2.2 tm6 (tqA (show 10106 < 11000 by decide))), (fm6 k9 hi9).2.2⟩
        have fm98 : ∀ k9, k9 < 12 → qw k9 = some (wr k9) ∧ wd_at w91 (wr k9) (.inl (cy 2, 12, .inl (fw k9))) ∧ tg (wr k9) = 12000 + k9 := fun k9 hi9 => ⟨(fm7 k9 hi9).1, wd_at.pt ew92 (fm7 k9 hi9).2.1 (tg_ne (fm7 k9 hi9).2.2 tm6 (tqA (show 10106 < 12000 by decide))), (fm7 k9 hi9).2.2⟩
        have kp99 := kp8.put ew92 s90
        refine lv_iinc (v := nI (j + 1)) (lv' := [(3, .int (nI (j + 1))), (0, .ref y), (1, .int (nI s0)), (2, .int u)]) hx hb dX11_sends_25 hl (k := 3) rfl (nI_1 j) (by decide) rfl (fun ls hl => ?_)
        refine lv_goto (tgt := 2) hx hb dX11_sends_28 (by decide) ?_
        exact ih2 (j + 1) (upd ga (nI j).toNatClampNeg 0) w91 (by omega) (upAll9 (P := fun z x => x = nI (if z = s0 then 0 else 268435456)) (n := 12) (by omega) (by decide) hga (show (0 : Int32) = nI (if j = s0 then 0 else 268435456) from by rw [if_pos ((nI_eq (by omega) (by omega)).mp cs)]; rfl)) k93 k94 k95 k96 fm97 fm98 kp99 ls (lv_sub hl [1, 2, 3, 0] rfl) H locs hP hD hS
  exact lp2 _ 0 f6 w (Nat.zero_add 12) (fun z hz => absurd hz (Nat.not_lt_zero z)) c90 c91 c92 c93 hFPR hFWR kp0 ls (lv_sub hl [1, 2, 3, 0] rfl) H locs hP hD hS
set_option maxHeartbeats 4000000 in
set_option maxRecDepth 100000 in
theorem m_unlike (l : Launch) (D : va_G) (cy : Nat → ClassId) (sk sv : Nat → Nat) (w : Wd) (x y : Int32)    : Ct l D cy sk sv yX11_unlike wsX11_unlike ({ frames := 0, cells := 0, slots := 0, locals := 0 }) [.int x, .int y] w (fun v w1 => ∃ (r1 : Int32), v = some (.int r1) ∧ (r1 = unlI x y) ∧ w = w1) := by
  refine Ct.by (cc := cX11_unlike) (maxL := 7) (ret := (some .int)) (by decide +kernel) rfl (Nat.le_of_ble_eq_true rfl) ?_
  intro p e s m args below meth c A Q F hnm K ls hl
  have F : wd_Fx p s m args meth c cX11_unlike 7 wsX11_unlike RX11 D cy sk sv A := F
  have hl : lv_has ls 7 [(0, .int x), (1, .int y)] := hl
  have hx := F.1.1
  have hb := F.1.2.1
  have hown := F.1.2.2.2.1
  have hts := F.1.2.2.2.2
  intro H locs hP hD hS
  refine lv_iconst (v := 0) hx hb dX11_unlike_0 (by decide) ?_
  refine lv_istore_n (lv' := [(2, .int 0), (0, .int x), (1, .int y)]) hx hb dX11_unlike_1 rfl hl (by decide) rfl (fun ls hl => ?_)
  refine lv_iload_n hx hb dX11_unlike_2 rfl (lv_at hl 1 rfl) ?_
  refine lv_istore_n (lv' := [(3, .int x), (2, .int 0), (0, .int x), (1, .int y)]) hx hb dX11_unlike_3 rfl hl (by decide) rfl (fun ls hl => ?_)
  refine lv_iload_n hx hb dX11_unlike_4 rfl (lv_at hl 3 rfl) ?_
  refine lv_istore (lv' := [(4, .int y), (3, .int x), (2, .int 0), (0, .int x), (1, .int y)]) hx hb dX11_unlike_5 hl (by decide) rfl (fun ls hl => ?_)
  refine lv_iconst (v := 0) hx hb dX11_unlike_7 (by decide) ?_
  refine lv_istore (lv' := [(5, .int 0), (4, .int y), (3, .int x), (2, .int 0), (0, .int x), (1, .int y)]) hx hb dX11_unlike_8 hl (by decide) rfl (fun ls hl => ?_)
  have lp10 : ∀ (N : Nat) (k : Nat) (u0 : Int32) (u1 : Int32) (u2 : Int32), (k + N = 5) → (unl (5 - k) u0 u1 u2 = unlI x y) → ∀ (ls : Array Slot), lv_has ls 7 [(0, .int x), (1, .int y), (2, .int u0), (3, .int u1), (4, .int u2), (5, .int (nI k))] → Wv p l e ({ frames := 0, cells := 0, slots := 0, locals := 0 }) s m args below meth c D A (0) (0) Q w (F0 m 10 ls []) := by
    intro N
    induction N with
    | zero =>
      intro k u0 u1 u2 hN10 hul ls hl H locs hP hD hS
      refine lv_iload hx hb dX11_unlike_10 (lv_at hl 5 rfl) ?_
      refine lv_iconst (v := 5) hx hb dX11_unlike_12 (by decide) ?_
      refine lv_icmp_ge (tgt := 62) hx hb dX11_unlike_13 (by decide) (fun c_2 => ?_) (fun c_2 => absurd (nI_le (a := 5) (b := k) (by omega) (by omega)) c_2)
      refine lv_iload_n hx hb dX11_unlike_62 rfl (lv_at hl 2 rfl) ?_
      exact y_ir K hP hD hS (Nat.le_of_ble_eq_true rfl) (Nat.le_of_ble_eq_true rfl) (ty := .int) rfl rfl dX11_unlike_63 (⟨u0, rfl, by rw [← hul, show 5 - k = 0 by omega]; rfl, rfl⟩)
    | succ N ih10 =>
      intro k u0 u1 u2 hN10 hul ls hl H locs hP hD hS
      refine lv_iload hx hb dX11_unlike_10 (lv_at hl 5 rfl) ?_
      refine lv_iconst (v := 5) hx hb dX11_unlike_12 (by decide) ?_
      refine lv_icmp_ge (tgt := 62) hx hb dX11_unlike_13 (by decide) (fun c_3 => absurd c_3 (nI_ge (a := k) (b := 5) (by omega) (by omega))) (fun c_3 => ?_)
      refine lv_iload_n hx hb dX11_unlike_16 rfl (lv_at hl 3 rfl) ?_
      refine lv_bipush (v := 10) hx hb dX11_unlike_17 (by decide) ?_
      refine lv_irem hx hb dX11_unlike_19 (by decide) ?_
      refine lv_iload hx hb dX11_unlike_20 (lv_at hl 4 rfl) ?_
      refine lv_bipush (v := 10) hx hb dX11_unlike_22 (by decide) ?_
      refine lv_irem hx hb dX11_unlike_24 (by decide) ?_
      refine lv_isub hx hb dX11_unlike_25 ?_
      refine lv_istore (lv' := [(6, .int ((u1 - u1 / 10 * 10) - (u2 - u2 / 10 * 10))), (0, .int x), (1, .int y), (2, .int u0), (3, .int u1), (4, .int u2), (5, .int (nI k))]) hx hb dX11_unlike_26 hl (by decide) rfl (fun ls hl => ?_)
      refine lv_iload_n hx hb dX11_unlike_28 rfl (lv_at hl 3 rfl) ?_
      refine lv_iload hx hb dX11_unlike_29 (lv_at hl 0 rfl) ?_
      refine lv_if_ge (tgt := 40) hx hb dX11_unlike_31 (by decide) (fun c31 => ?_) (fun c31 => ?_)
      · refine lv_iload hx hb dX11_unlike_40 (lv_at hl 0 rfl) ?_
        refine lv_iadd hx hb dX11_unlike_42 ?_
        refine lv_istore_n (lv' := [(2, .int (u0 + ((u1 - u1 / 10 * 10) - (u2 - u2 / 10 * 10)))), (6, .int ((u1 - u1 / 10 * 10) - (u2 - u2 / 10 * 10))), (0, .int x), (1, .int y), (3, .int u1), (4, .int u2), (5, .int (nI k))]) hx hb dX11_unlike_43 rfl hl (by decide) rfl (fun ls hl => ?_)
        refine lv_iload_n hx hb dX11_unlike_44 rfl (lv_at hl 4 rfl) ?_
        refine lv_bipush (v := 10) hx hb dX11_unlike_45 (by decide) ?_
        refine lv_idiv hx hb dX11_unlike_47 (by decide) ?_
        refine lv_istore_n (lv' := [(3, .int (u1 / 10)), (2, .int (u0 + ((u1 - u1 / 10 * 10) - (u2 - u2 / 10 * 10)))), (6, .int ((u1 - u1 / 10 * 10) - (u2 - u2 / 10 * 10))), (0, .int x), (1, .int y), (4, .int u2), (5, .int (nI k))]) hx hb dX11_unlike_48 rfl hl (by decide) rfl (fun ls hl => ?_)
        refine lv_iload hx hb dX11_unlike_49 (lv_at hl 5 rfl) ?_
        refine lv_bipush (v := 10) hx hb dX11_unlike_51 (by decide) ?_
        refine lv_idiv hx hb dX11_unlike_53 (by decide) ?_
        refine lv_istore (lv' := [(4, .int (u2 / 10)), (3, .int (u1 / 10)), (2, .int (u0 + ((u1 - u1 / 10 * 10) - (u2 - u2 / 10 * 10)))), (6, .int ((u1 - u1 / 10 * 10) - (u2 - u2 / 10 * 10))), (0, .int x), (1, .int y), (5, .int (nI k))]) hx hb dX11_unlike_54 hl (by decide) rfl (fun ls hl => ?_)
        refine lv_iinc (v := nI (k + 1)) (lv' := [(5, .int (nI (k + 1))), (4, .int (u2 / 10)), (3, .int (u1 / 10)), (2, .int (u0 + ((u1 - u1 / 10 * 10) - (u2 - u2 / 10 * 10)))), (6, .int ((u1 - u1 / 10 * 10) - (u2 - u2 / 10 * 10))), (0, .int x), (1, .int y)]) hx hb dX11_unlike_56 hl (k := 6) rfl (nI_1 k) (by decide) rfl (fun ls hl => ?_)
        refine lv_goto (tgt := 10) hx hb dX11_unlike_59 (by decide) ?_
        exact ih10 (k + 1) (u0 + ((u1 - u1 / 10 * 10) - (u2 - u2 / 10 * 10))) (u1 / 10) (u2 / 10)  (by omega) (by rw [show 5 - (k + 1) = N by omega, ← hul, show 5 - k = N + 1 by omega, unl_s, show abI (u1 - u1 / 10 * 10 - (u2 - u2 / 10 * 10)) = (u1 - u1 / 10 * 10 - (u2 - u2 / 10 * 10)) from if_pos c31])   ls (lv_sub hl [5, 6, 3, 2, 1, 0] rfl) H locs hP hD hS
      · refine lv_iload hx hb dX11_unlike_34 (lv_at hl 0 rfl) ?_
        refine lv_ineg hx hb dX11_unlike_36 ?_
        refine lv_goto (tgt := 42) hx hb dX11_unlike_37 (by decide) ?_
        refine lv_iadd hx hb dX11_unlike_42 ?_
        refine lv_istore_n (lv' := [(2, .int (u0 + (-((u1 - u1 / 10 * 10) - (u2 - u2 / 10 * 10))))), (6, .int ((u1 - u1 / 10 * 10) - (u2 - u2 / 10 * 10))), (0, .int x), (1, .int y), (3, .int u1), (4, .int u2), (5, .int (nI k))]) hx hb dX11_unlike_43 rfl hl (by decide) rfl (fun ls hl => ?_)
        refine lv_iload_n hx hb dX11_unlike_44 rfl (lv_at hl 4 rfl) ?_
        refine lv_bipush (v := 10) hx hb dX11_unlike_45 (by decide) ?_
        refine lv_idiv hx hb dX11_unlike_47 (by decide) ?_
        refine lv_istore_n (lv' := [(3, .int (u1 / 10)), (2, .int (u0 + (-((u1 - u1 / 10 * 10) - (u2 - u2 / 10 * 10))))), (6, .int ((u1 - u1 / 10 * 10) - (u2 - u2 / 10 * 10))), (0, .int x), (1, .int y), (4, .int u2), (5, .int (nI k))]) hx hb dX11_unlike_48 rfl hl (by decide) rfl (fun ls hl => ?_)
        refine lv_iload hx hb dX11_unlike_49 (lv_at hl 5 rfl) ?_
        refine lv_bipush (v := 10) hx hb dX11_unlike_51 (by decide) ?_
        refine lv_idiv hx hb dX11_unlike_53 (by decide) ?_
        refine lv_istore (lv' := [(4, .int (u2 / 10)), (3, .int (u1 / 10)), (2, .int (u0 + (-((u1 - u1 / 10 * 10) - (u2 - u2 / 10 * 10))))), (6, .int ((u1 - u1 / 10 * 10) - (u2 - u2 / 10 * 10))), (0, .int x), (1, .int y), (5, .int (nI k))]) hx hb dX11_unlike_54 hl (by decide) rfl (fun ls hl => ?_)
        refine lv_iinc (v := nI (k + 1)) (lv' := [(5, .int (nI (k + 1))), (4, .int (u2 / 10)), (3, .int (u1 / 10)), (2, .int (u0 + (-((u1 - u1 / 10 * 10) - (u2 - u2 / 10 * 10))))), (6, .int ((u1 - u1 / 10 * 10) - (u2 - u2 / 10 * 10))), (0, .int x), (1, .int y)]) hx hb dX11_unlike_56 hl (k := 6) rfl (nI_1 k) (by decide) rfl (fun ls hl => ?_)
        refine lv_goto (tgt := 10) hx hb dX11_unlike_59 (by decide) ?_
        exact ih10 (k + 1) (u0 + (-((u1 - u1 / 10 * 10) - (u2 - u2 / 10 * 10)))) (u1 / 10) (u2 / 10)  (by omega) (by rw [show 5 - (k + 1) = N by omega, ← hul, show 5 - k = N + 1 by omega, unl_s, show abI (u1 - u1 / 10 * 10 - (u2 - u2 / 10 * 10)) = -(u1 - u1 / 10 * 10 - (u2 - u2 / 10 * 10)) from (if_neg c31).trans (Int32.zero_sub _)])   ls (lv_sub hl [5, 6, 3, 2, 1, 0] rfl) H locs hP hD hS
  exact lp10 _ 0 0 x y  (Nat.zero_add 5) rfl   ls (lv_sub hl [4, 5, 3, 2, 1, 0] rfl) H locs hP hD hS
set_option maxHeartbeats 4000000 in
set_option maxRecDepth 100000 in
theorem m_makes (l : Launch) (D : va_G) (cy : Nat → ClassId) (sk sv : Nat → Nat) (w : Wd) (tg : Nat → Nat) (y m2 m3 m4 m5 m6 m8 m9 m10 m11 m12 m13 m14 m17 m18 m19 m20 m21 m22 m23 m24 m29 m30 m31 m32 m33 m34 m35 m36 m37 m39 m40 m41 m42 m43 m44 m45 m46 m47 m48 m49 m51 m52 m53 m54 m56 m57 m58 m59 pc ac sc ln sh gf : Nat) (v0 td v26 v27 v28 v50 : Int32) (f8 : Nat → Int32) (f9 : Nat → Int32) (f10 : Nat → Int32) (f11 : Nat → Int32) (f12 : Nat → Int32) (x1 x2 x3 x4 : Int32) (c90 : wd_at w y (.inr (11, [.int v0, .int td, .ref m2, .ref m3, .ref m4, .ref m5, .ref m6, .int (nI pc), .ref m8, .ref m9, .ref m10, .ref m11, .ref m12, .ref m13, .ref m14, .int (nI ac), .int (nI sc), .ref m17, .ref m18, .ref m19, .ref m20, .ref m21, .ref m22, .ref m23, .ref m24, .int (nI ln), .int v26, .int v27, .int v28, .ref m29, .ref m30, .ref m31, .ref m32, .ref m33, .ref m34, .ref m35, .ref m36, .ref m37, .int (nI sh), .ref m39, .ref m40, .ref m41, .ref m42, .ref m43, .ref m44, .ref m45, .ref m46, .ref m47, .ref m48, .ref m49, .int v50, .ref m51, .ref m52, .ref m53, .ref m54, .int (nI gf), .ref m56, .ref m57, .ref m58, .ref m59]))) (c91 : wd_at w m8 (.inl (cy 2, 30, .inl f8))) (c92 : wd_at w m9 (.inl (cy 2, 30, .inl f9))) (c93 : wd_at w m10 (.inl (cy 2, 30, .inl f10))) (c94 : wd_at w m11 (.inl (cy 2, 30, .inl f11))) (c95 : wd_at w m12 (.inl (cy 2, 30, .inl f12)))  (S : Nat → Prop) (s90 : S y) (s91 : S m8) (s92 : S m9) (s93 : S m10) (s94 : S m11) (s95 : S m12) (ty : tg y = 10000) (tm8 : tg m8 = 10108) (tm9 : tg m9 = 10109) (tm10 : tg m10 = 10110) (tm11 : tg m11 = 10111) (tm12 : tg m12 = 10112) (hpc : pc < 30) : Ct l D cy sk sv yX11_makes wsX11_makes ({ frames := 0, cells := 0, slots := 0, locals := 0 }) [.ref y, .int x1, .int x2, .int x3, .int x4] w (fun v w1 => v = some (.int (nI pc)) ∧ wd_kp S w w1 ∧ wd_at w1 y (.inr (11, [.int v0, .int td, .ref m2, .ref m3, .ref m4, .ref m5, .ref m6, .int (nI (pc + 1)), .ref m8, .ref m9, .ref m10, .ref m11, .ref m12, .ref m13, .ref m14, .int (nI ac), .int (nI sc), .ref m17, .ref m18, .ref m19, .ref m20, .ref m21, .ref m22, .ref m23, .ref m24, .int (nI ln), .int v26, .int v27, .int v28, .ref m29, .ref m30, .ref m31, .ref m32, .ref m33, .ref m34, .ref m35, .ref m36, .ref m37, .int (nI sh), .ref m39, .ref m40, .ref m41, .ref m42, .ref m43, .ref m44, .ref m45, .ref m46, .ref m47, .ref m48, .ref m49, .int v50, .ref m51, .ref m52, .ref m53, .ref m54, .int (nI gf), .ref m56, .ref m57, .ref m58, .ref m59])) ∧ wd_at w1 m8 (.inl (cy 2, 30, .inl (upd f8 (nI pc).toNatClampNeg x1))) ∧ wd_at w1 m9 (.inl (cy 2, 30, .inl (upd f9 (nI pc).toNatClampNeg x2))) ∧ wd_at w1 m10 (.inl (cy 2, 30, .inl (upd f10 (nI pc).toNatClampNeg x3))) ∧ wd_at w1 m11 (.inl (cy 2, 30, .inl (upd f11 (nI pc).toNatClampNeg td))) ∧ wd_at w1 m12 (.inl (cy 2, 30, .inl (upd f12 (nI pc).toNatClampNeg x4)))) := by
  refine Ct.by (cc := cX11_makes) (maxL := 5) (ret := (some .int)) (by decide +kernel) rfl (Nat.le_of_ble_eq_true rfl) ?_
  intro p e s m args below meth c A Q F hnm K ls hl
  have F : wd_Fx p s m args meth c cX11_makes 5 wsX11_makes RX11 D cy sk sv A := F
  have hl : lv_has ls 5 [(0, .ref y), (1, .int x1), (2, .int x2), (3, .int x3), (4, .int x4)] := hl
  have hx := F.1.1
  have hb := F.1.2.1
  have hown := F.1.2.2.2.1
  have hts := F.1.2.2.2.2
  intro H locs hP hD hS
  have kp0 : wd_kp S w w := wd_kp.rf
  refine lv_aload_n hx hb dX11_makes_0 rfl (lv_at hl 0 rfl) ?_
  refine x_get (ref := "NoteHouseModel") F hP c90 rfl (fun _ h => List.mem_cons_of_mem _ (List.mem_append_right _ (h))) 8 (Nat.le_of_ble_eq_true rfl) (List.mem_cons_of_mem _ (List.mem_append_left _ (List.mem_of_getElem? (i := 0) rfl))) rfl rfl dX11_makes_1 ?_
  refine lv_aload_n hx hb dX11_makes_4 rfl (lv_at hl 0 rfl) ?_
  refine x_get (ref := "NoteHouseModel") F hP c90 rfl (fun _ h => List.mem_cons_of_mem _ (List.mem_append_right _ (h))) 7 (Nat.le_of_ble_eq_true rfl) (List.mem_cons_of_mem _ (List.mem_append_left _ (List.mem_of_getElem? (i := 1) rfl))) rfl rfl dX11_makes_5 ?_
  refine lv_iload_n hx hb dX11_makes_8 rfl (lv_at hl 1 rfl) ?_
  refine y_iast F hP hD hS c91 (vp_in_nI (n := pc) (N := 30) (by omega) (by decide)) dX11_makes_9 (fun w1 ew2 H locs hP hD hS => ?_)
  have k3 := wd_at.pt ew2 c90 (tg_ne ty tm8 (by decide))
  have k4 : wd_at w1 m8 (.inl (cy 2, 30, .inl (upd f8 (nI pc).toNatClampNeg x1))) := wd_at.ps ew2 c91
  have k5 := wd_at.pt ew2 c92 (tg_ne tm9 tm8 (by decide))
  have k6 := wd_at.pt ew2 c93 (tg_ne tm10 tm8 (by decide))
  have k7 := wd_at.pt ew2 c94 (tg_ne tm11 tm8 (by decide))
  have k8 := wd_at.pt ew2 c95 (tg_ne tm12 tm8 (by decide))
  have kp9 := kp0.put ew2 s91
  refine lv_aload_n hx hb dX11_makes_10 rfl (lv_at hl 0 rfl) ?_
  refine x_get (ref := "NoteHouseModel") F hP k3 rfl (fun _ h => List.mem_cons_of_mem _ (List.mem_append_right _ (h))) 9 (Nat.le_of_ble_eq_true rfl) (List.mem_cons_of_mem _ (List.mem_append_left _ (List.mem_of_getElem? (i := 2) rfl))) rfl rfl dX11_makes_11 ?_
  refine lv_aload_n hx hb dX11_makes_14 rfl (lv_at hl 0 rfl) ?_
  refine x_get (ref := "NoteHouseModel") F hP k3 rfl (fun _ h => List.mem_cons_of_mem _ (List.mem_append_right _ (h))) 7 (Nat.le_of_ble_eq_true rfl) (List.mem_cons_of_mem _ (List.mem_append_left _ (List.mem_of_getElem? (i := 1) rfl))) rfl rfl dX11_makes_15 ?_
  refine lv_iload_n hx hb dX11_makes_18 rfl (lv_at hl 2 rfl) ?_
  refine y_iast F hP hD hS k5 (vp_in_nI (n := pc) (N := 30) (by omega) (by decide)) dX11_makes_19 (fun w10 ew11 H locs hP hD hS => ?_)
  have k12 := wd_at.pt ew11 k3 (tg_ne ty tm9 (by decide))
  have k13 := wd_at.pt ew11 k4 (tg_ne tm8 tm9 (by decide))
  have k14 : wd_at w10 m9 (.inl (cy 2, 30, .inl (upd f9 (nI pc).toNatClampNeg x2))) := wd_at.ps ew11 k5
  have k15 := wd_at.pt ew11 k6 (tg_ne tm10 tm9 (by decide))
  have k16 := wd_at.pt ew11 k7 (tg_ne tm11 tm9 (by decide))
  have k17 := wd_at.pt ew11 k8 (tg_ne tm12 tm9 (by decide))
  have kp18 := kp9.put ew11 s92
  refine lv_aload_n hx hb dX11_makes_20 rfl (lv_at hl 0 rfl) ?_
  refine x_get (ref := "NoteHouseModel") F hP k12 rfl (fun _ h => List.mem_cons_of_mem _ (List.mem_append_right _ (h))) 10 (Nat.le_of_ble_eq_true rfl) (List.mem_cons_of_mem _ (List.mem_append_left _ (List.mem_of_getElem? (i := 3) rfl))) rfl rfl dX11_makes_21 ?_
  refine lv_aload_n hx hb dX11_makes_24 rfl (lv_at hl 0 rfl) ?_
  refine x_get (ref := "NoteHouseModel") F hP k12 rfl (fun _ h => List.mem_cons_of_mem _ (List.mem_append_right _ (h))) 7 (Nat.le_of_ble_eq_true rfl) (List.mem_cons_of_mem _ (List.mem_append_left _ (List.mem_of_getElem? (i := 1) rfl))) rfl rfl dX11_makes_25 ?_
  refine lv_iload_n hx hb dX11_makes_28 rfl (lv_at hl 3 rfl) ?_
  refine y_iast F hP hD hS k15 (vp_in_nI (n := pc) (N := 30) (by omega) (by decide)) dX11_makes_29 (fun w19 ew20 H locs hP hD hS => ?_)
  have k21 := wd_at.pt ew20 k12 (tg_ne ty tm10 (by decide))
  have k22 := wd_at.pt ew20 k13 (tg_ne tm8 tm10 (by decide))
  have k23 := wd_at.pt ew20 k14 (tg_ne tm9 tm10 (by decide))
  have k24 : wd_at w19 m10 (.inl (cy 2, 30, .inl (upd f10 (nI pc).toNatClampNeg x3))) := wd_at.ps ew20 k15
  have k25 := wd_at.pt ew20 k16 (tg_ne tm11 tm10 (by decide))
  have k26 := wd_at.pt ew20 k17 (tg_ne tm12 tm10 (by decide))
  have kp27 := kp18.put ew20 s93
  refine lv_aload_n hx hb dX11_makes_30 rfl (lv_at hl 0 rfl) ?_
  refine x_get (ref := "NoteHouseModel") F hP k21 rfl (fun _ h => List.mem_cons_of_mem _ (List.mem_append_right _ (h))) 11 (Nat.le_of_ble_eq_true rfl) (List.mem_cons_of_mem _ (List.mem_append_left _ (List.mem_of_getElem? (i := 4) rfl))) rfl rfl dX11_makes_31 ?_
  refine lv_aload_n hx hb dX11_makes_34 rfl (lv_at hl 0 rfl) ?_
  refine x_get (ref := "NoteHouseModel") F hP k21 rfl (fun _ h => List.mem_cons_of_mem _ (List.mem_append_right _ (h))) 7 (Nat.le_of_ble_eq_true rfl) (List.mem_cons_of_mem _ (List.mem_append_left _ (List.mem_of_getElem? (i := 1) rfl))) rfl rfl dX11_makes_35 ?_
  refine lv_aload_n hx hb dX11_makes_38 rfl (lv_at hl 0 rfl) ?_
  refine x_get (ref := "NoteHouseModel") F hP k21 rfl (fun _ h => List.mem_cons_of_mem _ (List.mem_append_right _ (h))) 1 (Nat.le_of_ble_eq_true rfl) (List.mem_cons_of_mem _ (List.mem_append_left _ (List.mem_of_getElem? (i := 5) rfl))) rfl rfl dX11_makes_39 ?_
  refine y_iast F hP hD hS k25 (vp_in_nI (n := pc) (N := 30) (by omega) (by decide)) dX11_makes_42 (fun w28 ew29 H locs hP hD hS => ?_)
  have k30 := wd_at.pt ew29 k21 (tg_ne ty tm11 (by decide))
  have k31 := wd_at.pt ew29 k22 (tg_ne tm8 tm11 (by decide))
  have k32 := wd_at.pt ew29 k23 (tg_ne tm9 tm11 (by decide))
  have k33 := wd_at.pt ew29 k24 (tg_ne tm10 tm11 (by decide))
  have k34 : wd_at w28 m11 (.inl (cy 2, 30, .inl (upd f11 (nI pc).toNatClampNeg td))) := wd_at.ps ew29 k25
  have k35 := wd_at.pt ew29 k26 (tg_ne tm12 tm11 (by decide))
  have kp36 := kp27.put ew29 s94
  refine lv_aload_n hx hb dX11_makes_43 rfl (lv_at hl 0 rfl) ?_
  refine x_get (ref := "NoteHouseModel") F hP k30 rfl (fun _ h => List.mem_cons_of_mem _ (List.mem_append_right _ (h))) 12 (Nat.le_of_ble_eq_true rfl) (List.mem_cons_of_mem _ (List.mem_append_left _ (List.mem_of_getElem? (i := 6) rfl))) rfl rfl dX11_makes_44 ?_
  refine lv_aload_n hx hb dX11_makes_47 rfl (lv_at hl 0 rfl) ?_
  refine x_get (ref := "NoteHouseModel") F hP k30 rfl (fun _ h => List.mem_cons_of_mem _ (List.mem_append_right _ (h))) 7 (Nat.le_of_ble_eq_true rfl) (List.mem_cons_of_mem _ (List.mem_append_left _ (List.mem_of_getElem? (i := 1) rfl))) rfl rfl dX11_makes_48 ?_
  refine lv_iload hx hb dX11_makes_51 (lv_at hl 4 rfl) ?_
  refine y_iast F hP hD hS k35 (vp_in_nI (n := pc) (N := 30) (by omega) (by decide)) dX11_makes_53 (fun w37 ew38 H locs hP hD hS => ?_)
  have k39 := wd_at.pt ew38 k30 (tg_ne ty tm12 (by decide))
  have k40 := wd_at.pt ew38 k31 (tg_ne tm8 tm12 (by decide))
  have k41 := wd_at.pt ew38 k32 (tg_ne tm9 tm12 (by decide))
  have k42 := wd_at.pt ew38 k33 (tg_ne tm10 tm12 (by decide))
  have k43 := wd_at.pt ew38 k34 (tg_ne tm11 tm12 (by decide))
  have k44 : wd_at w37 m12 (.inl (cy 2, 30, .inl (upd f12 (nI pc).toNatClampNeg x4))) := wd_at.ps ew38 k35
  have kp45 := kp36.put ew38 s95
  refine lv_aload_n hx hb dX11_makes_54 rfl (lv_at hl 0 rfl) ?_
  refine lv_dup hx hb dX11_makes_55 rfl ?_
  refine x_get (ref := "NoteHouseModel") F hP k39 rfl (fun _ h => List.mem_cons_of_mem _ (List.mem_append_right _ (h))) 7 (Nat.le_of_ble_eq_true rfl) (List.mem_cons_of_mem _ (List.mem_append_left _ (List.mem_of_getElem? (i := 1) rfl))) rfl rfl dX11_makes_56 ?_
  refine lv_iconst (v := 1) hx hb dX11_makes_59 (by decide) ?_
  refine lv_iadd hx hb dX11_makes_60 ?_
  rw [show ((nI pc) + 1 : Int32) = nI (pc + 1) from nI_add pc 1]
  refine y_put (ref := "NoteHouseModel") F hP hD hS k39 rfl (fun _ h => List.mem_cons_of_mem _ (List.mem_append_right _ (h))) tyX11_ok nmX11 7 (Nat.le_of_ble_eq_true rfl) (List.mem_cons_of_mem _ (List.mem_append_left _ (List.mem_of_getElem? (i := 1) rfl))) rfl rfl rfl rfl (Nat.le_of_ble_eq_true rfl) dX11_makes_61 (fun w46 ew47 H locs hP hD hS => ?_)
  have k48 : wd_at w46 y (.inr (11, [.int v0, .int td, .ref m2, .ref m3, .ref m4, .ref m5, .ref m6, .int (nI (pc + 1)), .ref m8, .ref m9, .ref m10, .ref m11, .ref m12, .ref m13, .ref m14, .int (nI ac), .int (nI sc), .ref m17, .ref m18, .ref m19, .ref m20, .ref m21, .ref m22, .ref m23, .ref m24, .int (nI ln), .int v26, .int v27, .int v28, .ref m29, .ref m30, .ref m31, .ref m32, .ref m33, .ref m34, .ref m35, .ref m36, .ref m37, .int (nI sh), .ref m39, .ref m40, .ref m41, .ref m42, .ref m43, .ref m44, .ref m45, .ref m46, .ref m47, .ref m48, .ref m49, .int v50, .ref m51, .ref m52, .ref m53, .ref m54, .int (nI gf), .ref m56, .ref m57, .ref m58, .ref m59])) := wd_at.ps ew47 k39
  have k49 := wd_at.pt ew47 k40 (tg_ne tm8 ty (by decide))
  have k50 := wd_at.pt ew47 k41 (tg_ne tm9 ty (by decide))
  have k51 := wd_at.pt ew47 k42 (tg_ne tm10 ty (by decide))
  have k52 := wd_at.pt ew47 k43 (tg_ne tm11 ty (by decide))
  have k53 := wd_at.pt ew47 k44 (tg_ne tm12 ty (by decide))
  have kp54 := kp45.put ew47 s90
  refine lv_aload_n hx hb dX11_makes_64 rfl (lv_at hl 0 rfl) ?_
  refine x_get (ref := "NoteHouseModel") F hP k48 rfl (fun _ h => List.mem_cons_of_mem _ (List.mem_append_right _ (h))) 7 (Nat.le_of_ble_eq_true rfl) (List.mem_cons_of_mem _ (List.mem_append_left _ (List.mem_of_getElem? (i := 1) rfl))) rfl rfl dX11_makes_65 ?_
  refine lv_iconst (v := 1) hx hb dX11_makes_68 (by decide) ?_
  refine lv_isub hx hb dX11_makes_69 ?_
  rw [show ((nI (pc + 1)) - 1 : Int32) = nI ((pc + 1) - 1) from pk_sub (a := (pc + 1)) (b := 1) (by omega)]
  exact y_ir K hP hD hS (Nat.le_of_ble_eq_true rfl) (Nat.le_of_ble_eq_true rfl) (ty := .int) rfl rfl dX11_makes_70 (⟨rfl, kp54, k48, k49, k50, k51, k52, k53⟩)
set_option maxHeartbeats 4000000 in
set_option maxRecDepth 100000 in
theorem m_isAdvised (l : Launch) (D : va_G) (cy : Nat → ClassId) (sk sv : Nat → Nat) (w : Wd) (tg : Nat → Nat) (y m2 m3 m4 m5 m6 m8 m9 m10 m11 m12 m13 m14 m17 m18 m19 m20 m21 m22 m23 m24 m29 m30 m31 m32 m33 m34 m35 m36 m37 m39 m40 m41 m42 m43 m44 m45 m46 m47 m48 m49 m51 m52 m53 m54 m56 m57 m58 m59 pc ac sc ln sh gf : Nat) (v0 td v26 v27 v28 v50 : Int32) (f17 : Nat → Int32) (f18 : Nat → Int32) (f19 : Nat → Int32) (f20 : Nat → Int32) (x1 x2 x3 : Int32) (av0 av1 av2 av3 : Nat → Int32) (c90 : wd_at w y (.inr (11, [.int v0, .int td, .ref m2, .ref m3, .ref m4, .ref m5, .ref m6, .int (nI pc), .ref m8, .ref m9, .ref m10, .ref m11, .ref m12, .ref m13, .ref m14, .int (nI ac), .int (nI sc), .ref m17, .ref m18, .ref m19, .ref m20, .ref m21, .ref m22, .ref m23, .ref m24, .int (nI ln), .int v26, .int v27, .int v28, .ref m29, .ref m30, .ref m31, .ref m32, .ref m33, .ref m34, .ref m35, .ref m36, .ref m37, .int (nI sh), .ref m39, .ref m40, .ref m41, .ref m42, .ref m43, .ref m44, .ref m45, .ref m46, .ref m47, .ref m48, .ref m49, .int v50, .ref m51, .ref m52, .ref m53, .ref m54, .int (nI gf), .ref m56, .ref m57, .ref m58, .ref m59]))) (c91 : wd_at w m17 (.inl (cy 2, 60, .inl f17))) (c92 : wd_at w m18 (.inl (cy 2, 60, .inl f18))) (c93 : wd_at w m19 (.inl (cy 2, 60, .inl f19))) (c94 : wd_at w m20 (.inl (cy 4, 60, .inl f20)))  (ty : tg y = 10000) (tm17 : tg m17 = 10117) (tm18 : tg m18 = 10118) (tm19 : tg m19 = 10119) (tm20 : tg m20 = 10120) (hac : ac ≤ 60) (hav : aOKr ac f18 f19 f20 av1 av2 av3) (hav0 : eqN ac f17 av0) (hd3 : ∃ u, u ≤ 3000 ∧ x3 = nI u) : Ct l D cy sk sv yX11_isAdvised wsX11_isAdvised ({ frames := 0, cells := 0, slots := 0, locals := 0 }) [.ref y, .int x1, .int x2, .int x3] w (fun v w1 => ∃ (r1 : Int32), v = some (.int r1) ∧ (r1 = b01 (adB ac av0 av1 av2 x1 x2 x3)) ∧ (r1 = 0 ∨ r1 = 1) ∧ w = w1) := by
  refine Ct.by (cc := cX11_isAdvised) (maxL := 6) (ret := (some .boolean)) (by decide +kernel) rfl (Nat.le_of_ble_eq_true rfl) ?_
  intro p e s m args below meth c A Q F hnm K ls hl
  have F : wd_Fx p s m args meth c cX11_isAdvised 6 wsX11_isAdvised RX11 D cy sk sv A := F
  have hl : lv_has ls 6 [(0, .ref y), (1, .int x1), (2, .int x2), (3, .int x3)] := hl
  have hx := F.1.1
  have hb := F.1.2.1
  have hown := F.1.2.2.2.1
  have hts := F.1.2.2.2.2
  intro H locs hP hD hS
  refine lv_iconst (v := 0) hx hb dX11_isAdvised_0 (by decide) ?_
  refine lv_istore (lv' := [(4, .int 0), (0, .ref y), (1, .int x1), (2, .int x2), (3, .int x3)]) hx hb dX11_isAdvised_1 hl (by decide) rfl (fun ls hl => ?_)
  refine lv_iconst (v := 0) hx hb dX11_isAdvised_3 (by decide) ?_
  refine lv_istore (lv' := [(5, .int 0), (4, .int 0), (0, .ref y), (1, .int x1), (2, .int x2), (3, .int x3)]) hx hb dX11_isAdvised_4 hl (by decide) rfl (fun ls hl => ?_)
  have lp6 : ∀ (N : Nat) (k : Nat) (r0 : Int32), (k + N = ac) → (r0 = b01 (anyB (adC av0 av1 av2 x1 x2 x3) k)) → ∀ (ls : Array Slot), lv_has ls 6 [(0, .ref y), (1, .int x1), (2, .int x2), (3, .int x3), (4, .int r0), (5, .int (nI k))] → Wv p l e ({ frames := 0, cells := 0, slots := 0, locals := 0 }) s m args below meth c D A (0) (0) Q w (F0 m 6 ls []) := by
    intro N
    induction N with
    | zero =>
      intro k r0 hN6 hr ls hl H locs hP hD hS
      refine lv_iload hx hb dX11_isAdvised_6 (lv_at hl 5 rfl) ?_
      refine lv_aload_n hx hb dX11_isAdvised_8 rfl (lv_at hl 0 rfl) ?_
      refine x_get (ref := "NoteHouseModel") F hP c90 rfl (fun _ h => List.mem_cons_of_mem _ (List.mem_append_right _ (h))) 15 (Nat.le_of_ble_eq_true rfl) (List.mem_cons_of_mem _ (List.mem_append_left _ (List.mem_of_getElem? (i := 0) rfl))) rfl rfl dX11_isAdvised_9 ?_
      refine lv_icmp_ge (tgt := 76) hx hb dX11_isAdvised_12 (by decide) (fun c_2 => ?_) (fun c_2 => absurd (nI_le (a := ac) (b := k) (by omega) (by omega)) c_2)
      refine lv_iload hx hb dX11_isAdvised_76 (lv_at hl 4 rfl) ?_
      exact y_ir K hP hD hS (Nat.le_of_ble_eq_true rfl) (Nat.le_of_ble_eq_true rfl) (ty := .boolean) rfl (by rw [hr]; exact b01_b _) dX11_isAdvised_78 (⟨r0, rfl, by rw [hr, show k = ac by omega]; rfl, by rw [hr]; cases anyB (adC av0 av1 av2 x1 x2 x3) k; exact Or.inl rfl; exact Or.inr rfl, rfl⟩)
    | succ N ih6 =>
      intro k r0 hN6 hr ls hl H locs hP hD hS
      refine lv_iload hx hb dX11_isAdvised_6 (lv_at hl 5 rfl) ?_
      refine lv_aload_n hx hb dX11_isAdvised_8 rfl (lv_at hl 0 rfl) ?_
      refine x_get (ref := "NoteHouseModel") F hP c90 rfl (fun _ h => List.mem_cons_of_mem _ (List.mem_append_right _ (h))) 15 (Nat.le_of_ble_eq_true rfl) (List.mem_cons_of_mem _ (List.mem_append_left _ (List.mem_of_getElem? (i := 0) rfl))) rfl rfl dX11_isAdvised_9 ?_
      refine lv_icmp_ge (tgt := 76) hx hb dX11_isAdvised_12 (by decide) (fun c_3 => absurd c_3 (nI_ge (a := k) (b := ac) (by omega) (by omega))) (fun c_3 => ?_)
      refine lv_iload hx hb dX11_isAdvised_15 (lv_at hl 4 rfl) ?_
      refine lv_if_ne (tgt := 63) hx hb dX11_isAdvised_17 (by decide) (fun c17 => ?_) (fun c17 => ?_)
      · refine lv_iconst (v := 1) hx hb dX11_isAdvised_63 (by decide) ?_
        refine lv_goto (tgt := 68) hx hb dX11_isAdvised_64 (by decide) ?_
        refine lv_istore (lv' := [(4, .int 1), (0, .ref y), (1, .int x1), (2, .int x2), (3, .int x3), (5, .int (nI k))]) hx hb dX11_isAdvised_68 hl (by decide) rfl (fun ls hl => ?_)
        refine lv_iinc (v := nI (k + 1)) (lv' := [(5, .int (nI (k + 1))), (4, .int 1), (0, .ref y), (1, .int x1), (2, .int x2), (3, .int x3)]) hx hb dX11_isAdvised_70 hl (k := 5) rfl (nI_1 k) (by decide) rfl (fun ls hl => ?_)
        refine lv_goto (tgt := 6) hx hb dX11_isAdvised_73 (by decide) ?_
        exact ih6 (k + 1) 1  (by omega) (by have h9 := b01_n (hr ▸ c17); show 1 = b01 (anyB (adC av0 av1 av2 x1 x2 x3) k || adC av0 av1 av2 x1 x2 x3 k); rw [h9]; rfl)   ls (lv_sub hl [2, 3, 4, 5, 1, 0] rfl) H locs hP hD hS
      · refine lv_aload_n hx hb dX11_isAdvised_20 rfl (lv_at hl 0 rfl) ?_
        refine x_get (ref := "NoteHouseModel") F hP c90 rfl (fun _ h => List.mem_cons_of_mem _ (List.mem_append_right _ (h))) 17 (Nat.le_of_ble_eq_true rfl) (List.mem_cons_of_mem _ (List.mem_append_left _ (List.mem_of_getElem? (i := 1) rfl))) rfl rfl dX11_isAdvised_21 ?_
        refine lv_iload hx hb dX11_isAdvised_24 (lv_at hl 5 rfl) ?_
        refine x_iald F hP c91 (vp_in_nI (n := k) (N := 60) (by omega) (by decide)) dX11_isAdvised_26 ?_
        rw [nI_clamp (n := k) (by omega), hav0 k (by omega)]
        refine lv_iload_n hx hb dX11_isAdvised_27 rfl (lv_at hl 1 rfl) ?_
        refine lv_icmp_ne (tgt := 67) hx hb dX11_isAdvised_28 (by decide) (fun ca1 => ?_) (fun ca1 => ?_)
        · refine lv_iconst (v := 0) hx hb dX11_isAdvised_67 (by decide) ?_
          refine lv_istore (lv' := [(4, .int 0), (0, .ref y), (1, .int x1), (2, .int x2), (3, .int x3), (5, .int (nI k))]) hx hb dX11_isAdvised_68 hl (by decide) rfl (fun ls hl => ?_)
          refine lv_iinc (v := nI (k + 1)) (lv' := [(5, .int (nI (k + 1))), (4, .int 0), (0, .ref y), (1, .int x1), (2, .int x2), (3, .int x3)]) hx hb dX11_isAdvised_70 hl (k := 5) rfl (nI_1 k) (by decide) rfl (fun ls hl => ?_)
          refine lv_goto (tgt := 6) hx hb dX11_isAdvised_73 (by decide) ?_
          exact ih6 (k + 1) 0  (by omega) (by have h9 := b01_0.mp (hr.symm.trans c17); show 0 = b01 (anyB (adC av0 av1 av2 x1 x2 x3) k || adC av0 av1 av2 x1 x2 x3 k); rw [h9, show adC av0 av1 av2 x1 x2 x3 k = false from by simp [adC, ca1]]; rfl)   ls (lv_sub hl [2, 3, 4, 5, 1, 0] rfl) H locs hP hD hS
        · refine lv_aload_n hx hb dX11_isAdvised_31 rfl (lv_at hl 0 rfl) ?_
          refine x_get (ref := "NoteHouseModel") F hP c90 rfl (fun _ h => List.mem_cons_of_mem _ (List.mem_append_right _ (h))) 18 (Nat.le_of_ble_eq_true rfl) (List.mem_cons_of_mem _ (List.mem_append_left _ (List.mem_of_getElem? (i := 2) rfl))) rfl rfl dX11_isAdvised_32 ?_
          refine lv_iload hx hb dX11_isAdvised_35 (lv_at hl 5 rfl) ?_
          refine x_iald F hP c92 (vp_in_nI (n := k) (N := 60) (by omega) (by decide)) dX11_isAdvised_37 ?_
          rw [nI_clamp (n := k) (by omega), (hav.1 k (by omega)).1]
          refine lv_iload_n hx hb dX11_isAdvised_38 rfl (lv_at hl 2 rfl) ?_
          refine lv_icmp_ne (tgt := 67) hx hb dX11_isAdvised_39 (by decide) (fun ca2 => ?_) (fun ca2 => ?_)
          · refine lv_iconst (v := 0) hx hb dX11_isAdvised_67 (by decide) ?_
            refine lv_istore (lv' := [(4, .int 0), (0, .ref y), (1, .int x1), (2, .int x2), (3, .int x3), (5, .int (nI k))]) hx hb dX11_isAdvised_68 hl (by decide) rfl (fun ls hl => ?_)
            refine lv_iinc (v := nI (k + 1)) (lv' := [(5, .int (nI (k + 1))), (4, .int 0), (0, .ref y), (1, .int x1), (2, .int x2), (3, .int x3)]) hx hb dX11_isAdvised_70 hl (k := 5) rfl (nI_1 k) (by decide) rfl (fun ls hl => ?_)
            refine lv_goto (tgt := 6) hx hb dX11_isAdvised_73 (by decide) ?_
            exact ih6 (k + 1) 0  (by omega) (by have h9 := b01_0.mp (hr.symm.trans c17); show 0 = b01 (anyB (adC av0 av1 av2 x1 x2 x3) k || adC av0 av1 av2 x1 x2 x3 k); rw [h9, show adC av0 av1 av2 x1 x2 x3 k = false from by simp [adC, ca1, ca2]]; rfl)   ls (lv_sub hl [2, 3, 4, 5, 1, 0] rfl) H locs hP hD hS
          · refine lv_aload_n hx hb dX11_isAdvised_42 rfl (lv_at hl 0 rfl) ?_
            refine x_get (ref := "NoteHouseModel") F hP c90 rfl (fun _ h => List.mem_cons_of_mem _ (List.mem_append_right _ (h))) 20 (Nat.le_of_ble_eq_true rfl) (List.mem_cons_of_mem _ (List.mem_append_left _ (List.mem_of_getElem? (i := 3) rfl))) rfl rfl dX11_isAdvised_43 ?_
            refine lv_iload hx hb dX11_isAdvised_46 (lv_at hl 5 rfl) ?_
            refine x_zald F hP c94 (vp_in_nI (n := k) (N := 60) (by omega) (by decide)) dX11_isAdvised_48 ?_
            rw [nI_clamp (n := k) (by omega), (hav.1 k (by omega)).2.1]
            refine lv_if_ne (tgt := 67) hx hb dX11_isAdvised_49 (by decide) (fun cL => ?_) (fun cL => ?_)
            · have hcd : hcI (av2 k) x3 = 0 := by rw [(hav.1 k (by omega)).2.2.2.2 cL]; rfl
              refine lv_iconst (v := 0) hx hb dX11_isAdvised_67 (by decide) ?_
              refine lv_istore (lv' := [(4, .int 0), (0, .ref y), (1, .int x1), (2, .int x2), (3, .int x3), (5, .int (nI k))]) hx hb dX11_isAdvised_68 hl (by decide) rfl (fun ls hl => ?_)
              refine lv_iinc (v := nI (k + 1)) (lv' := [(5, .int (nI (k + 1))), (4, .int 0), (0, .ref y), (1, .int x1), (2, .int x2), (3, .int x3)]) hx hb dX11_isAdvised_70 hl (k := 5) rfl (nI_1 k) (by decide) rfl (fun ls hl => ?_)
              refine lv_goto (tgt := 6) hx hb dX11_isAdvised_73 (by decide) ?_
              exact ih6 (k + 1) 0  (by omega) (by have h9 := b01_0.mp (hr.symm.trans c17); show 0 = b01 (anyB (adC av0 av1 av2 x1 x2 x3) k || adC av0 av1 av2 x1 x2 x3 k); rw [h9, show adC av0 av1 av2 x1 x2 x3 k = false from by simp [adC, ca1, ca2, hcd]]; rfl)   ls (lv_sub hl [2, 3, 4, 5, 1, 0] rfl) H locs hP hD hS
            · refine lv_aload_n hx hb dX11_isAdvised_52 rfl (lv_at hl 0 rfl) ?_
              refine x_get (ref := "NoteHouseModel") F hP c90 rfl (fun _ h => List.mem_cons_of_mem _ (List.mem_append_right _ (h))) 19 (Nat.le_of_ble_eq_true rfl) (List.mem_cons_of_mem _ (List.mem_append_left _ (List.mem_of_getElem? (i := 4) rfl))) rfl rfl dX11_isAdvised_53 ?_
              refine lv_iload hx hb dX11_isAdvised_56 (lv_at hl 5 rfl) ?_
              refine x_iald F hP c93 (vp_in_nI (n := k) (N := 60) (by omega) (by decide)) dX11_isAdvised_58 ?_
              rw [nI_clamp (n := k) (by omega), (hav.1 k (by omega)).2.2.1 cL]
              refine lv_iload_n hx hb dX11_isAdvised_59 rfl (lv_at hl 3 rfl) ?_
              refine lv_icmp_gt (tgt := 67) hx hb dX11_isAdvised_60 (by decide) (fun c_4 => ?_) (fun c_4 => ?_)
              · have hcd : hcI (av2 k) x3 = 0 := (hc_mc hd3).mp c_4
                refine lv_iconst (v := 0) hx hb dX11_isAdvised_67 (by decide) ?_
                refine lv_istore (lv' := [(4, .int 0), (0, .ref y), (1, .int x1), (2, .int x2), (3, .int x3), (5, .int (nI k))]) hx hb dX11_isAdvised_68 hl (by decide) rfl (fun ls hl => ?_)
                refine lv_iinc (v := nI (k + 1)) (lv' := [(5, .int (nI (k + 1))), (4, .int 0), (0, .ref y), (1, .int x1), (2, .int x2), (3, .int x3)]) hx hb dX11_isAdvised_70 hl (k := 5) rfl (nI_1 k) (by decide) rfl (fun ls hl => ?_)
                refine lv_goto (tgt := 6) hx hb dX11_isAdvised_73 (by decide) ?_
                exact ih6 (k + 1) 0  (by omega) (by have h9 := b01_0.mp (hr.symm.trans c17); show 0 = b01 (anyB (adC av0 av1 av2 x1 x2 x3) k || adC av0 av1 av2 x1 x2 x3 k); rw [h9, show adC av0 av1 av2 x1 x2 x3 k = false from by simp [adC, ca1, ca2, hcd]]; rfl)   ls (lv_sub hl [2, 3, 4, 5, 1, 0] rfl) H locs hP hD hS
              · have hcd : ¬ hcI (av2 k) x3 = 0 := fun q => c_4 ((hc_mc hd3).mpr q)
                refine lv_iconst (v := 1) hx hb dX11_isAdvised_63 (by decide) ?_
                refine lv_goto (tgt := 68) hx hb dX11_isAdvised_64 (by decide) ?_
                refine lv_istore (lv' := [(4, .int 1), (0, .ref y), (1, .int x1), (2, .int x2), (3, .int x3), (5, .int (nI k))]) hx hb dX11_isAdvised_68 hl (by decide) rfl (fun ls hl => ?_)
                refine lv_iinc (v := nI (k + 1)) (lv' := [(5, .int (nI (k + 1))), (4, .int 1), (0, .ref y), (1, .int x1), (2, .int x2), (3, .int x3)]) hx hb dX11_isAdvised_70 hl (k := 5) rfl (nI_1 k) (by decide) rfl (fun ls hl => ?_)
                refine lv_goto (tgt := 6) hx hb dX11_isAdvised_73 (by decide) ?_
                exact ih6 (k + 1) 1  (by omega) (by show 1 = b01 (anyB (adC av0 av1 av2 x1 x2 x3) k || adC av0 av1 av2 x1 x2 x3 k); rw [show adC av0 av1 av2 x1 x2 x3 k = true from by simp [adC, ca1, ca2, hcd], Bool.or_true]; rfl)   ls (lv_sub hl [2, 3, 4, 5, 1, 0] rfl) H locs hP hD hS
  exact lp6 _ 0 0  (Nat.zero_add ac) rfl   ls (lv_sub hl [2, 3, 4, 5, 1, 0] rfl) H locs hP hD hS
set_option maxHeartbeats 4000000 in
set_option maxRecDepth 100000 in
theorem m_isStopped (l : Launch) (D : va_G) (cy : Nat → ClassId) (sk sv : Nat → Nat) (w : Wd) (tg : Nat → Nat) (y m2 m3 m4 m5 m6 m8 m9 m10 m11 m12 m13 m14 m17 m18 m19 m20 m21 m22 m23 m24 m29 m30 m31 m32 m33 m34 m35 m36 m37 m39 m40 m41 m42 m43 m44 m45 m46 m47 m48 m49 m51 m52 m53 m54 m56 m57 m58 m59 pc ac sc ln sh gf : Nat) (v0 td v26 v27 v28 v50 : Int32) (f21 : Nat → Int32) (f22 : Nat → Int32) (qs : Nat → Option Nat) (sr : Nat → Nat) (fs : Nat → Nat → Int32) (x1 x2 x4 : Int32) (tw : Nat) (sp0 sp1 : Nat → Int32) (zC : Nat → Nat → Int32) (c90 : wd_at w y (.inr (11, [.int v0, .int td, .ref m2, .ref m3, .ref m4, .ref m5, .ref m6, .int (nI pc), .ref m8, .ref m9, .ref m10, .ref m11, .ref m12, .ref m13, .ref m14, .int (nI ac), .int (nI sc), .ref m17, .ref m18, .ref m19, .ref m20, .ref m21, .ref m22, .ref m23, .ref m24, .int (nI ln), .int v26, .int v27, .int v28, .ref m29, .ref m30, .ref m31, .ref m32, .ref m33, .ref m34, .ref m35, .ref m36, .ref m37, .int (nI sh), .ref m39, .ref m40, .ref m41, .ref m42, .ref m43, .ref m44, .ref m45, .ref m46, .ref m47, .ref m48, .ref m49, .int v50, .ref m51, .ref m52, .ref m53, .ref m54, .int (nI gf), .ref m56, .ref m57, .ref m58, .ref m59]))) (c91 : wd_at w m21 (.inl (cy 2, 60, .inl f21))) (c92 : wd_at w m22 (.inl (cy 2, 60, .inl f22))) (c93 : wd_at w m23 (.inl (cy 10, 60, .inr (.inr (.inr (.inr qs)))))) (hFSR : ∀ k9, k9 < 60 → qs k9 = some (sr k9) ∧ wd_at w (sr k9) (.inl (cy 2, 12, .inl (fs k9))) ∧ tg (sr k9) = 13000 + k9) (ty : tg y = 10000) (tm21 : tg m21 = 10121) (tm22 : tg m22 = 10122) (tm23 : tg m23 = 10123) (hsc : sc ≤ 60) (htw : tw < 12) (hs0 : eqN sc f21 sp0) (hs1 : eqN sc f22 sp1) (hzm : zOKm sc fs zC) (hd4 : ∃ u, u ≤ 3000 ∧ x4 = nI u) : Ct l D cy sk sv yX11_isStopped wsX11_isStopped ({ frames := 0, cells := 0, slots := 0, locals := 0 }) [.ref y, .int x1, .int x2, .int (nI tw), .int x4] w (fun v w1 => ∃ (r1 : Int32), v = some (.int r1) ∧ (r1 = b01 (stB sc sp0 sp1 zC x1 x2 tw x4)) ∧ (r1 = 0 ∨ r1 = 1) ∧ w = w1) := by
  refine Ct.by (cc := cX11_isStopped) (maxL := 7) (ret := (some .boolean)) (by decide +kernel) rfl (Nat.le_of_ble_eq_true rfl) ?_
  intro p e s m args below meth c A Q F hnm K ls hl
  have F : wd_Fx p s m args meth c cX11_isStopped 7 wsX11_isStopped RX11 D cy sk sv A := F
  have hl : lv_has ls 7 [(0, .ref y), (1, .int x1), (2, .int x2), (3, .int (nI tw)), (4, .int x4)] := hl
  have hx := F.1.1
  have hb := F.1.2.1
  have hown := F.1.2.2.2.1
  have hts := F.1.2.2.2.2
  intro H locs hP hD hS
  refine lv_iconst (v := 0) hx hb dX11_isStopped_0 (by decide) ?_
  refine lv_istore (lv' := [(5, .int 0), (0, .ref y), (1, .int x1), (2, .int x2), (3, .int (nI tw)), (4, .int x4)]) hx hb dX11_isStopped_1 hl (by decide) rfl (fun ls hl => ?_)
  refine lv_iconst (v := 0) hx hb dX11_isStopped_3 (by decide) ?_
  refine lv_istore (lv' := [(6, .int 0), (5, .int 0), (0, .ref y), (1, .int x1), (2, .int x2), (3, .int (nI tw)), (4, .int x4)]) hx hb dX11_isStopped_4 hl (by decide) rfl (fun ls hl => ?_)
  have lp6 : ∀ (N : Nat) (k : Nat) (r0 : Int32), (k + N = sc) → (r0 = b01 (anyB (stC sp0 sp1 zC x1 x2 tw x4) k)) → ∀ (ls : Array Slot), lv_has ls 7 [(0, .ref y), (1, .int x1), (2, .int x2), (3, .int (nI tw)), (4, .int x4), (5, .int r0), (6, .int (nI k))] → Wv p l e ({ frames := 0, cells := 0, slots := 0, locals := 0 }) s m args below meth c D A (0) (0) Q w (F0 m 6 ls []) := by
    intro N
    induction N with
    | zero =>
      intro k r0 hN6 hr ls hl H locs hP hD hS
      refine lv_iload hx hb dX11_isStopped_6 (lv_at hl 6 rfl) ?_
      refine lv_aload_n hx hb dX11_isStopped_8 rfl (lv_at hl 0 rfl) ?_
      refine x_get (ref := "NoteHouseModel") F hP c90 rfl (fun _ h => List.mem_cons_of_mem _ (List.mem_append_right _ (h))) 16 (Nat.le_of_ble_eq_true rfl) (List.mem_cons_of_mem _ (List.mem_append_left _ (List.mem_of_getElem? (i := 0) rfl))) rfl rfl dX11_isStopped_9 ?_
      refine lv_icmp_ge (tgt := 80) hx hb dX11_isStopped_12 (by decide) (fun c_2 => ?_) (fun c_2 => absurd (nI_le (a := sc) (b := k) (by omega) (by omega)) c_2)
      refine lv_iload hx hb dX11_isStopped_80 (lv_at hl 5 rfl) ?_
      exact y_ir K hP hD hS (Nat.le_of_ble_eq_true rfl) (Nat.le_of_ble_eq_true rfl) (ty := .boolean) rfl (by rw [hr]; exact b01_b _) dX11_isStopped_82 (⟨r0, rfl, by rw [hr, show k = sc by omega]; rfl, by rw [hr]; cases anyB (stC sp0 sp1 zC x1 x2 tw x4) k; exact Or.inl rfl; exact Or.inr rfl, rfl⟩)
    | succ N ih6 =>
      intro k r0 hN6 hr ls hl H locs hP hD hS
      refine lv_iload hx hb dX11_isStopped_6 (lv_at hl 6 rfl) ?_
      refine lv_aload_n hx hb dX11_isStopped_8 rfl (lv_at hl 0 rfl) ?_
      refine x_get (ref := "NoteHouseModel") F hP c90 rfl (fun _ h => List.mem_cons_of_mem _ (List.mem_append_right _ (h))) 16 (Nat.le_of_ble_eq_true rfl) (List.mem_cons_of_mem _ (List.mem_append_left _ (List.mem_of_getElem? (i := 0) rfl))) rfl rfl dX11_isStopped_9 ?_
      refine lv_icmp_ge (tgt := 80) hx hb dX11_isStopped_12 (by decide) (fun c_3 => absurd c_3 (nI_ge (a := k) (b := sc) (by omega) (by omega))) (fun c_3 => ?_)
      refine lv_iload hx hb dX11_isStopped_15 (lv_at hl 5 rfl) ?_
      refine lv_if_ne (tgt := 67) hx hb dX11_isStopped_17 (by decide) (fun c17 => ?_) (fun c17 => ?_)
      · refine lv_iconst (v := 1) hx hb dX11_isStopped_67 (by decide) ?_
        refine lv_goto (tgt := 72) hx hb dX11_isStopped_68 (by decide) ?_
        refine lv_istore (lv' := [(5, .int 1), (0, .ref y), (1, .int x1), (2, .int x2), (3, .int (nI tw)), (4, .int x4), (6, .int (nI k))]) hx hb dX11_isStopped_72 hl (by decide) rfl (fun ls hl => ?_)
        refine lv_iinc (v := nI (k + 1)) (lv' := [(6, .int (nI (k + 1))), (5, .int 1), (0, .ref y), (1, .int x1), (2, .int x2), (3, .int (nI tw)), (4, .int x4)]) hx hb dX11_isStopped_74 hl (k := 6) rfl (nI_1 k) (by decide) rfl (fun ls hl => ?_)
        refine lv_goto (tgt := 6) hx hb dX11_isStopped_77 (by decide) ?_
        exact ih6 (k + 1) 1  (by omega) (by have h9 := b01_n (hr ▸ c17); show 1 = b01 (anyB (stC sp0 sp1 zC x1 x2 tw x4) k || stC sp0 sp1 zC x1 x2 tw x4 k); rw [h9]; rfl)   ls (lv_sub hl [2, 3, 4, 5, 6, 1, 0] rfl) H locs hP hD hS
      · refine lv_aload_n hx hb dX11_isStopped_20 rfl (lv_at hl 0 rfl) ?_
        refine x_get (ref := "NoteHouseModel") F hP c90 rfl (fun _ h => List.mem_cons_of_mem _ (List.mem_append_right _ (h))) 21 (Nat.le_of_ble_eq_true rfl) (List.mem_cons_of_mem _ (List.mem_append_left _ (List.mem_of_getElem? (i := 1) rfl))) rfl rfl dX11_isStopped_21 ?_
        refine lv_iload hx hb dX11_isStopped_24 (lv_at hl 6 rfl) ?_
        refine x_iald F hP c91 (vp_in_nI (n := k) (N := 60) (by omega) (by decide)) dX11_isStopped_26 ?_
        rw [nI_clamp (n := k) (by omega), hs0 k (by omega)]
        refine lv_iload_n hx hb dX11_isStopped_27 rfl (lv_at hl 1 rfl) ?_
        refine lv_icmp_ne (tgt := 71) hx hb dX11_isStopped_28 (by decide) (fun ca1 => ?_) (fun ca1 => ?_)
        · refine lv_iconst (v := 0) hx hb dX11_isStopped_71 (by decide) ?_
          refine lv_istore (lv' := [(5, .int 0), (0, .ref y), (1, .int x1), (2, .int x2), (3, .int (nI tw)), (4, .int x4), (6, .int (nI k))]) hx hb dX11_isStopped_72 hl (by decide) rfl (fun ls hl => ?_)
          refine lv_iinc (v := nI (k + 1)) (lv' := [(6, .int (nI (k + 1))), (5, .int 0), (0, .ref y), (1, .int x1), (2, .int x2), (3, .int (nI tw)), (4, .int x4)]) hx hb dX11_isStopped_74 hl (k := 6) rfl (nI_1 k) (by decide) rfl (fun ls hl => ?_)
          refine lv_goto (tgt := 6) hx hb dX11_isStopped_77 (by decide) ?_
          exact ih6 (k + 1) 0  (by omega) (by have h9 := b01_0.mp (hr.symm.trans c17); show 0 = b01 (anyB (stC sp0 sp1 zC x1 x2 tw x4) k || stC sp0 sp1 zC x1 x2 tw x4 k); rw [h9, show stC sp0 sp1 zC x1 x2 tw x4 k = false from by simp [stC, hsB, ca1]]; rfl)   ls (lv_sub hl [2, 3, 4, 5, 6, 1, 0] rfl) H locs hP hD hS
        · refine lv_aload_n hx hb dX11_isStopped_31 rfl (lv_at hl 0 rfl) ?_
          refine x_get (ref := "NoteHouseModel") F hP c90 rfl (fun _ h => List.mem_cons_of_mem _ (List.mem_append_right _ (h))) 22 (Nat.le_of_ble_eq_true rfl) (List.mem_cons_of_mem _ (List.mem_append_left _ (List.mem_of_getElem? (i := 2) rfl))) rfl rfl dX11_isStopped_32 ?_
          refine lv_iload hx hb dX11_isStopped_35 (lv_at hl 6 rfl) ?_
          refine x_iald F hP c92 (vp_in_nI (n := k) (N := 60) (by omega) (by decide)) dX11_isStopped_37 ?_
          rw [nI_clamp (n := k) (by omega), hs1 k (by omega)]
          refine lv_iconst (v := (-1)) hx hb dX11_isStopped_38 (by decide) ?_
          refine lv_icmp_eq (tgt := 53) hx hb dX11_isStopped_39 (by decide) (fun ca2 => ?_) (fun ca2 => ?_)
          · refine lv_aload_n hx hb dX11_isStopped_53 rfl (lv_at hl 0 rfl) ?_
            refine x_get (ref := "NoteHouseModel") F hP c90 rfl (fun _ h => List.mem_cons_of_mem _ (List.mem_append_right _ (h))) 23 (Nat.le_of_ble_eq_true rfl) (List.mem_cons_of_mem _ (List.mem_append_left _ (List.mem_of_getElem? (i := 3) rfl))) rfl rfl dX11_isStopped_54 ?_
            refine lv_iload hx hb dX11_isStopped_57 (lv_at hl 6 rfl) ?_
            refine x_aaldA F hP c93 (vp_in_nI (n := k) (N := 60) (by omega) (by decide)) dX11_isStopped_59 ?_
            have pr4 := (hFSR k (by omega)).1
            have k5 := (hFSR k (by omega)).2.1
            have tz6 := (hFSR k (by omega)).2.2
            rw [nI_clamp (n := k) (by omega), pr4]
            refine W.eq (g2 := F0 m _ ls [.ref (sr k)]) rfl ?_
            refine lv_iload_n hx hb dX11_isStopped_60 rfl (lv_at hl 3 rfl) ?_
            refine x_iald F hP k5 (vp_in_nI (n := tw) (N := 12) (by omega) (by decide)) dX11_isStopped_61 ?_
            rw [nI_clamp (n := tw) (by omega), (hzm k (by omega) tw htw).1]
            refine lv_iload hx hb dX11_isStopped_62 (lv_at hl 4 rfl) ?_
            refine lv_icmp_gt (tgt := 71) hx hb dX11_isStopped_64 (by decide) (fun c_7 => ?_) (fun c_7 => ?_)
            · have hcd : hcI (zC k tw) x4 = 0 := (hc_mc hd4).mp c_7
              refine lv_iconst (v := 0) hx hb dX11_isStopped_71 (by decide) ?_
              refine lv_istore (lv' := [(5, .int 0), (0, .ref y), (1, .int x1), (2, .int x2), (3, .int (nI tw)), (4, .int x4), (6, .int (nI k))]) hx hb dX11_isStopped_72 hl (by decide) rfl (fun ls hl => ?_)
              refine lv_iinc (v := nI (k + 1)) (lv' := [(6, .int (nI (k + 1))), (5, .int 0), (0, .ref y), (1, .int x1), (2, .int x2), (3, .int (nI tw)), (4, .int x4)]) hx hb dX11_isStopped_74 hl (k := 6) rfl (nI_1 k) (by decide) rfl (fun ls hl => ?_)
              refine lv_goto (tgt := 6) hx hb dX11_isStopped_77 (by decide) ?_
              exact ih6 (k + 1) 0  (by omega) (by have h9 := b01_0.mp (hr.symm.trans c17); show 0 = b01 (anyB (stC sp0 sp1 zC x1 x2 tw x4) k || stC sp0 sp1 zC x1 x2 tw x4 k); rw [h9, show stC sp0 sp1 zC x1 x2 tw x4 k = false from by simp [stC, hsB, ca1, ca2, hcd]]; rfl)   ls (lv_sub hl [2, 3, 4, 5, 6, 1, 0] rfl) H locs hP hD hS
            · have hcd : ¬ hcI (zC k tw) x4 = 0 := fun q => c_7 ((hc_mc hd4).mpr q)
              refine lv_iconst (v := 1) hx hb dX11_isStopped_67 (by decide) ?_
              refine lv_goto (tgt := 72) hx hb dX11_isStopped_68 (by decide) ?_
              refine lv_istore (lv' := [(5, .int 1), (0, .ref y), (1, .int x1), (2, .int x2), (3, .int (nI tw)), (4, .int x4), (6, .int (nI k))]) hx hb dX11_isStopped_72 hl (by decide) rfl (fun ls hl => ?_)
              refine lv_iinc (v := nI (k + 1)) (lv' := [(6, .int (nI (k + 1))), (5, .int 1), (0, .ref y), (1, .int x1), (2, .int x2), (3, .int (nI tw)), (4, .int x4)]) hx hb dX11_isStopped_74 hl (k := 6) rfl (nI_1 k) (by decide) rfl (fun ls hl => ?_)
              refine lv_goto (tgt := 6) hx hb dX11_isStopped_77 (by decide) ?_
              exact ih6 (k + 1) 1  (by omega) (by show 1 = b01 (anyB (stC sp0 sp1 zC x1 x2 tw x4) k || stC sp0 sp1 zC x1 x2 tw x4 k); rw [show stC sp0 sp1 zC x1 x2 tw x4 k = true from by simp [stC, hsB, ca1, ca2, hcd], Bool.or_true]; rfl)   ls (lv_sub hl [2, 3, 4, 5, 6, 1, 0] rfl) H locs hP hD hS
          · refine lv_aload_n hx hb dX11_isStopped_42 rfl (lv_at hl 0 rfl) ?_
            refine x_get (ref := "NoteHouseModel") F hP c90 rfl (fun _ h => List.mem_cons_of_mem _ (List.mem_append_right _ (h))) 22 (Nat.le_of_ble_eq_true rfl) (List.mem_cons_of_mem _ (List.mem_append_left _ (List.mem_of_getElem? (i := 2) rfl))) rfl rfl dX11_isStopped_43 ?_
            refine lv_iload hx hb dX11_isStopped_46 (lv_at hl 6 rfl) ?_
            refine x_iald F hP c92 (vp_in_nI (n := k) (N := 60) (by omega) (by decide)) dX11_isStopped_48 ?_
            rw [nI_clamp (n := k) (by omega), hs1 k (by omega)]
            refine lv_iload_n hx hb dX11_isStopped_49 rfl (lv_at hl 2 rfl) ?_
            refine lv_icmp_ne (tgt := 71) hx hb dX11_isStopped_50 (by decide) (fun ca3 => ?_) (fun ca3 => ?_)
            · refine lv_iconst (v := 0) hx hb dX11_isStopped_71 (by decide) ?_
              refine lv_istore (lv' := [(5, .int 0), (0, .ref y), (1, .int x1), (2, .int x2), (3, .int (nI tw)), (4, .int x4), (6, .int (nI k))]) hx hb dX11_isStopped_72 hl (by decide) rfl (fun ls hl => ?_)
              refine lv_iinc (v := nI (k + 1)) (lv' := [(6, .int (nI (k + 1))), (5, .int 0), (0, .ref y), (1, .int x1), (2, .int x2), (3, .int (nI tw)), (4, .int x4)]) hx hb dX11_isStopped_74 hl (k := 6) rfl (nI_1 k) (by decide) rfl (fun ls hl => ?_)
              refine lv_goto (tgt := 6) hx hb dX11_isStopped_77 (by decide) ?_
              exact ih6 (k + 1) 0  (by omega) (by have h9 := b01_0.mp (hr.symm.trans c17); show 0 = b01 (anyB (stC sp0 sp1 zC x1 x2 tw x4) k || stC sp0 sp1 zC x1 x2 tw x4 k); rw [h9, show stC sp0 sp1 zC x1 x2 tw x4 k = false from by simp [stC, hsB, ca1, ca2, ca3]]; rfl)   ls (lv_sub hl [2, 3, 4, 5, 6, 1, 0] rfl) H locs hP hD hS
            · refine lv_aload_n hx hb dX11_isStopped_53 rfl (lv_at hl 0 rfl) ?_
              refine x_get (ref := "NoteHouseModel") F hP c90 rfl (fun _ h => List.mem_cons_of_mem _ (List.mem_append_right _ (h))) 23 (Nat.le_of_ble_eq_true rfl) (List.mem_cons_of_mem _ (List.mem_append_left _ (List.mem_of_getElem? (i := 3) rfl))) rfl rfl dX11_isStopped_54 ?_
              refine lv_iload hx hb dX11_isStopped_57 (lv_at hl 6 rfl) ?_
              refine x_aaldA F hP c93 (vp_in_nI (n := k) (N := 60) (by omega) (by decide)) dX11_isStopped_59 ?_
              have pr8 := (hFSR k (by omega)).1
              have k9 := (hFSR k (by omega)).2.1
              have tz10 := (hFSR k (by omega)).2.2
              rw [nI_clamp (n := k) (by omega), pr8]
              refine W.eq (g2 := F0 m _ ls [.ref (sr k)]) rfl ?_
              refine lv_iload_n hx hb dX11_isStopped_60 rfl (lv_at hl 3 rfl) ?_
              refine x_iald F hP k9 (vp_in_nI (n := tw) (N := 12) (by omega) (by decide)) dX11_isStopped_61 ?_
              rw [nI_clamp (n := tw) (by omega), (hzm k (by omega) tw htw).1]
              refine lv_iload hx hb dX11_isStopped_62 (lv_at hl 4 rfl) ?_
              refine lv_icmp_gt (tgt := 71) hx hb dX11_isStopped_64 (by decide) (fun c_11 => ?_) (fun c_11 => ?_)
              · have hcd : hcI (zC k tw) x4 = 0 := (hc_mc hd4).mp c_11
                refine lv_iconst (v := 0) hx hb dX11_isStopped_71 (by decide) ?_
                refine lv_istore (lv' := [(5, .int 0), (0, .ref y), (1, .int x1), (2, .int x2), (3, .int (nI tw)), (4, .int x4), (6, .int (nI k))]) hx hb dX11_isStopped_72 hl (by decide) rfl (fun ls hl => ?_)
                refine lv_iinc (v := nI (k + 1)) (lv' := [(6, .int (nI (k + 1))), (5, .int 0), (0, .ref y), (1, .int x1), (2, .int x2), (3, .int (nI tw)), (4, .int x4)]) hx hb dX11_isStopped_74 hl (k := 6) rfl (nI_1 k) (by decide) rfl (fun ls hl => ?_)
                refine lv_goto (tgt := 6) hx hb dX11_isStopped_77 (by decide) ?_
                exact ih6 (k + 1) 0  (by omega) (by have h9 := b01_0.mp (hr.symm.trans c17); show 0 = b01 (anyB (stC sp0 sp1 zC x1 x2 tw x4) k || stC sp0 sp1 zC x1 x2 tw x4 k); rw [h9, show stC sp0 sp1 zC x1 x2 tw x4 k = false from by simp [stC, hsB, ca1, ca2, ca3, hcd]]; rfl)   ls (lv_sub hl [2, 3, 4, 5, 6, 1, 0] rfl) H locs hP hD hS
              · have hcd : ¬ hcI (zC k tw) x4 = 0 := fun q => c_11 ((hc_mc hd4).mpr q)
                refine lv_iconst (v := 1) hx hb dX11_isStopped_67 (by decide) ?_
                refine lv_goto (tgt := 72) hx hb dX11_isStopped_68 (by decide) ?_
                refine lv_istore (lv' := [(5, .int 1), (0, .ref y), (1, .int x1), (2, .int x2), (3, .int (nI tw)), (4, .int x4), (6, .int (nI k))]) hx hb dX11_isStopped_72 hl (by decide) rfl (fun ls hl => ?_)
                refine lv_iinc (v := nI (k + 1)) (lv' := [(6, .int (nI (k + 1))), (5, .int 1), (0, .ref y), (1, .int x1), (2, .int x2), (3, .int (nI tw)), (4, .int x4)]) hx hb dX11_isStopped_74 hl (k := 6) rfl (nI_1 k) (by decide) rfl (fun ls hl => ?_)
                refine lv_goto (tgt := 6) hx hb dX11_isStopped_77 (by decide) ?_
                exact ih6 (k + 1) 1  (by omega) (by show 1 = b01 (anyB (stC sp0 sp1 zC x1 x2 tw x4) k || stC sp0 sp1 zC x1 x2 tw x4 k); rw [show stC sp0 sp1 zC x1 x2 tw x4 k = true from by simp [stC, hsB, ca1, ca2, ca3, hcd], Bool.or_true]; rfl)   ls (lv_sub hl [2, 3, 4, 5, 6, 1, 0] rfl) H locs hP hD hS
  exact lp6 _ 0 0  (Nat.zero_add sc) rfl   ls (lv_sub hl [2, 3, 4, 5, 6, 1, 0] rfl) H locs hP hD hS
set_option maxHeartbeats 4000000 in
set_option maxRecDepth 100000 in
theorem m_isStopped0 (l : Launch) (D : va_G) (cy : Nat → ClassId) (sk sv : Nat → Nat) (w : Wd) (tg : Nat → Nat) (y m2 m3 m4 m5 m6 m8 m9 m10 m11 m12 m13 m14 m17 m18 m19 m20 m21 m22 m23 m24 m29 m30 m31 m32 m33 m34 m35 m36 m37 m39 m40 m41 m42 m43 m44 m45 m46 m47 m48 m49 m51 m52 m53 m54 m56 m57 m58 m59 pc ac sc ln sh gf : Nat) (v0 td v26 v27 v28 v50 : Int32) (f21 : Nat → Int32) (f22 : Nat → Int32) (qs : Nat → Option Nat) (sr : Nat → Nat) (fs : Nat → Nat → Int32) (x1 x2 x4 : Int32) (tw : Nat) (c90 : wd_at w y (.inr (11, [.int v0, .int td, .ref m2, .ref m3, .ref m4, .ref m5, .ref m6, .int (nI pc), .ref m8, .ref m9, .ref m10, .ref m11, .ref m12, .ref m13, .ref m14, .int (nI ac), .int (nI sc), .ref m17, .ref m18, .ref m19, .ref m20, .ref m21, .ref m22, .ref m23, .ref m24, .int (nI ln), .int v26, .int v27, .int v28, .ref m29, .ref m30, .ref m31, .ref m32, .ref m33, .ref m34, .ref m35, .ref m36, .ref m37, .int (nI sh), .ref m39, .ref m40, .ref m41, .ref m42, .ref m43, .ref m44, .ref m45, .ref m46, .ref m47, .ref m48, .ref m49, .int v50, .ref m51, .ref m52, .ref m53, .ref m54, .int (nI gf), .ref m56, .ref m57, .ref m58, .ref m59]))) (c91 : wd_at w m21 (.inl (cy 2, 60, .inl f21))) (c92 : wd_at w m22 (.inl (cy 2, 60, .inl f22))) (c93 : wd_at w m23 (.inl (cy 10, 60, .inr (.inr (.inr (.inr qs)))))) (hFSR : ∀ k9, k9 < 60 → qs k9 = some (sr k9) ∧ wd_at w (sr k9) (.inl (cy 2, 12, .inl (fs k9))) ∧ tg (sr k9) = 13000 + k9) (ty : tg y = 10000) (tm21 : tg m21 = 10121) (tm22 : tg m22 = 10122) (tm23 : tg m23 = 10123) (hsc : sc ≤ 60) (htw : tw < 12) : Ct l D cy sk sv yX11_isStopped wsX11_isStopped ({ frames := 0, cells := 0, slots := 0, locals := 0 }) [.ref y, .int x1, .int x2, .int (nI tw), .int x4] w (fun v w1 => ∃ (r1 : Int32), v = some (.int r1) ∧ (r1 = 0 ∨ r1 = 1) ∧ w = w1) := by
  refine Ct.by (cc := cX11_isStopped) (maxL := 7) (ret := (some .boolean)) (by decide +kernel) rfl (Nat.le_of_ble_eq_true rfl) ?_
  intro p e s m args below meth c A Q F hnm K ls hl
  have F : wd_Fx p s m args meth c cX11_isStopped 7 wsX11_isStopped RX11 D cy sk sv A := F
  have hl : lv_has ls 7 [(0, .ref y), (1, .int x1), (2, .int x2), (3, .int (nI tw)), (4, .int x4)] := hl
  have hx := F.1.1
  have hb := F.1.2.1
  have hown := F.1.2.2.2.1
  have hts := F.1.2.2.2.2
  intro H locs hP hD hS
  refine lv_iconst (v := 0) hx hb dX11_isStopped_0 (by decide) ?_
  refine lv_istore (lv' := [(5, .int 0), (0, .ref y), (1, .int x1), (2, .int x2), (3, .int (nI tw)), (4, .int x4)]) hx hb dX11_isStopped_1 hl (by decide) rfl (fun ls hl => ?_)
  refine lv_iconst (v := 0) hx hb dX11_isStopped_3 (by decide) ?_
  refine lv_istore (lv' := [(6, .int 0), (5, .int 0), (0, .ref y), (1, .int x1), (2, .int x2), (3, .int (nI tw)), (4, .int x4)]) hx hb dX11_isStopped_4 hl (by decide) rfl (fun ls hl => ?_)
  have lp6 : ∀ (N : Nat) (k : Nat) (r0 : Int32), (k + N = sc) → (r0 = 0 ∨ r0 = 1) → ∀ (ls : Array Slot), lv_has ls 7 [(0, .ref y), (1, .int x1), (2, .int x2), (3, .int (nI tw)), (4, .int x4), (5, .int r0), (6, .int (nI k))] → Wv p l e ({ frames := 0, cells := 0, slots := 0, locals := 0 }) s m args below meth c D A (0) (0) Q w (F0 m 6 ls []) := by
    intro N
    induction N with
    | zero =>
      intro k r0 hN6 hr ls hl H locs hP hD hS
      refine lv_iload hx hb dX11_isStopped_6 (lv_at hl 6 rfl) ?_
      refine lv_aload_n hx hb dX11_isStopped_8 rfl (lv_at hl 0 rfl) ?_
      refine x_get (ref := "NoteHouseModel") F hP c90 rfl (fun _ h => List.mem_cons_of_mem _ (List.mem_append_right _ (h))) 16 (Nat.le_of_ble_eq_true rfl) (List.mem_cons_of_mem _ (List.mem_append_left _ (List.mem_of_getElem? (i := 0) rfl))) rfl rfl dX11_isStopped_9 ?_
      refine lv_icmp_ge (tgt := 80) hx hb dX11_isStopped_12 (by decide) (fun c_2 => ?_) (fun c_2 => absurd (nI_le (a := sc) (b := k) (by omega) (by omega)) c_2)
      refine lv_iload hx hb dX11_isStopped_80 (lv_at hl 5 rfl) ?_
      exact y_ir K hP hD hS (Nat.le_of_ble_eq_true rfl) (Nat.le_of_ble_eq_true rfl) (ty := .boolean) rfl (nb01 hr) dX11_isStopped_82 (⟨r0, rfl, hr, rfl⟩)
    | succ N ih6 =>
      intro k r0 hN6 hr ls hl H locs hP hD hS
      refine lv_iload hx hb dX11_isStopped_6 (lv_at hl 6 rfl) ?_
      refine lv_aload_n hx hb dX11_isStopped_8 rfl (lv_at hl 0 rfl) ?_
      refine x_get (ref := "NoteHouseModel") F hP c90 rfl (fun _ h => List.mem_cons_of_mem _ (List.mem_append_right _ (h))) 16 (Nat.le_of_ble_eq_true rfl) (List.mem_cons_of_mem _ (List.mem_append_left _ (List.mem_of_getElem? (i := 0) rfl))) rfl rfl dX11_isStopped_9 ?_
      refine lv_icmp_ge (tgt := 80) hx hb dX11_isStopped_12 (by decide) (fun c_3 => absurd c_3 (nI_ge (a := k) (b := sc) (by omega) (by omega))) (fun c_3 => ?_)
      refine lv_iload hx hb dX11_isStopped_15 (lv_at hl 5 rfl) ?_
      refine lv_if_ne (tgt := 67) hx hb dX11_isStopped_17 (by decide) (fun c_4 => ?_) (fun c_4 => ?_)
      · refine lv_iconst (v := 1) hx hb dX11_isStopped_67 (by decide) ?_
        refine lv_goto (tgt := 72) hx hb dX11_isStopped_68 (by decide) ?_
        refine lv_istore (lv' := [(5, .int 1), (0, .ref y), (1, .int x1), (2, .int x2), (3, .int (nI tw)), (4, .int x4), (6, .int (nI k))]) hx hb dX11_isStopped_72 hl (by decide) rfl (fun ls hl => ?_)
        refine lv_iinc (v := nI (k + 1)) (lv' := [(6, .int (nI (k + 1))), (5, .int 1), (0, .ref y), (1, .int x1), (2, .int x2), (3, .int (nI tw)), (4, .int x4)]) hx hb dX11_isStopped_74 hl (k := 6) rfl (nI_1 k) (by decide) rfl (fun ls hl => ?_)
        refine lv_goto (tgt := 6) hx hb dX11_isStopped_77 (by decide) ?_
        exact ih6 (k + 1) 1  (by omega) (Or.inr rfl)   ls (lv_sub hl [2, 3, 4, 5, 6, 1, 0] rfl) H locs hP hD hS
      · refine lv_aload_n hx hb dX11_isStopped_20 rfl (lv_at hl 0 rfl) ?_
        refine x_get (ref := "NoteHouseModel") F hP c90 rfl (fun _ h => List.mem_cons_of_mem _ (List.mem_append_right _ (h))) 21 (Nat.le_of_ble_eq_true rfl) (List.mem_cons_of_mem _ (List.mem_append_left _ (List.mem_of_getElem? (i := 1) rfl))) rfl rfl dX11_isStopped_21 ?_
        refine lv_iload hx hb dX11_isStopped_24 (lv_at hl 6 rfl) ?_
        refine x_iald F hP c91 (vp_in_nI (n := k) (N := 60) (by omega) (by decide)) dX11_isStopped_26 ?_
        refine lv_iload_n hx hb dX11_isStopped_27 rfl (lv_at hl 1 rfl) ?_
        refine lv_icmp_ne (tgt := 71) hx hb dX11_isStopped_28 (by decide) (fun c_5 => ?_) (fun c_5 => ?_)
        · refine lv_iconst (v := 0) hx hb dX11_isStopped_71 (by decide) ?_
          refine lv_istore (lv' := [(5, .int 0), (0, .ref y), (1, .int x1), (2, .int x2), (3, .int (nI tw)), (4, .int x4), (6, .int (nI k))]) hx hb dX11_isStopped_72 hl (by decide) rfl (fun ls hl => ?_)
          refine lv_iinc (v := nI (k + 1)) (lv' := [(6, .int (nI (k + 1))), (5, .int 0), (0, .ref y), (1, .int x1), (2, .int x2), (3, .int (nI tw)), (4, .int x4)]) hx hb dX11_isStopped_74 hl (k := 6) rfl (nI_1 k) (by decide) rfl (fun ls hl => ?_)
          refine lv_goto (tgt := 6) hx hb dX11_isStopped_77 (by decide) ?_
          exact ih6 (k + 1) 0  (by omega) (Or.inl rfl)   ls (lv_sub hl [2, 3, 4, 5, 6, 1, 0] rfl) H locs hP hD hS
        · refine lv_aload_n hx hb dX11_isStopped_31 rfl (lv_at hl 0 rfl) ?_
          refine x_get (ref := "NoteHouseModel") F hP c90 rfl (fun _ h => List.mem_cons_of_mem _ (List.mem_append_right _ (h))) 22 (Nat.le_of_ble_eq_true rfl) (List.mem_cons_of_mem _ (List.mem_append_left _ (List.mem_of_getElem? (i := 2) rfl))) rfl rfl dX11_isStopped_32 ?_
          refine lv_iload hx hb dX11_isStopped_35 (lv_at hl 6 rfl) ?_
          refine x_iald F hP c92 (vp_in_nI (n := k) (N := 60) (by omega) (by decide)) dX11_isStopped_37 ?_
          refine lv_iconst (v := (-1)) hx hb dX11_isStopped_38 (by decide) ?_
          refine lv_icmp_eq (tgt := 53) hx hb dX11_isStopped_39 (by decide) (fun c_6 => ?_) (fun c_6 => ?_)
          · refine lv_aload_n hx hb dX11_isStopped_53 rfl (lv_at hl 0 rfl) ?_
            refine x_get (ref := "NoteHouseModel") F hP c90 rfl (fun _ h => List.mem_cons_of_mem _ (List.mem_append_right _ (h))) 23 (Nat.le_of_ble_eq_true rfl) (List.mem_cons_of_mem _ (List.mem_append_left _ (List.mem_of_getElem? (i := 3) rfl))) rfl rfl dX11_isStopped_54 ?_
            refine lv_iload hx hb dX11_isStopped_57 (lv_at hl 6 rfl) ?_
            refine x_aaldA F hP c93 (vp_in_nI (n := k) (N := 60) (by omega) (by decide)) dX11_isStopped_59 ?_
            have pr7 := (hFSR k (by omega)).1
            have k8 := (hFSR k (by omega)).2.1
            have tz9 := (hFSR k (by omega)).2.2
            rw [nI_clamp (n := k) (by omega), pr7]
            refine W.eq (g2 := F0 m _ ls [.ref (sr k)]) rfl ?_
            refine lv_iload_n hx hb dX11_isStopped_60 rfl (lv_at hl 3 rfl) ?_
            refine x_iald F hP k8 (vp_in_nI (n := tw) (N := 12) (by omega) (by decide)) dX11_isStopped_61 ?_
            refine lv_iload hx hb dX11_isStopped_62 (lv_at hl 4 rfl) ?_
            refine lv_icmp_gt (tgt := 71) hx hb dX11_isStopped_64 (by decide) (fun c_10 => ?_) (fun c_10 => ?_)
            · refine lv_iconst (v := 0) hx hb dX11_isStopped_71 (by decide) ?_
              refine lv_istore (lv' := [(5, .int 0), (0, .ref y), (1, .int x1), (2, .int x2), (3, .int (nI tw)), (4, .int x4), (6, .int (nI k))]) hx hb dX11_isStopped_72 hl (by decide) rfl (fun ls hl => ?_)
              refine lv_iinc (v := nI (k + 1)) (lv' := [(6, .int (nI (k + 1))), (5, .int 0), (0, .ref y), (1, .int x1), (2, .int x2), (3, .int (nI tw)), (4, .int x4)]) hx hb dX11_isStopped_74 hl (k := 6) rfl (nI_1 k) (by decide) rfl (fun ls hl => ?_)
              refine lv_goto (tgt := 6) hx hb dX11_isStopped_77 (by decide) ?_
              exact ih6 (k + 1) 0  (by omega) (Or.inl rfl)   ls (lv_sub hl [2, 3, 4, 5, 6, 1, 0] rfl) H locs hP hD hS
            · refine lv_iconst (v := 1) hx hb dX11_isStopped_67 (by decide) ?_
              refine lv_goto (tgt := 72) hx hb dX11_isStopped_68 (by decide) ?_
              refine lv_istore (lv' := [(5, .int 1), (0, .ref y), (1, .int x1), (2, .int x2), (3, .int (nI tw)), (4, .int x4), (6, .int (nI k))]) hx hb dX11_isStopped_72 hl (by decide) rfl (fun ls hl => ?_)
              refine lv_iinc (v := nI (k + 1)) (lv' := [(6, .int (nI (k + 1))), (5, .int 1), (0, .ref y), (1, .int x1), (2, .int x2), (3, .int (nI tw)), (4, .int x4)]) hx hb dX11_isStopped_74 hl (k := 6) rfl (nI_1 k) (by decide) rfl (fun ls hl => ?_)
              refine lv_goto (tgt := 6) hx hb dX11_isStopped_77 (by decide) ?_
              exact ih6 (k + 1) 1  (by omega) (Or.inr rfl)   ls (lv_sub hl [2, 3, 4, 5, 6, 1, 0] rfl) H locs hP hD hS
          · refine lv_aload_n hx hb dX11_isStopped_42 rfl (lv_at hl 0 rfl) ?_
            refine x_get (ref := "NoteHouseModel") F hP c90 rfl (fun _ h => List.mem_cons_of_mem _ (List.mem_append_right _ (h))) 22 (Nat.le_of_ble_eq_true rfl) (List.mem_cons_of_mem _ (List.mem_append_left _ (List.mem_of_getElem? (i := 2) rfl))) rfl rfl dX11_isStopped_43 ?_
            refine lv_iload hx hb dX11_isStopped_46 (lv_at hl 6 rfl) ?_
            refine x_iald F hP c92 (vp_in_nI (n := k) (N := 60) (by omega) (by decide)) dX11_isStopped_48 ?_
            refine lv_iload_n hx hb dX11_isStopped_49 rfl (lv_at hl 2 rfl) ?_
            refine lv_icmp_ne (tgt := 71) hx hb dX11_isStopped_50 (by decide) (fun c_11 => ?_) (fun c_11 => ?_)
            · refine lv_iconst (v := 0) hx hb dX11_isStopped_71 (by decide) ?_
              refine lv_istore (lv' := [(5, .int 0), (0, .ref y), (1, .int x1), (2, .int x2), (3, .int (nI tw)), (4, .int x4), (6, .int (nI k))]) hx hb dX11_isStopped_72 hl (by decide) rfl (fun ls hl => ?_)
              refine lv_iinc (v := nI (k + 1)) (lv' := [(6, .int (nI (k + 1))), (5, .int 0), (0, .ref y), (1, .int x1), (2, .int x2), (3, .int (nI tw)), (4, .int x4)]) hx hb dX11_isStopped_74 hl (k := 6) rfl (nI_1 k) (by decide) rfl (fun ls hl => ?_)
              refine lv_goto (tgt := 6) hx hb dX11_isStopped_77 (by decide) ?_
              exact ih6 (k + 1) 0  (by omega) (Or.inl rfl)   ls (lv_sub hl [2, 3, 4, 5, 6, 1, 0] rfl) H locs hP hD hS
            · refine lv_aload_n hx hb dX11_isStopped_53 rfl (lv_at hl 0 rfl) ?_
              refine x_get (ref := "NoteHouseModel") F hP c90 rfl (fun _ h => List.mem_cons_of_mem _ (List.mem_append_right _ (h))) 23 (Nat.le_of_ble_eq_true rfl) (List.mem_cons_of_mem _ (List.mem_append_left _ (List.mem_of_getElem? (i := 3) rfl))) rfl rfl dX11_isStopped_54 ?_
              refine lv_iload hx hb dX11_isStopped_57 (lv_at hl 6 rfl) ?_
              refine x_aaldA F hP c93 (vp_in_nI (n := k) (N := 60) (by omega) (by decide)) dX11_isStopped_59 ?_
              have pr12 := (hFSR k (by omega)).1
              have k13 := (hFSR k (by omega)).2.1
              have tz14 := (hFSR k (by omega)).2.2
              rw [nI_clamp (n := k) (by omega), pr12]
              refine W.eq (g2 := F0 m _ ls [.ref (sr k)]) rfl ?_
              refine lv_iload_n hx hb dX11_isStopped_60 rfl (lv_at hl 3 rfl) ?_
              refine x_iald F hP k13 (vp_in_nI (n := tw) (N := 12) (by omega) (by decide)) dX11_isStopped_61 ?_
              refine lv_iload hx hb dX11_isStopped_62 (lv_at hl 4 rfl) ?_
              refine lv_icmp_gt (tgt := 71) hx hb dX11_isStopped_64 (by decide) (fun c_15 => ?_) (fun c_15 => ?_)
              · refine lv_iconst (v := 0) hx hb dX11_isStopped_71 (by decide) ?_
                refine lv_istore (lv' := [(5, .int 0), (0, .ref y), (1, .int x1), (2, .int x2), (3, .int (nI tw)), (4, .int x4), (6, .int (nI k))]) hx hb dX11_isStopped_72 hl (by decide) rfl (fun ls hl => ?_)
                refine lv_iinc (v := nI (k + 1)) (lv' := [(6, .int (nI (k + 1))), (5, .int 0), (0, .ref y), (1, .int x1), (2, .int x2), (3, .int (nI tw)), (4, .int x4)]) hx hb dX11_isStopped_74 hl (k := 6) rfl (nI_1 k) (by decide) rfl (fun ls hl => ?_)
                refine lv_goto (tgt := 6) hx hb dX11_isStopped_77 (by decide) ?_
                exact ih6 (k + 1) 0  (by omega) (Or.inl rfl)   ls (lv_sub hl [2, 3, 4, 5, 6, 1, 0] rfl) H locs hP hD hS
              · refine lv_iconst (v := 1) hx hb dX11_isStopped_67 (by decide) ?_
                refine lv_goto (tgt := 72) hx hb dX11_isStopped_68 (by decide) ?_
                refine lv_istore (lv' := [(5, .int 1), (0, .ref y), (1, .int x1), (2, .int x2), (3, .int (nI tw)), (4, .int x4), (6, .int (nI k))]) hx hb dX11_isStopped_72 hl (by decide) rfl (fun ls hl => ?_)
                refine lv_iinc (v := nI (k + 1)) (lv' := [(6, .int (nI (k + 1))), (5, .int 1), (0, .ref y), (1, .int x1), (2, .int x2), (3, .int (nI tw)), (4, .int x4)]) hx hb dX11_isStopped_74 hl (k := 6) rfl (nI_1 k) (by decide) rfl (fun ls hl => ?_)
                refine lv_goto (tgt := 6) hx hb dX11_isStopped_77 (by decide) ?_
                exact ih6 (k + 1) 1  (by omega) (Or.inr rfl)   ls (lv_sub hl [2, 3, 4, 5, 6, 1, 0] rfl) H locs hP hD hS
  exact lp6 _ 0 0  (Nat.zero_add sc) (Or.inl rfl)   ls (lv_sub hl [2, 3, 4, 5, 6, 1, 0] rfl) H locs hP hD hS
set_option maxHeartbeats 4000000 in
set_option maxRecDepth 100000 in
theorem m_put (l : Launch) (D : va_G) (cy : Nat → ClassId) (sk sv : Nat → Nat) (w : Wd) (tg : Nat → Nat) (y m2 m3 m4 m5 m6 m8 m9 m10 m11 m12 m13 m14 m17 m18 m19 m20 m21 m22 m23 m24 m29 m30 m31 m32 m33 m34 m35 m36 m37 m39 m40 m41 m42 m43 m44 m45 m46 m47 m48 m49 m51 m52 m53 m54 m56 m57 m58 m59 pc ac sc ln sh gf : Nat) (v0 td v26 v27 v28 v50 : Int32) (f24 : Nat → Int32) (x0 : Int32) (c90 : wd_at w y (.inr (11, [.int v0, .int td, .ref m2, .ref m3, .ref m4, .ref m5, .ref m6, .int (nI pc), .ref m8, .ref m9, .ref m10, .ref m11, .ref m12, .ref m13, .ref m14, .int (nI ac), .int (nI sc), .ref m17, .ref m18, .ref m19, .ref m20, .ref m21, .ref m22, .ref m23, .ref m24, .int (nI ln), .int v26, .int v27, .int v28, .ref m29, .ref m30, .ref m31, .ref m32, .ref m33, .ref m34, .ref m35, .ref m36, .ref m37, .int (nI sh), .ref m39, .ref m40, .ref m41, .ref m42, .ref m43, .ref m44, .ref m45, .ref m46, .ref m47, .ref m48, .ref m49, .int v50, .ref m51, .ref m52, .ref m53, .ref m54, .int (nI gf), .ref m56, .ref m57, .ref m58, .ref m59]))) (c91 : wd_at w m24 (.inl (cy 0, 300, .inl f24)))  (S : Nat → Prop) (s90 : S y) (s91 : S m24) (ty : tg y = 10000) (tm24 : tg m24 = 10124) (hln : ln + 4 ≤ 300) : Ct l D cy sk sv yX11_put wsX11_put ({ frames := 0, cells := 0, slots := 0, locals := 0 }) [.ref y, .int x0] w (fun v w1 => v = none ∧ wd_kp S w w1 ∧ wd_at w1 y (.inr (11, [.int v0, .int td, .ref m2, .ref m3, .ref m4, .ref m5, .ref m6, .int (nI pc), .ref m8, .ref m9, .ref m10, .ref m11, .ref m12, .ref m13, .ref m14, .int (nI ac), .int (nI sc), .ref m17, .ref m18, .ref m19, .ref m20, .ref m21, .ref m22, .ref m23, .ref m24, .int (nI (ln + 4)), .int v26, .int v27, .int v28, .ref m29, .ref m30, .ref m31, .ref m32, .ref m33, .ref m34, .ref m35, .ref m36, .ref m37, .int (nI sh), .ref m39, .ref m40, .ref m41, .ref m42, .ref m43, .ref m44, .ref m45, .ref m46, .ref m47, .ref m48, .ref m49, .int v50, .ref m51, .ref m52, .ref m53, .ref m54, .int (nI gf), .ref m56, .ref m57, .ref m58, .ref m59])) ∧ wd_at w1 m24 (.inl (cy 0, 300, .inl (ap4 f24 ln x0)))) := by
  refine Ct.by (cc := cX11_put) (maxL := 3) (ret := none) (by decide +kernel) rfl (Nat.le_of_ble_eq_true rfl) ?_
  intro p e s m args below meth c A Q F hnm K ls hl
  have F : wd_Fx p s m args meth c cX11_put 3 wsX11_put RX11 D cy sk sv A := F
  have hl : lv_has ls 3 [(0, .ref y), (1, .int x0)] := hl
  have hx := F.1.1
  have hb := F.1.2.1
  have hown := F.1.2.2.2.1
  have hts := F.1.2.2.2.2
  intro H locs hP hD hS
  have kp0 : wd_kp S w w := wd_kp.rf
  refine lv_bipush (v := 24) hx hb dX11_put_0 (by decide) ?_
  refine lv_istore_n (lv' := [(2, .int 24), (0, .ref y), (1, .int x0)]) hx hb dX11_put_2 rfl hl (by decide) rfl (fun ls hl => ?_)
  refine lv_iload_n hx hb dX11_put_3 rfl (lv_at hl 0 rfl) ?_
  refine lv_if_lt (tgt := 36) hx hb dX11_put_4 (by decide) (fun c_1 => absurd c_1 (show ¬ (24 : Int32) < (0 : Int32) by decide)) (fun c_1 => ?_)
  refine lv_aload_n hx hb dX11_put_7 rfl (lv_at hl 1 rfl) ?_
  refine x_get (ref := "NoteHouseModel") F hP c90 rfl (fun _ h => List.mem_cons_of_mem _ (List.mem_append_right _ (h))) 24 (Nat.le_of_ble_eq_true rfl) (List.mem_cons_of_mem _ (List.mem_append_left _ (List.mem_of_getElem? (i := 0) rfl))) rfl rfl dX11_put_8 ?_
  refine lv_aload_n hx hb dX11_put_11 rfl (lv_at hl 1 rfl) ?_
  refine x_get (ref := "NoteHouseModel") F hP c90 rfl (fun _ h => List.mem_cons_of_mem _ (List.mem_append_right _ (h))) 25 (Nat.le_of_ble_eq_true rfl) (List.mem_cons_of_mem _ (List.mem_append_left _ (List.mem_of_getElem? (i := 1) rfl))) rfl rfl dX11_put_12 ?_
  refine lv_iload_n hx hb dX11_put_15 rfl (lv_at hl 2 rfl) ?_
  refine lv_iload_n hx hb dX11_put_16 rfl (lv_at hl 0 rfl) ?_
  refine lv_ishr hx hb dX11_put_17 ?_
  refine lv_i2b (v := (x0 >>> (24 &&& 31)).toInt8.toInt32) hx hb dX11_put_18 (rfl) ?_
  refine y_bast F hP hD hS c91 (vp_in_nI (n := ln) (N := 300) (by omega) (by decide)) dX11_put_19 (fun w2 ew3 H locs hP hD hS => ?_)
  have k4 := wd_at.pt ew3 c90 (tg_ne ty tm24 (by decide))
  have k5 : wd_at w2 m24 (.inl (cy 0, 300, .inl (upd f24 (nI ln).toNatClampNeg (vp_nar .byte ((x0 >>> (24 &&& 31)).toInt8.toInt32))))) := wd_at.ps ew3 c91
  have kp6 := kp0.put ew3 s91
  refine lv_aload_n hx hb dX11_put_20 rfl (lv_at hl 1 rfl) ?_
  refine lv_dup hx hb dX11_put_21 rfl ?_
  refine x_get (ref := "NoteHouseModel") F hP k4 rfl (fun _ h => List.mem_cons_of_mem _ (List.mem_append_right _ (h))) 25 (Nat.le_of_ble_eq_true rfl) (List.mem_cons_of_mem _ (List.mem_append_left _ (List.mem_of_getElem? (i := 1) rfl))) rfl rfl dX11_put_22 ?_
  refine lv_iconst (v := 1) hx hb dX11_put_25 (by decide) ?_
  refine lv_iadd hx hb dX11_put_26 ?_
  rw [show ((nI ln) + 1 : Int32) = nI (ln + 1) from nI_1 ln]
  refine y_put (ref := "NoteHouseModel") F hP hD hS k4 rfl (fun _ h => List.mem_cons_of_mem _ (List.mem_append_right _ (h))) tyX11_ok nmX11 25 (Nat.le_of_ble_eq_true rfl) (List.mem_cons_of_mem _ (List.mem_append_left _ (List.mem_of_getElem? (i := 1) rfl))) rfl rfl rfl rfl (Nat.le_of_ble_eq_true rfl) dX11_put_27 (fun w7 ew8 H locs hP hD hS => ?_)
  have k9 : wd_at w7 y (.inr (11, [.int v0, .int td, .ref m2, .ref m3, .ref m4, .ref m5, .ref m6, .int (nI pc), .ref m8, .ref m9, .ref m10, .ref m11, .ref m12, .ref m13, .ref m14, .int (nI ac), .int (nI sc), .ref m17, .ref m18, .ref m19, .ref m20, .ref m21, .ref m22, .ref m23, .ref m24, .int (nI (ln + 1)), .int v26, .int v27, .int v28, .ref m29, .ref m30, .ref m31, .ref m32, .ref m33, .ref m34, .ref m35, .ref m36, .ref m37, .int (nI sh), .ref m39, .ref m40, .ref m41, .ref m42, .ref m43, .ref m44, .ref m45, .ref m46, .ref m47, .ref m48, .ref m49, .int v50, .ref m51, .ref m52, .ref m53, .ref m54, .int (nI gf), .ref m56, .ref m57, .ref m58, .ref m59])) := wd_at.ps ew8 k4
  have k10 := wd_at.pt ew8 k5 (tg_ne tm24 ty (by decide))
  have kp11 := kp6.put ew8 s90
  refine lv_iinc (v := 16) (lv' := [(2, .int 16), (0, .ref y), (1, .int x0)]) hx hb dX11_put_30 hl (k := 0) rfl (by decide) (by decide) rfl (fun ls hl => ?_)
  refine lv_goto (tgt := 3) hx hb dX11_put_33 (by decide) ?_
  refine lv_iload_n hx hb dX11_put_3 rfl (lv_at hl 0 rfl) ?_
  refine lv_if_lt (tgt := 36) hx hb dX11_put_4 (by decide) (fun c_12 => absurd c_12 (show ¬ (16 : Int32) < (0 : Int32) by decide)) (fun c_12 => ?_)
  refine lv_aload_n hx hb dX11_put_7 rfl (lv_at hl 1 rfl) ?_
  refine x_get (ref := "NoteHouseModel") F hP k9 rfl (fun _ h => List.mem_cons_of_mem _ (List.mem_append_right _ (h))) 24 (Nat.le_of_ble_eq_true rfl) (List.mem_cons_of_mem _ (List.mem_append_left _ (List.mem_of_getElem? (i := 0) rfl))) rfl rfl dX11_put_8 ?_
  refine lv_aload_n hx hb dX11_put_11 rfl (lv_at hl 1 rfl) ?_
  refine x_get (ref := "NoteHouseModel") F hP k9 rfl (fun _ h => List.mem_cons_of_mem _ (List.mem_append_right _ (h))) 25 (Nat.le_of_ble_eq_true rfl) (List.mem_cons_of_mem _ (List.mem_append_left _ (List.mem_of_getElem? (i := 1) rfl))) rfl rfl dX11_put_12 ?_
  refine lv_iload_n hx hb dX11_put_15 rfl (lv_at hl 2 rfl) ?_
  refine lv_iload_n hx hb dX11_put_16 rfl (lv_at hl 0 rfl) ?_
  refine lv_ishr hx hb dX11_put_17 ?_
  refine lv_i2b (v := (x0 >>> (16 &&& 31)).toInt8.toInt32) hx hb dX11_put_18 (rfl) ?_
  refine y_bast F hP hD hS k10 (vp_in_nI (n := (ln + 1)) (N := 300) (by omega) (by decide)) dX11_put_19 (fun w13 ew14 H locs hP hD hS => ?_)
  have k15 := wd_at.pt ew14 k9 (tg_ne ty tm24 (by decide))
  have k16 : wd_at w13 m24 (.inl (cy 0, 300, .inl (upd (upd f24 (nI ln).toNatClampNeg (vp_nar .byte ((x0 >>> (24 &&& 31)).toInt8.toInt32))) (nI (ln + 1)).toNatClampNeg (vp_nar .byte ((x0 >>> (16 &&& 31)).toInt8.toInt32))))) := wd_at.ps ew14 k10
  have kp17 := kp11.put ew14 s91
  refine lv_aload_n hx hb dX11_put_20 rfl (lv_at hl 1 rfl) ?_
  refine lv_dup hx hb dX11_put_21 rfl ?_
  refine x_get (ref := "NoteHouseModel") F hP k15 rfl (fun _ h => List.mem_cons_of_mem _ (List.mem_append_right _ (h))) 25 (Nat.le_of_ble_eq_true rfl) (List.mem_cons_of_mem _ (List.mem_append_left _ (List.mem_of_getElem? (i := 1) rfl))) rfl rfl dX11_put_22 ?_
  refine lv_iconst (v := 1) hx hb dX11_put_25 (by decide) ?_
  refine lv_iadd hx hb dX11_put_26 ?_
  rw [show ((nI (ln + 1)) + 1 : Int32) = nI (ln + 2) from nI_1 (ln + 1)]
  refine y_put (ref := "NoteHouseModel") F hP hD hS k15 rfl (fun _ h => List.mem_cons_of_mem _ (List.mem_append_right _ (h))) tyX11_ok nmX11 25 (Nat.le_of_ble_eq_true rfl) (List.mem_cons_of_mem _ (List.mem_append_left _ (List.mem_of_getElem? (i := 1) rfl))) rfl rfl rfl rfl (Nat.le_of_ble_eq_true rfl) dX11_put_27 (fun w18 ew19 H locs hP hD hS => ?_)
  have k20 : wd_at w18 y (.inr (11, [.int v0, .int td, .ref m2, .ref m3, .ref m4, .ref m5, .ref m6, .int (nI pc), .ref m8, .ref m9, .ref m10, .ref m11, .ref m12, .ref m13, .ref m14, .int (nI ac), .int (nI sc), .ref m17, .ref m18, .ref m19, .ref m20, .ref m21, .ref m22, .ref m23, .ref m24, .int (nI (ln + 2)), .int v26, .int v27, .int v28, .ref m29, .ref m30, .ref m31, .ref m32, .ref m33, .ref m34, .ref m35, .ref m36, .ref m37, .int (nI sh), .ref m39, .ref m40, .ref m41, .ref m42, .ref m43, .ref m44, .ref m45, .ref m46, .ref m47, .ref m48, .ref m49, .int v50, .ref m51, .ref m52, .ref m53, .ref m54, .int (nI gf), .ref m56, .ref m57, .ref m58, .ref m59])) := wd_at.ps ew19 k15
  have k21 := wd_at.pt ew19 k16 (tg_ne tm24 ty (by decide))
  have kp22 := kp17.put ew19 s90
  refine lv_iinc (v := 8) (lv' := [(2, .int 8), (0, .ref y), (1, .int x0)]) hx hb dX11_put_30 hl (k := 0) rfl (by decide) (by decide) rfl (fun ls hl => ?_)
  refine lv_goto (tgt := 3) hx hb dX11_put_33 (by decide) ?_
  refine lv_iload_n hx hb dX11_put_3 rfl (lv_at hl 0 rfl) ?_
  refine lv_if_lt (tgt := 36) hx hb dX11_put_4 (by decide) (fun c_23 => absurd c_23 (show ¬ (8 : Int32) < (0 : Int32) by decide)) (fun c_23 => ?_)
  refine lv_aload_n hx hb dX11_put_7 rfl (lv_at hl 1 rfl) ?_
  refine x_get (ref := "NoteHouseModel") F hP k20 rfl (fun _ h => List.mem_cons_of_mem _ (List.mem_append_right _ (h))) 24 (Nat.le_of_ble_eq_true rfl) (List.mem_cons_of_mem _ (List.mem_append_left _ (List.mem_of_getElem? (i := 0) rfl))) rfl rfl dX11_put_8 ?_
  refine lv_aload_n hx hb dX11_put_11 rfl (lv_at hl 1 rfl) ?_
  refine x_get (ref := "NoteHouseModel") F hP k20 rfl (fun _ h => List.mem_cons_of_mem _ (List.mem_append_right _ (h))) 25 (Nat.le_of_ble_eq_true rfl) (List.mem_cons_of_mem _ (List.mem_append_left _ (List.mem_of_getElem? (i := 1) rfl))) rfl rfl dX11_put_12 ?_
  refine lv_iload_n hx hb dX11_put_15 rfl (lv_at hl 2 rfl) ?_
  refine lv_iload_n hx hb dX11_put_16 rfl (lv_at hl 0 rfl) ?_
  refine lv_ishr hx hb dX11_put_17 ?_
  refine lv_i2b (v := (x0 >>> (8 &&& 31)).toInt8.toInt32) hx hb dX11_put_18 (rfl) ?_
  refine y_bast F hP hD hS k21 (vp_in_nI (n := (ln + 2)) (N := 300) (by omega) (by decide)) dX11_put_19 (fun w24 ew25 H locs hP hD hS => ?_)
  have k26 := wd_at.pt ew25 k20 (tg_ne ty tm24 (by decide))
  have k27 : wd_at w24 m24 (.inl (cy 0, 300, .inl (upd (upd (upd f24 (nI ln).toNatClampNeg (vp_nar .byte ((x0 >>> (24 &&& 31)).toInt8.toInt32))) (nI (ln + 1)).toNatClampNeg (vp_nar .byte ((x0 >>> (16 &&& 31)).toInt8.toInt32))) (nI (ln + 2)).toNatClampNeg (vp_nar .byte ((x0 >>> (8 &&& 31)).toInt8.toInt32))))) := wd_at.ps ew25 k21
  have kp28 := kp22.put ew25 s91
  refine lv_aload_n hx hb dX11_put_20 rfl (lv_at hl 1 rfl) ?_
  refine lv_dup hx hb dX11_put_21 rfl ?_
  refine x_get (ref := "NoteHouseModel") F hP k26 rfl (fun _ h => List.mem_cons_of_mem _ (List.mem_append_right _ (h))) 25 (Nat.le_of_ble_eq_true rfl) (List.mem_cons_of_mem _ (List.mem_append_left _ (List.mem_of_getElem? (i := 1) rfl))) rfl rfl dX11_put_22 ?_
  refine lv_iconst (v := 1) hx hb dX11_put_25 (by decide) ?_
  refine lv_iadd hx hb dX11_put_26 ?_
  rw [show ((nI (ln + 2)) + 1 : Int32) = nI (ln + 3) from nI_1 (ln + 2)]
  refine y_put (ref := "NoteHouseModel") F hP hD hS k26 rfl (fun _ h => List.mem_cons_of_mem _ (List.mem_append_right _ (h))) tyX11_ok nmX11 25 (Nat.le_of_ble_eq_true rfl) (List.mem_cons_of_mem _ (List.mem_append_left _ (List.mem_of_getElem? (i := 1) rfl))) rfl rfl rfl rfl (Nat.le_of_ble_eq_true rfl) dX11_put_27 (fun w29 ew30 H locs hP hD hS => ?_)
  have k31 : wd_at w29 y (.inr (11, [.int v0, .int td, .ref m2, .ref m3, .ref m4, .ref m5, .ref m6, .int (nI pc), .ref m8, .ref m9, .ref m10, .ref m11, .ref m12, .ref m13, .ref m14, .int (nI ac), .int (nI sc), .ref m17, .ref m18, .ref m19, .ref m20, .ref m21, .ref m22, .ref m23, .ref m24, .int (nI (ln + 3)), .int v26, .int v27, .int v28, .ref m29, .ref m30, .ref m31, .ref m32, .ref m33, .ref m34, .ref m35, .ref m36, .ref m37, .int (nI sh), .ref m39, .ref m40, .ref m41, .ref m42, .ref m43, .ref m44, .ref m45, .ref m46, .ref m47, .ref m48, .ref m49, .int v50, .ref m51, .ref m52, .ref m53, .ref m54, .int (nI gf), .ref m56, .ref m57, .ref m58, .ref m59])) := wd_at.ps ew30 k26
  have k32 := wd_at.pt ew30 k27 (tg_ne tm24 ty (by decide))
  have kp33 := kp28.put ew30 s90
  refine lv_iinc (v := 0) (lv' := [(2, .int 0), (0, .ref y), (1, .int x0)]) hx hb dX11_put_30 hl (k := 0) rfl (by decide) (by decide) rfl (fun ls hl => ?_)
  refine lv_goto (tgt := 3) hx hb dX11_put_33 (by decide) ?_
  refine lv_iload_n hx hb dX11_put_3 rfl (lv_at hl 0 rfl) ?_
  refine lv_if_lt (tgt := 36) hx hb dX11_put_4 (by decide) (fun c_34 => absurd c_34 (show ¬ (0 : Int32) < (0 : Int32) by decide)) (fun c_34 => ?_)
  refine lv_aload_n hx hb dX11_put_7 rfl (lv_at hl 1 rfl) ?_
  refine x_get (ref := "NoteHouseModel") F hP k31 rfl (fun _ h => List.mem_cons_of_mem _ (List.mem_append_right _ (h))) 24 (Nat.le_of_ble_eq_true rfl) (List.mem_cons_of_mem _ (List.mem_append_left _ (List.mem_of_getElem? (i := 0) rfl))) rfl rfl dX11_put_8 ?_
  refine lv_aload_n hx hb dX11_put_11 rfl (lv_at hl 1 rfl) ?_
  refine x_get (ref := "NoteHouseModel") F hP k31 rfl (fun _ h => List.mem_cons_of_mem _ (List.mem_append_right _ (h))) 25 (Nat.le_of_ble_eq_true rfl) (List.mem_cons_of_mem _ (List.mem_append_left _ (List.mem_of_getElem? (i := 1) rfl))) rfl rfl dX11_put_12 ?_
  refine lv_iload_n hx hb dX11_put_15 rfl (lv_at hl 2 rfl) ?_
  refine lv_iload_n hx hb dX11_put_16 rfl (lv_at hl 0 rfl) ?_
  refine lv_ishr hx hb dX11_put_17 ?_
  refine lv_i2b (v := (x0 >>> (0 &&& 31)).toInt8.toInt32) hx hb dX11_put_18 (rfl) ?_
  refine y_bast F hP hD hS k32 (vp_in_nI (n := (ln + 3)) (N := 300) (by omega) (by decide)) dX11_put_19 (fun w35 ew36 H locs hP hD hS => ?_)
  have k37 := wd_at.pt ew36 k31 (tg_ne ty tm24 (by decide))
  have k38 : wd_at w35 m24 (.inl (cy 0, 300, .inl (upd (upd (upd (upd f24 (nI ln).toNatClampNeg (vp_nar .byte ((x0 >>> (24 &&& 31)).toInt8.toInt32))) (nI (ln + 1)).toNatClampNeg (vp_nar .byte ((x0 >>> (16 &&& 31)).toInt8.toInt32))) (nI (ln + 2)).toNatClampNeg (vp_nar .byte ((x0 >>> (8 &&& 31)).toInt8.toInt32))) (nI (ln + 3)).toNatClampNeg (vp_nar .byte ((x0 >>> (0 &&& 31)).toInt8.toInt32))))) := wd_at.ps ew36 k32
  have kp39 := kp33.put ew36 s91
  refine lv_aload_n hx hb dX11_put_20 rfl (lv_at hl 1 rfl) ?_
  refine lv_dup hx hb dX11_put_21 rfl ?_
  refine x_get (ref := "NoteHouseModel") F hP k37 rfl (fun _ h => List.mem_cons_of_mem _ (List.mem_append_right _ (h))) 25 (Nat.le_of_ble_eq_true rfl) (List.mem_cons_of_mem _ (List.mem_append_left _ (List.mem_of_getElem? (i := 1) rfl))) rfl rfl dX11_put_22 ?_
  refine lv_iconst (v := 1) hx hb dX11_put_25 (by decide) ?_
  refine lv_iadd hx hb dX11_put_26 ?_
  rw [show ((nI (ln + 3)) + 1 : Int32) = nI (ln + 4) from nI_1 (ln + 3)]
  refine y_put (ref := "NoteHouseModel") F hP hD hS k37 rfl (fun _ h => List.mem_cons_of_mem _ (List.mem_append_right _ (h))) tyX11_ok nmX11 25 (Nat.le_of_ble_eq_true rfl) (List.mem_cons_of_mem _ (List.mem_append_left _ (List.mem_of_getElem? (i := 1) rfl))) rfl rfl rfl rfl (Nat.le_of_ble_eq_true rfl) dX11_put_27 (fun w40 ew41 H locs hP hD hS => ?_)
  have k42 : wd_at w40 y (.inr (11, [.int v0, .int td, .ref m2, .ref m3, .ref m4, .ref m5, .ref m6, .int (nI pc), .ref m8, .ref m9, .ref m10, .ref m11, .ref m12, .ref m13, .ref m14, .int (nI ac), .int (nI sc), .ref m17, .ref m18, .ref m19, .ref m20, .ref m21, .ref m22, .ref m23, .ref m24, .int (nI (ln + 4)), .int v26, .int v27, .int v28, .ref m29, .ref m30, .ref m31, .ref m32, .ref m33, .ref m34, .ref m35, .ref m36, .ref m37, .int (nI sh), .ref m39, .ref m40, .ref m41, .ref m42, .ref m43, .ref m44, .ref m45, .ref m46, .ref m47, .ref m48, .ref m49, .int v50, .ref m51, .ref m52, .ref m53, .ref m54, .int (nI gf), .ref m56, .ref m57, .ref m58, .ref m59])) := wd_at.ps ew41 k37
  have k43 := wd_at.pt ew41 k38 (tg_ne tm24 ty (by decide))
  have kp44 := kp39.put ew41 s90
  refine lv_iinc (v := (-8)) (lv' := [(2, .int (-8)), (0, .ref y), (1, .int x0)]) hx hb dX11_put_30 hl (k := 0) rfl (by decide) (by decide) rfl (fun ls hl => ?_)
  refine lv_goto (tgt := 3) hx hb dX11_put_33 (by decide) ?_
  refine lv_iload_n hx hb dX11_put_3 rfl (lv_at hl 0 rfl) ?_
  refine lv_if_lt (tgt := 36) hx hb dX11_put_4 (by decide) (fun c_45 => ?_) (fun c_45 => absurd (show (-8 : Int32) < (0 : Int32) by decide) c_45)
  exact y_vr K hP hD hS (Nat.le_of_ble_eq_true rfl) (Nat.le_of_ble_eq_true rfl) rfl dX11_put_36 (⟨rfl, kp44, k42, k43⟩)
