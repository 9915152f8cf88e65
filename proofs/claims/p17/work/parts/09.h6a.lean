/-! ===== showing ===== -/
def hcI (x y : Int32) : Int32 := if x = -1 then 0 else if y < x then 0 else 1
def soB (x s y : Int32) : Bool := if s = 60 then decide (x < y) else if s = 62 then decide (y < x) else decide (x = y)
def b01 (b : Bool) : Int32 := if b then 1 else 0
theorem b01_0 {b : Bool} : b01 b = 0 ↔ b = false := by cases b <;> decide
theorem b01_n {b : Bool} (h : ¬ b01 b = 0) : b = true := by cases b with
  | true => rfl
  | false => exact absurd rfl h
theorem b01_b (b : Bool) : narrow .boolean (.int (b01 b)) = .int (b01 b) := by cases b <;> rfl
def abI (d : Int32) : Int32 := if 0 ≤ d then d else 0 - d
theorem abI_m (d : Int32) : (if d < 0 then -d else d) = abI d := by
  unfold abI
  by_cases h : d < 0
  · rw [if_pos h, if_neg (Int32.not_le.mpr h), Int32.zero_sub]
  · rw [if_neg h, if_pos (Int32.not_lt.mp h)]
def unl : Nat → Int32 → Int32 → Int32 → Int32
  | 0, s, _, _ => s
  | k + 1, s, x, y => unl k (s + abI (x - x / 10 * 10 - (y - y / 10 * 10))) (x / 10) (y / 10)
def unlI (x y : Int32) : Int32 := unl 5 0 x y
theorem unl_s {k : Nat} {s x y : Int32} : unl (k + 1) s x y = unl k (s + abI (x - x / 10 * 10 - (y - y / 10 * 10))) (x / 10) (y / 10) := rfl
def hsB (p0 l0 x p l d : Int32) : Bool := decide (p0 = p) && (decide (l0 = -1) || decide (l0 = l)) && !decide (hcI x d = 0)
def adC (av0 av1 av2 : Nat → Int32) (p t d : Int32) (k : Nat) : Bool := decide (av0 k = p) && decide (av1 k = t) && !decide (hcI (av2 k) d = 0)
def anyB (P : Nat → Bool) : Nat → Bool
  | 0 => false
  | k + 1 => anyB P k || P k
theorem anyB_f {P : Nat → Bool} : ∀ n, (∀ k, k < n → P k = false) → anyB P n = false
  | 0, _ => rfl
  | n + 1, h => by
    show (anyB P n || P n) = false
    rw [anyB_f n (fun k hk => h k (by omega)), h n (by omega)]; rfl
theorem anyB_t {P : Nat → Bool} {k : Nat} (hP : P k = true) : ∀ n, k < n → anyB P n = true
  | 0, h => absurd h (Nat.not_lt_zero k)
  | n + 1, h => by
    show (anyB P n || P n) = true
    by_cases e : k = n
    · rw [← e, hP, Bool.or_true]
    · rw [anyB_t hP n (by omega), Bool.true_or]
theorem anyB_c {P Q : Nat → Bool} : ∀ n, (∀ k, k < n → P k = Q k) → anyB P n = anyB Q n
  | 0, _ => rfl
  | n + 1, h => by
    show (anyB P n || P n) = (anyB Q n || Q n)
    rw [anyB_c n (fun k hk => h k (by omega)), h n (by omega)]
def stC (sp0 sp1 : Nat → Int32) (zC : Nat → Nat → Int32) (p l : Int32) (t : Nat) (d : Int32) (k : Nat) : Bool := hsB (sp0 k) (sp1 k) (zC k t) p l d
def adB (ac : Nat) (av0 av1 av2 : Nat → Int32) (p t d : Int32) : Bool := anyB (adC av0 av1 av2 p t d) ac
def stB (sc : Nat) (sp0 sp1 : Nat → Int32) (zC : Nat → Nat → Int32) (p l : Int32) (t : Nat) (d : Int32) : Bool := anyB (stC sp0 sp1 zC p l t d) sc
/-- the eight facts: a, s: whether advised, stopped; u: how unlike; g: age; gd: good days; am: amount; lf: left; d: day -/
def fcV (a s : Bool) (u g gd am lf d : Int32) : Nat → Int32
  | 0 => if a then u else 99
  | 1 => b01 a
  | 2 => b01 s
  | 3 => g
  | 4 => if gd < g then 1 else 0
  | 5 => am
  | 6 => lf
  | _ => d
def allB (P : Nat → Bool) : Nat → Bool
  | 0 => true
  | k + 1 => allB P k && P k
theorem allB_t {P : Nat → Bool} : ∀ n, (∀ k, k < n → P k = true) → allB P n = true
  | 0, _ => rfl
  | n + 1, h => by
    show (allB P n && P n) = true
    rw [allB_t n (fun k hk => h k (by omega)), h n (by omega)]; rfl
theorem allB_f {P : Nat → Bool} {k : Nat} (hP : P k = false) : ∀ n, k < n → allB P n = false
  | 0, h => absurd h (Nat.not_lt_zero k)
  | n + 1, h => by
    show (allB P n && P n) = false
    by_cases e : k = n
    · rw [← e, hP, Bool.and_false]
    · rw [allB_f hP n (by omega), Bool.false_and]
def cdB (F : Nat → Int32) (T : Nat → Nat → Int32) (r c : Nat) : Bool := soB (F (T 2 (r * 6 + c)).toNatClampNeg) (T 3 (r * 6 + c)) (T 4 (r * 6 + c))
def metB (F : Nat → Int32) (T : Nat → Nat → Int32) (r : Nat) : Bool := allB (cdB F T r) (T 1 r).toNatClampNeg
def frG (F : Nat → Int32) (T : Nat → Nat → Int32) : Nat → Nat → Nat
  | 0, r => r
  | N + 1, r => if metB F T r then r else frG F T N (r + 1)
theorem frG_y {F : Nat → Int32} {T : Nat → Nat → Int32} {N r : Nat} (h : metB F T r = true) : frG F T (N + 1) r = r := by
  show (if metB F T r then r else _) = r
  rw [if_pos h]
theorem frG_n {F : Nat → Int32} {T : Nat → Nat → Int32} {N r : Nat} (h : metB F T r = false) : frG F T (N + 1) r = frG F T N (r + 1) := by
  show (if metB F T r then r else frG F T N (r + 1)) = _
  rw [h, if_neg Bool.false_ne_true]
theorem frG_le {F : Nat → Int32} {T : Nat → Nat → Int32} : ∀ N r, r ≤ frG F T N r ∧ frG F T N r ≤ r + N
  | 0, r => ⟨Nat.le_refl _, Nat.le_refl _⟩
  | N + 1, r => by
    cases h : metB F T r with
    | true => rw [frG_y h]; omega
    | false => rw [frG_n h]; have h1 := frG_le (F := F) (T := T) N (r + 1); omega
def fru (F : Nat → Int32) (T : Nat → Nat → Int32) (k : Nat) : Nat := frG F T k 0
def ruI (F : Nat → Int32) (T : Nat → Nat → Int32) (k : Nat) : Int32 := if fru F T k = k then -1 else nI (fru F T k)
def deI (F : Nat → Int32) (T : Nat → Nat → Int32) (k : Nat) : Int32 := if fru F T k = k then 1 else T 0 (fru F T k)
def cnL (a r : Int32) : Int64 := a.toInt64 * r.toInt64 / 1000
def lf (x lv : Int32) : Int32 := if x < 0 then 0 else if lv ≤ x then 0 else 1
/-- whether it can be SHOWN: of a BOOK a LEAF, of a CREDIT an amount -/
def cbI (lv l a : Int32) : Int32 := if 0 < lv then lf l lv else if l = -1 ∧ ¬ wi a 1 100000 = 0 then 1 else 0
def amI (lv wo a : Int32) : Int32 := if 0 < lv then wo else a
def shB (sh pc : Nat) (plv : Nat → Int32) (t p l a h : Int32) : Bool := decide (200 ≤ nI sh ∨ wi t 0 11 = 0 ∨ wi p 0 (nI pc - 1) = 0 ∨ wi h 0 99999 = 0 ∨ cbI (plv p.toNatClampNeg) l a = 0)
def shU {α : Type} (b : Bool) (f : Nat → α) (k : Nat) (v : α) : Nat → α := if b then f else va_up f k v
def shF (ac sc : Nat) (av0 av1 av2 sp0 sp1 : Nat → Int32) (zC : Nat → Nat → Int32) (plv pwo phd pgd pdy pno : Nat → Int32) (td t p l a h : Int32) : Nat → Int32 := fcV (adB ac av0 av1 av2 p t td) (stB sc sp0 sp1 zC p l t.toNatClampNeg td) (unlI h (phd p.toNatClampNeg)) (td - pdy p.toNatClampNeg) (pgd p.toNatClampNeg) (amI (plv p.toNatClampNeg) (pwo p.toNatClampNeg) a) (pwo p.toNatClampNeg - pno p.toNatClampNeg) td
def shN (b : Bool) (de n : Int32) (plv pno : Nat → Int32) (p : Nat) (am : Int32) : Nat → Int32 := if b = true ∨ ¬ de = 0 ∨ n = 0 ∨ 0 < plv p then pno else va_up pno p (pno p + am)
def shT (b : Bool) (de : Int32) (ptp : Nat → Int32) (p : Nat) : Nat → Int32 := if b = true ∨ ¬ de = 0 then ptp else va_up ptp p (ptp p + 1)

