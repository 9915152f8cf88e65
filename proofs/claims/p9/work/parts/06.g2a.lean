theorem tg_ne {tg : Nat → Nat} {a b s t : Nat} (h1 : tg b = s) (h2 : tg a = t) (n : s ≠ t) : b ≠ a := fun q => n (h1.symm.trans (q ▸ h2))
