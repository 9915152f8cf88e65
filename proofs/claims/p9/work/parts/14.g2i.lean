theorem tgS {tg : Nat → Nat} {a t : Nat} (h : tg a = t) (ht : t < 10000) : (fun b => tg b < 10000) a := by show tg a < 10000; rw [h]; exact ht
/-- the class's house at x: its cells, by tags -/
def IX (cy : Nat → ClassId) (tg : Nat → Nat) (x : Nat) (td : Int32) (pc ac sc ln : Nat) (se plv : Nat → Int32) (w : Wd) : Prop := ∀ P9 : Prop, (∀ (a0 : Nat) (a1 : Nat) (a2 : Nat) (a3 : Nat) (a4 : Nat) (a5 : Nat) (a6 : Nat) (a7 : Nat) (a8 : Nat) (a10 : Nat) (a11 : Nat) (b0 : Nat) (b1 : Nat) (b2 : Nat) (b3 : Nat) (tb : Nat) (l0 : Nat) (l1 : Nat) (l2 : Nat) (l3 : Nat) (l4 : Nat) (l5 : Nat) (l6 : Nat) (l7 : Nat) (bl : Nat) (bm : Nat) (sh : Nat) (gc : Nat) (sg : Nat) (lu : Nat) (lv9 : Nat) (f0 : Nat → Int32) (f1 : Nat → Int32) (f2 : Nat → Int32) (f3 : Nat → Int32) (tbf : Nat → Int32) (e0 : Nat → Int32) (e1 : Nat → Int32) (e4 : Nat → Int32) (e5 : Nat → Int32) (e7 : Nat → Int32) (ff : Nat → Int32) (bf : Nat → Int32) (bf2 : Nat → Int32) (e2 : Nat → Int64) (e3 : Nat → Int64) (e6 : Nat → Int64) (ta : Int32) (sz : Int32) (fo : Int32) (to : Int32) (fo2 : Int32) (to2 : Int32) (tf : Nat → Option Nat) (tn : Nat → Nat) (ag : Nat → Nat) (co : Nat → Int32) (ra : Nat → Int32) (aa : Nat → Nat) (ru : Nat → Nat) (ga0 : Nat → Nat) (ga1 : Nat → Nat) (ga2 : Nat → Nat) (ga3 : Nat → Nat) (ga4 : Nat → Nat) (df : Nat → Nat → Int32) (cf : Nat → Nat → Int32) (nf : Nat → Nat → Int32) (sf : Nat → Nat → Int32) (uf : Nat → Nat → Int32) (pf : Nat → Option Nat) (pa : Nat → Nat) (pwo : Nat → Int32) (phd : Nat → Int32) (pgd : Nat → Int32) (pdy : Nat → Int32) (pno : Nat → Int32) (ptp : Nat → Int32) (af : Nat → Option Nat) (ad : Nat → Nat) (av0 : Nat → Int32) (av1 : Nat → Int32) (av2 : Nat → Int32) (av3 : Nat → Int32) (zf : Nat → Option Nat) (so : Nat → Nat) (sr : Nat → Nat) (sp0 : Nat → Int32) (sp1 : Nat → Int32) (sd : Nat → Nat → Int32) (hf : Nat → Option Nat) (sw : Nat → Nat) (hto : Nat → Nat) (hpp : Nat → Int32) (hle : Nat → Int32) (ham : Nat → Int32) (hhh : Nat → Int32) (hdd : Nat → Int32) (hru : Nat → Int32) (hde : Nat → Int32) (hcp : Nat → Int32) (hld : Nat → Int32), (pc ≤ 30) → (ac ≤ 60) → (sc ≤ 60) → (sh ≤ 200) → (ln ≤ 300) → (gc ≤ 12) → (sg < 13) → (lu + lv9 = 1) → (∀ i, i < 12 → ∃ s, s < 13 ∧ ag i = aa s) → (wd_at w x (.inr (10, [.ref a0, .ref a1, .ref a2, .ref a3, .ref a4, .ref a5, .ref a6, .ref a7, .ref a8, .ref (aa sg), .ref a10, .ref a11, .int td, .int (nI pc), .int (nI ac), .int (nI sc), .int (nI sh)]))) → (tg x = 0) → (wd_at w a0 (.inr (9, [.ref b0, .ref b1, .ref b2, .ref b3]))) → (tg a0 = 1) → (wd_at w b0 (.inl (cy 2, 144, .inl f0))) → (tg b0 = 2) → (wd_at w b1 (.inl (cy 2, 144, .inl f1))) → (tg b1 = 3) → (wd_at w b2 (.inl (cy 2, 12, .inl f2))) → (tg b2 = 4) → (wd_at w b3 (.inl (cy 4, 12, .inl f3))) → (tg b3 = 5) → (wd_at w a1 (.inl (cy 9, 12, .inr (.inr (.inr (.inr tf)))))) → (tg a1 = 6) → (wd_at w a2 (.inl (cy 6, 30, .inr (.inr (.inr (.inr pf)))))) → (tg a2 = 7) → (wd_at w a3 (.inl (cy 5, 60, .inr (.inr (.inr (.inr af)))))) → (tg a3 = 8) → (wd_at w a4 (.inl (cy 8, 60, .inr (.inr (.inr (.inr zf)))))) → (tg a4 = 9) → (wd_at w a5 (.inl (cy 7, 200, .inr (.inr (.inr (.inr hf)))))) → (tg a5 = 10) → (wd_at w a6 (.inr (7, [.ref tb, .int (nI ln), .int ta]))) → (tg a6 = 11) → (wd_at w tb (.inl (cy 0, 300, .inl tbf))) → (tg tb = 12) → (wd_at w a7 (.inr (4, [.ref l0, .ref l1, .ref l2, .ref l3, .ref l4, .ref l5, .ref l6, .ref l7, .int (nI gc), .int sz]))) → (tg a7 = 13) → (wd_at w l0 (.inl (cy 2, 200, .inl e0))) → (tg l0 = 14) → (wd_at w l1 (.inl (cy 2, 200, .inl e1))) → (tg l1 = 15) → (wd_at w l2 (.inl (cy 3, 12, .inr (.inl e2)))) → (tg l2 = 16) → (wd_at w l3 (.inl (cy 3, 12, .inr (.inl e3)))) → (tg l3 = 17) → (wd_at w l4 (.inl (cy 2, 12, .inl e4))) → (tg l4 = 18) → (wd_at w l5 (.inl (cy 2, 12, .inl e5))) → (tg l5 = 19) → (wd_at w l6 (.inl (cy 3, 12, .inr (.inl e6)))) → (tg l6 = 20) → (wd_at w l7 (.inl (cy 2, 12, .inl e7))) → (tg l7 = 21) → (wd_at w a8 (.inl (cy 2, 8, .inl ff))) → (tg a8 = 22) → (wd_at w a10 (.inr (2, [.ref bl, .int fo, .int to]))) → (tg a10 = 30 + lu) → (wd_at w bl (.inl (cy 2, 4, .inl bf))) → (tg bl = 32 + lu) → (wd_at w a11 (.inr (2, [.ref bm, .int fo2, .int to2]))) → (tg a11 = 30 + lv9) → (wd_at w bm (.inl (cy 2, 4, .inl bf2))) → (tg bm = 32 + lv9) → (∀ i9, i9 < 12 → tf i9 = some (tn i9) ∧ wd_at w (tn i9) (.inr (8, [.int (co i9), .int (ra i9), .int (se i9), .ref (ag i9)])) ∧ tg (tn i9) = 100 + i9) → (∀ k9, k9 < 13 → (aOK (cf k9) (nf k9) ∧ ru k9 ≤ 12) ∧ wd_at w (aa k9) (.inr (1, [.ref (ga0 k9), .ref (ga1 k9), .ref (ga2 k9), .ref (ga3 k9), .ref (ga4 k9), .int (nI (ru k9))])) ∧ tg (aa k9) = 200 + k9 ∧ wd_at w (ga0 k9) (.inl (cy 2, 12, .inl (df k9))) ∧ tg (ga0 k9) = 220 + k9 ∧ wd_at w (ga1 k9) (.inl (cy 2, 12, .inl (cf k9))) ∧ tg (ga1 k9) = 240 + k9 ∧ wd_at w (ga2 k9) (.inl (cy 2, 72, .inl (nf k9))) ∧ tg (ga2 k9) = 260 + k9 ∧ wd_at w (ga3 k9) (.inl (cy 1, 72, .inl (sf k9))) ∧ tg (ga3 k9) = 280 + k9 ∧ wd_at w (ga4 k9) (.inl (cy 2, 72, .inl (uf k9))) ∧ tg (ga4 k9) = 300 + k9) → (∀ k9, k9 < pc → pf k9 = some (pa k9) ∧ wd_at w (pa k9) (.inr (3, [.int (plv k9), .int (pwo k9), .int (phd k9), .int (pgd k9), .int (pdy k9), .int (pno k9), .int (ptp k9)])) ∧ tg (pa k9) = 3000 + k9) → (∀ k9, k9 < ac → af k9 = some (ad k9) ∧ wd_at w (ad k9) (.inr (0, [.int (av0 k9), .int (av1 k9), .int (av2 k9), .int (av3 k9)])) ∧ tg (ad k9) = 4000 + k9) → (∀ k9, k9 < sc → zf k9 = some (so k9) ∧ wd_at w (so k9) (.inr (6, [.int (sp0 k9), .int (sp1 k9), .ref (sr k9)])) ∧ tg (so k9) = 5000 + k9 ∧ wd_at w (sr k9) (.inl (cy 2, 12, .inl (sd k9))) ∧ tg (sr k9) = 6000 + k9) → (∀ k9, k9 < sh → (hf k9 = some (sw k9) ∧ hto k9 < 12) ∧ wd_at w (sw k9) (.inr (5, [.int (nI (hto k9)), .int (hpp k9), .int (hle k9), .int (ham k9), .int (hhh k9), .int (hdd k9), .int (hru k9), .int (hde k9), .int (hcp k9), .int (hld k9)])) ∧ tg (sw k9) = 7000 + k9) → P9) → P9
theorem IX.mk {cy : Nat → ClassId} {tg : Nat → Nat} {x : Nat} {td : Int32} {pc ac sc ln : Nat} {se plv : Nat → Int32} {w : Wd} (a0 : Nat) (a1 : Nat) (a2 : Nat) (a3 : Nat) (a4 : Nat) (a5 : Nat) (a6 : Nat) (a7 : Nat) (a8 : Nat) (a10 : Nat) (a11 : Nat) (b0 : Nat) (b1 : Nat) (b2 : Nat) (b3 : Nat) (tb : Nat) (l0 : Nat) (l1 : Nat) (l2 : Nat) (l3 : Nat) (l4 : Nat) (l5 : Nat) (l6 : Nat) (l7 : Nat) (bl : Nat) (bm : Nat) (sh : Nat) (gc : Nat) (sg : Nat) (lu : Nat) (lv9 : Nat) (f0 : Nat → Int32) (f1 : Nat → Int32) (f2 : Nat → Int32) (f3 : Nat → Int32) (tbf : Nat → Int32) (e0 : Nat → Int32) (e1 : Nat → Int32) (e4 : Nat → Int32) (e5 : Nat → Int32) (e7 : Nat → Int32) (ff : Nat → Int32) (bf : Nat → Int32) (bf2 : Nat → Int32) (e2 : Nat → Int64) (e3 : Nat → Int64) (e6 : Nat → Int64) (ta : Int32) (sz : Int32) (fo : Int32) (to : Int32) (fo2 : Int32) (to2 : Int32) (tf : Nat → Option Nat) (tn : Nat → Nat) (ag : Nat → Nat) (co : Nat → Int32) (ra : Nat → Int32) (aa : Nat → Nat) (ru : Nat → Nat) (ga0 : Nat → Nat) (ga1 : Nat → Nat) (ga2 : Nat → Nat) (ga3 : Nat → Nat) (ga4 : Nat → Nat) (df : Nat → Nat → Int32) (cf : Nat → Nat → Int32) (nf : Nat → Nat → Int32) (sf : Nat → Nat → Int32) (uf : Nat → Nat → Int32) (pf : Nat → Option Nat) (pa : Nat → Nat) (pwo : Nat → Int32) (phd : Nat → Int32) (pgd : Nat → Int32) (pdy : Nat → Int32) (pno : Nat → Int32) (ptp : Nat → Int32) (af : Nat → Option Nat) (ad : Nat → Nat) (av0 : Nat → Int32) (av1 : Nat → Int32) (av2 : Nat → Int32) (av3 : Nat → Int32) (zf : Nat → Option Nat) (so : Nat → Nat) (sr : Nat → Nat) (sp0 : Nat → Int32) (sp1 : Nat → Int32) (sd : Nat → Nat → Int32) (hf : Nat → Option Nat) (sw : Nat → Nat) (hto : Nat → Nat) (hpp : Nat → Int32) (hle : Nat → Int32) (ham : Nat → Int32) (hhh : Nat → Int32) (hdd : Nat → Int32) (hru : Nat → Int32) (hde : Nat → Int32) (hcp : Nat → Int32) (hld : Nat → Int32) (h0 : pc ≤ 30) (h1 : ac ≤ 60) (h2 : sc ≤ 60) (h3 : sh ≤ 200) (h4 : ln ≤ 300) (h5 : gc ≤ 12) (h6 : sg < 13) (h7 : lu + lv9 = 1) (h8 : ∀ i, i < 12 → ∃ s, s < 13 ∧ ag i = aa s) (h9 : wd_at w x (.inr (10, [.ref a0, .ref a1, .ref a2, .ref a3, .ref a4, .ref a5, .ref a6, .ref a7, .ref a8, .ref (aa sg), .ref a10, .ref a11, .int td, .int (nI pc), .int (nI ac), .int (nI sc), .int (nI sh)]))) (h10 : tg x = 0) (h11 : wd_at w a0 (.inr (9, [.ref b0, .ref b1, .ref b2, .ref b3]))) (h12 : tg a0 = 1) (h13 : wd_at w b0 (.inl (cy 2, 144, .inl f0))) (h14 : tg b0 = 2) (h15 : wd_at w b1 (.inl (cy 2, 144, .inl f1))) (h16 : tg b1 = 3) (h17 : wd_at w b2 (.inl (cy 2, 12, .inl f2))) (h18 : tg b2 = 4) (h19 : wd_at w b3 (.inl (cy 4, 12, .inl f3))) (h20 : tg b3 = 5) (h21 : wd_at w a1 (.inl (cy 9, 12, .inr (.inr (.inr (.inr tf)))))) (h22 : tg a1 = 6) (h23 : wd_at w a2 (.inl (cy 6, 30, .inr (.inr (.inr (.inr pf)))))) (h24 : tg a2 = 7) (h25 : wd_at w a3 (.inl (cy 5, 60, .inr (.inr (.inr (.inr af)))))) (h26 : tg a3 = 8) (h27 : wd_at w a4 (.inl (cy 8, 60, .inr (.inr (.inr (.inr zf)))))) (h28 : tg a4 = 9) (h29 : wd_at w a5 (.inl (cy 7, 200, .inr (.inr (.inr (.inr hf)))))) (h30 : tg a5 = 10) (h31 : wd_at w a6 (.inr (7, [.ref tb, .int (nI ln), .int ta]))) (h32 : tg a6 = 11) (h33 : wd_at w tb (.inl (cy 0, 300, .inl tbf))) (h34 : tg tb = 12) (h35 : wd_at w a7 (.inr (4, [.ref l0, .ref l1, .ref l2, .ref l3, .ref l4, .ref l5, .ref l6, .ref l7, .int (nI gc), .int sz]))) (h36 : tg a7 = 13) (h37 : wd_at w l0 (.inl (cy 2, 200, .inl e0))) (h38 : tg l0 = 14) (h39 : wd_at w l1 (.inl (cy 2, 200, .inl e1))) (h40 : tg l1 = 15) (h41 : wd_at w l2 (.inl (cy 3, 12, .inr (.inl e2)))) (h42 : tg l2 = 16) (h43 : wd_at w l3 (.inl (cy 3, 12, .inr (.inl e3)))) (h44 : tg l3 = 17) (h45 : wd_at w l4 (.inl (cy 2, 12, .inl e4))) (h46 : tg l4 = 18) (h47 : wd_at w l5 (.inl (cy 2, 12, .inl e5))) (h48 : tg l5 = 19) (h49 : wd_at w l6 (.inl (cy 3, 12, .inr (.inl e6)))) (h50 : tg l6 = 20) (h51 : wd_at w l7 (.inl (cy 2, 12, .inl e7))) (h52 : tg l7 = 21) (h53 : wd_at w a8 (.inl (cy 2, 8, .inl ff))) (h54 : tg a8 = 22) (h55 : wd_at w a10 (.inr (2, [.ref bl, .int fo, .int to]))) (h56 : tg a10 = 30 + lu) (h57 : wd_at w bl (.inl (cy 2, 4, .inl bf))) (h58 : tg bl = 32 + lu) (h59 : wd_at w a11 (.inr (2, [.ref bm, .int fo2, .int to2]))) (h60 : tg a11 = 30 + lv9) (h61 : wd_at w bm (.inl (cy 2, 4, .inl bf2))) (h62 : tg bm = 32 + lv9) (h63 : ∀ i9, i9 < 12 → tf i9 = some (tn i9) ∧ wd_at w (tn i9) (.inr (8, [.int (co i9), .int (ra i9), .int (se i9), .ref (ag i9)])) ∧ tg (tn i9) = 100 + i9) (h64 : ∀ k9, k9 < 13 → (aOK (cf k9) (nf k9) ∧ ru k9 ≤ 12) ∧ wd_at w (aa k9) (.inr (1, [.ref (ga0 k9), .ref (ga1 k9), .ref (ga2 k9), .ref (ga3 k9), .ref (ga4 k9), .int (nI (ru k9))])) ∧ tg (aa k9) = 200 + k9 ∧ wd_at w (ga0 k9) (.inl (cy 2, 12, .inl (df k9))) ∧ tg (ga0 k9) = 220 + k9 ∧ wd_at w (ga1 k9) (.inl (cy 2, 12, .inl (cf k9))) ∧ tg (ga1 k9) = 240 + k9 ∧ wd_at w (ga2 k9) (.inl (cy 2, 72, .inl (nf k9))) ∧ tg (ga2 k9) = 260 + k9 ∧ wd_at w (ga3 k9) (.inl (cy 1, 72, .inl (sf k9))) ∧ tg (ga3 k9) = 280 + k9 ∧ wd_at w (ga4 k9) (.inl (cy 2, 72, .inl (uf k9))) ∧ tg (ga4 k9) = 300 + k9) (h65 : ∀ k9, k9 < pc → pf k9 = some (pa k9) ∧ wd_at w (pa k9) (.inr (3, [.int (plv k9), .int (pwo k9), .int (phd k9), .int (pgd k9), .int (pdy k9), .int (pno k9), .int (ptp k9)])) ∧ tg (pa k9) = 3000 + k9) (h66 : ∀ k9, k9 < ac → af k9 = some (ad k9) ∧ wd_at w (ad k9) (.inr (0, [.int (av0 k9), .int (av1 k9), .int (av2 k9), .int (av3 k9)])) ∧ tg (ad k9) = 4000 + k9) (h67 : ∀ k9, k9 < sc → zf k9 = some (so k9) ∧ wd_at w (so k9) (.inr (6, [.int (sp0 k9), .int (sp1 k9), .ref (sr k9)])) ∧ tg (so k9) = 5000 + k9 ∧ wd_at w (sr k9) (.inl (cy 2, 12, .inl (sd k9))) ∧ tg (sr k9) = 6000 + k9) (h68 : ∀ k9, k9 < sh → (hf k9 = some (sw k9) ∧ hto k9 < 12) ∧ wd_at w (sw k9) (.inr (5, [.int (nI (hto k9)), .int (hpp k9), .int (hle k9), .int (ham k9), .int (hhh k9), .int (hdd k9), .int (hru k9), .int (hde k9), .int (hcp k9), .int (hld k9)])) ∧ tg (sw k9) = 7000 + k9) : IX cy tg x td pc ac sc ln se plv w := fun _ k9 => k9 a0 a1 a2 a3 a4 a5 a6 a7 a8 a10 a11 b0 b1 b2 b3 tb l0 l1 l2 l3 l4 l5 l6 l7 bl bm sh gc sg lu lv9 f0 f1 f2 f3 tbf e0 e1 e4 e5 e7 ff bf bf2 e2 e3 e6 ta sz fo to fo2 to2 tf tn ag co ra aa ru ga0 ga1 ga2 ga3 ga4 df cf nf sf uf pf pa pwo phd pgd pdy pno ptp af ad av0 av1 av2 av3 zf so sr sp0 sp1 sd hf sw hto hpp hle ham hhh hdd hru hde hcp hld h0 h1 h2 h3 h4 h5 h6 h7 h8 h9 h10 h11 h12 h13 h14 h15 h16 h17 h18 h19 h20 h21 h22 h23 h24 h25 h26 h27 h28 h29 h30 h31 h32 h33 h34 h35 h36 h37 h38 h39 h40 h41 h42 h43 h44 h45 h46 h47 h48 h49 h50 h51 h52 h53 h54 h55 h56 h57 h58 h59 h60 h61 h62 h63 h64 h65 h66 h67 h68
def XP (cy : Nat → ClassId) (tg : Nat → Nat) (x : Nat) (td : Int32) (pc ac sc ln : Nat) (se plv : Nat → Int32) (w w1 : Wd) : Prop := ∃ tg1 : Nat → Nat, (∀ a, a ∈ w.1 → tg1 a = tg a) ∧ wd_kp (fun b => tg b < 10000) w w1 ∧ IX cy tg1 x td pc ac sc ln se plv w1
def ckA (td d : Int32) : Int32 := wi d td 3000
def ckT (td d : Int32) : Int32 := if wi d td 3000 = 0 then td else d
def wayA (a b n : Int32) : Int32 := if wi a 0 11 = 0 ∨ wi b 0 11 = 0 ∨ a = b ∨ wi n 0 99 = 0 then 0 else 1
def rateA (t c r : Int32) : Int32 := if wi t 0 11 = 0 ∨ wi c 0 3 = 0 ∨ wi r 1 100000 = 0 then 0 else 1
set_option maxHeartbeats 4000000 in
set_option maxRecDepth 100000 in
theorem X_clock (l : Launch) (D : va_G) (cy : Nat → ClassId) (sk sv : Nat → Nat) (w : Wd) (tg : Nat → Nat) (x : Nat) (td : Int32) (pc ac sc ln : Nat) (se plv : Nat → Int32) (d : Int32) (hIX0 : IX cy tg x td pc ac sc ln se plv w) : Ct l D cy sk sv yX10_clock wsX10_clock ({ frames := 0, cells := 0, slots := 0, locals := 0 }) [.ref x, .int d] w (fun v w1 => v = some (.int (ckA td d)) ∧ XP cy tg x (ckT td d) pc ac sc ln se plv w w1) := by
  refine Ct.by (cc := cX10_clock) (maxL := 2) (ret := (some .boolean)) (by decide +kernel) rfl (Nat.le_of_ble_eq_true rfl) ?_
  intro p e s m args below meth c A Q F hnm K ls hl
  have F : wd_Fx p s m args meth c cX10_clock 2 wsX10_clock RX10 D cy sk sv A := F
  have hl : lv_has ls 2 [(0, .ref x), (1, .int d)] := hl
  have hx := F.1.1
  have hb := F.1.2.1
  have hown := F.1.2.2.2.1
  have hts := F.1.2.2.2.2
  intro H locs hP hD hS
  have kp0 : wd_kp (fun b => tg b < 10000) w w := wd_kp.rf
  refine hIX0 _ ?_
  intro a0 a1 a2 a3 a4 a5 a6 a7 a8 a10 a11 b0 b1 b2 b3 tb l0 l1 l2 l3 l4 l5 l6 l7 bl bm sh gc sg lu lv9 f0 f1 f2 f3 tbf e0 e1 e4 e5 e7 ff bf bf2 e2 e3 e6 ta sz fo to fo2 to2 tf tn ag co ra aa ru ga0 ga1 ga2 ga3 ga4 df cf nf sf uf pf pa pwo phd pgd pdy pno ptp af ad av0 av1 av2 av3 zf so sr sp0 sp1 sd hf sw hto hpp hle ham hhh hdd hru hde hcp hld hp90 hp91 hp92 hp93 hp94 hp95 hp96 hp97 hag kI0 tI0 kI1 tI1 kI2 tI2 kI3 tI3 kI4 tI4 kI5 tI5 kI6 tI6 kI7 tI7 kI8 tI8 kI9 tI9 kI10 tI10 kI11 tI11 kI12 tI12 kI13 tI13 kI14 tI14 kI15 tI15 kI16 tI16 kI17 tI17 kI18 tI18 kI19 tI19 kI20 tI20 kI21 tI21 kI22 tI22 kI23 tI23 kI24 tI24 kI25 tI25 kI26 tI26 hT9 hG9 hP9 hA9 hS9 hH9
  refine lv_iload_n hx hb dX10_clock_0 rfl (lv_at hl 1 rfl) ?_
  refine lv_aload_n hx hb dX10_clock_1 rfl (lv_at hl 0 rfl) ?_
  refine x_get (ref := "NoteHouse") F hP kI0 rfl (fun _ h => List.mem_cons_of_mem _ (List.mem_append_right _ (h))) 12 (Nat.le_of_ble_eq_true rfl) (List.mem_cons_of_mem _ (List.mem_append_left _ (List.mem_of_getElem? (i := 0) rfl))) rfl rfl dX10_clock_2 ?_
  refine lv_icmp_lt (tgt := 15) hx hb dX10_clock_5 (by decide) (fun c_1 => ?_) (fun c_1 => ?_)
  · refine lv_iconst (v := 0) hx hb dX10_clock_15 (by decide) ?_
    exact y_ir K hP hD hS (Nat.le_of_ble_eq_true rfl) (Nat.le_of_ble_eq_true rfl) (ty := .boolean) rfl rfl dX10_clock_16 (by refine ⟨(congrArg (fun z => some (Value.int z)) (show 0 = ckA td d from by simp [ckA, ckT, wi, c_1])), ?_⟩; rw [show ckT td d = td from by simp [ckA, ckT, wi, c_1]]; exact ⟨tg, fun _ _ => rfl, wd_kp.rf, hIX0⟩)
  · refine lv_iload_n hx hb dX10_clock_8 rfl (lv_at hl 1 rfl) ?_
    refine lv_sipush (v := 3000) hx hb dX10_clock_9 (by decide) ?_
    refine lv_icmp_le (tgt := 17) hx hb dX10_clock_12 (by decide) (fun c_2 => ?_) (fun c_2 => ?_)
    · refine lv_aload_n hx hb dX10_clock_17 rfl (lv_at hl 0 rfl) ?_
      refine lv_iload_n hx hb dX10_clock_18 rfl (lv_at hl 1 rfl) ?_
      refine y_put (ref := "NoteHouse") F hP hD hS kI0 rfl (fun _ h => List.mem_cons_of_mem _ (List.mem_append_right _ (h))) tyX10_ok nmX10 12 (Nat.le_of_ble_eq_true rfl) (List.mem_cons_of_mem _ (List.mem_append_left _ (List.mem_of_getElem? (i := 0) rfl))) rfl rfl rfl rfl (Nat.le_of_ble_eq_true rfl) dX10_clock_19 (fun w1 ew2 H locs hP hD hS => ?_)
      have k3 : wd_at w1 x (.inr (10, [.ref a0, .ref a1, .ref a2, .ref a3, .ref a4, .ref a5, .ref a6, .ref a7, .ref a8, .ref (aa sg), .ref a10, .ref a11, .int d, .int (nI pc), .int (nI ac), .int (nI sc), .int (nI sh)])) := wd_at.ps ew2 kI0
      have k4 := wd_at.pt ew2 kI1 (tg_ne tI1 tI0 (by omega))
      have k5 := wd_at.pt ew2 kI2 (tg_ne tI2 tI0 (by omega))
      have k6 := wd_at.pt ew2 kI3 (tg_ne tI3 tI0 (by omega))
      have k7 := wd_at.pt ew2 kI4 (tg_ne tI4 tI0 (by omega))
      have k8 := wd_at.pt ew2 kI5 (tg_ne tI5 tI0 (by omega))
      have k9 := wd_at.pt ew2 kI6 (tg_ne tI6 tI0 (by omega))
      have k10 := wd_at.pt ew2 kI7 (tg_ne tI7 tI0 (by omega))
      have k11 := wd_at.pt ew2 kI8 (tg_ne tI8 tI0 (by omega))
      have k12 := wd_at.pt ew2 kI9 (tg_ne tI9 tI0 (by omega))
      have k13 := wd_at.pt ew2 kI10 (tg_ne tI10 tI0 (by omega))
      have k14 := wd_at.pt ew2 kI11 (tg_ne tI11 tI0 (by omega))
      have k15 := wd_at.pt ew2 kI12 (tg_ne tI12 tI0 (by omega))
      have k16 := wd_at.pt ew2 kI13 (tg_ne tI13 tI0 (by omega))
      have k17 := wd_at.pt ew2 kI14 (tg_ne tI14 tI0 (by omega))
      have k18 := wd_at.pt ew2 kI15 (tg_ne tI15 tI0 (by omega))
      have k19 := wd_at.pt ew2 kI16 (tg_ne tI16 tI0 (by omega))
      have k20 := wd_at.pt ew2 kI17 (tg_ne tI17 tI0 (by omega))
      have k21 := wd_at.pt ew2 kI18 (tg_ne tI18 tI0 (by omega))
      have k22 := wd_at.pt ew2 kI19 (tg_ne tI19 tI0 (by omega))
      have k23 := wd_at.pt ew2 kI20 (tg_ne tI20 tI0 (by omega))
      have k24 := wd_at.pt ew2 kI21 (tg_ne tI21 tI0 (by omega))
      have k25 := wd_at.pt ew2 kI22 (tg_ne tI22 tI0 (by omega))
      have k26 := wd_at.pt ew2 kI23 (tg_ne tI23 tI0 (by omega))
      have k27 := wd_at.pt ew2 kI24 (tg_ne tI24 tI0 (by omega))
      have k28 := wd_at.pt ew2 kI25 (tg_ne tI25 tI0 (by omega))
      have k29 := wd_at.pt ew2 kI26 (tg_ne tI26 tI0 (by omega))
      have fm30 : ∀ i9, i9 < 12 → tf i9 = some (tn i9) ∧ wd_at w1 (tn i9) (.inr (8, [.int (co i9), .int (ra i9), .int (se i9), .ref (ag i9)])) ∧ tg (tn i9) = 100 + i9 := fun i9 hi9 => ⟨(hT9 i9 hi9).1, wd_at.pt ew2 (hT9 i9 hi9).2.1 (tg_ne (hT9 i9 hi9).2.2 tI0 (by omega)), (hT9 i9 hi9).2.2⟩
      have fm31 : ∀ k9, k9 < 13 → (aOK (cf k9) (nf k9) ∧ ru k9 ≤ 12) ∧ wd_at w1 (aa k9) (.inr (1, [.ref (ga0 k9), .ref (ga1 k9), .ref (ga2 k9), .ref (ga3 k9), .ref (ga4 k9), .int (nI (ru k9))])) ∧ tg (aa k9) = 200 + k9 ∧ wd_at w1 (ga0 k9) (.inl (cy 2, 12, .inl (df k9))) ∧ tg (ga0 k9) = 220 + k9 ∧ wd_at w1 (ga1 k9) (.inl (cy 2, 12, .inl (cf k9))) ∧ tg (ga1 k9) = 240 + k9 ∧ wd_at w1 (ga2 k9) (.inl (cy 2, 72, .inl (nf k9))) ∧ tg (ga2 k9) = 260 + k9 ∧ wd_at w1 (ga3 k9) (.inl (cy 1, 72, .inl (sf k9))) ∧ tg (ga3 k9) = 280 + k9 ∧ wd_at w1 (ga4 k9) (.inl (cy 2, 72, .inl (uf k9))) ∧ tg (ga4 k9) = 300 + k9 := fun k9 hi9 => ⟨(hG9 k9 hi9).1, wd_at.pt ew2 (hG9 k9 hi9).2.1 (tg_ne (hG9 k9 hi9).2.2.1 tI0 (by omega)), (hG9 k9 hi9).2.2.1, wd_at.pt ew2 (hG9 k9 hi9).2.2.2.1 (tg_ne (hG9 k9 hi9).2.2.2.2.1 tI0 (by omega)), (hG9 k9 hi9).2.2.2.2.1, wd_at.pt ew2 (hG9 k9 hi9).2.2.2.2.2.1 (tg_ne (hG9 k9 hi9).2.2.2.2.2.2.1 tI0 (by omega)), (hG9 k9 hi9).2.2.2.2.2.2.1, wd_at.pt ew2 (hG9 k9 hi9).2.2.2.2.2.2.2.1 (tg_ne (hG9 k9 hi9).2.2.2.2.2.2.2.2.1 tI0 (by omega)), (hG9 k9 hi9).2.2.2.2.2.2.2.2.1, wd_at.pt ew2 (hG9 k9 hi9).2.2.2.2.2.2.2.2.2.1 (tg_ne (hG9 k9 hi9).2.2.2.2.2.2.2.2.2.2.1 tI0 (by omega)), (hG9 k9 hi9).2.2.2.2.2.2.2.2.2.2.1, wd_at.pt ew2 (hG9 k9 hi9).2.2.2.2.2.2.2.2.2.2.2.1 (tg_ne (hG9 k9 hi9).2.2.2.2.2.2.2.2.2.2.2.2 tI0 (by omega)), (hG9 k9 hi9).2.2.2.2.2.2.2.2.2.2.2.2⟩
      have fm32 : ∀ k9, k9 < pc → pf k9 = some (pa k9) ∧ wd_at w1 (pa k9) (.inr (3, [.int (plv k9), .int (pwo k9), .int (phd k9), .int (pgd k9), .int (pdy k9), .int (pno k9), .int (ptp k9)])) ∧ tg (pa k9) = 3000 + k9 := fun k9 hi9 => ⟨(hP9 k9 hi9).1, wd_at.pt ew2 (hP9 k9 hi9).2.1 (tg_ne (hP9 k9 hi9).2.2 tI0 (by omega)), (hP9 k9 hi9).2.2⟩
      have fm33 : ∀ k9, k9 < ac → af k9 = some (ad k9) ∧ wd_at w1 (ad k9) (.inr (0, [.int (av0 k9), .int (av1 k9), .int (av2 k9), .int (av3 k9)])) ∧ tg (ad k9) = 4000 + k9 := fun k9 hi9 => ⟨(hA9 k9 hi9).1, wd_at.pt ew2 (hA9 k9 hi9).2.1 (tg_ne (hA9 k9 hi9).2.2 tI0 (by omega)), (hA9 k9 hi9).2.2⟩
      have fm34 : ∀ k9, k9 < sc → zf k9 = some (so k9) ∧ wd_at w1 (so k9) (.inr (6, [.int (sp0 k9), .int (sp1 k9), .ref (sr k9)])) ∧ tg (so k9) = 5000 + k9 ∧ wd_at w1 (sr k9) (.inl (cy 2, 12, .inl (sd k9))) ∧ tg (sr k9) = 6000 + k9 := fun k9 hi9 => ⟨(hS9 k9 hi9).1, wd_at.pt ew2 (hS9 k9 hi9).2.1 (tg_ne (hS9 k9 hi9).2.2.1 tI0 (by omega)), (hS9 k9 hi9).2.2.1, wd_at.pt ew2 (hS9 k9 hi9).2.2.2.1 (tg_ne (hS9 k9 hi9).2.2.2.2 tI0 (by omega)), (hS9 k9 hi9).2.2.2.2⟩
      have fm35 : ∀ k9, k9 < sh → (hf k9 = some (sw k9) ∧ hto k9 < 12) ∧ wd_at w1 (sw k9) (.inr (5, [.int (nI (hto k9)), .int (hpp k9), .int (hle k9), .int (ham k9), .int (hhh k9), .int (hdd k9), .int (hru k9), .int (hde k9), .int (hcp k9), .int (hld k9)])) ∧ tg (sw k9) = 7000 + k9 := fun k9 hi9 => ⟨(hH9 k9 hi9).1, wd_at.pt ew2 (hH9 k9 hi9).2.1 (tg_ne (hH9 k9 hi9).2.2 tI0 (by omega)), (hH9 k9 hi9).2.2⟩
      have kp36 := kp0.put ew2 (tgS tI0 (by omega))
      refine lv_iconst (v := 1) hx hb dX10_clock_22 (by decide) ?_
      have hX38 : IX cy tg x d pc ac sc ln se plv w1 := IX.mk a0 a1 a2 a3 a4 a5 a6 a7 a8 a10 a11 b0 b1 b2 b3 tb l0 l1 l2 l3 l4 l5 l6 l7 bl bm sh gc sg lu lv9 f0 f1 f2 f3 tbf e0 e1 e4 e5 e7 ff bf bf2 e2 e3 e6 ta sz fo to fo2 to2 tf tn ag co ra aa ru ga0 ga1 ga2 ga3 ga4 df cf nf sf uf pf pa pwo phd pgd pdy pno ptp af ad av0 av1 av2 av3 zf so sr sp0 sp1 sd hf sw hto hpp hle ham hhh hdd hru hde hcp hld (by omega) (by omega) (by omega) (by omega) (by omega) (by omega) (by omega) (by omega) hag k3 tI0 k4 tI1 k5 tI2 k6 tI3 k7 tI4 k8 tI5 k9 tI6 k10 tI7 k11 tI8 k12 tI9 k13 tI10 k14 tI11 k15 tI12 k16 tI13 k17 tI14 k18 tI15 k19 tI16 k20 tI17 k21 tI18 k22 tI19 k23 tI20 k24 tI21 k25 tI22 k26 tI23 k27 tI24 k28 tI25 k29 tI26 fm30 fm31 fm32 fm33 fm34 fm35
      exact y_ir K hP hD hS (Nat.le_of_ble_eq_true rfl) (Nat.le_of_ble_eq_true rfl) (ty := .boolean) rfl rfl dX10_clock_23 (by refine ⟨(congrArg (fun z => some (Value.int z)) (show 1 = ckA td d from by simp [ckA, ckT, wi, c_1, c_2])), ?_⟩; rw [show ckT td d = d from by simp [ckA, ckT, wi, c_1, c_2]]; exact ⟨tg, (fun _ _ => rfl), kp36, hX38⟩)
    · refine lv_iconst (v := 0) hx hb dX10_clock_15 (by decide) ?_
      exact y_ir K hP hD hS (Nat.le_of_ble_eq_true rfl) (Nat.le_of_ble_eq_true rfl) (ty := .boolean) rfl rfl dX10_clock_16 (by refine ⟨(congrArg (fun z => some (Value.int z)) (show 0 = ckA td d from by simp [ckA, ckT, wi, c_1, c_2])), ?_⟩; rw [show ckT td d = td from by simp [ckA, ckT, wi, c_1, c_2]]; exact ⟨tg, fun _ _ => rfl, wd_kp.rf, hIX0⟩)
set_option maxHeartbeats 4000000 in
set_option maxRecDepth 100000 in
theorem X_way (l : Launch) (D : va_G) (cy : Nat → ClassId) (sk sv : Nat → Nat) (w : Wd) (tg : Nat → Nat) (x : Nat) (td : Int32) (pc ac sc ln : Nat) (se plv : Nat → Int32) (x1 x2 x3 x4 : Int32) (hIX0 : IX cy tg x td pc ac sc ln se plv w) : Ct l D cy sk sv yX10_way wsX10_way ({ frames := 2, cells := 0, slots := 0, locals := 42 }) [.ref x, .int x1, .int x2, .int x3, .int x4] w (fun v w1 => v = some (.int (wayA x1 x2 x4)) ∧ XP cy tg x td pc ac sc ln se plv w w1) := by
  refine Ct.by (cc := cX10_way) (maxL := 5) (ret := (some .boolean)) (by decide +kernel) rfl (Nat.le_of_ble_eq_true rfl) ?_
  intro p e s m args below meth c A Q F hnm K ls hl
  have F : wd_Fx p s m args meth c cX10_way 5 wsX10_way RX10 D cy sk sv A := F
  have hl : lv_has ls 5 [(0, .ref x), (1, .int x1), (2, .int x2), (3, .int x3), (4, .int x4)] := hl
  have hx := F.1.1
  have hb := F.1.2.1
  have hown := F.1.2.2.2.1
  have hts := F.1.2.2.2.2
  intro H locs hP hD hS
  have kp0 : wd_kp (fun b => tg b < 10000) w w := wd_kp.rf
  refine hIX0 _ ?_
  intro a0 a1 a2 a3 a4 a5 a6 a7 a8 a10 a11 b0 b1 b2 b3 tb l0 l1 l2 l3 l4 l5 l6 l7 bl bm sh gc sg lu lv9 f0 f1 f2 f3 tbf e0 e1 e4 e5 e7 ff bf bf2 e2 e3 e6 ta sz fo to fo2 to2 tf tn ag co ra aa ru ga0 ga1 ga2 ga3 ga4 df cf nf sf uf pf pa pwo phd pgd pdy pno ptp af ad av0 av1 av2 av3 zf so sr sp0 sp1 sd hf sw hto hpp hle ham hhh hdd hru hde hcp hld hp90 hp91 hp92 hp93 hp94 hp95 hp96 hp97 hag kI0 tI0 kI1 tI1 kI2 tI2 kI3 tI3 kI4 tI4 kI5 tI5 kI6 tI6 kI7 tI7 kI8 tI8 kI9 tI9 kI10 tI10 kI11 tI11 kI12 tI12 kI13 tI13 kI14 tI14 kI15 tI15 kI16 tI16 kI17 tI17 kI18 tI18 kI19 tI19 kI20 tI20 kI21 tI21 kI22 tI22 kI23 tI23 kI24 tI24 kI25 tI25 kI26 tI26 hT9 hG9 hP9 hA9 hS9 hH9
  refine lv_iload_n hx hb dX10_way_0 rfl (lv_at hl 1 rfl) ?_
  refine x_callS (n := 1) (As := [.int x1]) (rest := []) F hP hD hS (g_isTown l D cy sk sv w x1) gX10_way_X10_isTown rfl (by decide +kernel) ⟨(Nat.le_of_ble_eq_true rfl), (Nat.le_of_ble_eq_true rfl)⟩ rfl hl.1 (Nat.le_of_ble_eq_true rfl) dX10_way_1 rfl ⟨(Nat.le_of_ble_eq_true rfl), (Nat.le_of_ble_eq_true rfl)⟩ (fun v2 w3 hp1 H locs hP hD hS => ?_)
  obtain ⟨rfl, rfl⟩ := hp1
  refine W.eq (g2 := F0 m 4 ls [.int (wi x1 0 11)]) rfl (W.widen (k := 0) (n := 0) (Nat.le_of_ble_eq_true rfl) (Nat.le_of_ble_eq_true rfl) ?_)
  refine lv_if_eq (tgt := 30) hx hb dX10_way_4 (by decide) (fun c_4 => ?_) (fun c_4 => ?_)
  · refine lv_iconst (v := 0) hx hb dX10_way_30 (by decide) ?_
    exact y_ir K hP hD hS (Nat.le_of_ble_eq_true rfl) (Nat.le_of_ble_eq_true rfl) (ty := .boolean) rfl rfl dX10_way_31 (⟨(congrArg (fun z => some (Value.int z)) (show 0 = wayA x1 x2 x4 from by simp [wayA, c_4])), ⟨tg, fun _ _ => rfl, wd_kp.rf, hIX0⟩⟩)
  · obtain ⟨i, hi, rfl, cli⟩ := wi_t c_4
    refine lv_iload_n hx hb dX10_way_7 rfl (lv_at hl 2 rfl) ?_
    refine x_callS (n := 1) (As := [.int x2]) (rest := []) F hP hD hS (g_isTown l D cy sk sv w x2) gX10_way_X10_isTown rfl (by decide +kernel) ⟨(Nat.le_of_ble_eq_true rfl), (Nat.le_of_ble_eq_true rfl)⟩ rfl hl.1 (Nat.le_of_ble_eq_true rfl) dX10_way_8 rfl ⟨(Nat.le_of_ble_eq_true rfl), (Nat.le_of_ble_eq_true rfl)⟩ (fun v6 w7 hp5 H locs hP hD hS => ?_)
    obtain ⟨rfl, rfl⟩ := hp5
    refine W.eq (g2 := F0 m 11 ls [.int (wi x2 0 11)]) rfl (W.widen (k := 0) (n := 0) (Nat.le_of_ble_eq_true rfl) (Nat.le_of_ble_eq_true rfl) ?_)
    refine lv_if_eq (tgt := 30) hx hb dX10_way_11 (by decide) (fun c_8 => ?_) (fun c_8 => ?_)
    · refine lv_iconst (v := 0) hx hb dX10_way_30 (by decide) ?_
      exact y_ir K hP hD hS (Nat.le_of_ble_eq_true rfl) (Nat.le_of_ble_eq_true rfl) (ty := .boolean) rfl rfl dX10_way_31 (⟨(congrArg (fun z => some (Value.int z)) (show 0 = wayA (nI i) x2 x4 from by simp [wayA, c_4, cli, c_8])), ⟨tg, fun _ _ => rfl, wd_kp.rf, hIX0⟩⟩)
    · obtain ⟨j, hj, rfl, clj⟩ := wi_t c_8
      refine lv_iload_n hx hb dX10_way_14 rfl (lv_at hl 1 rfl) ?_
      refine lv_iload_n hx hb dX10_way_15 rfl (lv_at hl 2 rfl) ?_
      refine lv_icmp_eq (tgt := 30) hx hb dX10_way_16 (by decide) (fun c_9 => ?_) (fun c_9 => ?_)
      · refine lv_iconst (v := 0) hx hb dX10_way_30 (by decide) ?_
        exact y_ir K hP hD hS (Nat.le_of_ble_eq_true rfl) (Nat.le_of_ble_eq_true rfl) (ty := .boolean) rfl rfl dX10_way_31 (⟨(congrArg (fun z => some (Value.int z)) (show 0 = wayA (nI i) (nI j) x4 from by simp [wayA, c_4, cli, c_8, clj, c_9])), ⟨tg, fun _ _ => rfl, wd_kp.rf, hIX0⟩⟩)
      · refine lv_iload hx hb dX10_way_19 (lv_at hl 4 rfl) ?_
        refine lv_iconst (v := 0) hx hb dX10_way_21 (by decide) ?_
        refine lv_bipush (v := 99) hx hb dX10_way_22 (by decide) ?_
        refine x_callS (n := 3) (As := [.int x4, .int 0, .int 99]) (rest := []) F hP hD hS (g_isWithin l D cy sk sv w x4 0 99) gX10_way_X10_isWithin rfl (by decide +kernel) ⟨(Nat.le_of_ble_eq_true rfl), (Nat.le_of_ble_eq_true rfl)⟩ rfl hl.1 (Nat.le_of_ble_eq_true rfl) dX10_way_24 rfl ⟨(Nat.le_of_ble_eq_true rfl), (Nat.le_of_ble_eq_true rfl)⟩ (fun v11 w12 hp10 H locs hP hD hS => ?_)
        obtain ⟨rfl, rfl⟩ := hp10
        refine W.eq (g2 := F0 m 27 ls [.int (wi x4 0 99)]) rfl (W.widen (k := 0) (n := 0) (Nat.le_of_ble_eq_true rfl) (Nat.le_of_ble_eq_true rfl) ?_)
        refine lv_if_ne (tgt := 32) hx hb dX10_way_27 (by decide) (fun c_13 => ?_) (fun c_13 => ?_)
        · refine lv_aload_n hx hb dX10_way_32 rfl (lv_at hl 0 rfl) ?_
          refine x_get (ref := "NoteHouse") F hP kI0 rfl (fun _ h => List.mem_cons_of_mem _ (List.mem_append_left _ (List.mem_append_right _ (h)))) 0 (Nat.le_of_ble_eq_true rfl) (List.mem_cons_of_mem _ (List.mem_append_left _ (List.mem_append_left _ (List.mem_of_getElem? (i := 0) rfl)))) rfl rfl dX10_way_33 ?_
          refine lv_iload_n hx hb dX10_way_36 rfl (lv_at hl 1 rfl) ?_
          refine lv_iload_n hx hb dX10_way_37 rfl (lv_at hl 2 rfl) ?_
          refine lv_iload_n hx hb dX10_way_38 rfl (lv_at hl 3 rfl) ?_
          refine lv_iload hx hb dX10_way_39 (lv_at hl 4 rfl) ?_
          refine x_callV (n := 4) (As := [.int (nI i), .int (nI j), .int x3, .int x4]) (rest := []) F hP hD hS (g_join l D cy sk sv w a0 b0 b1 b2 b3 i j x3 x4 f0 f1 kI1 kI2 kI3 (fun b => b = b0 ∨ b = b1) (Or.inl rfl) (Or.inr rfl) (by omega) (by omega) (tg_ne tI2 tI3 (by omega))) gX10_way_X9_join rfl rfl (by decide +kernel) ⟨(Nat.le_of_ble_eq_true rfl), (Nat.le_of_ble_eq_true rfl)⟩ rfl hl.1 (Nat.le_of_ble_eq_true rfl) kI1 rfl dX10_way_41 rfl ⟨(Nat.le_of_ble_eq_true rfl), (Nat.le_of_ble_eq_true rfl)⟩ (fun v15 w16 hp14 H locs hP hD hS => ?_)
          obtain ⟨fx17, gx18, rfl, kq21, k19, k20⟩ := hp14
          have k22 := kq21.2 _ _ kI0 (fun q9 => Or.elim q9 (tg_ne tI0 tI2 (by omega)) (fun q9 : x = b1 => (tg_ne tI0 tI3 (by omega)) q9))
          have k23 := kq21.2 _ _ kI1 (fun q9 => Or.elim q9 (tg_ne tI1 tI2 (by omega)) (fun q9 : a0 = b1 => (tg_ne tI1 tI3 (by omega)) q9))
          have k24 := kq21.2 _ _ kI4 (fun q9 => Or.elim q9 (tg_ne tI4 tI2 (by omega)) (fun q9 : b2 = b1 => (tg_ne tI4 tI3 (by omega)) q9))
          have k25 := kq21.2 _ _ kI5 (fun q9 => Or.elim q9 (tg_ne tI5 tI2 (by omega)) (fun q9 : b3 = b1 => (tg_ne tI5 tI3 (by omega)) q9))
          have k26 := kq21.2 _ _ kI6 (fun q9 => Or.elim q9 (tg_ne tI6 tI2 (by omega)) (fun q9 : a1 = b1 => (tg_ne tI6 tI3 (by omega)) q9))
          have k27 := kq21.2 _ _ kI7 (fun q9 => Or.elim q9 (tg_ne tI7 tI2 (by omega)) (fun q9 : a2 = b1 => (tg_ne tI7 tI3 (by omega)) q9))
          have k28 := kq21.2 _ _ kI8 (fun q9 => Or.elim q9 (tg_ne tI8 tI2 (by omega)) (fun q9 : a3 = b1 => (tg_ne tI8 tI3 (by omega)) q9))
          have k29 := kq21.2 _ _ kI9 (fun q9 => Or.elim q9 (tg_ne tI9 tI2 (by omega)) (fun q9 : a4 = b1 => (tg_ne tI9 tI3 (by omega)) q9))
          have k30 := kq21.2 _ _ kI10 (fun q9 => Or.elim q9 (tg_ne tI10 tI2 (by omega)) (fun q9 : a5 = b1 => (tg_ne tI10 tI3 (by omega)) q9))
          have k31 := kq21.2 _ _ kI11 (fun q9 => Or.elim q9 (tg_ne tI11 tI2 (by omega)) (fun q9 : a6 = b1 => (tg_ne tI11 tI3 (by omega)) q9))
          have k32 := kq21.2 _ _ kI12 (fun q9 => Or.elim q9 (tg_ne tI12 tI2 (by omega)) (fun q9 : tb = b1 => (tg_ne tI12 tI3 (by omega)) q9))
          have k33 := kq21.2 _ _ kI13 (fun q9 => Or.elim q9 (tg_ne tI13 tI2 (by omega)) (fun q9 : a7 = b1 => (tg_ne tI13 tI3 (by omega)) q9))
          have k34 := kq21.2 _ _ kI14 (fun q9 => Or.elim q9 (tg_ne tI14 tI2 (by omega)) (fun q9 : l0 = b1 => (tg_ne tI14 tI3 (by omega)) q9))
          have k35 := kq21.2 _ _ kI15 (fun q9 => Or.elim q9 (tg_ne tI15 tI2 (by omega)) (fun q9 : l1 = b1 => (tg_ne tI15 tI3 (by omega)) q9))
          have k36 := kq21.2 _ _ kI16 (fun q9 => Or.elim q9 (tg_ne tI16 tI2 (by omega)) (fun q9 : l2 = b1 => (tg_ne tI16 tI3 (by omega)) q9))
          have k37 := kq21.2 _ _ kI17 (fun q9 => Or.elim q9 (tg_ne tI17 tI2 (by omega)) (fun q9 : l3 = b1 => (tg_ne tI17 tI3 (by omega)) q9))
          have k38 := kq21.2 _ _ kI18 (fun q9 => Or.elim q9 (tg_ne tI18 tI2 (by omega)) (fun q9 : l4 = b1 => (tg_ne tI18 tI3 (by omega)) q9))
          have k39 := kq21.2 _ _ kI19 (fun q9 => Or.elim q9 (tg_ne tI19 tI2 (by omega)) (fun q9 : l5 = b1 => (tg_ne tI19 tI3 (by omega)) q9))
          have k40 := kq21.2 _ _ kI20 (fun q9 => Or.elim q9 (tg_ne tI20 tI2 (by omega)) (fun q9 : l6 = b1 => (tg_ne tI20 tI3 (by omega)) q9))
          have k41 := kq21.2 _ _ kI21 (fun q9 => Or.elim q9 (tg_ne tI21 tI2 (by omega)) (fun q9 : l7 = b1 => (tg_ne tI21 tI3 (by omega)) q9))
          have k42 := kq21.2 _ _ kI22 (fun q9 => Or.elim q9 (tg_ne tI22 tI2 (by omega)) (fun q9 : a8 = b1 => (tg_ne tI22 tI3 (by omega)) q9))
          have k43 := kq21.2 _ _ kI23 (fun q9 => Or.elim q9 (tg_ne tI23 tI2 (by omega)) (fun q9 : a10 = b1 => (tg_ne tI23 tI3 (by omega)) q9))
          have k44 := kq21.2 _ _ kI24 (fun q9 => Or.elim q9 (tg_ne tI24 tI2 (by omega)) (fun q9 : bl = b1 => (tg_ne tI24 tI3 (by omega)) q9))
          have k45 := kq21.2 _ _ kI25 (fun q9 => Or.elim q9 (tg_ne tI25 tI2 (by omega)) (fun q9 : a11 = b1 => (tg_ne tI25 tI3 (by omega)) q9))
          have k46 := kq21.2 _ _ kI26 (fun q9 => Or.elim q9 (tg_ne tI26 tI2 (by omega)) (fun q9 : bm = b1 => (tg_ne tI26 tI3 (by omega)) q9))
          have fm47 : ∀ i9, i9 < 12 → tf i9 = some (tn i9) ∧ wd_at w16 (tn i9) (.inr (8, [.int (co i9), .int (ra i9), .int (se i9), .ref (ag i9)])) ∧ tg (tn i9) = 100 + i9 := fun i9 hi9 => ⟨(hT9 i9 hi9).1, kq21.2 _ _ (hT9 i9 hi9).2.1 (fun q9 => Or.elim q9 (tg_ne (hT9 i9 hi9).2.2 tI2 (by omega)) (tg_ne (hT9 i9 hi9).2.2 tI3 (by omega))), (hT9 i9 hi9).2.2⟩
          have fm48 : ∀ k9, k9 < 13 → (aOK (cf k9) (nf k9) ∧ ru k9 ≤ 12) ∧ wd_at w16 (aa k9) (.inr (1, [.ref (ga0 k9), .ref (ga1 k9), .ref (ga2 k9), .ref (ga3 k9), .ref (ga4 k9), .int (nI (ru k9))])) ∧ tg (aa k9) = 200 + k9 ∧ wd_at w16 (ga0 k9) (.inl (cy 2, 12, .inl (df k9))) ∧ tg (ga0 k9) = 220 + k9 ∧ wd_at w16 (ga1 k9) (.inl (cy 2, 12, .inl (cf k9))) ∧ tg (ga1 k9) = 240 + k9 ∧ wd_at w16 (ga2 k9) (.inl (cy 2, 72, .inl (nf k9))) ∧ tg (ga2 k9) = 260 + k9 ∧ wd_at w16 (ga3 k9) (.inl (cy 1, 72, .inl (sf k9))) ∧ tg (ga3 k9) = 280 + k9 ∧ wd_at w16 (ga4 k9) (.inl (cy 2, 72, .inl (uf k9))) ∧ tg (ga4 k9) = 300 + k9 := fun k9 hi9 => ⟨(hG9 k9 hi9).1, kq21.2 _ _ (hG9 k9 hi9).2.1 (fun q9 => Or.elim q9 (tg_ne (hG9 k9 hi9).2.2.1 tI2 (by omega)) (tg_ne (hG9 k9 hi9).2.2.1 tI3 (by omega))), (hG9 k9 hi9).2.2.1, kq21.2 _ _ (hG9 k9 hi9).2.2.2.1 (fun q9 => Or.elim q9 (tg_ne (hG9 k9 hi9).2.2.2.2.1 tI2 (by omega)) (tg_ne (hG9 k9 hi9).2.2.2.2.1 tI3 (by omega))), (hG9 k9 hi9).2.2.2.2.1, kq21.2 _ _ (hG9 k9 hi9).2.2.2.2.2.1 (fun q9 => Or.elim q9 (tg_ne (hG9 k9 hi9).2.2.2.2.2.2.1 tI2 (by omega)) (tg_ne (hG9 k9 hi9).2.2.2.2.2.2.1 tI3 (by omega))), (hG9 k9 hi9).2.2.2.2.2.2.1, kq21.2 _ _ (hG9 k9 hi9).2.2.2.2.2.2.2.1 (fun q9 => Or.elim q9 (tg_ne (hG9 k9 hi9).2.2.2.2.2.2.2.2.1 tI2 (by omega)) (tg_ne (hG9 k9 hi9).2.2.2.2.2.2.2.2.1 tI3 (by omega))), (hG9 k9 hi9).2.2.2.2.2.2.2.2.1, kq21.2 _ _ (hG9 k9 hi9).2.2.2.2.2.2.2.2.2.1 (fun q9 => Or.elim q9 (tg_ne (hG9 k9 hi9).2.2.2.2.2.2.2.2.2.2.1 tI2 (by omega)) (tg_ne (hG9 k9 hi9).2.2.2.2.2.2.2.2.2.2.1 tI3 (by omega))), (hG9 k9 hi9).2.2.2.2.2.2.2.2.2.2.1, kq21.2 _ _ (hG9 k9 hi9).2.2.2.2.2.2.2.2.2.2.2.1 (fun q9 => Or.elim q9 (tg_ne (hG9 k9 hi9).2.2.2.2.2.2.2.2.2.2.2.2 tI2 (by omega)) (tg_ne (hG9 k9 hi9).2.2.2.2.2.2.2.2.2.2.2.2 tI3 (by omega))), (hG9 k9 hi9).2.2.2.2.2.2.2.2.2.2.2.2⟩
          have fm49 : ∀ k9, k9 < pc → pf k9 = some (pa k9) ∧ wd_at w16 (pa k9) (.inr (3, [.int (plv k9), .int (pwo k9), .int (phd k9), .int (pgd k9), .int (pdy k9), .int (pno k9), .int (ptp k9)])) ∧ tg (pa k9) = 3000 + k9 := fun k9 hi9 => ⟨(hP9 k9 hi9).1, kq21.2 _ _ (hP9 k9 hi9).2.1 (fun q9 => Or.elim q9 (tg_ne (hP9 k9 hi9).2.2 tI2 (by omega)) (tg_ne (hP9 k9 hi9).2.2 tI3 (by omega))), (hP9 k9 hi9).2.2⟩
          have fm50 : ∀ k9, k9 < ac → af k9 = some (ad k9) ∧ wd_at w16 (ad k9) (.inr (0, [.int (av0 k9), .int (av1 k9), .int (av2 k9), .int (av3 k9)])) ∧ tg (ad k9) = 4000 + k9 := fun k9 hi9 => ⟨(hA9 k9 hi9).1, kq21.2 _ _ (hA9 k9 hi9).2.1 (fun q9 => Or.elim q9 (tg_ne (hA9 k9 hi9).2.2 tI2 (by omega)) (tg_ne (hA9 k9 hi9).2.2 tI3 (by omega))), (hA9 k9 hi9).2.2⟩
          have fm51 : ∀ k9, k9 < sc → zf k9 = some (so k9) ∧ wd_at w16 (so k9) (.inr (6, [.int (sp0 k9), .int (sp1 k9), .ref (sr k9)])) ∧ tg (so k9) = 5000 + k9 ∧ wd_at w16 (sr k9) (.inl (cy 2, 12, .inl (sd k9))) ∧ tg (sr k9) = 6000 + k9 := fun k9 hi9 => ⟨(hS9 k9 hi9).1, kq21.2 _ _ (hS9 k9 hi9).2.1 (fun q9 => Or.elim q9 (tg_ne (hS9 k9 hi9).2.2.1 tI2 (by omega)) (tg_ne (hS9 k9 hi9).2.2.1 tI3 (by omega))), (hS9 k9 hi9).2.2.1, kq21.2 _ _ (hS9 k9 hi9).2.2.2.1 (fun q9 => Or.elim q9 (tg_ne (hS9 k9 hi9).2.2.2.2 tI2 (by omega)) (tg_ne (hS9 k9 hi9).2.2.2.2 tI3 (by omega))), (hS9 k9 hi9).2.2.2.2⟩
          have fm52 : ∀ k9, k9 < sh → (hf k9 = some (sw k9) ∧ hto k9 < 12) ∧ wd_at w16 (sw k9) (.inr (5, [.int (nI (hto k9)), .int (hpp k9), .int (hle k9), .int (ham k9), .int (hhh k9), .int (hdd k9), .int (hru k9), .int (hde k9), .int (hcp k9), .int (hld k9)])) ∧ tg (sw k9) = 7000 + k9 := fun k9 hi9 => ⟨(hH9 k9 hi9).1, kq21.2 _ _ (hH9 k9 hi9).2.1 (fun q9 => Or.elim q9 (tg_ne (hH9 k9 hi9).2.2 tI2 (by omega)) (tg_ne (hH9 k9 hi9).2.2 tI3 (by omega))), (hH9 k9 hi9).2.2⟩
          have kp53 := kp0.tr kq21 (fun b9 hm q9 => (fun q9 => Or.elim q9 (fun q9 => q9 ▸ (tgS tI2 (by omega))) (fun q9 => q9 ▸ (tgS tI3 (by omega)))) q9)
          refine W.eq (g2 := F0 m 44 ls []) rfl (W.widen (k := 0) (n := 0) (Nat.le_of_ble_eq_true rfl) (Nat.le_of_ble_eq_true rfl) ?_)
          refine lv_iconst (v := 1) hx hb dX10_way_44 (by decide) ?_
          have hX55 : IX cy tg x td pc ac sc ln se plv w16 := IX.mk a0 a1 a2 a3 a4 a5 a6 a7 a8 a10 a11 b0 b1 b2 b3 tb l0 l1 l2 l3 l4 l5 l6 l7 bl bm sh gc sg lu lv9 fx17 gx18 f2 f3 tbf e0 e1 e4 e5 e7 ff bf bf2 e2 e3 e6 ta sz fo to fo2 to2 tf tn ag co ra aa ru ga0 ga1 ga2 ga3 ga4 df cf nf sf uf pf pa pwo phd pgd pdy pno ptp af ad av0 av1 av2 av3 zf so sr sp0 sp1 sd hf sw hto hpp hle ham hhh hdd hru hde hcp hld (by omega) (by omega) (by omega) (by omega) (by omega) (by omega) (by omega) (by omega) hag k22 tI0 k23 tI1 k19 tI2 k20 tI3 k24 tI4 k25 tI5 k26 tI6 k27 tI7 k28 tI8 k29 tI9 k30 tI10 k31 tI11 k32 tI12 k33 tI13 k34 tI14 k35 tI15 k36 tI16 k37 tI17 k38 tI18 k39 tI19 k40 tI20 k41 tI21 k42 tI22 k43 tI23 k44 tI24 k45 tI25 k46 tI26 fm47 fm48 fm49 fm50 fm51 fm52
          exact y_ir K hP hD hS (Nat.le_of_ble_eq_true rfl) (Nat.le_of_ble_eq_true rfl) (ty := .boolean) rfl rfl dX10_way_45 (⟨(congrArg (fun z => some (Value.int z)) (show 1 = wayA (nI i) (nI j) x4 from by simp [wayA, c_4, cli, c_8, clj, c_9, c_13])), ⟨tg, (fun _ _ => rfl), kp53, hX55⟩⟩)
        · refine lv_iconst (v := 0) hx hb dX10_way_30 (by decide) ?_
          exact y_ir K hP hD hS (Nat.le_of_ble_eq_true rfl) (Nat.le_of_ble_eq_true rfl) (ty := .boolean) rfl rfl dX10_way_31 (⟨(congrArg (fun z => some (Value.int z)) (show 0 = wayA (nI i) (nI j) x4 from by simp [wayA, c_4, cli, c_8, clj, c_9, c_13])), ⟨tg, fun _ _ => rfl, wd_kp.rf, hIX0⟩⟩)
set_option maxHeartbeats 4000000 in
set_option maxRecDepth 100000 in
theorem X_rate (l : Launch) (D : va_G) (cy : Nat → ClassId) (sk sv : Nat → Nat) (w : Wd) (tg : Nat → Nat) (x : Nat) (td : Int32) (pc ac sc ln : Nat) (se plv : Nat → Int32) (x1 x2 x3 : Int32) (hIX0 : IX cy tg x td pc ac sc ln se plv w) : Ct l D cy sk sv yX10_rate wsX10_rate ({ frames := 2, cells := 0, slots := 0, locals := 42 }) [.ref x, .int x1, .int x2, .int x3] w (fun v w1 => v = some (.int (rateA x1 x2 x3)) ∧ XP cy tg x td pc ac sc ln se plv w w1) := by
  refine Ct.by (cc := cX10_rate) (maxL := 4) (ret := (some .boolean)) (by decide +kernel) rfl (Nat.le_of_ble_eq_true rfl) ?_
  intro p e s m args below meth c A Q F hnm K ls hl
  have F : wd_Fx p s m args meth c cX10_rate 4 wsX10_rate RX10 D cy sk sv A := F
  have hl : lv_has ls 4 [(0, .ref x), (1, .int x1), (2, .int x2), (3, .int x3)] := hl
  have hx := F.1.1
  have hb := F.1.2.1
  have hown := F.1.2.2.2.1
  have hts := F.1.2.2.2.2
  intro H locs hP hD hS
  have kp0 : wd_kp (fun b => tg b < 10000) w w := wd_kp.rf
  refine hIX0 _ ?_
  intro a0 a1 a2 a3 a4 a5 a6 a7 a8 a10 a11 b0 b1 b2 b3 tb l0 l1 l2 l3 l4 l5 l6 l7 bl bm sh gc sg lu lv9 f0 f1 f2 f3 tbf e0 e1 e4 e5 e7 ff bf bf2 e2 e3 e6 ta sz fo to fo2 to2 tf tn ag co ra aa ru ga0 ga1 ga2 ga3 ga4 df cf nf sf uf pf pa pwo phd pgd pdy pno ptp af ad av0 av1 av2 av3 zf so sr sp0 sp1 sd hf sw hto hpp hle ham hhh hdd hru hde hcp hld hp90 hp91 hp92 hp93 hp94 hp95 hp96 hp97 hag kI0 tI0 kI1 tI1 kI2 tI2 kI3 tI3 kI4 tI4 kI5 tI5 kI6 tI6 kI7 tI7 kI8 tI8 kI9 tI9 kI10 tI10 kI11 tI11 kI12 tI12 kI13 tI13 kI14 tI14 kI15 tI15 kI16 tI16 kI17 tI17 kI18 tI18 kI19 tI19 kI20 tI20 kI21 tI21 kI22 tI22 kI23 tI23 kI24 tI24 kI25 tI25 kI26 tI26 hT9 hG9 hP9 hA9 hS9 hH9
  refine lv_iload_n hx hb dX10_rate_0 rfl (lv_at hl 1 rfl) ?_
  refine x_callS (n := 1) (As := [.int x1]) (rest := []) F hP hD hS (g_isTown l D cy sk sv w x1) gX10_rate_X10_isTown rfl (by decide +kernel) ⟨(Nat.le_of_ble_eq_true rfl), (Nat.le_of_ble_eq_true rfl)⟩ rfl hl.1 (Nat.le_of_ble_eq_true rfl) dX10_rate_1 rfl ⟨(Nat.le_of_ble_eq_true rfl), (Nat.le_of_ble_eq_true rfl)⟩ (fun v2 w3 hp1 H locs hP hD hS => ?_)
  obtain ⟨rfl, rfl⟩ := hp1
  refine W.eq (g2 := F0 m 4 ls [.int (wi x1 0 11)]) rfl (W.widen (k := 0) (n := 0) (Nat.le_of_ble_eq_true rfl) (Nat.le_of_ble_eq_true rfl) ?_)
  refine lv_if_eq (tgt := 26) hx hb dX10_rate_4 (by decide) (fun c_4 => ?_) (fun c_4 => ?_)
  · refine lv_iconst (v := 0) hx hb dX10_rate_26 (by decide) ?_
    exact y_ir K hP hD hS (Nat.le_of_ble_eq_true rfl) (Nat.le_of_ble_eq_true rfl) (ty := .boolean) rfl rfl dX10_rate_27 (⟨(congrArg (fun z => some (Value.int z)) (show 0 = rateA x1 x2 x3 from by simp [rateA, c_4])), ⟨tg, fun _ _ => rfl, wd_kp.rf, hIX0⟩⟩)
  · obtain ⟨j, hj, rfl, clj⟩ := wi_t c_4
    refine lv_iload_n hx hb dX10_rate_7 rfl (lv_at hl 2 rfl) ?_
    refine lv_iconst (v := 0) hx hb dX10_rate_8 (by decide) ?_
    refine lv_iconst (v := 3) hx hb dX10_rate_9 (by decide) ?_
    refine x_callS (n := 3) (As := [.int x2, .int 0, .int 3]) (rest := []) F hP hD hS (g_isWithin l D cy sk sv w x2 0 3) gX10_rate_X10_isWithin rfl (by decide +kernel) ⟨(Nat.le_of_ble_eq_true rfl), (Nat.le_of_ble_eq_true rfl)⟩ rfl hl.1 (Nat.le_of_ble_eq_true rfl) dX10_rate_10 rfl ⟨(Nat.le_of_ble_eq_true rfl), (Nat.le_of_ble_eq_true rfl)⟩ (fun v6 w7 hp5 H locs hP hD hS => ?_)
    obtain ⟨rfl, rfl⟩ := hp5
    refine W.eq (g2 := F0 m 13 ls [.int (wi x2 0 3)]) rfl (W.widen (k := 0) (n := 0) (Nat.le_of_ble_eq_true rfl) (Nat.le_of_ble_eq_true rfl) ?_)
    refine lv_if_eq (tgt := 26) hx hb dX10_rate_13 (by decide) (fun c_8 => ?_) (fun c_8 => ?_)
    · refine lv_iconst (v := 0) hx hb dX10_rate_26 (by decide) ?_
      exact y_ir K hP hD hS (Nat.le_of_ble_eq_true rfl) (Nat.le_of_ble_eq_true rfl) (ty := .boolean) rfl rfl dX10_rate_27 (⟨(congrArg (fun z => some (Value.int z)) (show 0 = rateA (nI j) x2 x3 from by simp [rateA, c_4, clj, c_8])), ⟨tg, fun _ _ => rfl, wd_kp.rf, hIX0⟩⟩)
    · refine lv_iload_n hx hb dX10_rate_16 rfl (lv_at hl 3 rfl) ?_
      refine lv_iconst (v := 1) hx hb dX10_rate_17 (by decide) ?_
      refine lv_ldc (v := 100000) hx hb hown (hts _ (List.mem_cons_of_mem _ (List.mem_append_left _ (List.mem_append_left _ (List.mem_of_getElem? (i := 0) rfl))))) dX10_rate_18 ?_
      refine x_callS (n := 3) (As := [.int x3, .int 1, .int 100000]) (rest := []) F hP hD hS (g_isWithin l D cy sk sv w x3 1 100000) gX10_rate_X10_isWithin rfl (by decide +kernel) ⟨(Nat.le_of_ble_eq_true rfl), (Nat.le_of_ble_eq_true rfl)⟩ rfl hl.1 (Nat.le_of_ble_eq_true rfl) dX10_rate_20 rfl ⟨(Nat.le_of_ble_eq_true rfl), (Nat.le_of_ble_eq_true rfl)⟩ (fun v10 w11 hp9 H locs hP hD hS => ?_)
      obtain ⟨rfl, rfl⟩ := hp9
      refine W.eq (g2 := F0 m 23 ls [.int (wi x3 1 100000)]) rfl (W.widen (k := 0) (n := 0) (Nat.le_of_ble_eq_true rfl) (Nat.le_of_ble_eq_true rfl) ?_)
      refine lv_if_ne (tgt := 28) hx hb dX10_rate_23 (by decide) (fun c_12 => ?_) (fun c_12 => ?_)
      · refine lv_aload_n hx hb dX10_rate_28 rfl (lv_at hl 0 rfl) ?_
        refine x_get (ref := "NoteHouse") F hP kI0 rfl (fun _ h => List.mem_cons_of_mem _ (List.mem_append_left _ (List.mem_append_right _ (h)))) 1 (Nat.le_of_ble_eq_true rfl) (List.mem_cons_of_mem _ (List.mem_append_left _ (List.mem_append_left _ (List.mem_of_getElem? (i := 1) rfl)))) rfl rfl dX10_rate_29 ?_
        refine lv_iload_n hx hb dX10_rate_32 rfl (lv_at hl 1 rfl) ?_
        refine x_aald F hP kI6 rfl (vp_in_nI (n := j) (N := 12) (by omega) (by decide)) dX10_rate_33 ?_
        have pr13 := (hT9 j (by omega)).1
        have k14 := (hT9 j (by omega)).2.1
        have tz15 := (hT9 j (by omega)).2.2
        rw [nI_clamp (n := j) (by omega), pr13]
        refine W.eq (g2 := F0 m _ ls [.ref (tn j)]) rfl ?_
        refine lv_iload_n hx hb dX10_rate_34 rfl (lv_at hl 2 rfl) ?_
        refine y_put (ref := "NoteHouse$Town") F hP hD hS k14 rfl (fun _ h => List.mem_cons_of_mem _ (List.mem_append_right _ (h))) tyX8_ok nmX8 0 (Nat.le_of_ble_eq_true rfl) (List.mem_cons_of_mem _ (List.mem_append_left _ (List.mem_append_left _ (List.mem_of_getElem? (i := 2) rfl)))) rfl rfl rfl rfl (Nat.le_of_ble_eq_true rfl) dX10_rate_35 (fun w16 ew17 H locs hP hD hS => ?_)
        have fm18 : ∀ i9, i9 < 12 ∧ i9 ≠ j → tf i9 = some (tn i9) ∧ wd_at w (tn i9) (.inr (8, [.int (co i9), .int (ra i9), .int (se i9), .ref (ag i9)])) ∧ tg (tn i9) = 100 + i9 := fun i9 hi8 => hT9 i9 hi8.1
        have k19 := wd_at.pt ew17 kI0 (tg_ne tI0 tz15 (by omega))
        have k20 := wd_at.pt ew17 kI1 (tg_ne tI1 tz15 (by omega))
        have k21 := wd_at.pt ew17 kI2 (tg_ne tI2 tz15 (by omega))
        have k22 := wd_at.pt ew17 kI3 (tg_ne tI3 tz15 (by omega))
        have k23 := wd_at.pt ew17 kI4 (tg_ne tI4 tz15 (by omega))
        have k24 := wd_at.pt ew17 kI5 (tg_ne tI5 tz15 (by omega))
        have k25 := wd_at.pt ew17 kI6 (tg_ne tI6 tz15 (by omega))
        have k26 := wd_at.pt ew17 kI7 (tg_ne tI7 tz15 (by omega))
        have k27 := wd_at.pt ew17 kI8 (tg_ne tI8 tz15 (by omega))
        have k28 := wd_at.pt ew17 kI9 (tg_ne tI9 tz15 (by omega))
        have k29 := wd_at.pt ew17 kI10 (tg_ne tI10 tz15 (by omega))
        have k30 := wd_at.pt ew17 kI11 (tg_ne tI11 tz15 (by omega))
        have k31 := wd_at.pt ew17 kI12 (tg_ne tI12 tz15 (by omega))
        have k32 := wd_at.pt ew17 kI13 (tg_ne tI13 tz15 (by omega))
        have k33 := wd_at.pt ew17 kI14 (tg_ne tI14 tz15 (by omega))
        have k34 := wd_at.pt ew17 kI15 (tg_ne tI15 tz15 (by omega))
        have k35 := wd_at.pt ew17 kI16 (tg_ne tI16 tz15 (by omega))
        have k36 := wd_at.pt ew17 kI17 (tg_ne tI17 tz15 (by omega))
        have k37 := wd_at.pt ew17 kI18 (tg_ne tI18 tz15 (by omega))
        have k38 := wd_at.pt ew17 kI19 (tg_ne tI19 tz15 (by omega))
        have k39 := wd_at.pt ew17 kI20 (tg_ne tI20 tz15 (by omega))
        have k40 := wd_at.pt ew17 kI21 (tg_ne tI21 tz15 (by omega))
        have k41 := wd_at.pt ew17 kI22 (tg_ne tI22 tz15 (by omega))
        have k42 := wd_at.pt ew17 kI23 (tg_ne tI23 tz15 (by omega))
        have k43 := wd_at.pt ew17 kI24 (tg_ne tI24 tz15 (by omega))
        have k44 := wd_at.pt ew17 kI25 (tg_ne tI25 tz15 (by omega))
        have k45 := wd_at.pt ew17 kI26 (tg_ne tI26 tz15 (by omega))
        have k46 : wd_at w16 (tn j) (.inr (8, [.int x2, .int (ra j), .int (se j), .ref (ag j)])) := wd_at.ps ew17 k14
        have fm47 : ∀ i9, i9 < 12 ∧ i9 ≠ j → tf i9 = some (tn i9) ∧ wd_at w16 (tn i9) (.inr (8, [.int (co i9), .int (ra i9), .int (se i9), .ref (ag i9)])) ∧ tg (tn i9) = 100 + i9 := fun i9 hi9 => ⟨(fm18 i9 hi9).1, wd_at.pt ew17 (fm18 i9 hi9).2.1 (tg_ne (fm18 i9 hi9).2.2 tz15 (by omega)), (fm18 i9 hi9).2.2⟩
        have fm48 : ∀ k9, k9 < 13 → (aOK (cf k9) (nf k9) ∧ ru k9 ≤ 12) ∧ wd_at w16 (aa k9) (.inr (1, [.ref (ga0 k9), .ref (ga1 k9), .ref (ga2 k9), .ref (ga3 k9), .ref (ga4 k9), .int (nI (ru k9))])) ∧ tg (aa k9) = 200 + k9 ∧ wd_at w16 (ga0 k9) (.inl (cy 2, 12, .inl (df k9))) ∧ tg (ga0 k9) = 220 + k9 ∧ wd_at w16 (ga1 k9) (.inl (cy 2, 12, .inl (cf k9))) ∧ tg (ga1 k9) = 240 + k9 ∧ wd_at w16 (ga2 k9) (.inl (cy 2, 72, .inl (nf k9))) ∧ tg (ga2 k9) = 260 + k9 ∧ wd_at w16 (ga3 k9) (.inl (cy 1, 72, .inl (sf k9))) ∧ tg (ga3 k9) = 280 + k9 ∧ wd_at w16 (ga4 k9) (.inl (cy 2, 72, .inl (uf k9))) ∧ tg (ga4 k9) = 300 + k9 := fun k9 hi9 => ⟨(hG9 k9 hi9).1, wd_at.pt ew17 (hG9 k9 hi9).2.1 (tg_ne (hG9 k9 hi9).2.2.1 tz15 (by omega)), (hG9 k9 hi9).2.2.1, wd_at.pt ew17 (hG9 k9 hi9).2.2.2.1 (tg_ne (hG9 k9 hi9).2.2.2.2.1 tz15 (by omega)), (hG9 k9 hi9).2.2.2.2.1, wd_at.pt ew17 (hG9 k9 hi9).2.2.2.2.2.1 (tg_ne (hG9 k9 hi9).2.2.2.2.2.2.1 tz15 (by omega)), (hG9 k9 hi9).2.2.2.2.2.2.1, wd_at.pt ew17 (hG9 k9 hi9).2.2.2.2.2.2.2.1 (tg_ne (hG9 k9 hi9).2.2.2.2.2.2.2.2.1 tz15 (by omega)), (hG9 k9 hi9).2.2.2.2.2.2.2.2.1, wd_at.pt ew17 (hG9 k9 hi9).2.2.2.2.2.2.2.2.2.1 (tg_ne (hG9 k9 hi9).2.2.2.2.2.2.2.2.2.2.1 tz15 (by omega)), (hG9 k9 hi9).2.2.2.2.2.2.2.2.2.2.1, wd_at.pt ew17 (hG9 k9 hi9).2.2.2.2.2.2.2.2.2.2.2.1 (tg_ne (hG9 k9 hi9).2.2.2.2.2.2.2.2.2.2.2.2 tz15 (by omega)), (hG9 k9 hi9).2.2.2.2.2.2.2.2.2.2.2.2⟩
        have fm49 : ∀ k9, k9 < pc → pf k9 = some (pa k9) ∧ wd_at w16 (pa k9) (.inr (3, [.int (plv k9), .int (pwo k9), .int (phd k9), .int (pgd k9), .int (pdy k9), .int (pno k9), .int (ptp k9)])) ∧ tg (pa k9) = 3000 + k9 := fun k9 hi9 => ⟨(hP9 k9 hi9).1, wd_at.pt ew17 (hP9 k9 hi9).2.1 (tg_ne (hP9 k9 hi9).2.2 tz15 (by omega)), (hP9 k9 hi9).2.2⟩
        have fm50 : ∀ k9, k9 < ac → af k9 = some (ad k9) ∧ wd_at w16 (ad k9) (.inr (0, [.int (av0 k9), .int (av1 k9), .int (av2 k9), .int (av3 k9)])) ∧ tg (ad k9) = 4000 + k9 := fun k9 hi9 => ⟨(hA9 k9 hi9).1, wd_at.pt ew17 (hA9 k9 hi9).2.1 (tg_ne (hA9 k9 hi9).2.2 tz15 (by omega)), (hA9 k9 hi9).2.2⟩
        have fm51 : ∀ k9, k9 < sc → zf k9 = some (so k9) ∧ wd_at w16 (so k9) (.inr (6, [.int (sp0 k9), .int (sp1 k9), .ref (sr k9)])) ∧ tg (so k9) = 5000 + k9 ∧ wd_at w16 (sr k9) (.inl (cy 2, 12, .inl (sd k9))) ∧ tg (sr k9) = 6000 + k9 := fun k9 hi9 => ⟨(hS9 k9 hi9).1, wd_at.pt ew17 (hS9 k9 hi9).2.1 (tg_ne (hS9 k9 hi9).2.2.1 tz15 (by omega)), (hS9 k9 hi9).2.2.1, wd_at.pt ew17 (hS9 k9 hi9).2.2.2.1 (tg_ne (hS9 k9 hi9).2.2.2.2 tz15 (by omega)), (hS9 k9 hi9).2.2.2.2⟩
        have fm52 : ∀ k9, k9 < sh → (hf k9 = some (sw k9) ∧ hto k9 < 12) ∧ wd_at w16 (sw k9) (.inr (5, [.int (nI (hto k9)), .int (hpp k9), .int (hle k9), .int (ham k9), .int (hhh k9), .int (hdd k9), .int (hru k9), .int (hde k9), .int (hcp k9), .int (hld k9)])) ∧ tg (sw k9) = 7000 + k9 := fun k9 hi9 => ⟨(hH9 k9 hi9).1, wd_at.pt ew17 (hH9 k9 hi9).2.1 (tg_ne (hH9 k9 hi9).2.2 tz15 (by omega)), (hH9 k9 hi9).2.2⟩
        have kp53 := kp0.put ew17 (tgS tz15 (by omega))
        refine lv_aload_n hx hb dX10_rate_38 rfl (lv_at hl 0 rfl) ?_
        refine x_get (ref := "NoteHouse") F hP k19 rfl (fun _ h => List.mem_cons_of_mem _ (List.mem_append_left _ (List.mem_append_right _ (h)))) 1 (Nat.le_of_ble_eq_true rfl) (List.mem_cons_of_mem _ (List.mem_append_left _ (List.mem_append_left _ (List.mem_of_getElem? (i := 1) rfl)))) rfl rfl dX10_rate_39 ?_
        refine lv_iload_n hx hb dX10_rate_42 rfl (lv_at hl 1 rfl) ?_
        refine x_aald F hP k25 rfl (vp_in_nI (n := j) (N := 12) (by omega) (by decide)) dX10_rate_43 ?_
        rw [nI_clamp (n := j) (by omega), pr13]
        refine W.eq (g2 := F0 m _ ls [.ref (tn j)]) rfl ?_
        refine lv_iload_n hx hb dX10_rate_44 rfl (lv_at hl 3 rfl) ?_
        refine y_put (ref := "NoteHouse$Town") F hP hD hS k46 rfl (fun _ h => List.mem_cons_of_mem _ (List.mem_append_right _ (h))) tyX8_ok nmX8 1 (Nat.le_of_ble_eq_true rfl) (List.mem_cons_of_mem _ (List.mem_append_left _ (List.mem_append_left _ (List.mem_of_getElem? (i := 3) rfl)))) rfl rfl rfl rfl (Nat.le_of_ble_eq_true rfl) dX10_rate_45 (fun w54 ew55 H locs hP hD hS => ?_)
        have k56 := wd_at.pt ew55 k19 (tg_ne tI0 tz15 (by omega))
        have k57 := wd_at.pt ew55 k20 (tg_ne tI1 tz15 (by omega))
        have k58 := wd_at.pt ew55 k21 (tg_ne tI2 tz15 (by omega))
        have k59 := wd_at.pt ew55 k22 (tg_ne tI3 tz15 (by omega))
        have k60 := wd_at.pt ew55 k23 (tg_ne tI4 tz15 (by omega))
        have k61 := wd_at.pt ew55 k24 (tg_ne tI5 tz15 (by omega))
        have k62 := wd_at.pt ew55 k25 (tg_ne tI6 tz15 (by omega))
        have k63 := wd_at.pt ew55 k26 (tg_ne tI7 tz15 (by omega))
        have k64 := wd_at.pt ew55 k27 (tg_ne tI8 tz15 (by omega))
        have k65 := wd_at.pt ew55 k28 (tg_ne tI9 tz15 (by omega))
        have k66 := wd_at.pt ew55 k29 (tg_ne tI10 tz15 (by omega))
        have k67 := wd_at.pt ew55 k30 (tg_ne tI11 tz15 (by omega))
        have k68 := wd_at.pt ew55 k31 (tg_ne tI12 tz15 (by omega))
        have k69 := wd_at.pt ew55 k32 (tg_ne tI13 tz15 (by omega))
        have k70 := wd_at.pt ew55 k33 (tg_ne tI14 tz15 (by omega))
        have k71 := wd_at.pt ew55 k34 (tg_ne tI15 tz15 (by omega))
        have k72 := wd_at.pt ew55 k35 (tg_ne tI16 tz15 (by omega))
        have k73 := wd_at.pt ew55 k36 (tg_ne tI17 tz15 (by omega))
        have k74 := wd_at.pt ew55 k37 (tg_ne tI18 tz15 (by omega))
        have k75 := wd_at.pt ew55 k38 (tg_ne tI19 tz15 (by omega))
        have k76 := wd_at.pt ew55 k39 (tg_ne tI20 tz15 (by omega))
        have k77 := wd_at.pt ew55 k40 (tg_ne tI21 tz15 (by omega))
        have k78 := wd_at.pt ew55 k41 (tg_ne tI22 tz15 (by omega))
        have k79 := wd_at.pt ew55 k42 (tg_ne tI23 tz15 (by omega))
        have k80 := wd_at.pt ew55 k43 (tg_ne tI24 tz15 (by omega))
        have k81 := wd_at.pt ew55 k44 (tg_ne tI25 tz15 (by omega))
        have k82 := wd_at.pt ew55 k45 (tg_ne tI26 tz15 (by omega))
        have k83 : wd_at w54 (tn j) (.inr (8, [.int x2, .int x3, .int (se j), .ref (ag j)])) := wd_at.ps ew55 k46
        have fm84 : ∀ i9, i9 < 12 ∧ i9 ≠ j → tf i9 = some (tn i9) ∧ wd_at w54 (tn i9) (.inr (8, [.int (co i9), .int (ra i9), .int (se i9), .ref (ag i9)])) ∧ tg (tn i9) = 100 + i9 := fun i9 hi9 => ⟨(fm47 i9 hi9).1, wd_at.pt ew55 (fm47 i9 hi9).2.1 (tg_ne (fm47 i9 hi9).2.2 tz15 (by omega)), (fm47 i9 hi9).2.2⟩
        have fm85 : ∀ k9, k9 < 13 → (aOK (cf k9) (nf k9) ∧ ru k9 ≤ 12) ∧ wd_at w54 (aa k9) (.inr (1, [.ref (ga0 k9), .ref (ga1 k9), .ref (ga2 k9), .ref (ga3 k9), .ref (ga4 k9), .int (nI (ru k9))])) ∧ tg (aa k9) = 200 + k9 ∧ wd_at w54 (ga0 k9) (.inl (cy 2, 12, .inl (df k9))) ∧ tg (ga0 k9) = 220 + k9 ∧ wd_at w54 (ga1 k9) (.inl (cy 2, 12, .inl (cf k9))) ∧ tg (ga1 k9) = 240 + k9 ∧ wd_at w54 (ga2 k9) (.inl (cy 2, 72, .inl (nf k9))) ∧ tg (ga2 k9) = 260 + k9 ∧ wd_at w54 (ga3 k9) (.inl (cy 1, 72, .inl (sf k9))) ∧ tg (ga3 k9) = 280 + k9 ∧ wd_at w54 (ga4 k9) (.inl (cy 2, 72, .inl (uf k9))) ∧ tg (ga4 k9) = 300 + k9 := fun k9 hi9 => ⟨(fm48 k9 hi9).1, wd_at.pt ew55 (fm48 k9 hi9).2.1 (tg_ne (fm48 k9 hi9).2.2.1 tz15 (by omega)), (fm48 k9 hi9).2.2.1, wd_at.pt ew55 (fm48 k9 hi9).2.2.2.1 (tg_ne (fm48 k9 hi9).2.2.2.2.1 tz15 (by omega)), (fm48 k9 hi9).2.2.2.2.1, wd_at.pt ew55 (fm48 k9 hi9).2.2.2.2.2.1 (tg_ne (fm48 k9 hi9).2.2.2.2.2.2.1 tz15 (by omega)), (fm48 k9 hi9).2.2.2.2.2.2.1, wd_at.pt ew55 (fm48 k9 hi9).2.2.2.2.2.2.2.1 (tg_ne (fm48 k9 hi9).2.2.2.2.2.2.2.2.1 tz15 (by omega)), (fm48 k9 hi9).2.2.2.2.2.2.2.2.1, wd_at.pt ew55 (fm48 k9 hi9).2.2.2.2.2.2.2.2.2.1 (tg_ne (fm48 k9 hi9).2.2.2.2.2.2.2.2.2.2.1 tz15 (by omega)), (fm48 k9 hi9).2.2.2.2.2.2.2.2.2.2.1, wd_at.pt ew55 (fm48 k9 hi9).2.2.2.2.2.2.2.2.2.2.2.1 (tg_ne (fm48 k9 hi9).2.2.2.2.2.2.2.2.2.2.2.2 tz15 (by omega)), (fm48 k9 hi9).2.2.2.2.2.2.2.2.2.2.2.2⟩
        have fm86 : ∀ k9, k9 < pc → pf k9 = some (pa k9) ∧ wd_at w54 (pa k9) (.inr (3, [.int (plv k9), .int (pwo k9), .int (phd k9), .int (pgd k9), .int (pdy k9), .int (pno k9), .int (ptp k9)])) ∧ tg (pa k9) = 3000 + k9 := fun k9 hi9 => ⟨(fm49 k9 hi9).1, wd_at.pt ew55 (fm49 k9 hi9).2.1 (tg_ne (fm49 k9 hi9).2.2 tz15 (by omega)), (fm49 k9 hi9).2.2⟩
        have fm87 : ∀ k9, k9 < ac → af k9 = some (ad k9) ∧ wd_at w54 (ad k9) (.inr (0, [.int (av0 k9), .int (av1 k9), .int (av2 k9), .int (av3 k9)])) ∧ tg (ad k9) = 4000 + k9 := fun k9 hi9 => ⟨(fm50 k9 hi9).1, wd_at.pt ew55 (fm50 k9 hi9).2.1 (tg_ne (fm50 k9 hi9).2.2 tz15 (by omega)), (fm50 k9 hi9).2.2⟩
        have fm88 : ∀ k9, k9 < sc → zf k9 = some (so k9) ∧ wd_at w54 (so k9) (.inr (6, [.int (sp0 k9), .int (sp1 k9), .ref (sr k9)])) ∧ tg (so k9) = 5000 + k9 ∧ wd_at w54 (sr k9) (.inl (cy 2, 12, .inl (sd k9))) ∧ tg (sr k9) = 6000 + k9 := fun k9 hi9 => ⟨(fm51 k9 hi9).1, wd_at.pt ew55 (fm51 k9 hi9).2.1 (tg_ne (fm51 k9 hi9).2.2.1 tz15 (by omega)), (fm51 k9 hi9).2.2.1, wd_at.pt ew55 (fm51 k9 hi9).2.2.2.1 (tg_ne (fm51 k9 hi9).2.2.2.2 tz15 (by omega)), (fm51 k9 hi9).2.2.2.2⟩
        have fm89 : ∀ k9, k9 < sh → (hf k9 = some (sw k9) ∧ hto k9 < 12) ∧ wd_at w54 (sw k9) (.inr (5, [.int (nI (hto k9)), .int (hpp k9), .int (hle k9), .int (ham k9), .int (hhh k9), .int (hdd k9), .int (hru k9), .int (hde k9), .int (hcp k9), .int (hld k9)])) ∧ tg (sw k9) = 7000 + k9 := fun k9 hi9 => ⟨(fm52 k9 hi9).1, wd_at.pt ew55 (fm52 k9 hi9).2.1 (tg_ne (fm52 k9 hi9).2.2 tz15 (by omega)), (fm52 k9 hi9).2.2⟩
        have kp90 := kp53.put ew55 (tgS tz15 (by omega))
        refine lv_iconst (v := 1) hx hb dX10_rate_48 (by decide) ?_
        have fm92 : ∀ i9, i9 < 12 → tf i9 = some (tn i9) ∧ wd_at w54 (tn i9) (.inr (8, [.int ((va_up co j x2) i9), .int ((va_up ra j x3) i9), .int (se i9), .ref (ag i9)])) ∧ tg (tn i9) = 100 + i9 := by
          intro i9 hi9
          by_cases e9 : i9 = j
          · rw [e9]
            exact ⟨pr13, (by simp only [va_up_self]; exact k83), tz15⟩
          · simp only [va_up_ne _ _ e9]
            exact fm84 i9 (by omega)
        have hX93 : IX cy tg x td pc ac sc ln se plv w54 := IX.mk a0 a1 a2 a3 a4 a5 a6 a7 a8 a10 a11 b0 b1 b2 b3 tb l0 l1 l2 l3 l4 l5 l6 l7 bl bm sh gc sg lu lv9 f0 f1 f2 f3 tbf e0 e1 e4 e5 e7 ff bf bf2 e2 e3 e6 ta sz fo to fo2 to2 tf tn ag (va_up co j x2) (va_up ra j x3) aa ru ga0 ga1 ga2 ga3 ga4 df cf nf sf uf pf pa pwo phd pgd pdy pno ptp af ad av0 av1 av2 av3 zf so sr sp0 sp1 sd hf sw hto hpp hle ham hhh hdd hru hde hcp hld (by omega) (by omega) (by omega) (by omega) (by omega) (by omega) (by omega) (by omega) hag k56 tI0 k57 tI1 k58 tI2 k59 tI3 k60 tI4 k61 tI5 k62 tI6 k63 tI7 k64 tI8 k65 tI9 k66 tI10 k67 tI11 k68 tI12 k69 tI13 k70 tI14 k71 tI15 k72 tI16 k73 tI17 k74 tI18 k75 tI19 k76 tI20 k77 tI21 k78 tI22 k79 tI23 k80 tI24 k81 tI25 k82 tI26 fm92 fm85 fm86 fm87 fm88 fm89
        exact y_ir K hP hD hS (Nat.le_of_ble_eq_true rfl) (Nat.le_of_ble_eq_true rfl) (ty := .boolean) rfl rfl dX10_rate_49 (⟨(congrArg (fun z => some (Value.int z)) (show 1 = rateA (nI j) x2 x3 from by simp [rateA, c_4, clj, c_8, c_12])), ⟨tg, (fun _ _ => rfl), kp90, hX93⟩⟩)
      · refine lv_iconst (v := 0) hx hb dX10_rate_26 (by decide) ?_
        exact y_ir K hP hD hS (Nat.le_of_ble_eq_true rfl) (Nat.le_of_ble_eq_true rfl) (ty := .boolean) rfl rfl dX10_rate_27 (⟨(congrArg (fun z => some (Value.int z)) (show 0 = rateA (nI j) x2 x3 from by simp [rateA, c_4, clj, c_8, c_12])), ⟨tg, fun _ _ => rfl, wd_kp.rf, hIX0⟩⟩)
