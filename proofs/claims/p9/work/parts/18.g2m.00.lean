theorem Ct.mono {l : Launch} {D : va_G} {cy : Nat → ClassId} {sk sv : Nat → Nat} {y : MethodName} {ws : List Cond} {rm : Room} {av : List Value} {w : Wd} {post post' : Option Value → Wd → Prop} (h : Ct l D cy sk sv y ws rm av w post) (hi : ∀ v w1, post v w1 → post' v w1) : Ct l D cy sk sv y ws rm av w post' := by
  intro sz p e hl hf1 hf2 s m args below h1 h2 h3 h4
  obtain ⟨n, o, a1, a2, a3, ⟨⟨v, w1, e1, e2, e3⟩, e4⟩, e5⟩ := h sz p e hl hf1 hf2 s m args below h1 h2 h3 h4
  exact ⟨n, o, a1, a2, a3, ⟨⟨v, w1, e1, hi v w1 e2, e3⟩, e4⟩, e5⟩
theorem nI_np {n : Nat} (h : 0 < n) (hb : n < 2000) : ¬ nI n ≤ 0 := fun q => by
  have h1 := (nI_leI (a := n) (b := 0) (by omega) (by omega)).mp q
  omega
theorem nI_z {n : Nat} (hb : n < 2000) (q : nI n ≤ 0) : n = 0 := by
  have h1 := (nI_leI (a := n) (b := 0) (by omega) (by omega)).mp q
  omega
theorem nI_z0 {n : Nat} (hb : n < 2000) (q : nI n = 0) : n = 0 := (nI_eq (a := n) (b := 0) (by omega) (by omega)).mp q
theorem nI_nel {a b : Nat} (h : a ≠ b) (ha : a < 2 ^ 31) (hb : b < 2 ^ 31) : ¬ nI a = nI b := fun q => h ((nI_eq ha hb).mp q)
theorem nI_nz {n : Nat} (hb : n < 2 ^ 31) (q : ¬ nI n = 0) : 0 < n := Nat.pos_of_ne_zero (fun z => q (by rw [z]; rfl))
def cOK (f : Nat → Int32) : Prop := ∀ k, k < 156 → ∃ u, u ≤ 6 ∧ f k = nI u
theorem cOK.c {f : Nat → Int32} {r u : Nat} (h : cOK f) (hr : r < 156) (hu : u ≤ 6) : cOK (upd f (nI r).toNatClampNeg (nI u)) := fun k hk => by
  rw [nI_clamp (by omega)]
  by_cases e : k = r
  · rw [e, pk_us]; exact ⟨u, hu, rfl⟩
  · rw [pk_un e]; exact h k hk
def bOK (B M : Nat) (f : Nat → Int32) : Prop := ∀ k, k < B → ∃ u, u < M ∧ f k = nI u
theorem bOK.c {B M : Nat} {f : Nat → Int32} {r u : Nat} (h : bOK B M f) (hb : r < 2 ^ 31) (hu : u < M) : bOK B M (upd f (nI r).toNatClampNeg (nI u)) := fun k hk => by
  rw [nI_clamp (by omega)]
  by_cases e : k = r
  · rw [e, pk_us]; exact ⟨u, hu, rfl⟩
  · rw [pk_un e]; exact h k hk
theorem bOK.a {B M : Nat} {f : Nat → Int32} {u : Nat} (h : bOK B M f) (hb : B < 2 ^ 31) (hu : u < M) : bOK (B + 1) M (upd f (nI B).toNatClampNeg (nI u)) := fun k hk => by
  rw [nI_clamp (by omega)]
  by_cases e : k = B
  · rw [e, pk_us]; exact ⟨u, hu, rfl⟩
  · rw [pk_un e]; exact h k (by omega)
set_option maxHeartbeats 4000000 in
set_option maxRecDepth 100000 in
theorem m_sends (l : Launch) (D : va_G) (cy : Nat → ClassId) (sk sv : Nat → Nat) (w : Wd) (tg : Nat → Nat) (y m2 m3 m4 m5 m6 m8 m9 m10 m11 m12 m13 m14 m17 m18 m19 m20 m21 m22 m23 m24 m29 m30 m31 m32 m33 m34 m35 m36 m37 m39 m40 m41 m42 m43 m44 m45 m46 m47 m48 m49 m51 m52 m53 m54 m56 m57 m58 m59 pc ac sc ln sh gf : Nat) (v0 td v26 v27 v28 v50 : Int32) (f6 : Nat → Int32) (qp : Nat → Option Nat) (pr : Nat → Nat) (fp : Nat → Nat → Int32) (qw : Nat → Option Nat) (wr : Nat → Nat) (fw : Nat → Nat → Int32) (fr u : Int32) (c90 : wd_at w y (.inr (11, [.int v0, .int td, .ref m2, .ref m3, .ref m4, .ref m5, .ref m6, .int (nI pc), .ref m8, .ref m9, .ref m10, .ref m11, .ref m12, .ref m13, .ref m14, .int (nI ac), .int (nI sc), .ref m17, .ref m18, .ref m19, .ref m20, .ref m21, .ref m22, .ref m23, .ref m24, .int (nI ln), .int v26, .int v27, .int v28, .ref m29, .ref m30, .ref m31, .ref m32, .ref m33, .ref m34, .ref m35, .ref m36, .ref m37, .int (nI sh), .ref m39, .ref m40, .ref m41, .ref m42, .ref m43, .ref m44, .ref m45, .ref m46, .ref m47, .ref m48, .ref m49, .int v50, .ref m51, .ref m52, .ref m53, .ref m54, .int (nI gf), .ref m56, .ref m57, .ref m58, .ref m59]))) (c91 : wd_at w m6 (.inl (cy 2, 12, .inl f6))) (c92 : wd_at w m2 (.inl (cy 10, 12, .inr (.inr (.inr (.inr qp)))))) (c93 : wd_at w m3 (.inl (cy 10, 12, .inr (.inr (.inr (.inr qw)))))) (hFPR : ∀ k9, k9 < 12 → qp k9 = some (pr k9) ∧ wd_at w (pr k9) (.inl (cy 2, 12, .inl (fp k9))) ∧ tg (pr k9) = 11000 + k9) (hFWR : ∀ k9, k9 < 12 → qw k9 = some (wr k9) ∧ wd_at w (wr k9) (.inl (cy 2, 12, .inl (fw k9))) ∧ tg (wr k9) = 12000 + k9) (S : Nat → Prop) (s90 : S m6) (ty : tg y = 10000) (tm6 : tg m6 = 10106) (tm2 : tg m2 = 10102) (tm3 : tg m3 = 10103) : Ct l D cy sk sv yX11_sends wsX11_sends ({ frames := 0, cells := 0, slots := 0, locals := 0 }) [.ref y, .int fr, .int u] w (fun v w1 => ∃ (g6 : Nat → Int32), v = none ∧ wd_kp S w w1 ∧ wd_at w1 m6 (.inl (cy 2, 12, .inl g6))) := by
  refine Ct.by (cc := cX11_sends) (maxL := 7) (ret := none) (by decide +kernel) rfl (Nat.le_of_ble_eq_true rfl) ?_
  intro p e s m args below meth c A Q F hnm K ls hl
  have F : wd_Fx p s m args meth c cX11_sends 7 wsX11_sends RX11 D cy sk sv A := F
  have hl : lv_has ls 7 [(0, .ref y), (1, .int fr), (2, .int u)] := hl
  have hx := F.1.1
  have hb := F.1.2.1
  have hown := F.1.2.2.2.1
  have hts := F.1.2.2.2.2
  intro H locs hP hD hS
  have kp0 : wd_kp S w w := wd_kp.rf
  refine lv_iconst (v := 0) hx hb dX11_sends_0 (by decide) ?_
  refine lv_istore_n (lv' := [(3, .int 0), (0, .ref y), (1, .int fr), (2, .int u)]) hx hb dX11_sends_1 rfl hl (by decide) rfl (fun ls hl => ?_)
  have lp2 : ∀ (N : Nat) (j : Nat) (ga : Nat → Int32) (w1 : Wd), (j + N = 12) → (wd_at w1 y (.inr (11, [.int v0, .int td, .ref m2, .ref m3, .ref m4, .ref m5, .ref m6, .int (nI pc), .ref m8, .ref m9, .ref m10, .ref m11, .ref m12, .ref m13, .ref m14, .int (nI ac), .int (nI sc), .ref m17, .ref m18, .ref m19, .ref m20, .ref m21, .ref m22, .ref m23, .ref m24, .int (nI ln), .int v26, .int v27, .int v28, .ref m29, .ref m30, .ref m31, .ref m32, .ref m33, .ref m34, .ref m35, .ref m36, .ref m37, .int (nI sh), .ref m39, .ref m40, .ref m41, .ref m42, .ref m43, .ref m44, .ref m45, .ref m46, .ref m47, .ref m48, .ref m49, .int v50, .ref m51, .ref m52, .ref m53, .ref m54, .int (nI gf), .ref m56, .ref m57, .ref m58, .ref m59]))) → (wd_at w1 m6 (.inl (cy 2, 12, .inl ga))) → (wd_at w1 m2 (.inl (cy 10, 12, .inr (.inr (.inr (.inr qp)))))) → (wd_at w1 m3 (.inl (cy 10, 12, .inr (.inr (.inr (.inr qw)))))) → (∀ k9, k9 < 12 → qp k9 = some (pr k9) ∧ wd_at w1 (pr k9) (.inl (cy 2, 12, .inl (fp k9))) ∧ tg (pr k9) = 11000 + k9) → (∀ k9, k9 < 12 → qw k9 = some (wr k9) ∧ wd_at w1 (wr k9) (.inl (cy 2, 12, .inl (fw k9))) ∧ tg (wr k9) = 12000 + k9) → (wd_kp S w w1) → ∀ (ls : Array Slot), lv_has ls 7 [(0, .ref y), (1, .int fr), (2, .int u), (3, .int (nI j))] → Wv p l e ({ frames := 0, cells := 0, slots := 0, locals := 0 }) s m args below meth c D A (0) (0) Q w1 (F0 m 2 ls []) := by
    intro N
    induction N with
    | zero =>
      intro j ga w1 hN2 k2 k3 k4 k5 fm6 fm7 kp8 ls hl H locs hP hD hS
      refine lv_iload_n hx hb dX11_sends_2 rfl (lv_at hl 3 rfl) ?_
      refine lv_bipush (v := 12) hx hb dX11_sends_3 (by decide) ?_
      refine lv_icmp_ge (tgt := 31) hx hb dX11_sends_5 (by decide) (fun c_9 => ?_) (fun c_9 => absurd (nI_le (a := 12) (b := j) (by omega) (by omega)) c_9)
      refine lv_iconst (v := 0) hx hb dX11_sends_31 (by decide) ?_
      refine lv_istore_n (lv' := [(3, .int 0), (0, .ref y), (1, .int fr), (2, .int u)]) hx hb dX11_sends_32 rfl hl (by decide) rfl (fun ls hl => ?_)
      have lp33 : ∀ (N : Nat) (k : Nat) (gb : Nat → Int32) (w10 : Wd), (k + N = 12) → (wd_at w10 y (.inr (11, [.int v0, .int td, .ref m2, .ref m3, .ref m4, .ref m5, .ref m6, .int (nI pc), .ref m8, .ref m9, .ref m10, .ref m11, .ref m12, .ref m13, .ref m14, .int (nI ac), .int (nI sc), .ref m17, .ref m18, .ref m19, .ref m20, .ref m21, .ref m22, .ref m23, .ref m24, .int (nI ln), .int v26, .int v27, .int v28, .ref m29, .ref m30, .ref m31, .ref m32, .ref m33, .ref m34, .ref m35, .ref m36, .ref m37, .int (nI sh), .ref m39, .ref m40, .ref m41, .ref m42, .ref m43, .ref m44, .ref m45, .ref m46, .ref m47, .ref m48, .ref m49, .int v50, .ref m51, .ref m52, .ref m53, .ref m54, .int (nI gf), .ref m56, .ref m57, .ref m58, .ref m59]))) → (wd_at w10 m6 (.inl (cy 2, 12, .inl gb))) → (wd_at w10 m2 (.inl (cy 10, 12, .inr (.inr (.inr (.inr qp)))))) → (wd_at w10 m3 (.inl (cy 10, 12, .inr (.inr (.inr (.inr qw)))))) → (∀ k9, k9 < 12 → qp k9 = some (pr k9) ∧ wd_at w10 (pr k9) (.inl (cy 2, 12, .inl (fp k9))) ∧ tg (pr k9) = 11000 + k9) → (∀ k9, k9 < 12 → qw k9 = some (wr k9) ∧ wd_at w10 (wr k9) (.inl (cy 2, 12, .inl (fw k9))) ∧ tg (wr k9) = 12000 + k9) → (wd_kp S w w10) → ∀ (ls : Array Slot), lv_has ls 7 [(0, .ref y), (1, .int fr), (2, .int u), (3, .int (nI k))] → Wv p l e ({ frames := 0, cells := 0, slots := 0, locals := 0 }) s m args below meth c D A (0) (0) Q w10 (F0 m 33 ls []) := by
        intro N
        induction N with
        | zero =>
          intro k gb w10 hN33 k11 k12 k13 k14 fm15 fm16 kp17 ls hl H locs hP hD hS
          refine lv_iload_n hx hb dX11_sends_33 rfl (lv_at hl 3 rfl) ?_
          refine lv_bipush (v := 12) hx hb dX11_sends_34 (by decide) ?_
          refine lv_icmp_ge (tgt := 166) hx hb dX11_sends_36 (by decide) (fun c_18 => ?_) (fun c_18 => absurd (nI_le (a := 12) (b := k) (by omega) (by omega)) c_18)
          exact y_vr K hP hD hS (Nat.le_of_ble_eq_true rfl) (Nat.le_of_ble_eq_true rfl) rfl dX11_sends_166 (⟨gb, rfl, kp17, k12⟩)
        | succ N ih33 =>
          intro k gb w10 hN33 k11 k12 k13 k14 fm15 fm16 kp17 ls hl H locs hP hD hS
          refine lv_iload_n hx hb dX11_sends_33 rfl (lv_at hl 3 rfl) ?_
          refine lv_bipush (v := 12) hx hb dX11_sends_34 (by decide) ?_
          refine lv_icmp_ge (tgt := 166) hx hb dX11_sends_36 (by decide) (fun c_19 => absurd c_19 (nI_ge (a := k) (b := 12) (by omega) (by omega))) (fun c_19 => ?_)
          refine lv_iconst (v := 0) hx hb dX11_sends_39 (by decide) ?_
          refine lv_istore (lv' := [(4, .int 0), (0, .ref y), (1, .int fr), (2, .int u), (3, .int (nI k))]) hx hb dX11_sends_40 hl (by decide) rfl (fun ls hl => ?_)
          have lp42 : ∀ (N : Nat) (i : Nat) (gc : Nat → Int32) (w20 : Wd), (i + N = 12) → (wd_at w20 y (.inr (11, [.int v0, .int td, .ref m2, .ref m3, .ref m4, .ref m5, .ref m6, .int (nI pc), .ref m8, .ref m9, .ref m10, .ref m11, .ref m12, .ref m13, .ref m14, .int (nI ac), .int (nI sc), .ref m17, .ref m18, .ref m19, .ref m20, .ref m21, .ref m22, .ref m23, .ref m24, .int (nI ln), .int v26, .int v27, .int v28, .ref m29, .ref m30, .ref m31, .ref m32, .ref m33, .ref m34, .ref m35, .ref m36, .ref m37, .int (nI sh), .ref m39, .ref m40, .ref m41, .ref m42, .ref m43, .ref m44, .ref m45, .ref m46, .ref m47, .ref m48, .ref m49, .int v50, .ref m51, .ref m52, .ref m53, .ref m54, .int (nI gf), .ref m56, .ref m57, .ref m58, .ref m59]))) → (wd_at w20 m6 (.inl (cy 2, 12, .inl gc))) → (wd_at w20 m2 (.inl (cy 10, 12, .inr (.inr (.inr (.inr qp)))))) → (wd_at w20 m3 (.inl (cy 10, 12, .inr (.inr (.inr (.inr qw)))))) → (∀ k9, k9 < 12 → qp k9 = some (pr k9) ∧ wd_at w20 (pr k9) (.inl (cy 2, 12, .inl (fp k9))) ∧ tg (pr k9) = 11000 + k9) → (∀ k9, k9 < 12 → qw k9 = some (wr k9) ∧ wd_at w20 (wr k9) (.inl (cy 2, 12, .inl (fw k9))) ∧ tg (wr k9) = 12000 + k9) → (wd_kp S w w20) → ∀ (ls : Array Slot), lv_has ls 7 [(0, .ref y), (1, .int fr), (2, .int u), (3, .int (nI k)), (4, .int (nI i))] → Wv p l e ({ frames := 0, cells := 0, slots := 0, locals := 0 }) s m args below meth c D A (0) (0) Q w20 (F0 m 42 ls []) := by
            intro N
            induction N with
            | zero =>
              intro i gc w20 hN42 k21 k22 k23 k24 fm25 fm26 kp27 ls hl H locs hP hD hS
              refine lv_iload hx hb dX11_sends_42 (lv_at hl 4 rfl) ?_
              refine lv_bipush (v := 12) hx hb dX11_sends_44 (by decide) ?_
              refine lv_icmp_ge (tgt := 160) hx hb dX11_sends_46 (by decide) (fun c_28 => ?_) (fun c_28 => absurd (nI_le (a := 12) (b := i) (by omega) (by omega)) c_28)
              refine lv_iinc (v := nI (k + 1)) (lv' := [(3, .int (nI (k + 1))), (0, .ref y), (1, .int fr), (2, .int u), (4, .int (nI i))]) hx hb dX11_sends_160 hl (k := 3) rfl (nI_1 k) (by decide) rfl (fun ls hl => ?_)
              refine lv_goto (tgt := 33) hx hb dX11_sends_163 (by decide) ?_
              exact ih33 (k + 1) gc w20 (by omega)  k21 k22 k23 k24 fm25 fm26 kp27 ls (lv_sub hl [1, 2, 3, 0] rfl) H locs hP hD hS
            | succ N ih42 =>
              intro i gc w20 hN42 k21 k22 k23 k24 fm25 fm26 kp27 ls hl H locs hP hD hS
              refine lv_iload hx hb dX11_sends_42 (lv_at hl 4 rfl) ?_
              refine lv_bipush (v := 12) hx hb dX11_sends_44 (by decide) ?_
              refine lv_icmp_ge (tgt := 160) hx hb dX11_sends_46 (by decide) (fun c_29 => absurd c_29 (nI_ge (a := i) (b := 12) (by omega) (by omega))) (fun c_29 => ?_)
              refine lv_iconst (v := 0) hx hb dX11_sends_49 (by decide) ?_
              refine lv_istore (lv' := [(5, .int 0), (0, .ref y), (1, .int fr), (2, .int u), (3, .int (nI k)), (4, .int (nI i))]) hx hb dX11_sends_50 hl (by decide) rfl (fun ls hl => ?_)
              have lp52 : ∀ (N : Nat) (j2 : Nat) (gd : Nat → Int32) (w30 : Wd), (j2 + N = 12) → (wd_at w30 y (.inr (11, [.int v0, .int td, .ref m2, .ref m3, .ref m4, .ref m5, .ref m6, .int (nI pc), .ref m8, .ref m9, .ref m10, .ref m11, .ref m12, .ref m13, .ref m14, .int (nI ac), .int (nI sc), .ref m17, .ref m18, .ref m19, .ref m20, .ref m21, .ref m22, .ref m23, .ref m24, .int (nI ln), .int v26, .int v27, .int v28, .ref m29, .ref m30, .ref m31, .ref m32, .ref m33, .ref m34, .ref m35, .ref m36, .ref m37, .int (nI sh), .ref m39, .ref m40, .ref m41, .ref m42, .ref m43, .ref m44, .ref m45, .ref m46, .ref m47, .ref m48, .ref m49, .int v50, .ref m51, .ref m52, .ref m53, .ref m54, .int (nI gf), .ref m56, .ref m57, .ref m58, .ref m59]))) → (wd_at w30 m6 (.inl (cy 2, 12, .inl gd))) → (wd_at w30 m2 (.inl (cy 10, 12, .inr (.inr (.inr (.inr qp)))))) → (wd_at w30 m3 (.inl (cy 10, 12, .inr (.inr (.inr (.inr qw)))))) → (∀ k9, k9 < 12 → qp k9 = some (pr k9) ∧ wd_at w30 (pr k9) (.inl (cy 2, 12, .inl (fp k9))) ∧ tg (pr k9) = 11000 + k9) → (∀ k9, k9 < 12 → qw k9 = some (wr k9) ∧ wd_at w30 (wr k9) (.inl (cy 2, 12, .inl (fw k9))) ∧ tg (wr k9) = 12000 + k9) → (wd_kp S w w30) → ∀ (ls : Array Slot), lv_has ls 7 [(0, .ref y), (1, .int fr), (2, .int u), (3, .int (nI k)), (4, .int (nI i)), (5, .int (nI j2))] → Wv p l e ({ frames := 0, cells := 0, slots := 0, locals := 0 }) s m args below meth c D A (0) (0) Q w30 (F0 m 52 ls []) := by
                intro N
                induction N with
                | zero =>
                  intro j2 gd w30 hN52 k31 k32 k33 k34 fm35 fm36 kp37 ls hl H locs hP hD hS
                  refine lv_iload hx hb dX11_sends_52 (lv_at hl 5 rfl) ?_
                  refine lv_bipush (v := 12) hx hb dX11_sends_54 (by decide) ?_
                  refine lv_icmp_ge (tgt := 154) hx hb dX11_sends_56 (by decide) (fun c_38 => ?_) (fun c_38 => absurd (nI_le (a := 12) (b := j2) (by omega) (by omega)) c_38)
                  refine lv_iinc (v := nI (i + 1)) (lv' := [(4, .int (nI (i + 1))), (0, .ref y), (1, .int fr), (2, .int u), (3, .int (nI k)), (5, .int (nI j2))]) hx hb dX11_sends_154 hl (k := 4) rfl (nI_1 i) (by decide) rfl (fun ls hl => ?_)
                  refine lv_goto (tgt := 42) hx hb dX11_sends_157 (by decide) ?_
                  exact ih42 (i + 1) gd w30 (by omega)  k31 k32 k33 k34 fm35 fm36 kp37 ls (lv_sub hl [1, 2, 3, 4, 0] rfl) H locs hP hD hS
                | succ N ih52 =>
                  intro j2 gd w30 hN52 k31 k32 k33 k34 fm35 fm36 kp37 ls hl H locs hP hD hS
                  refine lv_iload hx hb dX11_sends_52 (lv_at hl 5 rfl) ?_
                  refine lv_bipush (v := 12) hx hb dX11_sends_54 (by decide) ?_
                  refine lv_icmp_ge (tgt := 154) hx hb dX11_sends_56 (by decide) (fun c_39 => absurd c_39 (nI_ge (a := j2) (b := 12) (by omega) (by omega))) (fun c_39 => ?_)
                  refine lv_iload_n hx hb dX11_sends_59 rfl (lv_at hl 2 rfl) ?_
                  refine lv_if_eq (tgt := 99) hx hb dX11_sends_60 (by decide) (fun c_40 => ?_) (fun c_40 => ?_)
                  · refine lv_aload_n hx hb dX11_sends_99 rfl (lv_at hl 0 rfl) ?_
                    refine x_get (ref := "NoteHouseModel") F hP k31 rfl (fun _ h => List.mem_cons_of_mem _ (List.mem_append_right _ (h))) 2 (Nat.le_of_ble_eq_true rfl) (List.mem_cons_of_mem _ (List.mem_append_left _ (List.mem_of_getElem? (i := 3) rfl))) rfl rfl dX11_sends_100 ?_
                    refine lv_iload hx hb dX11_sends_103 (lv_at hl 4 rfl) ?_
                    refine x_aaldA F hP k33 (vp_in_nI (n := i) (N := 12) (by omega) (by decide)) dX11_sends_105 ?_
                    have pr41 := (fm35 i (by omega)).1
                    have k42 := (fm35 i (by omega)).2.1
                    have tz43 := (fm35 i (by omega)).2.2
                    rw [nI_clamp (n := i) (by omega), pr41]
                    refine W.eq (g2 := F0 m _ ls [.ref (pr i)]) rfl ?_
                    refine lv_iload hx hb dX11_sends_106 (lv_at hl 5 rfl) ?_
                    refine x_iald F hP k42 (vp_in_nI (n := j2) (N := 12) (by omega) (by decide)) dX11_sends_108 ?_
                    refine lv_istore (lv' := [(6, .int ((fp i) (nI j2).toNatClampNeg)), (0, .ref y), (1, .int fr), (2, .int u), (3, .int (nI k)), (4, .int (nI i)), (5, .int (nI j2))]) hx hb dX11_sends_109 hl (by decide) rfl (fun ls hl => ?_)
                    refine lv_aload_n hx hb dX11_sends_111 rfl (lv_at hl 1 rfl) ?_
                    refine x_get (ref := "NoteHouseModel") F hP k31 rfl (fun _ h => List.mem_cons_of_mem _ (List.mem_append_right _ (h))) 6 (Nat.le_of_ble_eq_true rfl) (List.mem_cons_of_mem _ (List.mem_append_left _ (List.mem_of_getElem? (i := 0) rfl))) rfl rfl dX11_sends_112 ?_
                    refine lv_iload hx hb dX11_sends_115 (lv_at hl 5 rfl) ?_
                    refine x_iald F hP k32 (vp_in_nI (n := i) (N := 12) (by omega) (by decide)) dX11_sends_117 ?_
                    refine lv_iload hx hb dX11_sends_118 (lv_at hl 0 rfl) ?_
                    refine lv_iadd hx hb dX11_sends_120 ?_
                    refine lv_aload_n hx hb dX11_sends_121 rfl (lv_at hl 1 rfl) ?_
                    refine x_get (ref := "NoteHouseModel") F hP k31 rfl (fun _ h => List.mem_cons_of_mem _ (List.mem_append_right _ (h))) 6 (Nat.le_of_ble_eq_true rfl) (List.mem_cons_of_mem _ (List.mem_append_left _ (List.mem_of_getElem? (i := 0) rfl))) rfl rfl dX11_sends_122 ?_
                    refine lv_iload hx hb dX11_sends_125 (lv_at hl 6 rfl) ?_
                    refine x_iald F hP k32 (vp_in_nI (n := j2) (N := 12) (by omega) (by decide)) dX11_sends_127 ?_
                    refine lv_icmp_ge (tgt := 148) hx hb dX11_sends_128 (by decide) (fun c_44 => ?_) (fun c_44 => ?_)
                    · refine lv_iinc (v := nI (j2 + 1)) (lv' := [(5, .int (nI (j2 + 1))), (6, .int ((fp i) (nI j2).toNatClampNeg)), (0, .ref y), (1, .int fr), (2, .int u), (3, .int (nI k)), (4, .int (nI i))]) hx hb dX11_sends_148 hl (k := 6) rfl (nI_1 j2) (by decide) rfl (fun ls hl => ?_)
                      refine lv_goto (tgt := 52) hx hb dX11_sends_151 (by decide) ?_
                      exact ih52 (j2 + 1) gd w30 (by omega)  k31 k32 k33 k34 fm35 fm36 kp37 ls (lv_sub hl [2, 3, 4, 5, 6, 0] rfl) H locs hP hD hS
                    · refine lv_aload_n hx hb dX11_sends_131 rfl (lv_at hl 1 rfl) ?_
                      refine x_get (ref := "NoteHouseModel") F hP k31 rfl (fun _ h => List.mem_cons_of_mem _ (List.mem_append_right _ (h))) 6 (Nat.le_of_ble_eq_true rfl) (List.mem_cons_of_mem _ (List.mem_append_left _ (List.mem_of_getElem? (i := 0) rfl))) rfl rfl dX11_sends_132 ?_
                      refine lv_iload hx hb dX11_sends_135 (lv_at hl 6 rfl) ?_
                      refine lv_aload_n hx hb dX11_sends_137 rfl (lv_at hl 1 rfl) ?_
                      refine x_get (ref := "NoteHouseModel") F hP k31 rfl (fun _ h => List.mem_cons_of_mem _ (List.mem_append_right _ (h))) 6 (Nat.le_of_ble_eq_true rfl) (List.mem_cons_of_mem _ (List.mem_append_left _ (List.mem_of_getElem? (i := 0) rfl))) rfl rfl dX11_sends_138 ?_
                      refine lv_iload hx hb dX11_sends_141 (lv_at hl 5 rfl) ?_
                      refine x_iald F hP k32 (vp_in_nI (n := i) (N := 12) (by omega) (by decide)) dX11_sends_143 ?_
                      refine lv_iload hx hb dX11_sends_144 (lv_at hl 0 rfl) ?_
                      refine lv_iadd hx hb dX11_sends_146 ?_
                      refine y_iast F hP hD hS k32 (vp_in_nI (n := j2) (N := 12) (by omega) (by decide)) dX11_sends_147 (fun w45 ew46 H locs hP hD hS => ?_)
                      have k47 := wd_at.pt ew46 k31 (tg_ne ty tm6 (by decide))
                      have k48 : wd_at w45 m6 (.inl (cy 2, 12, .inl (upd gd (nI j2).toNatClampNeg ((gd (nI i).toNatClampNeg) + ((fp i) (nI j2).toNatClampNeg))))) := wd_at.ps ew46 k32
                      have k49 := wd_at.pt ew46 k33 (tg_ne tm2 tm6 (by decide))
                      have k50 := wd_at.pt ew46 k34 (tg_ne tm3 tm6 (by decide))
                      have k51 := wd_at.pt ew46 k42 (tg_ne tz43 tm6 (tnA (show 10106 < 11000 by decide)))
                      have fm52 : ∀ k9, k9 < 12 → qp k9 = some (pr k9) ∧ wd_at w45 (pr k9) (.inl (cy 2, 12, .inl (fp k9))) ∧ tg (pr k9) = 11000 + k9 := fun k9 hi9 => ⟨(fm35 k9 hi9).1, wd_at.pt ew46 (fm35 k9 hi9).2.1 (tg_ne (fm35 k9 hi9).2.2 tm6 (tnA (show 10106 < 11000 by decide))), (fm35 k9 hi9).2.2⟩
                      have fm53 : ∀ k9, k9 < 12 → qw k9 = some (wr k9) ∧ wd_at w45 (wr k9) (.inl (cy 2, 12, .inl (fw k9))) ∧ tg (wr k9) = 12000 + k9 := fun k9 hi9 => ⟨(fm36 k9 hi9).1, wd_at.pt ew46 (fm36 k9 hi9).2.1 (tg_ne (fm36 k9 hi9).2.2 tm6 (tnA (show 10106 < 12000 by decide))), (fm36 k9 hi9).2.2⟩
                      have kp54 := kp37.put ew46 s90
                      refine lv_iinc (v := nI (j2 + 1)) (lv' := [(5, .int (nI (j2 + 1))), (6, .int ((fp i) (nI j2).toNatClampNeg)), (0, .ref y), (1, .int fr), (2, .int u), (3, .int (nI k)), (4, .int (nI i))]) hx hb dX11_sends_148 hl (k := 6) rfl (nI_1 j2) (by decide) rfl (fun ls hl => ?_)
                      refine lv_goto (tgt := 52) hx hb dX11_sends_151 (by decide) ?_
                      exact ih52 (j2 + 1) (upd gd (nI j2).toNatClampNeg ((gd (nI i).toNatClampNeg) + ((fp i) (nI j2).toNatClampNeg))) w45 (by omega)  k47 k48 k49 k50 fm52 fm53 kp54 ls (lv_sub hl [2, 3, 4, 5, 6, 0] rfl) H locs hP hD hS
                  · refine lv_aload_n hx hb dX11_sends_63 rfl (lv_at hl 0 rfl) ?_
                    refine x_get (ref := "NoteHouseModel") F hP k31 rfl (fun _ h => List.mem_cons_of_mem _ (List.mem_append_right _ (h))) 3 (Nat.le_of_ble_eq_true rfl) (List.mem_cons_of_mem _ (List.mem_append_left _ (List.mem_of_getElem? (i := 2) rfl))) rfl rfl dX11_sends_64 ?_
                    refine lv_iload hx hb dX11_sends_67 (lv_at hl 4 rfl) ?_
                    refine x_aaldA F hP k34 (vp_in_nI (n := i) (N := 12) (by omega) (by decide)) dX11_sends_69 ?_
                    have pr55 := (fm36 i (by omega)).1
                    have k56 := (fm36 i (by omega)).2.1
                    have tz57 := (fm36 i (by omega)).2.2
                    rw [nI_clamp (n := i) (by omega), pr55]
                    refine W.eq (g2 := F0 m _ ls [.ref (wr i)]) rfl ?_
                    refine lv_iload hx hb dX11_sends_70 (lv_at hl 5 rfl) ?_
                    refine x_iald F hP k56 (vp_in_nI (n := j2) (N := 12) (by omega) (by decide)) dX11_sends_72 ?_
                    refine lv_aload_n hx hb dX11_sends_73 rfl (lv_at hl 0 rfl) ?_
                    refine x_get (ref := "NoteHouseModel") F hP k31 rfl (fun _ h => List.mem_cons_of_mem _ (List.mem_append_right _ (h))) 2 (Nat.le_of_ble_eq_true rfl) (List.mem_cons_of_mem _ (List.mem_append_left _ (List.mem_of_getElem? (i := 3) rfl))) rfl rfl dX11_sends_74 ?_
                    refine lv_iload hx hb dX11_sends_77 (lv_at hl 4 rfl) ?_
                    refine x_aaldA F hP k33 (vp_in_nI (n := i) (N := 12) (by omega) (by decide)) dX11_sends_79 ?_
                    have pr58 := (fm35 i (by omega)).1
                    have k59 := (fm35 i (by omega)).2.1
                    have tz60 := (fm35 i (by omega)).2.2
                    rw [nI_clamp (n := i) (by omega), pr58]
                    refine W.eq (g2 := F0 m _ ls [.ref (pr i), .int ((fw i) (nI j2).toNatClampNeg)]) rfl ?_
                    refine lv_iload hx hb dX11_sends_80 (lv_at hl 5 rfl) ?_
                    refine x_iald F hP k59 (vp_in_nI (n := j2) (N := 12) (by omega) (by decide)) dX11_sends_82 ?_
                    refine lv_icmp_ge (tgt := 99) hx hb dX11_sends_83 (by decide) (fun c_61 => ?_) (fun c_61 => ?_)
                    · refine lv_aload_n hx hb dX11_sends_99 rfl (lv_at hl 0 rfl) ?_
                      refine x_get (ref := "NoteHouseModel") F hP k31 rfl (fun _ h => List.mem_cons_of_mem _ (List.mem_append_right _ (h))) 2 (Nat.le_of_ble_eq_true rfl) (List.mem_cons_of_mem _ (List.mem_append_left _ (List.mem_of_getElem? (i := 3) rfl))) rfl rfl dX11_sends_100 ?_
                      refine lv_iload hx hb dX11_sends_103 (lv_at hl 4 rfl) ?_
                      refine x_aaldA F hP k33 (vp_in_nI (n := i) (N := 12) (by omega) (by decide)) dX11_sends_105 ?_
                      rw [nI_clamp (n := i) (by omega), pr58]
                      refine W.eq (g2 := F0 m _ ls [.ref (pr i)]) rfl ?_
                      refine lv_iload hx hb dX11_sends_106 (lv_at hl 5 rfl) ?_
                      refine x_iald F hP k59 (vp_in_nI (n := j2) (N := 12) (by omega) (by decide)) dX11_sends_108 ?_
                      refine lv_istore (lv' := [(6, .int ((fp i) (nI j2).toNatClampNeg)), (0, .ref y), (1, .int fr), (2, .int u), (3, .int (nI k)), (4, .int (nI i)), (5, .int (nI j2))]) hx hb dX11_sends_109 hl (by decide) rfl (fun ls hl => ?_)
                      refine lv_aload_n hx hb dX11_sends_111 rfl (lv_at hl 1 rfl) ?_
                      refine x_get (ref := "NoteHouseModel") F hP k31 rfl (fun _ h => List.mem_cons_of_mem _ (List.mem_append_right _ (h))) 6 (Nat.le_of_ble_eq_true rfl) (List.mem_cons_of_mem _ (List.mem_append_left _ (List.mem_of_getElem? (i := 0) rfl))) rfl rfl dX11_sends_112 ?_
                      refine lv_iload hx hb dX11_sends_115 (lv_at hl 5 rfl) ?_
                      refine x_iald F hP k32 (vp_in_nI (n := i) (N := 12) (by omega) (by decide)) dX11_sends_117 ?_
                      refine lv_iload hx hb dX11_sends_118 (lv_at hl 0 rfl) ?_
                      refine lv_iadd hx hb dX11_sends_120 ?_
                      refine lv_aload_n hx hb dX11_sends_121 rfl (lv_at hl 1 rfl) ?_
                      refine x_get (ref := "NoteHouseModel") F hP k31 rfl (fun _ h => List.mem_cons_of_mem _ (List.mem_append_right _ (h))) 6 (Nat.le_of_ble_eq_true rfl) (List.mem_cons_of_mem _ (List.mem_append_left _ (List.mem_of_getElem? (i := 0) rfl))) rfl rfl dX11_sends_122 ?_
                      refine lv_iload hx hb dX11_sends_125 (lv_at hl 6 rfl) ?_
                      refine x_iald F hP k32 (vp_in_nI (n := j2) (N := 12) (by omega) (by decide)) dX11_sends_127 ?_
                      refine lv_icmp_ge (tgt := 148) hx hb dX11_sends_128 (by decide) (fun c_62 => ?_) (fun c_62 => ?_)
                      · refine lv_iinc (v := nI (j2 + 1)) (lv' := [(5, .int (nI (j2 + 1))), (6, .int ((fp i) (nI j2).toNatClampNeg)), (0, .ref y), (1, .int fr), (2, .int u), (3, .int (nI k)), (4, .int (nI i))]) hx hb dX11_sends_148 hl (k := 6) rfl (nI_1 j2) (by decide) rfl (fun ls hl => ?_)
                        refine lv_goto (tgt := 52) hx hb dX11_sends_151 (by decide) ?_
                        exact ih52 (j2 + 1) gd w30 (by omega)  k31 k32 k33 k34 fm35 fm36 kp37 ls (lv_sub hl [2, 3, 4, 5, 6, 0] rfl) H locs hP hD hS
                      · refine lv_aload_n hx hb dX11_sends_131 rfl (lv_at hl 1 rfl) ?_
                        refine x_get (ref := "NoteHouseModel") F hP k31 rfl (fun _ h => List.mem_cons_of_mem _ (List.mem_append_right _ (h))) 6 (Nat.le_of_ble_eq_true rfl) (List.mem_cons_of_mem _ (List.mem_append_left _ (List.mem_of_getElem? (i := 0) rfl))) rfl rfl dX11_sends_132 ?_
                        refine lv_iload hx hb dX11_sends_135 (lv_at hl 6 rfl) ?_
                        refine lv_aload_n hx hb dX11_sends_137 rfl (lv_at hl 1 rfl) ?_
                        refine x_get (ref := "NoteHouseModel") F hP k31 rfl (fun _ h => List.mem_cons_of_mem _ (List.mem_append_right _ (h))) 6 (Nat.le_of_ble_eq_true rfl) (List.mem_cons_of_mem _ (List.mem_append_left _ (List.mem_of_getElem? (i := 0) rfl))) rfl rfl dX11_sends_138 ?_
                        refine lv_iload hx hb dX11_sends_141 (lv_at hl 5 rfl) ?_
                        refine x_iald F hP k32 (vp_in_nI (n := i) (N := 12) (by omega) (by decide)) dX11_sends_143 ?_
                        refine lv_iload hx hb dX11_sends_144 (lv_at hl 0 rfl) ?_
                        refine lv_iadd hx hb dX11_sends_146 ?_
                        refine y_iast F hP hD hS k32 (vp_in_nI (n := j2) (N := 12) (by omega) (by decide)) dX11_sends_147 (fun w63 ew64 H locs hP hD hS => ?_)
                        have k65 := wd_at.pt ew64 k31 (tg_ne ty tm6 (by decide))
                        have k66 : wd_at w63 m6 (.inl (cy 2, 12, .inl (upd gd (nI j2).toNatClampNeg ((gd (nI i).toNatClampNeg) + ((fp i) (nI j2).toNatClampNeg))))) := wd_at.ps ew64 k32
                        have k67 := wd_at.pt ew64 k33 (tg_ne tm2 tm6 (by decide))
                        have k68 := wd_at.pt ew64 k34 (tg_ne tm3 tm6 (by decide))
                        have k69 := wd_at.pt ew64 k56 (tg_ne tz57 tm6 (tnA (show 10106 < 12000 by decide)))
                        have k70 := wd_at.pt ew64 k59 (tg_ne tz60 tm6 (tnA (show 10106 < 11000 by decide)))
                        have fm71 : ∀ k9, k9 < 12 → qp k9 = some (pr k9) ∧ wd_at w63 (pr k9) (.inl (cy 2, 12, .inl (fp k9))) ∧ tg (pr k9) = 11000 + k9 := fun k9 hi9 => ⟨(fm35 k9 hi9).1, wd_at.pt ew64 (fm35 k9 hi9).2.1 (tg_ne (fm35 k9 hi9).2.2 tm6 (tnA (show 10106 < 11000 by decide))), (fm35 k9 hi9).2.2⟩
                        have fm72 : ∀ k9, k9 < 12 → qw k9 = some (wr k9) ∧ wd_at w63 (wr k9) (.inl (cy 2, 12, .inl (fw k9))) ∧ tg (wr k9) = 12000 + k9 := fun k9 hi9 => ⟨(fm36 k9 hi9).1, wd_at.pt ew64 (fm36 k9 hi9).2.1 (tg_ne (fm36 k9 hi9).2.2 tm6 (tnA (show 10106 < 12000 by decide))), (fm36 k9 hi9).2.2⟩
                        have kp73 := kp37.put ew64 s90
                        refine lv_iinc (v := nI (j2 + 1)) (lv' := [(5, .int (nI (j2 + 1))), (6, .int ((fp i) (nI j2).toNatClampNeg)), (0, .ref y), (1, .int fr), (2, .int u), (3, .int (nI k)), (4, .int (nI i))]) hx hb dX11_sends_148 hl (k := 6) rfl (nI_1 j2) (by decide) rfl (fun ls hl => ?_)
                        refine lv_goto (tgt := 52) hx hb dX11_sends_151 (by decide) ?_
                        exact ih52 (j2 + 1) (upd gd (nI j2).toNatClampNeg ((gd (nI i).toNatClampNeg) + ((fp i) (nI j2).toNatClampNeg))) w63 (by omega)  k65 k66 k67 k68 fm71 fm72 kp73 ls (lv_sub hl [2, 3, 4, 5, 6, 0] rfl) H locs hP hD hS
                    · refine lv_aload_n hx hb dX11_sends_86 rfl (lv_at hl 0 rfl) ?_
                      refine x_get (ref := "NoteHouseModel") F hP k31 rfl (fun _ h => List.mem_cons_of_mem _ (List.mem_append_right _ (h))) 3 (Nat.le_of_ble_eq_true rfl) (List.mem_cons_of_mem _ (List.mem_append_left _ (List.mem_of_getElem? (i := 2) rfl))) rfl rfl dX11_sends_87 ?_
                      refine lv_iload hx hb dX11_sends_90 (lv_at hl 4 rfl) ?_
                      refine x_aaldA F hP k34 (vp_in_nI (n := i) (N := 12) (by omega) (by decide)) dX11_sends_92 ?_
                      rw [nI_clamp (n := i) (by omega), pr55]
                      refine W.eq (g2 := F0 m _ ls [.ref (wr i)]) rfl ?_
                      refine lv_iload hx hb dX11_sends_93 (lv_at hl 5 rfl) ?_
                      refine x_iald F hP k56 (vp_in_nI (n := j2) (N := 12) (by omega) (by decide)) dX11_sends_95 ?_
                      refine lv_goto (tgt := 109) hx hb dX11_sends_96 (by decide) ?_
                      refine lv_istore (lv' := [(6, .int ((fw i) (nI j2).toNatClampNeg)), (0, .ref y), (1, .int fr), (2, .int u), (3, .int (nI k)), (4, .int (nI i)), (5, .int (nI j2))]) hx hb dX11_sends_109 hl (by decide) rfl (fun ls hl => ?_)
                      refine lv_aload_n hx hb dX11_sends_111 rfl (lv_at hl 1 rfl) ?_
                      refine x_get (ref := "NoteHouseModel") F hP k31 rfl (fun _ h => List.mem_cons_of_mem _ (List.mem_append_right _ (h))) 6 (Nat.le_of_ble_eq_true rfl) (List.mem_cons_of_mem _ (List.mem_append_left _ (List.mem_of_getElem? (i := 0) rfl))) rfl rfl dX11_sends_112 ?_
                      refine lv_iload hx hb dX11_sends_115 (lv_at hl 5 rfl) ?_
                      refine x_iald F hP k32 (vp_in_nI (n := i) (N := 12) (by omega) (by decide)) dX11_sends_117 ?_
                      refine lv_iload hx hb dX11_sends_118 (lv_at hl 0 rfl) ?_
                      refine lv_iadd hx hb dX11_sends_120 ?_
                      refine lv_aload_n hx hb dX11_sends_121 rfl (lv_at hl 1 rfl) ?_
                      refine x_get (ref := "NoteHouseModel") F hP k31 rfl (fun _ h => List.mem_cons_of_mem _ (List.mem_append_right _ (h))) 6 (Nat.le_of_ble_eq_true rfl) (List.mem_cons_of_mem _ (List.mem_append_left _ (List.mem_of_getElem? (i := 0) rfl))) rfl rfl dX11_sends_122 ?_
                      refine lv_iload hx hb dX11_sends_125 (lv_at hl 6 rfl) ?_
                      refine x_iald F hP k32 (vp_in_nI (n := j2) (N := 12) (by omega) (by decide)) dX11_sends_127 ?_
                      refine lv_icmp_ge (tgt := 148) hx hb dX11_sends_128 (by decide) (fun c_74 => ?_) (fun c_74 => ?_)
                      · refine lv_iinc (v := nI (j2 + 1)) (lv' := [(5, .int (nI (j2 + 1))), (6, .int ((fw i) (nI j2).toNatClampNeg)), (0, .ref y), (1, .int fr), (2, .int u), (3, .int (nI k)), (4, .int (nI i))]) hx hb dX11_sends_148 hl (k := 6) rfl (nI_1 j2) (by decide) rfl (fun ls hl => ?_)
                        refine lv_goto (tgt := 52) hx hb dX11_sends_151 (by decide) ?_
                        exact ih52 (j2 + 1) gd w30 (by omega)  k31 k32 k33 k34 fm35 fm36 kp37 ls (lv_sub hl [2, 3, 4, 5, 6, 0] rfl) H locs hP hD hS
                      · refine lv_aload_n hx hb dX11_sends_131 rfl (lv_at hl 1 rfl) ?_
                        refine x_get (ref := "NoteHouseModel") F hP k31 rfl (fun _ h => List.mem_cons_of_mem _ (List.mem_append_right _ (h))) 6 (Nat.le_of_ble_eq_true rfl) (List.mem_cons_of_mem _ (List.mem_append_left _ (List.mem_of_getElem? (i := 0) rfl))) rfl rfl dX11_sends_132 ?_
                        refine lv_iload hx hb dX11_sends_135 (lv_at hl 6 rfl) ?_
                        refine lv_aload_n hx hb dX11_sends_137 rfl (lv_at hl 1 rfl) ?_
                        refine x_get (ref := "NoteHouseModel") F hP k31 rfl (fun _ h => List.mem_cons_of_mem _ (List.mem_append_right _ (h))) 6 (Nat.le_of_ble_eq_true rfl) (List.mem_cons_of_mem _ (List.mem_append_left _ (List.mem_of_getElem? (i := 0) rfl))) rfl rfl dX11_sends_138 ?_
                        refine lv_iload hx hb dX11_sends_141 (lv_at hl 5 rfl) ?_
                        refine x_iald F hP k32 (vp_in_nI (n := i) (N := 12) (by omega) (by decide)) dX11_sends_143 ?_
                        refine lv_iload hx hb dX11_sends_144 (lv_at hl 0 rfl) ?_
                        refine lv_iadd hx hb dX11_sends_146 ?_
                        refine y_iast F hP hD hS k32 (vp_in_nI (n := j2) (N := 12) (by omega) (by decide)) dX11_sends_147 (fun w75 ew76 H locs hP hD hS => ?_)
                        have k77 := wd_at.pt ew76 k31 (tg_ne ty tm6 (by decide))
                        have k78 : wd_at w75 m6 (.inl (cy 2, 12, .inl (upd gd (nI j2).toNatClampNeg ((gd (nI i).toNatClampNeg) + ((fw i) (nI j2).toNatClampNeg))))) := wd_at.ps ew76 k32
                        have k79 := wd_at.pt ew76 k33 (tg_ne tm2 tm6 (by decide))
                        have k80 := wd_at.pt ew76 k34 (tg_ne tm3 tm6 (by decide))
                        have k81 := wd_at.pt ew76 k56 (tg_ne tz57 tm6 (tnA (show 10106 < 12000 by decide)))
                        have k82 := wd_at.pt ew76 k59 (tg_ne tz60 tm6 (tnA (show 10106 < 11000 by decide)))
                        have fm83 : ∀ k9, k9 < 12 → qp k9 = some (pr k9) ∧ wd_at w75 (pr k9) (.inl (cy 2, 12, .inl (fp k9))) ∧ tg (pr k9) = 11000 + k9 := fun k9 hi9 => ⟨(fm35 k9 hi9).1, wd_at.pt ew76 (fm35 k9 hi9).2.1 (tg_ne (fm35 k9 hi9).2.2 tm6 (tnA (show 10106 < 11000 by decide))), (fm35 k9 hi9).2.2⟩
                        have fm84 : ∀ k9, k9 < 12 → qw k9 = some (wr k9) ∧ wd_at w75 (wr k9) (.inl (cy 2, 12, .inl (fw k9))) ∧ tg (wr k9) = 12000 + k9 := fun k9 hi9 => ⟨(fm36 k9 hi9).1, wd_at.pt ew76 (fm36 k9 hi9).2.1 (tg_ne (fm36 k9 hi9).2.2 tm6 (tnA (show 10106 < 12000 by decide))), (fm36 k9 hi9).2.2⟩
                        have kp85 := kp37.put ew76 s90
                        refine lv_iinc (v := nI (j2 + 1)) (lv' := [(5, .int (nI (j2 + 1))), (6, .int ((fw i) (nI j2).toNatClampNeg)), (0, .ref y), (1, .int fr), (2, .int u), (3, .int (nI k)), (4, .int (nI i))]) hx hb dX11_sends_148 hl (k := 6) rfl (nI_1 j2) (by decide) rfl (fun ls hl => ?_)
                        refine lv_goto (tgt := 52) hx hb dX11_sends_151 (by decide) ?_
                        exact ih52 (j2 + 1) (upd gd (nI j2).toNatClampNeg ((gd (nI i).toNatClampNeg) + ((fw i) (nI j2).toNatClampNeg))) w75 (by omega)  k77 k78 k79 k80 fm83 fm84 kp85 ls (lv_sub hl [2, 3, 4, 5, 6, 0] rfl) H locs hP hD hS
              exact lp52 _ 0 gc w20 (Nat.zero_add 12)  k21 k22 k23 k24 fm25 fm26 kp27 ls (lv_sub hl [1, 2, 3, 4, 5, 0] rfl) H locs hP hD hS
          exact lp42 _ 0 gb w10 (Nat.zero_add 12)  k11 k12 k13 k14 fm15 fm16 kp17 ls (lv_sub hl [1, 2, 3, 4, 0] rfl) H locs hP hD hS
      exact lp33 _ 0 ga w1 (Nat.zero_add 12)  k2 k3 k4 k5 fm6 fm7 kp8 ls (lv_sub hl [1, 2, 3, 0] rfl) H locs hP hD hS
    | succ N ih2 =>
      intro j ga w1 hN2 k2 k3 k4 k5 fm6 fm7 kp8 ls hl H locs hP hD hS
      refine lv_iload_n hx hb dX11_sends_2 rfl (lv_at hl 3 rfl) ?_
      refine lv_bipush (v := 12) hx hb dX11_sends_3 (by decide) ?_
      refine lv_icmp_ge (tgt := 31) hx hb dX11_sends_5 (by decide) (fun c_86 => absurd c_86 (nI_ge (a := j) (b := 12) (by omega) (by omega))) (fun c_86 => ?_)
      refine lv_aload_n hx hb dX11_sends_8 rfl (lv_at hl 0 rfl) ?_
      refine x_get (ref := "NoteHouseModel") F hP k2 rfl (fun _ h => List.mem_cons_of_mem _ (List.mem_append_right _ (h))) 6 (Nat.le_of_ble_eq_true rfl) (List.mem_cons_of_mem _ (List.mem_append_left _ (List.mem_of_getElem? (i := 0) rfl))) rfl rfl dX11_sends_9 ?_
      refine lv_iload_n hx hb dX11_sends_12 rfl (lv_at hl 3 rfl) ?_
      refine lv_iload_n hx hb dX11_sends_13 rfl (lv_at hl 3 rfl) ?_
      refine lv_iload_n hx hb dX11_sends_14 rfl (lv_at hl 1 rfl) ?_
      refine lv_icmp_ne (tgt := 22) hx hb dX11_sends_15 (by decide) (fun c_87 => ?_) (fun c_87 => ?_)
      · refine lv_ldc (v := 268435456) hx hb hown (hts _ (List.mem_cons_of_mem _ (List.mem_append_left _ (List.mem_of_getElem? (i := 1) rfl)))) dX11_sends_22 ?_
        refine y_iast F hP hD hS k3 (vp_in_nI (n := j) (N := 12) (by omega) (by decide)) dX11_sends_24 (fun w88 ew89 H locs hP hD hS => ?_)
        have k90 := wd_at.pt ew89 k2 (tg_ne ty tm6 (by decide))
        have k91 : wd_at w88 m6 (.inl (cy 2, 12, .inl (upd ga (nI j).toNatClampNeg 268435456))) := wd_at.ps ew89 k3
        have k92 := wd_at.pt ew89 k4 (tg_ne tm2 tm6 (by decide))
        have k93 := wd_at.pt ew89 k5 (tg_ne tm3 tm6 (by decide))
        have fm94 : ∀ k9, k9 < 12 → qp k9 = some (pr k9) ∧ wd_at w88 (pr k9) (.inl (cy 2, 12, .inl (fp k9))) ∧ tg (pr k9) = 11000 + k9 := fun k9 hi9 => ⟨(fm6 k9 hi9).1, wd_at.pt ew89 (fm6 k9 hi9).2.1 (tg_ne (fm6 k9 hi9).2.2 tm6 (tnA (show 10106 < 11000 by decide))), (fm6 k9 hi9).2.2⟩
        have fm95 : ∀ k9, k9 < 12 → qw k9 = some (wr k9) ∧ wd_at w88 (wr k9) (.inl (cy 2, 12, .inl (fw k9))) ∧ tg (wr k9) = 12000 + k9 := fun k9 hi9 => ⟨(fm7 k9 hi9).1, wd_at.pt ew89 (fm7 k9 hi9).2.1 (tg_ne (fm7 k9 hi9).2.2 tm6 (tnA (show 10106 < 12000 by decide))), (fm7 k9 hi9).2.2⟩
        have kp96 := kp8.put ew89 s90
        refine lv_iinc (v := nI (j + 1)) (lv' := [(3, .int (nI (j + 1))), (0, .ref y), (1, .int fr), (2, .int u)]) hx hb dX11_sends_25 hl (k := 3) rfl (nI_1 j) (by decide) rfl (fun ls hl => ?_)
        refine lv_goto (tgt := 2) hx hb dX11_sends_28 (by decide) ?_
        exact ih2 (j + 1) (upd ga (nI j).toNatClampNeg 268435456) w88 (by omega)  k90 k91 k92 k93 fm94 fm95 kp96 ls (lv_sub hl [1, 2, 3, 0] rfl) H locs hP hD hS
      · refine lv_iconst (v := 0) hx hb dX11_sends_18 (by decide) ?_
        refine lv_goto (tgt := 24) hx hb dX11_sends_19 (by decide) ?_
        refine y_iast F hP hD hS k3 (vp_in_nI (n := j) (N := 12) (by omega) (by decide)) dX11_sends_24 (fun w97 ew98 H locs hP hD hS => ?_)
        have k99 := wd_at.pt ew98 k2 (tg_ne ty tm6 (by decide))
        have k100 : wd_at w97 m6 (.inl (cy 2, 12, .inl (upd ga (nI j).toNatClampNeg 0))) := wd_at.ps ew98 k3
        have k101 := wd_at.pt ew98 k4 (tg_ne tm2 tm6 (by decide))
        have k102 := wd_at.pt ew98 k5 (tg_ne tm3 tm6 (by decide))
        have fm103 : ∀ k9, k9 < 12 → qp k9 = some (pr k9) ∧ wd_at w97 (pr k9) (.inl (cy 2, 12, .inl (fp k9))) ∧ tg (pr k9) = 11000 + k9 := fun k9 hi9 => ⟨(fm6 k9 hi9).1, wd_at.pt ew98 (fm6 k9 hi9).2.1 (tg_ne (fm6 k9 hi9).2.2 tm6 (tnA (show 10106 < 11000 by decide))), (fm6 k9 hi9).2.2⟩
        have fm104 : ∀ k9, k9 < 12 → qw k9 = some (wr k9) ∧ wd_at w97 (wr k9) (.inl (cy 2, 12, .inl (fw k9))) ∧ tg (wr k9) = 12000 + k9 := fun k9 hi9 => ⟨(fm7 k9 hi9).1, wd_at.pt ew98 (fm7 k9 hi9).2.1 (tg_ne (fm7 k9 hi9).2.2 tm6 (tnA (show 10106 < 12000 by decide))), (fm7 k9 hi9).2.2⟩
        have kp105 := kp8.put ew98 s90
        refine lv_iinc (v := nI (j + 1)) (lv' := [(3, .int (nI (j + 1))), (0, .ref y), (1, .int fr), (2, .int u)]) hx hb dX11_sends_25 hl (k := 3) rfl (nI_1 j) (by decide) rfl (fun ls hl => ?_)
        refine lv_goto (tgt := 2) hx hb dX11_sends_28 (by decide) ?_
        exact ih2 (j + 1) (upd ga (nI j).toNatClampNeg 0) w97 (by omega)  k99 k100 k101 k102 fm103 fm104 kp105 ls (lv_sub hl [1, 2, 3, 0] rfl) H locs hP hD hS
  exact lp2 _ 0 f6 w (Nat.zero_add 12)  c90 c91 c92 c93 hFPR hFWR kp0 ls (lv_sub hl [1, 2, 3, 0] rfl) H locs hP hD hS
set_option maxHeartbeats 4000000 in
set_option maxRecDepth 100000 in
theorem m_unlike (l : Launch) (D : va_G) (cy : Nat → ClassId) (sk sv : Nat → Nat) (w : Wd) (x y : Int32)    : Ct l D cy sk sv yX11_unlike wsX11_unlike ({ frames := 0, cells := 0, slots := 0, locals := 0 }) [.int x, .int y] w (fun v w1 => ∃ (r1 : Int32), v = some (.int r1) ∧ w = w1) := by
  refine Ct.by (cc := cX11_unlike) (maxL := 7) (ret := (some .int)) (by decide +kernel) rfl (Nat.le_of_ble_eq_true rfl) ?_
  intro p e s m args below meth c A Q F hnm K ls hl
  have F : wd_Fx p s m args meth c cX11_unlike 7 wsX11_unlike RX11 D cy sk sv A := F
  have hl : lv_has ls 7 [(0, .int x), (1, .int y)] := hl
  have hx := F.1.1
  have hb := F.1.2.1
  have hown := F.1.2.2.2.1
  have hts := F.1.2.2.2.2
  intro H locs hP hD hS
  refine lv_iconst (v := 0) hx hb dX11_unlike_0 (by decide) ?_
  refine lv_istore_n (lv' := [(2, .int 0), (0, .int x), (1, .int y)]) hx hb dX11_unlike_1 rfl hl (by decide) rfl (fun ls hl => ?_)
  refine lv_iload_n hx hb dX11_unlike_2 rfl (lv_at hl 1 rfl) ?_
  refine lv_istore_n (lv' := [(3, .int x), (2, .int 0), (0, .int x), (1, .int y)]) hx hb dX11_unlike_3 rfl hl (by decide) rfl (fun ls hl => ?_)
  refine lv_iload_n hx hb dX11_unlike_4 rfl (lv_at hl 3 rfl) ?_
  refine lv_istore (lv' := [(4, .int y), (3, .int x), (2, .int 0), (0, .int x), (1, .int y)]) hx hb dX11_unlike_5 hl (by decide) rfl (fun ls hl => ?_)
  refine lv_iconst (v := 0) hx hb dX11_unlike_7 (by decide) ?_
  refine lv_istore (lv' := [(5, .int 0), (4, .int y), (3, .int x), (2, .int 0), (0, .int x), (1, .int y)]) hx hb dX11_unlike_8 hl (by decide) rfl (fun ls hl => ?_)
  have lp10 : ∀ (N : Nat) (k : Nat) (u0 : Int32) (u1 : Int32) (u2 : Int32), (k + N = 5) → ∀ (ls : Array Slot), lv_has ls 7 [(0, .int x), (1, .int y), (2, .int u0), (3, .int u1), (4, .int u2), (5, .int (nI k))] → Wv p l e ({ frames := 0, cells := 0, slots := 0, locals := 0 }) s m args below meth c D A (0) (0) Q w (F0 m 10 ls []) := by
    intro N
    induction N with
    | zero =>
      intro k u0 u1 u2 hN10 ls hl H locs hP hD hS
      refine lv_iload hx hb dX11_unlike_10 (lv_at hl 5 rfl) ?_
      refine lv_iconst (v := 5) hx hb dX11_unlike_12 (by decide) ?_
      refine lv_icmp_ge (tgt := 62) hx hb dX11_unlike_13 (by decide) (fun c_2 => ?_) (fun c_2 => absurd (nI_le (a := 5) (b := k) (by omega) (by omega)) c_2)
      refine lv_iload_n hx hb dX11_unlike_62 rfl (lv_at hl 2 rfl) ?_
      exact y_ir K hP hD hS (Nat.le_of_ble_eq_true rfl) (Nat.le_of_ble_eq_true rfl) (ty := .int) rfl rfl dX11_unlike_63 (⟨u0, rfl, rfl⟩)
    | succ N ih10 =>
      intro k u0 u1 u2 hN10 ls hl H locs hP hD hS
      refine lv_iload hx hb dX11_unlike_10 (lv_at hl 5 rfl) ?_
      refine lv_iconst (v := 5) hx hb dX11_unlike_12 (by decide) ?_
      refine lv_icmp_ge (tgt := 62) hx hb dX11_unlike_13 (by decide) (fun c_3 => absurd c_3 (nI_ge (a := k) (b := 5) (by omega) (by omega))) (fun c_3 => ?_)
      refine lv_iload_n hx hb dX11_unlike_16 rfl (lv_at hl 3 rfl) ?_
      refine lv_bipush (v := 10) hx hb dX11_unlike_17 (by decide) ?_
      refine lv_irem hx hb dX11_unlike_19 (by decide) ?_
      refine lv_iload hx hb dX11_unlike_20 (lv_at hl 4 rfl) ?_
      refine lv_bipush (v := 10) hx hb dX11_unlike_22 (by decide) ?_
      refine lv_irem hx hb dX11_unlike_24 (by decide) ?_
      refine lv_isub hx hb dX11_unlike_25 ?_
      refine lv_istore (lv' := [(6, .int ((u1 - u1 / 10 * 10) - (u2 - u2 / 10 * 10))), (0, .int x), (1, .int y), (2, .int u0), (3, .int u1), (4, .int u2), (5, .int (nI k))]) hx hb dX11_unlike_26 hl (by decide) rfl (fun ls hl => ?_)
      refine lv_iload_n hx hb dX11_unlike_28 rfl (lv_at hl 3 rfl) ?_
      refine lv_iload hx hb dX11_unlike_29 (lv_at hl 0 rfl) ?_
      refine lv_if_ge (tgt := 40) hx hb dX11_unlike_31 (by decide) (fun c_4 => ?_) (fun c_4 => ?_)
      · refine lv_iload hx hb dX11_unlike_40 (lv_at hl 0 rfl) ?_
        refine lv_iadd hx hb dX11_unlike_42 ?_
        refine lv_istore_n (lv' := [(2, .int (u0 + ((u1 - u1 / 10 * 10) - (u2 - u2 / 10 * 10)))), (6, .int ((u1 - u1 / 10 * 10) - (u2 - u2 / 10 * 10))), (0, .int x), (1, .int y), (3, .int u1), (4, .int u2), (5, .int (nI k))]) hx hb dX11_unlike_43 rfl hl (by decide) rfl (fun ls hl => ?_)
        refine lv_iload_n hx hb dX11_unlike_44 rfl (lv_at hl 4 rfl) ?_
        refine lv_bipush (v := 10) hx hb dX11_unlike_45 (by decide) ?_
        refine lv_idiv hx hb dX11_unlike_47 (by decide) ?_
        refine lv_istore_n (lv' := [(3, .int (u1 / 10)), (2, .int (u0 + ((u1 - u1 / 10 * 10) - (u2 - u2 / 10 * 10)))), (6, .int ((u1 - u1 / 10 * 10) - (u2 - u2 / 10 * 10))), (0, .int x), (1, .int y), (4, .int u2), (5, .int (nI k))]) hx hb dX11_unlike_48 rfl hl (by decide) rfl (fun ls hl => ?_)
        refine lv_iload hx hb dX11_unlike_49 (lv_at hl 5 rfl) ?_
        refine lv_bipush (v := 10) hx hb dX11_unlike_51 (by decide) ?_
        refine lv_idiv hx hb dX11_unlike_53 (by decide) ?_
        refine lv_istore (lv' := [(4, .int (u2 / 10)), (3, .int (u1 / 10)), (2, .int (u0 + ((u1 - u1 / 10 * 10) - (u2 - u2 / 10 * 10)))), (6, .int ((u1 - u1 / 10 * 10) - (u2 - u2 / 10 * 10))), (0, .int x), (1, .int y), (5, .int (nI k))]) hx hb dX11_unlike_54 hl (by decide) rfl (fun ls hl => ?_)
        refine lv_iinc (v := nI (k + 1)) (lv' := [(5, .int (nI (k + 1))), (4, .int (u2 / 10)), (3, .int (u1 / 10)), (2, .int (u0 + ((u1 - u1 / 10 * 10) - (u2 - u2 / 10 * 10)))), (6, .int ((u1 - u1 / 10 * 10) - (u2 - u2 / 10 * 10))), (0, .int x), (1, .int y)]) hx hb dX11_unlike_56 hl (k := 6) rfl (nI_1 k) (by decide) rfl (fun ls hl => ?_)
        refine lv_goto (tgt := 10) hx hb dX11_unlike_59 (by decide) ?_
        exact ih10 (k + 1) (u0 + ((u1 - u1 / 10 * 10) - (u2 - u2 / 10 * 10))) (u1 / 10) (u2 / 10)  (by omega)    ls (lv_sub hl [5, 6, 3, 2, 1, 0] rfl) H locs hP hD hS
      · refine lv_iload hx hb dX11_unlike_34 (lv_at hl 0 rfl) ?_
        refine lv_ineg hx hb dX11_unlike_36 ?_
        refine lv_goto (tgt := 42) hx hb dX11_unlike_37 (by decide) ?_
        refine lv_iadd hx hb dX11_unlike_42 ?_
        refine lv_istore_n (lv' := [(2, .int (u0 + (-((u1 - u1 / 10 * 10) - (u2 - u2 / 10 * 10))))), (6, .int ((u1 - u1 / 10 * 10) - (u2 - u2 / 10 * 10))), (0, .int x), (1, .int y), (3, .int u1), (4, .int u2), (5, .int (nI k))]) hx hb dX11_unlike_43 rfl hl (by decide) rfl (fun ls hl => ?_)
        refine lv_iload_n hx hb dX11_unlike_44 rfl (lv_at hl 4 rfl) ?_
        refine lv_bipush (v := 10) hx hb dX11_unlike_45 (by decide) ?_
        refine lv_idiv hx hb dX11_unlike_47 (by decide) ?_
        refine lv_istore_n (lv' := [(3, .int (u1 / 10)), (2, .int (u0 + (-((u1 - u1 / 10 * 10) - (u2 - u2 / 10 * 10))))), (6, .int ((u1 - u1 / 10 * 10) - (u2 - u2 / 10 * 10))), (0, .int x), (1, .int y), (4, .int u2), (5, .int (nI k))]) hx hb dX11_unlike_48 rfl hl (by decide) rfl (fun ls hl => ?_)
        refine lv_iload hx hb dX11_unlike_49 (lv_at hl 5 rfl) ?_
        refine lv_bipush (v := 10) hx hb dX11_unlike_51 (by decide) ?_
        refine lv_idiv hx hb dX11_unlike_53 (by decide) ?_
        refine lv_istore (lv' := [(4, .int (u2 / 10)), (3, .int (u1 / 10)), (2, .int (u0 + (-((u1 - u1 / 10 * 10) - (u2 - u2 / 10 * 10))))), (6, .int ((u1 - u1 / 10 * 10) - (u2 - u2 / 10 * 10))), (0, .int x), (1, .int y), (5, .int (nI k))]) hx hb dX11_unlike_54 hl (by decide) rfl (fun ls hl => ?_)
        refine lv_iinc (v := nI (k + 1)) (lv' := [(5, .int (nI (k + 1))), (4, .int (u2 / 10)), (3, .int (u1 / 10)), (2, .int (u0 + (-((u1 - u1 / 10 * 10) - (u2 - u2 / 10 * 10))))), (6, .int ((u1 - u1 / 10 * 10) - (u2 - u2 / 10 * 10))), (0, .int x), (1, .int y)]) hx hb dX11_unlike_56 hl (k := 6) rfl (nI_1 k) (by decide) rfl (fun ls hl => ?_)
        refine lv_goto (tgt := 10) hx hb dX11_unlike_59 (by decide) ?_
        exact ih10 (k + 1) (u0 + (-((u1 - u1 / 10 * 10) - (u2 - u2 / 10 * 10)))) (u1 / 10) (u2 / 10)  (by omega)    ls (lv_sub hl [5, 6, 3, 2, 1, 0] rfl) H locs hP hD hS
  exact lp10 _ 0 0 x y  (Nat.zero_add 5)    ls (lv_sub hl [4, 5, 3, 2, 1, 0] rfl) H locs hP hD hS
set_option maxHeartbeats 4000000 in
set_option maxRecDepth 100000 in
theorem m_makes (l : Launch) (D : va_G) (cy : Nat → ClassId) (sk sv : Nat → Nat) (w : Wd) (tg : Nat → Nat) (y m2 m3 m4 m5 m6 m8 m9 m10 m11 m12 m13 m14 m17 m18 m19 m20 m21 m22 m23 m24 m29 m30 m31 m32 m33 m34 m35 m36 m37 m39 m40 m41 m42 m43 m44 m45 m46 m47 m48 m49 m51 m52 m53 m54 m56 m57 m58 m59 pc ac sc ln sh gf : Nat) (v0 td v26 v27 v28 v50 : Int32) (f8 : Nat → Int32) (f9 : Nat → Int32) (f10 : Nat → Int32) (f11 : Nat → Int32) (f12 : Nat → Int32) (x1 x2 x3 x4 : Int32) (c90 : wd_at w y (.inr (11, [.int v0, .int td, .ref m2, .ref m3, .ref m4, .ref m5, .ref m6, .int (nI pc), .ref m8, .ref m9, .ref m10, .ref m11, .ref m12, .ref m13, .ref m14, .int (nI ac), .int (nI sc), .ref m17, .ref m18, .ref m19, .ref m20, .ref m21, .ref m22, .ref m23, .ref m24, .int (nI ln), .int v26, .int v27, .int v28, .ref m29, .ref m30, .ref m31, .ref m32, .ref m33, .ref m34, .ref m35, .ref m36, .ref m37, .int (nI sh), .ref m39, .ref m40, .ref m41, .ref m42, .ref m43, .ref m44, .ref m45, .ref m46, .ref m47, .ref m48, .ref m49, .int v50, .ref m51, .ref m52, .ref m53, .ref m54, .int (nI gf), .ref m56, .ref m57, .ref m58, .ref m59]))) (c91 : wd_at w m8 (.inl (cy 2, 30, .inl f8))) (c92 : wd_at w m9 (.inl (cy 2, 30, .inl f9))) (c93 : wd_at w m10 (.inl (cy 2, 30, .inl f10))) (c94 : wd_at w m11 (.inl (cy 2, 30, .inl f11))) (c95 : wd_at w m12 (.inl (cy 2, 30, .inl f12)))  (S : Nat → Prop) (s90 : S y) (s91 : S m8) (s92 : S m9) (s93 : S m10) (s94 : S m11) (s95 : S m12) (ty : tg y = 10000) (tm8 : tg m8 = 10108) (tm9 : tg m9 = 10109) (tm10 : tg m10 = 10110) (tm11 : tg m11 = 10111) (tm12 : tg m12 = 10112) (hpc : pc < 30) : Ct l D cy sk sv yX11_makes wsX11_makes ({ frames := 0, cells := 0, slots := 0, locals := 0 }) [.ref y, .int x1, .int x2, .int x3, .int x4] w (fun v w1 => v = some (.int (nI pc)) ∧ wd_kp S w w1 ∧ wd_at w1 y (.inr (11, [.int v0, .int td, .ref m2, .ref m3, .ref m4, .ref m5, .ref m6, .int (nI (pc + 1)), .ref m8, .ref m9, .ref m10, .ref m11, .ref m12, .ref m13, .ref m14, .int (nI ac), .int (nI sc), .ref m17, .ref m18, .ref m19, .ref m20, .ref m21, .ref m22, .ref m23, .ref m24, .int (nI ln), .int v26, .int v27, .int v28, .ref m29, .ref m30, .ref m31, .ref m32, .ref m33, .ref m34, .ref m35, .ref m36, .ref m37, .int (nI sh), .ref m39, .ref m40, .ref m41, .ref m42, .ref m43, .ref m44, .ref m45, .ref m46, .ref m47, .ref m48, .ref m49, .int v50, .ref m51, .ref m52, .ref m53, .ref m54, .int (nI gf), .ref m56, .ref m57, .ref m58, .ref m59])) ∧ wd_at w1 m8 (.inl (cy 2, 30, .inl (upd f8 (nI pc).toNatClampNeg x1))) ∧ wd_at w1 m9 (.inl (cy 2, 30, .inl (upd f9 (nI pc).toNatClampNeg x2))) ∧ wd_at w1 m10 (.inl (cy 2, 30, .inl (upd f10 (nI pc).toNatClampNeg x3))) ∧ wd_at w1 m11 (.inl (cy 2, 30, .inl (upd f11 (nI pc).toNatClampNeg td))) ∧ wd_at w1 m12 (.inl (cy 2, 30, .inl (upd f12 (nI pc).toNatClampNeg x4)))) := by
  refine Ct.by (cc := cX11_makes) (maxL := 5) (ret := (some .int)) (by decide +kernel) rfl (Nat.le_of_ble_eq_true rfl) ?_
  intro p e s m args below meth c A Q F hnm K ls hl
  have F : wd_Fx p s m args meth c cX11_makes 5 wsX11_makes RX11 D cy sk sv A := F
  have hl : lv_has ls 5 [(0, .ref y), (1, .int x1), (2, .int x2), (3, .int x3), (4, .int x4)] := hl
  have hx := F.1.1
  have hb := F.1.2.1
  have hown := F.1.2.2.2.1
  have hts := F.1.2.2.2.2
  intro H locs hP hD hS
  have kp0 : wd_kp S w w := wd_kp.rf
  refine lv_aload_n hx hb dX11_makes_0 rfl (lv_at hl 0 rfl) ?_
  refine x_get (ref := "NoteHouseModel") F hP c90 rfl (fun _ h => List.mem_cons_of_mem _ (List.mem_append_right _ (h))) 8 (Nat.le_of_ble_eq_true rfl) (List.mem_cons_of_mem _ (List.mem_append_left _ (List.mem_of_getElem? (i := 0) rfl))) rfl rfl dX11_makes_1 ?_
  refine lv_aload_n hx hb dX11_makes_4 rfl (lv_at hl 0 rfl) ?_
  refine x_get (ref := "NoteHouseModel") F hP c90 rfl (fun _ h => List.mem_cons_of_mem _ (List.mem_append_right _ (h))) 7 (Nat.le_of_ble_eq_true rfl) (List.mem_cons_of_mem _ (List.mem_append_left _ (List.mem_of_getElem? (i := 1) rfl))) rfl rfl dX11_makes_5 ?_
  refine lv_iload_n hx hb dX11_makes_8 rfl (lv_at hl 1 rfl) ?_
  refine y_iast F hP hD hS c91 (vp_in_nI (n := pc) (N := 30) (by omega) (by decide)) dX11_makes_9 (fun w1 ew2 H locs hP hD hS => ?_)
  have k3 := wd_at.pt ew2 c90 (tg_ne ty tm8 (by decide))
  have k4 : wd_at w1 m8 (.inl (cy 2, 30, .inl (upd f8 (nI pc).toNatClampNeg x1))) := wd_at.ps ew2 c91
  have k5 := wd_at.pt ew2 c92 (tg_ne tm9 tm8 (by decide))
  have k6 := wd_at.pt ew2 c93 (tg_ne tm10 tm8 (by decide))
  have k7 := wd_at.pt ew2 c94 (tg_ne tm11 tm8 (by decide))
  have k8 := wd_at.pt ew2 c95 (tg_ne tm12 tm8 (by decide))
  have kp9 := kp0.put ew2 s91
  refine lv_aload_n hx hb dX11_makes_10 rfl (lv_at hl 0 rfl) ?_
  refine x_get (ref := "NoteHouseModel") F hP k3 rfl (fun _ h => List.mem_cons_of_mem _ (List.mem_append_right _ (h))) 9 (Nat.le_of_ble_eq_true rfl) (List.mem_cons_of_mem _ (List.mem_append_left _ (List.mem_of_getElem? (i := 2) rfl))) rfl rfl dX11_makes_11 ?_
  refine lv_aload_n hx hb dX11_makes_14 rfl (lv_at hl 0 rfl) ?_
  refine x_get (ref := "NoteHouseModel") F hP k3 rfl (fun _ h => List.mem_cons_of_mem _ (List.mem_append_right _ (h))) 7 (Nat.le_of_ble_eq_true rfl) (List.mem_cons_of_mem _ (List.mem_append_left _ (List.mem_of_getElem? (i := 1) rfl))) rfl rfl dX11_makes_15 ?_
  refine lv_iload_n hx hb dX11_makes_18 rfl (lv_at hl 2 rfl) ?_
  refine y_iast F hP hD hS k5 (vp_in_nI (n := pc) (N := 30) (by omega) (by decide)) dX11_makes_19 (fun w10 ew11 H locs hP hD hS => ?_)
  have k12 := wd_at.pt ew11 k3 (tg_ne ty tm9 (by decide))
  have k13 := wd_at.pt ew11 k4 (tg_ne tm8 tm9 (by decide))
  have k14 : wd_at w10 m9 (.inl (cy 2, 30, .inl (upd f9 (nI pc).toNatClampNeg x2))) := wd_at.ps ew11 k5
  have k15 := wd_at.pt ew11 k6 (tg_ne tm10 tm9 (by decide))
  have k16 := wd_at.pt ew11 k7 (tg_ne tm11 tm9 (by decide))
  have k17 := wd_at.pt ew11 k8 (tg_ne tm12 tm9 (by decide))
  have kp18 := kp9.put ew11 s92
  refine lv_aload_n hx hb dX11_makes_20 rfl (lv_at hl 0 rfl) ?_
  refine x_get (ref := "NoteHouseModel") F hP k12 rfl (fun _ h => List.mem_cons_of_mem _ (List.mem_append_right _ (h))) 10 (Nat.le_of_ble_eq_true rfl) (List.mem_cons_of_mem _ (List.mem_append_left _ (List.mem_of_getElem? (i := 3) rfl))) rfl rfl dX11_makes_21 ?_
  refine lv_aload_n hx hb dX11_makes_24 rfl (lv_at hl 0 rfl) ?_
  refine x_get (ref := "NoteHouseModel") F hP k12 rfl (fun _ h => List.mem_cons_of_mem _ (List.mem_append_right _ (h))) 7 (Nat.le_of_ble_eq_true rfl) (List.mem_cons_of_mem _ (List.mem_append_left _ (List.mem_of_getElem? (i := 1) rfl))) rfl rfl dX11_makes_25 ?_
  refine lv_iload_n hx hb dX11_makes_28 rfl (lv_at hl 3 rfl) ?_
  refine y_iast F hP hD hS k15 (vp_in_nI (n := pc) (N := 30) (by omega) (by decide)) dX11_makes_29 (fun w19 ew20 H locs hP hD hS => ?_)
  have k21 := wd_at.pt ew20 k12 (tg_ne ty tm10 (by decide))
  have k22 := wd_at.pt ew20 k13 (tg_ne tm8 tm10 (by decide))
  have k23 := wd_at.pt ew20 k14 (tg_ne tm9 tm10 (by decide))
  have k24 : wd_at w19 m10 (.inl (cy 2, 30, .inl (upd f10 (nI pc).toNatClampNeg x3))) := wd_at.ps ew20 k15
  have k25 := wd_at.pt ew20 k16 (tg_ne tm11 tm10 (by decide))
  have k26 := wd_at.pt ew20 k17 (tg_ne tm12 tm10 (by decide))
  have kp27 := kp18.put ew20 s93
  refine lv_aload_n hx hb dX11_makes_30 rfl (lv_at hl 0 rfl) ?_
  refine x_get (ref := "NoteHouseModel") F hP k21 rfl (fun _ h => List.mem_cons_of_mem _ (List.mem_append_right _ (h))) 11 (Nat.le_of_ble_eq_true rfl) (List.mem_cons_of_mem _ (List.mem_append_left _ (List.mem_of_getElem? (i := 4) rfl))) rfl rfl dX11_makes_31 ?_
  refine lv_aload_n hx hb dX11_makes_34 rfl (lv_at hl 0 rfl) ?_
  refine x_get (ref := "NoteHouseModel") F hP k21 rfl (fun _ h => List.mem_cons_of_mem _ (List.mem_append_right _ (h))) 7 (Nat.le_of_ble_eq_true rfl) (List.mem_cons_of_mem _ (List.mem_append_left _ (List.mem_of_getElem? (i := 1) rfl))) rfl rfl dX11_makes_35 ?_
  refine lv_aload_n hx hb dX11_makes_38 rfl (lv_at hl 0 rfl) ?_
  refine x_get (ref := "NoteHouseModel") F hP k21 rfl (fun _ h => List.mem_cons_of_mem _ (List.mem_append_right _ (h))) 1 (Nat.le_of_ble_eq_true rfl) (List.mem_cons_of_mem _ (List.mem_append_left _ (List.mem_of_getElem? (i := 5) rfl))) rfl rfl dX11_makes_39 ?_
  refine y_iast F hP hD hS k25 (vp_in_nI (n := pc) (N := 30) (by omega) (by decide)) dX11_makes_42 (fun w28 ew29 H locs hP hD hS => ?_)
  have k30 := wd_at.pt ew29 k21 (tg_ne ty tm11 (by decide))
  have k31 := wd_at.pt ew29 k22 (tg_ne tm8 tm11 (by decide))
  have k32 := wd_at.pt ew29 k23 (tg_ne tm9 tm11 (by decide))
  have k33 := wd_at.pt ew29 k24 (tg_ne tm10 tm11 (by decide))
  have k34 : wd_at w28 m11 (.inl (cy 2, 30, .inl (upd f11 (nI pc).toNatClampNeg td))) := wd_at.ps ew29 k25
  have k35 := wd_at.pt ew29 k26 (tg_ne tm12 tm11 (by decide))
  have kp36 := kp27.put ew29 s94
  refine lv_aload_n hx hb dX11_makes_43 rfl (lv_at hl 0 rfl) ?_
  refine x_get (ref := "NoteHouseModel") F hP k30 rfl (fun _ h => List.mem_cons_of_mem _ (List.mem_append_right _ (h))) 12 (Nat.le_of_ble_eq_true rfl) (List.mem_cons_of_mem _ (List.mem_append_left _ (List.mem_of_getElem? (i := 6) rfl))) rfl rfl dX11_makes_44 ?_
  refine lv_aload_n hx hb dX11_makes_47 rfl (lv_at hl 0 rfl) ?_
  refine x_get (ref := "NoteHouseModel") F hP k30 rfl (fun _ h => List.mem_cons_of_mem _ (List.mem_append_right _ (h))) 7 (Nat.le_of_ble_eq_true rfl) (List.mem_cons_of_mem _ (List.mem_append_left _ (List.mem_of_getElem? (i := 1) rfl))) rfl rfl dX11_makes_48 ?_
  refine lv_iload hx hb dX11_makes_51 (lv_at hl 4 rfl) ?_
  refine y_iast F hP hD hS k35 (vp_in_nI (n := pc) (N := 30) (by omega) (by decide)) dX11_makes_53 (fun w37 ew38 H locs hP hD hS => ?_)
  have k39 := wd_at.pt ew38 k30 (tg_ne ty tm12 (by decide))
  have k40 := wd_at.pt ew38 k31 (tg_ne tm8 tm12 (by decide))
  have k41 := wd_at.pt ew38 k32 (tg_ne tm9 tm12 (by decide))
  have k42 := wd_at.pt ew38 k33 (tg_ne tm10 tm12 (by decide))
  have k43 := wd_at.pt ew38 k34 (tg_ne tm11 tm12 (by decide))
  have k44 : wd_at w37 m12 (.inl (cy 2, 30, .inl (upd f12 (nI pc).toNatClampNeg x4))) := wd_at.ps ew38 k35
  have kp45 := kp36.put ew38 s95
  refine lv_aload_n hx hb dX11_makes_54 rfl (lv_at hl 0 rfl) ?_
  refine lv_dup hx hb dX11_makes_55 rfl ?_
  refine x_get (ref := "NoteHouseModel") F hP k39 rfl (fun _ h => List.mem_cons_of_mem _ (List.mem_append_right _ (h))) 7 (Nat.le_of_ble_eq_true rfl) (List.mem_cons_of_mem _ (List.mem_append_left _ (List.mem_of_getElem? (i := 1) rfl))) rfl rfl dX11_makes_56 ?_
  refine lv_iconst (v := 1) hx hb dX11_makes_59 (by decide) ?_
  refine lv_iadd hx hb dX11_makes_60 ?_
  rw [show ((nI pc) + 1 : Int32) = nI (pc + 1) from nI_add pc 1]
  refine y_put (ref := "NoteHouseModel") F hP hD hS k39 rfl (fun _ h => List.mem_cons_of_mem _ (List.mem_append_right _ (h))) tyX11_ok nmX11 7 (Nat.le_of_ble_eq_true rfl) (List.mem_cons_of_mem _ (List.mem_append_left _ (List.mem_of_getElem? (i := 1) rfl))) rfl rfl rfl rfl (Nat.le_of_ble_eq_true rfl) dX11_makes_61 (fun w46 ew47 H locs hP hD hS => ?_)
  have k48 : wd_at w46 y (.inr (11, [.int v0, .int td, .ref m2, .ref m3, .ref m4, .ref m5, .ref m6, .int (nI (pc + 1)), .ref m8, .ref m9, .ref m10, .ref m11, .ref m12, .ref m13, .ref m14, .int (nI ac), .int (nI sc), .ref m17, .ref m18, .ref m19, .ref m20, .ref m21, .ref m22, .ref m23, .ref m24, .int (nI ln), .int v26, .int v27, .int v28, .ref m29, .ref m30, .ref m31, .ref m32, .ref m33, .ref m34, .ref m35, .ref m36, .ref m37, .int (nI sh), .ref m39, .ref m40, .ref m41, .ref m42, .ref m43, .ref m44, .ref m45, .ref m46, .ref m47, .ref m48, .ref m49, .int v50, .ref m51, .ref m52, .ref m53, .ref m54, .int (nI gf), .ref m56, .ref m57, .ref m58, .ref m59])) := wd_at.ps ew47 k39
  have k49 := wd_at.pt ew47 k40 (tg_ne tm8 ty (by decide))
  have k50 := wd_at.pt ew47 k41 (tg_ne tm9 ty (by decide))
  have k51 := wd_at.pt ew47 k42 (tg_ne tm10 ty (by decide))
  have k52 := wd_at.pt ew47 k43 (tg_ne tm11 ty (by decide))
  have k53 := wd_at.pt ew47 k44 (tg_ne tm12 ty (by decide))
  have kp54 := kp45.put ew47 s90
  refine lv_aload_n hx hb dX11_makes_64 rfl (lv_at hl 0 rfl) ?_
  refine x_get (ref := "NoteHouseModel") F hP k48 rfl (fun _ h => List.mem_cons_of_mem _ (List.mem_append_right _ (h))) 7 (Nat.le_of_ble_eq_true rfl) (List.mem_cons_of_mem _ (List.mem_append_left _ (List.mem_of_getElem? (i := 1) rfl))) rfl rfl dX11_makes_65 ?_
  refine lv_iconst (v := 1) hx hb dX11_makes_68 (by decide) ?_
  refine lv_isub hx hb dX11_makes_69 ?_
  rw [show ((nI (pc + 1)) - 1 : Int32) = nI ((pc + 1) - 1) from pk_sub (a := (pc + 1)) (b := 1) (by omega)]
  exact y_ir K hP hD hS (Nat.le_of_ble_eq_true rfl) (Nat.le_of_ble_eq_true rfl) (ty := .int) rfl rfl dX11_makes_70 (⟨rfl, kp54, k48, k49, k50, k51, k52, k53⟩)
set_option maxHeartbeats 4000000 in
set_option maxRecDepth 100000 in
theorem m_isAdvised (l : Launch) (D : va_G) (cy : Nat → ClassId) (sk sv : Nat → Nat) (w : Wd) (tg : Nat → Nat) (y m2 m3 m4 m5 m6 m8 m9 m10 m11 m12 m13 m14 m17 m18 m19 m20 m21 m22 m23 m24 m29 m30 m31 m32 m33 m34 m35 m36 m37 m39 m40 m41 m42 m43 m44 m45 m46 m47 m48 m49 m51 m52 m53 m54 m56 m57 m58 m59 pc ac sc ln sh gf : Nat) (v0 td v26 v27 v28 v50 : Int32) (f17 : Nat → Int32) (f18 : Nat → Int32) (f19 : Nat → Int32) (f20 : Nat → Int32) (x1 x2 x3 : Int32) (c90 : wd_at w y (.inr (11, [.int v0, .int td, .ref m2, .ref m3, .ref m4, .ref m5, .ref m6, .int (nI pc), .ref m8, .ref m9, .ref m10, .ref m11, .ref m12, .ref m13, .ref m14, .int (nI ac), .int (nI sc), .ref m17, .ref m18, .ref m19, .ref m20, .ref m21, .ref m22, .ref m23, .ref m24, .int (nI ln), .int v26, .int v27, .int v28, .ref m29, .ref m30, .ref m31, .ref m32, .ref m33, .ref m34, .ref m35, .ref m36, .ref m37, .int (nI sh), .ref m39, .ref m40, .ref m41, .ref m42, .ref m43, .ref m44, .ref m45, .ref m46, .ref m47, .ref m48, .ref m49, .int v50, .ref m51, .ref m52, .ref m53, .ref m54, .int (nI gf), .ref m56, .ref m57, .ref m58, .ref m59]))) (c91 : wd_at w m17 (.inl (cy 2, 60, .inl f17))) (c92 : wd_at w m18 (.inl (cy 2, 60, .inl f18))) (c93 : wd_at w m19 (.inl (cy 2, 60, .inl f19))) (c94 : wd_at w m20 (.inl (cy 4, 60, .inl f20)))  (ty : tg y = 10000) (tm17 : tg m17 = 10117) (tm18 : tg m18 = 10118) (tm19 : tg m19 = 10119) (tm20 : tg m20 = 10120) (hac : ac ≤ 60) : Ct l D cy sk sv yX11_isAdvised wsX11_isAdvised ({ frames := 0, cells := 0, slots := 0, locals := 0 }) [.ref y, .int x1, .int x2, .int x3] w (fun v w1 => ∃ (r1 : Int32), v = some (.int r1) ∧ (r1 = 0 ∨ r1 = 1) ∧ w = w1) := by
  refine Ct.by (cc := cX11_isAdvised) (maxL := 6) (ret := (some .boolean)) (by decide +kernel) rfl (Nat.le_of_ble_eq_true rfl) ?_
  intro p e s m args below meth c A Q F hnm K ls hl
  have F : wd_Fx p s m args meth c cX11_isAdvised 6 wsX11_isAdvised RX11 D cy sk sv A := F
  have hl : lv_has ls 6 [(0, .ref y), (1, .int x1), (2, .int x2), (3, .int x3)] := hl
  have hx := F.1.1
  have hb := F.1.2.1
  have hown := F.1.2.2.2.1
  have hts := F.1.2.2.2.2
  intro H locs hP hD hS
  refine lv_iconst (v := 0) hx hb dX11_isAdvised_0 (by decide) ?_
  refine lv_istore (lv' := [(4, .int 0), (0, .ref y), (1, .int x1), (2, .int x2), (3, .int x3)]) hx hb dX11_isAdvised_1 hl (by decide) rfl (fun ls hl => ?_)
  refine lv_iconst (v := 0) hx hb dX11_isAdvised_3 (by decide) ?_
  refine lv_istore (lv' := [(5, .int 0), (4, .int 0), (0, .ref y), (1, .int x1), (2, .int x2), (3, .int x3)]) hx hb dX11_isAdvised_4 hl (by decide) rfl (fun ls hl => ?_)
  have lp6 : ∀ (N : Nat) (k : Nat) (r0 : Int32), (k + N = ac) → (r0 = 0 ∨ r0 = 1) → ∀ (ls : Array Slot), lv_has ls 6 [(0, .ref y), (1, .int x1), (2, .int x2), (3, .int x3), (4, .int r0), (5, .int (nI k))] → Wv p l e ({ frames := 0, cells := 0, slots := 0, locals := 0 }) s m args below meth c D A (0) (0) Q w (F0 m 6 ls []) := by
    intro N
    induction N with
    | zero =>
      intro k r0 hN6 hr ls hl H locs hP hD hS
      refine lv_iload hx hb dX11_isAdvised_6 (lv_at hl 5 rfl) ?_
      refine lv_aload_n hx hb dX11_isAdvised_8 rfl (lv_at hl 0 rfl) ?_
      refine x_get (ref := "NoteHouseModel") F hP c90 rfl (fun _ h => List.mem_cons_of_mem _ (List.mem_append_right _ (h))) 15 (Nat.le_of_ble_eq_true rfl) (List.mem_cons_of_mem _ (List.mem_append_left _ (List.mem_of_getElem? (i := 0) rfl))) rfl rfl dX11_isAdvised_9 ?_
      refine lv_icmp_ge (tgt := 76) hx hb dX11_isAdvised_12 (by decide) (fun c_2 => ?_) (fun c_2 => absurd (nI_le (a := ac) (b := k) (by omega) (by omega)) c_2)
      refine lv_iload hx hb dX11_isAdvised_76 (lv_at hl 4 rfl) ?_
      exact y_ir K hP hD hS (Nat.le_of_ble_eq_true rfl) (Nat.le_of_ble_eq_true rfl) (ty := .boolean) rfl (nb01 hr) dX11_isAdvised_78 (⟨r0, rfl, hr, rfl⟩)
    | succ N ih6 =>
      intro k r0 hN6 hr ls hl H locs hP hD hS
      refine lv_iload hx hb dX11_isAdvised_6 (lv_at hl 5 rfl) ?_
      refine lv_aload_n hx hb dX11_isAdvised_8 rfl (lv_at hl 0 rfl) ?_
      refine x_get (ref := "NoteHouseModel") F hP c90 rfl (fun _ h => List.mem_cons_of_mem _ (List.mem_append_right _ (h))) 15 (Nat.le_of_ble_eq_true rfl) (List.mem_cons_of_mem _ (List.mem_append_left _ (List.mem_of_getElem? (i := 0) rfl))) rfl rfl dX11_isAdvised_9 ?_
      refine lv_icmp_ge (tgt := 76) hx hb dX11_isAdvised_12 (by decide) (fun c_3 => absurd c_3 (nI_ge (a := k) (b := ac) (by omega) (by omega))) (fun c_3 => ?_)
      refine lv_iload hx hb dX11_isAdvised_15 (lv_at hl 4 rfl) ?_
      refine lv_if_ne (tgt := 63) hx hb dX11_isAdvised_17 (by decide) (fun c_4 => ?_) (fun c_4 => ?_)
      · refine lv_iconst (v := 1) hx hb dX11_isAdvised_63 (by decide) ?_
        refine lv_goto (tgt := 68) hx hb dX11_isAdvised_64 (by decide) ?_
        refine lv_istore (lv' := [(4, .int 1), (0, .ref y), (1, .int x1), (2, .int x2), (3, .int x3), (5, .int (nI k))]) hx hb dX11_isAdvised_68 hl (by decide) rfl (fun ls hl => ?_)
        refine lv_iinc (v := nI (k + 1)) (lv' := [(5, .int (nI (k + 1))), (4, .int 1), (0, .ref y), (1, .int x1), (2, .int x2), (3, .int x3)]) hx hb dX11_isAdvised_70 hl (k := 5) rfl (nI_1 k) (by decide) rfl (fun ls hl => ?_)
        refine lv_goto (tgt := 6) hx hb dX11_isAdvised_73 (by decide) ?_
        exact ih6 (k + 1) 1  (by omega) (Or.inr rfl)   ls (lv_sub hl [2, 3, 4, 5, 1, 0] rfl) H locs hP hD hS
      · refine lv_aload_n hx hb dX11_isAdvised_20 rfl (lv_at hl 0 rfl) ?_
        refine x_get (ref := "NoteHouseModel") F hP c90 rfl (fun _ h => List.mem_cons_of_mem _ (List.mem_append_right _ (h))) 17 (Nat.le_of_ble_eq_true rfl) (List.mem_cons_of_mem _ (List.mem_append_left _ (List.mem_of_getElem? (i := 1) rfl))) rfl rfl dX11_isAdvised_21 ?_
        refine lv_iload hx hb dX11_isAdvised_24 (lv_at hl 5 rfl) ?_
        refine x_iald F hP c91 (vp_in_nI (n := k) (N := 60) (by omega) (by decide)) dX11_isAdvised_26 ?_
        refine lv_iload_n hx hb dX11_isAdvised_27 rfl (lv_at hl 1 rfl) ?_
        refine lv_icmp_ne (tgt := 67) hx hb dX11_isAdvised_28 (by decide) (fun c_5 => ?_) (fun c_5 => ?_)
        · refine lv_iconst (v := 0) hx hb dX11_isAdvised_67 (by decide) ?_
          refine lv_istore (lv' := [(4, .int 0), (0, .ref y), (1, .int x1), (2, .int x2), (3, .int x3), (5, .int (nI k))]) hx hb dX11_isAdvised_68 hl (by decide) rfl (fun ls hl => ?_)
          refine lv_iinc (v := nI (k + 1)) (lv' := [(5, .int (nI (k + 1))), (4, .int 0), (0, .ref y), (1, .int x1), (2, .int x2), (3, .int x3)]) hx hb dX11_isAdvised_70 hl (k := 5) rfl (nI_1 k) (by decide) rfl (fun ls hl => ?_)
          refine lv_goto (tgt := 6) hx hb dX11_isAdvised_73 (by decide) ?_
          exact ih6 (k + 1) 0  (by omega) (Or.inl rfl)   ls (lv_sub hl [2, 3, 4, 5, 1, 0] rfl) H locs hP hD hS
        · refine lv_aload_n hx hb dX11_isAdvised_31 rfl (lv_at hl 0 rfl) ?_
          refine x_get (ref := "NoteHouseModel") F hP c90 rfl (fun _ h => List.mem_cons_of_mem _ (List.mem_append_right _ (h))) 18 (Nat.le_of_ble_eq_true rfl) (List.mem_cons_of_mem _ (List.mem_append_left _ (List.mem_of_getElem? (i := 2) rfl))) rfl rfl dX11_isAdvised_32 ?_
          refine lv_iload hx hb dX11_isAdvised_35 (lv_at hl 5 rfl) ?_
          refine x_iald F hP c92 (vp_in_nI (n := k) (N := 60) (by omega) (by decide)) dX11_isAdvised_37 ?_
          refine lv_iload_n hx hb dX11_isAdvised_38 rfl (lv_at hl 2 rfl) ?_
          refine lv_icmp_ne (tgt := 67) hx hb dX11_isAdvised_39 (by decide) (fun c_6 => ?_) (fun c_6 => ?_)
          · refine lv_iconst (v := 0) hx hb dX11_isAdvised_67 (by decide) ?_
            refine lv_istore (lv' := [(4, .int 0), (0, .ref y), (1, .int x1), (2, .int x2), (3, .int x3), (5, .int (nI k))]) hx hb dX11_isAdvised_68 hl (by decide) rfl (fun ls hl => ?_)
            refine lv_iinc (v := nI (k + 1)) (lv' := [(5, .int (nI (k + 1))), (4, .int 0), (0, .ref y), (1, .int x1), (2, .int x2), (3, .int x3)]) hx hb dX11_isAdvised_70 hl (k := 5) rfl (nI_1 k) (by decide) rfl (fun ls hl => ?_)
            refine lv_goto (tgt := 6) hx hb dX11_isAdvised_73 (by decide) ?_
            exact ih6 (k + 1) 0  (by omega) (Or.inl rfl)   ls (lv_sub hl [2, 3, 4, 5, 1, 0] rfl) H locs hP hD hS
          · refine lv_aload_n hx hb dX11_isAdvised_42 rfl (lv_at hl 0 rfl) ?_
            refine x_get (ref := "NoteHouseModel") F hP c90 rfl (fun _ h => List.mem_cons_of_mem _ (List.mem_append_right _ (h))) 20 (Nat.le_of_ble_eq_true rfl) (List.mem_cons_of_mem _ (List.mem_append_left _ (List.mem_of_getElem? (i := 3) rfl))) rfl rfl dX11_isAdvised_43 ?_
            refine lv_iload hx hb dX11_isAdvised_46 (lv_at hl 5 rfl) ?_
            refine x_zald F hP c94 (vp_in_nI (n := k) (N := 60) (by omega) (by decide)) dX11_isAdvised_48 ?_
            refine lv_if_ne (tgt := 67) hx hb dX11_isAdvised_49 (by decide) (fun c_7 => ?_) (fun c_7 => ?_)
            · refine lv_iconst (v := 0) hx hb dX11_isAdvised_67 (by decide) ?_
              refine lv_istore (lv' := [(4, .int 0), (0, .ref y), (1, .int x1), (2, .int x2), (3, .int x3), (5, .int (nI k))]) hx hb dX11_isAdvised_68 hl (by decide) rfl (fun ls hl => ?_)
              refine lv_iinc (v := nI (k + 1)) (lv' := [(5, .int (nI (k + 1))), (4, .int 0), (0, .ref y), (1, .int x1), (2, .int x2), (3, .int x3)]) hx hb dX11_isAdvised_70 hl (k := 5) rfl (nI_1 k) (by decide) rfl (fun ls hl => ?_)
              refine lv_goto (tgt := 6) hx hb dX11_isAdvised_73 (by decide) ?_
              exact ih6 (k + 1) 0  (by omega) (Or.inl rfl)   ls (lv_sub hl [2, 3, 4, 5, 1, 0] rfl) H locs hP hD hS
            · refine lv_aload_n hx hb dX11_isAdvised_52 rfl (lv_at hl 0 rfl) ?_
              refine x_get (ref := "NoteHouseModel") F hP c90 rfl (fun _ h => List.mem_cons_of_mem _ (List.mem_append_right _ (h))) 19 (Nat.le_of_ble_eq_true rfl) (List.mem_cons_of_mem _ (List.mem_append_left _ (List.mem_of_getElem? (i := 4) rfl))) rfl rfl dX11_isAdvised_53 ?_
              refine lv_iload hx hb dX11_isAdvised_56 (lv_at hl 5 rfl) ?_
              refine x_iald F hP c93 (vp_in_nI (n := k) (N := 60) (by omega) (by decide)) dX11_isAdvised_58 ?_
              refine lv_iload_n hx hb dX11_isAdvised_59 rfl (lv_at hl 3 rfl) ?_
              refine lv_icmp_gt (tgt := 67) hx hb dX11_isAdvised_60 (by decide) (fun c_8 => ?_) (fun c_8 => ?_)
              · refine lv_iconst (v := 0) hx hb dX11_isAdvised_67 (by decide) ?_
                refine lv_istore (lv' := [(4, .int 0), (0, .ref y), (1, .int x1), (2, .int x2), (3, .int x3), (5, .int (nI k))]) hx hb dX11_isAdvised_68 hl (by decide) rfl (fun ls hl => ?_)
                refine lv_iinc (v := nI (k + 1)) (lv' := [(5, .int (nI (k + 1))), (4, .int 0), (0, .ref y), (1, .int x1), (2, .int x2), (3, .int x3)]) hx hb dX11_isAdvised_70 hl (k := 5) rfl (nI_1 k) (by decide) rfl (fun ls hl => ?_)
                refine lv_goto (tgt := 6) hx hb dX11_isAdvised_73 (by decide) ?_
                exact ih6 (k + 1) 0  (by omega) (Or.inl rfl)   ls (lv_sub hl [2, 3, 4, 5, 1, 0] rfl) H locs hP hD hS
              · refine lv_iconst (v := 1) hx hb dX11_isAdvised_63 (by decide) ?_
                refine lv_goto (tgt := 68) hx hb dX11_isAdvised_64 (by decide) ?_
                refine lv_istore (lv' := [(4, .int 1), (0, .ref y), (1, .int x1), (2, .int x2), (3, .int x3), (5, .int (nI k))]) hx hb dX11_isAdvised_68 hl (by decide) rfl (fun ls hl => ?_)
                refine lv_iinc (v := nI (k + 1)) (lv' := [(5, .int (nI (k + 1))), (4, .int 1), (0, .ref y), (1, .int x1), (2, .int x2), (3, .int x3)]) hx hb dX11_isAdvised_70 hl (k := 5) rfl (nI_1 k) (by decide) rfl (fun ls hl => ?_)
                refine lv_goto (tgt := 6) hx hb dX11_isAdvised_73 (by decide) ?_
                exact ih6 (k + 1) 1  (by omega) (Or.inr rfl)   ls (lv_sub hl [2, 3, 4, 5, 1, 0] rfl) H locs hP hD hS
  exact lp6 _ 0 0  (Nat.zero_add ac) (Or.inl rfl)   ls (lv_sub hl [2, 3, 4, 5, 1, 0] rfl) H locs hP hD hS
set_option maxHeartbeats 4000000 in
set_option maxRecDepth 100000 in
theorem m_isStopped (l : Launch) (D : va_G) (cy : Nat → ClassId) (sk sv : Nat → Nat) (w : Wd) (tg : Nat → Nat) (y m2 m3 m4 m5 m6 m8 m9 m10 m11 m12 m13 m14 m17 m18 m19 m20 m21 m22 m23 m24 m29 m30 m31 m32 m33 m34 m35 m36 m37 m39 m40 m41 m42 m43 m44 m45 m46 m47 m48 m49 m51 m52 m53 m54 m56 m57 m58 m59 pc ac sc ln sh gf : Nat) (v0 td v26 v27 v28 v50 : Int32) (f21 : Nat → Int32) (f22 : Nat → Int32) (qs : Nat → Option Nat) (sr : Nat → Nat) (fs : Nat → Nat → Int32) (x1 x2 x4 : Int32) (tw : Nat) (c90 : wd_at w y (.inr (11, [.int v0, .int td, .ref m2, .ref m3, .ref m4, .ref m5, .ref m6, .int (nI pc), .ref m8, .ref m9, .ref m10, .ref m11, .ref m12, .ref m13, .ref m14, .int (nI ac), .int (nI sc), .ref m17, .ref m18, .ref m19, .ref m20, .ref m21, .ref m22, .ref m23, .ref m24, .int (nI ln), .int v26, .int v27, .int v28, .ref m29, .ref m30, .ref m31, .ref m32, .ref m33, .ref m34, .ref m35, .ref m36, .ref m37, .int (nI sh), .ref m39, .ref m40, .ref m41, .ref m42, .ref m43, .ref m44, .ref m45, .ref m46, .ref m47, .ref m48, .ref m49, .int v50, .ref m51, .ref m52, .ref m53, .ref m54, .int (nI gf), .ref m56, .ref m57, .ref m58, .ref m59]))) (c91 : wd_at w m21 (.inl (cy 2, 60, .inl f21))) (c92 : wd_at w m22 (.inl (cy 2, 60, .inl f22))) (c93 : wd_at w m23 (.inl (cy 10, 60, .inr (.inr (.inr (.inr qs)))))) (hFSR : ∀ k9, k9 < 60 → qs k9 = some (sr k9) ∧ wd_at w (sr k9) (.inl (cy 2, 12, .inl (fs k9))) ∧ tg (sr k9) = 13000 + k9) (ty : tg y = 10000) (tm21 : tg m21 = 10121) (tm22 : tg m22 = 10122) (tm23 : tg m23 = 10123) (hsc : sc ≤ 60) (htw : tw < 12) : Ct l D cy sk sv yX11_isStopped wsX11_isStopped ({ frames := 0, cells := 0, slots := 0, locals := 0 }) [.ref y, .int x1, .int x2, .int (nI tw), .int x4] w (fun v w1 => ∃ (r1 : Int32), v = some (.int r1) ∧ (r1 = 0 ∨ r1 = 1) ∧ w = w1) := by
  refine Ct.by (cc := cX11_isStopped) (maxL := 7) (ret := (some .boolean)) (by decide +kernel) rfl (Nat.le_of_ble_eq_true rfl) ?_
  intro p e s m args below meth c A Q F hnm K ls hl
  have F : wd_Fx p s m args meth c cX11_isStopped 7 wsX11_isStopped RX11 D cy sk sv A := F
  have hl : lv_has ls 7 [(0, .ref y), (1, .int x1), (2, .int x2), (3, .int (nI tw)), (4, .int x4)] := hl
  have hx := F.1.1
  have hb := F.1.2.1
  have hown := F.1.2.2.2.1
  have hts := F.1.2.2.2.2
  intro H locs hP hD hS
  refine lv_iconst (v := 0) hx hb dX11_isStopped_0 (by decide) ?_
  refine lv_istore (lv' := [(5, .int 0), (0, .ref y), (1, .int x1), (2, .int x2), (3, .int (nI tw)), (4, .int x4)]) hx hb dX11_isStopped_1 hl (by decide) rfl (fun ls hl => ?_)
  refine lv_iconst (v := 0) hx hb dX11_isStopped_3 (by decide) ?_
  refine lv_istore (lv' := [(6, .int 0), (5, .int 0), (0, .ref y), (1, .int x1), (2, .int x2), (3, .int (nI tw)), (4, .int x4)]) hx hb dX11_isStopped_4 hl (by decide) rfl (fun ls hl => ?_)
  have lp6 : ∀ (N : Nat) (k : Nat) (r0 : Int32), (k + N = sc) → (r0 = 0 ∨ r0 = 1) → ∀ (ls : Array Slot), lv_has ls 7 [(0, .ref y), (1, .int x1), (2, .int x2), (3, .int (nI tw)), (4, .int x4), (5, .int r0), (6, .int (nI k))] → Wv p l e ({ frames := 0, cells := 0, slots := 0, locals := 0 }) s m args below meth c D A (0) (0) Q w (F0 m 6 ls []) := by
    intro N
    induction N with
    | zero =>
      intro k r0 hN6 hr ls hl H locs hP hD hS
      refine lv_iload hx hb dX11_isStopped_6 (lv_at hl 6 rfl) ?_
      refine lv_aload_n hx hb dX11_isStopped_8 rfl (lv_at hl 0 rfl) ?_
      refine x_get (ref := "NoteHouseModel") F hP c90 rfl (fun _ h => List.mem_cons_of_mem _ (List.mem_append_right _ (h))) 16 (Nat.le_of_ble_eq_true rfl) (List.mem_cons_of_mem _ (List.mem_append_left _ (List.mem_of_getElem? (i := 0) rfl))) rfl rfl dX11_isStopped_9 ?_
      refine lv_icmp_ge (tgt := 80) hx hb dX11_isStopped_12 (by decide) (fun c_2 => ?_) (fun c_2 => absurd (nI_le (a := sc) (b := k) (by omega) (by omega)) c_2)
      refine lv_iload hx hb dX11_isStopped_80 (lv_at hl 5 rfl) ?_
      exact y_ir K hP hD hS (Nat.le_of_ble_eq_true rfl) (Nat.le_of_ble_eq_true rfl) (ty := .boolean) rfl (nb01 hr) dX11_isStopped_82 (⟨r0, rfl, hr, rfl⟩)
    | succ N ih6 =>
      intro k r0 hN6 hr ls hl H locs hP hD hS
      refine lv_iload hx hb dX11_isStopped_6 (lv_at hl 6 rfl) ?_
      refine lv_aload_n hx hb dX11_isStopped_8 rfl (lv_at hl 0 rfl) ?_
      refine x_get (ref := "NoteHouseModel") F hP c90 rfl (fun _ h => List.mem_cons_of_mem _ (List.mem_append_right _ (h))) 16 (Nat.le_of_ble_eq_true rfl) (List.mem_cons_of_mem _ (List.mem_append_left _ (List.mem_of_getElem? (i := 0) rfl))) rfl rfl dX11_isStopped_9 ?_
      refine lv_icmp_ge (tgt := 80) hx hb dX11_isStopped_12 (by decide) (fun c_3 => absurd c_3 (nI_ge (a := k) (b := sc) (by omega) (by omega))) (fun c_3 => ?_)
      refine lv_iload hx hb dX11_isStopped_15 (lv_at hl 5 rfl) ?_
      refine lv_if_ne (tgt := 67) hx hb dX11_isStopped_17 (by decide) (fun c_4 => ?_) (fun c_4 => ?_)
      · refine lv_iconst (v := 1) hx hb dX11_isStopped_67 (by decide) ?_
        refine lv_goto (tgt := 72) hx hb dX11_isStopped_68 (by decide) ?_
        refine lv_istore (lv' := [(5, .int 1), (0, .ref y), (1, .int x1), (2, .int x2), (3, .int (nI tw)), (4, .int x4), (6, .int (nI k))]) hx hb dX11_isStopped_72 hl (by decide) rfl (fun ls hl => ?_)
        refine lv_iinc (v := nI (k + 1)) (lv' := [(6, .int (nI (k + 1))), (5, .int 1), (0, .ref y), (1, .int x1), (2, .int x2), (3, .int (nI tw)), (4, .int x4)]) hx hb dX11_isStopped_74 hl (k := 6) rfl (nI_1 k) (by decide) rfl (fun ls hl => ?_)
        refine lv_goto (tgt := 6) hx hb dX11_isStopped_77 (by decide) ?_
        exact ih6 (k + 1) 1  (by omega) (Or.inr rfl)   ls (lv_sub hl [2, 3, 4, 5, 6, 1, 0] rfl) H locs hP hD hS
      · refine lv_aload_n hx hb dX11_isStopped_20 rfl (lv_at hl 0 rfl) ?_
        refine x_get (ref := "NoteHouseModel") F hP c90 rfl (fun _ h => List.mem_cons_of_mem _ (List.mem_append_right _ (h))) 21 (Nat.le_of_ble_eq_true rfl) (List.mem_cons_of_mem _ (List.mem_append_left _ (List.mem_of_getElem? (i := 1) rfl))) rfl rfl dX11_isStopped_21 ?_
        refine lv_iload hx hb dX11_isStopped_24 (lv_at hl 6 rfl) ?_
        refine x_iald F hP c91 (vp_in_nI (n := k) (N := 60) (by omega) (by decide)) dX11_isStopped_26 ?_
        refine lv_iload_n hx hb dX11_isStopped_27 rfl (lv_at hl 1 rfl) ?_
        refine lv_icmp_ne (tgt := 71) hx hb dX11_isStopped_28 (by decide) (fun c_5 => ?_) (fun c_5 => ?_)
        · refine lv_iconst (v := 0) hx hb dX11_isStopped_71 (by decide) ?_
          refine lv_istore (lv' := [(5, .int 0), (0, .ref y), (1, .int x1), (2, .int x2), (3, .int (nI tw)), (4, .int x4), (6, .int (nI k))]) hx hb dX11_isStopped_72 hl (by decide) rfl (fun ls hl => ?_)
          refine lv_iinc (v := nI (k + 1)) (lv' := [(6, .int (nI (k + 1))), (5, .int 0), (0, .ref y), (1, .int x1), (2, .int x2), (3, .int (nI tw)), (4, .int x4)]) hx hb dX11_isStopped_74 hl (k := 6) rfl (nI_1 k) (by decide) rfl (fun ls hl => ?_)
          refine lv_goto (tgt := 6) hx hb dX11_isStopped_77 (by decide) ?_
          exact ih6 (k + 1) 0  (by omega) (Or.inl rfl)   ls (lv_sub hl [2, 3, 4, 5, 6, 1, 0] rfl) H locs hP hD hS
        · refine lv_aload_n hx hb dX11_isStopped_31 rfl (lv_at hl 0 rfl) ?_
          refine x_get (ref := "NoteHouseModel") F hP c90 rfl (fun _ h => List.mem_cons_of_mem _ (List.mem_append_right _ (h))) 22 (Nat.le_of_ble_eq_true rfl) (List.mem_cons_of_mem _ (List.mem_append_left _ (List.mem_of_getElem? (i := 2) rfl))) rfl rfl dX11_isStopped_32 ?_
          refine lv_iload hx hb dX11_isStopped_35 (lv_at hl 6 rfl) ?_
          refine x_iald F hP c92 (vp_in_nI (n := k) (N := 60) (by omega) (by decide)) dX11_isStopped_37 ?_
          refine lv_iconst (v := (-1)) hx hb dX11_isStopped_38 (by decide) ?_
          refine lv_icmp_eq (tgt := 53) hx hb dX11_isStopped_39 (by decide) (fun c_6 => ?_) (fun c_6 => ?_)
          · refine lv_aload_n hx hb dX11_isStopped_53 rfl (lv_at hl 0 rfl) ?_
            refine x_get (ref := "NoteHouseModel") F hP c90 rfl (fun _ h => List.mem_cons_of_mem _ (List.mem_append_right _ (h))) 23 (Nat.le_of_ble_eq_true rfl) (List.mem_cons_of_mem _ (List.mem_append_left _ (List.mem_of_getElem? (i := 3) rfl))) rfl rfl dX11_isStopped_54 ?_
            refine lv_iload hx hb dX11_isStopped_57 (lv_at hl 6 rfl) ?_
            refine x_aaldA F hP c93 (vp_in_nI (n := k) (N := 60) (by omega) (by decide)) dX11_isStopped_59 ?_
            have pr7 := (hFSR k (by omega)).1
            have k8 := (hFSR k (by omega)).2.1
            have tz9 := (hFSR k (by omega)).2.2
            rw [nI_clamp (n := k) (by omega), pr7]
            refine W.eq (g2 := F0 m _ ls [.ref (sr k)]) rfl ?_
            refine lv_iload_n hx hb dX11_isStopped_60 rfl (lv_at hl 3 rfl) ?_
            refine x_iald F hP k8 (vp_in_nI (n := tw) (N := 12) (by omega) (by decide)) dX11_isStopped_61 ?_
            refine lv_iload hx hb dX11_isStopped_62 (lv_at hl 4 rfl) ?_
            refine lv_icmp_gt (tgt := 71) hx hb dX11_isStopped_64 (by decide) (fun c_10 => ?_) (fun c_10 => ?_)
            · refine lv_iconst (v := 0) hx hb dX11_isStopped_71 (by decide) ?_
              refine lv_istore (lv' := [(5, .int 0), (0, .ref y), (1, .int x1), (2, .int x2), (3, .int (nI tw)), (4, .int x4), (6, .int (nI k))]) hx hb dX11_isStopped_72 hl (by decide) rfl (fun ls hl => ?_)
              refine lv_iinc (v := nI (k + 1)) (lv' := [(6, .int (nI (k + 1))), (5, .int 0), (0, .ref y), (1, .int x1), (2, .int x2), (3, .int (nI tw)), (4, .int x4)]) hx hb dX11_isStopped_74 hl (k := 6) rfl (nI_1 k) (by decide) rfl (fun ls hl => ?_)
              refine lv_goto (tgt := 6) hx hb dX11_isStopped_77 (by decide) ?_
              exact ih6 (k + 1) 0  (by omega) (Or.inl rfl)   ls (lv_sub hl [2, 3, 4, 5, 6, 1, 0] rfl) H locs hP hD hS
            · refine lv_iconst (v := 1) hx hb dX11_isStopped_67 (by decide) ?_
              refine lv_goto (tgt := 72) hx hb dX11_isStopped_68 (by decide) ?_
              refine lv_istore (lv' := [(5, .int 1), (0, .ref y), (1, .int x1), (2, .int x2), (3, .int (nI tw)), (4, .int x4), (6, .int (nI k))]) hx hb dX11_isStopped_72 hl (by decide) rfl (fun ls hl => ?_)
              refine lv_iinc (v := nI (k + 1)) (lv' := [(6, .int (nI (k + 1))), (5, .int 1), (0, .ref y), (1, .int x1), (2, .int x2), (3, .int (nI tw)), (4, .int x4)]) hx hb dX11_isStopped_74 hl (k := 6) rfl (nI_1 k) (by decide) rfl (fun ls hl => ?_)
              refine lv_goto (tgt := 6) hx hb dX11_isStopped_77 (by decide) ?_
              exact ih6 (k + 1) 1  (by omega) (Or.inr rfl)   ls (lv_sub hl [2, 3, 4, 5, 6, 1, 0] rfl) H locs hP hD hS
          · refine lv_aload_n hx hb dX11_isStopped_42 rfl (lv_at hl 0 rfl) ?_
            refine x_get (ref := "NoteHouseModel") F hP c90 rfl (fun _ h => List.mem_cons_of_mem _ (List.mem_append_right _ (h))) 22 (Nat.le_of_ble_eq_true rfl) (List.mem_cons_of_mem _ (List.mem_append_left _ (List.mem_of_getElem? (i := 2) rfl))) rfl rfl dX11_isStopped_43 ?_
            refine lv_iload hx hb dX11_isStopped_46 (lv_at hl 6 rfl) ?_
            refine x_iald F hP c92 (vp_in_nI (n := k) (N := 60) (by omega) (by decide)) dX11_isStopped_48 ?_
            refine lv_iload_n hx hb dX11_isStopped_49 rfl (lv_at hl 2 rfl) ?_
            refine lv_icmp_ne (tgt := 71) hx hb dX11_isStopped_50 (by decide) (fun c_11 => ?_) (fun c_11 => ?_)
            · refine lv_iconst (v := 0) hx hb dX11_isStopped_71 (by decide) ?_
              refine lv_istore (lv' := [(5, .int 0), (0, .ref y), (1, .int x1), (2, .int x2), (3, .int (nI tw)), (4, .int x4), (6, .int (nI k))]) hx hb dX11_isStopped_72 hl (by decide) rfl (fun ls hl => ?_)
              refine lv_iinc (v := nI (k + 1)) (lv' := [(6, .int (nI (k + 1))), (5, .int 0), (0, .ref y), (1, .int x1), (2, .int x2), (3, .int (nI tw)), (4, .int x4)]) hx hb dX11_isStopped_74 hl (k := 6) rfl (nI_1 k) (by decide) rfl (fun ls hl => ?_)
              refine lv_goto (tgt := 6) hx hb dX11_isStopped_77 (by decide) ?_
              exact ih6 (k + 1) 0  (by omega) (Or.inl rfl)   ls (lv_sub hl [2, 3, 4, 5, 6, 1, 0] rfl) H locs hP hD hS
            · refine lv_aload_n hx hb dX11_isStopped_53 rfl (lv_at hl 0 rfl) ?_
              refine x_get (ref := "NoteHouseModel") F hP c90 rfl (fun _ h => List.mem_cons_of_mem _ (List.mem_append_right _ (h))) 23 (Nat.le_of_ble_eq_true rfl) (List.mem_cons_of_mem _ (List.mem_append_left _ (List.mem_of_getElem? (i := 3) rfl))) rfl rfl dX11_isStopped_54 ?_
              refine lv_iload hx hb dX11_isStopped_57 (lv_at hl 6 rfl) ?_
              refine x_aaldA F hP c93 (vp_in_nI (n := k) (N := 60) (by omega) (by decide)) dX11_isStopped_59 ?_
              have pr12 := (hFSR k (by omega)).1
              have k13 := (hFSR k (by omega)).2.1
              have tz14 := (hFSR k (by omega)).2.2
              rw [nI_clamp (n := k) (by omega), pr12]
              refine W.eq (g2 := F0 m _ ls [.ref (sr k)]) rfl ?_
              refine lv_iload_n hx hb dX11_isStopped_60 rfl (lv_at hl 3 rfl) ?_
              refine x_iald F hP k13 (vp_in_nI (n := tw) (N := 12) (by omega) (by decide)) dX11_isStopped_61 ?_
              refine lv_iload hx hb dX11_isStopped_62 (lv_at hl 4 rfl) ?_
              refine lv_icmp_gt (tgt := 71) hx hb dX11_isStopped_64 (by decide) (fun c_15 => ?_) (fun c_15 => ?_)
              · refine lv_iconst (v := 0) hx hb dX11_isStopped_71 (by decide) ?_
                refine lv_istore (lv' := [(5, .int 0), (0, .ref y), (1, .int x1), (2, .int x2), (3, .int (nI tw)), (4, .int x4), (6, .int (nI k))]) hx hb dX11_isStopped_72 hl (by decide) rfl (fun ls hl => ?_)
                refine lv_iinc (v := nI (k + 1)) (lv' := [(6, .int (nI (k + 1))), (5, .int 0), (0, .ref y), (1, .int x1), (2, .int x2), (3, .int (nI tw)), (4, .int x4)]) hx hb dX11_isStopped_74 hl (k := 6) rfl (nI_1 k) (by decide) rfl (fun ls hl => ?_)
                refine lv_goto (tgt := 6) hx hb dX11_isStopped_77 (by decide) ?_
                exact ih6 (k + 1) 0  (by omega) (Or.inl rfl)   ls (lv_sub hl [2, 3, 4, 5, 6, 1, 0] rfl) H locs hP hD hS
              · refine lv_iconst (v := 1) hx hb dX11_isStopped_67 (by decide) ?_
                refine lv_goto (tgt := 72) hx hb dX11_isStopped_68 (by decide) ?_
                refine lv_istore (lv' := [(5, .int 1), (0, .ref y), (1, .int x1), (2, .int x2), (3, .int (nI tw)), (4, .int x4), (6, .int (nI k))]) hx hb dX11_isStopped_72 hl (by decide) rfl (fun ls hl => ?_)
                refine lv_iinc (v := nI (k + 1)) (lv' := [(6, .int (nI (k + 1))), (5, .int 1), (0, .ref y), (1, .int x1), (2, .int x2), (3, .int (nI tw)), (4, .int x4)]) hx hb dX11_isStopped_74 hl (k := 6) rfl (nI_1 k) (by decide) rfl (fun ls hl => ?_)
                refine lv_goto (tgt := 6) hx hb dX11_isStopped_77 (by decide) ?_
                exact ih6 (k + 1) 1  (by omega) (Or.inr rfl)   ls (lv_sub hl [2, 3, 4, 5, 6, 1, 0] rfl) H locs hP hD hS
  exact lp6 _ 0 0  (Nat.zero_add sc) (Or.inl rfl)   ls (lv_sub hl [2, 3, 4, 5, 6, 1, 0] rfl) H locs hP hD hS
set_option maxHeartbeats 4000000 in
set_option maxRecDepth 100000 in
theorem m_put (l : Launch) (D : va_G) (cy : Nat → ClassId) (sk sv : Nat → Nat) (w : Wd) (tg : Nat → Nat) (y m2 m3 m4 m5 m6 m8 m9 m10 m11 m12 m13 m14 m17 m18 m19 m20 m21 m22 m23 m24 m29 m30 m31 m32 m33 m34 m35 m36 m37 m39 m40 m41 m42 m43 m44 m45 m46 m47 m48 m49 m51 m52 m53 m54 m56 m57 m58 m59 pc ac sc ln sh gf : Nat) (v0 td v26 v27 v28 v50 : Int32) (f24 : Nat → Int32) (x0 : Int32) (c90 : wd_at w y (.inr (11, [.int v0, .int td, .ref m2, .ref m3, .ref m4, .ref m5, .ref m6, .int (nI pc), .ref m8, .ref m9, .ref m10, .ref m11, .ref m12, .ref m13, .ref m14, .int (nI ac), .int (nI sc), .ref m17, .ref m18, .ref m19, .ref m20, .ref m21, .ref m22, .ref m23, .ref m24, .int (nI ln), .int v26, .int v27, .int v28, .ref m29, .ref m30, .ref m31, .ref m32, .ref m33, .ref m34, .ref m35, .ref m36, .ref m37, .int (nI sh), .ref m39, .ref m40, .ref m41, .ref m42, .ref m43, .ref m44, .ref m45, .ref m46, .ref m47, .ref m48, .ref m49, .int v50, .ref m51, .ref m52, .ref m53, .ref m54, .int (nI gf), .ref m56, .ref m57, .ref m58, .ref m59]))) (c91 : wd_at w m24 (.inl (cy 0, 300, .inl f24)))  (S : Nat → Prop) (s90 : S y) (s91 : S m24) (ty : tg y = 10000) (tm24 : tg m24 = 10124) (hln : ln + 4 ≤ 300) : Ct l D cy sk sv yX11_put wsX11_put ({ frames := 0, cells := 0, slots := 0, locals := 0 }) [.ref y, .int x0] w (fun v w1 => ∃ (g24 : Nat → Int32), v = none ∧ wd_kp S w w1 ∧ wd_at w1 y (.inr (11, [.int v0, .int td, .ref m2, .ref m3, .ref m4, .ref m5, .ref m6, .int (nI pc), .ref m8, .ref m9, .ref m10, .ref m11, .ref m12, .ref m13, .ref m14, .int (nI ac), .int (nI sc), .ref m17, .ref m18, .ref m19, .ref m20, .ref m21, .ref m22, .ref m23, .ref m24, .int (nI (ln + 4)), .int v26, .int v27, .int v28, .ref m29, .ref m30, .ref m31, .ref m32, .ref m33, .ref m34, .ref m35, .ref m36, .ref m37, .int (nI sh), .ref m39, .ref m40, .ref m41, .ref m42, .ref m43, .ref m44, .ref m45, .ref m46, .ref m47, .ref m48, .ref m49, .int v50, .ref m51, .ref m52, .ref m53, .ref m54, .int (nI gf), .ref m56, .ref m57, .ref m58, .ref m59])) ∧ wd_at w1 m24 (.inl (cy 0, 300, .inl g24))) := by
  refine Ct.by (cc := cX11_put) (maxL := 3) (ret := none) (by decide +kernel) rfl (Nat.le_of_ble_eq_true rfl) ?_
  intro p e s m args below meth c A Q F hnm K ls hl
  have F : wd_Fx p s m args meth c cX11_put 3 wsX11_put RX11 D cy sk sv A := F
  have hl : lv_has ls 3 [(0, .ref y), (1, .int x0)] := hl
  have hx := F.1.1
  have hb := F.1.2.1
  have hown := F.1.2.2.2.1
  have hts := F.1.2.2.2.2
  intro H locs hP hD hS
  have kp0 : wd_kp S w w := wd_kp.rf
  refine lv_bipush (v := 24) hx hb dX11_put_0 (by decide) ?_
  refine lv_istore_n (lv' := [(2, .int 24), (0, .ref y), (1, .int x0)]) hx hb dX11_put_2 rfl hl (by decide) rfl (fun ls hl => ?_)
  refine lv_iload_n hx hb dX11_put_3 rfl (lv_at hl 0 rfl) ?_
  refine lv_if_lt (tgt := 36) hx hb dX11_put_4 (by decide) (fun c_1 => absurd c_1 (show ¬ (24 : Int32) < (0 : Int32) by decide)) (fun c_1 => ?_)
  refine lv_aload_n hx hb dX11_put_7 rfl (lv_at hl 1 rfl) ?_
  refine x_get (ref := "NoteHouseModel") F hP c90 rfl (fun _ h => List.mem_cons_of_mem _ (List.mem_append_right _ (h))) 24 (Nat.le_of_ble_eq_true rfl) (List.mem_cons_of_mem _ (List.mem_append_left _ (List.mem_of_getElem? (i := 0) rfl))) rfl rfl dX11_put_8 ?_
  refine lv_aload_n hx hb dX11_put_11 rfl (lv_at hl 1 rfl) ?_
  refine x_get (ref := "NoteHouseModel") F hP c90 rfl (fun _ h => List.mem_cons_of_mem _ (List.mem_append_right _ (h))) 25 (Nat.le_of_ble_eq_true rfl) (List.mem_cons_of_mem _ (List.mem_append_left _ (List.mem_of_getElem? (i := 1) rfl))) rfl rfl dX11_put_12 ?_
  refine lv_iload_n hx hb dX11_put_15 rfl (lv_at hl 2 rfl) ?_
  refine lv_iload_n hx hb dX11_put_16 rfl (lv_at hl 0 rfl) ?_
  refine lv_ishr hx hb dX11_put_17 ?_
  refine lv_i2b (v := (x0 >>> (24 &&& 31)).toInt8.toInt32) hx hb dX11_put_18 (rfl) ?_
  refine y_bast F hP hD hS c91 (vp_in_nI (n := ln) (N := 300) (by omega) (by decide)) dX11_put_19 (fun w2 ew3 H locs hP hD hS => ?_)
  have k4 := wd_at.pt ew3 c90 (tg_ne ty tm24 (by decide))
  have k5 : wd_at w2 m24 (.inl (cy 0, 300, .inl (upd f24 (nI ln).toNatClampNeg (vp_nar .byte ((x0 >>> (24 &&& 31)).toInt8.toInt32))))) := wd_at.ps ew3 c91
  have kp6 := kp0.put ew3 s91
  refine lv_aload_n hx hb dX11_put_20 rfl (lv_at hl 1 rfl) ?_
  refine lv_dup hx hb dX11_put_21 rfl ?_
  refine x_get (ref := "NoteHouseModel") F hP k4 rfl (fun _ h => List.mem_cons_of_mem _ (List.mem_append_right _ (h))) 25 (Nat.le_of_ble_eq_true rfl) (List.mem_cons_of_mem _ (List.mem_append_left _ (List.mem_of_getElem? (i := 1) rfl))) rfl rfl dX11_put_22 ?_
  refine lv_iconst (v := 1) hx hb dX11_put_25 (by decide) ?_
  refine lv_iadd hx hb dX11_put_26 ?_
  rw [show ((nI ln) + 1 : Int32) = nI (ln + 1) from nI_1 ln]
  refine y_put (ref := "NoteHouseModel") F hP hD hS k4 rfl (fun _ h => List.mem_cons_of_mem _ (List.mem_append_right _ (h))) tyX11_ok nmX11 25 (Nat.le_of_ble_eq_true rfl) (List.mem_cons_of_mem _ (List.mem_append_left _ (List.mem_of_getElem? (i := 1) rfl))) rfl rfl rfl rfl (Nat.le_of_ble_eq_true rfl) dX11_put_27 (fun w7 ew8 H locs hP hD hS => ?_)
  have k9 : wd_at w7 y (.inr (11, [.int v0, .int td, .ref m2, .ref m3, .ref m4, .ref m5, .ref m6, .int (nI pc), .ref m8, .ref m9, .ref m10, .ref m11, .ref m12, .ref m13, .ref m14, .int (nI ac), .int (nI sc), .ref m17, .ref m18, .ref m19, .ref m20, .ref m21, .ref m22, .ref m23, .ref m24, .int (nI (ln + 1)), .int v26, .int v27, .int v28, .ref m29, .ref m30, .ref m31, .ref m32, .ref m33, .ref m34, .ref m35, .ref m36, .ref m37, .int (nI sh), .ref m39, .ref m40, .ref m41, .ref m42, .ref m43, .ref m44, .ref m45, .ref m46, .ref m47, .ref m48, .ref m49, .int v50, .ref m51, .ref m52, .ref m53, .ref m54, .int (nI gf), .ref m56, .ref m57, .ref m58, .ref m59])) := wd_at.ps ew8 k4
  have k10 := wd_at.pt ew8 k5 (tg_ne tm24 ty (by decide))
  have kp11 := kp6.put ew8 s90
  refine lv_iinc (v := 16) (lv' := [(2, .int 16), (0, .ref y), (1, .int x0)]) hx hb dX11_put_30 hl (k := 0) rfl (by decide) (by decide) rfl (fun ls hl => ?_)
  refine lv_goto (tgt := 3) hx hb dX11_put_33 (by decide) ?_
  refine lv_iload_n hx hb dX11_put_3 rfl (lv_at hl 0 rfl) ?_
  refine lv_if_lt (tgt := 36) hx hb dX11_put_4 (by decide) (fun c_12 => absurd c_12 (show ¬ (16 : Int32) < (0 : Int32) by decide)) (fun c_12 => ?_)
  refine lv_aload_n hx hb dX11_put_7 rfl (lv_at hl 1 rfl) ?_
  refine x_get (ref := "NoteHouseModel") F hP k9 rfl (fun _ h => List.mem_cons_of_mem _ (List.mem_append_right _ (h))) 24 (Nat.le_of_ble_eq_true rfl) (List.mem_cons_of_mem _ (List.mem_append_left _ (List.mem_of_getElem? (i := 0) rfl))) rfl rfl dX11_put_8 ?_
  refine lv_aload_n hx hb dX11_put_11 rfl (lv_at hl 1 rfl) ?_
  refine x_get (ref := "NoteHouseModel") F hP k9 rfl (fun _ h => List.mem_cons_of_mem _ (List.mem_append_right _ (h))) 25 (Nat.le_of_ble_eq_true rfl) (List.mem_cons_of_mem _ (List.mem_append_left _ (List.mem_of_getElem? (i := 1) rfl))) rfl rfl dX11_put_12 ?_
  refine lv_iload_n hx hb dX11_put_15 rfl (lv_at hl 2 rfl) ?_
  refine lv_iload_n hx hb dX11_put_16 rfl (lv_at hl 0 rfl) ?_
  refine lv_ishr hx hb dX11_put_17 ?_
  refine lv_i2b (v := (x0 >>> (16 &&& 31)).toInt8.toInt32) hx hb dX11_put_18 (rfl) ?_
  refine y_bast F hP hD hS k10 (vp_in_nI (n := (ln + 1)) (N := 300) (by omega) (by decide)) dX11_put_19 (fun w13 ew14 H locs hP hD hS => ?_)
  have k15 := wd_at.pt ew14 k9 (tg_ne ty tm24 (by decide))
  have k16 : wd_at w13 m24 (.inl (cy 0, 300, .inl (upd (upd f24 (nI ln).toNatClampNeg (vp_nar .byte ((x0 >>> (24 &&& 31)).toInt8.toInt32))) (nI (ln + 1)).toNatClampNeg (vp_nar .byte ((x0 >>> (16 &&& 31)).toInt8.toInt32))))) := wd_at.ps ew14 k10
  have kp17 := kp11.put ew14 s91
  refine lv_aload_n hx hb dX11_put_20 rfl (lv_at hl 1 rfl) ?_
  refine lv_dup hx hb dX11_put_21 rfl ?_
  refine x_get (ref := "NoteHouseModel") F hP k15 rfl (fun _ h => List.mem_cons_of_mem _ (List.mem_append_right _ (h))) 25 (Nat.le_of_ble_eq_true rfl) (List.mem_cons_of_mem _ (List.mem_append_left _ (List.mem_of_getElem? (i := 1) rfl))) rfl rfl dX11_put_22 ?_
  refine lv_iconst (v := 1) hx hb dX11_put_25 (by decide) ?_
  refine lv_iadd hx hb dX11_put_26 ?_
  rw [show ((nI (ln + 1)) + 1 : Int32) = nI (ln + 2) from nI_1 (ln + 1)]
  refine y_put (ref := "NoteHouseModel") F hP hD hS k15 rfl (fun _ h => List.mem_cons_of_mem _ (List.mem_append_right _ (h))) tyX11_ok nmX11 25 (Nat.le_of_ble_eq_true rfl) (List.mem_cons_of_mem _ (List.mem_append_left _ (List.mem_of_getElem? (i := 1) rfl))) rfl rfl rfl rfl (Nat.le_of_ble_eq_true rfl) dX11_put_27 (fun w18 ew19 H locs hP hD hS => ?_)
  have k20 : wd_at w18 y (.inr (11, [.int v0, .int td, .ref m2, .ref m3, .ref m4, .ref m5, .ref m6, .int (nI pc), .ref m8, .ref m9, .ref m10, .ref m11, .ref m12, .ref m13, .ref m14, .int (nI ac), .int (nI sc), .ref m17, .ref m18, .ref m19, .ref m20, .ref m21, .ref m22, .ref m23, .ref m24, .int (nI (ln + 2)), .int v26, .int v27, .int v28, .ref m29, .ref m30, .ref m31, .ref m32, .ref m33, .ref m34, .ref m35, .ref m36, .ref m37, .int (nI sh), .ref m39, .ref m40, .ref m41, .ref m42, .ref m43, .ref m44, .ref m45, .ref m46, .ref m47, .ref m48, .ref m49, .int v50, .ref m51, .ref m52, .ref m53, .ref m54, .int (nI gf), .ref m56, .ref m57, .ref m58, .ref m59])) := wd_at.ps ew19 k15
  have k21 := wd_at.pt ew19 k16 (tg_ne tm24 ty (by decide))
  have kp22 := kp17.put ew19 s90
  refine lv_iinc (v := 8) (lv' := [(2, .int 8), (0, .ref y), (1, .int x0)]) hx hb dX11_put_30 hl (k := 0) rfl (by decide) (by decide) rfl (fun ls hl => ?_)
  refine lv_goto (tgt := 3) hx hb dX11_put_33 (by decide) ?_
  refine lv_iload_n hx hb dX11_put_3 rfl (lv_at hl 0 rfl) ?_
  refine lv_if_lt (tgt := 36) hx hb dX11_put_4 (by decide) (fun c_23 => absurd c_23 (show ¬ (8 : Int32) < (0 : Int32) by decide)) (fun c_23 => ?_)
  refine lv_aload_n hx hb dX11_put_7 rfl (lv_at hl 1 rfl) ?_
  refine x_get (ref := "NoteHouseModel") F hP k20 rfl (fun _ h => List.mem_cons_of_mem _ (List.mem_append_right _ (h))) 24 (Nat.le_of_ble_eq_true rfl) (List.mem_cons_of_mem _ (List.mem_append_left _ (List.mem_of_getElem? (i := 0) rfl))) rfl rfl dX11_put_8 ?_
  refine lv_aload_n hx hb dX11_put_11 rfl (lv_at hl 1 rfl) ?_
  refine x_get (ref := "NoteHouseModel") F hP k20 rfl (fun _ h => List.mem_cons_of_mem _ (List.mem_append_right _ (h))) 25 (Nat.le_of_ble_eq_true rfl) (List.mem_cons_of_mem _ (List.mem_append_left _ (List.mem_of_getElem? (i := 1) rfl))) rfl rfl dX11_put_12 ?_
  refine lv_iload_n hx hb dX11_put_15 rfl (lv_at hl 2 rfl) ?_
  refine lv_iload_n hx hb dX11_put_16 rfl (lv_at hl 0 rfl) ?_
  refine lv_ishr hx hb dX11_put_17 ?_
  refine lv_i2b (v := (x0 >>> (8 &&& 31)).toInt8.toInt32) hx hb dX11_put_18 (rfl) ?_
  refine y_bast F hP hD hS k21 (vp_in_nI (n := (ln + 2)) (N := 300) (by omega) (by decide)) dX11_put_19 (fun w24 ew25 H locs hP hD hS => ?_)
  have k26 := wd_at.pt ew25 k20 (tg_ne ty tm24 (by decide))
  have k27 : wd_at w24 m24 (.inl (cy 0, 300, .inl (upd (upd (upd f24 (nI ln).toNatClampNeg (vp_nar .byte ((x0 >>> (24 &&& 31)).toInt8.toInt32))) (nI (ln + 1)).toNatClampNeg (vp_nar .byte ((x0 >>> (16 &&& 31)).toInt8.toInt32))) (nI (ln + 2)).toNatClampNeg (vp_nar .byte ((x0 >>> (8 &&& 31)).toInt8.toInt32))))) := wd_at.ps ew25 k21
  have kp28 := kp22.put ew25 s91
  refine lv_aload_n hx hb dX11_put_20 rfl (lv_at hl 1 rfl) ?_
  refine lv_dup hx hb dX11_put_21 rfl ?_
  refine x_get (ref := "NoteHouseModel") F hP k26 rfl (fun _ h => List.mem_cons_of_mem _ (List.mem_append_right _ (h))) 25 (Nat.le_of_ble_eq_true rfl) (List.mem_cons_of_mem _ (List.mem_append_left _ (List.mem_of_getElem? (i := 1) rfl))) rfl rfl dX11_put_22 ?_
  refine lv_iconst (v := 1) hx hb dX11_put_25 (by decide) ?_
  refine lv_iadd hx hb dX11_put_26 ?_
  rw [show ((nI (ln + 2)) + 1 : Int32) = nI (ln + 3) from nI_1 (ln + 2)]
  refine y_put (ref := "NoteHouseModel") F hP hD hS k26 rfl (fun _ h => List.mem_cons_of_mem _ (List.mem_append_right _ (h))) tyX11_ok nmX11 25 (Nat.le_of_ble_eq_true rfl) (List.mem_cons_of_mem _ (List.mem_append_left _ (List.mem_of_getElem? (i := 1) rfl))) rfl rfl rfl rfl (Nat.le_of_ble_eq_true rfl) dX11_put_27 (fun w29 ew30 H locs hP hD hS => ?_)
  have k31 : wd_at w29 y (.inr (11, [.int v0, .int td, .ref m2, .ref m3, .ref m4, .ref m5, .ref m6, .int (nI pc), .ref m8, .ref m9, .ref m10, .ref m11, .ref m12, .ref m13, .ref m14, .int (nI ac), .int (nI sc), .ref m17, .ref m18, .ref m19, .ref m20, .ref m21, .ref m22, .ref m23, .ref m24, .int (nI (ln + 3)), .int v26, .int v27, .int v28, .ref m29, .ref m30, .ref m31, .ref m32, .ref m33, .ref m34, .ref m35, .ref m36, .ref m37, .int (nI sh), .ref m39, .ref m40, .ref m41, .ref m42, .ref m43, .ref m44, .ref m45, .ref m46, .ref m47, .ref m48, .ref m49, .int v50, .ref m51, .ref m52, .ref m53, .ref m54, .int (nI gf), .ref m56, .ref m57, .ref m58, .ref m59])) := wd_at.ps ew30 k26
  have k32 := wd_at.pt ew30 k27 (tg_ne tm24 ty (by decide))
  have kp33 := kp28.put ew30 s90
  refine lv_iinc (v := 0) (lv' := [(2, .int 0), (0, .ref y), (1, .int x0)]) hx hb dX11_put_30 hl (k := 0) rfl (by decide) (by decide) rfl (fun ls hl => ?_)
  refine lv_goto (tgt := 3) hx hb dX11_put_33 (by decide) ?_
  refine lv_iload_n hx hb dX11_put_3 rfl (lv_at hl 0 rfl) ?_
  refine lv_if_lt (tgt := 36) hx hb dX11_put_4 (by decide) (fun c_34 => absurd c_34 (show ¬ (0 : Int32) < (0 : Int32) by decide)) (fun c_34 => ?_)
  refine lv_aload_n hx hb dX11_put_7 rfl (lv_at hl 1 rfl) ?_
  refine x_get (ref := "NoteHouseModel") F hP k31 rfl (fun _ h => List.mem_cons_of_mem _ (List.mem_append_right _ (h))) 24 (Nat.le_of_ble_eq_true rfl) (List.mem_cons_of_mem _ (List.mem_append_left _ (List.mem_of_getElem? (i := 0) rfl))) rfl rfl dX11_put_8 ?_
  refine lv_aload_n hx hb dX11_put_11 rfl (lv_at hl 1 rfl) ?_
  refine x_get (ref := "NoteHouseModel") F hP k31 rfl (fun _ h => List.mem_cons_of_mem _ (List.mem_append_right _ (h))) 25 (Nat.le_of_ble_eq_true rfl) (List.mem_cons_of_mem _ (List.mem_append_left _ (List.mem_of_getElem? (i := 1) rfl))) rfl rfl dX11_put_12 ?_
  refine lv_iload_n hx hb dX11_put_15 rfl (lv_at hl 2 rfl) ?_
  refine lv_iload_n hx hb dX11_put_16 rfl (lv_at hl 0 rfl) ?_
  refine lv_ishr hx hb dX11_put_17 ?_
  refine lv_i2b (v := (x0 >>> (0 &&& 31)).toInt8.toInt32) hx hb dX11_put_18 (rfl) ?_
  refine y_bast F hP hD hS k32 (vp_in_nI (n := (ln + 3)) (N := 300) (by omega) (by decide)) dX11_put_19 (fun w35 ew36 H locs hP hD hS => ?_)
  have k37 := wd_at.pt ew36 k31 (tg_ne ty tm24 (by decide))
  have k38 : wd_at w35 m24 (.inl (cy 0, 300, .inl (upd (upd (upd (upd f24 (nI ln).toNatClampNeg (vp_nar .byte ((x0 >>> (24 &&& 31)).toInt8.toInt32))) (nI (ln + 1)).toNatClampNeg (vp_nar .byte ((x0 >>> (16 &&& 31)).toInt8.toInt32))) (nI (ln + 2)).toNatClampNeg (vp_nar .byte ((x0 >>> (8 &&& 31)).toInt8.toInt32))) (nI (ln + 3)).toNatClampNeg (vp_nar .byte ((x0 >>> (0 &&& 31)).toInt8.toInt32))))) := wd_at.ps ew36 k32
  have kp39 := kp33.put ew36 s91
  refine lv_aload_n hx hb dX11_put_20 rfl (lv_at hl 1 rfl) ?_
  refine lv_dup hx hb dX11_put_21 rfl ?_
  refine x_get (ref := "NoteHouseModel") F hP k37 rfl (fun _ h => List.mem_cons_of_mem _ (List.mem_append_right _ (h))) 25 (Nat.le_of_ble_eq_true rfl) (List.mem_cons_of_mem _ (List.mem_append_left _ (List.mem_of_getElem? (i := 1) rfl))) rfl rfl dX11_put_22 ?_
  refine lv_iconst (v := 1) hx hb dX11_put_25 (by decide) ?_
  refine lv_iadd hx hb dX11_put_26 ?_
  rw [show ((nI (ln + 3)) + 1 : Int32) = nI (ln + 4) from nI_1 (ln + 3)]
  refine y_put (ref := "NoteHouseModel") F hP hD hS k37 rfl (fun _ h => List.mem_cons_of_mem _ (List.mem_append_right _ (h))) tyX11_ok nmX11 25 (Nat.le_of_ble_eq_true rfl) (List.mem_cons_of_mem _ (List.mem_append_left _ (List.mem_of_getElem? (i := 1) rfl))) rfl rfl rfl rfl (Nat.le_of_ble_eq_true rfl) dX11_put_27 (fun w40 ew41 H locs hP hD hS => ?_)
  have k42 : wd_at w40 y (.inr (11, [.int v0, .int td, .ref m2, .ref m3, .ref m4, .ref m5, .ref m6, .int (nI pc), .ref m8, .ref m9, .ref m10, .ref m11, .ref m12, .ref m13, .ref m14, .int (nI ac), .int (nI sc), .ref m17, .ref m18, .ref m19, .ref m20, .ref m21, .ref m22, .ref m23, .ref m24, .int (nI (ln + 4)), .int v26, .int v27, .int v28, .ref m29, .ref m30, .ref m31, .ref m32, .ref m33, .ref m34, .ref m35, .ref m36, .ref m37, .int (nI sh), .ref m39, .ref m40, .ref m41, .ref m42, .ref m43, .ref m44, .ref m45, .ref m46, .ref m47, .ref m48, .ref m49, .int v50, .ref m51, .ref m52, .ref m53, .ref m54, .int (nI gf), .ref m56, .ref m57, .ref m58, .ref m59])) := wd_at.ps ew41 k37
  have k43 := wd_at.pt ew41 k38 (tg_ne tm24 ty (by decide))
  have kp44 := kp39.put ew41 s90
  refine lv_iinc (v := (-8)) (lv' := [(2, .int (-8)), (0, .ref y), (1, .int x0)]) hx hb dX11_put_30 hl (k := 0) rfl (by decide) (by decide) rfl (fun ls hl => ?_)
  refine lv_goto (tgt := 3) hx hb dX11_put_33 (by decide) ?_
  refine lv_iload_n hx hb dX11_put_3 rfl (lv_at hl 0 rfl) ?_
  refine lv_if_lt (tgt := 36) hx hb dX11_put_4 (by decide) (fun c_45 => ?_) (fun c_45 => absurd (show (-8 : Int32) < (0 : Int32) by decide) c_45)
  exact y_vr K hP hD hS (Nat.le_of_ble_eq_true rfl) (Nat.le_of_ble_eq_true rfl) rfl dX11_put_36 (⟨upd (upd (upd (upd f24 (nI ln).toNatClampNeg (vp_nar .byte ((x0 >>> (24 &&& 31)).toInt8.toInt32))) (nI (ln + 1)).toNatClampNeg (vp_nar .byte ((x0 >>> (16 &&& 31)).toInt8.toInt32))) (nI (ln + 2)).toNatClampNeg (vp_nar .byte ((x0 >>> (8 &&& 31)).toInt8.toInt32))) (nI (ln + 3)).toNatClampNeg (vp_nar .byte ((x0 >>> (0 &&& 31)).toInt8.toInt32)), rfl, kp44, k42, k43⟩)
