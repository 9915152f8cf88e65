set_option maxRecDepth 100000 in
theorem gd_start {s : State} {b : Nat} (hts : ∀ w ∈ lw_tbl, w.before #[Value.ref b] s = true) : ∃ (D : va_G) (cy : Nat → ClassId), wd_Gd D cy s ∧ va_AOA .int s := by
  obtain ⟨c0, i0, hK0⟩ := u_known (C := RX0) (T := TX0) (N := 4) (n := 4) hts inX0 (hts _ (tm_2 (List.mem_of_getElem? (i := 97) rfl)))
  obtain ⟨c1, i1, hK1⟩ := u_known (C := RX1) (T := TX1) (N := 6) (n := 6) hts inX1 (hts _ (tm_1 (List.mem_of_getElem? (i := 61) rfl)))
  obtain ⟨c2, i2, hK2⟩ := u_known (C := RX2) (T := TX2) (N := 3) (n := 3) hts inX2 (hts _ (tm_1 (List.mem_of_getElem? (i := 183) rfl)))
  obtain ⟨c3, i3, hK3⟩ := u_known (C := RX3) (T := TX3) (N := 7) (n := 7) hts inX3 (hts _ (tm_2 (List.mem_of_getElem? (i := 51) rfl)))
  obtain ⟨c4, i4, hK4⟩ := u_known (C := RX4) (T := TX4) (N := 10) (n := 10) hts inX4 (hts _ (tm_1 (List.mem_of_getElem? (i := 133) rfl)))
  obtain ⟨c5, i5, hK5⟩ := u_known (C := RX5) (T := TX5) (N := 10) (n := 10) hts inX5 (hts _ (tm_3 (List.mem_of_getElem? (i := 122) rfl)))
  obtain ⟨c6, i6, hK6⟩ := u_known (C := RX6) (T := TX6) (N := 3) (n := 3) hts inX6 (hts _ (tm_2 (List.mem_of_getElem? (i := 162) rfl)))
  obtain ⟨c7, i7, hK7⟩ := u_known (C := RX7) (T := TX7) (N := 3) (n := 3) hts inX7 (hts _ (tm_1 (List.mem_of_getElem? (i := 114) rfl)))
  obtain ⟨c8, i8, hK8⟩ := u_known (C := RX8) (T := TX8) (N := 4) (n := 4) hts inX8 (hts _ (tm_1 (List.mem_of_getElem? (i := 55) rfl)))
  obtain ⟨c9, i9, hK9⟩ := u_known (C := RX9) (T := TX9) (N := 4) (n := 4) hts inX9 (hts _ (tm_1 (List.mem_of_getElem? (i := 29) rfl)))
  obtain ⟨c10, i10, hK10⟩ := u_known (C := RX10) (T := TX10) (N := 17) (n := 17) hts inX10 (hts _ (tm_1 (List.mem_of_getElem? (i := 21) rfl)))
  obtain ⟨c11, i11, hK11⟩ := u_known (C := RX11) (T := TX11) (N := 60) (n := 60) hts inX11 (hts _ (tm_4 (List.mem_of_getElem? (i := 75) rfl)))
  obtain ⟨y0, ka0, co0, u0, v0, x0⟩ := Cond.arrayClass_spec (hts _ (tm_1 (List.mem_of_getElem? (i := 131) rfl)))
  obtain ⟨y1, ka1, co1, u1, v1, x1⟩ := Cond.arrayClass_spec (hts _ (tm_1 (List.mem_of_getElem? (i := 86) rfl)))
  obtain ⟨y2, ka2, co2, u2, v2, x2⟩ := Cond.arrayClass_spec (hts _ (tm_1 (List.mem_of_getElem? (i := 51) rfl)))
  obtain ⟨y3, ka3, co3, u3, v3, x3⟩ := Cond.arrayClass_spec (hts _ (tm_1 (List.mem_of_getElem? (i := 179) rfl)))
  obtain ⟨y4, ka4, co4, u4, v4, x4⟩ := Cond.arrayClass_spec (hts _ (tm_1 (List.mem_of_getElem? (i := 52) rfl)))
  have ov5 := hts _ (tm_1 (List.mem_of_getElem? (i := 108) rfl))
  obtain ⟨co5, y5, ka5, f5, -, v5, x5, u5⟩ := Cond.arrayOver_spec ov5
  have ov6 := hts _ (tm_1 (List.mem_of_getElem? (i := 106) rfl))
  obtain ⟨co6, y6, ka6, f6, -, v6, x6, u6⟩ := Cond.arrayOver_spec ov6
  have ov7 := hts _ (tm_1 (List.mem_of_getElem? (i := 112) rfl))
  obtain ⟨co7, y7, ka7, f7, -, v7, x7, u7⟩ := Cond.arrayOver_spec ov7
  have ov8 := hts _ (tm_1 (List.mem_of_getElem? (i := 110) rfl))
  obtain ⟨co8, y8, ka8, f8, -, v8, x8, u8⟩ := Cond.arrayOver_spec ov8
  have ov9 := hts _ (tm_1 (List.mem_of_getElem? (i := 54) rfl))
  obtain ⟨co9, y9, ka9, f9, -, v9, x9, u9⟩ := Cond.arrayOver_spec ov9
  have ov10 := hts _ (tm_4 (List.mem_of_getElem? (i := 81) rfl))
  obtain ⟨co10, y10, ka10, f10, v10, x10, u10⟩ := Cond.arrayOver_specA ov10
  refine ⟨(fun k => match k with | 0 => c0 | 1 => c1 | 2 => c2 | 3 => c3 | 4 => c4 | 5 => c5 | 6 => c6 | 7 => c7 | 8 => c8 | 9 => c9 | 10 => c10 | _ => c11, fun k => match k with | 0 => i0 | 1 => i1 | 2 => i2 | 3 => i3 | 4 => i4 | 5 => i5 | 6 => i6 | 7 => i7 | 8 => i8 | 9 => i9 | 10 => i10 | _ => i11), fun k => match k with | 0 => y0 | 1 => y1 | 2 => y2 | 3 => y3 | 4 => y4 | 5 => y5 | 6 => y6 | 7 => y7 | 8 => y8 | 9 => y9 | _ => y10, ⟨⟨?_, ?_⟩, ?_, ?_⟩, ov10⟩
  · intro k q hq
    match k, hq with
    | 0, hq => cases hq; exact hK0
    | 1, hq => cases hq; exact hK1
    | 2, hq => cases hq; exact hK2
    | 3, hq => cases hq; exact hK3
    | 4, hq => cases hq; exact hK4
    | 5, hq => cases hq; exact hK5
    | 6, hq => cases hq; exact hK6
    | 7, hq => cases hq; exact hK7
    | 8, hq => cases hq; exact hK8
    | 9, hq => cases hq; exact hK9
    | 10, hq => cases hq; exact hK10
    | 11, hq => cases hq; exact hK11
    | k + 12, hq => simp [vwCl] at hq
  · intro k q hq
    match k, hq with
    | 0, hq => cases hq; exact ⟨fun N z => ⟨(fun k h => by cases h), ka0, v0, co0, x0⟩, u0⟩
    | 1, hq => cases hq; exact ⟨fun N z => ⟨(fun k h => by cases h), ka1, v1, co1, x1⟩, u1⟩
    | 2, hq => cases hq; exact ⟨fun N z => ⟨(fun k h => by cases h), ka2, v2, co2, x2⟩, u2⟩
    | 3, hq => cases hq; exact ⟨fun N z => ⟨(fun k h => by cases h), ka3, v3, co3, x3⟩, u3⟩
    | 4, hq => cases hq; exact ⟨fun N z => ⟨(fun k h => by cases h), ka4, v4, co4, x4⟩, u4⟩
    | 5, hq => cases hq; exact ⟨fun N z => ⟨(fun k h => by cases h), ka5, v5, co5, x5⟩, ⟨ka5, co5, v5, x5, f5, u5⟩⟩
    | 6, hq => cases hq; exact ⟨fun N z => ⟨(fun k h => by cases h), ka6, v6, co6, x6⟩, ⟨ka6, co6, v6, x6, f6, u6⟩⟩
    | 7, hq => cases hq; exact ⟨fun N z => ⟨(fun k h => by cases h), ka7, v7, co7, x7⟩, ⟨ka7, co7, v7, x7, f7, u7⟩⟩
    | 8, hq => cases hq; exact ⟨fun N z => ⟨(fun k h => by cases h), ka8, v8, co8, x8⟩, ⟨ka8, co8, v8, x8, f8, u8⟩⟩
    | 9, hq => cases hq; exact ⟨fun N z => ⟨(fun k h => by cases h), ka9, v9, co9, x9⟩, ⟨ka9, co9, v9, x9, f9, u9⟩⟩
    | 10, hq => cases hq; exact ⟨fun N z => ⟨(fun k h => by cases h), ka10, v10, co10, x10⟩, u10⟩
    | k + 11, hq => simp [wd_tys] at hq
  · intro w hw
    simp only [wd_nest, List.mem_cons, List.not_mem_nil, or_false] at hw
    rcases hw with rfl | rfl | rfl | rfl | rfl | rfl | rfl | rfl | rfl | rfl
    · exact va_Nw.of rfl (hts _ (tm_1 (List.mem_of_getElem? (i := 56) rfl)))
    · exact va_Nw.of rfl (hts _ (tm_1 (List.mem_of_getElem? (i := 115) rfl)))
    · exact va_Nw.of rfl (hts _ (tm_1 (List.mem_of_getElem? (i := 181) rfl)))
    · exact va_Nw.of rfl (hts _ (tm_3 (List.mem_of_getElem? (i := 50) rfl)))
    · exact va_Nw.of rfl (hts _ (tm_3 (List.mem_of_getElem? (i := 84) rfl)))
    · exact va_Nw.of rfl (hts _ (tm_3 (List.mem_of_getElem? (i := 120) rfl)))
    · exact va_Nw.of rfl (hts _ (tm_3 (List.mem_of_getElem? (i := 194) rfl)))
    · exact va_Nw.of rfl (hts _ (tm_3 (List.mem_of_getElem? (i := 70) rfl)))
    · exact va_Nw.of rfl (hts _ (tm_2 (List.mem_of_getElem? (i := 233) rfl)))
    · exact va_Nw.of rfl (hts _ (tm_1 (List.mem_of_getElem? (i := 62) rfl)))
  · intro C hC
    simp only [List.mem_cons, List.not_mem_nil, or_false] at hC
    rcases hC with rfl | rfl | rfl | rfl | rfl
    · exact va_AO.of ov5
    · exact va_AO.of ov6
    · exact va_AO.of ov7
    · exact va_AO.of ov8
    · exact va_AO.of ov9
