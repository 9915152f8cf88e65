theorem cL9 {x y : Cond} {A : Array Value} {s : State} (h : (Cond.and x y).before A s = true) : x.before A s = true := by
  rw [Cond.before_and, Bool.and_eq_true] at h; exact h.1
theorem cR9 {x y : Cond} {A : Array Value} {s : State} (h : (Cond.and x y).before A s = true) : y.before A s = true := by
  rw [Cond.before_and, Bool.and_eq_true] at h; exact h.2
def tmS : Nat → Term := fun i => match i with
  | 0 => .string "NoteHouse$Agent" 57
  | 1 => .string "NoteHouse$Agent" 67
  | 2 => .string "NoteHouse$Agent" 75
  | 3 => .string "NoteHouse$Agent" 73
  | 4 => .string "NoteHouse$Law" 57
  | 5 => .string "NoteHouse$Law" 73
  | 6 => .string "NoteHouseModel" 247
  | 7 => .string "NoteHouseModel" 249
  | 8 => .string "NoteHouseModel" 251
  | 9 => .string "NoteHouseModel" 234
  | 10 => .string "NoteHouseModel" 235
  | 11 => .string "NoteHouseModel" 237
  | 12 => .string "NoteHouseModel" 239
  | 13 => .string "NoteHouseModel" 241
  | 14 => .string "NoteHouseModel" 243
  | 15 => .string "NoteHouseModel" 244
  | 16 => .string "NoteHouseModel" 246
  | 17 => .string "NoteHouseModel" 283
  | 18 => .string "NoteHouseModel" 285
  | 19 => .string "NoteHouseModel" 287
  | 20 => .string "NoteHouseModel" 289
  | 21 => .string "NoteHouseModel" 291
  | _ => .string "NoteHouseModel" 292
set_option maxRecDepth 20000 in
theorem ev_ex {s : State} {b : Nat} (hn : narrow_1.before #[Value.ref b] s = true) : ∀ i : Nat, i < 23 → (Cond.exactly (tmS i) "java/lang/String").before #[Value.ref b] s = true := by
  intro i hi
  match i, hi with
  | 0, _ => exact cL9 (cR9 (cR9 (cR9 (cL9 (cL9 (cL9 (cL9 (cL9 (cL9 hn)))))))))
  | 1, _ => exact cL9 (cR9 (cR9 (cR9 (cL9 (cR9 (cL9 (cL9 (cL9 (cL9 hn)))))))))
  | 2, _ => exact cL9 (cL9 (cR9 (cR9 (cR9 (cL9 (cL9 (cL9 (cL9 hn))))))))
  | 3, _ => exact cL9 (cL9 (cL9 (cR9 (cL9 (cL9 (cR9 (cL9 (cL9 hn))))))))
  | 4, _ => exact cR9 (cL9 (cL9 (cL9 (cR9 (cL9 (cR9 (cL9 (cL9 hn))))))))
  | 5, _ => exact cR9 (cL9 (cL9 (cL9 (cR9 (cR9 (cR9 (cL9 (cL9 hn))))))))
  | 6, _ => exact cL9 (cR9 (cR9 (cL9 (cL9 (cL9 (cL9 (cR9 (cL9 hn))))))))
  | 7, _ => exact cR9 (cL9 (cL9 (cL9 (cR9 (cL9 (cL9 (cR9 (cL9 hn))))))))
  | 8, _ => exact cR9 (cR9 (cR9 (cR9 (cR9 (cR9 (cL9 (cL9 (cR9 (cL9 hn)))))))))
  | 9, _ => exact cR9 (cL9 (cL9 (cR9 (cR9 (cR9 (cL9 (cR9 (cL9 hn))))))))
  | 10, _ => exact cL9 (cL9 (cL9 (cR9 (cL9 (cL9 (cR9 (cR9 (cL9 hn))))))))
  | 11, _ => exact cR9 (cR9 (cR9 (cL9 (cR9 (cR9 (cL9 (cR9 (cR9 (cL9 hn)))))))))
  | 12, _ => exact cL9 (cR9 (cR9 (cR9 (cR9 (cL9 (cR9 (cR9 (cR9 (cL9 hn)))))))))
  | 13, _ => exact cR9 (cR9 (cR9 (cR9 (cR9 (cR9 (cR9 (cR9 (cR9 (cL9 hn)))))))))
  | 14, _ => exact cR9 (cR9 (cL9 (cL9 (cR9 (cL9 (cL9 (cL9 (cR9 hn))))))))
  | 15, _ => exact cL9 (cL9 (cL9 (cR9 (cL9 (cR9 (cL9 (cL9 (cR9 hn))))))))
  | 16, _ => exact cL9 (cL9 (cR9 (cR9 (cR9 (cR9 (cL9 (cL9 (cR9 hn))))))))
  | 17, _ => exact cL9 (cR9 (cR9 (cR9 (cL9 (cL9 (cR9 (cR9 (cL9 (cR9 hn)))))))))
  | 18, _ => exact cL9 (cR9 (cR9 (cR9 (cR9 (cR9 (cR9 (cR9 (cL9 (cR9 hn)))))))))
  | 19, _ => exact cL9 (cL9 (cL9 (cR9 (cR9 (cL9 (cL9 (cR9 (cR9 hn))))))))
  | 20, _ => exact cL9 (cL9 (cL9 (cL9 (cR9 (cR9 (cL9 (cR9 (cR9 hn))))))))
  | 21, _ => exact cR9 (cR9 (cL9 (cR9 (cL9 (cL9 (cR9 (cR9 (cR9 hn))))))))
  | 22, _ => exact cL9 (cR9 (cR9 (cL9 (cL9 (cR9 (cR9 (cR9 (cR9 hn))))))))
  | i + 23, hi => exact absurd hi (by omega)
set_option maxRecDepth 20000 in
theorem ev_co {s : State} {b : Nat} (hn : narrow_1.before #[Value.ref b] s = true) : ∀ i : Nat, i < 23 → (Cond.eq (.field (tmS i) "java/lang/String" "coder" "B") (.int 0)).before #[Value.ref b] s = true := by
  intro i hi
  match i, hi with
  | 0, _ => exact cR9 (cR9 (cR9 (cR9 (cL9 (cL9 (cL9 (cL9 (cL9 (cL9 hn)))))))))
  | 1, _ => exact cR9 (cR9 (cR9 (cR9 (cL9 (cR9 (cL9 (cL9 (cL9 (cL9 hn)))))))))
  | 2, _ => exact cR9 (cL9 (cR9 (cR9 (cR9 (cL9 (cL9 (cL9 (cL9 hn))))))))
  | 3, _ => exact cR9 (cL9 (cL9 (cR9 (cL9 (cL9 (cR9 (cL9 (cL9 hn))))))))
  | 4, _ => exact cL9 (cR9 (cL9 (cL9 (cR9 (cL9 (cR9 (cL9 (cL9 hn))))))))
  | 5, _ => exact cL9 (cR9 (cL9 (cL9 (cR9 (cR9 (cR9 (cL9 (cL9 hn))))))))
  | 6, _ => exact cL9 (cR9 (cR9 (cR9 (cL9 (cL9 (cL9 (cL9 (cR9 (cL9 hn)))))))))
  | 7, _ => exact cL9 (cR9 (cL9 (cL9 (cR9 (cL9 (cL9 (cR9 (cL9 hn))))))))
  | 8, _ => exact cL9 (cL9 (cL9 (cL9 (cL9 (cR9 (cL9 (cR9 (cL9 hn))))))))
  | 9, _ => exact cL9 (cR9 (cL9 (cR9 (cR9 (cR9 (cL9 (cR9 (cL9 hn))))))))
  | 10, _ => exact cR9 (cL9 (cL9 (cR9 (cL9 (cL9 (cR9 (cR9 (cL9 hn))))))))
  | 11, _ => exact cL9 (cL9 (cR9 (cR9 (cR9 (cL9 (cR9 (cR9 (cL9 hn))))))))
  | 12, _ => exact cR9 (cR9 (cR9 (cR9 (cR9 (cL9 (cR9 (cR9 (cR9 (cL9 hn)))))))))
  | 13, _ => exact cL9 (cL9 (cL9 (cL9 (cL9 (cL9 (cL9 (cL9 (cR9 hn))))))))
  | 14, _ => exact cL9 (cL9 (cR9 (cL9 (cR9 (cL9 (cL9 (cL9 (cR9 hn))))))))
  | 15, _ => exact cR9 (cL9 (cL9 (cR9 (cL9 (cR9 (cL9 (cL9 (cR9 hn))))))))
  | 16, _ => exact cR9 (cL9 (cR9 (cR9 (cR9 (cR9 (cL9 (cL9 (cR9 hn))))))))
  | 17, _ => exact cR9 (cR9 (cR9 (cR9 (cL9 (cL9 (cR9 (cR9 (cL9 (cR9 hn)))))))))
  | 18, _ => exact cR9 (cR9 (cR9 (cR9 (cR9 (cR9 (cR9 (cR9 (cL9 (cR9 hn)))))))))
  | 19, _ => exact cR9 (cL9 (cL9 (cR9 (cR9 (cL9 (cL9 (cR9 (cR9 hn))))))))
  | 20, _ => exact cR9 (cL9 (cL9 (cL9 (cR9 (cR9 (cL9 (cR9 (cR9 hn))))))))
  | 21, _ => exact cL9 (cL9 (cR9 (cR9 (cL9 (cL9 (cR9 (cR9 (cR9 hn))))))))
  | 22, _ => exact cL9 (cR9 (cR9 (cR9 (cL9 (cL9 (cR9 (cR9 (cR9 (cR9 hn)))))))))
  | i + 23, hi => exact absurd hi (by omega)
set_option maxRecDepth 20000 in
theorem ev_ar {s : State} {b : Nat} (hn : narrow_1.before #[Value.ref b] s = true) : ∀ i : Nat, i < 23 → (Cond.arrayOf (.field (tmS i) "java/lang/String" "value" "[B") .byte).before #[Value.ref b] s = true := by
  intro i hi
  match i, hi with
  | 0, _ => exact cL9 (cL9 (cL9 (cR9 (cL9 (cL9 (cL9 (cL9 (cL9 hn))))))))
  | 1, _ => exact cL9 (cL9 (cL9 (cR9 (cR9 (cL9 (cL9 (cL9 (cL9 hn))))))))
  | 2, _ => exact cL9 (cR9 (cR9 (cR9 (cR9 (cL9 (cL9 (cL9 (cL9 hn))))))))
  | 3, _ => exact cL9 (cR9 (cL9 (cR9 (cL9 (cL9 (cR9 (cL9 (cL9 hn))))))))
  | 4, _ => exact cR9 (cR9 (cL9 (cL9 (cR9 (cL9 (cR9 (cL9 (cL9 hn))))))))
  | 5, _ => exact cR9 (cR9 (cL9 (cL9 (cR9 (cR9 (cR9 (cL9 (cL9 hn))))))))
  | 6, _ => exact cR9 (cR9 (cR9 (cR9 (cL9 (cL9 (cL9 (cL9 (cR9 (cL9 hn)))))))))
  | 7, _ => exact cR9 (cR9 (cL9 (cL9 (cR9 (cL9 (cL9 (cR9 (cL9 hn))))))))
  | 8, _ => exact cR9 (cL9 (cL9 (cL9 (cL9 (cR9 (cL9 (cR9 (cL9 hn))))))))
  | 9, _ => exact cL9 (cR9 (cR9 (cL9 (cR9 (cR9 (cR9 (cL9 (cR9 (cL9 hn)))))))))
  | 10, _ => exact cL9 (cR9 (cL9 (cR9 (cL9 (cL9 (cR9 (cR9 (cL9 hn))))))))
  | 11, _ => exact cR9 (cL9 (cR9 (cR9 (cR9 (cL9 (cR9 (cR9 (cL9 hn))))))))
  | 12, _ => exact cL9 (cL9 (cL9 (cL9 (cR9 (cR9 (cR9 (cR9 (cL9 hn))))))))
  | 13, _ => exact cR9 (cL9 (cL9 (cL9 (cL9 (cL9 (cL9 (cL9 (cR9 hn))))))))
  | 14, _ => exact cR9 (cL9 (cR9 (cL9 (cR9 (cL9 (cL9 (cL9 (cR9 hn))))))))
  | 15, _ => exact cL9 (cR9 (cL9 (cR9 (cL9 (cR9 (cL9 (cL9 (cR9 hn))))))))
  | 16, _ => exact cL9 (cR9 (cR9 (cR9 (cR9 (cR9 (cL9 (cL9 (cR9 hn))))))))
  | 17, _ => exact cL9 (cL9 (cL9 (cR9 (cL9 (cR9 (cR9 (cL9 (cR9 hn))))))))
  | 18, _ => exact cL9 (cL9 (cL9 (cL9 (cL9 (cL9 (cL9 (cR9 (cR9 hn))))))))
  | 19, _ => exact cL9 (cR9 (cL9 (cR9 (cR9 (cL9 (cL9 (cR9 (cR9 hn))))))))
  | 20, _ => exact cL9 (cR9 (cL9 (cL9 (cR9 (cR9 (cL9 (cR9 (cR9 hn))))))))
  | 21, _ => exact cR9 (cL9 (cR9 (cR9 (cL9 (cL9 (cR9 (cR9 (cR9 hn))))))))
  | 22, _ => exact cR9 (cR9 (cR9 (cR9 (cL9 (cL9 (cR9 (cR9 (cR9 (cR9 hn)))))))))
  | i + 23, hi => exact absurd hi (by omega)
set_option maxRecDepth 20000 in
theorem ev_le {s : State} {b : Nat} (hn : narrow_1.before #[Value.ref b] s = true) : ∀ i : Nat, i < 23 → (Cond.eq (.length (.field (tmS i) "java/lang/String" "value" "[B")) (.int (Int32.ofNat (st_len.getD i 0)))).before #[Value.ref b] s = true := by
  intro i hi
  match i, hi with
  | 0, _ => exact cR9 (cL9 (cL9 (cR9 (cL9 (cL9 (cL9 (cL9 (cL9 hn))))))))
  | 1, _ => exact cR9 (cL9 (cL9 (cR9 (cR9 (cL9 (cL9 (cL9 (cL9 hn))))))))
  | 2, _ => exact cL9 (cR9 (cR9 (cR9 (cR9 (cR9 (cL9 (cL9 (cL9 (cL9 hn)))))))))
  | 3, _ => exact cR9 (cR9 (cL9 (cR9 (cL9 (cL9 (cR9 (cL9 (cL9 hn))))))))
  | 4, _ => exact cL9 (cL9 (cR9 (cL9 (cR9 (cL9 (cR9 (cL9 (cL9 hn))))))))
  | 5, _ => exact cL9 (cL9 (cR9 (cL9 (cR9 (cR9 (cR9 (cL9 (cL9 hn))))))))
  | 6, _ => exact cL9 (cL9 (cL9 (cR9 (cL9 (cL9 (cL9 (cR9 (cL9 hn))))))))
  | 7, _ => exact cL9 (cL9 (cR9 (cL9 (cR9 (cL9 (cL9 (cR9 (cL9 hn))))))))
  | 8, _ => exact cL9 (cR9 (cL9 (cL9 (cL9 (cR9 (cL9 (cR9 (cL9 hn))))))))
  | 9, _ => exact cR9 (cR9 (cR9 (cL9 (cR9 (cR9 (cR9 (cL9 (cR9 (cL9 hn)))))))))
  | 10, _ => exact cR9 (cR9 (cL9 (cR9 (cL9 (cL9 (cR9 (cR9 (cL9 hn))))))))
  | 11, _ => exact cL9 (cR9 (cR9 (cR9 (cR9 (cL9 (cR9 (cR9 (cL9 hn))))))))
  | 12, _ => exact cR9 (cL9 (cL9 (cL9 (cR9 (cR9 (cR9 (cR9 (cL9 hn))))))))
  | 13, _ => exact cL9 (cR9 (cL9 (cL9 (cL9 (cL9 (cL9 (cL9 (cR9 hn))))))))
  | 14, _ => exact cL9 (cR9 (cR9 (cL9 (cR9 (cL9 (cL9 (cL9 (cR9 hn))))))))
  | 15, _ => exact cL9 (cR9 (cR9 (cL9 (cR9 (cL9 (cR9 (cL9 (cL9 (cR9 hn)))))))))
  | 16, _ => exact cL9 (cR9 (cR9 (cR9 (cR9 (cR9 (cR9 (cL9 (cL9 (cR9 hn)))))))))
  | 17, _ => exact cR9 (cL9 (cL9 (cR9 (cL9 (cR9 (cR9 (cL9 (cR9 hn))))))))
  | 18, _ => exact cR9 (cL9 (cL9 (cL9 (cL9 (cL9 (cL9 (cR9 (cR9 hn))))))))
  | 19, _ => exact cL9 (cR9 (cR9 (cL9 (cR9 (cR9 (cL9 (cL9 (cR9 (cR9 hn)))))))))
  | 20, _ => exact cR9 (cR9 (cL9 (cL9 (cR9 (cR9 (cL9 (cR9 (cR9 hn))))))))
  | 21, _ => exact cL9 (cR9 (cR9 (cR9 (cL9 (cL9 (cR9 (cR9 (cR9 hn))))))))
  | 22, _ => exact cL9 (cL9 (cL9 (cR9 (cL9 (cR9 (cR9 (cR9 (cR9 hn))))))))
  | i + 23, hi => exact absurd hi (by omega)
set_option maxRecDepth 20000 in
theorem ev_el0 {s : State} {b : Nat} (hn : narrow_1.before #[Value.ref b] s = true) : ∀ j : Nat, j < 14 → (Cond.eq (.elem (.field (tmS 0) "java/lang/String" "value" "[B") (.int (Int32.ofNat j))) (.int ((st_byt.getD 0 []).getD j 0))).before #[Value.ref b] s = true := by
  intro j hj
  match j, hj with
  | 0, _ => exact cL9 (cR9 (cL9 (cR9 (cL9 (cL9 (cL9 (cL9 (cL9 hn))))))))
  | 1, _ => exact cR9 (cR9 (cL9 (cR9 (cL9 (cL9 (cL9 (cL9 (cL9 hn))))))))
  | 2, _ => exact cL9 (cL9 (cR9 (cR9 (cL9 (cL9 (cL9 (cL9 (cL9 hn))))))))
  | 3, _ => exact cR9 (cL9 (cR9 (cR9 (cL9 (cL9 (cL9 (cL9 (cL9 hn))))))))
  | 4, _ => exact cL9 (cR9 (cR9 (cR9 (cL9 (cL9 (cL9 (cL9 (cL9 hn))))))))
  | 5, _ => exact cL9 (cR9 (cR9 (cR9 (cR9 (cL9 (cL9 (cL9 (cL9 (cL9 hn)))))))))
  | 6, _ => exact cR9 (cR9 (cR9 (cR9 (cR9 (cL9 (cL9 (cL9 (cL9 (cL9 hn)))))))))
  | 7, _ => exact cL9 (cL9 (cL9 (cL9 (cR9 (cL9 (cL9 (cL9 (cL9 hn))))))))
  | 8, _ => exact cR9 (cL9 (cL9 (cL9 (cR9 (cL9 (cL9 (cL9 (cL9 hn))))))))
  | 9, _ => exact cL9 (cR9 (cL9 (cL9 (cR9 (cL9 (cL9 (cL9 (cL9 hn))))))))
  | 10, _ => exact cR9 (cR9 (cL9 (cL9 (cR9 (cL9 (cL9 (cL9 (cL9 hn))))))))
  | 11, _ => exact cL9 (cL9 (cR9 (cL9 (cR9 (cL9 (cL9 (cL9 (cL9 hn))))))))
  | 12, _ => exact cR9 (cL9 (cR9 (cL9 (cR9 (cL9 (cL9 (cL9 (cL9 hn))))))))
  | 13, _ => exact cL9 (cR9 (cR9 (cL9 (cR9 (cL9 (cL9 (cL9 (cL9 hn))))))))
  | j + 14, hj => exact absurd hj (by omega)
set_option maxRecDepth 20000 in
theorem ev_el1 {s : State} {b : Nat} (hn : narrow_1.before #[Value.ref b] s = true) : ∀ j : Nat, j < 2 → (Cond.eq (.elem (.field (tmS 1) "java/lang/String" "value" "[B") (.int (Int32.ofNat j))) (.int ((st_byt.getD 1 []).getD j 0))).before #[Value.ref b] s = true := by
  intro j hj
  match j, hj with
  | 0, _ => exact cL9 (cR9 (cL9 (cR9 (cR9 (cL9 (cL9 (cL9 (cL9 hn))))))))
  | 1, _ => exact cL9 (cR9 (cR9 (cL9 (cR9 (cR9 (cL9 (cL9 (cL9 (cL9 hn)))))))))
  | j + 2, hj => exact absurd hj (by omega)
set_option maxRecDepth 20000 in
theorem ev_el2 {s : State} {b : Nat} (hn : narrow_1.before #[Value.ref b] s = true) : ∀ j : Nat, j < 45 → (Cond.eq (.elem (.field (tmS 2) "java/lang/String" "value" "[B") (.int (Int32.ofNat j))) (.int ((st_byt.getD 2 []).getD j 0))).before #[Value.ref b] s = true := by
  intro j hj
  match j, hj with
  | 0, _ => exact cR9 (cR9 (cR9 (cR9 (cR9 (cR9 (cL9 (cL9 (cL9 (cL9 hn)))))))))
  | 1, _ => exact cL9 (cL9 (cL9 (cL9 (cL9 (cR9 (cL9 (cL9 (cL9 hn))))))))
  | 2, _ => exact cR9 (cL9 (cL9 (cL9 (cL9 (cR9 (cL9 (cL9 (cL9 hn))))))))
  | 3, _ => exact cL9 (cR9 (cL9 (cL9 (cL9 (cR9 (cL9 (cL9 (cL9 hn))))))))
  | 4, _ => exact cR9 (cR9 (cL9 (cL9 (cL9 (cR9 (cL9 (cL9 (cL9 hn))))))))
  | 5, _ => exact cL9 (cL9 (cR9 (cL9 (cL9 (cR9 (cL9 (cL9 (cL9 hn))))))))
  | 6, _ => exact cR9 (cL9 (cR9 (cL9 (cL9 (cR9 (cL9 (cL9 (cL9 hn))))))))
  | 7, _ => exact cL9 (cR9 (cR9 (cL9 (cL9 (cR9 (cL9 (cL9 (cL9 hn))))))))
  | 8, _ => exact cL9 (cR9 (cR9 (cR9 (cL9 (cL9 (cR9 (cL9 (cL9 (cL9 hn)))))))))
  | 9, _ => exact cR9 (cR9 (cR9 (cR9 (cL9 (cL9 (cR9 (cL9 (cL9 (cL9 hn)))))))))
  | 10, _ => exact cL9 (cL9 (cL9 (cR9 (cL9 (cR9 (cL9 (cL9 (cL9 hn))))))))
  | 11, _ => exact cR9 (cL9 (cL9 (cR9 (cL9 (cR9 (cL9 (cL9 (cL9 hn))))))))
  | 12, _ => exact cL9 (cR9 (cL9 (cR9 (cL9 (cR9 (cL9 (cL9 (cL9 hn))))))))
  | 13, _ => exact cR9 (cR9 (cL9 (cR9 (cL9 (cR9 (cL9 (cL9 (cL9 hn))))))))
  | 14, _ => exact cL9 (cL9 (cR9 (cR9 (cL9 (cR9 (cL9 (cL9 (cL9 hn))))))))
  | 15, _ => exact cR9 (cL9 (cR9 (cR9 (cL9 (cR9 (cL9 (cL9 (cL9 hn))))))))
  | 16, _ => exact cL9 (cR9 (cR9 (cR9 (cL9 (cR9 (cL9 (cL9 (cL9 hn))))))))
  | 17, _ => exact cL9 (cR9 (cR9 (cR9 (cR9 (cL9 (cR9 (cL9 (cL9 (cL9 hn)))))))))
  | 18, _ => exact cR9 (cR9 (cR9 (cR9 (cR9 (cL9 (cR9 (cL9 (cL9 (cL9 hn)))))))))
  | 19, _ => exact cL9 (cL9 (cL9 (cL9 (cR9 (cR9 (cL9 (cL9 (cL9 hn))))))))
  | 20, _ => exact cR9 (cL9 (cL9 (cL9 (cR9 (cR9 (cL9 (cL9 (cL9 hn))))))))
  | 21, _ => exact cL9 (cR9 (cL9 (cL9 (cR9 (cR9 (cL9 (cL9 (cL9 hn))))))))
  | 22, _ => exact cR9 (cR9 (cL9 (cL9 (cR9 (cR9 (cL9 (cL9 (cL9 hn))))))))
  | 23, _ => exact cL9 (cL9 (cR9 (cL9 (cR9 (cR9 (cL9 (cL9 (cL9 hn))))))))
  | 24, _ => exact cR9 (cL9 (cR9 (cL9 (cR9 (cR9 (cL9 (cL9 (cL9 hn))))))))
  | 25, _ => exact cL9 (cR9 (cR9 (cL9 (cR9 (cR9 (cL9 (cL9 (cL9 hn))))))))
  | 26, _ => exact cL9 (cR9 (cR9 (cR9 (cL9 (cR9 (cR9 (cL9 (cL9 (cL9 hn)))))))))
  | 27, _ => exact cR9 (cR9 (cR9 (cR9 (cL9 (cR9 (cR9 (cL9 (cL9 (cL9 hn)))))))))
  | 28, _ => exact cL9 (cL9 (cL9 (cR9 (cR9 (cR9 (cL9 (cL9 (cL9 hn))))))))
  | 29, _ => exact cR9 (cL9 (cL9 (cR9 (cR9 (cR9 (cL9 (cL9 (cL9 hn))))))))
  | 30, _ => exact cL9 (cR9 (cL9 (cR9 (cR9 (cR9 (cL9 (cL9 (cL9 hn))))))))
  | 31, _ => exact cL9 (cR9 (cR9 (cL9 (cR9 (cR9 (cR9 (cL9 (cL9 (cL9 hn)))))))))
  | 32, _ => exact cR9 (cR9 (cR9 (cL9 (cR9 (cR9 (cR9 (cL9 (cL9 (cL9 hn)))))))))
  | 33, _ => exact cL9 (cL9 (cR9 (cR9 (cR9 (cR9 (cL9 (cL9 (cL9 hn))))))))
  | 34, _ => exact cR9 (cL9 (cR9 (cR9 (cR9 (cR9 (cL9 (cL9 (cL9 hn))))))))
  | 35, _ => exact cL9 (cR9 (cR9 (cR9 (cR9 (cR9 (cL9 (cL9 (cL9 hn))))))))
  | 36, _ => exact cL9 (cR9 (cR9 (cR9 (cR9 (cR9 (cR9 (cL9 (cL9 (cL9 hn)))))))))
  | 37, _ => exact cR9 (cR9 (cR9 (cR9 (cR9 (cR9 (cR9 (cL9 (cL9 (cL9 hn)))))))))
  | 38, _ => exact cL9 (cL9 (cL9 (cL9 (cL9 (cL9 (cR9 (cL9 (cL9 hn))))))))
  | 39, _ => exact cR9 (cL9 (cL9 (cL9 (cL9 (cL9 (cR9 (cL9 (cL9 hn))))))))
  | 40, _ => exact cL9 (cR9 (cL9 (cL9 (cL9 (cL9 (cR9 (cL9 (cL9 hn))))))))
  | 41, _ => exact cR9 (cR9 (cL9 (cL9 (cL9 (cL9 (cR9 (cL9 (cL9 hn))))))))
  | 42, _ => exact cL9 (cL9 (cR9 (cL9 (cL9 (cL9 (cR9 (cL9 (cL9 hn))))))))
  | 43, _ => exact cR9 (cL9 (cR9 (cL9 (cL9 (cL9 (cR9 (cL9 (cL9 hn))))))))
  | 44, _ => exact cL9 (cR9 (cR9 (cL9 (cL9 (cL9 (cR9 (cL9 (cL9 hn))))))))
  | j + 45, hj => exact absurd hj (by omega)
set_option maxRecDepth 20000 in
theorem ev_el3 {s : State} {b : Nat} (hn : narrow_1.before #[Value.ref b] s = true) : ∀ j : Nat, j < 3 → (Cond.eq (.elem (.field (tmS 3) "java/lang/String" "value" "[B") (.int (Int32.ofNat j))) (.int ((st_byt.getD 3 []).getD j 0))).before #[Value.ref b] s = true := by
  intro j hj
  match j, hj with
  | 0, _ => exact cL9 (cL9 (cR9 (cR9 (cL9 (cL9 (cR9 (cL9 (cL9 hn))))))))
  | 1, _ => exact cR9 (cL9 (cR9 (cR9 (cL9 (cL9 (cR9 (cL9 (cL9 hn))))))))
  | 2, _ => exact cL9 (cR9 (cR9 (cR9 (cL9 (cL9 (cR9 (cL9 (cL9 hn))))))))
  | j + 3, hj => exact absurd hj (by omega)
set_option maxRecDepth 20000 in
theorem ev_el4 {s : State} {b : Nat} (hn : narrow_1.before #[Value.ref b] s = true) : ∀ j : Nat, j < 30 → (Cond.eq (.elem (.field (tmS 4) "java/lang/String" "value" "[B") (.int (Int32.ofNat j))) (.int ((st_byt.getD 4 []).getD j 0))).before #[Value.ref b] s = true := by
  intro j hj
  match j, hj with
  | 0, _ => exact cR9 (cL9 (cR9 (cL9 (cR9 (cL9 (cR9 (cL9 (cL9 hn))))))))
  | 1, _ => exact cL9 (cR9 (cR9 (cL9 (cR9 (cL9 (cR9 (cL9 (cL9 hn))))))))
  | 2, _ => exact cL9 (cR9 (cR9 (cR9 (cL9 (cR9 (cL9 (cR9 (cL9 (cL9 hn)))))))))
  | 3, _ => exact cR9 (cR9 (cR9 (cR9 (cL9 (cR9 (cL9 (cR9 (cL9 (cL9 hn)))))))))
  | 4, _ => exact cL9 (cL9 (cL9 (cR9 (cR9 (cL9 (cR9 (cL9 (cL9 hn))))))))
  | 5, _ => exact cR9 (cL9 (cL9 (cR9 (cR9 (cL9 (cR9 (cL9 (cL9 hn))))))))
  | 6, _ => exact cL9 (cR9 (cL9 (cR9 (cR9 (cL9 (cR9 (cL9 (cL9 hn))))))))
  | 7, _ => exact cL9 (cR9 (cR9 (cL9 (cR9 (cR9 (cL9 (cR9 (cL9 (cL9 hn)))))))))
  | 8, _ => exact cR9 (cR9 (cR9 (cL9 (cR9 (cR9 (cL9 (cR9 (cL9 (cL9 hn)))))))))
  | 9, _ => exact cL9 (cL9 (cR9 (cR9 (cR9 (cL9 (cR9 (cL9 (cL9 hn))))))))
  | 10, _ => exact cR9 (cL9 (cR9 (cR9 (cR9 (cL9 (cR9 (cL9 (cL9 hn))))))))
  | 11, _ => exact cL9 (cR9 (cR9 (cR9 (cR9 (cL9 (cR9 (cL9 (cL9 hn))))))))
  | 12, _ => exact cL9 (cR9 (cR9 (cR9 (cR9 (cR9 (cL9 (cR9 (cL9 (cL9 hn)))))))))
  | 13, _ => exact cR9 (cR9 (cR9 (cR9 (cR9 (cR9 (cL9 (cR9 (cL9 (cL9 hn)))))))))
  | 14, _ => exact cL9 (cL9 (cL9 (cL9 (cL9 (cR9 (cR9 (cL9 (cL9 hn))))))))
  | 15, _ => exact cR9 (cL9 (cL9 (cL9 (cL9 (cR9 (cR9 (cL9 (cL9 hn))))))))
  | 16, _ => exact cL9 (cR9 (cL9 (cL9 (cL9 (cR9 (cR9 (cL9 (cL9 hn))))))))
  | 17, _ => exact cR9 (cR9 (cL9 (cL9 (cL9 (cR9 (cR9 (cL9 (cL9 hn))))))))
  | 18, _ => exact cL9 (cL9 (cR9 (cL9 (cL9 (cR9 (cR9 (cL9 (cL9 hn))))))))
  | 19, _ => exact cR9 (cL9 (cR9 (cL9 (cL9 (cR9 (cR9 (cL9 (cL9 hn))))))))
  | 20, _ => exact cL9 (cR9 (cR9 (cL9 (cL9 (cR9 (cR9 (cL9 (cL9 hn))))))))
  | 21, _ => exact cL9 (cR9 (cR9 (cR9 (cL9 (cL9 (cR9 (cR9 (cL9 (cL9 hn)))))))))
  | 22, _ => exact cR9 (cR9 (cR9 (cR9 (cL9 (cL9 (cR9 (cR9 (cL9 (cL9 hn)))))))))
  | 23, _ => exact cL9 (cL9 (cL9 (cR9 (cL9 (cR9 (cR9 (cL9 (cL9 hn))))))))
  | 24, _ => exact cR9 (cL9 (cL9 (cR9 (cL9 (cR9 (cR9 (cL9 (cL9 hn))))))))
  | 25, _ => exact cL9 (cR9 (cL9 (cR9 (cL9 (cR9 (cR9 (cL9 (cL9 hn))))))))
  | 26, _ => exact cL9 (cR9 (cR9 (cL9 (cR9 (cL9 (cR9 (cR9 (cL9 (cL9 hn)))))))))
  | 27, _ => exact cR9 (cR9 (cR9 (cL9 (cR9 (cL9 (cR9 (cR9 (cL9 (cL9 hn)))))))))
  | 28, _ => exact cL9 (cL9 (cR9 (cR9 (cL9 (cR9 (cR9 (cL9 (cL9 hn))))))))
  | 29, _ => exact cR9 (cL9 (cR9 (cR9 (cL9 (cR9 (cR9 (cL9 (cL9 hn))))))))
  | j + 30, hj => exact absurd hj (by omega)
set_option maxRecDepth 20000 in
theorem ev_el5 {s : State} {b : Nat} (hn : narrow_1.before #[Value.ref b] s = true) : ∀ j : Nat, j < 15 → (Cond.eq (.elem (.field (tmS 5) "java/lang/String" "value" "[B") (.int (Int32.ofNat j))) (.int ((st_byt.getD 5 []).getD j 0))).before #[Value.ref b] s = true := by
  intro j hj
  match j, hj with
  | 0, _ => exact cR9 (cL9 (cR9 (cL9 (cR9 (cR9 (cR9 (cL9 (cL9 hn))))))))
  | 1, _ => exact cL9 (cR9 (cR9 (cL9 (cR9 (cR9 (cR9 (cL9 (cL9 hn))))))))
  | 2, _ => exact cL9 (cR9 (cR9 (cR9 (cL9 (cR9 (cR9 (cR9 (cL9 (cL9 hn)))))))))
  | 3, _ => exact cR9 (cR9 (cR9 (cR9 (cL9 (cR9 (cR9 (cR9 (cL9 (cL9 hn)))))))))
  | 4, _ => exact cL9 (cL9 (cL9 (cR9 (cR9 (cR9 (cR9 (cL9 (cL9 hn))))))))
  | 5, _ => exact cR9 (cL9 (cL9 (cR9 (cR9 (cR9 (cR9 (cL9 (cL9 hn))))))))
  | 6, _ => exact cL9 (cR9 (cL9 (cR9 (cR9 (cR9 (cR9 (cL9 (cL9 hn))))))))
  | 7, _ => exact cL9 (cR9 (cR9 (cL9 (cR9 (cR9 (cR9 (cR9 (cL9 (cL9 hn)))))))))
  | 8, _ => exact cR9 (cR9 (cR9 (cL9 (cR9 (cR9 (cR9 (cR9 (cL9 (cL9 hn)))))))))
  | 9, _ => exact cL9 (cL9 (cR9 (cR9 (cR9 (cR9 (cR9 (cL9 (cL9 hn))))))))
  | 10, _ => exact cR9 (cL9 (cR9 (cR9 (cR9 (cR9 (cR9 (cL9 (cL9 hn))))))))
  | 11, _ => exact cL9 (cR9 (cR9 (cR9 (cR9 (cR9 (cR9 (cL9 (cL9 hn))))))))
  | 12, _ => exact cL9 (cR9 (cR9 (cR9 (cR9 (cR9 (cR9 (cR9 (cL9 (cL9 hn)))))))))
  | 13, _ => exact cR9 (cR9 (cR9 (cR9 (cR9 (cR9 (cR9 (cR9 (cL9 (cL9 hn)))))))))
  | 14, _ => exact cL9 (cL9 (cL9 (cL9 (cL9 (cL9 (cL9 (cR9 (cL9 hn))))))))
  | j + 15, hj => exact absurd hj (by omega)
set_option maxRecDepth 20000 in
theorem ev_el6 {s : State} {b : Nat} (hn : narrow_1.before #[Value.ref b] s = true) : ∀ j : Nat, j < 3 → (Cond.eq (.elem (.field (tmS 6) "java/lang/String" "value" "[B") (.int (Int32.ofNat j))) (.int ((st_byt.getD 6 []).getD j 0))).before #[Value.ref b] s = true := by
  intro j hj
  match j, hj with
  | 0, _ => exact cR9 (cL9 (cL9 (cR9 (cL9 (cL9 (cL9 (cR9 (cL9 hn))))))))
  | 1, _ => exact cL9 (cR9 (cL9 (cR9 (cL9 (cL9 (cL9 (cR9 (cL9 hn))))))))
  | 2, _ => exact cR9 (cR9 (cL9 (cR9 (cL9 (cL9 (cL9 (cR9 (cL9 hn))))))))
  | j + 3, hj => exact absurd hj (by omega)
set_option maxRecDepth 20000 in
theorem ev_el7 {s : State} {b : Nat} (hn : narrow_1.before #[Value.ref b] s = true) : ∀ j : Nat, j < 6 → (Cond.eq (.elem (.field (tmS 7) "java/lang/String" "value" "[B") (.int (Int32.ofNat j))) (.int ((st_byt.getD 7 []).getD j 0))).before #[Value.ref b] s = true := by
  intro j hj
  match j, hj with
  | 0, _ => exact cR9 (cL9 (cR9 (cL9 (cR9 (cL9 (cL9 (cR9 (cL9 hn))))))))
  | 1, _ => exact cL9 (cR9 (cR9 (cL9 (cR9 (cL9 (cL9 (cR9 (cL9 hn))))))))
  | 2, _ => exact cL9 (cR9 (cR9 (cR9 (cL9 (cR9 (cL9 (cL9 (cR9 (cL9 hn)))))))))
  | 3, _ => exact cR9 (cR9 (cR9 (cR9 (cL9 (cR9 (cL9 (cL9 (cR9 (cL9 hn)))))))))
  | 4, _ => exact cL9 (cL9 (cL9 (cR9 (cR9 (cL9 (cL9 (cR9 (cL9 hn))))))))
  | 5, _ => exact cR9 (cL9 (cL9 (cR9 (cR9 (cL9 (cL9 (cR9 (cL9 hn))))))))
  | j + 6, hj => exact absurd hj (by omega)
set_option maxRecDepth 20000 in
theorem ev_el8 {s : State} {b : Nat} (hn : narrow_1.before #[Value.ref b] s = true) : ∀ j : Nat, j < 3 → (Cond.eq (.elem (.field (tmS 8) "java/lang/String" "value" "[B") (.int (Int32.ofNat j))) (.int ((st_byt.getD 8 []).getD j 0))).before #[Value.ref b] s = true := by
  intro j hj
  match j, hj with
  | 0, _ => exact cR9 (cR9 (cL9 (cL9 (cL9 (cR9 (cL9 (cR9 (cL9 hn))))))))
  | 1, _ => exact cL9 (cL9 (cR9 (cL9 (cL9 (cR9 (cL9 (cR9 (cL9 hn))))))))
  | 2, _ => exact cR9 (cL9 (cR9 (cL9 (cL9 (cR9 (cL9 (cR9 (cL9 hn))))))))
  | j + 3, hj => exact absurd hj (by omega)
set_option maxRecDepth 20000 in
theorem ev_el9 {s : State} {b : Nat} (hn : narrow_1.before #[Value.ref b] s = true) : ∀ j : Nat, j < 4 → (Cond.eq (.elem (.field (tmS 9) "java/lang/String" "value" "[B") (.int (Int32.ofNat j))) (.int ((st_byt.getD 9 []).getD j 0))).before #[Value.ref b] s = true := by
  intro j hj
  match j, hj with
  | 0, _ => exact cL9 (cL9 (cR9 (cR9 (cR9 (cR9 (cL9 (cR9 (cL9 hn))))))))
  | 1, _ => exact cR9 (cL9 (cR9 (cR9 (cR9 (cR9 (cL9 (cR9 (cL9 hn))))))))
  | 2, _ => exact cL9 (cR9 (cR9 (cR9 (cR9 (cR9 (cL9 (cR9 (cL9 hn))))))))
  | 3, _ => exact cL9 (cR9 (cR9 (cR9 (cR9 (cR9 (cR9 (cL9 (cR9 (cL9 hn)))))))))
  | j + 4, hj => exact absurd hj (by omega)
set_option maxRecDepth 20000 in
theorem ev_el10 {s : State} {b : Nat} (hn : narrow_1.before #[Value.ref b] s = true) : ∀ j : Nat, j < 7 → (Cond.eq (.elem (.field (tmS 10) "java/lang/String" "value" "[B") (.int (Int32.ofNat j))) (.int ((st_byt.getD 10 []).getD j 0))).before #[Value.ref b] s = true := by
  intro j hj
  match j, hj with
  | 0, _ => exact cL9 (cL9 (cR9 (cR9 (cL9 (cL9 (cR9 (cR9 (cL9 hn))))))))
  | 1, _ => exact cR9 (cL9 (cR9 (cR9 (cL9 (cL9 (cR9 (cR9 (cL9 hn))))))))
  | 2, _ => exact cL9 (cR9 (cR9 (cR9 (cL9 (cL9 (cR9 (cR9 (cL9 hn))))))))
  | 3, _ => exact cL9 (cR9 (cR9 (cR9 (cR9 (cL9 (cL9 (cR9 (cR9 (cL9 hn)))))))))
  | 4, _ => exact cR9 (cR9 (cR9 (cR9 (cR9 (cL9 (cL9 (cR9 (cR9 (cL9 hn)))))))))
  | 5, _ => exact cL9 (cL9 (cL9 (cL9 (cR9 (cL9 (cR9 (cR9 (cL9 hn))))))))
  | 6, _ => exact cR9 (cL9 (cL9 (cL9 (cR9 (cL9 (cR9 (cR9 (cL9 hn))))))))
  | j + 7, hj => exact absurd hj (by omega)
set_option maxRecDepth 20000 in
theorem ev_el11 {s : State} {b : Nat} (hn : narrow_1.before #[Value.ref b] s = true) : ∀ j : Nat, j < 7 → (Cond.eq (.elem (.field (tmS 11) "java/lang/String" "value" "[B") (.int (Int32.ofNat j))) (.int ((st_byt.getD 11 []).getD j 0))).before #[Value.ref b] s = true := by
  intro j hj
  match j, hj with
  | 0, _ => exact cL9 (cR9 (cR9 (cR9 (cR9 (cR9 (cL9 (cR9 (cR9 (cL9 hn)))))))))
  | 1, _ => exact cR9 (cR9 (cR9 (cR9 (cR9 (cR9 (cL9 (cR9 (cR9 (cL9 hn)))))))))
  | 2, _ => exact cL9 (cL9 (cL9 (cL9 (cL9 (cR9 (cR9 (cR9 (cL9 hn))))))))
  | 3, _ => exact cR9 (cL9 (cL9 (cL9 (cL9 (cR9 (cR9 (cR9 (cL9 hn))))))))
  | 4, _ => exact cL9 (cR9 (cL9 (cL9 (cL9 (cR9 (cR9 (cR9 (cL9 hn))))))))
  | 5, _ => exact cR9 (cR9 (cL9 (cL9 (cL9 (cR9 (cR9 (cR9 (cL9 hn))))))))
  | 6, _ => exact cL9 (cL9 (cR9 (cL9 (cL9 (cR9 (cR9 (cR9 (cL9 hn))))))))
  | j + 7, hj => exact absurd hj (by omega)
set_option maxRecDepth 20000 in
theorem ev_el12 {s : State} {b : Nat} (hn : narrow_1.before #[Value.ref b] s = true) : ∀ j : Nat, j < 3 → (Cond.eq (.elem (.field (tmS 12) "java/lang/String" "value" "[B") (.int (Int32.ofNat j))) (.int ((st_byt.getD 12 []).getD j 0))).before #[Value.ref b] s = true := by
  intro j hj
  match j, hj with
  | 0, _ => exact cL9 (cR9 (cL9 (cL9 (cR9 (cR9 (cR9 (cR9 (cL9 hn))))))))
  | 1, _ => exact cR9 (cR9 (cL9 (cL9 (cR9 (cR9 (cR9 (cR9 (cL9 hn))))))))
  | 2, _ => exact cL9 (cL9 (cR9 (cL9 (cR9 (cR9 (cR9 (cR9 (cL9 hn))))))))
  | j + 3, hj => exact absurd hj (by omega)
set_option maxRecDepth 20000 in
theorem ev_el13 {s : State} {b : Nat} (hn : narrow_1.before #[Value.ref b] s = true) : ∀ j : Nat, j < 4 → (Cond.eq (.elem (.field (tmS 13) "java/lang/String" "value" "[B") (.int (Int32.ofNat j))) (.int ((st_byt.getD 13 []).getD j 0))).before #[Value.ref b] s = true := by
  intro j hj
  match j, hj with
  | 0, _ => exact cR9 (cR9 (cL9 (cL9 (cL9 (cL9 (cL9 (cL9 (cR9 hn))))))))
  | 1, _ => exact cL9 (cL9 (cR9 (cL9 (cL9 (cL9 (cL9 (cL9 (cR9 hn))))))))
  | 2, _ => exact cR9 (cL9 (cR9 (cL9 (cL9 (cL9 (cL9 (cL9 (cR9 hn))))))))
  | 3, _ => exact cL9 (cR9 (cR9 (cL9 (cL9 (cL9 (cL9 (cL9 (cR9 hn))))))))
  | j + 4, hj => exact absurd hj (by omega)
set_option maxRecDepth 20000 in
theorem ev_el14 {s : State} {b : Nat} (hn : narrow_1.before #[Value.ref b] s = true) : ∀ j : Nat, j < 6 → (Cond.eq (.elem (.field (tmS 14) "java/lang/String" "value" "[B") (.int (Int32.ofNat j))) (.int ((st_byt.getD 14 []).getD j 0))).before #[Value.ref b] s = true := by
  intro j hj
  match j, hj with
  | 0, _ => exact cL9 (cR9 (cR9 (cR9 (cL9 (cR9 (cL9 (cL9 (cL9 (cR9 hn)))))))))
  | 1, _ => exact cR9 (cR9 (cR9 (cR9 (cL9 (cR9 (cL9 (cL9 (cL9 (cR9 hn)))))))))
  | 2, _ => exact cL9 (cL9 (cL9 (cR9 (cR9 (cL9 (cL9 (cL9 (cR9 hn))))))))
  | 3, _ => exact cR9 (cL9 (cL9 (cR9 (cR9 (cL9 (cL9 (cL9 (cR9 hn))))))))
  | 4, _ => exact cL9 (cR9 (cL9 (cR9 (cR9 (cL9 (cL9 (cL9 (cR9 hn))))))))
  | 5, _ => exact cL9 (cR9 (cR9 (cL9 (cR9 (cR9 (cL9 (cL9 (cL9 (cR9 hn)))))))))
  | j + 6, hj => exact absurd hj (by omega)
set_option maxRecDepth 20000 in
theorem ev_el15 {s : State} {b : Nat} (hn : narrow_1.before #[Value.ref b] s = true) : ∀ j : Nat, j < 4 → (Cond.eq (.elem (.field (tmS 15) "java/lang/String" "value" "[B") (.int (Int32.ofNat j))) (.int ((st_byt.getD 15 []).getD j 0))).before #[Value.ref b] s = true := by
  intro j hj
  match j, hj with
  | 0, _ => exact cR9 (cR9 (cR9 (cL9 (cR9 (cL9 (cR9 (cL9 (cL9 (cR9 hn)))))))))
  | 1, _ => exact cL9 (cL9 (cR9 (cR9 (cL9 (cR9 (cL9 (cL9 (cR9 hn))))))))
  | 2, _ => exact cR9 (cL9 (cR9 (cR9 (cL9 (cR9 (cL9 (cL9 (cR9 hn))))))))
  | 3, _ => exact cL9 (cR9 (cR9 (cR9 (cL9 (cR9 (cL9 (cL9 (cR9 hn))))))))
  | j + 4, hj => exact absurd hj (by omega)
set_option maxRecDepth 20000 in
theorem ev_el16 {s : State} {b : Nat} (hn : narrow_1.before #[Value.ref b] s = true) : ∀ j : Nat, j < 3 → (Cond.eq (.elem (.field (tmS 16) "java/lang/String" "value" "[B") (.int (Int32.ofNat j))) (.int ((st_byt.getD 16 []).getD j 0))).before #[Value.ref b] s = true := by
  intro j hj
  match j, hj with
  | 0, _ => exact cR9 (cR9 (cR9 (cR9 (cR9 (cR9 (cR9 (cL9 (cL9 (cR9 hn)))))))))
  | 1, _ => exact cL9 (cL9 (cL9 (cL9 (cL9 (cL9 (cR9 (cL9 (cR9 hn))))))))
  | 2, _ => exact cR9 (cL9 (cL9 (cL9 (cL9 (cL9 (cR9 (cL9 (cR9 hn))))))))
  | j + 3, hj => exact absurd hj (by omega)
set_option maxRecDepth 20000 in
theorem ev_el17 {s : State} {b : Nat} (hn : narrow_1.before #[Value.ref b] s = true) : ∀ j : Nat, j < 6 → (Cond.eq (.elem (.field (tmS 17) "java/lang/String" "value" "[B") (.int (Int32.ofNat j))) (.int ((st_byt.getD 17 []).getD j 0))).before #[Value.ref b] s = true := by
  intro j hj
  match j, hj with
  | 0, _ => exact cL9 (cR9 (cL9 (cR9 (cL9 (cR9 (cR9 (cL9 (cR9 hn))))))))
  | 1, _ => exact cL9 (cR9 (cR9 (cL9 (cR9 (cL9 (cR9 (cR9 (cL9 (cR9 hn)))))))))
  | 2, _ => exact cR9 (cR9 (cR9 (cL9 (cR9 (cL9 (cR9 (cR9 (cL9 (cR9 hn)))))))))
  | 3, _ => exact cL9 (cL9 (cR9 (cR9 (cL9 (cR9 (cR9 (cL9 (cR9 hn))))))))
  | 4, _ => exact cR9 (cL9 (cR9 (cR9 (cL9 (cR9 (cR9 (cL9 (cR9 hn))))))))
  | 5, _ => exact cL9 (cR9 (cR9 (cR9 (cL9 (cR9 (cR9 (cL9 (cR9 hn))))))))
  | j + 6, hj => exact absurd hj (by omega)
set_option maxRecDepth 20000 in
theorem ev_el18 {s : State} {b : Nat} (hn : narrow_1.before #[Value.ref b] s = true) : ∀ j : Nat, j < 5 → (Cond.eq (.elem (.field (tmS 18) "java/lang/String" "value" "[B") (.int (Int32.ofNat j))) (.int ((st_byt.getD 18 []).getD j 0))).before #[Value.ref b] s = true := by
  intro j hj
  match j, hj with
  | 0, _ => exact cL9 (cR9 (cL9 (cL9 (cL9 (cL9 (cL9 (cR9 (cR9 hn))))))))
  | 1, _ => exact cR9 (cR9 (cL9 (cL9 (cL9 (cL9 (cL9 (cR9 (cR9 hn))))))))
  | 2, _ => exact cL9 (cL9 (cR9 (cL9 (cL9 (cL9 (cL9 (cR9 (cR9 hn))))))))
  | 3, _ => exact cR9 (cL9 (cR9 (cL9 (cL9 (cL9 (cL9 (cR9 (cR9 hn))))))))
  | 4, _ => exact cL9 (cR9 (cR9 (cL9 (cL9 (cL9 (cL9 (cR9 (cR9 hn))))))))
  | j + 5, hj => exact absurd hj (by omega)
set_option maxRecDepth 20000 in
theorem ev_el19 {s : State} {b : Nat} (hn : narrow_1.before #[Value.ref b] s = true) : ∀ j : Nat, j < 4 → (Cond.eq (.elem (.field (tmS 19) "java/lang/String" "value" "[B") (.int (Int32.ofNat j))) (.int ((st_byt.getD 19 []).getD j 0))).before #[Value.ref b] s = true := by
  intro j hj
  match j, hj with
  | 0, _ => exact cR9 (cR9 (cR9 (cL9 (cR9 (cR9 (cL9 (cL9 (cR9 (cR9 hn)))))))))
  | 1, _ => exact cL9 (cL9 (cR9 (cR9 (cR9 (cL9 (cL9 (cR9 (cR9 hn))))))))
  | 2, _ => exact cR9 (cL9 (cR9 (cR9 (cR9 (cL9 (cL9 (cR9 (cR9 hn))))))))
  | 3, _ => exact cL9 (cR9 (cR9 (cR9 (cR9 (cL9 (cL9 (cR9 (cR9 hn))))))))
  | j + 4, hj => exact absurd hj (by omega)
set_option maxRecDepth 20000 in
theorem ev_el20 {s : State} {b : Nat} (hn : narrow_1.before #[Value.ref b] s = true) : ∀ j : Nat, j < 5 → (Cond.eq (.elem (.field (tmS 20) "java/lang/String" "value" "[B") (.int (Int32.ofNat j))) (.int ((st_byt.getD 20 []).getD j 0))).before #[Value.ref b] s = true := by
  intro j hj
  match j, hj with
  | 0, _ => exact cL9 (cL9 (cR9 (cL9 (cR9 (cR9 (cL9 (cR9 (cR9 hn))))))))
  | 1, _ => exact cR9 (cL9 (cR9 (cL9 (cR9 (cR9 (cL9 (cR9 (cR9 hn))))))))
  | 2, _ => exact cL9 (cR9 (cR9 (cL9 (cR9 (cR9 (cL9 (cR9 (cR9 hn))))))))
  | 3, _ => exact cL9 (cR9 (cR9 (cR9 (cL9 (cR9 (cR9 (cL9 (cR9 (cR9 hn)))))))))
  | 4, _ => exact cR9 (cR9 (cR9 (cR9 (cL9 (cR9 (cR9 (cL9 (cR9 (cR9 hn)))))))))
  | j + 5, hj => exact absurd hj (by omega)
set_option maxRecDepth 20000 in
theorem ev_el21 {s : State} {b : Nat} (hn : narrow_1.before #[Value.ref b] s = true) : ∀ j : Nat, j < 4 → (Cond.eq (.elem (.field (tmS 21) "java/lang/String" "value" "[B") (.int (Int32.ofNat j))) (.int ((st_byt.getD 21 []).getD j 0))).before #[Value.ref b] s = true := by
  intro j hj
  match j, hj with
  | 0, _ => exact cL9 (cR9 (cR9 (cR9 (cR9 (cL9 (cL9 (cR9 (cR9 (cR9 hn)))))))))
  | 1, _ => exact cR9 (cR9 (cR9 (cR9 (cR9 (cL9 (cL9 (cR9 (cR9 (cR9 hn)))))))))
  | 2, _ => exact cL9 (cL9 (cL9 (cL9 (cR9 (cL9 (cR9 (cR9 (cR9 hn))))))))
  | 3, _ => exact cR9 (cL9 (cL9 (cL9 (cR9 (cL9 (cR9 (cR9 (cR9 hn))))))))
  | j + 4, hj => exact absurd hj (by omega)
set_option maxRecDepth 20000 in
theorem ev_el22 {s : State} {b : Nat} (hn : narrow_1.before #[Value.ref b] s = true) : ∀ j : Nat, j < 4 → (Cond.eq (.elem (.field (tmS 22) "java/lang/String" "value" "[B") (.int (Int32.ofNat j))) (.int ((st_byt.getD 22 []).getD j 0))).before #[Value.ref b] s = true := by
  intro j hj
  match j, hj with
  | 0, _ => exact cR9 (cL9 (cL9 (cR9 (cL9 (cR9 (cR9 (cR9 (cR9 hn))))))))
  | 1, _ => exact cL9 (cR9 (cL9 (cR9 (cL9 (cR9 (cR9 (cR9 (cR9 hn))))))))
  | 2, _ => exact cL9 (cR9 (cR9 (cL9 (cR9 (cL9 (cR9 (cR9 (cR9 (cR9 hn)))))))))
  | 3, _ => exact cR9 (cR9 (cR9 (cL9 (cR9 (cL9 (cR9 (cR9 (cR9 (cR9 hn)))))))))
  | j + 4, hj => exact absurd hj (by omega)
set_option maxRecDepth 20000 in
theorem ev_el {s : State} {b : Nat} (hn : narrow_1.before #[Value.ref b] s = true) : ∀ i : Nat, i < 23 → ∀ j : Nat, j < st_len.getD i 0 → (Cond.eq (.elem (.field (tmS i) "java/lang/String" "value" "[B") (.int (Int32.ofNat j))) (.int ((st_byt.getD i []).getD j 0))).before #[Value.ref b] s = true := by
  intro i hi
  match i, hi with
  | 0, _ => exact ev_el0 hn
  | 1, _ => exact ev_el1 hn
  | 2, _ => exact ev_el2 hn
  | 3, _ => exact ev_el3 hn
  | 4, _ => exact ev_el4 hn
  | 5, _ => exact ev_el5 hn
  | 6, _ => exact ev_el6 hn
  | 7, _ => exact ev_el7 hn
  | 8, _ => exact ev_el8 hn
  | 9, _ => exact ev_el9 hn
  | 10, _ => exact ev_el10 hn
  | 11, _ => exact ev_el11 hn
  | 12, _ => exact ev_el12 hn
  | 13, _ => exact ev_el13 hn
  | 14, _ => exact ev_el14 hn
  | 15, _ => exact ev_el15 hn
  | 16, _ => exact ev_el16 hn
  | 17, _ => exact ev_el17 hn
  | 18, _ => exact ev_el18 hn
  | 19, _ => exact ev_el19 hn
  | 20, _ => exact ev_el20 hn
  | 21, _ => exact ev_el21 hn
  | 22, _ => exact ev_el22 hn
  | i + 23, hi => exact absurd hi (by omega)
set_option maxRecDepth 20000 in
theorem ev_ne1 {s : State} {b : Nat} (hn : narrow_1.before #[Value.ref b] s = true) : ∀ i : Nat, i < 1 → (Cond.not (Cond.eq (tmS i) (tmS 1))).before #[Value.ref b] s = true ∨ (Cond.not (Cond.eq (tmS 1) (tmS i))).before #[Value.ref b] s = true := by
  intro i hi
  match i, hi with
  | 0, _ => exact Or.inl (cR9 (cR9 (cR9 (cL9 (cR9 (cR9 (cL9 (cL9 (cL9 (cL9 hn))))))))))
  | i + 1, hi => exact absurd hi (by omega)
set_option maxRecDepth 20000 in
theorem ev_ne2 {s : State} {b : Nat} (hn : narrow_1.before #[Value.ref b] s = true) : ∀ i : Nat, i < 2 → (Cond.not (Cond.eq (tmS i) (tmS 2))).before #[Value.ref b] s = true ∨ (Cond.not (Cond.eq (tmS 2) (tmS i))).before #[Value.ref b] s = true := by
  intro i hi
  match i, hi with
  | 0, _ => exact Or.inl (cL9 (cR9 (cR9 (cR9 (cL9 (cL9 (cL9 (cR9 (cL9 (cL9 hn))))))))))
  | 1, _ => exact Or.inl (cR9 (cR9 (cR9 (cR9 (cL9 (cL9 (cL9 (cR9 (cL9 (cL9 hn))))))))))
  | i + 2, hi => exact absurd hi (by omega)
set_option maxRecDepth 20000 in
theorem ev_ne3 {s : State} {b : Nat} (hn : narrow_1.before #[Value.ref b] s = true) : ∀ i : Nat, i < 3 → (Cond.not (Cond.eq (tmS i) (tmS 3))).before #[Value.ref b] s = true ∨ (Cond.not (Cond.eq (tmS 3) (tmS i))).before #[Value.ref b] s = true := by
  intro i hi
  match i, hi with
  | 0, _ => exact Or.inl (cL9 (cR9 (cR9 (cR9 (cR9 (cL9 (cL9 (cR9 (cL9 (cL9 hn))))))))))
  | 1, _ => exact Or.inl (cR9 (cR9 (cR9 (cR9 (cR9 (cL9 (cL9 (cR9 (cL9 (cL9 hn))))))))))
  | 2, _ => exact Or.inl (cL9 (cL9 (cL9 (cL9 (cR9 (cL9 (cR9 (cL9 (cL9 hn)))))))))
  | i + 3, hi => exact absurd hi (by omega)
set_option maxRecDepth 20000 in
theorem ev_ne4 {s : State} {b : Nat} (hn : narrow_1.before #[Value.ref b] s = true) : ∀ i : Nat, i < 4 → (Cond.not (Cond.eq (tmS i) (tmS 4))).before #[Value.ref b] s = true ∨ (Cond.not (Cond.eq (tmS 4) (tmS i))).before #[Value.ref b] s = true := by
  intro i hi
  match i, hi with
  | 0, _ => exact Or.inl (cL9 (cR9 (cR9 (cR9 (cL9 (cR9 (cR9 (cL9 (cL9 hn)))))))))
  | 1, _ => exact Or.inl (cL9 (cR9 (cR9 (cR9 (cR9 (cL9 (cR9 (cR9 (cL9 (cL9 hn))))))))))
  | 2, _ => exact Or.inl (cR9 (cR9 (cR9 (cR9 (cR9 (cL9 (cR9 (cR9 (cL9 (cL9 hn))))))))))
  | 3, _ => exact Or.inl (cL9 (cL9 (cL9 (cL9 (cR9 (cR9 (cR9 (cL9 (cL9 hn)))))))))
  | i + 4, hi => exact absurd hi (by omega)
set_option maxRecDepth 20000 in
theorem ev_ne5 {s : State} {b : Nat} (hn : narrow_1.before #[Value.ref b] s = true) : ∀ i : Nat, i < 5 → (Cond.not (Cond.eq (tmS i) (tmS 5))).before #[Value.ref b] s = true ∨ (Cond.not (Cond.eq (tmS 5) (tmS i))).before #[Value.ref b] s = true := by
  intro i hi
  match i, hi with
  | 0, _ => exact Or.inl (cR9 (cL9 (cL9 (cL9 (cL9 (cL9 (cL9 (cR9 (cL9 hn)))))))))
  | 1, _ => exact Or.inl (cL9 (cR9 (cL9 (cL9 (cL9 (cL9 (cL9 (cR9 (cL9 hn)))))))))
  | 2, _ => exact Or.inl (cR9 (cR9 (cL9 (cL9 (cL9 (cL9 (cL9 (cR9 (cL9 hn)))))))))
  | 3, _ => exact Or.inl (cL9 (cL9 (cR9 (cL9 (cL9 (cL9 (cL9 (cR9 (cL9 hn)))))))))
  | 4, _ => exact Or.inl (cR9 (cL9 (cR9 (cL9 (cL9 (cL9 (cL9 (cR9 (cL9 hn)))))))))
  | i + 5, hi => exact absurd hi (by omega)
set_option maxRecDepth 20000 in
theorem ev_ne6 {s : State} {b : Nat} (hn : narrow_1.before #[Value.ref b] s = true) : ∀ i : Nat, i < 6 → (Cond.not (Cond.eq (tmS i) (tmS 6))).before #[Value.ref b] s = true ∨ (Cond.not (Cond.eq (tmS 6) (tmS i))).before #[Value.ref b] s = true := by
  intro i hi
  match i, hi with
  | 0, _ => exact Or.inl (cL9 (cL9 (cR9 (cR9 (cL9 (cL9 (cL9 (cR9 (cL9 hn)))))))))
  | 1, _ => exact Or.inl (cR9 (cL9 (cR9 (cR9 (cL9 (cL9 (cL9 (cR9 (cL9 hn)))))))))
  | 2, _ => exact Or.inl (cL9 (cR9 (cR9 (cR9 (cL9 (cL9 (cL9 (cR9 (cL9 hn)))))))))
  | 3, _ => exact Or.inl (cL9 (cR9 (cR9 (cR9 (cR9 (cL9 (cL9 (cL9 (cR9 (cL9 hn))))))))))
  | 4, _ => exact Or.inl (cR9 (cR9 (cR9 (cR9 (cR9 (cL9 (cL9 (cL9 (cR9 (cL9 hn))))))))))
  | 5, _ => exact Or.inl (cL9 (cL9 (cL9 (cL9 (cR9 (cL9 (cL9 (cR9 (cL9 hn)))))))))
  | i + 6, hi => exact absurd hi (by omega)
set_option maxRecDepth 20000 in
theorem ev_ne7 {s : State} {b : Nat} (hn : narrow_1.before #[Value.ref b] s = true) : ∀ i : Nat, i < 7 → (Cond.not (Cond.eq (tmS i) (tmS 7))).before #[Value.ref b] s = true ∨ (Cond.not (Cond.eq (tmS 7) (tmS i))).before #[Value.ref b] s = true := by
  intro i hi
  match i, hi with
  | 0, _ => exact Or.inl (cL9 (cR9 (cL9 (cR9 (cR9 (cL9 (cL9 (cR9 (cL9 hn)))))))))
  | 1, _ => exact Or.inl (cL9 (cR9 (cR9 (cL9 (cR9 (cR9 (cL9 (cL9 (cR9 (cL9 hn))))))))))
  | 2, _ => exact Or.inl (cR9 (cR9 (cR9 (cL9 (cR9 (cR9 (cL9 (cL9 (cR9 (cL9 hn))))))))))
  | 3, _ => exact Or.inl (cL9 (cL9 (cR9 (cR9 (cR9 (cL9 (cL9 (cR9 (cL9 hn)))))))))
  | 4, _ => exact Or.inl (cR9 (cL9 (cR9 (cR9 (cR9 (cL9 (cL9 (cR9 (cL9 hn)))))))))
  | 5, _ => exact Or.inl (cL9 (cR9 (cR9 (cR9 (cR9 (cL9 (cL9 (cR9 (cL9 hn)))))))))
  | 6, _ => exact Or.inl (cL9 (cR9 (cR9 (cR9 (cR9 (cR9 (cL9 (cL9 (cR9 (cL9 hn))))))))))
  | i + 7, hi => exact absurd hi (by omega)
set_option maxRecDepth 20000 in
theorem ev_ne8 {s : State} {b : Nat} (hn : narrow_1.before #[Value.ref b] s = true) : ∀ i : Nat, i < 8 → (Cond.not (Cond.eq (tmS i) (tmS 8))).before #[Value.ref b] s = true ∨ (Cond.not (Cond.eq (tmS 8) (tmS i))).before #[Value.ref b] s = true := by
  intro i hi
  match i, hi with
  | 0, _ => exact Or.inl (cL9 (cR9 (cR9 (cL9 (cL9 (cR9 (cL9 (cR9 (cL9 hn)))))))))
  | 1, _ => exact Or.inl (cL9 (cR9 (cR9 (cR9 (cL9 (cL9 (cR9 (cL9 (cR9 (cL9 hn))))))))))
  | 2, _ => exact Or.inl (cR9 (cR9 (cR9 (cR9 (cL9 (cL9 (cR9 (cL9 (cR9 (cL9 hn))))))))))
  | 3, _ => exact Or.inl (cL9 (cL9 (cL9 (cR9 (cL9 (cR9 (cL9 (cR9 (cL9 hn)))))))))
  | 4, _ => exact Or.inl (cR9 (cL9 (cL9 (cR9 (cL9 (cR9 (cL9 (cR9 (cL9 hn)))))))))
  | 5, _ => exact Or.inl (cL9 (cR9 (cL9 (cR9 (cL9 (cR9 (cL9 (cR9 (cL9 hn)))))))))
  | 6, _ => exact Or.inl (cL9 (cR9 (cR9 (cL9 (cR9 (cL9 (cR9 (cL9 (cR9 (cL9 hn))))))))))
  | 7, _ => exact Or.inl (cR9 (cR9 (cR9 (cL9 (cR9 (cL9 (cR9 (cL9 (cR9 (cL9 hn))))))))))
  | i + 8, hi => exact absurd hi (by omega)
set_option maxRecDepth 20000 in
theorem ev_ne9 {s : State} {b : Nat} (hn : narrow_1.before #[Value.ref b] s = true) : ∀ i : Nat, i < 9 → (Cond.not (Cond.eq (tmS i) (tmS 9))).before #[Value.ref b] s = true ∨ (Cond.not (Cond.eq (tmS 9) (tmS i))).before #[Value.ref b] s = true := by
  intro i hi
  match i, hi with
  | 0, _ => exact Or.inl (cR9 (cR9 (cR9 (cR9 (cR9 (cR9 (cR9 (cL9 (cR9 (cL9 hn))))))))))
  | 1, _ => exact Or.inl (cL9 (cL9 (cL9 (cL9 (cL9 (cL9 (cR9 (cR9 (cL9 hn)))))))))
  | 2, _ => exact Or.inl (cR9 (cL9 (cL9 (cL9 (cL9 (cL9 (cR9 (cR9 (cL9 hn)))))))))
  | 3, _ => exact Or.inl (cL9 (cR9 (cL9 (cL9 (cL9 (cL9 (cR9 (cR9 (cL9 hn)))))))))
  | 4, _ => exact Or.inl (cR9 (cR9 (cL9 (cL9 (cL9 (cL9 (cR9 (cR9 (cL9 hn)))))))))
  | 5, _ => exact Or.inl (cL9 (cL9 (cR9 (cL9 (cL9 (cL9 (cR9 (cR9 (cL9 hn)))))))))
  | 6, _ => exact Or.inl (cR9 (cL9 (cR9 (cL9 (cL9 (cL9 (cR9 (cR9 (cL9 hn)))))))))
  | 7, _ => exact Or.inl (cL9 (cR9 (cR9 (cL9 (cL9 (cL9 (cR9 (cR9 (cL9 hn)))))))))
  | 8, _ => exact Or.inl (cL9 (cR9 (cR9 (cR9 (cL9 (cL9 (cL9 (cR9 (cR9 (cL9 hn))))))))))
  | i + 9, hi => exact absurd hi (by omega)
set_option maxRecDepth 20000 in
theorem ev_ne10 {s : State} {b : Nat} (hn : narrow_1.before #[Value.ref b] s = true) : ∀ i : Nat, i < 10 → (Cond.not (Cond.eq (tmS i) (tmS 10))).before #[Value.ref b] s = true ∨ (Cond.not (Cond.eq (tmS 10) (tmS i))).before #[Value.ref b] s = true := by
  intro i hi
  match i, hi with
  | 0, _ => exact Or.inl (cL9 (cR9 (cL9 (cL9 (cR9 (cL9 (cR9 (cR9 (cL9 hn)))))))))
  | 1, _ => exact Or.inl (cR9 (cR9 (cL9 (cL9 (cR9 (cL9 (cR9 (cR9 (cL9 hn)))))))))
  | 2, _ => exact Or.inl (cL9 (cL9 (cR9 (cL9 (cR9 (cL9 (cR9 (cR9 (cL9 hn)))))))))
  | 3, _ => exact Or.inl (cR9 (cL9 (cR9 (cL9 (cR9 (cL9 (cR9 (cR9 (cL9 hn)))))))))
  | 4, _ => exact Or.inl (cL9 (cR9 (cR9 (cL9 (cR9 (cL9 (cR9 (cR9 (cL9 hn)))))))))
  | 5, _ => exact Or.inl (cL9 (cR9 (cR9 (cR9 (cL9 (cR9 (cL9 (cR9 (cR9 (cL9 hn))))))))))
  | 6, _ => exact Or.inl (cR9 (cR9 (cR9 (cR9 (cL9 (cR9 (cL9 (cR9 (cR9 (cL9 hn))))))))))
  | 7, _ => exact Or.inl (cL9 (cL9 (cL9 (cR9 (cR9 (cL9 (cR9 (cR9 (cL9 hn)))))))))
  | 8, _ => exact Or.inl (cR9 (cL9 (cL9 (cR9 (cR9 (cL9 (cR9 (cR9 (cL9 hn)))))))))
  | 9, _ => exact Or.inl (cL9 (cR9 (cR9 (cL9 (cR9 (cR9 (cL9 (cR9 (cR9 (cL9 hn))))))))))
  | i + 10, hi => exact absurd hi (by omega)
set_option maxRecDepth 20000 in
theorem ev_ne11 {s : State} {b : Nat} (hn : narrow_1.before #[Value.ref b] s = true) : ∀ i : Nat, i < 11 → (Cond.not (Cond.eq (tmS i) (tmS 11))).before #[Value.ref b] s = true ∨ (Cond.not (Cond.eq (tmS 11) (tmS i))).before #[Value.ref b] s = true := by
  intro i hi
  match i, hi with
  | 0, _ => exact Or.inl (cR9 (cL9 (cR9 (cL9 (cL9 (cR9 (cR9 (cR9 (cL9 hn)))))))))
  | 1, _ => exact Or.inl (cL9 (cR9 (cR9 (cL9 (cL9 (cR9 (cR9 (cR9 (cL9 hn)))))))))
  | 2, _ => exact Or.inl (cL9 (cR9 (cR9 (cR9 (cL9 (cL9 (cR9 (cR9 (cR9 (cL9 hn))))))))))
  | 3, _ => exact Or.inl (cR9 (cR9 (cR9 (cR9 (cL9 (cL9 (cR9 (cR9 (cR9 (cL9 hn))))))))))
  | 4, _ => exact Or.inl (cL9 (cL9 (cL9 (cR9 (cL9 (cR9 (cR9 (cR9 (cL9 hn)))))))))
  | 5, _ => exact Or.inl (cR9 (cL9 (cL9 (cR9 (cL9 (cR9 (cR9 (cR9 (cL9 hn)))))))))
  | 6, _ => exact Or.inl (cL9 (cR9 (cL9 (cR9 (cL9 (cR9 (cR9 (cR9 (cL9 hn)))))))))
  | 7, _ => exact Or.inl (cL9 (cR9 (cR9 (cL9 (cR9 (cL9 (cR9 (cR9 (cR9 (cL9 hn))))))))))
  | 8, _ => exact Or.inl (cR9 (cR9 (cR9 (cL9 (cR9 (cL9 (cR9 (cR9 (cR9 (cL9 hn))))))))))
  | 9, _ => exact Or.inl (cR9 (cL9 (cR9 (cR9 (cL9 (cR9 (cR9 (cR9 (cL9 hn)))))))))
  | 10, _ => exact Or.inl (cL9 (cR9 (cR9 (cR9 (cL9 (cR9 (cR9 (cR9 (cL9 hn)))))))))
  | i + 11, hi => exact absurd hi (by omega)
set_option maxRecDepth 20000 in
theorem ev_ne12 {s : State} {b : Nat} (hn : narrow_1.before #[Value.ref b] s = true) : ∀ i : Nat, i < 12 → (Cond.not (Cond.eq (tmS i) (tmS 12))).before #[Value.ref b] s = true ∨ (Cond.not (Cond.eq (tmS 12) (tmS i))).before #[Value.ref b] s = true := by
  intro i hi
  match i, hi with
  | 0, _ => exact Or.inl (cR9 (cL9 (cR9 (cL9 (cR9 (cR9 (cR9 (cR9 (cL9 hn)))))))))
  | 1, _ => exact Or.inl (cL9 (cR9 (cR9 (cL9 (cR9 (cR9 (cR9 (cR9 (cL9 hn)))))))))
  | 2, _ => exact Or.inl (cL9 (cR9 (cR9 (cR9 (cL9 (cR9 (cR9 (cR9 (cR9 (cL9 hn))))))))))
  | 3, _ => exact Or.inl (cR9 (cR9 (cR9 (cR9 (cL9 (cR9 (cR9 (cR9 (cR9 (cL9 hn))))))))))
  | 4, _ => exact Or.inl (cL9 (cL9 (cL9 (cR9 (cR9 (cR9 (cR9 (cR9 (cL9 hn)))))))))
  | 5, _ => exact Or.inl (cR9 (cL9 (cL9 (cR9 (cR9 (cR9 (cR9 (cR9 (cL9 hn)))))))))
  | 6, _ => exact Or.inl (cL9 (cR9 (cL9 (cR9 (cR9 (cR9 (cR9 (cR9 (cL9 hn)))))))))
  | 7, _ => exact Or.inl (cL9 (cR9 (cR9 (cL9 (cR9 (cR9 (cR9 (cR9 (cR9 (cL9 hn))))))))))
  | 8, _ => exact Or.inl (cR9 (cR9 (cR9 (cL9 (cR9 (cR9 (cR9 (cR9 (cR9 (cL9 hn))))))))))
  | 9, _ => exact Or.inl (cR9 (cL9 (cR9 (cR9 (cR9 (cR9 (cR9 (cR9 (cL9 hn)))))))))
  | 10, _ => exact Or.inl (cL9 (cR9 (cR9 (cR9 (cR9 (cR9 (cR9 (cR9 (cL9 hn)))))))))
  | 11, _ => exact Or.inl (cL9 (cR9 (cR9 (cR9 (cR9 (cR9 (cR9 (cR9 (cR9 (cL9 hn))))))))))
  | i + 12, hi => exact absurd hi (by omega)
set_option maxRecDepth 20000 in
theorem ev_ne13 {s : State} {b : Nat} (hn : narrow_1.before #[Value.ref b] s = true) : ∀ i : Nat, i < 13 → (Cond.not (Cond.eq (tmS i) (tmS 13))).before #[Value.ref b] s = true ∨ (Cond.not (Cond.eq (tmS 13) (tmS i))).before #[Value.ref b] s = true := by
  intro i hi
  match i, hi with
  | 0, _ => exact Or.inl (cL9 (cR9 (cR9 (cR9 (cL9 (cL9 (cL9 (cL9 (cL9 (cR9 hn))))))))))
  | 1, _ => exact Or.inl (cR9 (cR9 (cR9 (cR9 (cL9 (cL9 (cL9 (cL9 (cL9 (cR9 hn))))))))))
  | 2, _ => exact Or.inl (cL9 (cL9 (cL9 (cR9 (cL9 (cL9 (cL9 (cL9 (cR9 hn)))))))))
  | 3, _ => exact Or.inl (cR9 (cL9 (cL9 (cR9 (cL9 (cL9 (cL9 (cL9 (cR9 hn)))))))))
  | 4, _ => exact Or.inl (cL9 (cR9 (cL9 (cR9 (cL9 (cL9 (cL9 (cL9 (cR9 hn)))))))))
  | 5, _ => exact Or.inl (cR9 (cR9 (cL9 (cR9 (cL9 (cL9 (cL9 (cL9 (cR9 hn)))))))))
  | 6, _ => exact Or.inl (cL9 (cL9 (cR9 (cR9 (cL9 (cL9 (cL9 (cL9 (cR9 hn)))))))))
  | 7, _ => exact Or.inl (cR9 (cL9 (cR9 (cR9 (cL9 (cL9 (cL9 (cL9 (cR9 hn)))))))))
  | 8, _ => exact Or.inl (cL9 (cR9 (cR9 (cR9 (cL9 (cL9 (cL9 (cL9 (cR9 hn)))))))))
  | 9, _ => exact Or.inl (cR9 (cR9 (cR9 (cR9 (cR9 (cL9 (cL9 (cL9 (cL9 (cR9 hn))))))))))
  | 10, _ => exact Or.inl (cL9 (cL9 (cL9 (cL9 (cR9 (cL9 (cL9 (cL9 (cR9 hn)))))))))
  | 11, _ => exact Or.inl (cR9 (cL9 (cL9 (cL9 (cR9 (cL9 (cL9 (cL9 (cR9 hn)))))))))
  | 12, _ => exact Or.inl (cL9 (cR9 (cL9 (cL9 (cR9 (cL9 (cL9 (cL9 (cR9 hn)))))))))
  | i + 13, hi => exact absurd hi (by omega)
set_option maxRecDepth 20000 in
theorem ev_ne14 {s : State} {b : Nat} (hn : narrow_1.before #[Value.ref b] s = true) : ∀ i : Nat, i < 14 → (Cond.not (Cond.eq (tmS i) (tmS 14))).before #[Value.ref b] s = true ∨ (Cond.not (Cond.eq (tmS 14) (tmS i))).before #[Value.ref b] s = true := by
  intro i hi
  match i, hi with
  | 0, _ => exact Or.inl (cR9 (cR9 (cR9 (cL9 (cR9 (cR9 (cL9 (cL9 (cL9 (cR9 hn))))))))))
  | 1, _ => exact Or.inl (cL9 (cL9 (cR9 (cR9 (cR9 (cL9 (cL9 (cL9 (cR9 hn)))))))))
  | 2, _ => exact Or.inl (cR9 (cL9 (cR9 (cR9 (cR9 (cL9 (cL9 (cL9 (cR9 hn)))))))))
  | 3, _ => exact Or.inl (cL9 (cR9 (cR9 (cR9 (cR9 (cL9 (cL9 (cL9 (cR9 hn)))))))))
  | 4, _ => exact Or.inl (cL9 (cR9 (cR9 (cR9 (cR9 (cR9 (cL9 (cL9 (cL9 (cR9 hn))))))))))
  | 5, _ => exact Or.inl (cR9 (cR9 (cR9 (cR9 (cR9 (cR9 (cL9 (cL9 (cL9 (cR9 hn))))))))))
  | 6, _ => exact Or.inl (cL9 (cL9 (cL9 (cL9 (cL9 (cR9 (cL9 (cL9 (cR9 hn)))))))))
  | 7, _ => exact Or.inl (cR9 (cL9 (cL9 (cL9 (cL9 (cR9 (cL9 (cL9 (cR9 hn)))))))))
  | 8, _ => exact Or.inl (cL9 (cR9 (cL9 (cL9 (cL9 (cR9 (cL9 (cL9 (cR9 hn)))))))))
  | 9, _ => exact Or.inl (cL9 (cL9 (cR9 (cL9 (cL9 (cR9 (cL9 (cL9 (cR9 hn)))))))))
  | 10, _ => exact Or.inl (cR9 (cL9 (cR9 (cL9 (cL9 (cR9 (cL9 (cL9 (cR9 hn)))))))))
  | 11, _ => exact Or.inl (cL9 (cR9 (cR9 (cL9 (cL9 (cR9 (cL9 (cL9 (cR9 hn)))))))))
  | 12, _ => exact Or.inl (cL9 (cR9 (cR9 (cR9 (cL9 (cL9 (cR9 (cL9 (cL9 (cR9 hn))))))))))
  | 13, _ => exact Or.inl (cR9 (cR9 (cR9 (cR9 (cL9 (cL9 (cR9 (cL9 (cL9 (cR9 hn))))))))))
  | i + 14, hi => exact absurd hi (by omega)
set_option maxRecDepth 20000 in
theorem ev_ne15 {s : State} {b : Nat} (hn : narrow_1.before #[Value.ref b] s = true) : ∀ i : Nat, i < 15 → (Cond.not (Cond.eq (tmS i) (tmS 15))).before #[Value.ref b] s = true ∨ (Cond.not (Cond.eq (tmS 15) (tmS i))).before #[Value.ref b] s = true := by
  intro i hi
  match i, hi with
  | 0, _ => exact Or.inl (cL9 (cR9 (cR9 (cR9 (cR9 (cL9 (cR9 (cL9 (cL9 (cR9 hn))))))))))
  | 1, _ => exact Or.inl (cR9 (cR9 (cR9 (cR9 (cR9 (cL9 (cR9 (cL9 (cL9 (cR9 hn))))))))))
  | 2, _ => exact Or.inl (cL9 (cL9 (cL9 (cL9 (cR9 (cR9 (cL9 (cL9 (cR9 hn)))))))))
  | 3, _ => exact Or.inl (cR9 (cL9 (cL9 (cL9 (cR9 (cR9 (cL9 (cL9 (cR9 hn)))))))))
  | 4, _ => exact Or.inl (cL9 (cR9 (cL9 (cL9 (cR9 (cR9 (cL9 (cL9 (cR9 hn)))))))))
  | 5, _ => exact Or.inl (cR9 (cR9 (cL9 (cL9 (cR9 (cR9 (cL9 (cL9 (cR9 hn)))))))))
  | 6, _ => exact Or.inl (cL9 (cL9 (cR9 (cL9 (cR9 (cR9 (cL9 (cL9 (cR9 hn)))))))))
  | 7, _ => exact Or.inl (cR9 (cL9 (cR9 (cL9 (cR9 (cR9 (cL9 (cL9 (cR9 hn)))))))))
  | 8, _ => exact Or.inl (cL9 (cR9 (cR9 (cL9 (cR9 (cR9 (cL9 (cL9 (cR9 hn)))))))))
  | 9, _ => exact Or.inl (cR9 (cR9 (cR9 (cR9 (cL9 (cR9 (cR9 (cL9 (cL9 (cR9 hn))))))))))
  | 10, _ => exact Or.inl (cL9 (cL9 (cL9 (cR9 (cR9 (cR9 (cL9 (cL9 (cR9 hn)))))))))
  | 11, _ => exact Or.inl (cR9 (cL9 (cL9 (cR9 (cR9 (cR9 (cL9 (cL9 (cR9 hn)))))))))
  | 12, _ => exact Or.inl (cL9 (cR9 (cL9 (cR9 (cR9 (cR9 (cL9 (cL9 (cR9 hn)))))))))
  | 13, _ => exact Or.inl (cL9 (cR9 (cR9 (cL9 (cR9 (cR9 (cR9 (cL9 (cL9 (cR9 hn))))))))))
  | 14, _ => exact Or.inl (cR9 (cR9 (cR9 (cL9 (cR9 (cR9 (cR9 (cL9 (cL9 (cR9 hn))))))))))
  | i + 15, hi => exact absurd hi (by omega)
set_option maxRecDepth 20000 in
theorem ev_ne16 {s : State} {b : Nat} (hn : narrow_1.before #[Value.ref b] s = true) : ∀ i : Nat, i < 16 → (Cond.not (Cond.eq (tmS i) (tmS 16))).before #[Value.ref b] s = true ∨ (Cond.not (Cond.eq (tmS 16) (tmS i))).before #[Value.ref b] s = true := by
  intro i hi
  match i, hi with
  | 0, _ => exact Or.inl (cL9 (cR9 (cL9 (cL9 (cL9 (cL9 (cR9 (cL9 (cR9 hn)))))))))
  | 1, _ => exact Or.inl (cR9 (cR9 (cL9 (cL9 (cL9 (cL9 (cR9 (cL9 (cR9 hn)))))))))
  | 2, _ => exact Or.inl (cL9 (cL9 (cR9 (cL9 (cL9 (cL9 (cR9 (cL9 (cR9 hn)))))))))
  | 3, _ => exact Or.inl (cR9 (cL9 (cR9 (cL9 (cL9 (cL9 (cR9 (cL9 (cR9 hn)))))))))
  | 4, _ => exact Or.inl (cL9 (cR9 (cR9 (cL9 (cL9 (cL9 (cR9 (cL9 (cR9 hn)))))))))
  | 5, _ => exact Or.inl (cL9 (cR9 (cR9 (cR9 (cL9 (cL9 (cL9 (cR9 (cL9 (cR9 hn))))))))))
  | 6, _ => exact Or.inl (cR9 (cR9 (cR9 (cR9 (cL9 (cL9 (cL9 (cR9 (cL9 (cR9 hn))))))))))
  | 7, _ => exact Or.inl (cL9 (cL9 (cL9 (cR9 (cL9 (cL9 (cR9 (cL9 (cR9 hn)))))))))
  | 8, _ => exact Or.inl (cR9 (cL9 (cL9 (cR9 (cL9 (cL9 (cR9 (cL9 (cR9 hn)))))))))
  | 9, _ => exact Or.inl (cR9 (cR9 (cL9 (cR9 (cL9 (cL9 (cR9 (cL9 (cR9 hn)))))))))
  | 10, _ => exact Or.inl (cL9 (cL9 (cR9 (cR9 (cL9 (cL9 (cR9 (cL9 (cR9 hn)))))))))
  | 11, _ => exact Or.inl (cR9 (cL9 (cR9 (cR9 (cL9 (cL9 (cR9 (cL9 (cR9 hn)))))))))
  | 12, _ => exact Or.inl (cL9 (cR9 (cR9 (cR9 (cL9 (cL9 (cR9 (cL9 (cR9 hn)))))))))
  | 13, _ => exact Or.inl (cL9 (cR9 (cR9 (cR9 (cR9 (cL9 (cL9 (cR9 (cL9 (cR9 hn))))))))))
  | 14, _ => exact Or.inl (cR9 (cR9 (cR9 (cR9 (cR9 (cL9 (cL9 (cR9 (cL9 (cR9 hn))))))))))
  | 15, _ => exact Or.inl (cL9 (cL9 (cL9 (cL9 (cR9 (cL9 (cR9 (cL9 (cR9 hn)))))))))
  | i + 16, hi => exact absurd hi (by omega)
set_option maxRecDepth 20000 in
theorem ev_ne17 {s : State} {b : Nat} (hn : narrow_1.before #[Value.ref b] s = true) : ∀ i : Nat, i < 17 → (Cond.not (Cond.eq (tmS i) (tmS 17))).before #[Value.ref b] s = true ∨ (Cond.not (Cond.eq (tmS 17) (tmS i))).before #[Value.ref b] s = true := by
  intro i hi
  match i, hi with
  | 0, _ => exact Or.inl (cL9 (cR9 (cR9 (cR9 (cR9 (cL9 (cR9 (cR9 (cL9 (cR9 hn))))))))))
  | 1, _ => exact Or.inl (cR9 (cR9 (cR9 (cR9 (cR9 (cL9 (cR9 (cR9 (cL9 (cR9 hn))))))))))
  | 2, _ => exact Or.inl (cL9 (cL9 (cL9 (cL9 (cR9 (cR9 (cR9 (cL9 (cR9 hn)))))))))
  | 3, _ => exact Or.inl (cR9 (cL9 (cL9 (cL9 (cR9 (cR9 (cR9 (cL9 (cR9 hn)))))))))
  | 4, _ => exact Or.inl (cL9 (cR9 (cL9 (cL9 (cR9 (cR9 (cR9 (cL9 (cR9 hn)))))))))
  | 5, _ => exact Or.inl (cR9 (cR9 (cL9 (cL9 (cR9 (cR9 (cR9 (cL9 (cR9 hn)))))))))
  | 6, _ => exact Or.inl (cL9 (cL9 (cR9 (cL9 (cR9 (cR9 (cR9 (cL9 (cR9 hn)))))))))
  | 7, _ => exact Or.inl (cR9 (cL9 (cR9 (cL9 (cR9 (cR9 (cR9 (cL9 (cR9 hn)))))))))
  | 8, _ => exact Or.inl (cL9 (cR9 (cR9 (cL9 (cR9 (cR9 (cR9 (cL9 (cR9 hn)))))))))
  | 9, _ => exact Or.inl (cR9 (cR9 (cR9 (cR9 (cL9 (cR9 (cR9 (cR9 (cL9 (cR9 hn))))))))))
  | 10, _ => exact Or.inl (cL9 (cL9 (cL9 (cR9 (cR9 (cR9 (cR9 (cL9 (cR9 hn)))))))))
  | 11, _ => exact Or.inl (cR9 (cL9 (cL9 (cR9 (cR9 (cR9 (cR9 (cL9 (cR9 hn)))))))))
  | 12, _ => exact Or.inl (cL9 (cR9 (cL9 (cR9 (cR9 (cR9 (cR9 (cL9 (cR9 hn)))))))))
  | 13, _ => exact Or.inl (cL9 (cR9 (cR9 (cL9 (cR9 (cR9 (cR9 (cR9 (cL9 (cR9 hn))))))))))
  | 14, _ => exact Or.inl (cR9 (cR9 (cR9 (cL9 (cR9 (cR9 (cR9 (cR9 (cL9 (cR9 hn))))))))))
  | 15, _ => exact Or.inl (cL9 (cL9 (cR9 (cR9 (cR9 (cR9 (cR9 (cL9 (cR9 hn)))))))))
  | 16, _ => exact Or.inl (cR9 (cL9 (cR9 (cR9 (cR9 (cR9 (cR9 (cL9 (cR9 hn)))))))))
  | i + 17, hi => exact absurd hi (by omega)
set_option maxRecDepth 20000 in
theorem ev_ne18 {s : State} {b : Nat} (hn : narrow_1.before #[Value.ref b] s = true) : ∀ i : Nat, i < 18 → (Cond.not (Cond.eq (tmS i) (tmS 18))).before #[Value.ref b] s = true ∨ (Cond.not (Cond.eq (tmS 18) (tmS i))).before #[Value.ref b] s = true := by
  intro i hi
  match i, hi with
  | 0, _ => exact Or.inl (cL9 (cR9 (cR9 (cR9 (cL9 (cL9 (cL9 (cL9 (cR9 (cR9 hn))))))))))
  | 1, _ => exact Or.inl (cR9 (cR9 (cR9 (cR9 (cL9 (cL9 (cL9 (cL9 (cR9 (cR9 hn))))))))))
  | 2, _ => exact Or.inl (cL9 (cL9 (cL9 (cR9 (cL9 (cL9 (cL9 (cR9 (cR9 hn)))))))))
  | 3, _ => exact Or.inl (cR9 (cL9 (cL9 (cR9 (cL9 (cL9 (cL9 (cR9 (cR9 hn)))))))))
  | 4, _ => exact Or.inl (cL9 (cR9 (cL9 (cR9 (cL9 (cL9 (cL9 (cR9 (cR9 hn)))))))))
  | 5, _ => exact Or.inl (cR9 (cR9 (cL9 (cR9 (cL9 (cL9 (cL9 (cR9 (cR9 hn)))))))))
  | 6, _ => exact Or.inl (cL9 (cL9 (cR9 (cR9 (cL9 (cL9 (cL9 (cR9 (cR9 hn)))))))))
  | 7, _ => exact Or.inl (cR9 (cL9 (cR9 (cR9 (cL9 (cL9 (cL9 (cR9 (cR9 hn)))))))))
  | 8, _ => exact Or.inl (cL9 (cR9 (cR9 (cR9 (cL9 (cL9 (cL9 (cR9 (cR9 hn)))))))))
  | 9, _ => exact Or.inl (cR9 (cR9 (cR9 (cR9 (cR9 (cL9 (cL9 (cL9 (cR9 (cR9 hn))))))))))
  | 10, _ => exact Or.inl (cL9 (cL9 (cL9 (cL9 (cR9 (cL9 (cL9 (cR9 (cR9 hn)))))))))
  | 11, _ => exact Or.inl (cR9 (cL9 (cL9 (cL9 (cR9 (cL9 (cL9 (cR9 (cR9 hn)))))))))
  | 12, _ => exact Or.inl (cL9 (cR9 (cL9 (cL9 (cR9 (cL9 (cL9 (cR9 (cR9 hn)))))))))
  | 13, _ => exact Or.inl (cR9 (cR9 (cL9 (cL9 (cR9 (cL9 (cL9 (cR9 (cR9 hn)))))))))
  | 14, _ => exact Or.inl (cL9 (cL9 (cR9 (cL9 (cR9 (cL9 (cL9 (cR9 (cR9 hn)))))))))
  | 15, _ => exact Or.inl (cR9 (cL9 (cR9 (cL9 (cR9 (cL9 (cL9 (cR9 (cR9 hn)))))))))
  | 16, _ => exact Or.inl (cL9 (cR9 (cR9 (cL9 (cR9 (cL9 (cL9 (cR9 (cR9 hn)))))))))
  | 17, _ => exact Or.inl (cR9 (cR9 (cR9 (cR9 (cL9 (cR9 (cL9 (cL9 (cR9 (cR9 hn))))))))))
  | i + 18, hi => exact absurd hi (by omega)
set_option maxRecDepth 20000 in
theorem ev_ne19 {s : State} {b : Nat} (hn : narrow_1.before #[Value.ref b] s = true) : ∀ i : Nat, i < 19 → (Cond.not (Cond.eq (tmS i) (tmS 19))).before #[Value.ref b] s = true ∨ (Cond.not (Cond.eq (tmS 19) (tmS i))).before #[Value.ref b] s = true := by
  intro i hi
  match i, hi with
  | 0, _ => exact Or.inl (cL9 (cR9 (cR9 (cR9 (cR9 (cR9 (cL9 (cL9 (cR9 (cR9 hn))))))))))
  | 1, _ => exact Or.inl (cR9 (cR9 (cR9 (cR9 (cR9 (cR9 (cL9 (cL9 (cR9 (cR9 hn))))))))))
  | 2, _ => exact Or.inl (cL9 (cL9 (cL9 (cL9 (cL9 (cR9 (cL9 (cR9 (cR9 hn)))))))))
  | 3, _ => exact Or.inl (cR9 (cL9 (cL9 (cL9 (cL9 (cR9 (cL9 (cR9 (cR9 hn)))))))))
  | 4, _ => exact Or.inl (cL9 (cR9 (cL9 (cL9 (cL9 (cR9 (cL9 (cR9 (cR9 hn)))))))))
  | 5, _ => exact Or.inl (cR9 (cR9 (cL9 (cL9 (cL9 (cR9 (cL9 (cR9 (cR9 hn)))))))))
  | 6, _ => exact Or.inl (cL9 (cL9 (cR9 (cL9 (cL9 (cR9 (cL9 (cR9 (cR9 hn)))))))))
  | 7, _ => exact Or.inl (cR9 (cL9 (cR9 (cL9 (cL9 (cR9 (cL9 (cR9 (cR9 hn)))))))))
  | 8, _ => exact Or.inl (cL9 (cR9 (cR9 (cL9 (cL9 (cR9 (cL9 (cR9 (cR9 hn)))))))))
  | 9, _ => exact Or.inl (cR9 (cR9 (cR9 (cR9 (cL9 (cL9 (cR9 (cL9 (cR9 (cR9 hn))))))))))
  | 10, _ => exact Or.inl (cL9 (cL9 (cL9 (cR9 (cL9 (cR9 (cL9 (cR9 (cR9 hn)))))))))
  | 11, _ => exact Or.inl (cR9 (cL9 (cL9 (cR9 (cL9 (cR9 (cL9 (cR9 (cR9 hn)))))))))
  | 12, _ => exact Or.inl (cL9 (cR9 (cL9 (cR9 (cL9 (cR9 (cL9 (cR9 (cR9 hn)))))))))
  | 13, _ => exact Or.inl (cL9 (cR9 (cR9 (cL9 (cR9 (cL9 (cR9 (cL9 (cR9 (cR9 hn))))))))))
  | 14, _ => exact Or.inl (cR9 (cR9 (cR9 (cL9 (cR9 (cL9 (cR9 (cL9 (cR9 (cR9 hn))))))))))
  | 15, _ => exact Or.inl (cL9 (cL9 (cR9 (cR9 (cL9 (cR9 (cL9 (cR9 (cR9 hn)))))))))
  | 16, _ => exact Or.inl (cR9 (cL9 (cR9 (cR9 (cL9 (cR9 (cL9 (cR9 (cR9 hn)))))))))
  | 17, _ => exact Or.inl (cL9 (cR9 (cR9 (cR9 (cR9 (cL9 (cR9 (cL9 (cR9 (cR9 hn))))))))))
  | 18, _ => exact Or.inl (cR9 (cR9 (cR9 (cR9 (cR9 (cL9 (cR9 (cL9 (cR9 (cR9 hn))))))))))
  | i + 19, hi => exact absurd hi (by omega)
set_option maxRecDepth 20000 in
theorem ev_ne20 {s : State} {b : Nat} (hn : narrow_1.before #[Value.ref b] s = true) : ∀ i : Nat, i < 20 → (Cond.not (Cond.eq (tmS i) (tmS 20))).before #[Value.ref b] s = true ∨ (Cond.not (Cond.eq (tmS 20) (tmS i))).before #[Value.ref b] s = true := by
  intro i hi
  match i, hi with
  | 0, _ => exact Or.inl (cL9 (cL9 (cL9 (cR9 (cR9 (cR9 (cL9 (cR9 (cR9 hn)))))))))
  | 1, _ => exact Or.inl (cR9 (cL9 (cL9 (cR9 (cR9 (cR9 (cL9 (cR9 (cR9 hn)))))))))
  | 2, _ => exact Or.inl (cL9 (cR9 (cL9 (cR9 (cR9 (cR9 (cL9 (cR9 (cR9 hn)))))))))
  | 3, _ => exact Or.inl (cL9 (cR9 (cR9 (cL9 (cR9 (cR9 (cR9 (cL9 (cR9 (cR9 hn))))))))))
  | 4, _ => exact Or.inl (cR9 (cR9 (cR9 (cL9 (cR9 (cR9 (cR9 (cL9 (cR9 (cR9 hn))))))))))
  | 5, _ => exact Or.inl (cL9 (cL9 (cR9 (cR9 (cR9 (cR9 (cL9 (cR9 (cR9 hn)))))))))
  | 6, _ => exact Or.inl (cR9 (cL9 (cR9 (cR9 (cR9 (cR9 (cL9 (cR9 (cR9 hn)))))))))
  | 7, _ => exact Or.inl (cL9 (cR9 (cR9 (cR9 (cR9 (cR9 (cL9 (cR9 (cR9 hn)))))))))
  | 8, _ => exact Or.inl (cL9 (cR9 (cR9 (cR9 (cR9 (cR9 (cR9 (cL9 (cR9 (cR9 hn))))))))))
  | 9, _ => exact Or.inl (cL9 (cL9 (cL9 (cL9 (cL9 (cL9 (cR9 (cR9 (cR9 hn)))))))))
  | 10, _ => exact Or.inl (cR9 (cL9 (cL9 (cL9 (cL9 (cL9 (cR9 (cR9 (cR9 hn)))))))))
  | 11, _ => exact Or.inl (cL9 (cR9 (cL9 (cL9 (cL9 (cL9 (cR9 (cR9 (cR9 hn)))))))))
  | 12, _ => exact Or.inl (cR9 (cR9 (cL9 (cL9 (cL9 (cL9 (cR9 (cR9 (cR9 hn)))))))))
  | 13, _ => exact Or.inl (cL9 (cL9 (cR9 (cL9 (cL9 (cL9 (cR9 (cR9 (cR9 hn)))))))))
  | 14, _ => exact Or.inl (cR9 (cL9 (cR9 (cL9 (cL9 (cL9 (cR9 (cR9 (cR9 hn)))))))))
  | 15, _ => exact Or.inl (cL9 (cR9 (cR9 (cL9 (cL9 (cL9 (cR9 (cR9 (cR9 hn)))))))))
  | 16, _ => exact Or.inl (cL9 (cR9 (cR9 (cR9 (cL9 (cL9 (cL9 (cR9 (cR9 (cR9 hn))))))))))
  | 17, _ => exact Or.inl (cL9 (cL9 (cL9 (cR9 (cL9 (cL9 (cR9 (cR9 (cR9 hn)))))))))
  | 18, _ => exact Or.inl (cR9 (cL9 (cL9 (cR9 (cL9 (cL9 (cR9 (cR9 (cR9 hn)))))))))
  | 19, _ => exact Or.inl (cL9 (cR9 (cL9 (cR9 (cL9 (cL9 (cR9 (cR9 (cR9 hn)))))))))
  | i + 20, hi => exact absurd hi (by omega)
set_option maxRecDepth 20000 in
theorem ev_ne21 {s : State} {b : Nat} (hn : narrow_1.before #[Value.ref b] s = true) : ∀ i : Nat, i < 21 → (Cond.not (Cond.eq (tmS i) (tmS 21))).before #[Value.ref b] s = true ∨ (Cond.not (Cond.eq (tmS 21) (tmS i))).before #[Value.ref b] s = true := by
  intro i hi
  match i, hi with
  | 0, _ => exact Or.inl (cL9 (cR9 (cL9 (cL9 (cR9 (cL9 (cR9 (cR9 (cR9 hn)))))))))
  | 1, _ => exact Or.inl (cR9 (cR9 (cL9 (cL9 (cR9 (cL9 (cR9 (cR9 (cR9 hn)))))))))
  | 2, _ => exact Or.inl (cL9 (cL9 (cR9 (cL9 (cR9 (cL9 (cR9 (cR9 (cR9 hn)))))))))
  | 3, _ => exact Or.inl (cR9 (cL9 (cR9 (cL9 (cR9 (cL9 (cR9 (cR9 (cR9 hn)))))))))
  | 4, _ => exact Or.inl (cL9 (cR9 (cR9 (cL9 (cR9 (cL9 (cR9 (cR9 (cR9 hn)))))))))
  | 5, _ => exact Or.inl (cL9 (cR9 (cR9 (cR9 (cL9 (cR9 (cL9 (cR9 (cR9 (cR9 hn))))))))))
  | 6, _ => exact Or.inl (cR9 (cR9 (cR9 (cR9 (cL9 (cR9 (cL9 (cR9 (cR9 (cR9 hn))))))))))
  | 7, _ => exact Or.inl (cL9 (cL9 (cL9 (cR9 (cR9 (cL9 (cR9 (cR9 (cR9 hn)))))))))
  | 8, _ => exact Or.inl (cR9 (cL9 (cL9 (cR9 (cR9 (cL9 (cR9 (cR9 (cR9 hn)))))))))
  | 9, _ => exact Or.inl (cL9 (cR9 (cR9 (cL9 (cR9 (cR9 (cL9 (cR9 (cR9 (cR9 hn))))))))))
  | 10, _ => exact Or.inl (cR9 (cR9 (cR9 (cL9 (cR9 (cR9 (cL9 (cR9 (cR9 (cR9 hn))))))))))
  | 11, _ => exact Or.inl (cL9 (cL9 (cR9 (cR9 (cR9 (cL9 (cR9 (cR9 (cR9 hn)))))))))
  | 12, _ => exact Or.inl (cR9 (cL9 (cR9 (cR9 (cR9 (cL9 (cR9 (cR9 (cR9 hn)))))))))
  | 13, _ => exact Or.inl (cL9 (cR9 (cR9 (cR9 (cR9 (cL9 (cR9 (cR9 (cR9 hn)))))))))
  | 14, _ => exact Or.inl (cL9 (cR9 (cR9 (cR9 (cR9 (cR9 (cL9 (cR9 (cR9 (cR9 hn))))))))))
  | 15, _ => exact Or.inl (cR9 (cR9 (cR9 (cR9 (cR9 (cR9 (cL9 (cR9 (cR9 (cR9 hn))))))))))
  | 16, _ => exact Or.inl (cL9 (cL9 (cL9 (cL9 (cL9 (cR9 (cR9 (cR9 (cR9 hn)))))))))
  | 17, _ => exact Or.inl (cL9 (cR9 (cL9 (cL9 (cL9 (cR9 (cR9 (cR9 (cR9 hn)))))))))
  | 18, _ => exact Or.inl (cR9 (cR9 (cL9 (cL9 (cL9 (cR9 (cR9 (cR9 (cR9 hn)))))))))
  | 19, _ => exact Or.inl (cL9 (cL9 (cR9 (cL9 (cL9 (cR9 (cR9 (cR9 (cR9 hn)))))))))
  | 20, _ => exact Or.inl (cR9 (cL9 (cR9 (cL9 (cL9 (cR9 (cR9 (cR9 (cR9 hn)))))))))
  | i + 21, hi => exact absurd hi (by omega)
set_option maxRecDepth 20000 in
theorem ev_ne22 {s : State} {b : Nat} (hn : narrow_1.before #[Value.ref b] s = true) : ∀ i : Nat, i < 22 → (Cond.not (Cond.eq (tmS i) (tmS 22))).before #[Value.ref b] s = true ∨ (Cond.not (Cond.eq (tmS 22) (tmS i))).before #[Value.ref b] s = true := by
  intro i hi
  match i, hi with
  | 0, _ => exact Or.inl (cL9 (cL9 (cR9 (cR9 (cL9 (cR9 (cR9 (cR9 (cR9 hn)))))))))
  | 1, _ => exact Or.inl (cR9 (cL9 (cR9 (cR9 (cL9 (cR9 (cR9 (cR9 (cR9 hn)))))))))
  | 2, _ => exact Or.inl (cL9 (cR9 (cR9 (cR9 (cL9 (cR9 (cR9 (cR9 (cR9 hn)))))))))
  | 3, _ => exact Or.inl (cL9 (cR9 (cR9 (cR9 (cR9 (cL9 (cR9 (cR9 (cR9 (cR9 hn))))))))))
  | 4, _ => exact Or.inl (cR9 (cR9 (cR9 (cR9 (cR9 (cL9 (cR9 (cR9 (cR9 (cR9 hn))))))))))
  | 5, _ => exact Or.inl (cL9 (cL9 (cL9 (cL9 (cR9 (cR9 (cR9 (cR9 (cR9 hn)))))))))
  | 6, _ => exact Or.inl (cR9 (cL9 (cL9 (cL9 (cR9 (cR9 (cR9 (cR9 (cR9 hn)))))))))
  | 7, _ => exact Or.inl (cL9 (cR9 (cL9 (cL9 (cR9 (cR9 (cR9 (cR9 (cR9 hn)))))))))
  | 8, _ => exact Or.inl (cR9 (cR9 (cL9 (cL9 (cR9 (cR9 (cR9 (cR9 (cR9 hn)))))))))
  | 9, _ => exact Or.inl (cR9 (cL9 (cR9 (cL9 (cR9 (cR9 (cR9 (cR9 (cR9 hn)))))))))
  | 10, _ => exact Or.inl (cL9 (cR9 (cR9 (cL9 (cR9 (cR9 (cR9 (cR9 (cR9 hn)))))))))
  | 11, _ => exact Or.inl (cL9 (cR9 (cR9 (cR9 (cL9 (cR9 (cR9 (cR9 (cR9 (cR9 hn))))))))))
  | 12, _ => exact Or.inl (cR9 (cR9 (cR9 (cR9 (cL9 (cR9 (cR9 (cR9 (cR9 (cR9 hn))))))))))
  | 13, _ => exact Or.inl (cL9 (cL9 (cL9 (cR9 (cR9 (cR9 (cR9 (cR9 (cR9 hn)))))))))
  | 14, _ => exact Or.inl (cR9 (cL9 (cL9 (cR9 (cR9 (cR9 (cR9 (cR9 (cR9 hn)))))))))
  | 15, _ => exact Or.inl (cL9 (cR9 (cL9 (cR9 (cR9 (cR9 (cR9 (cR9 (cR9 hn)))))))))
  | 16, _ => exact Or.inl (cL9 (cR9 (cR9 (cL9 (cR9 (cR9 (cR9 (cR9 (cR9 (cR9 hn))))))))))
  | 17, _ => exact Or.inl (cL9 (cL9 (cR9 (cR9 (cR9 (cR9 (cR9 (cR9 (cR9 hn)))))))))
  | 18, _ => exact Or.inl (cR9 (cL9 (cR9 (cR9 (cR9 (cR9 (cR9 (cR9 (cR9 hn)))))))))
  | 19, _ => exact Or.inl (cL9 (cR9 (cR9 (cR9 (cR9 (cR9 (cR9 (cR9 (cR9 hn)))))))))
  | 20, _ => exact Or.inl (cL9 (cR9 (cR9 (cR9 (cR9 (cR9 (cR9 (cR9 (cR9 (cR9 hn))))))))))
  | 21, _ => exact Or.inl (cR9 (cR9 (cR9 (cR9 (cR9 (cR9 (cR9 (cR9 (cR9 (cR9 hn))))))))))
  | i + 22, hi => exact absurd hi (by omega)
set_option maxRecDepth 20000 in
theorem ev_lt {s : State} {b : Nat} (hn : narrow_1.before #[Value.ref b] s = true) : ∀ j : Nat, j < 23 → ∀ i : Nat, i < j → (Cond.not (Cond.eq (tmS i) (tmS j))).before #[Value.ref b] s = true ∨ (Cond.not (Cond.eq (tmS j) (tmS i))).before #[Value.ref b] s = true := by
  intro j hj
  match j, hj with
  | 0, _ => exact fun i hi => absurd hi (Nat.not_lt_zero i)
  | 1, _ => exact ev_ne1 hn
  | 2, _ => exact ev_ne2 hn
  | 3, _ => exact ev_ne3 hn
  | 4, _ => exact ev_ne4 hn
  | 5, _ => exact ev_ne5 hn
  | 6, _ => exact ev_ne6 hn
  | 7, _ => exact ev_ne7 hn
  | 8, _ => exact ev_ne8 hn
  | 9, _ => exact ev_ne9 hn
  | 10, _ => exact ev_ne10 hn
  | 11, _ => exact ev_ne11 hn
  | 12, _ => exact ev_ne12 hn
  | 13, _ => exact ev_ne13 hn
  | 14, _ => exact ev_ne14 hn
  | 15, _ => exact ev_ne15 hn
  | 16, _ => exact ev_ne16 hn
  | 17, _ => exact ev_ne17 hn
  | 18, _ => exact ev_ne18 hn
  | 19, _ => exact ev_ne19 hn
  | 20, _ => exact ev_ne20 hn
  | 21, _ => exact ev_ne21 hn
  | 22, _ => exact ev_ne22 hn
  | j + 23, hj => exact absurd hj (by omega)
theorem ev_ne {s : State} {b : Nat} (hn : narrow_1.before #[Value.ref b] s = true) : ∀ i j : Nat, i < 23 → j < 23 → i ≠ j → (Cond.not (Cond.eq (tmS i) (tmS j))).before #[Value.ref b] s = true ∨ (Cond.not (Cond.eq (tmS j) (tmS i))).before #[Value.ref b] s = true := fun i j hi hj h => by
  rcases Nat.lt_or_gt_of_ne h with h1 | h1
  · exact ev_lt hn j hj i h1
  · exact Or.symm (ev_lt hn i hi j h1)
set_option maxRecDepth 20000 in
theorem ev_start {s : State} {b : Nat} {A : Nat → Prop} (hts : ∀ w ∈ lw_tbl, w.before #[Value.ref b] s = true) (hgv : (Jvm.Cond.and given_1 narrow_1).before #[Value.ref b] s = true) (hA : ∀ a : Nat, a < s.heap.size → ¬ A a) : ∃ sk sv : Nat → Nat, wd_Ev sk sv A s s.heap := by
  have hn := cR9 hgv
  obtain ⟨sk, sv, hS, hev⟩ := vk_Sof (tm := tmS) (N := 23) (len := st_len) (byt := st_byt) (fun i hi => Nat.lt_trans (st_lt i hi) (by decide)) (ev_ex hn) (ev_co hn) (ev_ar hn) (ev_le hn) (ev_el hn) (ev_ne hn) hA
  refine ⟨sk, sv, hS, ?_, va_Zof (hts _ (tm_3 (List.mem_of_getElem? (i := 7) rfl))) (hts _ (tm_1 (List.mem_of_getElem? (i := 14) rfl))) (va_eqi (cL9 (cR9 (cL9 (cL9 (cL9 (cL9 (cL9 (cL9 (cL9 hn)))))))))) hA, va_Zqof (hts _ (tm_3 (List.mem_of_getElem? (i := 23) rfl))) (hts _ (tm_1 (List.mem_of_getElem? (i := 16) rfl))) (cR9 (cR9 (cL9 (cL9 (cL9 (cL9 (cL9 (cL9 (cL9 hn))))))))) hA⟩
  exact List.forall_mem_cons.mpr ⟨vk_R.of (hts _ (tm_2 (List.mem_of_getElem? (i := 224) rfl))) (hev 0 (by decide)), List.forall_mem_cons.mpr ⟨vk_R.of (hts _ (tm_3 (List.mem_of_getElem? (i := 53) rfl))) (hev 1 (by decide)), List.forall_mem_cons.mpr ⟨vk_R.of (hts _ (tm_3 (List.mem_of_getElem? (i := 58) rfl))) (hev 2 (by decide)), List.forall_mem_cons.mpr ⟨vk_R.of (hts _ (tm_3 (List.mem_of_getElem? (i := 75) rfl))) (hev 3 (by decide)), List.forall_mem_cons.mpr ⟨vk_R.of (hts _ (tm_3 (List.mem_of_getElem? (i := 92) rfl))) (hev 4 (by decide)), List.forall_mem_cons.mpr ⟨vk_R.of (hts _ (tm_3 (List.mem_of_getElem? (i := 104) rfl))) (hev 5 (by decide)), List.forall_mem_cons.mpr ⟨vk_R.of (hts _ (tm_5 (List.mem_of_getElem? (i := 122) rfl))) (hev 6 (by decide)), List.forall_mem_cons.mpr ⟨vk_R.of (hts _ (tm_5 (List.mem_of_getElem? (i := 123) rfl))) (hev 7 (by decide)), List.forall_mem_cons.mpr ⟨vk_R.of (hts _ (tm_5 (List.mem_of_getElem? (i := 124) rfl))) (hev 8 (by decide)), List.forall_mem_cons.mpr ⟨vk_R.of (hts _ (tm_5 (List.mem_of_getElem? (i := 131) rfl))) (va_eqR (cL9 (cR9 (cL9 (cL9 (cR9 (cR9 (cL9 (cR9 (cL9 hn))))))))) (hev 1 (by decide))), List.forall_mem_cons.mpr ⟨vk_R.of (hts _ (tm_5 (List.mem_of_getElem? (i := 140) rfl))) (hev 9 (by decide)), List.forall_mem_cons.mpr ⟨vk_R.of (hts _ (tm_5 (List.mem_of_getElem? (i := 141) rfl))) (hev 10 (by decide)), List.forall_mem_cons.mpr ⟨vk_R.of (hts _ (tm_5 (List.mem_of_getElem? (i := 142) rfl))) (hev 11 (by decide)), List.forall_mem_cons.mpr ⟨vk_R.of (hts _ (tm_5 (List.mem_of_getElem? (i := 143) rfl))) (hev 12 (by decide)), List.forall_mem_cons.mpr ⟨vk_R.of (hts _ (tm_5 (List.mem_of_getElem? (i := 144) rfl))) (hev 13 (by decide)), List.forall_mem_cons.mpr ⟨vk_R.of (hts _ (tm_5 (List.mem_of_getElem? (i := 145) rfl))) (hev 14 (by decide)), List.forall_mem_cons.mpr ⟨vk_R.of (hts _ (tm_5 (List.mem_of_getElem? (i := 146) rfl))) (hev 15 (by decide)), List.forall_mem_cons.mpr ⟨vk_R.of (hts _ (tm_5 (List.mem_of_getElem? (i := 147) rfl))) (hev 16 (by decide)), List.forall_mem_cons.mpr ⟨vk_R.of (hts _ (tm_5 (List.mem_of_getElem? (i := 152) rfl))) (va_eqR (cL9 (cR9 (cL9 (cR9 (cR9 (cL9 (cR9 (cL9 (cR9 hn))))))))) (hev 3 (by decide))), List.forall_mem_cons.mpr ⟨vk_R.of (hts _ (tm_5 (List.mem_of_getElem? (i := 165) rfl))) (hev 17 (by decide)), List.forall_mem_cons.mpr ⟨vk_R.of (hts _ (tm_5 (List.mem_of_getElem? (i := 166) rfl))) (hev 18 (by decide)), List.forall_mem_cons.mpr ⟨vk_R.of (hts _ (tm_5 (List.mem_of_getElem? (i := 167) rfl))) (hev 19 (by decide)), List.forall_mem_cons.mpr ⟨vk_R.of (hts _ (tm_5 (List.mem_of_getElem? (i := 172) rfl))) (hev 20 (by decide)), List.forall_mem_cons.mpr ⟨vk_R.of (hts _ (tm_5 (List.mem_of_getElem? (i := 173) rfl))) (hev 21 (by decide)), List.forall_mem_cons.mpr ⟨vk_R.of (hts _ (tm_5 (List.mem_of_getElem? (i := 174) rfl))) (hev 22 (by decide)), fun _ h => absurd h List.not_mem_nil⟩⟩⟩⟩⟩⟩⟩⟩⟩⟩⟩⟩⟩⟩⟩⟩⟩⟩⟩⟩⟩⟩⟩⟩⟩
