theorem tg_ne {tg : Nat → Nat} {a b s t : Nat} (h1 : tg b = s) (h2 : tg a = t) (n : s ≠ t) : b ≠ a := fun q => n (h1.symm.trans (q ▸ h2))
section STR
variable {p : Program} {l : Launch} {e : Env} {R : Room} {s : State} {m : MethodId} {args : Array Value} {below : List Frame} {meth : Method} {c : Code} {H : Heap} {locs : List Loc} {cells slots : Nat} {Q : State → Prop}
variable {cc : ByteArray} {pc nL : Nat} {ls : Array Slot} {rest : List Value} {D : va_G} {cy : Nat → ClassId} {sk sv : Nat → Nat} {A : Nat → Prop} {a : Nat} {w : Wd} {Ts : List Cond} {own : String}
theorem x_scod (F : wd_Fx p s m args meth c cc nL Ts own D cy sk sv A) (hS : va_S A s.heap H locs) {i index : Nat} (hi : i < 23) (hlink : Cond.fieldLink own index "java/lang/String" "coder" "B" ∈ Ts) (hdg : decode cc pc = .ok (.getfield index, 3)) (kk : W p l e R s m args below meth c H locs cells slots Q (F0 m (pc + 3) ls (.int 0 :: rest))) : W p l e R s m args below meth c H locs cells slots Q (F0 m pc ls (.ref (sk i) :: rest)) := by
  obtain ⟨⟨hx, hb, hml, hown, hts⟩, hG, hA, hlk, hEv⟩ := F
  exact vk_getf hx hb (hEv.1.1 i hi).2.1 hS hown (hts _ hlink) (fun _ h => h) hdg kk
theorem x_sval (F : wd_Fx p s m args meth c cc nL Ts own D cy sk sv A) (hS : va_S A s.heap H locs) {i index : Nat} (hi : i < 23) (hlink : Cond.fieldLink own index "java/lang/String" "value" "[B" ∈ Ts) (hdg : decode cc pc = .ok (.getfield index, 3)) (kk : W p l e R s m args below meth c H locs cells slots Q (F0 m (pc + 3) ls (.ref (sv i) :: rest))) : W p l e R s m args below meth c H locs cells slots Q (F0 m pc ls (.ref (sk i) :: rest)) := by
  obtain ⟨⟨hx, hb, hml, hown, hts⟩, hG, hA, hlk, hEv⟩ := F
  exact vk_getf hx hb (hEv.1.1 i hi).2.2.1 hS hown (hts _ hlink) (fun _ h => h) hdg kk
theorem x_slen (F : wd_Fx p s m args meth c cc nL Ts own D cy sk sv A) (hS : va_S A s.heap H locs) {i : Nat} (hi : i < 23) (hdg : decode cc pc = .ok (.arraylength, 1)) (kk : W p l e R s m args below meth c H locs cells slots Q (F0 m (pc + 1) ls (.int (nI (st_len.getD i 0)) :: rest))) : W p l e R s m args below meth c H locs cells slots Q (F0 m pc ls (.ref (sv i) :: rest)) := by
  obtain ⟨⟨hx, hb, hml, hown, hts⟩, hG, hA, hlk, hEv⟩ := F
  exact va_tlen hx hb (hEv.1.1 i hi).2.2.2 hS rfl hdg kk
theorem x_sbld (F : wd_Fx p s m args meth c cc nL Ts own D cy sk sv A) (hS : va_S A s.heap H locs) {i : Nat} (hi : i < 23) {k : Int32} (hk : vp_in k (st_len.getD i 0)) (hdg : decode cc pc = .ok (.baload, 1)) (kk : W p l e R s m args below meth c H locs cells slots Q (F0 m (pc + 1) ls (.int ((st_byt.getD i []).getD k.toNatClampNeg 0) :: rest))) : W p l e R s m args below meth c H locs cells slots Q (F0 m pc ls (.int k :: .ref (sv i) :: rest)) := by
  obtain ⟨⟨hx, hb, hml, hown, hts⟩, hG, hA, hlk, hEv⟩ := F
  exact va_tb hx hb (hEv.1.1 i hi).2.2.2 hS hk rfl hdg kk
theorem x_compact (F : wd_Fx p s m args meth c cc nL Ts own D cy sk sv A) (hS : va_S A s.heap H locs) {index : Nat} (hlink : Cond.fieldLink own index "java/lang/String" "COMPACT_STRINGS" "Z" ∈ Ts) (hdg : decode cc pc = .ok (.getstatic index, 3)) (kk : W p l e R s m args below meth c H locs cells slots Q (F0 m (pc + 3) ls (.int 1 :: rest))) : W p l e R s m args below meth c H locs cells slots Q (F0 m pc ls rest) := by
  obtain ⟨⟨hx, hb, hml, hown, hts⟩, hG, hA, hlk, hEv⟩ := F
  exact va_gets hx hb hEv.2.2.1 hS hown (hts _ hlink) (fun _ h => h) hdg kk
theorem x_siobe (F : wd_Fx p s m args meth c cc nL Ts own D cy sk sv A) (hS : va_S A s.heap H locs) {index : Nat} (hlink : Cond.fieldLink own index "jdk/internal/util/Preconditions" "SIOOBE_FORMATTER" "Ljava/util/function/BiFunction;" ∈ Ts) (hdg : decode cc pc = .ok (.getstatic index, 3)) (k1 : W p l e R s m args below meth c H locs cells slots Q (F0 m (pc + 3) ls (.null :: rest))) (k2 : ∀ t : Nat, W p l e R s m args below meth c H locs cells slots Q (F0 m (pc + 3) ls (.ref t :: rest))) : W p l e R s m args below meth c H locs cells slots Q (F0 m pc ls rest) := by
  obtain ⟨⟨hx, hb, hml, hown, hts⟩, hG, hA, hlk, hEv⟩ := F
  rcases hEv.2.2.2 with h | ⟨t, h⟩
  · exact va_gets hx hb h hS hown (hts _ hlink) (fun _ h => h) hdg k1
  · exact va_gets hx hb h hS hown (hts _ hlink) (fun _ h => h) hdg (k2 t)
theorem x_callVs (F : wd_Fx p s m args meth c cc nL Ts own D cy sk sv A) (hP : va_P D vwCl (wd_pl w) H) (hD : va_D A (wd_pl w)) (hS : va_S A s.heap H locs) {y : MethodName} {bytes : ByteArray} {maxL index n : Nat} {ret : Option FieldType} {wsm ws' : List Cond} {rm : Room} {As : List Value} {post : Option Value → Wd → Prop} {i : Nat} (hi : i < 23) (hM : Ct l D cy sk sv y wsm rm (.ref (sk i) :: As) w post) (hT : GoodIn Ts (wsV own index "java/lang/String" y wsm)) (hw : wsm = Cond.code y bytes maxL ret :: ws') (hC : y.cls = "java/lang/String") (hd : y.cls ≠ "java/lang/invoke/MethodHandle" ∧ y.cls ≠ "java/lang/invoke/VarHandle" ∧ (parseMethodDescriptor y.desc).map (fun d => d.parameters.length) = some n) (hR : rm.frames + 1 ≤ R.frames ∧ 8 + (maxL + 11) + rm.locals ≤ R.locals) (hn : As.length = n) (hls : ls.size = nL) (hrm : (rest.map fun v => v.category).sum ≤ 8) (hdg : decode cc pc = .ok (.invokevirtual index, 3)) {st0 : List Value} (hst : st0 = As.reverse ++ .ref (sk i) :: rest)
    (hroom : cells + rm.cells ≤ R.cells ∧ slots + rm.slots ≤ R.slots) (kk : ∀ (v : Option Value) (w1 : Wd), post v w1 → ∀ (H1 : Heap) (locs1 : List Loc), va_P D vwCl (wd_pl w1) H1 → va_D A (wd_pl w1) → va_S A s.heap H1 locs1 → W p l e R s m args below meth c H1 locs1 (cells + rm.cells) (slots + rm.slots) Q (F0 m (pc + 3) ls (v.toList ++ rest))) : W p l e R s m args below meth c H locs cells slots Q (F0 m pc ls st0) := by
  obtain ⟨hfix, hG, hA, hlk, hEv⟩ := F
  exact x_after hP hD hS hA rfl (va_runV (g := F0 m pc ls st0) hfix (hM H.size) (cwV n hfix.2.2.2.2 hT hw rfl rfl ⟨hC, hd⟩ hR) ⟨wd_P.blind, vk_recv hEv.1 hi hS, fun U hU hW => wd_P.met hP hD hS hA hG hEv U hU hW⟩ rfl hn hls hst (lv_room hrm) hdg hroom) kk
theorem x_ldcS (F : wd_Fx p s m args meth c cc nL Ts own D cy sk sv A) {i index : Nat} {tx : String} (hr : (own, index, tx, i) ∈ st_ref) (hdg : decode cc pc = .ok (.ldc index, 2)) (kk : W p l e R s m args below meth c H locs cells slots Q (F0 m (pc + 2) ls (.ref (sk i) :: rest))) : W p l e R s m args below meth c H locs cells slots Q (F0 m pc ls rest) := by
  obtain ⟨⟨hx, hb, hml, hown, hts⟩, hG, hA, hlk, hEv⟩ := F
  exact va_ldcS hx hb hown (hEv.2.1 _ hr) hdg kk
end STR
theorem st_lt : ∀ i, i < 23 → st_len.getD i 0 < 64 := by decide +kernel
theorem gd_all {P : Int32 → Prop} (h0 : P 0) (h : ∀ l ∈ st_byt, ∀ x ∈ l, P x) (i k : Nat) : P ((st_byt.getD i []).getD k 0) := by
  rw [List.getD_eq_getElem?_getD, List.getD_eq_getElem?_getD]
  cases e : st_byt[i]? with
  | none =>
    show P (([] : List Int32)[k]?.getD 0)
    rw [List.getElem?_nil]
    exact h0
  | some l =>
    show P (l[k]?.getD 0)
    cases e2 : l[k]? with
    | none => exact h0
    | some x => exact h l (List.mem_of_getElem? e) x (List.mem_of_getElem? e2)
theorem st_and : ∀ i, i < 23 → ∀ k, k < 64 → ((st_byt.getD i []).getD k 0 &&& 255) = (st_byt.getD i []).getD k 0 := fun i _ k _ => gd_all (P := fun x => (x &&& 255) = x) (by decide) (show ∀ l ∈ st_byt, ∀ x ∈ l, (x &&& 255) = x by decide +kernel) i k
theorem st_i2c (x : Int32) (h : x &&& 255 = x) : ((x &&& 255).toUInt32 % 65536).toInt32 = x := by rw [sc_c2]; exact h
theorem st_nc : ∀ i, i < 23 → ∀ k, k < 64 → narrow .char (.int ((st_byt.getD i []).getD k 0)) = .int ((st_byt.getD i []).getD k 0) := fun i _ k _ => gd_all (P := fun x => narrow .char (.int x) = .int x) (by decide) (show ∀ l ∈ st_byt, ∀ x ∈ l, narrow .char (.int x) = .int x by decide +kernel) i k
set_option maxHeartbeats 4000000 in
set_option maxRecDepth 100000 in
theorem g_coder (l : Launch) (D : va_G) (cy : Nat → ClassId) (sk sv : Nat → Nat) (w : Wd) (i : Nat)   (hi : i < 23) : Ct l D cy sk sv yJ0_coder_7d493 wsJ0_coder_7d493 ({ frames := 0, cells := 0, slots := 0, locals := 0 }) [.ref (sk i)] w (fun v w1 => v = some (.int 0) ∧ w = w1) := by
  refine Ct.by (cc := cJ0_coder_7d493) (maxL := 1) (ret := (some .byte)) (by decide +kernel) rfl (Nat.le_of_ble_eq_true rfl) ?_
  intro p e s m args below meth c A Q F hnm K ls hl
  have F : wd_Fx p s m args meth c cJ0_coder_7d493 1 wsJ0_coder_7d493 RJ0 D cy sk sv A := F
  have hl : lv_has ls 1 [(0, .ref (sk i))] := hl
  have hx := F.1.1
  have hb := F.1.2.1
  have hown := F.1.2.2.2.1
  have hts := F.1.2.2.2.2
  intro H locs hP hD hS
  refine x_compact F hS (List.mem_cons_of_mem _ (List.mem_of_getElem? (i := 0) rfl)) dJ0_coder_7d493_0 ?_
  refine lv_if_eq (tgt := 13) hx hb dJ0_coder_7d493_3 (by decide) (fun c_1 => absurd c_1 (show ¬ (1 : Int32) = (0 : Int32) by decide)) (fun c_1 => ?_)
  refine lv_aload_n hx hb dJ0_coder_7d493_6 rfl (lv_at hl 0 rfl) ?_
  refine x_scod F hS (i := i) (by omega) (List.mem_cons_of_mem _ (List.mem_of_getElem? (i := 1) rfl)) dJ0_coder_7d493_7 ?_
  refine lv_goto (tgt := 14) hx hb dJ0_coder_7d493_10 (by decide) ?_
  exact y_ir K hP hD hS (Nat.le_of_ble_eq_true rfl) (Nat.le_of_ble_eq_true rfl) (ty := .byte) rfl rfl dJ0_coder_7d493_14 (⟨rfl, rfl⟩)
set_option maxHeartbeats 4000000 in
set_option maxRecDepth 100000 in
theorem g_isLatin1 (l : Launch) (D : va_G) (cy : Nat → ClassId) (sk sv : Nat → Nat) (w : Wd) (i : Nat)   (hi : i < 23) : Ct l D cy sk sv yJ0_isLatin1_aae02 wsJ0_isLatin1_aae02 ({ frames := 0, cells := 0, slots := 0, locals := 0 }) [.ref (sk i)] w (fun v w1 => v = some (.int 1) ∧ w = w1) := by
  refine Ct.by (cc := cJ0_isLatin1_aae02) (maxL := 1) (ret := (some .boolean)) (by decide +kernel) rfl (Nat.le_of_ble_eq_true rfl) ?_
  intro p e s m args below meth c A Q F hnm K ls hl
  have F : wd_Fx p s m args meth c cJ0_isLatin1_aae02 1 wsJ0_isLatin1_aae02 RJ0 D cy sk sv A := F
  have hl : lv_has ls 1 [(0, .ref (sk i))] := hl
  have hx := F.1.1
  have hb := F.1.2.1
  have hown := F.1.2.2.2.1
  have hts := F.1.2.2.2.2
  intro H locs hP hD hS
  refine x_compact F hS (List.mem_cons_of_mem _ (List.mem_of_getElem? (i := 0) rfl)) dJ0_isLatin1_aae02_0 ?_
  refine lv_if_eq (tgt := 17) hx hb dJ0_isLatin1_aae02_3 (by decide) (fun c_1 => absurd c_1 (show ¬ (1 : Int32) = (0 : Int32) by decide)) (fun c_1 => ?_)
  refine lv_aload_n hx hb dJ0_isLatin1_aae02_6 rfl (lv_at hl 0 rfl) ?_
  refine x_scod F hS (i := i) (by omega) (List.mem_cons_of_mem _ (List.mem_of_getElem? (i := 1) rfl)) dJ0_isLatin1_aae02_7 ?_
  refine lv_if_ne (tgt := 17) hx hb dJ0_isLatin1_aae02_10 (by decide) (fun c_2 => absurd (show (0 : Int32) = (0 : Int32) by decide) c_2) (fun c_2 => ?_)
  refine lv_iconst (v := 1) hx hb dJ0_isLatin1_aae02_13 (by decide) ?_
  refine lv_goto (tgt := 18) hx hb dJ0_isLatin1_aae02_14 (by decide) ?_
  exact y_ir K hP hD hS (Nat.le_of_ble_eq_true rfl) (Nat.le_of_ble_eq_true rfl) (ty := .boolean) rfl rfl dJ0_isLatin1_aae02_18 (⟨rfl, rfl⟩)
set_option maxHeartbeats 4000000 in
set_option maxRecDepth 100000 in
theorem g_length (l : Launch) (D : va_G) (cy : Nat → ClassId) (sk sv : Nat → Nat) (w : Wd) (i : Nat)   (hi : i < 23) : Ct l D cy sk sv yJ0_length_8abf5 wsJ0_length_8abf5 ({ frames := 1, cells := 0, slots := 0, locals := 20 }) [.ref (sk i)] w (fun v w1 => v = some (.int (nI (st_len.getD i 0))) ∧ w = w1) := by
  refine Ct.by (cc := cJ0_length_8abf5) (maxL := 1) (ret := (some .int)) (by decide +kernel) rfl (Nat.le_of_ble_eq_true rfl) ?_
  intro p e s m args below meth c A Q F hnm K ls hl
  have F : wd_Fx p s m args meth c cJ0_length_8abf5 1 wsJ0_length_8abf5 RJ0 D cy sk sv A := F
  have hl : lv_has ls 1 [(0, .ref (sk i))] := hl
  have hx := F.1.1
  have hb := F.1.2.1
  have hown := F.1.2.2.2.1
  have hts := F.1.2.2.2.2
  intro H locs hP hD hS
  refine lv_aload_n hx hb dJ0_length_8abf5_0 rfl (lv_at hl 0 rfl) ?_
  refine x_sval F hS (i := i) (by omega) (List.mem_cons_of_mem _ (List.mem_of_getElem? (i := 0) rfl)) dJ0_length_8abf5_1 ?_
  refine x_slen F hS (i := i) (by omega) dJ0_length_8abf5_4 ?_
  refine lv_aload_n hx hb dJ0_length_8abf5_5 rfl (lv_at hl 0 rfl) ?_
  refine x_callVs (n := 0) (As := []) (rest := [.int (nI (st_len.getD i 0))]) F hP hD hS (by omega) (g_coder l D cy sk sv w i (by omega)) gJ0_length_8abf5_J0_coder_7d493 rfl rfl (by decide +kernel) ⟨(Nat.le_of_ble_eq_true rfl), (Nat.le_of_ble_eq_true rfl)⟩ rfl hl.1 (Nat.le_of_ble_eq_true rfl) dJ0_length_8abf5_6 rfl ⟨(Nat.le_of_ble_eq_true rfl), (Nat.le_of_ble_eq_true rfl)⟩ (fun v2 w3 hp1 H locs hP hD hS => ?_)
  obtain ⟨rfl, rfl⟩ := hp1
  refine W.eq (g2 := F0 m 9 ls [.int 0, .int (nI (st_len.getD i 0))]) rfl (W.widen (k := 0) (n := 0) (Nat.le_of_ble_eq_true rfl) (Nat.le_of_ble_eq_true rfl) ?_)
  refine lv_ishr hx hb dJ0_length_8abf5_9 ?_
  rw [show ((nI (st_len.getD i 0)) >>> (0 &&& 31) : Int32) = nI (st_len.getD i 0) from sc_shr0 (Nat.lt_trans (st_lt i hi) (by decide))]
  exact y_ir K hP hD hS (Nat.le_of_ble_eq_true rfl) (Nat.le_of_ble_eq_true rfl) (ty := .int) rfl rfl dJ0_length_8abf5_10 (⟨rfl, rfl⟩)
set_option maxHeartbeats 4000000 in
set_option maxRecDepth 100000 in
theorem g_chk3n (l : Launch) (D : va_G) (cy : Nat → ClassId) (sk sv : Nat → Nat) (w : Wd) (k n : Nat)   (hk : k < n) (hn : n < 64) : Ct l D cy sk sv yJ3_checkIndex_8e157 wsJ3_checkIndex_8e157 ({ frames := 0, cells := 0, slots := 0, locals := 0 }) [.int (nI k), .int (nI n), .null] w (fun v w1 => v = some (.int (nI k)) ∧ w = w1) := by
  refine Ct.by (cc := cJ3_checkIndex_8e157) (maxL := 3) (ret := (some .int)) (by decide +kernel) rfl (Nat.le_of_ble_eq_true rfl) ?_
  intro p e s m args below meth c A Q F hnm K ls hl
  have F : wd_Fx p s m args meth c cJ3_checkIndex_8e157 3 wsJ3_checkIndex_8e157 RJ3 D cy sk sv A := F
  have hl : lv_has ls 3 [(0, .int (nI k)), (1, .int (nI n)), (2, .null)] := hl
  have hx := F.1.1
  have hb := F.1.2.1
  have hown := F.1.2.2.2.1
  have hts := F.1.2.2.2.2
  intro H locs hP hD hS
  refine lv_iload_n hx hb dJ3_checkIndex_8e157_0 rfl (lv_at hl 0 rfl) ?_
  refine lv_if_lt (tgt := 9) hx hb dJ3_checkIndex_8e157_1 (by decide) (fun c_1 => absurd c_1 (nI_pos (by omega))) (fun c_1 => ?_)
  refine lv_iload_n hx hb dJ3_checkIndex_8e157_4 rfl (lv_at hl 0 rfl) ?_
  refine lv_iload_n hx hb dJ3_checkIndex_8e157_5 rfl (lv_at hl 1 rfl) ?_
  refine lv_icmp_lt (tgt := 16) hx hb dJ3_checkIndex_8e157_6 (by decide) (fun c_2 => ?_) (fun c_2 => absurd (nI_lt (by omega) (by omega)) c_2)
  refine lv_iload_n hx hb dJ3_checkIndex_8e157_16 rfl (lv_at hl 0 rfl) ?_
  exact y_ir K hP hD hS (Nat.le_of_ble_eq_true rfl) (Nat.le_of_ble_eq_true rfl) (ty := .int) rfl rfl dJ3_checkIndex_8e157_17 (⟨rfl, rfl⟩)
set_option maxHeartbeats 4000000 in
set_option maxRecDepth 100000 in
theorem g_chk3r (l : Launch) (D : va_G) (cy : Nat → ClassId) (sk sv : Nat → Nat) (w : Wd) (k n t : Nat)   (hk : k < n) (hn : n < 64) : Ct l D cy sk sv yJ3_checkIndex_8e157 wsJ3_checkIndex_8e157 ({ frames := 0, cells := 0, slots := 0, locals := 0 }) [.int (nI k), .int (nI n), .ref t] w (fun v w1 => v = some (.int (nI k)) ∧ w = w1) := by
  refine Ct.by (cc := cJ3_checkIndex_8e157) (maxL := 3) (ret := (some .int)) (by decide +kernel) rfl (Nat.le_of_ble_eq_true rfl) ?_
  intro p e s m args below meth c A Q F hnm K ls hl
  have F : wd_Fx p s m args meth c cJ3_checkIndex_8e157 3 wsJ3_checkIndex_8e157 RJ3 D cy sk sv A := F
  have hl : lv_has ls 3 [(0, .int (nI k)), (1, .int (nI n)), (2, .ref t)] := hl
  have hx := F.1.1
  have hb := F.1.2.1
  have hown := F.1.2.2.2.1
  have hts := F.1.2.2.2.2
  intro H locs hP hD hS
  refine lv_iload_n hx hb dJ3_checkIndex_8e157_0 rfl (lv_at hl 0 rfl) ?_
  refine lv_if_lt (tgt := 9) hx hb dJ3_checkIndex_8e157_1 (by decide) (fun c_1 => absurd c_1 (nI_pos (by omega))) (fun c_1 => ?_)
  refine lv_iload_n hx hb dJ3_checkIndex_8e157_4 rfl (lv_at hl 0 rfl) ?_
  refine lv_iload_n hx hb dJ3_checkIndex_8e157_5 rfl (lv_at hl 1 rfl) ?_
  refine lv_icmp_lt (tgt := 16) hx hb dJ3_checkIndex_8e157_6 (by decide) (fun c_2 => ?_) (fun c_2 => absurd (nI_lt (by omega) (by omega)) c_2)
  refine lv_iload_n hx hb dJ3_checkIndex_8e157_16 rfl (lv_at hl 0 rfl) ?_
  exact y_ir K hP hD hS (Nat.le_of_ble_eq_true rfl) (Nat.le_of_ble_eq_true rfl) (ty := .int) rfl rfl dJ3_checkIndex_8e157_17 (⟨rfl, rfl⟩)
set_option maxHeartbeats 4000000 in
set_option maxRecDepth 100000 in
theorem g_chk0 (l : Launch) (D : va_G) (cy : Nat → ClassId) (sk sv : Nat → Nat) (w : Wd) (k n : Nat)   (hk : k < n) (hn : n < 64) : Ct l D cy sk sv yJ0_checkIndex_df160 wsJ0_checkIndex_df160 ({ frames := 1, cells := 0, slots := 0, locals := 22 }) [.int (nI k), .int (nI n)] w (fun v w1 => v = none ∧ w = w1) := by
  refine Ct.by (cc := cJ0_checkIndex_df160) (maxL := 2) (ret := none) (by decide +kernel) rfl (Nat.le_of_ble_eq_true rfl) ?_
  intro p e s m args below meth c A Q F hnm K ls hl
  have F : wd_Fx p s m args meth c cJ0_checkIndex_df160 2 wsJ0_checkIndex_df160 RJ0 D cy sk sv A := F
  have hl : lv_has ls 2 [(0, .int (nI k)), (1, .int (nI n))] := hl
  have hx := F.1.1
  have hb := F.1.2.1
  have hown := F.1.2.2.2.1
  have hts := F.1.2.2.2.2
  intro H locs hP hD hS
  refine lv_iload_n hx hb dJ0_checkIndex_df160_0 rfl (lv_at hl 0 rfl) ?_
  refine lv_iload_n hx hb dJ0_checkIndex_df160_1 rfl (lv_at hl 1 rfl) ?_
  refine x_siobe F hS (List.mem_cons_of_mem _ (List.mem_of_getElem? (i := 0) rfl)) dJ0_checkIndex_df160_2 ?_ (fun t9 => ?_)
  · refine x_callS (n := 3) (As := [.int (nI k), .int (nI n), .null]) (rest := []) F hP hD hS (g_chk3n l D cy sk sv w k n (by omega) (by omega)) gJ0_checkIndex_df160_J3_checkIndex_8e157 rfl (by decide +kernel) ⟨(Nat.le_of_ble_eq_true rfl), (Nat.le_of_ble_eq_true rfl)⟩ rfl hl.1 (Nat.le_of_ble_eq_true rfl) dJ0_checkIndex_df160_5 rfl ⟨(Nat.le_of_ble_eq_true rfl), (Nat.le_of_ble_eq_true rfl)⟩ (fun v2 w3 hp1 H locs hP hD hS => ?_)
    obtain ⟨rfl, rfl⟩ := hp1
    refine W.eq (g2 := F0 m 8 ls [.int (nI k)]) rfl (W.widen (k := 0) (n := 0) (Nat.le_of_ble_eq_true rfl) (Nat.le_of_ble_eq_true rfl) ?_)
    refine lv_pop hx hb dJ0_checkIndex_df160_8 rfl ?_
    exact y_vr K hP hD hS (Nat.le_of_ble_eq_true rfl) (Nat.le_of_ble_eq_true rfl) rfl dJ0_checkIndex_df160_9 (⟨rfl, rfl⟩)
  · refine x_callS (n := 3) (As := [.int (nI k), .int (nI n), .ref t9]) (rest := []) F hP hD hS (g_chk3r l D cy sk sv w k n t9 (by omega) (by omega)) gJ0_checkIndex_df160_J3_checkIndex_8e157 rfl (by decide +kernel) ⟨(Nat.le_of_ble_eq_true rfl), (Nat.le_of_ble_eq_true rfl)⟩ rfl hl.1 (Nat.le_of_ble_eq_true rfl) dJ0_checkIndex_df160_5 rfl ⟨(Nat.le_of_ble_eq_true rfl), (Nat.le_of_ble_eq_true rfl)⟩ (fun v5 w6 hp4 H locs hP hD hS => ?_)
    obtain ⟨rfl, rfl⟩ := hp4
    refine W.eq (g2 := F0 m 8 ls [.int (nI k)]) rfl (W.widen (k := 0) (n := 0) (Nat.le_of_ble_eq_true rfl) (Nat.le_of_ble_eq_true rfl) ?_)
    refine lv_pop hx hb dJ0_checkIndex_df160_8 rfl ?_
    exact y_vr K hP hD hS (Nat.le_of_ble_eq_true rfl) (Nat.le_of_ble_eq_true rfl) rfl dJ0_checkIndex_df160_9 (⟨rfl, rfl⟩)
set_option maxHeartbeats 4000000 in
set_option maxRecDepth 100000 in
theorem g_lcharAt (l : Launch) (D : va_G) (cy : Nat → ClassId) (sk sv : Nat → Nat) (w : Wd) (i k : Nat)   (hi : i < 23) (hk : k < st_len.getD i 0) : Ct l D cy sk sv yJ1_charAt_3b067 wsJ1_charAt_3b067 ({ frames := 2, cells := 0, slots := 0, locals := 43 }) [.ref (sv i), .int (nI k)] w (fun v w1 => v = some (.int ((st_byt.getD i []).getD k 0)) ∧ w = w1) := by
  refine Ct.by (cc := cJ1_charAt_3b067) (maxL := 2) (ret := (some .char)) (by decide +kernel) rfl (Nat.le_of_ble_eq_true rfl) ?_
  intro p e s m args below meth c A Q F hnm K ls hl
  have F : wd_Fx p s m args meth c cJ1_charAt_3b067 2 wsJ1_charAt_3b067 RJ1 D cy sk sv A := F
  have hl : lv_has ls 2 [(0, .ref (sv i)), (1, .int (nI k))] := hl
  have hx := F.1.1
  have hb := F.1.2.1
  have hown := F.1.2.2.2.1
  have hts := F.1.2.2.2.2
  intro H locs hP hD hS
  have hlt := st_lt i hi
  refine lv_iload_n hx hb dJ1_charAt_3b067_0 rfl (lv_at hl 1 rfl) ?_
  refine lv_aload_n hx hb dJ1_charAt_3b067_1 rfl (lv_at hl 0 rfl) ?_
  refine x_slen F hS (i := i) (by omega) dJ1_charAt_3b067_2 ?_
  refine x_callS (n := 2) (As := [.int (nI k), .int (nI (st_len.getD i 0))]) (rest := []) F hP hD hS (g_chk0 l D cy sk sv w k (st_len.getD i 0) (by omega) (by omega)) gJ1_charAt_3b067_J0_checkIndex_df160 rfl (by decide +kernel) ⟨(Nat.le_of_ble_eq_true rfl), (Nat.le_of_ble_eq_true rfl)⟩ rfl hl.1 (Nat.le_of_ble_eq_true rfl) dJ1_charAt_3b067_3 rfl ⟨(Nat.le_of_ble_eq_true rfl), (Nat.le_of_ble_eq_true rfl)⟩ (fun v2 w3 hp1 H locs hP hD hS => ?_)
  obtain ⟨rfl, rfl⟩ := hp1
  refine W.eq (g2 := F0 m 6 ls []) rfl (W.widen (k := 0) (n := 0) (Nat.le_of_ble_eq_true rfl) (Nat.le_of_ble_eq_true rfl) ?_)
  refine lv_aload_n hx hb dJ1_charAt_3b067_6 rfl (lv_at hl 0 rfl) ?_
  refine lv_iload_n hx hb dJ1_charAt_3b067_7 rfl (lv_at hl 1 rfl) ?_
  refine x_sbld F hS (i := i) (by omega) (vp_in_nI hk (by omega)) dJ1_charAt_3b067_8 ?_
  rw [nI_clamp (n := k) (by have := st_lt i hi; omega)]
  refine lv_sipush (v := 255) hx hb dJ1_charAt_3b067_9 (by decide) ?_
  refine lv_iand hx hb dJ1_charAt_3b067_12 ?_
  refine lv_i2c (v := (st_byt.getD i []).getD k 0) hx hb dJ1_charAt_3b067_13 (st_i2c _ (st_and i hi k (by omega))) ?_
  exact y_ir K hP hD hS (Nat.le_of_ble_eq_true rfl) (Nat.le_of_ble_eq_true rfl) (ty := .char) rfl (st_nc i hi k (by omega)) dJ1_charAt_3b067_14 (⟨rfl, rfl⟩)
set_option maxHeartbeats 4000000 in
set_option maxRecDepth 100000 in
theorem g_charAt (l : Launch) (D : va_G) (cy : Nat → ClassId) (sk sv : Nat → Nat) (w : Wd) (i k : Nat)   (hi : i < 23) (hk : k < st_len.getD i 0) : Ct l D cy sk sv yJ0_charAt_5068e wsJ0_charAt_5068e ({ frames := 3, cells := 0, slots := 0, locals := 64 }) [.ref (sk i), .int (nI k)] w (fun v w1 => v = some (.int ((st_byt.getD i []).getD k 0)) ∧ w = w1) := by
  refine Ct.by (cc := cJ0_charAt_5068e) (maxL := 2) (ret := (some .char)) (by decide +kernel) rfl (Nat.le_of_ble_eq_true rfl) ?_
  intro p e s m args below meth c A Q F hnm K ls hl
  have F : wd_Fx p s m args meth c cJ0_charAt_5068e 2 wsJ0_charAt_5068e RJ0 D cy sk sv A := F
  have hl : lv_has ls 2 [(0, .ref (sk i)), (1, .int (nI k))] := hl
  have hx := F.1.1
  have hb := F.1.2.1
  have hown := F.1.2.2.2.1
  have hts := F.1.2.2.2.2
  intro H locs hP hD hS
  have hlt := st_lt i hi
  refine lv_aload_n hx hb dJ0_charAt_5068e_0 rfl (lv_at hl 0 rfl) ?_
  refine x_callVs (n := 0) (As := []) (rest := []) F hP hD hS (by omega) (g_isLatin1 l D cy sk sv w i (by omega)) gJ0_charAt_5068e_J0_isLatin1_aae02 rfl rfl (by decide +kernel) ⟨(Nat.le_of_ble_eq_true rfl), (Nat.le_of_ble_eq_true rfl)⟩ rfl hl.1 (Nat.le_of_ble_eq_true rfl) dJ0_charAt_5068e_1 rfl ⟨(Nat.le_of_ble_eq_true rfl), (Nat.le_of_ble_eq_true rfl)⟩ (fun v2 w3 hp1 H locs hP hD hS => ?_)
  obtain ⟨rfl, rfl⟩ := hp1
  refine W.eq (g2 := F0 m 4 ls [.int 1]) rfl (W.widen (k := 0) (n := 0) (Nat.le_of_ble_eq_true rfl) (Nat.le_of_ble_eq_true rfl) ?_)
  refine lv_if_eq (tgt := 16) hx hb dJ0_charAt_5068e_4 (by decide) (fun c_4 => absurd c_4 (show ¬ (1 : Int32) = (0 : Int32) by decide)) (fun c_4 => ?_)
  refine lv_aload_n hx hb dJ0_charAt_5068e_7 rfl (lv_at hl 0 rfl) ?_
  refine x_sval F hS (i := i) (by omega) (List.mem_cons_of_mem _ (List.mem_append_left _ (List.mem_of_getElem? (i := 0) rfl))) dJ0_charAt_5068e_8 ?_
  refine lv_iload_n hx hb dJ0_charAt_5068e_11 rfl (lv_at hl 1 rfl) ?_
  refine x_callS (n := 2) (As := [.ref (sv i), .int (nI k)]) (rest := []) F hP hD hS (g_lcharAt l D cy sk sv w i k (by omega) (by omega)) gJ0_charAt_5068e_J1_charAt_3b067 rfl (by decide +kernel) ⟨(Nat.le_of_ble_eq_true rfl), (Nat.le_of_ble_eq_true rfl)⟩ rfl hl.1 (Nat.le_of_ble_eq_true rfl) dJ0_charAt_5068e_12 rfl ⟨(Nat.le_of_ble_eq_true rfl), (Nat.le_of_ble_eq_true rfl)⟩ (fun v6 w7 hp5 H locs hP hD hS => ?_)
  obtain ⟨rfl, rfl⟩ := hp5
  refine W.eq (g2 := F0 m 15 ls [.int ((st_byt.getD i []).getD k 0)]) rfl (W.widen (k := 0) (n := 0) (Nat.le_of_ble_eq_true rfl) (Nat.le_of_ble_eq_true rfl) ?_)
  exact y_ir K hP hD hS (Nat.le_of_ble_eq_true rfl) (Nat.le_of_ble_eq_true rfl) (ty := .char) rfl (st_nc i hi k (by omega)) dJ0_charAt_5068e_15 (⟨rfl, rfl⟩)
def wi (n lo hi : Int32) : Int32 := if n < lo then 0 else if n ≤ hi then 1 else 0
theorem wi_b (n lo hi : Int32) : narrow .boolean (.int (wi n lo hi)) = .int (wi n lo hi) := by unfold wi; split; exact rfl; split <;> exact rfl
theorem wi_n {n lo hi : Int32} (h : ¬ wi n lo hi = 0) : ¬ n < lo ∧ n ≤ hi := by
  unfold wi at h
  by_cases h1 : n < lo
  · rw [if_pos h1] at h; exact absurd rfl h
  · rw [if_neg h1] at h
    by_cases h2 : n ≤ hi
    · exact ⟨h1, h2⟩
    · rw [if_neg h2] at h; exact absurd rfl h
theorem wi_t {n : Int32} (h : ¬ wi n 0 11 = 0) : ∃ j : Nat, j < 12 ∧ n = nI j ∧ n.toNatClampNeg = j := by
  obtain ⟨h1, h2⟩ := wi_n h
  obtain ⟨j, hj, rfl⟩ := nI_of2 (M := 11) (n := 11) (by decide) h1 h2
  exact ⟨j, by omega, rfl, nI_clamp (by omega)⟩
theorem wi_v {n : Int32} (h : ¬ wi n 0 11 = 0) : vp_in n 12 := by
  obtain ⟨j, hj, rfl, -⟩ := wi_t h
  exact vp_in_nI hj (by decide)
theorem wi_1 {n a b : Int32} (h : ¬ wi n a b = 0) : wi n a b = 1 := by
  obtain ⟨h1, h2⟩ := wi_n h
  unfold wi
  rw [if_neg h1, if_pos h2]
theorem ge12 {t : Int32} : 12 ≤ t ↔ ¬ t ≤ 11 := by
  rw [Int32.not_le, Int32.le_iff_toInt_le, Int32.lt_iff_toInt_lt]
  have h1 : (12 : Int32).toInt = 12 := by decide
  have h2 : (11 : Int32).toInt = 11 := by decide
  omega
set_option maxHeartbeats 4000000 in
set_option maxRecDepth 100000 in
theorem g_isWithin (l : Launch) (D : va_G) (cy : Nat → ClassId) (sk sv : Nat → Nat) (w : Wd) (x lo hi : Int32)    : Ct l D cy sk sv yX10_isWithin wsX10_isWithin ({ frames := 0, cells := 0, slots := 0, locals := 0 }) [.int x, .int lo, .int hi] w (fun v w1 => v = some (.int (wi x lo hi)) ∧ w = w1) := by
  refine Ct.by (cc := cX10_isWithin) (maxL := 3) (ret := (some .boolean)) (by decide +kernel) rfl (Nat.le_of_ble_eq_true rfl) ?_
  intro p e s m args below meth c A Q F hnm K ls hl
  have F : wd_Fx p s m args meth c cX10_isWithin 3 wsX10_isWithin RX10 D cy sk sv A := F
  have hl : lv_has ls 3 [(0, .int x), (1, .int lo), (2, .int hi)] := hl
  have hx := F.1.1
  have hb := F.1.2.1
  have hown := F.1.2.2.2.1
  have hts := F.1.2.2.2.2
  intro H locs hP hD hS
  refine lv_iload_n hx hb dX10_isWithin_0 rfl (lv_at hl 0 rfl) ?_
  refine lv_iload_n hx hb dX10_isWithin_1 rfl (lv_at hl 1 rfl) ?_
  refine lv_icmp_lt (tgt := 14) hx hb dX10_isWithin_2 (by decide) (fun c_1 => ?_) (fun c_1 => ?_)
  · refine lv_iconst (v := 0) hx hb dX10_isWithin_14 (by decide) ?_
    exact y_ir K hP hD hS (Nat.le_of_ble_eq_true rfl) (Nat.le_of_ble_eq_true rfl) (ty := .boolean) rfl rfl dX10_isWithin_15 (⟨by simp [wi, c_1], rfl⟩)
  · refine lv_iload_n hx hb dX10_isWithin_5 rfl (lv_at hl 0 rfl) ?_
    refine lv_iload_n hx hb dX10_isWithin_6 rfl (lv_at hl 2 rfl) ?_
    refine lv_icmp_gt (tgt := 14) hx hb dX10_isWithin_7 (by decide) (fun c_2 => ?_) (fun c_2 => ?_)
    · refine lv_iconst (v := 0) hx hb dX10_isWithin_14 (by decide) ?_
      exact y_ir K hP hD hS (Nat.le_of_ble_eq_true rfl) (Nat.le_of_ble_eq_true rfl) (ty := .boolean) rfl rfl dX10_isWithin_15 (⟨by simp [wi, c_1, c_2], rfl⟩)
    · refine lv_iconst (v := 1) hx hb dX10_isWithin_10 (by decide) ?_
      refine lv_goto (tgt := 15) hx hb dX10_isWithin_11 (by decide) ?_
      exact y_ir K hP hD hS (Nat.le_of_ble_eq_true rfl) (Nat.le_of_ble_eq_true rfl) (ty := .boolean) rfl rfl dX10_isWithin_15 (⟨by simp [wi, c_1, c_2], rfl⟩)
set_option maxHeartbeats 4000000 in
set_option maxRecDepth 100000 in
theorem g_in (l : Launch) (D : va_G) (cy : Nat → ClassId) (sk sv : Nat → Nat) (w : Wd) (x lo hi : Int32)    : Ct l D cy sk sv yX11_in wsX11_in ({ frames := 0, cells := 0, slots := 0, locals := 0 }) [.int x, .int lo, .int hi] w (fun v w1 => v = some (.int (wi x lo hi)) ∧ w = w1) := by
  refine Ct.by (cc := cX11_in) (maxL := 3) (ret := (some .boolean)) (by decide +kernel) rfl (Nat.le_of_ble_eq_true rfl) ?_
  intro p e s m args below meth c A Q F hnm K ls hl
  have F : wd_Fx p s m args meth c cX11_in 3 wsX11_in RX11 D cy sk sv A := F
  have hl : lv_has ls 3 [(0, .int x), (1, .int lo), (2, .int hi)] := hl
  have hx := F.1.1
  have hb := F.1.2.1
  have hown := F.1.2.2.2.1
  have hts := F.1.2.2.2.2
  intro H locs hP hD hS
  refine lv_iload_n hx hb dX11_in_0 rfl (lv_at hl 0 rfl) ?_
  refine lv_iload_n hx hb dX11_in_1 rfl (lv_at hl 1 rfl) ?_
  refine lv_icmp_lt (tgt := 14) hx hb dX11_in_2 (by decide) (fun c_1 => ?_) (fun c_1 => ?_)
  · refine lv_iconst (v := 0) hx hb dX11_in_14 (by decide) ?_
    exact y_ir K hP hD hS (Nat.le_of_ble_eq_true rfl) (Nat.le_of_ble_eq_true rfl) (ty := .boolean) rfl rfl dX11_in_15 (⟨by simp [wi, c_1], rfl⟩)
  · refine lv_iload_n hx hb dX11_in_5 rfl (lv_at hl 0 rfl) ?_
    refine lv_iload_n hx hb dX11_in_6 rfl (lv_at hl 2 rfl) ?_
    refine lv_icmp_gt (tgt := 14) hx hb dX11_in_7 (by decide) (fun c_2 => ?_) (fun c_2 => ?_)
    · refine lv_iconst (v := 0) hx hb dX11_in_14 (by decide) ?_
      exact y_ir K hP hD hS (Nat.le_of_ble_eq_true rfl) (Nat.le_of_ble_eq_true rfl) (ty := .boolean) rfl rfl dX11_in_15 (⟨by simp [wi, c_1, c_2], rfl⟩)
    · refine lv_iconst (v := 1) hx hb dX11_in_10 (by decide) ?_
      refine lv_goto (tgt := 15) hx hb dX11_in_11 (by decide) ?_
      exact y_ir K hP hD hS (Nat.le_of_ble_eq_true rfl) (Nat.le_of_ble_eq_true rfl) (ty := .boolean) rfl rfl dX11_in_15 (⟨by simp [wi, c_1, c_2], rfl⟩)
set_option maxHeartbeats 4000000 in
set_option maxRecDepth 100000 in
theorem g_isTown (l : Launch) (D : va_G) (cy : Nat → ClassId) (sk sv : Nat → Nat) (w : Wd) (x : Int32)    : Ct l D cy sk sv yX10_isTown wsX10_isTown ({ frames := 1, cells := 0, slots := 0, locals := 22 }) [.int x] w (fun v w1 => v = some (.int (wi x 0 11)) ∧ w = w1) := by
  refine Ct.by (cc := cX10_isTown) (maxL := 1) (ret := (some .boolean)) (by decide +kernel) rfl (Nat.le_of_ble_eq_true rfl) ?_
  intro p e s m args below meth c A Q F hnm K ls hl
  have F : wd_Fx p s m args meth c cX10_isTown 1 wsX10_isTown RX10 D cy sk sv A := F
  have hl : lv_has ls 1 [(0, .int x)] := hl
  have hx := F.1.1
  have hb := F.1.2.1
  have hown := F.1.2.2.2.1
  have hts := F.1.2.2.2.2
  intro H locs hP hD hS
  refine lv_iload_n hx hb dX10_isTown_0 rfl (lv_at hl 0 rfl) ?_
  refine lv_iconst (v := 0) hx hb dX10_isTown_1 (by decide) ?_
  refine lv_bipush (v := 11) hx hb dX10_isTown_2 (by decide) ?_
  refine x_callS (n := 3) (As := [.int x, .int 0, .int 11]) (rest := []) F hP hD hS (g_isWithin l D cy sk sv w x 0 11) gX10_isTown_X10_isWithin rfl (by decide +kernel) ⟨(Nat.le_of_ble_eq_true rfl), (Nat.le_of_ble_eq_true rfl)⟩ rfl hl.1 (Nat.le_of_ble_eq_true rfl) dX10_isTown_4 rfl ⟨(Nat.le_of_ble_eq_true rfl), (Nat.le_of_ble_eq_true rfl)⟩ (fun v2 w3 hp1 H locs hP hD hS => ?_)
  obtain ⟨rfl, rfl⟩ := hp1
  refine W.eq (g2 := F0 m 7 ls [.int (wi x 0 11)]) rfl (W.widen (k := 0) (n := 0) (Nat.le_of_ble_eq_true rfl) (Nat.le_of_ble_eq_true rfl) ?_)
  exact y_ir K hP hD hS (Nat.le_of_ble_eq_true rfl) (Nat.le_of_ble_eq_true rfl) (ty := .boolean) rfl (wi_b _ _ _) dX10_isTown_7 (⟨rfl, rfl⟩)
set_option maxHeartbeats 4000000 in
set_option maxRecDepth 100000 in
theorem g_isHand (l : Launch) (D : va_G) (cy : Nat → ClassId) (sk sv : Nat → Nat) (w : Wd) (x : Int32)    : Ct l D cy sk sv yX10_isHand wsX10_isHand ({ frames := 1, cells := 0, slots := 0, locals := 22 }) [.int x] w (fun v w1 => v = some (.int (wi x 0 99999)) ∧ w = w1) := by
  refine Ct.by (cc := cX10_isHand) (maxL := 1) (ret := (some .boolean)) (by decide +kernel) rfl (Nat.le_of_ble_eq_true rfl) ?_
  intro p e s m args below meth c A Q F hnm K ls hl
  have F : wd_Fx p s m args meth c cX10_isHand 1 wsX10_isHand RX10 D cy sk sv A := F
  have hl : lv_has ls 1 [(0, .int x)] := hl
  have hx := F.1.1
  have hb := F.1.2.1
  have hown := F.1.2.2.2.1
  have hts := F.1.2.2.2.2
  intro H locs hP hD hS
  refine lv_iload_n hx hb dX10_isHand_0 rfl (lv_at hl 0 rfl) ?_
  refine lv_iconst (v := 0) hx hb dX10_isHand_1 (by decide) ?_
  refine lv_ldcw (v := 99999) hx hb hown (hts _ (List.mem_cons_of_mem _ (List.mem_of_getElem? (i := 0) rfl))) dX10_isHand_2 ?_
  refine x_callS (n := 3) (As := [.int x, .int 0, .int 99999]) (rest := []) F hP hD hS (g_isWithin l D cy sk sv w x 0 99999) gX10_isHand_X10_isWithin rfl (by decide +kernel) ⟨(Nat.le_of_ble_eq_true rfl), (Nat.le_of_ble_eq_true rfl)⟩ rfl hl.1 (Nat.le_of_ble_eq_true rfl) dX10_isHand_5 rfl ⟨(Nat.le_of_ble_eq_true rfl), (Nat.le_of_ble_eq_true rfl)⟩ (fun v2 w3 hp1 H locs hP hD hS => ?_)
  obtain ⟨rfl, rfl⟩ := hp1
  refine W.eq (g2 := F0 m 8 ls [.int (wi x 0 99999)]) rfl (W.widen (k := 0) (n := 0) (Nat.le_of_ble_eq_true rfl) (Nat.le_of_ble_eq_true rfl) ?_)
  exact y_ir K hP hD hS (Nat.le_of_ble_eq_true rfl) (Nat.le_of_ble_eq_true rfl) (ty := .boolean) rfl (wi_b _ _ _) dX10_isHand_8 (⟨rfl, rfl⟩)
set_option maxHeartbeats 4000000 in
set_option maxRecDepth 100000 in
theorem g_mTown (l : Launch) (D : va_G) (cy : Nat → ClassId) (sk sv : Nat → Nat) (w : Wd) (x : Int32)    : Ct l D cy sk sv yX11_isTown wsX11_isTown ({ frames := 0, cells := 0, slots := 0, locals := 0 }) [.int x] w (fun v w1 => v = some (.int (wi x 0 11)) ∧ w = w1) := by
  refine Ct.by (cc := cX11_isTown) (maxL := 1) (ret := (some .boolean)) (by decide +kernel) rfl (Nat.le_of_ble_eq_true rfl) ?_
  intro p e s m args below meth c A Q F hnm K ls hl
  have F : wd_Fx p s m args meth c cX11_isTown 1 wsX11_isTown RX11 D cy sk sv A := F
  have hl : lv_has ls 1 [(0, .int x)] := hl
  have hx := F.1.1
  have hb := F.1.2.1
  have hown := F.1.2.2.2.1
  have hts := F.1.2.2.2.2
  intro H locs hP hD hS
  refine lv_iload_n hx hb dX11_isTown_0 rfl (lv_at hl 0 rfl) ?_
  refine lv_if_lt (tgt := 14) hx hb dX11_isTown_1 (by decide) (fun c_1 => ?_) (fun c_1 => ?_)
  · refine lv_iconst (v := 0) hx hb dX11_isTown_14 (by decide) ?_
    exact y_ir K hP hD hS (Nat.le_of_ble_eq_true rfl) (Nat.le_of_ble_eq_true rfl) (ty := .boolean) rfl rfl dX11_isTown_15 (⟨by simp [wi, c_1], rfl⟩)
  · refine lv_iload_n hx hb dX11_isTown_4 rfl (lv_at hl 0 rfl) ?_
    refine lv_bipush (v := 12) hx hb dX11_isTown_5 (by decide) ?_
    refine lv_icmp_ge (tgt := 14) hx hb dX11_isTown_7 (by decide) (fun c_2 => ?_) (fun c_2 => ?_)
    · refine lv_iconst (v := 0) hx hb dX11_isTown_14 (by decide) ?_
      exact y_ir K hP hD hS (Nat.le_of_ble_eq_true rfl) (Nat.le_of_ble_eq_true rfl) (ty := .boolean) rfl rfl dX11_isTown_15 (⟨by simp [wi, c_1, ge12.mp c_2], rfl⟩)
    · refine lv_iconst (v := 1) hx hb dX11_isTown_10 (by decide) ?_
      refine lv_goto (tgt := 15) hx hb dX11_isTown_11 (by decide) ?_
      exact y_ir K hP hD hS (Nat.le_of_ble_eq_true rfl) (Nat.le_of_ble_eq_true rfl) (ty := .boolean) rfl rfl dX11_isTown_15 (⟨by simp [wi, c_1, Classical.byContradiction (fun q => c_2 (ge12.mpr q))], rfl⟩)
