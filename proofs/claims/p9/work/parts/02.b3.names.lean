noncomputable abbrev cX11_init : ByteArray := prog_13_method_1_code
def yX11_init : MethodName := ⟨RX11, "<init>", "()V"⟩
noncomputable abbrev cX11_in : ByteArray := prog_13_method_3_code
def yX11_in : MethodName := ⟨RX11, "in", "(III)Z"⟩
noncomputable abbrev cX11_isTown : ByteArray := prog_13_method_4_code
def yX11_isTown : MethodName := ⟨RX11, "isTown", "(I)Z"⟩
noncomputable abbrev cX11_clock : ByteArray := prog_13_method_5_code
def yX11_clock : MethodName := ⟨RX11, "clock", "(I)Z"⟩
noncomputable abbrev cX11_way : ByteArray := prog_13_method_6_code
def yX11_way : MethodName := ⟨RX11, "way", "(IIZI)Z"⟩
noncomputable abbrev cX11_rate : ByteArray := prog_13_method_7_code
def yX11_rate : MethodName := ⟨RX11, "rate", "(III)Z"⟩
noncomputable abbrev cX11_sends : ByteArray := prog_13_method_8_code
def yX11_sends : MethodName := ⟨RX11, "sends", "(IZ)V"⟩
noncomputable abbrev cX11_makes : ByteArray := prog_13_method_9_code
def yX11_makes : MethodName := ⟨RX11, "makes", "(IIII)I"⟩
noncomputable abbrev cX11_book : ByteArray := prog_13_method_10_code
def yX11_book : MethodName := ⟨RX11, "book", "(IIII)I"⟩
noncomputable abbrev cX11_credit : ByteArray := prog_13_method_11_code
def yX11_credit : MethodName := ⟨RX11, "credit", "(III)I"⟩
noncomputable abbrev cX11_unlike : ByteArray := prog_13_method_12_code
def yX11_unlike : MethodName := ⟨RX11, "unlike", "(II)I"⟩
noncomputable abbrev cX11_advise : ByteArray := prog_13_method_13_code
def yX11_advise : MethodName := ⟨RX11, "advise", "(II)I"⟩
noncomputable abbrev cX11_lose : ByteArray := prog_13_method_14_code
def yX11_lose : MethodName := ⟨RX11, "lose", "(I)Z"⟩
noncomputable abbrev cX11_stop : ByteArray := prog_13_method_15_code
def yX11_stop : MethodName := ⟨RX11, "stop", "(III)I"⟩
noncomputable abbrev cX11_isAdvised : ByteArray := prog_13_method_16_code
def yX11_isAdvised : MethodName := ⟨RX11, "isAdvised", "(III)Z"⟩
noncomputable abbrev cX11_isStopped : ByteArray := prog_13_method_17_code
def yX11_isStopped : MethodName := ⟨RX11, "isStopped", "(IIII)Z"⟩
noncomputable abbrev cX11_comes : ByteArray := prog_13_method_18_code
def yX11_comes : MethodName := ⟨RX11, "comes", "(III)I"⟩
noncomputable abbrev cX11_feed : ByteArray := prog_13_method_19_code
def yX11_feed : MethodName := ⟨RX11, "feed", "(IIIII)I"⟩
noncomputable abbrev cX11_put : ByteArray := prog_13_method_20_code
def yX11_put : MethodName := ⟨RX11, "put", "(I)V"⟩
noncomputable abbrev cX11_end : ByteArray := prog_13_method_21_code
def yX11_end : MethodName := ⟨RX11, "end", "(I)I"⟩
noncomputable abbrev cX11_fails : ByteArray := prog_13_method_22_code
def yX11_fails : MethodName := ⟨RX11, "fails", "(II)V"⟩
noncomputable abbrev cX11_isEnd : ByteArray := prog_13_method_23_code
def yX11_isEnd : MethodName := ⟨RX11, "isEnd", "()Z"⟩
noncomputable abbrev cX11_isLetter : ByteArray := prog_13_method_24_code
def yX11_isLetter : MethodName := ⟨RX11, "isLetter", "()Z"⟩
noncomputable abbrev cX11_word : ByteArray := prog_13_method_25_code
def yX11_word : MethodName := ⟨RX11, "word", "()V"⟩
noncomputable abbrev cX11_is : ByteArray := prog_13_method_26_code
def yX11_is : MethodName := ⟨RX11, "is", "(Ljava/lang/String;)Z"⟩
noncomputable abbrev cX11_number : ByteArray := prog_13_method_27_code
def yX11_number : MethodName := ⟨RX11, "number", "(I)I"⟩
noncomputable abbrev cX11_nameOf : ByteArray := prog_13_method_28_code
def yX11_nameOf : MethodName := ⟨RX11, "nameOf", "(I)Ljava/lang/String;"⟩
noncomputable abbrev cX11_doingOf : ByteArray := prog_13_method_29_code
def yX11_doingOf : MethodName := ⟨RX11, "doingOf", "(I)Ljava/lang/String;"⟩
noncomputable abbrev cX11_rule : ByteArray := prog_13_method_30_code
def yX11_rule : MethodName := ⟨RX11, "rule", "(II)V"⟩
noncomputable abbrev cX11_cond : ByteArray := prog_13_method_31_code
def yX11_cond : MethodName := ⟨RX11, "cond", "(I)V"⟩
noncomputable abbrev cX11_text : ByteArray := prog_13_method_32_code
def yX11_text : MethodName := ⟨RX11, "text", "(I)I"⟩
noncomputable abbrev cX11_without : ByteArray := prog_13_method_33_code
def yX11_without : MethodName := ⟨RX11, "without", "(I)I"⟩
noncomputable abbrev cX11_begins : ByteArray := prog_13_method_34_code
def yX11_begins : MethodName := ⟨RX11, "begins", "()V"⟩
noncomputable abbrev cX11_kindOf : ByteArray := prog_13_method_35_code
def yX11_kindOf : MethodName := ⟨RX11, "kindOf", "(I)Ljava/lang/String;"⟩
noncomputable abbrev cX11_bearerOf : ByteArray := prog_13_method_36_code
def yX11_bearerOf : MethodName := ⟨RX11, "bearerOf", "(I)Ljava/lang/String;"⟩
noncomputable abbrev cX11_clause : ByteArray := prog_13_method_37_code
def yX11_clause : MethodName := ⟨RX11, "clause", "()V"⟩
noncomputable abbrev cX11_law : ByteArray := prog_13_method_38_code
def yX11_law : MethodName := ⟨RX11, "law", "()I"⟩
noncomputable abbrev cX11_told : ByteArray := prog_13_method_39_code
def yX11_told : MethodName := ⟨RX11, "told", "(IIIIII)I"⟩
noncomputable abbrev cX11_show : ByteArray := prog_13_method_40_code
def yX11_show : MethodName := ⟨RX11, "show", "(IIIIIZ)I"⟩
noncomputable abbrev cX11_send : ByteArray := prog_13_method_41_code
def yX11_send : MethodName := ⟨RX11, "send", "(II)I"⟩
noncomputable abbrev cX11_shown : ByteArray := prog_13_method_42_code
def yX11_shown : MethodName := ⟨RX11, "shown", "(II)I"⟩
noncomputable abbrev cX11_paper : ByteArray := prog_13_method_43_code
def yX11_paper : MethodName := ⟨RX11, "paper", "(II)I"⟩
noncomputable abbrev cX11_kindOf_ : ByteArray := prog_13_method_44_code
def yX11_kindOf_ : MethodName := ⟨RX11, "kindOf", "(II)I"⟩
noncomputable abbrev cX11_settle : ByteArray := prog_13_method_45_code
def yX11_settle : MethodName := ⟨RX11, "settle", "(I)I"⟩
noncomputable abbrev cX11_gift : ByteArray := prog_13_method_46_code
def yX11_gift : MethodName := ⟨RX11, "gift", "(IIJI)V"⟩
noncomputable abbrev cX11_nets : ByteArray := prog_13_method_47_code
def yX11_nets : MethodName := ⟨RX11, "nets", "()V"⟩
noncomputable abbrev cX11_settled : ByteArray := prog_13_method_48_code
def yX11_settled : MethodName := ⟨RX11, "settled", "(II)I"⟩
noncomputable abbrev cX11_due : ByteArray := prog_13_method_49_code
def yX11_due : MethodName := ⟨RX11, "due", "(I)J"⟩
noncomputable abbrev cX11_netted : ByteArray := prog_13_method_50_code
def yX11_netted : MethodName := ⟨RX11, "netted", "(II)J"⟩
noncomputable abbrev cX11_count : ByteArray := prog_13_method_51_code
def yX11_count : MethodName := ⟨RX11, "count", "(I)I"⟩
def RJ9 : String := "java/lang/Math"
def TJ9 : u_T := fun k => match k with
  | _ => ("", "", "", false)
def tyJ9 : Nat → FieldType := fun k => match k with
  | _ => .int
noncomputable abbrev wsJ90 : List Cond := u_ws RJ9 TJ9 0
theorem nmJ9 : ∀ a, a < 0 → ∀ b, b < 0 → a ≠ b → (TJ9 a).2.1 ≠ (TJ9 b).2.1 := by decide +kernel
theorem tyJ9_ok : ∀ k, k < 0 → parseFieldDescriptor (TJ9 k).2.2.1 = some (tyJ9 k) := by decide +kernel
noncomputable abbrev cJ9_abs_0f7a4 : ByteArray := prog_14_method_59_code
def yJ9_abs_0f7a4 : MethodName := ⟨RJ9, "abs", "(I)I"⟩
noncomputable abbrev cJ9_min_7cf53 : ByteArray := prog_14_method_69_code
def yJ9_min_7cf53 : MethodName := ⟨RJ9, "min", "(II)I"⟩
noncomputable abbrev cJ9_min_f86c9 : ByteArray := prog_14_method_70_code
def yJ9_min_f86c9 : MethodName := ⟨RJ9, "min", "(JJ)J"⟩
def RJ0 : String := "java/lang/String"
def TJ0 : u_T := fun k => match k with
  | _ => ("", "", "", false)
def tyJ0 : Nat → FieldType := fun k => match k with
  | _ => .int
noncomputable abbrev wsJ00 : List Cond := u_ws RJ0 TJ0 0
theorem nmJ0 : ∀ a, a < 0 → ∀ b, b < 0 → a ≠ b → (TJ0 a).2.1 ≠ (TJ0 b).2.1 := by decide +kernel
theorem tyJ0_ok : ∀ k, k < 0 → parseFieldDescriptor (TJ0 k).2.2.1 = some (tyJ0 k) := by decide +kernel
noncomputable abbrev cJ0_length_8abf5 : ByteArray := prog_15_method_54_code
def yJ0_length_8abf5 : MethodName := ⟨RJ0, "length", "()I"⟩
noncomputable abbrev cJ0_charAt_5068e : ByteArray := prog_15_method_56_code
def yJ0_charAt_5068e : MethodName := ⟨RJ0, "charAt", "(I)C"⟩
noncomputable abbrev cJ0_coder_7d493 : ByteArray := prog_15_method_152_code
def yJ0_coder_7d493 : MethodName := ⟨RJ0, "coder", "()B"⟩
noncomputable abbrev cJ0_isLatin1_aae02 : ByteArray := prog_15_method_154_code
def yJ0_isLatin1_aae02 : MethodName := ⟨RJ0, "isLatin1", "()Z"⟩
noncomputable abbrev cJ0_checkIndex_df160 : ByteArray := prog_15_method_155_code
def yJ0_checkIndex_df160 : MethodName := ⟨RJ0, "checkIndex", "(II)V"⟩
def RJ1 : String := "java/lang/StringLatin1"
def TJ1 : u_T := fun k => match k with
  | _ => ("", "", "", false)
def tyJ1 : Nat → FieldType := fun k => match k with
  | _ => .int
noncomputable abbrev wsJ10 : List Cond := u_ws RJ1 TJ1 0
theorem nmJ1 : ∀ a, a < 0 → ∀ b, b < 0 → a ≠ b → (TJ1 a).2.1 ≠ (TJ1 b).2.1 := by decide +kernel
theorem tyJ1_ok : ∀ k, k < 0 → parseFieldDescriptor (TJ1 k).2.2.1 = some (tyJ1 k) := by decide +kernel
noncomputable abbrev cJ1_charAt_3b067 : ByteArray := prog_16_method_2_code
def yJ1_charAt_3b067 : MethodName := ⟨RJ1, "charAt", "([BI)C"⟩
def RJ2 : String := "java/lang/StringUTF16"
def TJ2 : u_T := fun k => match k with
  | _ => ("", "", "", false)
def tyJ2 : Nat → FieldType := fun k => match k with
  | _ => .int
noncomputable abbrev wsJ20 : List Cond := u_ws RJ2 TJ2 0
theorem nmJ2 : ∀ a, a < 0 → ∀ b, b < 0 → a ≠ b → (TJ2 a).2.1 ≠ (TJ2 b).2.1 := by decide +kernel
theorem tyJ2_ok : ∀ k, k < 0 → parseFieldDescriptor (TJ2 k).2.2.1 = some (tyJ2 k) := by decide +kernel
noncomputable abbrev cJ2_getChar_3b067 : ByteArray := prog_17_method_5_code
def yJ2_getChar_3b067 : MethodName := ⟨RJ2, "getChar", "([BI)C"⟩
noncomputable abbrev cJ2_length_9d52b : ByteArray := prog_17_method_6_code
def yJ2_length_9d52b : MethodName := ⟨RJ2, "length", "([B)I"⟩
noncomputable abbrev cJ2_charAt_3b067 : ByteArray := prog_17_method_83_code
def yJ2_charAt_3b067 : MethodName := ⟨RJ2, "charAt", "([BI)C"⟩
noncomputable abbrev cJ2_checkIndex_2214a : ByteArray := prog_17_method_91_code
def yJ2_checkIndex_2214a : MethodName := ⟨RJ2, "checkIndex", "(I[B)V"⟩
def RJ10 : String := "java/lang/System"
def TJ10 : u_T := fun k => match k with
  | _ => ("", "", "", false)
def tyJ10 : Nat → FieldType := fun k => match k with
  | _ => .int
noncomputable abbrev wsJ100 : List Cond := u_ws RJ10 TJ10 0
theorem nmJ10 : ∀ a, a < 0 → ∀ b, b < 0 → a ≠ b → (TJ10 a).2.1 ≠ (TJ10 b).2.1 := by decide +kernel
theorem tyJ10_ok : ∀ k, k < 0 → parseFieldDescriptor (TJ10 k).2.2.1 = some (tyJ10 k) := by decide +kernel
def RJ7 : String := "java/util/Arrays"
def TJ7 : u_T := fun k => match k with
  | _ => ("", "", "", false)
def tyJ7 : Nat → FieldType := fun k => match k with
  | _ => .int
noncomputable abbrev wsJ70 : List Cond := u_ws RJ7 TJ7 0
theorem nmJ7 : ∀ a, a < 0 → ∀ b, b < 0 → a ≠ b → (TJ7 a).2.1 ≠ (TJ7 b).2.1 := by decide +kernel
theorem tyJ7_ok : ∀ k, k < 0 → parseFieldDescriptor (TJ7 k).2.2.1 = some (tyJ7 k) := by decide +kernel
noncomputable abbrev cJ7_fill_d0a16 : ByteArray := prog_19_method_101_code
def yJ7_fill_d0a16 : MethodName := ⟨RJ7, "fill", "([JJ)V"⟩
noncomputable abbrev cJ7_fill_53178 : ByteArray := prog_19_method_103_code
def yJ7_fill_53178 : MethodName := ⟨RJ7, "fill", "([II)V"⟩
def RJ3 : String := "jdk/internal/util/Preconditions"
def TJ3 : u_T := fun k => match k with
  | _ => ("", "", "", false)
def tyJ3 : Nat → FieldType := fun k => match k with
  | _ => .int
noncomputable abbrev wsJ30 : List Cond := u_ws RJ3 TJ3 0
theorem nmJ3 : ∀ a, a < 0 → ∀ b, b < 0 → a ≠ b → (TJ3 a).2.1 ≠ (TJ3 b).2.1 := by decide +kernel
theorem tyJ3_ok : ∀ k, k < 0 → parseFieldDescriptor (TJ3 k).2.2.1 = some (tyJ3 k) := by decide +kernel
noncomputable abbrev cJ3_checkIndex_8e157 : ByteArray := prog_20_method_11_code
def yJ3_checkIndex_8e157 : MethodName := ⟨RJ3, "checkIndex", "(IILjava/util/function/BiFunction;)I"⟩
def RL : String := "NoteHouseLaw"
noncomputable abbrev cL_law : ByteArray := code
def yL_law : MethodName := ⟨RL, "law", "([I)Z"⟩
